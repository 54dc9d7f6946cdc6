theorem dX11_in_0 : decode cX11_in 0 = .ok (.lload_n 0, 1) := by decide +kernel
theorem dX11_in_1 : decode cX11_in 1 = .ok (.lload_n 2, 1) := by decide +kernel
theorem dX11_in_2 : decode cX11_in 2 = .ok (.lcmp, 1) := by decide +kernel
theorem dX11_in_3 : decode cX11_in 3 = .ok (.ifCond .lt 14, 3) := by decide +kernel
theorem dX11_in_17 : decode cX11_in 17 = .ok (.iconst 0, 1) := by decide +kernel
theorem dX11_in_18 : decode cX11_in 18 = .ok (.ireturn, 1) := by decide +kernel
theorem dX11_in_6 : decode cX11_in 6 = .ok (.lload_n 0, 1) := by decide +kernel
theorem dX11_in_7 : decode cX11_in 7 = .ok (.lload 4, 2) := by decide +kernel
theorem dX11_in_9 : decode cX11_in 9 = .ok (.lcmp, 1) := by decide +kernel
theorem dX11_in_10 : decode cX11_in 10 = .ok (.ifCond .gt 7, 3) := by decide +kernel
theorem dX11_in_13 : decode cX11_in 13 = .ok (.iconst 1, 1) := by decide +kernel
theorem dX11_in_14 : decode cX11_in 14 = .ok (.goto 4, 3) := by decide +kernel
theorem dX11_bits_0 : decode cX11_bits 0 = .ok (.iconst 0, 1) := by decide +kernel
theorem dX11_bits_1 : decode cX11_bits 1 = .ok (.istore_n 1, 1) := by decide +kernel
theorem dX11_bits_2 : decode cX11_bits 2 = .ok (.iconst 0, 1) := by decide +kernel
theorem dX11_bits_3 : decode cX11_bits 3 = .ok (.istore_n 2, 1) := by decide +kernel
theorem dX11_bits_4 : decode cX11_bits 4 = .ok (.iload_n 2, 1) := by decide +kernel
theorem dX11_bits_5 : decode cX11_bits 5 = .ok (.bipush 8, 2) := by decide +kernel
theorem dX11_bits_7 : decode cX11_bits 7 = .ok (.if_icmp .ge 17, 3) := by decide +kernel
theorem dX11_bits_24 : decode cX11_bits 24 = .ok (.iload_n 1, 1) := by decide +kernel
theorem dX11_bits_25 : decode cX11_bits 25 = .ok (.ireturn, 1) := by decide +kernel
theorem dX11_bits_10 : decode cX11_bits 10 = .ok (.iload_n 1, 1) := by decide +kernel
theorem dX11_bits_11 : decode cX11_bits 11 = .ok (.iload_n 0, 1) := by decide +kernel
theorem dX11_bits_12 : decode cX11_bits 12 = .ok (.iload_n 2, 1) := by decide +kernel
theorem dX11_bits_13 : decode cX11_bits 13 = .ok (.ishr, 1) := by decide +kernel
theorem dX11_bits_14 : decode cX11_bits 14 = .ok (.iconst 1, 1) := by decide +kernel
theorem dX11_bits_15 : decode cX11_bits 15 = .ok (.iand, 1) := by decide +kernel
theorem dX11_bits_16 : decode cX11_bits 16 = .ok (.iadd, 1) := by decide +kernel
theorem dX11_bits_17 : decode cX11_bits 17 = .ok (.istore_n 1, 1) := by decide +kernel
theorem dX11_bits_18 : decode cX11_bits 18 = .ok (.iinc 2 1, 3) := by decide +kernel
theorem dX11_bits_21 : decode cX11_bits 21 = .ok (.goto (-17), 3) := by decide +kernel
theorem dX11_bit_0 : decode cX11_bit 0 = .ok (.iload_n 0, 1) := by decide +kernel
theorem dX11_bit_1 : decode cX11_bit 1 = .ok (.iload_n 1, 1) := by decide +kernel
theorem dX11_bit_2 : decode cX11_bit 2 = .ok (.ishr, 1) := by decide +kernel
theorem dX11_bit_3 : decode cX11_bit 3 = .ok (.iconst 1, 1) := by decide +kernel
theorem dX11_bit_4 : decode cX11_bit 4 = .ok (.iand, 1) := by decide +kernel
theorem dX11_bit_5 : decode cX11_bit 5 = .ok (.ireturn, 1) := by decide +kernel
theorem dX11_image_0 : decode cX11_image 0 = .ok (.iload_n 1, 1) := by decide +kernel
theorem dX11_image_1 : decode cX11_image 1 = .ok (.i2l, 1) := by decide +kernel
theorem dX11_image_2 : decode cX11_image 2 = .ok (.lconst 0, 1) := by decide +kernel
theorem dX11_image_3 : decode cX11_image 3 = .ok (.ldc2_w 77, 3) := by decide +kernel
theorem dX11_image_6 : decode cX11_image 6 = .ok (.invokestatic 79, 3) := by decide +kernel
theorem dX11_image_9 : decode cX11_image 9 = .ok (.ifCond .ne 6, 3) := by decide +kernel
theorem dX11_image_15 : decode cX11_image 15 = .ok (.iconst 0, 1) := by decide +kernel
theorem dX11_image_16 : decode cX11_image 16 = .ok (.istore_n 2, 1) := by decide +kernel
theorem dX11_image_17 : decode cX11_image 17 = .ok (.iload_n 2, 1) := by decide +kernel
theorem dX11_image_18 : decode cX11_image 18 = .ok (.sipush 144, 3) := by decide +kernel
theorem dX11_image_21 : decode cX11_image 21 = .ok (.if_icmp .ge 27, 3) := by decide +kernel
theorem dX11_image_48 : decode cX11_image 48 = .ok (.aload_n 0, 1) := by decide +kernel
theorem dX11_image_49 : decode cX11_image 49 = .ok (.getfield 16, 3) := by decide +kernel
theorem dX11_image_52 : decode cX11_image 52 = .ok (.iload_n 1, 1) := by decide +kernel
theorem dX11_image_53 : decode cX11_image 53 = .ok (.iconst 1, 1) := by decide +kernel
theorem dX11_image_54 : decode cX11_image 54 = .ok (.bastore, 1) := by decide +kernel
theorem dX11_image_55 : decode cX11_image 55 = .ok (.iconst 0, 1) := by decide +kernel
theorem dX11_image_56 : decode cX11_image 56 = .ok (.ireturn, 1) := by decide +kernel
theorem dX11_image_24 : decode cX11_image 24 = .ok (.aload_n 0, 1) := by decide +kernel
theorem dX11_image_25 : decode cX11_image 25 = .ok (.getfield 13, 3) := by decide +kernel
theorem dX11_image_28 : decode cX11_image 28 = .ok (.sipush 144, 3) := by decide +kernel
theorem dX11_image_31 : decode cX11_image 31 = .ok (.iload_n 1, 1) := by decide +kernel
theorem dX11_image_32 : decode cX11_image 32 = .ok (.imul, 1) := by decide +kernel
theorem dX11_image_33 : decode cX11_image 33 = .ok (.iload_n 2, 1) := by decide +kernel
theorem dX11_image_34 : decode cX11_image 34 = .ok (.iadd, 1) := by decide +kernel
theorem dX11_image_35 : decode cX11_image 35 = .ok (.aload_n 0, 1) := by decide +kernel
theorem dX11_image_36 : decode cX11_image 36 = .ok (.getfield 9, 3) := by decide +kernel
theorem dX11_image_39 : decode cX11_image 39 = .ok (.iload_n 2, 1) := by decide +kernel
theorem dX11_image_40 : decode cX11_image 40 = .ok (.iaload, 1) := by decide +kernel
theorem dX11_image_41 : decode cX11_image 41 = .ok (.iastore, 1) := by decide +kernel
theorem dX11_image_42 : decode cX11_image 42 = .ok (.iinc 2 1, 3) := by decide +kernel
theorem dX11_image_45 : decode cX11_image 45 = .ok (.goto (-28), 3) := by decide +kernel
theorem dX11_image_12 : decode cX11_image 12 = .ok (.bipush (-2), 2) := by decide +kernel
theorem dX11_image_14 : decode cX11_image 14 = .ok (.ireturn, 1) := by decide +kernel
theorem dX11_back_0 : decode cX11_back 0 = .ok (.iload_n 1, 1) := by decide +kernel
theorem dX11_back_1 : decode cX11_back 1 = .ok (.i2l, 1) := by decide +kernel
theorem dX11_back_2 : decode cX11_back 2 = .ok (.lconst 0, 1) := by decide +kernel
theorem dX11_back_3 : decode cX11_back 3 = .ok (.ldc2_w 77, 3) := by decide +kernel
theorem dX11_back_6 : decode cX11_back 6 = .ok (.invokestatic 79, 3) := by decide +kernel
theorem dX11_back_9 : decode cX11_back 9 = .ok (.ifCond .ne 6, 3) := by decide +kernel
theorem dX11_back_15 : decode cX11_back 15 = .ok (.aload_n 0, 1) := by decide +kernel
theorem dX11_back_16 : decode cX11_back 16 = .ok (.getfield 16, 3) := by decide +kernel
theorem dX11_back_19 : decode cX11_back 19 = .ok (.iload_n 1, 1) := by decide +kernel
theorem dX11_back_20 : decode cX11_back 20 = .ok (.baload, 1) := by decide +kernel
theorem dX11_back_21 : decode cX11_back 21 = .ok (.ifCond .ne 6, 3) := by decide +kernel
theorem dX11_back_27 : decode cX11_back 27 = .ok (.iconst 0, 1) := by decide +kernel
theorem dX11_back_28 : decode cX11_back 28 = .ok (.istore_n 2, 1) := by decide +kernel
theorem dX11_back_29 : decode cX11_back 29 = .ok (.iload_n 2, 1) := by decide +kernel
theorem dX11_back_30 : decode cX11_back 30 = .ok (.sipush 144, 3) := by decide +kernel
theorem dX11_back_33 : decode cX11_back 33 = .ok (.if_icmp .ge 27, 3) := by decide +kernel
theorem dX11_back_60 : decode cX11_back 60 = .ok (.iconst 0, 1) := by decide +kernel
theorem dX11_back_61 : decode cX11_back 61 = .ok (.ireturn, 1) := by decide +kernel
theorem dX11_back_36 : decode cX11_back 36 = .ok (.aload_n 0, 1) := by decide +kernel
theorem dX11_back_37 : decode cX11_back 37 = .ok (.getfield 9, 3) := by decide +kernel
theorem dX11_back_40 : decode cX11_back 40 = .ok (.iload_n 2, 1) := by decide +kernel
theorem dX11_back_41 : decode cX11_back 41 = .ok (.aload_n 0, 1) := by decide +kernel
theorem dX11_back_42 : decode cX11_back 42 = .ok (.getfield 13, 3) := by decide +kernel
theorem dX11_back_45 : decode cX11_back 45 = .ok (.sipush 144, 3) := by decide +kernel
theorem dX11_back_48 : decode cX11_back 48 = .ok (.iload_n 1, 1) := by decide +kernel
theorem dX11_back_49 : decode cX11_back 49 = .ok (.imul, 1) := by decide +kernel
theorem dX11_back_50 : decode cX11_back 50 = .ok (.iload_n 2, 1) := by decide +kernel
theorem dX11_back_51 : decode cX11_back 51 = .ok (.iadd, 1) := by decide +kernel
theorem dX11_back_52 : decode cX11_back 52 = .ok (.iaload, 1) := by decide +kernel
theorem dX11_back_53 : decode cX11_back 53 = .ok (.iastore, 1) := by decide +kernel
theorem dX11_back_54 : decode cX11_back 54 = .ok (.iinc 2 1, 3) := by decide +kernel
theorem dX11_back_57 : decode cX11_back 57 = .ok (.goto (-28), 3) := by decide +kernel
theorem dX11_back_24 : decode cX11_back 24 = .ok (.bipush (-6), 2) := by decide +kernel
theorem dX11_back_26 : decode cX11_back 26 = .ok (.ireturn, 1) := by decide +kernel
theorem dX11_back_12 : decode cX11_back 12 = .ok (.bipush (-2), 2) := by decide +kernel
theorem dX11_back_14 : decode cX11_back 14 = .ok (.ireturn, 1) := by decide +kernel
theorem dX11_isHouse_0 : decode cX11_isHouse 0 = .ok (.aload_n 0, 1) := by decide +kernel
theorem dX11_isHouse_1 : decode cX11_isHouse 1 = .ok (.getfield 9, 3) := by decide +kernel
theorem dX11_isHouse_4 : decode cX11_isHouse 4 = .ok (.bipush 6, 2) := by decide +kernel
theorem dX11_isHouse_6 : decode cX11_isHouse 6 = .ok (.iaload, 1) := by decide +kernel
theorem dX11_isHouse_7 : decode cX11_isHouse 7 = .ok (.ifCond .le 7, 3) := by decide +kernel
theorem dX11_isHouse_14 : decode cX11_isHouse 14 = .ok (.iconst 0, 1) := by decide +kernel
theorem dX11_isHouse_15 : decode cX11_isHouse 15 = .ok (.ireturn, 1) := by decide +kernel
theorem dX11_isHouse_10 : decode cX11_isHouse 10 = .ok (.iconst 1, 1) := by decide +kernel
theorem dX11_isHouse_11 : decode cX11_isHouse 11 = .ok (.goto 4, 3) := by decide +kernel
theorem dX11_isRoom_0 : decode cX11_isRoom 0 = .ok (.lload_n 1, 1) := by decide +kernel
theorem dX11_isRoom_1 : decode cX11_isRoom 1 = .ok (.lconst 0, 1) := by decide +kernel
theorem dX11_isRoom_2 : decode cX11_isRoom 2 = .ok (.aload_n 0, 1) := by decide +kernel
theorem dX11_isRoom_3 : decode cX11_isRoom 3 = .ok (.getfield 9, 3) := by decide +kernel
theorem dX11_isRoom_6 : decode cX11_isRoom 6 = .ok (.iconst 4, 1) := by decide +kernel
theorem dX11_isRoom_7 : decode cX11_isRoom 7 = .ok (.iaload, 1) := by decide +kernel
theorem dX11_isRoom_8 : decode cX11_isRoom 8 = .ok (.iconst 1, 1) := by decide +kernel
theorem dX11_isRoom_9 : decode cX11_isRoom 9 = .ok (.isub, 1) := by decide +kernel
theorem dX11_isRoom_10 : decode cX11_isRoom 10 = .ok (.i2l, 1) := by decide +kernel
theorem dX11_isRoom_11 : decode cX11_isRoom 11 = .ok (.invokestatic 79, 3) := by decide +kernel
theorem dX11_isRoom_14 : decode cX11_isRoom 14 = .ok (.ireturn, 1) := by decide +kernel
theorem dX11_isRoomOrNone_0 : decode cX11_isRoomOrNone 0 = .ok (.aload_n 0, 1) := by decide +kernel
theorem dX11_isRoomOrNone_1 : decode cX11_isRoomOrNone 1 = .ok (.invokevirtual 83, 3) := by decide +kernel
theorem dX11_isRoomOrNone_15 : decode cX11_isRoomOrNone 15 = .ok (.aload_n 0, 1) := by decide +kernel
theorem dX11_isRoomOrNone_16 : decode cX11_isRoomOrNone 16 = .ok (.lload_n 1, 1) := by decide +kernel
theorem dX11_isRoomOrNone_17 : decode cX11_isRoomOrNone 17 = .ok (.invokevirtual 89, 3) := by decide +kernel
theorem dX11_isRoomOrNone_20 : decode cX11_isRoomOrNone 20 = .ok (.ifCond .eq 7, 3) := by decide +kernel
theorem dX11_isRoomOrNone_27 : decode cX11_isRoomOrNone 27 = .ok (.iconst 0, 1) := by decide +kernel
theorem dX11_isRoomOrNone_28 : decode cX11_isRoomOrNone 28 = .ok (.ireturn, 1) := by decide +kernel
theorem dX11_isRoomOrNone_23 : decode cX11_isRoomOrNone 23 = .ok (.iconst 1, 1) := by decide +kernel
theorem dX11_isRoomOrNone_24 : decode cX11_isRoomOrNone 24 = .ok (.goto 4, 3) := by decide +kernel
theorem dX11_isRoomOrNone_4 : decode cX11_isRoomOrNone 4 = .ok (.ifCond .eq 11, 3) := by decide +kernel
theorem dX11_isRoomOrNone_7 : decode cX11_isRoomOrNone 7 = .ok (.lload_n 1, 1) := by decide +kernel
theorem dX11_isRoomOrNone_8 : decode cX11_isRoomOrNone 8 = .ok (.ldc2_w 87, 3) := by decide +kernel
theorem dX11_isRoomOrNone_11 : decode cX11_isRoomOrNone 11 = .ok (.lcmp, 1) := by decide +kernel
theorem dX11_isRoomOrNone_12 : decode cX11_isRoomOrNone 12 = .ok (.ifCond .eq 11, 3) := by decide +kernel
theorem dX11_isMan_0 : decode cX11_isMan 0 = .ok (.iload_n 1, 1) := by decide +kernel
theorem dX11_isMan_1 : decode cX11_isMan 1 = .ok (.i2l, 1) := by decide +kernel
theorem dX11_isMan_2 : decode cX11_isMan 2 = .ok (.lconst 0, 1) := by decide +kernel
theorem dX11_isMan_3 : decode cX11_isMan 3 = .ok (.aload_n 0, 1) := by decide +kernel
theorem dX11_isMan_4 : decode cX11_isMan 4 = .ok (.getfield 9, 3) := by decide +kernel
theorem dX11_isMan_7 : decode cX11_isMan 7 = .ok (.iconst 5, 1) := by decide +kernel
theorem dX11_isMan_8 : decode cX11_isMan 8 = .ok (.iaload, 1) := by decide +kernel
theorem dX11_isMan_9 : decode cX11_isMan 9 = .ok (.iconst 1, 1) := by decide +kernel
theorem dX11_isMan_10 : decode cX11_isMan 10 = .ok (.isub, 1) := by decide +kernel
theorem dX11_isMan_11 : decode cX11_isMan 11 = .ok (.i2l, 1) := by decide +kernel
theorem dX11_isMan_12 : decode cX11_isMan 12 = .ok (.invokestatic 79, 3) := by decide +kernel
theorem dX11_isMan_15 : decode cX11_isMan 15 = .ok (.ireturn, 1) := by decide +kernel
theorem dX11_areMen_0 : decode cX11_areMen 0 = .ok (.aload_n 0, 1) := by decide +kernel
theorem dX11_areMen_1 : decode cX11_areMen 1 = .ok (.invokevirtual 83, 3) := by decide +kernel
theorem dX11_areMen_4 : decode cX11_areMen 4 = .ok (.ifCond .eq 27, 3) := by decide +kernel
theorem dX11_areMen_31 : decode cX11_areMen 31 = .ok (.iconst 0, 1) := by decide +kernel
theorem dX11_areMen_32 : decode cX11_areMen 32 = .ok (.ireturn, 1) := by decide +kernel
theorem dX11_areMen_7 : decode cX11_areMen 7 = .ok (.iload_n 1, 1) := by decide +kernel
theorem dX11_areMen_8 : decode cX11_areMen 8 = .ok (.i2l, 1) := by decide +kernel
theorem dX11_areMen_9 : decode cX11_areMen 9 = .ok (.lconst 1, 1) := by decide +kernel
theorem dX11_areMen_10 : decode cX11_areMen 10 = .ok (.iconst 1, 1) := by decide +kernel
theorem dX11_areMen_11 : decode cX11_areMen 11 = .ok (.aload_n 0, 1) := by decide +kernel
theorem dX11_areMen_12 : decode cX11_areMen 12 = .ok (.getfield 9, 3) := by decide +kernel
theorem dX11_areMen_15 : decode cX11_areMen 15 = .ok (.iconst 5, 1) := by decide +kernel
theorem dX11_areMen_16 : decode cX11_areMen 16 = .ok (.iaload, 1) := by decide +kernel
theorem dX11_areMen_17 : decode cX11_areMen 17 = .ok (.ishl, 1) := by decide +kernel
theorem dX11_areMen_18 : decode cX11_areMen 18 = .ok (.iconst 1, 1) := by decide +kernel
theorem dX11_areMen_19 : decode cX11_areMen 19 = .ok (.isub, 1) := by decide +kernel
theorem dX11_areMen_20 : decode cX11_areMen 20 = .ok (.i2l, 1) := by decide +kernel
theorem dX11_areMen_21 : decode cX11_areMen 21 = .ok (.invokestatic 79, 3) := by decide +kernel
theorem dX11_areMen_24 : decode cX11_areMen 24 = .ok (.ifCond .eq 7, 3) := by decide +kernel
theorem dX11_areMen_27 : decode cX11_areMen 27 = .ok (.iconst 1, 1) := by decide +kernel
theorem dX11_areMen_28 : decode cX11_areMen 28 = .ok (.goto 4, 3) := by decide +kernel
theorem dX11_of_0 : decode cX11_of 0 = .ok (.aload_n 0, 1) := by decide +kernel
theorem dX11_of_1 : decode cX11_of 1 = .ok (.getfield 9, 3) := by decide +kernel
theorem dX11_of_4 : decode cX11_of 4 = .ok (.bipush 8, 2) := by decide +kernel
theorem dX11_of_6 : decode cX11_of 6 = .ok (.iconst 4, 1) := by decide +kernel
theorem dX11_of_7 : decode cX11_of 7 = .ok (.iload_n 1, 1) := by decide +kernel
theorem dX11_of_8 : decode cX11_of 8 = .ok (.imul, 1) := by decide +kernel
theorem dX11_of_9 : decode cX11_of 9 = .ok (.iadd, 1) := by decide +kernel
theorem dX11_of_10 : decode cX11_of 10 = .ok (.iload_n 2, 1) := by decide +kernel
theorem dX11_of_11 : decode cX11_of 11 = .ok (.iadd, 1) := by decide +kernel
theorem dX11_of_12 : decode cX11_of 12 = .ok (.iaload, 1) := by decide +kernel
theorem dX11_of_13 : decode cX11_of 13 = .ok (.ireturn, 1) := by decide +kernel
theorem dX11_ofMan_0 : decode cX11_ofMan 0 = .ok (.aload_n 0, 1) := by decide +kernel
theorem dX11_ofMan_1 : decode cX11_ofMan 1 = .ok (.getfield 9, 3) := by decide +kernel
theorem dX11_ofMan_4 : decode cX11_ofMan 4 = .ok (.bipush 36, 2) := by decide +kernel
theorem dX11_ofMan_6 : decode cX11_ofMan 6 = .ok (.bipush 8, 2) := by decide +kernel
theorem dX11_ofMan_8 : decode cX11_ofMan 8 = .ok (.iload_n 1, 1) := by decide +kernel
theorem dX11_ofMan_9 : decode cX11_ofMan 9 = .ok (.imul, 1) := by decide +kernel
theorem dX11_ofMan_10 : decode cX11_ofMan 10 = .ok (.iadd, 1) := by decide +kernel
theorem dX11_ofMan_11 : decode cX11_ofMan 11 = .ok (.iload_n 2, 1) := by decide +kernel
theorem dX11_ofMan_12 : decode cX11_ofMan 12 = .ok (.iadd, 1) := by decide +kernel
theorem dX11_ofMan_13 : decode cX11_ofMan 13 = .ok (.iaload, 1) := by decide +kernel
theorem dX11_ofMan_14 : decode cX11_ofMan 14 = .ok (.ireturn, 1) := by decide +kernel
theorem dX11_allRooms_0 : decode cX11_allRooms 0 = .ok (.iconst 1, 1) := by decide +kernel
theorem dX11_allRooms_1 : decode cX11_allRooms 1 = .ok (.aload_n 0, 1) := by decide +kernel
theorem dX11_allRooms_2 : decode cX11_allRooms 2 = .ok (.getfield 9, 3) := by decide +kernel
theorem dX11_allRooms_5 : decode cX11_allRooms 5 = .ok (.iconst 4, 1) := by decide +kernel
theorem dX11_allRooms_6 : decode cX11_allRooms 6 = .ok (.iaload, 1) := by decide +kernel
theorem dX11_allRooms_7 : decode cX11_allRooms 7 = .ok (.ishl, 1) := by decide +kernel
theorem dX11_allRooms_8 : decode cX11_allRooms 8 = .ok (.iconst 1, 1) := by decide +kernel
theorem dX11_allRooms_9 : decode cX11_allRooms 9 = .ok (.isub, 1) := by decide +kernel
theorem dX11_allRooms_10 : decode cX11_allRooms 10 = .ok (.ireturn, 1) := by decide +kernel
theorem dX11_feed_0 : decode cX11_feed 0 = .ok (.aload_n 0, 1) := by decide +kernel
theorem dX11_feed_1 : decode cX11_feed 1 = .ok (.getfield 93, 3) := by decide +kernel
theorem dX11_feed_4 : decode cX11_feed 4 = .ok (.bipush 20, 2) := by decide +kernel
theorem dX11_feed_6 : decode cX11_feed 6 = .ok (.iadd, 1) := by decide +kernel
theorem dX11_feed_7 : decode cX11_feed 7 = .ok (.sipush 900, 3) := by decide +kernel
theorem dX11_feed_10 : decode cX11_feed 10 = .ok (.if_icmp .le 5, 3) := by decide +kernel
theorem dX11_feed_15 : decode cX11_feed 15 = .ok (.aload_n 0, 1) := by decide +kernel
theorem dX11_feed_16 : decode cX11_feed 16 = .ok (.getfield 24, 3) := by decide +kernel
theorem dX11_feed_19 : decode cX11_feed 19 = .ok (.iconst 0, 1) := by decide +kernel
theorem dX11_feed_20 : decode cX11_feed 20 = .ok (.iload_n 1, 1) := by decide +kernel
theorem dX11_feed_21 : decode cX11_feed 21 = .ok (.iastore, 1) := by decide +kernel
theorem dX11_feed_22 : decode cX11_feed 22 = .ok (.aload_n 0, 1) := by decide +kernel
theorem dX11_feed_23 : decode cX11_feed 23 = .ok (.getfield 24, 3) := by decide +kernel
theorem dX11_feed_26 : decode cX11_feed 26 = .ok (.iconst 1, 1) := by decide +kernel
theorem dX11_feed_27 : decode cX11_feed 27 = .ok (.iload_n 2, 1) := by decide +kernel
theorem dX11_feed_28 : decode cX11_feed 28 = .ok (.iastore, 1) := by decide +kernel
theorem dX11_feed_29 : decode cX11_feed 29 = .ok (.aload_n 0, 1) := by decide +kernel
theorem dX11_feed_30 : decode cX11_feed 30 = .ok (.getfield 24, 3) := by decide +kernel
theorem dX11_feed_33 : decode cX11_feed 33 = .ok (.iconst 2, 1) := by decide +kernel
theorem dX11_feed_34 : decode cX11_feed 34 = .ok (.iload_n 3, 1) := by decide +kernel
theorem dX11_feed_35 : decode cX11_feed 35 = .ok (.iastore, 1) := by decide +kernel
theorem dX11_feed_36 : decode cX11_feed 36 = .ok (.aload_n 0, 1) := by decide +kernel
theorem dX11_feed_37 : decode cX11_feed 37 = .ok (.getfield 24, 3) := by decide +kernel
theorem dX11_feed_40 : decode cX11_feed 40 = .ok (.iconst 3, 1) := by decide +kernel
theorem dX11_feed_41 : decode cX11_feed 41 = .ok (.iload 4, 2) := by decide +kernel
theorem dX11_feed_43 : decode cX11_feed 43 = .ok (.iastore, 1) := by decide +kernel
theorem dX11_feed_44 : decode cX11_feed 44 = .ok (.aload_n 0, 1) := by decide +kernel
theorem dX11_feed_45 : decode cX11_feed 45 = .ok (.getfield 24, 3) := by decide +kernel
theorem dX11_feed_48 : decode cX11_feed 48 = .ok (.iconst 4, 1) := by decide +kernel
theorem dX11_feed_49 : decode cX11_feed 49 = .ok (.iload 5, 2) := by decide +kernel
theorem dX11_feed_51 : decode cX11_feed 51 = .ok (.iastore, 1) := by decide +kernel
theorem dX11_feed_52 : decode cX11_feed 52 = .ok (.iconst 0, 1) := by decide +kernel
theorem dX11_feed_53 : decode cX11_feed 53 = .ok (.istore 6, 2) := by decide +kernel
theorem dX11_feed_55 : decode cX11_feed 55 = .ok (.iload 6, 2) := by decide +kernel
theorem dX11_feed_57 : decode cX11_feed 57 = .ok (.bipush 20, 2) := by decide +kernel
theorem dX11_feed_59 : decode cX11_feed 59 = .ok (.if_icmp .ge 42, 3) := by decide +kernel
theorem dX11_feed_101 : decode cX11_feed 101 = .ok (.aload_n 0, 1) := by decide +kernel
theorem dX11_feed_102 : decode cX11_feed 102 = .ok (.dup, 1) := by decide +kernel
theorem dX11_feed_103 : decode cX11_feed 103 = .ok (.getfield 93, 3) := by decide +kernel
theorem dX11_feed_106 : decode cX11_feed 106 = .ok (.bipush 20, 2) := by decide +kernel
theorem dX11_feed_108 : decode cX11_feed 108 = .ok (.iadd, 1) := by decide +kernel
theorem dX11_feed_109 : decode cX11_feed 109 = .ok (.putfield 93, 3) := by decide +kernel
theorem dX11_feed_112 : decode cX11_feed 112 = .ok (.aload_n 0, 1) := by decide +kernel
theorem dX11_feed_113 : decode cX11_feed 113 = .ok (.getfield 93, 3) := by decide +kernel
theorem dX11_feed_116 : decode cX11_feed 116 = .ok (.ireturn, 1) := by decide +kernel
theorem dX11_feed_62 : decode cX11_feed 62 = .ok (.aload_n 0, 1) := by decide +kernel
theorem dX11_feed_63 : decode cX11_feed 63 = .ok (.getfield 20, 3) := by decide +kernel
theorem dX11_feed_66 : decode cX11_feed 66 = .ok (.aload_n 0, 1) := by decide +kernel
theorem dX11_feed_67 : decode cX11_feed 67 = .ok (.getfield 93, 3) := by decide +kernel
theorem dX11_feed_70 : decode cX11_feed 70 = .ok (.iload 6, 2) := by decide +kernel
theorem dX11_feed_72 : decode cX11_feed 72 = .ok (.iadd, 1) := by decide +kernel
theorem dX11_feed_73 : decode cX11_feed 73 = .ok (.aload_n 0, 1) := by decide +kernel
theorem dX11_feed_74 : decode cX11_feed 74 = .ok (.getfield 24, 3) := by decide +kernel
theorem dX11_feed_77 : decode cX11_feed 77 = .ok (.iload 6, 2) := by decide +kernel
theorem dX11_feed_79 : decode cX11_feed 79 = .ok (.iconst 4, 1) := by decide +kernel
theorem dX11_feed_80 : decode cX11_feed 80 = .ok (.idiv, 1) := by decide +kernel
theorem dX11_feed_81 : decode cX11_feed 81 = .ok (.iaload, 1) := by decide +kernel
theorem dX11_feed_82 : decode cX11_feed 82 = .ok (.bipush 24, 2) := by decide +kernel
theorem dX11_feed_84 : decode cX11_feed 84 = .ok (.bipush 8, 2) := by decide +kernel
theorem dX11_feed_86 : decode cX11_feed 86 = .ok (.iload 6, 2) := by decide +kernel
theorem dX11_feed_88 : decode cX11_feed 88 = .ok (.iconst 4, 1) := by decide +kernel
theorem dX11_feed_89 : decode cX11_feed 89 = .ok (.irem, 1) := by decide +kernel
theorem dX11_feed_90 : decode cX11_feed 90 = .ok (.imul, 1) := by decide +kernel
theorem dX11_feed_91 : decode cX11_feed 91 = .ok (.isub, 1) := by decide +kernel
theorem dX11_feed_92 : decode cX11_feed 92 = .ok (.ishr, 1) := by decide +kernel
theorem dX11_feed_93 : decode cX11_feed 93 = .ok (.i2b, 1) := by decide +kernel
theorem dX11_feed_94 : decode cX11_feed 94 = .ok (.bastore, 1) := by decide +kernel
theorem dX11_feed_95 : decode cX11_feed 95 = .ok (.iinc 6 1, 3) := by decide +kernel
theorem dX11_feed_98 : decode cX11_feed 98 = .ok (.goto (-43), 3) := by decide +kernel
theorem dX11_feed_13 : decode cX11_feed 13 = .ok (.iconst (-1), 1) := by decide +kernel
theorem dX11_feed_14 : decode cX11_feed 14 = .ok (.ireturn, 1) := by decide +kernel
theorem dX11_end_0 : decode cX11_end 0 = .ok (.iload_n 1, 1) := by decide +kernel
theorem dX11_end_1 : decode cX11_end 1 = .ok (.i2l, 1) := by decide +kernel
theorem dX11_end_2 : decode cX11_end 2 = .ok (.lconst 0, 1) := by decide +kernel
theorem dX11_end_3 : decode cX11_end 3 = .ok (.aload_n 0, 1) := by decide +kernel
theorem dX11_end_4 : decode cX11_end 4 = .ok (.getfield 93, 3) := by decide +kernel
theorem dX11_end_7 : decode cX11_end 7 = .ok (.i2l, 1) := by decide +kernel
theorem dX11_end_8 : decode cX11_end 8 = .ok (.invokestatic 79, 3) := by decide +kernel
theorem dX11_end_11 : decode cX11_end 11 = .ok (.ifCond .ne 5, 3) := by decide +kernel
theorem dX11_end_16 : decode cX11_end 16 = .ok (.aload_n 0, 1) := by decide +kernel
theorem dX11_end_17 : decode cX11_end 17 = .ok (.iload_n 1, 1) := by decide +kernel
theorem dX11_end_18 : decode cX11_end 18 = .ok (.putfield 93, 3) := by decide +kernel
theorem dX11_end_21 : decode cX11_end 21 = .ok (.iload_n 1, 1) := by decide +kernel
theorem dX11_end_22 : decode cX11_end 22 = .ok (.ireturn, 1) := by decide +kernel
theorem dX11_end_14 : decode cX11_end 14 = .ok (.iconst (-1), 1) := by decide +kernel
theorem dX11_end_15 : decode cX11_end 15 = .ok (.ireturn, 1) := by decide +kernel
theorem dX11_see_0 : decode cX11_see 0 = .ok (.iload_n 1, 1) := by decide +kernel
theorem dX11_see_1 : decode cX11_see 1 = .ok (.aload_n 0, 1) := by decide +kernel
theorem dX11_see_2 : decode cX11_see 2 = .ok (.getfield 96, 3) := by decide +kernel
theorem dX11_see_5 : decode cX11_see 5 = .ok (.if_icmp .ge 16, 3) := by decide +kernel
theorem dX11_see_21 : decode cX11_see 21 = .ok (.iconst (-1), 1) := by decide +kernel
theorem dX11_see_22 : decode cX11_see 22 = .ok (.ireturn, 1) := by decide +kernel
theorem dX11_see_8 : decode cX11_see 8 = .ok (.aload_n 0, 1) := by decide +kernel
theorem dX11_see_9 : decode cX11_see 9 = .ok (.getfield 20, 3) := by decide +kernel
theorem dX11_see_12 : decode cX11_see 12 = .ok (.iload_n 1, 1) := by decide +kernel
theorem dX11_see_13 : decode cX11_see 13 = .ok (.baload, 1) := by decide +kernel
theorem dX11_see_14 : decode cX11_see 14 = .ok (.sipush 255, 3) := by decide +kernel
theorem dX11_see_17 : decode cX11_see 17 = .ok (.iand, 1) := by decide +kernel
theorem dX11_see_18 : decode cX11_see 18 = .ok (.goto 4, 3) := by decide +kernel
theorem dX11_good_0 : decode cX11_good 0 = .ok (.aload_n 0, 1) := by decide +kernel
theorem dX11_good_1 : decode cX11_good 1 = .ok (.getfield 130, 3) := by decide +kernel
theorem dX11_good_4 : decode cX11_good 4 = .ok (.ifCond .ne 7, 3) := by decide +kernel
theorem dX11_good_11 : decode cX11_good 11 = .ok (.iconst 0, 1) := by decide +kernel
theorem dX11_good_12 : decode cX11_good 12 = .ok (.ireturn, 1) := by decide +kernel
theorem dX11_good_7 : decode cX11_good 7 = .ok (.iconst 1, 1) := by decide +kernel
theorem dX11_good_8 : decode cX11_good 8 = .ok (.goto 4, 3) := by decide +kernel
theorem dX11_errs_0 : decode cX11_errs 0 = .ok (.aload_n 0, 1) := by decide +kernel
theorem dX11_errs_1 : decode cX11_errs 1 = .ok (.invokevirtual 133, 3) := by decide +kernel
theorem dX11_errs_4 : decode cX11_errs 4 = .ok (.ifCond .ne 4, 3) := by decide +kernel
theorem dX11_errs_8 : decode cX11_errs 8 = .ok (.aload_n 0, 1) := by decide +kernel
theorem dX11_errs_9 : decode cX11_errs 9 = .ok (.iload_n 1, 1) := by decide +kernel
theorem dX11_errs_10 : decode cX11_errs 10 = .ok (.putfield 130, 3) := by decide +kernel
theorem dX11_errs_13 : decode cX11_errs 13 = .ok (.aload_n 0, 1) := by decide +kernel
theorem dX11_errs_14 : decode cX11_errs 14 = .ok (.aload_n 0, 1) := by decide +kernel
theorem dX11_errs_15 : decode cX11_errs 15 = .ok (.getfield 106, 3) := by decide +kernel
theorem dX11_errs_18 : decode cX11_errs 18 = .ok (.putfield 27, 3) := by decide +kernel
theorem dX11_errs_21 : decode cX11_errs 21 = .ok (.return_, 1) := by decide +kernel
theorem dX11_errs_7 : decode cX11_errs 7 = .ok (.return_, 1) := by decide +kernel
theorem dX11_fault_0 : decode cX11_fault 0 = .ok (.iload_n 1, 1) := by decide +kernel
theorem dX11_fault_1 : decode cX11_fault 1 = .ok (.ifCond .ne 10, 3) := by decide +kernel
theorem dX11_fault_11 : decode cX11_fault 11 = .ok (.iload_n 1, 1) := by decide +kernel
theorem dX11_fault_12 : decode cX11_fault 12 = .ok (.iconst 1, 1) := by decide +kernel
theorem dX11_fault_13 : decode cX11_fault 13 = .ok (.if_icmp .ne 10, 3) := by decide +kernel
theorem dX11_fault_23 : decode cX11_fault 23 = .ok (.iconst (-1), 1) := by decide +kernel
theorem dX11_fault_24 : decode cX11_fault 24 = .ok (.ireturn, 1) := by decide +kernel
theorem dX11_fault_16 : decode cX11_fault 16 = .ok (.aload_n 0, 1) := by decide +kernel
theorem dX11_fault_17 : decode cX11_fault 17 = .ok (.getfield 27, 3) := by decide +kernel
theorem dX11_fault_20 : decode cX11_fault 20 = .ok (.goto 4, 3) := by decide +kernel
theorem dX11_fault_4 : decode cX11_fault 4 = .ok (.aload_n 0, 1) := by decide +kernel
theorem dX11_fault_5 : decode cX11_fault 5 = .ok (.getfield 130, 3) := by decide +kernel
theorem dX11_fault_8 : decode cX11_fault 8 = .ok (.goto 16, 3) := by decide +kernel
theorem dX11_room_0 : decode cX11_room 0 = .ok (.aload_n 0, 1) := by decide +kernel
theorem dX11_room_1 : decode cX11_room 1 = .ok (.iload_n 1, 1) := by decide +kernel
theorem dX11_room_2 : decode cX11_room 2 = .ok (.i2l, 1) := by decide +kernel
theorem dX11_room_3 : decode cX11_room 3 = .ok (.invokevirtual 89, 3) := by decide +kernel
theorem dX11_room_6 : decode cX11_room 6 = .ok (.ifCond .eq 24, 3) := by decide +kernel
theorem dX11_room_30 : decode cX11_room 30 = .ok (.bipush (-2), 2) := by decide +kernel
theorem dX11_room_32 : decode cX11_room 32 = .ok (.ireturn, 1) := by decide +kernel
theorem dX11_room_9 : decode cX11_room 9 = .ok (.iload_n 2, 1) := by decide +kernel
theorem dX11_room_10 : decode cX11_room 10 = .ok (.i2l, 1) := by decide +kernel
theorem dX11_room_11 : decode cX11_room 11 = .ok (.lconst 0, 1) := by decide +kernel
theorem dX11_room_12 : decode cX11_room 12 = .ok (.ldc2_w 225, 3) := by decide +kernel
theorem dX11_room_15 : decode cX11_room 15 = .ok (.invokestatic 79, 3) := by decide +kernel
theorem dX11_room_18 : decode cX11_room 18 = .ok (.ifCond .eq 12, 3) := by decide +kernel
theorem dX11_room_21 : decode cX11_room 21 = .ok (.aload_n 0, 1) := by decide +kernel
theorem dX11_room_22 : decode cX11_room 22 = .ok (.iload_n 1, 1) := by decide +kernel
theorem dX11_room_23 : decode cX11_room 23 = .ok (.iload_n 2, 1) := by decide +kernel
theorem dX11_room_24 : decode cX11_room 24 = .ok (.invokevirtual 227, 3) := by decide +kernel
theorem dX11_room_27 : decode cX11_room 27 = .ok (.goto 5, 3) := by decide +kernel
theorem dX11_man_0 : decode cX11_man 0 = .ok (.aload_n 0, 1) := by decide +kernel
theorem dX11_man_1 : decode cX11_man 1 = .ok (.iload_n 1, 1) := by decide +kernel
theorem dX11_man_2 : decode cX11_man 2 = .ok (.invokevirtual 230, 3) := by decide +kernel
theorem dX11_man_5 : decode cX11_man 5 = .ok (.ifCond .eq 22, 3) := by decide +kernel
theorem dX11_man_27 : decode cX11_man 27 = .ok (.bipush (-2), 2) := by decide +kernel
theorem dX11_man_29 : decode cX11_man 29 = .ok (.ireturn, 1) := by decide +kernel
theorem dX11_man_8 : decode cX11_man 8 = .ok (.iload_n 2, 1) := by decide +kernel
theorem dX11_man_9 : decode cX11_man 9 = .ok (.i2l, 1) := by decide +kernel
theorem dX11_man_10 : decode cX11_man 10 = .ok (.lconst 0, 1) := by decide +kernel
theorem dX11_man_11 : decode cX11_man 11 = .ok (.lconst 1, 1) := by decide +kernel
theorem dX11_man_12 : decode cX11_man 12 = .ok (.invokestatic 79, 3) := by decide +kernel
theorem dX11_man_15 : decode cX11_man 15 = .ok (.ifCond .eq 12, 3) := by decide +kernel
theorem dX11_man_18 : decode cX11_man 18 = .ok (.aload_n 0, 1) := by decide +kernel
theorem dX11_man_19 : decode cX11_man 19 = .ok (.iload_n 1, 1) := by decide +kernel
theorem dX11_man_20 : decode cX11_man 20 = .ok (.iload_n 2, 1) := by decide +kernel
theorem dX11_man_21 : decode cX11_man 21 = .ok (.invokevirtual 234, 3) := by decide +kernel
theorem dX11_man_24 : decode cX11_man 24 = .ok (.goto 5, 3) := by decide +kernel
theorem dX11_slate_0 : decode cX11_slate 0 = .ok (.aload_n 0, 1) := by decide +kernel
theorem dX11_slate_1 : decode cX11_slate 1 = .ok (.iload_n 1, 1) := by decide +kernel
theorem dX11_slate_2 : decode cX11_slate 2 = .ok (.invokevirtual 230, 3) := by decide +kernel
theorem dX11_slate_5 : decode cX11_slate 5 = .ok (.ifCond .eq 22, 3) := by decide +kernel
theorem dX11_slate_27 : decode cX11_slate 27 = .ok (.bipush (-2), 2) := by decide +kernel
theorem dX11_slate_29 : decode cX11_slate 29 = .ok (.ireturn, 1) := by decide +kernel
theorem dX11_slate_8 : decode cX11_slate 8 = .ok (.aload_n 0, 1) := by decide +kernel
theorem dX11_slate_9 : decode cX11_slate 9 = .ok (.iload_n 2, 1) := by decide +kernel
theorem dX11_slate_10 : decode cX11_slate 10 = .ok (.invokevirtual 230, 3) := by decide +kernel
theorem dX11_slate_13 : decode cX11_slate 13 = .ok (.ifCond .eq 14, 3) := by decide +kernel
theorem dX11_slate_16 : decode cX11_slate 16 = .ok (.aload_n 0, 1) := by decide +kernel
theorem dX11_slate_17 : decode cX11_slate 17 = .ok (.iload_n 1, 1) := by decide +kernel
theorem dX11_slate_18 : decode cX11_slate 18 = .ok (.iconst 2, 1) := by decide +kernel
theorem dX11_slate_19 : decode cX11_slate 19 = .ok (.iload_n 2, 1) := by decide +kernel
theorem dX11_slate_20 : decode cX11_slate 20 = .ok (.iadd, 1) := by decide +kernel
theorem dX11_slate_21 : decode cX11_slate 21 = .ok (.invokevirtual 234, 3) := by decide +kernel
theorem dX11_slate_24 : decode cX11_slate 24 = .ok (.goto 5, 3) := by decide +kernel
theorem dX11_hearsBy_0 : decode cX11_hearsBy 0 = .ok (.bipush 100, 2) := by decide +kernel
theorem dX11_hearsBy_2 : decode cX11_hearsBy 2 = .ok (.bipush 100, 2) := by decide +kernel
theorem dX11_hearsBy_4 : decode cX11_hearsBy 4 = .ok (.aload_n 0, 1) := by decide +kernel
theorem dX11_hearsBy_5 : decode cX11_hearsBy 5 = .ok (.iload_n 1, 1) := by decide +kernel
theorem dX11_hearsBy_6 : decode cX11_hearsBy 6 = .ok (.iconst 1, 1) := by decide +kernel
theorem dX11_hearsBy_7 : decode cX11_hearsBy 7 = .ok (.invokevirtual 227, 3) := by decide +kernel
theorem dX11_hearsBy_10 : decode cX11_hearsBy 10 = .ok (.isub, 1) := by decide +kernel
theorem dX11_hearsBy_11 : decode cX11_hearsBy 11 = .ok (.iload_n 2, 1) := by decide +kernel
theorem dX11_hearsBy_12 : decode cX11_hearsBy 12 = .ok (.iconst 1, 1) := by decide +kernel
theorem dX11_hearsBy_13 : decode cX11_hearsBy 13 = .ok (.iadd, 1) := by decide +kernel
theorem dX11_hearsBy_14 : decode cX11_hearsBy 14 = .ok (.idiv, 1) := by decide +kernel
theorem dX11_hearsBy_15 : decode cX11_hearsBy 15 = .ok (.isub, 1) := by decide +kernel
theorem dX11_hearsBy_16 : decode cX11_hearsBy 16 = .ok (.ireturn, 1) := by decide +kernel
theorem dX11_hears_0 : decode cX11_hears 0 = .ok (.aload_n 0, 1) := by decide +kernel
theorem dX11_hears_1 : decode cX11_hears 1 = .ok (.iload_n 1, 1) := by decide +kernel
theorem dX11_hears_2 : decode cX11_hears 2 = .ok (.i2l, 1) := by decide +kernel
theorem dX11_hears_3 : decode cX11_hears 3 = .ok (.invokevirtual 89, 3) := by decide +kernel
theorem dX11_hears_6 : decode cX11_hears 6 = .ok (.ifCond .eq 24, 3) := by decide +kernel
theorem dX11_hears_30 : decode cX11_hears 30 = .ok (.bipush (-2), 2) := by decide +kernel
theorem dX11_hears_32 : decode cX11_hears 32 = .ok (.ireturn, 1) := by decide +kernel
theorem dX11_hears_9 : decode cX11_hears 9 = .ok (.iload_n 2, 1) := by decide +kernel
theorem dX11_hears_10 : decode cX11_hears 10 = .ok (.i2l, 1) := by decide +kernel
theorem dX11_hears_11 : decode cX11_hears 11 = .ok (.lconst 0, 1) := by decide +kernel
theorem dX11_hears_12 : decode cX11_hears 12 = .ok (.ldc2_w 237, 3) := by decide +kernel
theorem dX11_hears_15 : decode cX11_hears 15 = .ok (.invokestatic 79, 3) := by decide +kernel
theorem dX11_hears_18 : decode cX11_hears 18 = .ok (.ifCond .eq 12, 3) := by decide +kernel
theorem dX11_hears_21 : decode cX11_hears 21 = .ok (.aload_n 0, 1) := by decide +kernel
theorem dX11_hears_22 : decode cX11_hears 22 = .ok (.iload_n 1, 1) := by decide +kernel
theorem dX11_hears_23 : decode cX11_hears 23 = .ok (.iload_n 2, 1) := by decide +kernel
theorem dX11_hears_24 : decode cX11_hears 24 = .ok (.invokevirtual 239, 3) := by decide +kernel
theorem dX11_hears_27 : decode cX11_hears 27 = .ok (.goto 5, 3) := by decide +kernel
theorem dX11_allSits_0 : decode cX11_allSits 0 = .ok (.iconst 0, 1) := by decide +kernel
theorem dX11_allSits_1 : decode cX11_allSits 1 = .ok (.istore_n 1, 1) := by decide +kernel
theorem dX11_allSits_2 : decode cX11_allSits 2 = .ok (.iconst 0, 1) := by decide +kernel
theorem dX11_allSits_3 : decode cX11_allSits 3 = .ok (.istore_n 2, 1) := by decide +kernel
theorem dX11_allSits_4 : decode cX11_allSits 4 = .ok (.iload_n 2, 1) := by decide +kernel
theorem dX11_allSits_5 : decode cX11_allSits 5 = .ok (.aload_n 0, 1) := by decide +kernel
theorem dX11_allSits_6 : decode cX11_allSits 6 = .ok (.getfield 9, 3) := by decide +kernel
theorem dX11_allSits_9 : decode cX11_allSits 9 = .ok (.iconst 4, 1) := by decide +kernel
theorem dX11_allSits_10 : decode cX11_allSits 10 = .ok (.iaload, 1) := by decide +kernel
theorem dX11_allSits_11 : decode cX11_allSits 11 = .ok (.if_icmp .ge 18, 3) := by decide +kernel
theorem dX11_allSits_29 : decode cX11_allSits 29 = .ok (.iload_n 1, 1) := by decide +kernel
theorem dX11_allSits_30 : decode cX11_allSits 30 = .ok (.ireturn, 1) := by decide +kernel
theorem dX11_allSits_14 : decode cX11_allSits 14 = .ok (.iload_n 1, 1) := by decide +kernel
theorem dX11_allSits_15 : decode cX11_allSits 15 = .ok (.aload_n 0, 1) := by decide +kernel
theorem dX11_allSits_16 : decode cX11_allSits 16 = .ok (.iload_n 2, 1) := by decide +kernel
theorem dX11_allSits_17 : decode cX11_allSits 17 = .ok (.iconst 2, 1) := by decide +kernel
theorem dX11_allSits_18 : decode cX11_allSits 18 = .ok (.invokevirtual 227, 3) := by decide +kernel
theorem dX11_allSits_21 : decode cX11_allSits 21 = .ok (.iadd, 1) := by decide +kernel
theorem dX11_allSits_22 : decode cX11_allSits 22 = .ok (.istore_n 1, 1) := by decide +kernel
theorem dX11_allSits_23 : decode cX11_allSits 23 = .ok (.iinc 2 1, 3) := by decide +kernel
theorem dX11_allSits_26 : decode cX11_allSits 26 = .ok (.goto (-22), 3) := by decide +kernel
theorem dX11_beAtFirst_0 : decode cX11_beAtFirst 0 = .ok (.aload_n 0, 1) := by decide +kernel
theorem dX11_beAtFirst_1 : decode cX11_beAtFirst 1 = .ok (.invokevirtual 242, 3) := by decide +kernel
theorem dX11_beAtFirst_4 : decode cX11_beAtFirst 4 = .ok (.istore_n 1, 1) := by decide +kernel
theorem dX11_beAtFirst_5 : decode cX11_beAtFirst 5 = .ok (.aload_n 0, 1) := by decide +kernel
theorem dX11_beAtFirst_6 : decode cX11_beAtFirst 6 = .ok (.ldc 245, 2) := by decide +kernel
theorem dX11_beAtFirst_8 : decode cX11_beAtFirst 8 = .ok (.putfield 246, 3) := by decide +kernel
theorem dX11_beAtFirst_11 : decode cX11_beAtFirst 11 = .ok (.aload_n 0, 1) := by decide +kernel
theorem dX11_beAtFirst_12 : decode cX11_beAtFirst 12 = .ok (.iconst 0, 1) := by decide +kernel
theorem dX11_beAtFirst_13 : decode cX11_beAtFirst 13 = .ok (.putfield 249, 3) := by decide +kernel
theorem dX11_beAtFirst_16 : decode cX11_beAtFirst 16 = .ok (.iconst 0, 1) := by decide +kernel
theorem dX11_beAtFirst_17 : decode cX11_beAtFirst 17 = .ok (.istore_n 2, 1) := by decide +kernel
theorem dX11_beAtFirst_18 : decode cX11_beAtFirst 18 = .ok (.iload_n 2, 1) := by decide +kernel
theorem dX11_beAtFirst_19 : decode cX11_beAtFirst 19 = .ok (.bipush 7, 2) := by decide +kernel
theorem dX11_beAtFirst_21 : decode cX11_beAtFirst 21 = .ok (.if_icmp .ge 67, 3) := by decide +kernel
theorem dX11_beAtFirst_88 : decode cX11_beAtFirst 88 = .ok (.return_, 1) := by decide +kernel
theorem dX11_beAtFirst_24 : decode cX11_beAtFirst 24 = .ok (.aload_n 0, 1) := by decide +kernel
theorem dX11_beAtFirst_25 : decode cX11_beAtFirst 25 = .ok (.getfield 34, 3) := by decide +kernel
theorem dX11_beAtFirst_28 : decode cX11_beAtFirst 28 = .ok (.iload_n 2, 1) := by decide +kernel
theorem dX11_beAtFirst_29 : decode cX11_beAtFirst 29 = .ok (.iload_n 2, 1) := by decide +kernel
theorem dX11_beAtFirst_30 : decode cX11_beAtFirst 30 = .ok (.aload_n 0, 1) := by decide +kernel
theorem dX11_beAtFirst_31 : decode cX11_beAtFirst 31 = .ok (.getfield 9, 3) := by decide +kernel
theorem dX11_beAtFirst_34 : decode cX11_beAtFirst 34 = .ok (.iconst 4, 1) := by decide +kernel
theorem dX11_beAtFirst_35 : decode cX11_beAtFirst 35 = .ok (.iaload, 1) := by decide +kernel
theorem dX11_beAtFirst_66 : decode cX11_beAtFirst 66 = .ok (.iastore, 1) := by decide +kernel
theorem dX11_beAtFirst_67 : decode cX11_beAtFirst 67 = .ok (.aload_n 0, 1) := by decide +kernel
theorem dX11_beAtFirst_68 : decode cX11_beAtFirst 68 = .ok (.dup, 1) := by decide +kernel
theorem dX11_beAtFirst_69 : decode cX11_beAtFirst 69 = .ok (.getfield 246, 3) := by decide +kernel
theorem dX11_beAtFirst_72 : decode cX11_beAtFirst 72 = .ok (.aload_n 0, 1) := by decide +kernel
theorem dX11_beAtFirst_73 : decode cX11_beAtFirst 73 = .ok (.getfield 34, 3) := by decide +kernel
theorem dX11_beAtFirst_76 : decode cX11_beAtFirst 76 = .ok (.iload_n 2, 1) := by decide +kernel
theorem dX11_beAtFirst_77 : decode cX11_beAtFirst 77 = .ok (.iaload, 1) := by decide +kernel
theorem dX11_beAtFirst_78 : decode cX11_beAtFirst 78 = .ok (.isub, 1) := by decide +kernel
theorem dX11_beAtFirst_79 : decode cX11_beAtFirst 79 = .ok (.putfield 246, 3) := by decide +kernel
theorem dX11_beAtFirst_82 : decode cX11_beAtFirst 82 = .ok (.iinc 2 1, 3) := by decide +kernel
theorem dX11_beAtFirst_85 : decode cX11_beAtFirst 85 = .ok (.goto (-67), 3) := by decide +kernel
theorem dX11_beAtFirst_65 : decode cX11_beAtFirst 65 = .ok (.iconst 0, 1) := by decide +kernel
theorem dX11_beAtFirst_36 : decode cX11_beAtFirst 36 = .ok (.if_icmp .ge 29, 3) := by decide +kernel
theorem dX11_beAtFirst_39 : decode cX11_beAtFirst 39 = .ok (.iload_n 1, 1) := by decide +kernel
theorem dX11_beAtFirst_40 : decode cX11_beAtFirst 40 = .ok (.ifCond .le 25, 3) := by decide +kernel
theorem dX11_beAtFirst_43 : decode cX11_beAtFirst 43 = .ok (.aload_n 0, 1) := by decide +kernel
theorem dX11_beAtFirst_44 : decode cX11_beAtFirst 44 = .ok (.getfield 9, 3) := by decide +kernel
theorem dX11_beAtFirst_47 : decode cX11_beAtFirst 47 = .ok (.iconst 1, 1) := by decide +kernel
theorem dX11_beAtFirst_48 : decode cX11_beAtFirst 48 = .ok (.iaload, 1) := by decide +kernel
theorem dX11_beAtFirst_49 : decode cX11_beAtFirst 49 = .ok (.sipush 10000, 3) := by decide +kernel
theorem dX11_beAtFirst_52 : decode cX11_beAtFirst 52 = .ok (.imul, 1) := by decide +kernel
theorem dX11_beAtFirst_53 : decode cX11_beAtFirst 53 = .ok (.aload_n 0, 1) := by decide +kernel
theorem dX11_beAtFirst_54 : decode cX11_beAtFirst 54 = .ok (.iload_n 2, 1) := by decide +kernel
theorem dX11_beAtFirst_55 : decode cX11_beAtFirst 55 = .ok (.iconst 2, 1) := by decide +kernel
theorem dX11_beAtFirst_56 : decode cX11_beAtFirst 56 = .ok (.invokevirtual 227, 3) := by decide +kernel
theorem dX11_beAtFirst_59 : decode cX11_beAtFirst 59 = .ok (.imul, 1) := by decide +kernel
theorem dX11_beAtFirst_60 : decode cX11_beAtFirst 60 = .ok (.iload_n 1, 1) := by decide +kernel
theorem dX11_beAtFirst_61 : decode cX11_beAtFirst 61 = .ok (.idiv, 1) := by decide +kernel
theorem dX11_beAtFirst_62 : decode cX11_beAtFirst 62 = .ok (.goto 4, 3) := by decide +kernel
theorem dX11_wouldFind_0 : decode cX11_wouldFind 0 = .ok (.aload_n 0, 1) := by decide +kernel
theorem dX11_wouldFind_1 : decode cX11_wouldFind 1 = .ok (.getfield 34, 3) := by decide +kernel
theorem dX11_wouldFind_4 : decode cX11_wouldFind 4 = .ok (.iload_n 1, 1) := by decide +kernel
theorem dX11_wouldFind_5 : decode cX11_wouldFind 5 = .ok (.iaload, 1) := by decide +kernel
theorem dX11_wouldFind_6 : decode cX11_wouldFind 6 = .ok (.aload_n 0, 1) := by decide +kernel
theorem dX11_wouldFind_7 : decode cX11_wouldFind 7 = .ok (.iload_n 1, 1) := by decide +kernel
theorem dX11_wouldFind_8 : decode cX11_wouldFind 8 = .ok (.iload_n 2, 1) := by decide +kernel
theorem dX11_wouldFind_9 : decode cX11_wouldFind 9 = .ok (.invokevirtual 239, 3) := by decide +kernel
theorem dX11_wouldFind_12 : decode cX11_wouldFind 12 = .ok (.imul, 1) := by decide +kernel
theorem dX11_wouldFind_13 : decode cX11_wouldFind 13 = .ok (.bipush 100, 2) := by decide +kernel
theorem dX11_wouldFind_15 : decode cX11_wouldFind 15 = .ok (.idiv, 1) := by decide +kernel
theorem dX11_wouldFind_16 : decode cX11_wouldFind 16 = .ok (.ireturn, 1) := by decide +kernel
theorem dX11_callIn_0 : decode cX11_callIn 0 = .ok (.iload_n 1, 1) := by decide +kernel
theorem dX11_callIn_1 : decode cX11_callIn 1 = .ok (.iconst (-1), 1) := by decide +kernel
theorem dX11_callIn_2 : decode cX11_callIn 2 = .ok (.if_icmp .ne 5, 3) := by decide +kernel
theorem dX11_callIn_7 : decode cX11_callIn 7 = .ok (.aload_n 0, 1) := by decide +kernel
theorem dX11_callIn_8 : decode cX11_callIn 8 = .ok (.iload_n 1, 1) := by decide +kernel
theorem dX11_callIn_9 : decode cX11_callIn 9 = .ok (.iload_n 2, 1) := by decide +kernel
theorem dX11_callIn_10 : decode cX11_callIn 10 = .ok (.invokevirtual 252, 3) := by decide +kernel
theorem dX11_callIn_13 : decode cX11_callIn 13 = .ok (.istore_n 3, 1) := by decide +kernel
theorem dX11_callIn_14 : decode cX11_callIn 14 = .ok (.aload_n 0, 1) := by decide +kernel
theorem dX11_callIn_15 : decode cX11_callIn 15 = .ok (.getfield 34, 3) := by decide +kernel
theorem dX11_callIn_18 : decode cX11_callIn 18 = .ok (.iload_n 1, 1) := by decide +kernel
theorem dX11_callIn_19 : decode cX11_callIn 19 = .ok (.dup2, 1) := by decide +kernel
theorem dX11_callIn_20 : decode cX11_callIn 20 = .ok (.iaload, 1) := by decide +kernel
theorem dX11_callIn_21 : decode cX11_callIn 21 = .ok (.iload_n 3, 1) := by decide +kernel
theorem dX11_callIn_22 : decode cX11_callIn 22 = .ok (.isub, 1) := by decide +kernel
theorem dX11_callIn_23 : decode cX11_callIn 23 = .ok (.iastore, 1) := by decide +kernel
theorem dX11_callIn_24 : decode cX11_callIn 24 = .ok (.aload_n 0, 1) := by decide +kernel
theorem dX11_callIn_25 : decode cX11_callIn 25 = .ok (.dup, 1) := by decide +kernel
theorem dX11_callIn_26 : decode cX11_callIn 26 = .ok (.getfield 249, 3) := by decide +kernel
theorem dX11_callIn_29 : decode cX11_callIn 29 = .ok (.iload_n 3, 1) := by decide +kernel
theorem dX11_callIn_30 : decode cX11_callIn 30 = .ok (.iadd, 1) := by decide +kernel
theorem dX11_callIn_31 : decode cX11_callIn 31 = .ok (.putfield 249, 3) := by decide +kernel
theorem dX11_callIn_34 : decode cX11_callIn 34 = .ok (.iload_n 3, 1) := by decide +kernel
theorem dX11_callIn_35 : decode cX11_callIn 35 = .ok (.ireturn, 1) := by decide +kernel
theorem dX11_callIn_5 : decode cX11_callIn 5 = .ok (.iconst 0, 1) := by decide +kernel
theorem dX11_callIn_6 : decode cX11_callIn 6 = .ok (.ireturn, 1) := by decide +kernel
theorem dX11_goMinute_0 : decode cX11_goMinute 0 = .ok (.iconst 0, 1) := by decide +kernel
theorem dX11_goMinute_1 : decode cX11_goMinute 1 = .ok (.istore_n 2, 1) := by decide +kernel
theorem dX11_goMinute_2 : decode cX11_goMinute 2 = .ok (.iload_n 2, 1) := by decide +kernel
theorem dX11_goMinute_3 : decode cX11_goMinute 3 = .ok (.bipush 7, 2) := by decide +kernel
theorem dX11_goMinute_5 : decode cX11_goMinute 5 = .ok (.if_icmp .ge 16, 3) := by decide +kernel
theorem dX11_goMinute_21 : decode cX11_goMinute 21 = .ok (.iconst 0, 1) := by decide +kernel
theorem dX11_goMinute_22 : decode cX11_goMinute 22 = .ok (.istore_n 2, 1) := by decide +kernel
theorem dX11_goMinute_23 : decode cX11_goMinute 23 = .ok (.iload_n 2, 1) := by decide +kernel
theorem dX11_goMinute_24 : decode cX11_goMinute 24 = .ok (.aload_n 0, 1) := by decide +kernel
theorem dX11_goMinute_25 : decode cX11_goMinute 25 = .ok (.getfield 9, 3) := by decide +kernel
theorem dX11_goMinute_28 : decode cX11_goMinute 28 = .ok (.iconst 4, 1) := by decide +kernel
theorem dX11_goMinute_29 : decode cX11_goMinute 29 = .ok (.iaload, 1) := by decide +kernel
theorem dX11_goMinute_30 : decode cX11_goMinute 30 = .ok (.if_icmp .ge 108, 3) := by decide +kernel
theorem dX11_goMinute_138 : decode cX11_goMinute 138 = .ok (.iconst 0, 1) := by decide +kernel
theorem dX11_goMinute_139 : decode cX11_goMinute 139 = .ok (.istore_n 2, 1) := by decide +kernel
theorem dX11_goMinute_140 : decode cX11_goMinute 140 = .ok (.iload_n 2, 1) := by decide +kernel
theorem dX11_goMinute_141 : decode cX11_goMinute 141 = .ok (.bipush 7, 2) := by decide +kernel
theorem dX11_goMinute_143 : decode cX11_goMinute 143 = .ok (.if_icmp .ge 24, 3) := by decide +kernel
theorem dX11_goMinute_167 : decode cX11_goMinute 167 = .ok (.return_, 1) := by decide +kernel
theorem dX11_goMinute_146 : decode cX11_goMinute 146 = .ok (.aload_n 0, 1) := by decide +kernel
theorem dX11_goMinute_147 : decode cX11_goMinute 147 = .ok (.getfield 34, 3) := by decide +kernel
theorem dX11_goMinute_150 : decode cX11_goMinute 150 = .ok (.iload_n 2, 1) := by decide +kernel
theorem dX11_goMinute_151 : decode cX11_goMinute 151 = .ok (.dup2, 1) := by decide +kernel
theorem dX11_goMinute_152 : decode cX11_goMinute 152 = .ok (.iaload, 1) := by decide +kernel
theorem dX11_goMinute_153 : decode cX11_goMinute 153 = .ok (.aload_n 0, 1) := by decide +kernel
theorem dX11_goMinute_154 : decode cX11_goMinute 154 = .ok (.getfield 37, 3) := by decide +kernel
theorem dX11_goMinute_157 : decode cX11_goMinute 157 = .ok (.iload_n 2, 1) := by decide +kernel
theorem dX11_goMinute_158 : decode cX11_goMinute 158 = .ok (.iaload, 1) := by decide +kernel
theorem dX11_goMinute_159 : decode cX11_goMinute 159 = .ok (.iadd, 1) := by decide +kernel
theorem dX11_goMinute_160 : decode cX11_goMinute 160 = .ok (.iastore, 1) := by decide +kernel
theorem dX11_goMinute_161 : decode cX11_goMinute 161 = .ok (.iinc 2 1, 3) := by decide +kernel
theorem dX11_goMinute_164 : decode cX11_goMinute 164 = .ok (.goto (-24), 3) := by decide +kernel
theorem dX11_goMinute_33 : decode cX11_goMinute 33 = .ok (.aload_n 0, 1) := by decide +kernel
theorem dX11_goMinute_34 : decode cX11_goMinute 34 = .ok (.iload_n 2, 1) := by decide +kernel
theorem dX11_goMinute_35 : decode cX11_goMinute 35 = .ok (.iconst 3, 1) := by decide +kernel
theorem dX11_goMinute_36 : decode cX11_goMinute 36 = .ok (.invokevirtual 227, 3) := by decide +kernel
theorem dX11_goMinute_39 : decode cX11_goMinute 39 = .ok (.invokestatic 255, 3) := by decide +kernel
theorem dX11_goMinute_42 : decode cX11_goMinute 42 = .ok (.istore_n 3, 1) := by decide +kernel
theorem dX11_goMinute_43 : decode cX11_goMinute 43 = .ok (.iload_n 3, 1) := by decide +kernel
theorem dX11_goMinute_132 : decode cX11_goMinute 132 = .ok (.iinc 2 1, 3) := by decide +kernel
theorem dX11_goMinute_135 : decode cX11_goMinute 135 = .ok (.goto (-112), 3) := by decide +kernel
theorem dX11_goMinute_44 : decode cX11_goMinute 44 = .ok (.ifCond .eq 88, 3) := by decide +kernel
theorem dX11_goMinute_47 : decode cX11_goMinute 47 = .ok (.iload_n 2, 1) := by decide +kernel
theorem dX11_goMinute_48 : decode cX11_goMinute 48 = .ok (.iload_n 1, 1) := by decide +kernel
theorem dX11_goMinute_49 : decode cX11_goMinute 49 = .ok (.if_icmp .ne 6, 3) := by decide +kernel
theorem dX11_goMinute_55 : decode cX11_goMinute 55 = .ok (.aload_n 0, 1) := by decide +kernel
theorem dX11_goMinute_56 : decode cX11_goMinute 56 = .ok (.getfield 34, 3) := by decide +kernel
theorem dX11_goMinute_59 : decode cX11_goMinute 59 = .ok (.iload_n 2, 1) := by decide +kernel
theorem dX11_goMinute_60 : decode cX11_goMinute 60 = .ok (.iaload, 1) := by decide +kernel
theorem dX11_goMinute_61 : decode cX11_goMinute 61 = .ok (.aload_n 0, 1) := by decide +kernel
theorem dX11_goMinute_62 : decode cX11_goMinute 62 = .ok (.getfield 9, 3) := by decide +kernel
theorem dX11_goMinute_65 : decode cX11_goMinute 65 = .ok (.iconst 0, 1) := by decide +kernel
theorem dX11_goMinute_66 : decode cX11_goMinute 66 = .ok (.iaload, 1) := by decide +kernel
theorem dX11_goMinute_67 : decode cX11_goMinute 67 = .ok (.imul, 1) := by decide +kernel
theorem dX11_goMinute_68 : decode cX11_goMinute 68 = .ok (.bipush 100, 2) := by decide +kernel
theorem dX11_goMinute_70 : decode cX11_goMinute 70 = .ok (.idiv, 1) := by decide +kernel
theorem dX11_goMinute_71 : decode cX11_goMinute 71 = .ok (.iload_n 3, 1) := by decide +kernel
theorem dX11_goMinute_72 : decode cX11_goMinute 72 = .ok (.idiv, 1) := by decide +kernel
theorem dX11_goMinute_73 : decode cX11_goMinute 73 = .ok (.istore 4, 2) := by decide +kernel
theorem dX11_goMinute_75 : decode cX11_goMinute 75 = .ok (.aload_n 0, 1) := by decide +kernel
theorem dX11_goMinute_76 : decode cX11_goMinute 76 = .ok (.getfield 37, 3) := by decide +kernel
theorem dX11_goMinute_79 : decode cX11_goMinute 79 = .ok (.iload_n 2, 1) := by decide +kernel
theorem dX11_goMinute_80 : decode cX11_goMinute 80 = .ok (.dup2, 1) := by decide +kernel
theorem dX11_goMinute_81 : decode cX11_goMinute 81 = .ok (.iaload, 1) := by decide +kernel
theorem dX11_goMinute_82 : decode cX11_goMinute 82 = .ok (.iload 4, 2) := by decide +kernel
theorem dX11_goMinute_84 : decode cX11_goMinute 84 = .ok (.iload_n 3, 1) := by decide +kernel
theorem dX11_goMinute_85 : decode cX11_goMinute 85 = .ok (.imul, 1) := by decide +kernel
theorem dX11_goMinute_86 : decode cX11_goMinute 86 = .ok (.isub, 1) := by decide +kernel
theorem dX11_goMinute_87 : decode cX11_goMinute 87 = .ok (.iastore, 1) := by decide +kernel
theorem dX11_goMinute_88 : decode cX11_goMinute 88 = .ok (.iconst 0, 1) := by decide +kernel
theorem dX11_goMinute_89 : decode cX11_goMinute 89 = .ok (.istore 5, 2) := by decide +kernel
theorem dX11_goMinute_91 : decode cX11_goMinute 91 = .ok (.iload 5, 2) := by decide +kernel
theorem dX11_goMinute_93 : decode cX11_goMinute 93 = .ok (.aload_n 0, 1) := by decide +kernel
theorem dX11_goMinute_94 : decode cX11_goMinute 94 = .ok (.getfield 9, 3) := by decide +kernel
theorem dX11_goMinute_97 : decode cX11_goMinute 97 = .ok (.iconst 4, 1) := by decide +kernel
theorem dX11_goMinute_98 : decode cX11_goMinute 98 = .ok (.iaload, 1) := by decide +kernel
theorem dX11_goMinute_99 : decode cX11_goMinute 99 = .ok (.if_icmp .ge 33, 3) := by decide +kernel
theorem dX11_goMinute_102 : decode cX11_goMinute 102 = .ok (.aload_n 0, 1) := by decide +kernel
theorem dX11_goMinute_103 : decode cX11_goMinute 103 = .ok (.getfield 37, 3) := by decide +kernel
theorem dX11_goMinute_106 : decode cX11_goMinute 106 = .ok (.iload 5, 2) := by decide +kernel
theorem dX11_goMinute_108 : decode cX11_goMinute 108 = .ok (.dup2, 1) := by decide +kernel
theorem dX11_goMinute_109 : decode cX11_goMinute 109 = .ok (.iaload, 1) := by decide +kernel
theorem dX11_goMinute_110 : decode cX11_goMinute 110 = .ok (.aload_n 0, 1) := by decide +kernel
theorem dX11_goMinute_111 : decode cX11_goMinute 111 = .ok (.iload_n 2, 1) := by decide +kernel
theorem dX11_goMinute_112 : decode cX11_goMinute 112 = .ok (.iconst 3, 1) := by decide +kernel
theorem dX11_goMinute_113 : decode cX11_goMinute 113 = .ok (.invokevirtual 227, 3) := by decide +kernel
theorem dX11_goMinute_116 : decode cX11_goMinute 116 = .ok (.iload 5, 2) := by decide +kernel
theorem dX11_goMinute_118 : decode cX11_goMinute 118 = .ok (.invokestatic 258, 3) := by decide +kernel
theorem dX11_goMinute_121 : decode cX11_goMinute 121 = .ok (.iload 4, 2) := by decide +kernel
theorem dX11_goMinute_123 : decode cX11_goMinute 123 = .ok (.imul, 1) := by decide +kernel
theorem dX11_goMinute_124 : decode cX11_goMinute 124 = .ok (.iadd, 1) := by decide +kernel
theorem dX11_goMinute_125 : decode cX11_goMinute 125 = .ok (.iastore, 1) := by decide +kernel
theorem dX11_goMinute_126 : decode cX11_goMinute 126 = .ok (.iinc 5 1, 3) := by decide +kernel
theorem dX11_goMinute_129 : decode cX11_goMinute 129 = .ok (.goto (-38), 3) := by decide +kernel
theorem dX11_goMinute_52 : decode cX11_goMinute 52 = .ok (.goto 80, 3) := by decide +kernel
theorem dX11_goMinute_8 : decode cX11_goMinute 8 = .ok (.aload_n 0, 1) := by decide +kernel
theorem dX11_goMinute_9 : decode cX11_goMinute 9 = .ok (.getfield 37, 3) := by decide +kernel
theorem dX11_goMinute_12 : decode cX11_goMinute 12 = .ok (.iload_n 2, 1) := by decide +kernel
theorem dX11_goMinute_13 : decode cX11_goMinute 13 = .ok (.iconst 0, 1) := by decide +kernel
theorem dX11_goMinute_14 : decode cX11_goMinute 14 = .ok (.iastore, 1) := by decide +kernel
theorem dX11_goMinute_15 : decode cX11_goMinute 15 = .ok (.iinc 2 1, 3) := by decide +kernel
theorem dX11_goMinute_18 : decode cX11_goMinute 18 = .ok (.goto (-16), 3) := by decide +kernel
theorem dX11_asItIs_0 : decode cX11_asItIs 0 = .ok (.aload_n 0, 1) := by decide +kernel
theorem dX11_asItIs_1 : decode cX11_asItIs 1 = .ok (.invokevirtual 261, 3) := by decide +kernel
theorem dX11_asItIs_4 : decode cX11_asItIs 4 = .ok (.iconst 0, 1) := by decide +kernel
theorem dX11_asItIs_5 : decode cX11_asItIs 5 = .ok (.istore_n 1, 1) := by decide +kernel
theorem dX11_asItIs_6 : decode cX11_asItIs 6 = .ok (.iload_n 1, 1) := by decide +kernel
theorem dX11_asItIs_7 : decode cX11_asItIs 7 = .ok (.aload_n 0, 1) := by decide +kernel
theorem dX11_asItIs_8 : decode cX11_asItIs 8 = .ok (.getfield 9, 3) := by decide +kernel
theorem dX11_asItIs_11 : decode cX11_asItIs 11 = .ok (.bipush 7, 2) := by decide +kernel
theorem dX11_asItIs_13 : decode cX11_asItIs 13 = .ok (.iaload, 1) := by decide +kernel
theorem dX11_asItIs_14 : decode cX11_asItIs 14 = .ok (.if_icmp .ge 29, 3) := by decide +kernel
theorem dX11_asItIs_43 : decode cX11_asItIs 43 = .ok (.return_, 1) := by decide +kernel
theorem dX11_asItIs_17 : decode cX11_asItIs 17 = .ok (.aload_n 0, 1) := by decide +kernel
theorem dX11_asItIs_18 : decode cX11_asItIs 18 = .ok (.aload_n 0, 1) := by decide +kernel
theorem dX11_asItIs_19 : decode cX11_asItIs 19 = .ok (.getfield 9, 3) := by decide +kernel
theorem dX11_asItIs_22 : decode cX11_asItIs 22 = .ok (.bipush 84, 2) := by decide +kernel
theorem dX11_asItIs_24 : decode cX11_asItIs 24 = .ok (.iload_n 1, 1) := by decide +kernel
theorem dX11_asItIs_25 : decode cX11_asItIs 25 = .ok (.iadd, 1) := by decide +kernel
theorem dX11_asItIs_26 : decode cX11_asItIs 26 = .ok (.iaload, 1) := by decide +kernel
theorem dX11_asItIs_27 : decode cX11_asItIs 27 = .ok (.iconst 0, 1) := by decide +kernel
theorem dX11_asItIs_28 : decode cX11_asItIs 28 = .ok (.invokevirtual 264, 3) := by decide +kernel
theorem dX11_asItIs_31 : decode cX11_asItIs 31 = .ok (.pop, 1) := by decide +kernel
theorem dX11_asItIs_32 : decode cX11_asItIs 32 = .ok (.aload_n 0, 1) := by decide +kernel
theorem dX11_asItIs_33 : decode cX11_asItIs 33 = .ok (.iconst (-1), 1) := by decide +kernel
theorem dX11_asItIs_34 : decode cX11_asItIs 34 = .ok (.invokevirtual 267, 3) := by decide +kernel
theorem dX11_asItIs_37 : decode cX11_asItIs 37 = .ok (.iinc 1 1, 3) := by decide +kernel
theorem dX11_asItIs_40 : decode cX11_asItIs 40 = .ok (.goto (-34), 3) := by decide +kernel
theorem dX11_inHouse_0 : decode cX11_inHouse 0 = .ok (.iconst 0, 1) := by decide +kernel
theorem dX11_inHouse_1 : decode cX11_inHouse 1 = .ok (.istore_n 1, 1) := by decide +kernel
theorem dX11_inHouse_2 : decode cX11_inHouse 2 = .ok (.iconst 0, 1) := by decide +kernel
theorem dX11_inHouse_3 : decode cX11_inHouse 3 = .ok (.istore_n 2, 1) := by decide +kernel
theorem dX11_inHouse_4 : decode cX11_inHouse 4 = .ok (.iload_n 2, 1) := by decide +kernel
theorem dX11_inHouse_5 : decode cX11_inHouse 5 = .ok (.aload_n 0, 1) := by decide +kernel
theorem dX11_inHouse_6 : decode cX11_inHouse 6 = .ok (.getfield 9, 3) := by decide +kernel
theorem dX11_inHouse_9 : decode cX11_inHouse 9 = .ok (.iconst 4, 1) := by decide +kernel
theorem dX11_inHouse_10 : decode cX11_inHouse 10 = .ok (.iaload, 1) := by decide +kernel
theorem dX11_inHouse_11 : decode cX11_inHouse 11 = .ok (.if_icmp .ge 18, 3) := by decide +kernel
theorem dX11_inHouse_29 : decode cX11_inHouse 29 = .ok (.iload_n 1, 1) := by decide +kernel
theorem dX11_inHouse_30 : decode cX11_inHouse 30 = .ok (.ireturn, 1) := by decide +kernel
theorem dX11_inHouse_14 : decode cX11_inHouse 14 = .ok (.iload_n 1, 1) := by decide +kernel
theorem dX11_inHouse_15 : decode cX11_inHouse 15 = .ok (.aload_n 0, 1) := by decide +kernel
theorem dX11_inHouse_16 : decode cX11_inHouse 16 = .ok (.getfield 34, 3) := by decide +kernel
theorem dX11_inHouse_19 : decode cX11_inHouse 19 = .ok (.iload_n 2, 1) := by decide +kernel
theorem dX11_inHouse_20 : decode cX11_inHouse 20 = .ok (.iaload, 1) := by decide +kernel
theorem dX11_inHouse_21 : decode cX11_inHouse 21 = .ok (.iadd, 1) := by decide +kernel
theorem dX11_inHouse_22 : decode cX11_inHouse 22 = .ok (.istore_n 1, 1) := by decide +kernel
theorem dX11_inHouse_23 : decode cX11_inHouse 23 = .ok (.iinc 2 1, 3) := by decide +kernel
theorem dX11_inHouse_26 : decode cX11_inHouse 26 = .ok (.goto (-22), 3) := by decide +kernel
theorem dX11_inMillion_0 : decode cX11_inMillion 0 = .ok (.aload_n 0, 1) := by decide +kernel
theorem dX11_inMillion_1 : decode cX11_inMillion 1 = .ok (.invokevirtual 270, 3) := by decide +kernel
theorem dX11_inMillion_4 : decode cX11_inMillion 4 = .ok (.aload_n 0, 1) := by decide +kernel
theorem dX11_inMillion_5 : decode cX11_inMillion 5 = .ok (.getfield 246, 3) := by decide +kernel
theorem dX11_inMillion_8 : decode cX11_inMillion 8 = .ok (.iadd, 1) := by decide +kernel
theorem dX11_inMillion_9 : decode cX11_inMillion 9 = .ok (.istore_n 2, 1) := by decide +kernel
theorem dX11_inMillion_10 : decode cX11_inMillion 10 = .ok (.iload_n 2, 1) := by decide +kernel
theorem dX11_inMillion_11 : decode cX11_inMillion 11 = .ok (.ifCond .ne 7, 3) := by decide +kernel
theorem dX11_inMillion_18 : decode cX11_inMillion 18 = .ok (.iload_n 1, 1) := by decide +kernel
theorem dX11_inMillion_19 : decode cX11_inMillion 19 = .ok (.i2l, 1) := by decide +kernel
theorem dX11_inMillion_20 : decode cX11_inMillion 20 = .ok (.ldc2_w 273, 3) := by decide +kernel
theorem dX11_inMillion_23 : decode cX11_inMillion 23 = .ok (.lmul, 1) := by decide +kernel
theorem dX11_inMillion_24 : decode cX11_inMillion 24 = .ok (.iload_n 2, 1) := by decide +kernel
theorem dX11_inMillion_25 : decode cX11_inMillion 25 = .ok (.i2l, 1) := by decide +kernel
theorem dX11_inMillion_26 : decode cX11_inMillion 26 = .ok (.ldiv, 1) := by decide +kernel
theorem dX11_inMillion_27 : decode cX11_inMillion 27 = .ok (.l2i, 1) := by decide +kernel
theorem dX11_inMillion_28 : decode cX11_inMillion 28 = .ok (.ireturn, 1) := by decide +kernel
theorem dX11_inMillion_14 : decode cX11_inMillion 14 = .ok (.iconst 0, 1) := by decide +kernel
theorem dX11_inMillion_15 : decode cX11_inMillion 15 = .ok (.goto 13, 3) := by decide +kernel
theorem dX11_parts_0 : decode cX11_parts 0 = .ok (.aload_n 0, 1) := by decide +kernel
theorem dX11_parts_1 : decode cX11_parts 1 = .ok (.iload_n 1, 1) := by decide +kernel
theorem dX11_parts_2 : decode cX11_parts 2 = .ok (.i2l, 1) := by decide +kernel
theorem dX11_parts_3 : decode cX11_parts 3 = .ok (.invokevirtual 275, 3) := by decide +kernel
theorem dX11_parts_6 : decode cX11_parts 6 = .ok (.ifCond .ne 6, 3) := by decide +kernel
theorem dX11_parts_12 : decode cX11_parts 12 = .ok (.aload_n 0, 1) := by decide +kernel
theorem dX11_parts_13 : decode cX11_parts 13 = .ok (.invokevirtual 278, 3) := by decide +kernel
theorem dX11_parts_16 : decode cX11_parts 16 = .ok (.iload_n 1, 1) := by decide +kernel
theorem dX11_parts_17 : decode cX11_parts 17 = .ok (.iconst (-1), 1) := by decide +kernel
theorem dX11_parts_18 : decode cX11_parts 18 = .ok (.if_icmp .ne 10, 3) := by decide +kernel
theorem dX11_parts_28 : decode cX11_parts 28 = .ok (.aload_n 0, 1) := by decide +kernel
theorem dX11_parts_29 : decode cX11_parts 29 = .ok (.getfield 34, 3) := by decide +kernel
theorem dX11_parts_32 : decode cX11_parts 32 = .ok (.iload_n 1, 1) := by decide +kernel
theorem dX11_parts_33 : decode cX11_parts 33 = .ok (.iaload, 1) := by decide +kernel
theorem dX11_parts_34 : decode cX11_parts 34 = .ok (.ireturn, 1) := by decide +kernel
theorem dX11_parts_21 : decode cX11_parts 21 = .ok (.aload_n 0, 1) := by decide +kernel
theorem dX11_parts_22 : decode cX11_parts 22 = .ok (.getfield 246, 3) := by decide +kernel
theorem dX11_parts_25 : decode cX11_parts 25 = .ok (.goto 9, 3) := by decide +kernel
theorem dX11_parts_9 : decode cX11_parts 9 = .ok (.bipush (-2), 2) := by decide +kernel
theorem dX11_parts_11 : decode cX11_parts 11 = .ok (.ireturn, 1) := by decide +kernel
theorem dX11_found_0 : decode cX11_found 0 = .ok (.aload_n 0, 1) := by decide +kernel
theorem dX11_found_1 : decode cX11_found 1 = .ok (.invokevirtual 83, 3) := by decide +kernel
theorem dX11_found_4 : decode cX11_found 4 = .ok (.ifCond .ne 6, 3) := by decide +kernel
theorem dX11_found_10 : decode cX11_found 10 = .ok (.aload_n 0, 1) := by decide +kernel
theorem dX11_found_11 : decode cX11_found 11 = .ok (.invokevirtual 278, 3) := by decide +kernel
theorem dX11_found_14 : decode cX11_found 14 = .ok (.aload_n 0, 1) := by decide +kernel
theorem dX11_found_15 : decode cX11_found 15 = .ok (.getfield 249, 3) := by decide +kernel
theorem dX11_found_18 : decode cX11_found 18 = .ok (.ireturn, 1) := by decide +kernel
theorem dX11_found_7 : decode cX11_found 7 = .ok (.bipush (-2), 2) := by decide +kernel
theorem dX11_found_9 : decode cX11_found 9 = .ok (.ireturn, 1) := by decide +kernel
theorem dX11_likely_0 : decode cX11_likely 0 = .ok (.aload_n 0, 1) := by decide +kernel
theorem dX11_likely_1 : decode cX11_likely 1 = .ok (.invokevirtual 83, 3) := by decide +kernel
theorem dX11_likely_4 : decode cX11_likely 4 = .ok (.ifCond .ne 6, 3) := by decide +kernel
theorem dX11_likely_10 : decode cX11_likely 10 = .ok (.aload_n 0, 1) := by decide +kernel
theorem dX11_likely_11 : decode cX11_likely 11 = .ok (.invokevirtual 278, 3) := by decide +kernel
theorem dX11_likely_14 : decode cX11_likely 14 = .ok (.iconst (-1), 1) := by decide +kernel
theorem dX11_likely_15 : decode cX11_likely 15 = .ok (.istore_n 1, 1) := by decide +kernel
theorem dX11_likely_16 : decode cX11_likely 16 = .ok (.iconst 0, 1) := by decide +kernel
theorem dX11_likely_17 : decode cX11_likely 17 = .ok (.istore_n 2, 1) := by decide +kernel
theorem dX11_likely_18 : decode cX11_likely 18 = .ok (.iload_n 2, 1) := by decide +kernel
theorem dX11_likely_19 : decode cX11_likely 19 = .ok (.aload_n 0, 1) := by decide +kernel
theorem dX11_likely_20 : decode cX11_likely 20 = .ok (.getfield 9, 3) := by decide +kernel
theorem dX11_likely_23 : decode cX11_likely 23 = .ok (.iconst 4, 1) := by decide +kernel
theorem dX11_likely_24 : decode cX11_likely 24 = .ok (.iaload, 1) := by decide +kernel
theorem dX11_likely_25 : decode cX11_likely 25 = .ok (.if_icmp .ge 35, 3) := by decide +kernel
theorem dX11_likely_60 : decode cX11_likely 60 = .ok (.iload_n 1, 1) := by decide +kernel
theorem dX11_likely_61 : decode cX11_likely 61 = .ok (.ireturn, 1) := by decide +kernel
theorem dX11_likely_28 : decode cX11_likely 28 = .ok (.iload_n 1, 1) := by decide +kernel
theorem dX11_likely_29 : decode cX11_likely 29 = .ok (.iconst (-1), 1) := by decide +kernel
theorem dX11_likely_53 : decode cX11_likely 53 = .ok (.istore_n 1, 1) := by decide +kernel
theorem dX11_likely_54 : decode cX11_likely 54 = .ok (.iinc 2 1, 3) := by decide +kernel
theorem dX11_likely_57 : decode cX11_likely 57 = .ok (.goto (-39), 3) := by decide +kernel
theorem dX11_likely_48 : decode cX11_likely 48 = .ok (.iload_n 2, 1) := by decide +kernel
theorem dX11_likely_49 : decode cX11_likely 49 = .ok (.goto 4, 3) := by decide +kernel
theorem dX11_likely_30 : decode cX11_likely 30 = .ok (.if_icmp .eq 18, 3) := by decide +kernel
theorem dX11_likely_33 : decode cX11_likely 33 = .ok (.aload_n 0, 1) := by decide +kernel
theorem dX11_likely_34 : decode cX11_likely 34 = .ok (.getfield 34, 3) := by decide +kernel
theorem dX11_likely_37 : decode cX11_likely 37 = .ok (.iload_n 2, 1) := by decide +kernel
theorem dX11_likely_38 : decode cX11_likely 38 = .ok (.iaload, 1) := by decide +kernel
theorem dX11_likely_39 : decode cX11_likely 39 = .ok (.aload_n 0, 1) := by decide +kernel
theorem dX11_likely_40 : decode cX11_likely 40 = .ok (.getfield 34, 3) := by decide +kernel
theorem dX11_likely_43 : decode cX11_likely 43 = .ok (.iload_n 1, 1) := by decide +kernel
theorem dX11_likely_44 : decode cX11_likely 44 = .ok (.iaload, 1) := by decide +kernel
theorem dX11_likely_45 : decode cX11_likely 45 = .ok (.if_icmp .le 7, 3) := by decide +kernel
theorem dX11_likely_52 : decode cX11_likely 52 = .ok (.iload_n 1, 1) := by decide +kernel
theorem dX11_likely_7 : decode cX11_likely 7 = .ok (.bipush (-2), 2) := by decide +kernel
theorem dX11_likely_9 : decode cX11_likely 9 = .ok (.ireturn, 1) := by decide +kernel
theorem dX11_here_0 : decode cX11_here 0 = .ok (.aload_n 0, 1) := by decide +kernel
theorem dX11_here_1 : decode cX11_here 1 = .ok (.invokevirtual 83, 3) := by decide +kernel
theorem dX11_here_4 : decode cX11_here 4 = .ok (.ifCond .ne 6, 3) := by decide +kernel
theorem dX11_here_10 : decode cX11_here 10 = .ok (.aload_n 0, 1) := by decide +kernel
theorem dX11_here_11 : decode cX11_here 11 = .ok (.invokevirtual 278, 3) := by decide +kernel
theorem dX11_here_14 : decode cX11_here 14 = .ok (.aload_n 0, 1) := by decide +kernel
theorem dX11_here_15 : decode cX11_here 15 = .ok (.aload_n 0, 1) := by decide +kernel
theorem dX11_here_16 : decode cX11_here 16 = .ok (.invokevirtual 270, 3) := by decide +kernel
theorem dX11_here_19 : decode cX11_here 19 = .ok (.invokevirtual 281, 3) := by decide +kernel
theorem dX11_here_22 : decode cX11_here 22 = .ok (.ireturn, 1) := by decide +kernel
theorem dX11_here_7 : decode cX11_here 7 = .ok (.bipush (-2), 2) := by decide +kernel
theorem dX11_here_9 : decode cX11_here 9 = .ok (.ireturn, 1) := by decide +kernel
theorem dX11_chance_0 : decode cX11_chance 0 = .ok (.aload_n 0, 1) := by decide +kernel
theorem dX11_chance_1 : decode cX11_chance 1 = .ok (.iload_n 1, 1) := by decide +kernel
theorem dX11_chance_2 : decode cX11_chance 2 = .ok (.i2l, 1) := by decide +kernel
theorem dX11_chance_3 : decode cX11_chance 3 = .ok (.invokevirtual 275, 3) := by decide +kernel
theorem dX11_chance_6 : decode cX11_chance 6 = .ok (.ifCond .ne 6, 3) := by decide +kernel
theorem dX11_chance_12 : decode cX11_chance 12 = .ok (.aload_n 0, 1) := by decide +kernel
theorem dX11_chance_13 : decode cX11_chance 13 = .ok (.invokevirtual 278, 3) := by decide +kernel
theorem dX11_chance_16 : decode cX11_chance 16 = .ok (.aload_n 0, 1) := by decide +kernel
theorem dX11_chance_17 : decode cX11_chance 17 = .ok (.iload_n 1, 1) := by decide +kernel
theorem dX11_chance_18 : decode cX11_chance 18 = .ok (.iconst (-1), 1) := by decide +kernel
theorem dX11_chance_19 : decode cX11_chance 19 = .ok (.if_icmp .ne 10, 3) := by decide +kernel
theorem dX11_chance_29 : decode cX11_chance 29 = .ok (.aload_n 0, 1) := by decide +kernel
theorem dX11_chance_30 : decode cX11_chance 30 = .ok (.getfield 34, 3) := by decide +kernel
theorem dX11_chance_33 : decode cX11_chance 33 = .ok (.iload_n 1, 1) := by decide +kernel
theorem dX11_chance_34 : decode cX11_chance 34 = .ok (.iaload, 1) := by decide +kernel
theorem dX11_chance_35 : decode cX11_chance 35 = .ok (.invokevirtual 281, 3) := by decide +kernel
theorem dX11_chance_38 : decode cX11_chance 38 = .ok (.ireturn, 1) := by decide +kernel
theorem dX11_chance_22 : decode cX11_chance 22 = .ok (.aload_n 0, 1) := by decide +kernel
theorem dX11_chance_23 : decode cX11_chance 23 = .ok (.getfield 246, 3) := by decide +kernel
theorem dX11_chance_26 : decode cX11_chance 26 = .ok (.goto 9, 3) := by decide +kernel
theorem dX11_chance_9 : decode cX11_chance 9 = .ok (.bipush (-2), 2) := by decide +kernel
theorem dX11_chance_11 : decode cX11_chance 11 = .ok (.ireturn, 1) := by decide +kernel
theorem dX11_call_0 : decode cX11_call 0 = .ok (.aload_n 0, 1) := by decide +kernel
theorem dX11_call_1 : decode cX11_call 1 = .ok (.iload_n 1, 1) := by decide +kernel
theorem dX11_call_2 : decode cX11_call 2 = .ok (.i2l, 1) := by decide +kernel
theorem dX11_call_3 : decode cX11_call 3 = .ok (.invokevirtual 275, 3) := by decide +kernel
theorem dX11_call_6 : decode cX11_call 6 = .ok (.ifCond .ne 6, 3) := by decide +kernel
theorem dX11_call_12 : decode cX11_call 12 = .ok (.aload_n 0, 1) := by decide +kernel
theorem dX11_call_13 : decode cX11_call 13 = .ok (.getfield 9, 3) := by decide +kernel
theorem dX11_call_16 : decode cX11_call 16 = .ok (.bipush 7, 2) := by decide +kernel
theorem dX11_call_18 : decode cX11_call 18 = .ok (.iaload, 1) := by decide +kernel
theorem dX11_call_19 : decode cX11_call 19 = .ok (.bipush 60, 2) := by decide +kernel
theorem dX11_call_21 : decode cX11_call 21 = .ok (.if_icmp .ne 6, 3) := by decide +kernel
theorem dX11_call_27 : decode cX11_call 27 = .ok (.aload_n 0, 1) := by decide +kernel
theorem dX11_call_28 : decode cX11_call 28 = .ok (.invokevirtual 278, 3) := by decide +kernel
theorem dX11_call_31 : decode cX11_call 31 = .ok (.aload_n 0, 1) := by decide +kernel
theorem dX11_call_32 : decode cX11_call 32 = .ok (.getfield 9, 3) := by decide +kernel
theorem dX11_call_35 : decode cX11_call 35 = .ok (.bipush 84, 2) := by decide +kernel
theorem dX11_call_37 : decode cX11_call 37 = .ok (.aload_n 0, 1) := by decide +kernel
theorem dX11_call_38 : decode cX11_call 38 = .ok (.getfield 9, 3) := by decide +kernel
theorem dX11_call_41 : decode cX11_call 41 = .ok (.bipush 7, 2) := by decide +kernel
theorem dX11_call_43 : decode cX11_call 43 = .ok (.iaload, 1) := by decide +kernel
theorem dX11_call_44 : decode cX11_call 44 = .ok (.iadd, 1) := by decide +kernel
theorem dX11_call_45 : decode cX11_call 45 = .ok (.iload_n 1, 1) := by decide +kernel
theorem dX11_call_46 : decode cX11_call 46 = .ok (.iastore, 1) := by decide +kernel
theorem dX11_call_47 : decode cX11_call 47 = .ok (.aload_n 0, 1) := by decide +kernel
theorem dX11_call_48 : decode cX11_call 48 = .ok (.getfield 9, 3) := by decide +kernel
theorem dX11_call_51 : decode cX11_call 51 = .ok (.bipush 7, 2) := by decide +kernel
theorem dX11_call_53 : decode cX11_call 53 = .ok (.dup2, 1) := by decide +kernel
theorem dX11_call_54 : decode cX11_call 54 = .ok (.iaload, 1) := by decide +kernel
theorem dX11_call_55 : decode cX11_call 55 = .ok (.iconst 1, 1) := by decide +kernel
theorem dX11_call_56 : decode cX11_call 56 = .ok (.iadd, 1) := by decide +kernel
theorem dX11_call_57 : decode cX11_call 57 = .ok (.iastore, 1) := by decide +kernel
theorem dX11_call_58 : decode cX11_call 58 = .ok (.aload_n 0, 1) := by decide +kernel
theorem dX11_call_59 : decode cX11_call 59 = .ok (.iload_n 1, 1) := by decide +kernel
theorem dX11_call_60 : decode cX11_call 60 = .ok (.iconst 0, 1) := by decide +kernel
theorem dX11_call_61 : decode cX11_call 61 = .ok (.invokevirtual 264, 3) := by decide +kernel
theorem dX11_call_64 : decode cX11_call 64 = .ok (.ireturn, 1) := by decide +kernel
theorem dX11_call_24 : decode cX11_call 24 = .ok (.bipush (-5), 2) := by decide +kernel
theorem dX11_call_26 : decode cX11_call 26 = .ok (.ireturn, 1) := by decide +kernel
theorem dX11_call_9 : decode cX11_call 9 = .ok (.bipush (-2), 2) := by decide +kernel
theorem dX11_call_11 : decode cX11_call 11 = .ok (.ireturn, 1) := by decide +kernel
theorem dX11_undo_0 : decode cX11_undo 0 = .ok (.aload_n 0, 1) := by decide +kernel
theorem dX11_undo_1 : decode cX11_undo 1 = .ok (.invokevirtual 83, 3) := by decide +kernel
theorem dX11_undo_4 : decode cX11_undo 4 = .ok (.ifCond .ne 6, 3) := by decide +kernel
theorem dX11_undo_10 : decode cX11_undo 10 = .ok (.aload_n 0, 1) := by decide +kernel
theorem dX11_undo_11 : decode cX11_undo 11 = .ok (.getfield 9, 3) := by decide +kernel
theorem dX11_undo_14 : decode cX11_undo 14 = .ok (.bipush 7, 2) := by decide +kernel
theorem dX11_undo_16 : decode cX11_undo 16 = .ok (.iaload, 1) := by decide +kernel
theorem dX11_undo_17 : decode cX11_undo 17 = .ok (.ifCond .ne 6, 3) := by decide +kernel
theorem dX11_undo_23 : decode cX11_undo 23 = .ok (.aload_n 0, 1) := by decide +kernel
theorem dX11_undo_24 : decode cX11_undo 24 = .ok (.getfield 9, 3) := by decide +kernel
theorem dX11_undo_27 : decode cX11_undo 27 = .ok (.bipush 7, 2) := by decide +kernel
theorem dX11_undo_29 : decode cX11_undo 29 = .ok (.dup2, 1) := by decide +kernel
theorem dX11_undo_30 : decode cX11_undo 30 = .ok (.iaload, 1) := by decide +kernel
theorem dX11_undo_31 : decode cX11_undo 31 = .ok (.iconst 1, 1) := by decide +kernel
theorem dX11_undo_32 : decode cX11_undo 32 = .ok (.isub, 1) := by decide +kernel
theorem dX11_undo_33 : decode cX11_undo 33 = .ok (.iastore, 1) := by decide +kernel
theorem dX11_undo_34 : decode cX11_undo 34 = .ok (.aload_n 0, 1) := by decide +kernel
theorem dX11_undo_35 : decode cX11_undo 35 = .ok (.getfield 9, 3) := by decide +kernel
theorem dX11_undo_38 : decode cX11_undo 38 = .ok (.bipush 7, 2) := by decide +kernel
theorem dX11_undo_40 : decode cX11_undo 40 = .ok (.iaload, 1) := by decide +kernel
theorem dX11_undo_41 : decode cX11_undo 41 = .ok (.ireturn, 1) := by decide +kernel
theorem dX11_undo_20 : decode cX11_undo 20 = .ok (.bipush (-5), 2) := by decide +kernel
theorem dX11_undo_22 : decode cX11_undo 22 = .ok (.ireturn, 1) := by decide +kernel
theorem dX11_undo_7 : decode cX11_undo 7 = .ok (.bipush (-2), 2) := by decide +kernel
theorem dX11_undo_9 : decode cX11_undo 9 = .ok (.ireturn, 1) := by decide +kernel
theorem dX11_anew_0 : decode cX11_anew 0 = .ok (.aload_n 0, 1) := by decide +kernel
theorem dX11_anew_1 : decode cX11_anew 1 = .ok (.invokevirtual 83, 3) := by decide +kernel
theorem dX11_anew_4 : decode cX11_anew 4 = .ok (.ifCond .ne 6, 3) := by decide +kernel
theorem dX11_anew_10 : decode cX11_anew 10 = .ok (.aload_n 0, 1) := by decide +kernel
theorem dX11_anew_11 : decode cX11_anew 11 = .ok (.getfield 9, 3) := by decide +kernel
theorem dX11_anew_14 : decode cX11_anew 14 = .ok (.bipush 7, 2) := by decide +kernel
theorem dX11_anew_16 : decode cX11_anew 16 = .ok (.iaload, 1) := by decide +kernel
theorem dX11_anew_17 : decode cX11_anew 17 = .ok (.istore_n 1, 1) := by decide +kernel
theorem dX11_anew_18 : decode cX11_anew 18 = .ok (.aload_n 0, 1) := by decide +kernel
theorem dX11_anew_19 : decode cX11_anew 19 = .ok (.getfield 9, 3) := by decide +kernel
theorem dX11_anew_22 : decode cX11_anew 22 = .ok (.bipush 7, 2) := by decide +kernel
theorem dX11_anew_24 : decode cX11_anew 24 = .ok (.iconst 0, 1) := by decide +kernel
theorem dX11_anew_25 : decode cX11_anew 25 = .ok (.iastore, 1) := by decide +kernel
theorem dX11_anew_26 : decode cX11_anew 26 = .ok (.iload_n 1, 1) := by decide +kernel
theorem dX11_anew_27 : decode cX11_anew 27 = .ok (.ireturn, 1) := by decide +kernel
theorem dX11_anew_7 : decode cX11_anew 7 = .ok (.bipush (-2), 2) := by decide +kernel
theorem dX11_anew_9 : decode cX11_anew 9 = .ok (.ireturn, 1) := by decide +kernel
theorem dX11_later_0 : decode cX11_later 0 = .ok (.aload_n 0, 1) := by decide +kernel
theorem dX11_later_1 : decode cX11_later 1 = .ok (.iload_n 1, 1) := by decide +kernel
theorem dX11_later_2 : decode cX11_later 2 = .ok (.i2l, 1) := by decide +kernel
theorem dX11_later_3 : decode cX11_later 3 = .ok (.invokevirtual 275, 3) := by decide +kernel
theorem dX11_later_6 : decode cX11_later 6 = .ok (.ifCond .eq 15, 3) := by decide +kernel
theorem dX11_later_21 : decode cX11_later 21 = .ok (.bipush (-2), 2) := by decide +kernel
theorem dX11_later_23 : decode cX11_later 23 = .ok (.ireturn, 1) := by decide +kernel
theorem dX11_later_9 : decode cX11_later 9 = .ok (.iload_n 2, 1) := by decide +kernel
theorem dX11_later_10 : decode cX11_later 10 = .ok (.i2l, 1) := by decide +kernel
theorem dX11_later_11 : decode cX11_later 11 = .ok (.lconst 0, 1) := by decide +kernel
theorem dX11_later_12 : decode cX11_later 12 = .ok (.ldc2_w 284, 3) := by decide +kernel
theorem dX11_later_15 : decode cX11_later 15 = .ok (.invokestatic 79, 3) := by decide +kernel
theorem dX11_later_18 : decode cX11_later 18 = .ok (.ifCond .ne 6, 3) := by decide +kernel
theorem dX11_later_24 : decode cX11_later 24 = .ok (.aload_n 0, 1) := by decide +kernel
theorem dX11_later_25 : decode cX11_later 25 = .ok (.invokevirtual 278, 3) := by decide +kernel
theorem dX11_later_28 : decode cX11_later 28 = .ok (.iconst 0, 1) := by decide +kernel
theorem dX11_later_29 : decode cX11_later 29 = .ok (.istore_n 3, 1) := by decide +kernel
