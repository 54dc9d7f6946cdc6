theorem dX10_comesInto_5 : decode cX10_comesInto 5 = .ok (.getfield 48, 3) := by decide +kernel
theorem dX10_comesInto_8 : decode cX10_comesInto 8 = .ok (.invokevirtual 179, 3) := by decide +kernel
theorem dX10_comesInto_11 : decode cX10_comesInto 11 = .ok (.iconst 0, 1) := by decide +kernel
theorem dX10_comesInto_12 : decode cX10_comesInto 12 = .ok (.istore_n 3, 1) := by decide +kernel
theorem dX10_comesInto_13 : decode cX10_comesInto 13 = .ok (.iload_n 3, 1) := by decide +kernel
theorem dX10_comesInto_14 : decode cX10_comesInto 14 = .ok (.iload_n 2, 1) := by decide +kernel
theorem dX10_comesInto_15 : decode cX10_comesInto 15 = .ok (.if_icmp .ge 25, 3) := by decide +kernel
theorem dX10_comesInto_40 : decode cX10_comesInto 40 = .ok (.aload_n 0, 1) := by decide +kernel
theorem dX10_comesInto_41 : decode cX10_comesInto 41 = .ok (.getfield 52, 3) := by decide +kernel
theorem dX10_comesInto_44 : decode cX10_comesInto 44 = .ok (.iload_n 1, 1) := by decide +kernel
theorem dX10_comesInto_45 : decode cX10_comesInto 45 = .ok (.invokevirtual 148, 3) := by decide +kernel
theorem dX10_comesInto_48 : decode cX10_comesInto 48 = .ok (.ireturn, 1) := by decide +kernel
theorem dX10_comesInto_18 : decode cX10_comesInto 18 = .ok (.aload_n 0, 1) := by decide +kernel
theorem dX10_comesInto_19 : decode cX10_comesInto 19 = .ok (.getfield 52, 3) := by decide +kernel
theorem dX10_comesInto_22 : decode cX10_comesInto 22 = .ok (.aload_n 0, 1) := by decide +kernel
theorem dX10_comesInto_23 : decode cX10_comesInto 23 = .ok (.getfield 31, 3) := by decide +kernel
theorem dX10_comesInto_26 : decode cX10_comesInto 26 = .ok (.getfield 98, 3) := by decide +kernel
theorem dX10_comesInto_29 : decode cX10_comesInto 29 = .ok (.iload_n 1, 1) := by decide +kernel
theorem dX10_comesInto_30 : decode cX10_comesInto 30 = .ok (.invokevirtual 182, 3) := by decide +kernel
theorem dX10_comesInto_33 : decode cX10_comesInto 33 = .ok (.pop, 1) := by decide +kernel
theorem dX10_comesInto_34 : decode cX10_comesInto 34 = .ok (.iinc 3 1, 3) := by decide +kernel
theorem dX10_comesInto_37 : decode cX10_comesInto 37 = .ok (.goto (-24), 3) := by decide +kernel
theorem dX10_countRows_0 : decode cX10_countRows 0 = .ok (.iconst 0, 1) := by decide +kernel
theorem dX10_countRows_1 : decode cX10_countRows 1 = .ok (.istore_n 1, 1) := by decide +kernel
theorem dX10_countRows_2 : decode cX10_countRows 2 = .ok (.iconst 0, 1) := by decide +kernel
theorem dX10_countRows_3 : decode cX10_countRows 3 = .ok (.istore_n 2, 1) := by decide +kernel
theorem dX10_countRows_4 : decode cX10_countRows 4 = .ok (.iload_n 2, 1) := by decide +kernel
theorem dX10_countRows_5 : decode cX10_countRows 5 = .ok (.iconst 4, 1) := by decide +kernel
theorem dX10_countRows_6 : decode cX10_countRows 6 = .ok (.if_icmp .ge 24, 3) := by decide +kernel
theorem dX10_countRows_9 : decode cX10_countRows 9 = .ok (.aload_n 0, 1) := by decide +kernel
theorem dX10_countRows_10 : decode cX10_countRows 10 = .ok (.getfield 41, 3) := by decide +kernel
theorem dX10_countRows_13 : decode cX10_countRows 13 = .ok (.iload_n 2, 1) := by decide +kernel
theorem dX10_countRows_14 : decode cX10_countRows 14 = .ok (.aaload, 1) := by decide +kernel
theorem dX10_countRows_15 : decode cX10_countRows 15 = .ok (.getfield 354, 3) := by decide +kernel
theorem dX10_countRows_18 : decode cX10_countRows 18 = .ok (.ifCond .eq 6, 3) := by decide +kernel
theorem dX10_countRows_24 : decode cX10_countRows 24 = .ok (.iinc 2 1, 3) := by decide +kernel
theorem dX10_countRows_27 : decode cX10_countRows 27 = .ok (.goto (-23), 3) := by decide +kernel
theorem dX10_countRows_30 : decode cX10_countRows 30 = .ok (.iload_n 1, 1) := by decide +kernel
theorem dX10_countRows_31 : decode cX10_countRows 31 = .ok (.ireturn, 1) := by decide +kernel
theorem dX10_countRows_21 : decode cX10_countRows 21 = .ok (.iinc 1 1, 3) := by decide +kernel
theorem dX10_feed_0 : decode cX10_feed 0 = .ok (.aload_n 0, 1) := by decide +kernel
theorem dX10_feed_1 : decode cX10_feed 1 = .ok (.getfield 20, 3) := by decide +kernel
theorem dX10_feed_4 : decode cX10_feed 4 = .ok (.getfield 84, 3) := by decide +kernel
theorem dX10_feed_7 : decode cX10_feed 7 = .ok (.bipush 20, 2) := by decide +kernel
theorem dX10_feed_9 : decode cX10_feed 9 = .ok (.iadd, 1) := by decide +kernel
theorem dX10_feed_10 : decode cX10_feed 10 = .ok (.sipush 900, 3) := by decide +kernel
theorem dX10_feed_13 : decode cX10_feed 13 = .ok (.if_icmp .le 5, 3) := by decide +kernel
theorem dX10_feed_18 : decode cX10_feed 18 = .ok (.aload_n 0, 1) := by decide +kernel
theorem dX10_feed_19 : decode cX10_feed 19 = .ok (.getfield 20, 3) := by decide +kernel
theorem dX10_feed_22 : decode cX10_feed 22 = .ok (.iload_n 1, 1) := by decide +kernel
theorem dX10_feed_23 : decode cX10_feed 23 = .ok (.invokevirtual 90, 3) := by decide +kernel
theorem dX10_feed_26 : decode cX10_feed 26 = .ok (.aload_n 0, 1) := by decide +kernel
theorem dX10_feed_27 : decode cX10_feed 27 = .ok (.getfield 20, 3) := by decide +kernel
theorem dX10_feed_30 : decode cX10_feed 30 = .ok (.iload_n 2, 1) := by decide +kernel
theorem dX10_feed_31 : decode cX10_feed 31 = .ok (.invokevirtual 90, 3) := by decide +kernel
theorem dX10_feed_34 : decode cX10_feed 34 = .ok (.aload_n 0, 1) := by decide +kernel
theorem dX10_feed_35 : decode cX10_feed 35 = .ok (.getfield 20, 3) := by decide +kernel
theorem dX10_feed_38 : decode cX10_feed 38 = .ok (.iload_n 3, 1) := by decide +kernel
theorem dX10_feed_39 : decode cX10_feed 39 = .ok (.invokevirtual 90, 3) := by decide +kernel
theorem dX10_feed_42 : decode cX10_feed 42 = .ok (.aload_n 0, 1) := by decide +kernel
theorem dX10_feed_43 : decode cX10_feed 43 = .ok (.getfield 20, 3) := by decide +kernel
theorem dX10_feed_46 : decode cX10_feed 46 = .ok (.iload 4, 2) := by decide +kernel
theorem dX10_feed_48 : decode cX10_feed 48 = .ok (.invokevirtual 90, 3) := by decide +kernel
theorem dX10_feed_51 : decode cX10_feed 51 = .ok (.aload_n 0, 1) := by decide +kernel
theorem dX10_feed_52 : decode cX10_feed 52 = .ok (.getfield 20, 3) := by decide +kernel
theorem dX10_feed_55 : decode cX10_feed 55 = .ok (.iload 5, 2) := by decide +kernel
theorem dX10_feed_57 : decode cX10_feed 57 = .ok (.invokevirtual 90, 3) := by decide +kernel
theorem dX10_feed_60 : decode cX10_feed 60 = .ok (.aload_n 0, 1) := by decide +kernel
theorem dX10_feed_61 : decode cX10_feed 61 = .ok (.getfield 20, 3) := by decide +kernel
theorem dX10_feed_64 : decode cX10_feed 64 = .ok (.getfield 84, 3) := by decide +kernel
theorem dX10_feed_67 : decode cX10_feed 67 = .ok (.ireturn, 1) := by decide +kernel
theorem dX10_feed_16 : decode cX10_feed 16 = .ok (.iconst (-1), 1) := by decide +kernel
theorem dX10_feed_17 : decode cX10_feed 17 = .ok (.ireturn, 1) := by decide +kernel
theorem dX10_end_0 : decode cX10_end 0 = .ok (.iload_n 1, 1) := by decide +kernel
theorem dX10_end_1 : decode cX10_end 1 = .ok (.ifCond .lt 14, 3) := by decide +kernel
theorem dX10_end_15 : decode cX10_end 15 = .ok (.iconst (-1), 1) := by decide +kernel
theorem dX10_end_16 : decode cX10_end 16 = .ok (.ireturn, 1) := by decide +kernel
theorem dX10_end_4 : decode cX10_end 4 = .ok (.iload_n 1, 1) := by decide +kernel
theorem dX10_end_5 : decode cX10_end 5 = .ok (.aload_n 0, 1) := by decide +kernel
theorem dX10_end_6 : decode cX10_end 6 = .ok (.getfield 20, 3) := by decide +kernel
theorem dX10_end_9 : decode cX10_end 9 = .ok (.getfield 84, 3) := by decide +kernel
theorem dX10_end_12 : decode cX10_end 12 = .ok (.if_icmp .le 5, 3) := by decide +kernel
theorem dX10_end_17 : decode cX10_end 17 = .ok (.aload_n 0, 1) := by decide +kernel
theorem dX10_end_18 : decode cX10_end 18 = .ok (.getfield 20, 3) := by decide +kernel
theorem dX10_end_21 : decode cX10_end 21 = .ok (.iload_n 1, 1) := by decide +kernel
theorem dX10_end_22 : decode cX10_end 22 = .ok (.putfield 84, 3) := by decide +kernel
theorem dX10_end_25 : decode cX10_end 25 = .ok (.iload_n 1, 1) := by decide +kernel
theorem dX10_end_26 : decode cX10_end 26 = .ok (.ireturn, 1) := by decide +kernel
theorem dX10_house_0 : decode cX10_house 0 = .ok (.aload_n 0, 1) := by decide +kernel
theorem dX10_house_1 : decode cX10_house 1 = .ok (.getfield 10, 3) := by decide +kernel
theorem dX10_house_4 : decode cX10_house 4 = .ok (.aload_n 0, 1) := by decide +kernel
theorem dX10_house_5 : decode cX10_house 5 = .ok (.getfield 24, 3) := by decide +kernel
theorem dX10_house_8 : decode cX10_house 8 = .ok (.invokevirtual 94, 3) := by decide +kernel
theorem dX10_house_11 : decode cX10_house 11 = .ok (.ifCond .ne 6, 3) := by decide +kernel
theorem dX10_house_17 : decode cX10_house 17 = .ok (.aload_n 0, 1) := by decide +kernel
theorem dX10_house_18 : decode cX10_house 18 = .ok (.getfield 20, 3) := by decide +kernel
theorem dX10_house_21 : decode cX10_house 21 = .ok (.iconst 0, 1) := by decide +kernel
theorem dX10_house_22 : decode cX10_house 22 = .ok (.putfield 84, 3) := by decide +kernel
theorem dX10_house_25 : decode cX10_house 25 = .ok (.aload_n 0, 1) := by decide +kernel
theorem dX10_house_26 : decode cX10_house 26 = .ok (.getfield 31, 3) := by decide +kernel
theorem dX10_house_29 : decode cX10_house 29 = .ok (.getfield 98, 3) := by decide +kernel
theorem dX10_house_32 : decode cX10_house 32 = .ok (.aload_n 0, 1) := by decide +kernel
theorem dX10_house_33 : decode cX10_house 33 = .ok (.getfield 24, 3) := by decide +kernel
theorem dX10_house_36 : decode cX10_house 36 = .ok (.invokevirtual 101, 3) := by decide +kernel
theorem dX10_house_39 : decode cX10_house 39 = .ok (.aload_n 0, 1) := by decide +kernel
theorem dX10_house_40 : decode cX10_house 40 = .ok (.getfield 31, 3) := by decide +kernel
theorem dX10_house_43 : decode cX10_house 43 = .ok (.iconst 0, 1) := by decide +kernel
theorem dX10_house_44 : decode cX10_house 44 = .ok (.putfield 105, 3) := by decide +kernel
theorem dX10_house_47 : decode cX10_house 47 = .ok (.aload_n 0, 1) := by decide +kernel
theorem dX10_house_48 : decode cX10_house 48 = .ok (.invokevirtual 108, 3) := by decide +kernel
theorem dX10_house_51 : decode cX10_house 51 = .ok (.aload_n 0, 1) := by decide +kernel
theorem dX10_house_52 : decode cX10_house 52 = .ok (.getfield 31, 3) := by decide +kernel
theorem dX10_house_55 : decode cX10_house 55 = .ok (.getfield 98, 3) := by decide +kernel
theorem dX10_house_58 : decode cX10_house 58 = .ok (.getfield 111, 3) := by decide +kernel
theorem dX10_house_61 : decode cX10_house 61 = .ok (.ireturn, 1) := by decide +kernel
theorem dX10_house_14 : decode cX10_house 14 = .ok (.bipush (-4), 2) := by decide +kernel
theorem dX10_house_16 : decode cX10_house 16 = .ok (.ireturn, 1) := by decide +kernel
theorem dX10_fault_0 : decode cX10_fault 0 = .ok (.iload_n 1, 1) := by decide +kernel
theorem dX10_fault_1 : decode cX10_fault 1 = .ok (.lookupswitch 43 #[(0, 27), (1, 35)], 27) := by decide +kernel
theorem dX10_fault_44 : decode cX10_fault 44 = .ok (.iconst (-1), 1) := by decide +kernel
theorem dX10_fault_45 : decode cX10_fault 45 = .ok (.ireturn, 1) := by decide +kernel
theorem dX10_fault_28 : decode cX10_fault 28 = .ok (.aload_n 0, 1) := by decide +kernel
theorem dX10_fault_29 : decode cX10_fault 29 = .ok (.getfield 10, 3) := by decide +kernel
theorem dX10_fault_32 : decode cX10_fault 32 = .ok (.getfield 114, 3) := by decide +kernel
theorem dX10_fault_35 : decode cX10_fault 35 = .ok (.ireturn, 1) := by decide +kernel
theorem dX10_fault_36 : decode cX10_fault 36 = .ok (.aload_n 0, 1) := by decide +kernel
theorem dX10_fault_37 : decode cX10_fault 37 = .ok (.getfield 10, 3) := by decide +kernel
theorem dX10_fault_40 : decode cX10_fault 40 = .ok (.getfield 117, 3) := by decide +kernel
theorem dX10_fault_43 : decode cX10_fault 43 = .ok (.ireturn, 1) := by decide +kernel
theorem dX10_room_0 : decode cX10_room 0 = .ok (.aload_n 0, 1) := by decide +kernel
theorem dX10_room_1 : decode cX10_room 1 = .ok (.iload_n 1, 1) := by decide +kernel
theorem dX10_room_2 : decode cX10_room 2 = .ok (.invokevirtual 120, 3) := by decide +kernel
theorem dX10_room_5 : decode cX10_room 5 = .ok (.ifCond .eq 12, 3) := by decide +kernel
theorem dX10_room_17 : decode cX10_room 17 = .ok (.bipush (-2), 2) := by decide +kernel
theorem dX10_room_19 : decode cX10_room 19 = .ok (.ireturn, 1) := by decide +kernel
theorem dX10_room_8 : decode cX10_room 8 = .ok (.iload_n 2, 1) := by decide +kernel
theorem dX10_room_9 : decode cX10_room 9 = .ok (.ifCond .lt 8, 3) := by decide +kernel
theorem dX10_room_12 : decode cX10_room 12 = .ok (.iload_n 2, 1) := by decide +kernel
theorem dX10_room_13 : decode cX10_room 13 = .ok (.iconst 3, 1) := by decide +kernel
theorem dX10_room_14 : decode cX10_room 14 = .ok (.if_icmp .le 6, 3) := by decide +kernel
theorem dX10_room_20 : decode cX10_room 20 = .ok (.aload_n 0, 1) := by decide +kernel
theorem dX10_room_21 : decode cX10_room 21 = .ok (.getfield 31, 3) := by decide +kernel
theorem dX10_room_24 : decode cX10_room 24 = .ok (.getfield 98, 3) := by decide +kernel
theorem dX10_room_27 : decode cX10_room 27 = .ok (.iload_n 2, 1) := by decide +kernel
theorem dX10_room_28 : decode cX10_room 28 = .ok (.invokevirtual 124, 3) := by decide +kernel
theorem dX10_room_31 : decode cX10_room 31 = .ok (.iload_n 1, 1) := by decide +kernel
theorem dX10_room_32 : decode cX10_room 32 = .ok (.iaload, 1) := by decide +kernel
theorem dX10_room_33 : decode cX10_room 33 = .ok (.ireturn, 1) := by decide +kernel
theorem dX10_man_0 : decode cX10_man 0 = .ok (.aload_n 0, 1) := by decide +kernel
theorem dX10_man_1 : decode cX10_man 1 = .ok (.iload_n 1, 1) := by decide +kernel
theorem dX10_man_2 : decode cX10_man 2 = .ok (.invokevirtual 128, 3) := by decide +kernel
theorem dX10_man_5 : decode cX10_man 5 = .ok (.ifCond .eq 12, 3) := by decide +kernel
theorem dX10_man_17 : decode cX10_man 17 = .ok (.bipush (-2), 2) := by decide +kernel
theorem dX10_man_19 : decode cX10_man 19 = .ok (.ireturn, 1) := by decide +kernel
theorem dX10_man_8 : decode cX10_man 8 = .ok (.iload_n 2, 1) := by decide +kernel
theorem dX10_man_9 : decode cX10_man 9 = .ok (.ifCond .lt 8, 3) := by decide +kernel
theorem dX10_man_12 : decode cX10_man 12 = .ok (.iload_n 2, 1) := by decide +kernel
theorem dX10_man_13 : decode cX10_man 13 = .ok (.iconst 1, 1) := by decide +kernel
theorem dX10_man_14 : decode cX10_man 14 = .ok (.if_icmp .le 6, 3) := by decide +kernel
theorem dX10_man_20 : decode cX10_man 20 = .ok (.iload_n 2, 1) := by decide +kernel
theorem dX10_man_21 : decode cX10_man 21 = .ok (.ifCond .ne 18, 3) := by decide +kernel
theorem dX10_man_39 : decode cX10_man 39 = .ok (.aload_n 0, 1) := by decide +kernel
theorem dX10_man_40 : decode cX10_man 40 = .ok (.getfield 31, 3) := by decide +kernel
theorem dX10_man_43 : decode cX10_man 43 = .ok (.getfield 98, 3) := by decide +kernel
theorem dX10_man_46 : decode cX10_man 46 = .ok (.getfield 135, 3) := by decide +kernel
theorem dX10_man_49 : decode cX10_man 49 = .ok (.iload_n 1, 1) := by decide +kernel
theorem dX10_man_50 : decode cX10_man 50 = .ok (.iaload, 1) := by decide +kernel
theorem dX10_man_51 : decode cX10_man 51 = .ok (.ireturn, 1) := by decide +kernel
theorem dX10_man_24 : decode cX10_man 24 = .ok (.aload_n 0, 1) := by decide +kernel
theorem dX10_man_25 : decode cX10_man 25 = .ok (.getfield 31, 3) := by decide +kernel
theorem dX10_man_28 : decode cX10_man 28 = .ok (.getfield 98, 3) := by decide +kernel
theorem dX10_man_31 : decode cX10_man 31 = .ok (.getfield 131, 3) := by decide +kernel
theorem dX10_man_34 : decode cX10_man 34 = .ok (.iload_n 1, 1) := by decide +kernel
theorem dX10_man_35 : decode cX10_man 35 = .ok (.iaload, 1) := by decide +kernel
theorem dX10_man_36 : decode cX10_man 36 = .ok (.goto 15, 3) := by decide +kernel
theorem dX10_slate_0 : decode cX10_slate 0 = .ok (.aload_n 0, 1) := by decide +kernel
theorem dX10_slate_1 : decode cX10_slate 1 = .ok (.iload_n 1, 1) := by decide +kernel
theorem dX10_slate_2 : decode cX10_slate 2 = .ok (.invokevirtual 128, 3) := by decide +kernel
theorem dX10_slate_5 : decode cX10_slate 5 = .ok (.ifCond .eq 11, 3) := by decide +kernel
theorem dX10_slate_16 : decode cX10_slate 16 = .ok (.bipush (-2), 2) := by decide +kernel
theorem dX10_slate_18 : decode cX10_slate 18 = .ok (.ireturn, 1) := by decide +kernel
theorem dX10_slate_8 : decode cX10_slate 8 = .ok (.aload_n 0, 1) := by decide +kernel
theorem dX10_slate_9 : decode cX10_slate 9 = .ok (.iload_n 2, 1) := by decide +kernel
theorem dX10_slate_10 : decode cX10_slate 10 = .ok (.invokevirtual 128, 3) := by decide +kernel
theorem dX10_slate_13 : decode cX10_slate 13 = .ok (.ifCond .ne 6, 3) := by decide +kernel
theorem dX10_slate_19 : decode cX10_slate 19 = .ok (.aload_n 0, 1) := by decide +kernel
theorem dX10_slate_20 : decode cX10_slate 20 = .ok (.getfield 31, 3) := by decide +kernel
theorem dX10_slate_23 : decode cX10_slate 23 = .ok (.getfield 98, 3) := by decide +kernel
theorem dX10_slate_26 : decode cX10_slate 26 = .ok (.getfield 138, 3) := by decide +kernel
theorem dX10_slate_29 : decode cX10_slate 29 = .ok (.iload_n 1, 1) := by decide +kernel
theorem dX10_slate_30 : decode cX10_slate 30 = .ok (.bipush 6, 2) := by decide +kernel
theorem dX10_slate_32 : decode cX10_slate 32 = .ok (.imul, 1) := by decide +kernel
theorem dX10_slate_33 : decode cX10_slate 33 = .ok (.iload_n 2, 1) := by decide +kernel
theorem dX10_slate_34 : decode cX10_slate 34 = .ok (.iadd, 1) := by decide +kernel
theorem dX10_slate_35 : decode cX10_slate 35 = .ok (.iaload, 1) := by decide +kernel
theorem dX10_slate_36 : decode cX10_slate 36 = .ok (.ireturn, 1) := by decide +kernel
theorem dX10_hears_0 : decode cX10_hears 0 = .ok (.aload_n 0, 1) := by decide +kernel
theorem dX10_hears_1 : decode cX10_hears 1 = .ok (.iload_n 1, 1) := by decide +kernel
theorem dX10_hears_2 : decode cX10_hears 2 = .ok (.invokevirtual 120, 3) := by decide +kernel
theorem dX10_hears_5 : decode cX10_hears 5 = .ok (.ifCond .eq 13, 3) := by decide +kernel
theorem dX10_hears_18 : decode cX10_hears 18 = .ok (.bipush (-2), 2) := by decide +kernel
theorem dX10_hears_20 : decode cX10_hears 20 = .ok (.ireturn, 1) := by decide +kernel
theorem dX10_hears_8 : decode cX10_hears 8 = .ok (.iload_n 2, 1) := by decide +kernel
theorem dX10_hears_9 : decode cX10_hears 9 = .ok (.ifCond .lt 9, 3) := by decide +kernel
theorem dX10_hears_12 : decode cX10_hears 12 = .ok (.iload_n 2, 1) := by decide +kernel
theorem dX10_hears_13 : decode cX10_hears 13 = .ok (.bipush 9, 2) := by decide +kernel
theorem dX10_hears_15 : decode cX10_hears 15 = .ok (.if_icmp .le 6, 3) := by decide +kernel
theorem dX10_hears_21 : decode cX10_hears 21 = .ok (.aload_n 0, 1) := by decide +kernel
theorem dX10_hears_22 : decode cX10_hears 22 = .ok (.getfield 31, 3) := by decide +kernel
theorem dX10_hears_25 : decode cX10_hears 25 = .ok (.getfield 98, 3) := by decide +kernel
theorem dX10_hears_28 : decode cX10_hears 28 = .ok (.iload_n 1, 1) := by decide +kernel
theorem dX10_hears_29 : decode cX10_hears 29 = .ok (.iload_n 2, 1) := by decide +kernel
theorem dX10_hears_30 : decode cX10_hears 30 = .ok (.invokevirtual 141, 3) := by decide +kernel
theorem dX10_hears_33 : decode cX10_hears 33 = .ok (.ireturn, 1) := by decide +kernel
theorem dX10_parts_0 : decode cX10_parts 0 = .ok (.aload_n 0, 1) := by decide +kernel
theorem dX10_parts_1 : decode cX10_parts 1 = .ok (.iload_n 1, 1) := by decide +kernel
theorem dX10_parts_2 : decode cX10_parts 2 = .ok (.invokevirtual 145, 3) := by decide +kernel
theorem dX10_parts_5 : decode cX10_parts 5 = .ok (.ifCond .eq 14, 3) := by decide +kernel
theorem dX10_parts_19 : decode cX10_parts 19 = .ok (.bipush (-2), 2) := by decide +kernel
theorem dX10_parts_21 : decode cX10_parts 21 = .ok (.ireturn, 1) := by decide +kernel
theorem dX10_parts_8 : decode cX10_parts 8 = .ok (.aload_n 0, 1) := by decide +kernel
theorem dX10_parts_9 : decode cX10_parts 9 = .ok (.getfield 48, 3) := by decide +kernel
theorem dX10_parts_12 : decode cX10_parts 12 = .ok (.iload_n 1, 1) := by decide +kernel
theorem dX10_parts_13 : decode cX10_parts 13 = .ok (.invokevirtual 148, 3) := by decide +kernel
theorem dX10_parts_16 : decode cX10_parts 16 = .ok (.goto 5, 3) := by decide +kernel
theorem dX10_found_0 : decode cX10_found 0 = .ok (.aload_n 0, 1) := by decide +kernel
theorem dX10_found_1 : decode cX10_found 1 = .ok (.invokevirtual 152, 3) := by decide +kernel
theorem dX10_found_4 : decode cX10_found 4 = .ok (.ifCond .eq 13, 3) := by decide +kernel
theorem dX10_found_17 : decode cX10_found 17 = .ok (.bipush (-2), 2) := by decide +kernel
theorem dX10_found_19 : decode cX10_found 19 = .ok (.ireturn, 1) := by decide +kernel
theorem dX10_found_7 : decode cX10_found 7 = .ok (.aload_n 0, 1) := by decide +kernel
theorem dX10_found_8 : decode cX10_found 8 = .ok (.getfield 48, 3) := by decide +kernel
theorem dX10_found_11 : decode cX10_found 11 = .ok (.getfield 156, 3) := by decide +kernel
theorem dX10_found_14 : decode cX10_found 14 = .ok (.goto 5, 3) := by decide +kernel
theorem dX10_likely_0 : decode cX10_likely 0 = .ok (.aload_n 0, 1) := by decide +kernel
theorem dX10_likely_1 : decode cX10_likely 1 = .ok (.invokevirtual 152, 3) := by decide +kernel
theorem dX10_likely_4 : decode cX10_likely 4 = .ok (.ifCond .ne 6, 3) := by decide +kernel
theorem dX10_likely_10 : decode cX10_likely 10 = .ok (.iconst (-1), 1) := by decide +kernel
theorem dX10_likely_11 : decode cX10_likely 11 = .ok (.istore_n 1, 1) := by decide +kernel
theorem dX10_likely_12 : decode cX10_likely 12 = .ok (.iconst 0, 1) := by decide +kernel
theorem dX10_likely_13 : decode cX10_likely 13 = .ok (.istore_n 2, 1) := by decide +kernel
theorem dX10_likely_14 : decode cX10_likely 14 = .ok (.iload_n 2, 1) := by decide +kernel
theorem dX10_likely_15 : decode cX10_likely 15 = .ok (.aload_n 0, 1) := by decide +kernel
theorem dX10_likely_16 : decode cX10_likely 16 = .ok (.getfield 31, 3) := by decide +kernel
theorem dX10_likely_19 : decode cX10_likely 19 = .ok (.getfield 98, 3) := by decide +kernel
theorem dX10_likely_22 : decode cX10_likely 22 = .ok (.getfield 159, 3) := by decide +kernel
theorem dX10_likely_25 : decode cX10_likely 25 = .ok (.if_icmp .ge 37, 3) := by decide +kernel
theorem dX10_likely_62 : decode cX10_likely 62 = .ok (.iload_n 1, 1) := by decide +kernel
theorem dX10_likely_63 : decode cX10_likely 63 = .ok (.ireturn, 1) := by decide +kernel
theorem dX10_likely_28 : decode cX10_likely 28 = .ok (.iload_n 1, 1) := by decide +kernel
theorem dX10_likely_29 : decode cX10_likely 29 = .ok (.iconst (-1), 1) := by decide +kernel
theorem dX10_likely_56 : decode cX10_likely 56 = .ok (.iinc 2 1, 3) := by decide +kernel
theorem dX10_likely_59 : decode cX10_likely 59 = .ok (.goto (-45), 3) := by decide +kernel
theorem dX10_likely_54 : decode cX10_likely 54 = .ok (.iload_n 2, 1) := by decide +kernel
theorem dX10_likely_55 : decode cX10_likely 55 = .ok (.istore_n 1, 1) := by decide +kernel
theorem dX10_likely_30 : decode cX10_likely 30 = .ok (.if_icmp .eq 24, 3) := by decide +kernel
theorem dX10_likely_33 : decode cX10_likely 33 = .ok (.aload_n 0, 1) := by decide +kernel
theorem dX10_likely_34 : decode cX10_likely 34 = .ok (.getfield 48, 3) := by decide +kernel
theorem dX10_likely_37 : decode cX10_likely 37 = .ok (.getfield 162, 3) := by decide +kernel
theorem dX10_likely_40 : decode cX10_likely 40 = .ok (.iload_n 2, 1) := by decide +kernel
theorem dX10_likely_41 : decode cX10_likely 41 = .ok (.iaload, 1) := by decide +kernel
theorem dX10_likely_42 : decode cX10_likely 42 = .ok (.aload_n 0, 1) := by decide +kernel
theorem dX10_likely_43 : decode cX10_likely 43 = .ok (.getfield 48, 3) := by decide +kernel
theorem dX10_likely_46 : decode cX10_likely 46 = .ok (.getfield 162, 3) := by decide +kernel
theorem dX10_likely_49 : decode cX10_likely 49 = .ok (.iload_n 1, 1) := by decide +kernel
theorem dX10_likely_50 : decode cX10_likely 50 = .ok (.iaload, 1) := by decide +kernel
theorem dX10_likely_51 : decode cX10_likely 51 = .ok (.if_icmp .le 5, 3) := by decide +kernel
theorem dX10_likely_7 : decode cX10_likely 7 = .ok (.bipush (-2), 2) := by decide +kernel
theorem dX10_likely_9 : decode cX10_likely 9 = .ok (.ireturn, 1) := by decide +kernel
theorem dX10_here_0 : decode cX10_here 0 = .ok (.aload_n 0, 1) := by decide +kernel
theorem dX10_here_1 : decode cX10_here 1 = .ok (.invokevirtual 152, 3) := by decide +kernel
theorem dX10_here_4 : decode cX10_here 4 = .ok (.ifCond .eq 13, 3) := by decide +kernel
theorem dX10_here_17 : decode cX10_here 17 = .ok (.bipush (-2), 2) := by decide +kernel
theorem dX10_here_19 : decode cX10_here 19 = .ok (.ireturn, 1) := by decide +kernel
theorem dX10_here_7 : decode cX10_here 7 = .ok (.aload_n 0, 1) := by decide +kernel
theorem dX10_here_8 : decode cX10_here 8 = .ok (.getfield 48, 3) := by decide +kernel
theorem dX10_here_11 : decode cX10_here 11 = .ok (.invokevirtual 165, 3) := by decide +kernel
theorem dX10_here_14 : decode cX10_here 14 = .ok (.goto 5, 3) := by decide +kernel
theorem dX10_chance_0 : decode cX10_chance 0 = .ok (.aload_n 0, 1) := by decide +kernel
theorem dX10_chance_1 : decode cX10_chance 1 = .ok (.iload_n 1, 1) := by decide +kernel
theorem dX10_chance_2 : decode cX10_chance 2 = .ok (.invokevirtual 145, 3) := by decide +kernel
theorem dX10_chance_5 : decode cX10_chance 5 = .ok (.ifCond .eq 21, 3) := by decide +kernel
theorem dX10_chance_26 : decode cX10_chance 26 = .ok (.bipush (-2), 2) := by decide +kernel
theorem dX10_chance_28 : decode cX10_chance 28 = .ok (.ireturn, 1) := by decide +kernel
theorem dX10_chance_8 : decode cX10_chance 8 = .ok (.aload_n 0, 1) := by decide +kernel
theorem dX10_chance_9 : decode cX10_chance 9 = .ok (.getfield 48, 3) := by decide +kernel
theorem dX10_chance_12 : decode cX10_chance 12 = .ok (.aload_n 0, 1) := by decide +kernel
theorem dX10_chance_13 : decode cX10_chance 13 = .ok (.getfield 48, 3) := by decide +kernel
theorem dX10_chance_16 : decode cX10_chance 16 = .ok (.iload_n 1, 1) := by decide +kernel
theorem dX10_chance_17 : decode cX10_chance 17 = .ok (.invokevirtual 148, 3) := by decide +kernel
theorem dX10_chance_20 : decode cX10_chance 20 = .ok (.invokevirtual 169, 3) := by decide +kernel
theorem dX10_chance_23 : decode cX10_chance 23 = .ok (.goto 5, 3) := by decide +kernel
theorem dX10_call_0 : decode cX10_call 0 = .ok (.aload_n 0, 1) := by decide +kernel
theorem dX10_call_1 : decode cX10_call 1 = .ok (.iload_n 1, 1) := by decide +kernel
theorem dX10_call_2 : decode cX10_call 2 = .ok (.invokevirtual 145, 3) := by decide +kernel
theorem dX10_call_5 : decode cX10_call 5 = .ok (.ifCond .ne 6, 3) := by decide +kernel
theorem dX10_call_11 : decode cX10_call 11 = .ok (.aload_n 0, 1) := by decide +kernel
theorem dX10_call_12 : decode cX10_call 12 = .ok (.getfield 31, 3) := by decide +kernel
theorem dX10_call_15 : decode cX10_call 15 = .ok (.getfield 105, 3) := by decide +kernel
theorem dX10_call_18 : decode cX10_call 18 = .ok (.bipush 60, 2) := by decide +kernel
theorem dX10_call_20 : decode cX10_call 20 = .ok (.if_icmp .lt 6, 3) := by decide +kernel
theorem dX10_call_26 : decode cX10_call 26 = .ok (.aload_n 0, 1) := by decide +kernel
theorem dX10_call_27 : decode cX10_call 27 = .ok (.getfield 31, 3) := by decide +kernel
theorem dX10_call_30 : decode cX10_call 30 = .ok (.getfield 172, 3) := by decide +kernel
theorem dX10_call_33 : decode cX10_call 33 = .ok (.aload_n 0, 1) := by decide +kernel
theorem dX10_call_34 : decode cX10_call 34 = .ok (.getfield 31, 3) := by decide +kernel
theorem dX10_call_37 : decode cX10_call 37 = .ok (.getfield 105, 3) := by decide +kernel
theorem dX10_call_40 : decode cX10_call 40 = .ok (.iload_n 1, 1) := by decide +kernel
theorem dX10_call_41 : decode cX10_call 41 = .ok (.iastore, 1) := by decide +kernel
theorem dX10_call_42 : decode cX10_call 42 = .ok (.aload_n 0, 1) := by decide +kernel
theorem dX10_call_43 : decode cX10_call 43 = .ok (.getfield 31, 3) := by decide +kernel
theorem dX10_call_46 : decode cX10_call 46 = .ok (.dup, 1) := by decide +kernel
theorem dX10_call_47 : decode cX10_call 47 = .ok (.getfield 105, 3) := by decide +kernel
theorem dX10_call_50 : decode cX10_call 50 = .ok (.iconst 1, 1) := by decide +kernel
theorem dX10_call_51 : decode cX10_call 51 = .ok (.iadd, 1) := by decide +kernel
theorem dX10_call_52 : decode cX10_call 52 = .ok (.putfield 105, 3) := by decide +kernel
theorem dX10_call_55 : decode cX10_call 55 = .ok (.aload_n 0, 1) := by decide +kernel
theorem dX10_call_56 : decode cX10_call 56 = .ok (.getfield 48, 3) := by decide +kernel
theorem dX10_call_59 : decode cX10_call 59 = .ok (.aload_n 0, 1) := by decide +kernel
theorem dX10_call_60 : decode cX10_call 60 = .ok (.getfield 31, 3) := by decide +kernel
theorem dX10_call_63 : decode cX10_call 63 = .ok (.getfield 98, 3) := by decide +kernel
theorem dX10_call_66 : decode cX10_call 66 = .ok (.iload_n 1, 1) := by decide +kernel
theorem dX10_call_67 : decode cX10_call 67 = .ok (.iconst 0, 1) := by decide +kernel
theorem dX10_call_68 : decode cX10_call 68 = .ok (.invokevirtual 175, 3) := by decide +kernel
theorem dX10_call_71 : decode cX10_call 71 = .ok (.ireturn, 1) := by decide +kernel
theorem dX10_call_23 : decode cX10_call 23 = .ok (.bipush (-5), 2) := by decide +kernel
theorem dX10_call_25 : decode cX10_call 25 = .ok (.ireturn, 1) := by decide +kernel
theorem dX10_call_8 : decode cX10_call 8 = .ok (.bipush (-2), 2) := by decide +kernel
theorem dX10_call_10 : decode cX10_call 10 = .ok (.ireturn, 1) := by decide +kernel
theorem dX10_undo_0 : decode cX10_undo 0 = .ok (.aload_n 0, 1) := by decide +kernel
theorem dX10_undo_1 : decode cX10_undo 1 = .ok (.invokevirtual 152, 3) := by decide +kernel
theorem dX10_undo_4 : decode cX10_undo 4 = .ok (.ifCond .ne 6, 3) := by decide +kernel
theorem dX10_undo_10 : decode cX10_undo 10 = .ok (.aload_n 0, 1) := by decide +kernel
theorem dX10_undo_11 : decode cX10_undo 11 = .ok (.getfield 31, 3) := by decide +kernel
theorem dX10_undo_14 : decode cX10_undo 14 = .ok (.getfield 105, 3) := by decide +kernel
theorem dX10_undo_17 : decode cX10_undo 17 = .ok (.iconst 1, 1) := by decide +kernel
theorem dX10_undo_18 : decode cX10_undo 18 = .ok (.if_icmp .ge 6, 3) := by decide +kernel
theorem dX10_undo_24 : decode cX10_undo 24 = .ok (.aload_n 0, 1) := by decide +kernel
theorem dX10_undo_25 : decode cX10_undo 25 = .ok (.getfield 31, 3) := by decide +kernel
theorem dX10_undo_28 : decode cX10_undo 28 = .ok (.dup, 1) := by decide +kernel
theorem dX10_undo_29 : decode cX10_undo 29 = .ok (.getfield 105, 3) := by decide +kernel
theorem dX10_undo_32 : decode cX10_undo 32 = .ok (.iconst 1, 1) := by decide +kernel
theorem dX10_undo_33 : decode cX10_undo 33 = .ok (.isub, 1) := by decide +kernel
theorem dX10_undo_34 : decode cX10_undo 34 = .ok (.putfield 105, 3) := by decide +kernel
theorem dX10_undo_37 : decode cX10_undo 37 = .ok (.aload_n 0, 1) := by decide +kernel
theorem dX10_undo_38 : decode cX10_undo 38 = .ok (.invokevirtual 108, 3) := by decide +kernel
theorem dX10_undo_41 : decode cX10_undo 41 = .ok (.aload_n 0, 1) := by decide +kernel
theorem dX10_undo_42 : decode cX10_undo 42 = .ok (.getfield 31, 3) := by decide +kernel
theorem dX10_undo_45 : decode cX10_undo 45 = .ok (.getfield 105, 3) := by decide +kernel
theorem dX10_undo_48 : decode cX10_undo 48 = .ok (.ireturn, 1) := by decide +kernel
theorem dX10_undo_21 : decode cX10_undo 21 = .ok (.bipush (-5), 2) := by decide +kernel
theorem dX10_undo_23 : decode cX10_undo 23 = .ok (.ireturn, 1) := by decide +kernel
theorem dX10_undo_7 : decode cX10_undo 7 = .ok (.bipush (-2), 2) := by decide +kernel
theorem dX10_undo_9 : decode cX10_undo 9 = .ok (.ireturn, 1) := by decide +kernel
theorem dX10_anew_0 : decode cX10_anew 0 = .ok (.aload_n 0, 1) := by decide +kernel
theorem dX10_anew_1 : decode cX10_anew 1 = .ok (.invokevirtual 152, 3) := by decide +kernel
theorem dX10_anew_4 : decode cX10_anew 4 = .ok (.ifCond .ne 6, 3) := by decide +kernel
theorem dX10_anew_10 : decode cX10_anew 10 = .ok (.aload_n 0, 1) := by decide +kernel
theorem dX10_anew_11 : decode cX10_anew 11 = .ok (.getfield 31, 3) := by decide +kernel
theorem dX10_anew_14 : decode cX10_anew 14 = .ok (.getfield 105, 3) := by decide +kernel
theorem dX10_anew_17 : decode cX10_anew 17 = .ok (.istore_n 1, 1) := by decide +kernel
theorem dX10_anew_18 : decode cX10_anew 18 = .ok (.aload_n 0, 1) := by decide +kernel
theorem dX10_anew_19 : decode cX10_anew 19 = .ok (.getfield 31, 3) := by decide +kernel
theorem dX10_anew_22 : decode cX10_anew 22 = .ok (.iconst 0, 1) := by decide +kernel
theorem dX10_anew_23 : decode cX10_anew 23 = .ok (.putfield 105, 3) := by decide +kernel
theorem dX10_anew_26 : decode cX10_anew 26 = .ok (.aload_n 0, 1) := by decide +kernel
theorem dX10_anew_27 : decode cX10_anew 27 = .ok (.invokevirtual 108, 3) := by decide +kernel
theorem dX10_anew_30 : decode cX10_anew 30 = .ok (.iload_n 1, 1) := by decide +kernel
theorem dX10_anew_31 : decode cX10_anew 31 = .ok (.ireturn, 1) := by decide +kernel
theorem dX10_anew_7 : decode cX10_anew 7 = .ok (.bipush (-2), 2) := by decide +kernel
theorem dX10_anew_9 : decode cX10_anew 9 = .ok (.ireturn, 1) := by decide +kernel
theorem dX10_later_0 : decode cX10_later 0 = .ok (.aload_n 0, 1) := by decide +kernel
theorem dX10_later_1 : decode cX10_later 1 = .ok (.iload_n 1, 1) := by decide +kernel
theorem dX10_later_2 : decode cX10_later 2 = .ok (.invokevirtual 145, 3) := by decide +kernel
theorem dX10_later_5 : decode cX10_later 5 = .ok (.ifCond .eq 14, 3) := by decide +kernel
theorem dX10_later_19 : decode cX10_later 19 = .ok (.bipush (-2), 2) := by decide +kernel
theorem dX10_later_21 : decode cX10_later 21 = .ok (.ireturn, 1) := by decide +kernel
theorem dX10_later_8 : decode cX10_later 8 = .ok (.iload_n 2, 1) := by decide +kernel
theorem dX10_later_9 : decode cX10_later 9 = .ok (.ifCond .lt 10, 3) := by decide +kernel
theorem dX10_later_12 : decode cX10_later 12 = .ok (.iload_n 2, 1) := by decide +kernel
theorem dX10_later_13 : decode cX10_later 13 = .ok (.sipush 200, 3) := by decide +kernel
theorem dX10_later_16 : decode cX10_later 16 = .ok (.if_icmp .le 6, 3) := by decide +kernel
theorem dX10_later_22 : decode cX10_later 22 = .ok (.aload_n 0, 1) := by decide +kernel
theorem dX10_later_23 : decode cX10_later 23 = .ok (.getfield 52, 3) := by decide +kernel
theorem dX10_later_26 : decode cX10_later 26 = .ok (.aload_n 0, 1) := by decide +kernel
theorem dX10_later_27 : decode cX10_later 27 = .ok (.getfield 48, 3) := by decide +kernel
theorem dX10_later_30 : decode cX10_later 30 = .ok (.invokevirtual 179, 3) := by decide +kernel
theorem dX10_later_33 : decode cX10_later 33 = .ok (.iconst 0, 1) := by decide +kernel
theorem dX10_later_34 : decode cX10_later 34 = .ok (.istore_n 3, 1) := by decide +kernel
theorem dX10_later_35 : decode cX10_later 35 = .ok (.iload_n 3, 1) := by decide +kernel
theorem dX10_later_36 : decode cX10_later 36 = .ok (.iload_n 2, 1) := by decide +kernel
theorem dX10_later_37 : decode cX10_later 37 = .ok (.if_icmp .ge 25, 3) := by decide +kernel
theorem dX10_later_62 : decode cX10_later 62 = .ok (.aload_n 0, 1) := by decide +kernel
theorem dX10_later_63 : decode cX10_later 63 = .ok (.getfield 52, 3) := by decide +kernel
theorem dX10_later_66 : decode cX10_later 66 = .ok (.iload_n 1, 1) := by decide +kernel
theorem dX10_later_67 : decode cX10_later 67 = .ok (.invokevirtual 148, 3) := by decide +kernel
theorem dX10_later_70 : decode cX10_later 70 = .ok (.ireturn, 1) := by decide +kernel
theorem dX10_later_40 : decode cX10_later 40 = .ok (.aload_n 0, 1) := by decide +kernel
theorem dX10_later_41 : decode cX10_later 41 = .ok (.getfield 52, 3) := by decide +kernel
theorem dX10_later_44 : decode cX10_later 44 = .ok (.aload_n 0, 1) := by decide +kernel
theorem dX10_later_45 : decode cX10_later 45 = .ok (.getfield 31, 3) := by decide +kernel
theorem dX10_later_48 : decode cX10_later 48 = .ok (.getfield 98, 3) := by decide +kernel
theorem dX10_later_51 : decode cX10_later 51 = .ok (.iconst (-1), 1) := by decide +kernel
theorem dX10_later_52 : decode cX10_later 52 = .ok (.invokevirtual 182, 3) := by decide +kernel
theorem dX10_later_55 : decode cX10_later 55 = .ok (.pop, 1) := by decide +kernel
theorem dX10_later_56 : decode cX10_later 56 = .ok (.iinc 3 1, 3) := by decide +kernel
theorem dX10_later_59 : decode cX10_later 59 = .ok (.goto (-24), 3) := by decide +kernel
theorem dX10_round_0 : decode cX10_round 0 = .ok (.aload_n 0, 1) := by decide +kernel
theorem dX10_round_1 : decode cX10_round 1 = .ok (.iload_n 1, 1) := by decide +kernel
theorem dX10_round_2 : decode cX10_round 2 = .ok (.iconst 1, 1) := by decide +kernel
theorem dX10_round_3 : decode cX10_round 3 = .ok (.invokevirtual 186, 3) := by decide +kernel
theorem dX10_round_6 : decode cX10_round 6 = .ok (.istore_n 2, 1) := by decide +kernel
theorem dX10_round_7 : decode cX10_round 7 = .ok (.iload_n 2, 1) := by decide +kernel
theorem dX10_round_8 : decode cX10_round 8 = .ok (.ifCond .eq 7, 3) := by decide +kernel
theorem dX10_round_15 : decode cX10_round 15 = .ok (.aload_n 0, 1) := by decide +kernel
theorem dX10_round_16 : decode cX10_round 16 = .ok (.aload_n 0, 1) := by decide +kernel
theorem dX10_round_17 : decode cX10_round 17 = .ok (.getfield 41, 3) := by decide +kernel
theorem dX10_round_20 : decode cX10_round 20 = .ok (.iload_n 1, 1) := by decide +kernel
theorem dX10_round_21 : decode cX10_round 21 = .ok (.aaload, 1) := by decide +kernel
theorem dX10_round_22 : decode cX10_round 22 = .ok (.iconst 0, 1) := by decide +kernel
theorem dX10_round_23 : decode cX10_round 23 = .ok (.invokevirtual 190, 3) := by decide +kernel
theorem dX10_round_26 : decode cX10_round 26 = .ok (.ireturn, 1) := by decide +kernel
theorem dX10_round_11 : decode cX10_round 11 = .ok (.iload_n 2, 1) := by decide +kernel
theorem dX10_round_12 : decode cX10_round 12 = .ok (.goto 14, 3) := by decide +kernel
theorem dX10_disturbs_0 : decode cX10_disturbs 0 = .ok (.aload_n 0, 1) := by decide +kernel
theorem dX10_disturbs_1 : decode cX10_disturbs 1 = .ok (.iload_n 1, 1) := by decide +kernel
theorem dX10_disturbs_2 : decode cX10_disturbs 2 = .ok (.iconst 1, 1) := by decide +kernel
theorem dX10_disturbs_3 : decode cX10_disturbs 3 = .ok (.invokevirtual 186, 3) := by decide +kernel
theorem dX10_disturbs_6 : decode cX10_disturbs 6 = .ok (.istore_n 2, 1) := by decide +kernel
theorem dX10_disturbs_7 : decode cX10_disturbs 7 = .ok (.iload_n 2, 1) := by decide +kernel
theorem dX10_disturbs_8 : decode cX10_disturbs 8 = .ok (.ifCond .eq 5, 3) := by decide +kernel
theorem dX10_disturbs_13 : decode cX10_disturbs 13 = .ok (.aload_n 0, 1) := by decide +kernel
theorem dX10_disturbs_14 : decode cX10_disturbs 14 = .ok (.getfield 41, 3) := by decide +kernel
theorem dX10_disturbs_17 : decode cX10_disturbs 17 = .ok (.iload_n 1, 1) := by decide +kernel
theorem dX10_disturbs_18 : decode cX10_disturbs 18 = .ok (.aaload, 1) := by decide +kernel
theorem dX10_disturbs_19 : decode cX10_disturbs 19 = .ok (.astore_n 3, 1) := by decide +kernel
theorem dX10_disturbs_20 : decode cX10_disturbs 20 = .ok (.iconst 0, 1) := by decide +kernel
theorem dX10_disturbs_21 : decode cX10_disturbs 21 = .ok (.istore 4, 2) := by decide +kernel
theorem dX10_disturbs_23 : decode cX10_disturbs 23 = .ok (.iconst 0, 1) := by decide +kernel
theorem dX10_disturbs_24 : decode cX10_disturbs 24 = .ok (.istore 5, 2) := by decide +kernel
theorem dX10_disturbs_26 : decode cX10_disturbs 26 = .ok (.iload 5, 2) := by decide +kernel
theorem dX10_disturbs_28 : decode cX10_disturbs 28 = .ok (.aload_n 3, 1) := by decide +kernel
theorem dX10_disturbs_29 : decode cX10_disturbs 29 = .ok (.getfield 194, 3) := by decide +kernel
theorem dX10_disturbs_32 : decode cX10_disturbs 32 = .ok (.if_icmp .ge 41, 3) := by decide +kernel
theorem dX10_disturbs_73 : decode cX10_disturbs 73 = .ok (.iload 4, 2) := by decide +kernel
theorem dX10_disturbs_75 : decode cX10_disturbs 75 = .ok (.ireturn, 1) := by decide +kernel
theorem dX10_disturbs_35 : decode cX10_disturbs 35 = .ok (.aload_n 3, 1) := by decide +kernel
theorem dX10_disturbs_36 : decode cX10_disturbs 36 = .ok (.iload 5, 2) := by decide +kernel
theorem dX10_disturbs_38 : decode cX10_disturbs 38 = .ok (.invokevirtual 195, 3) := by decide +kernel
theorem dX10_disturbs_41 : decode cX10_disturbs 41 = .ok (.istore 6, 2) := by decide +kernel
theorem dX10_disturbs_43 : decode cX10_disturbs 43 = .ok (.iload 6, 2) := by decide +kernel
theorem dX10_disturbs_45 : decode cX10_disturbs 45 = .ok (.iconst (-1), 1) := by decide +kernel
theorem dX10_disturbs_67 : decode cX10_disturbs 67 = .ok (.iinc 5 1, 3) := by decide +kernel
theorem dX10_disturbs_70 : decode cX10_disturbs 70 = .ok (.goto (-44), 3) := by decide +kernel
theorem dX10_disturbs_46 : decode cX10_disturbs 46 = .ok (.if_icmp .eq 21, 3) := by decide +kernel
theorem dX10_disturbs_49 : decode cX10_disturbs 49 = .ok (.iload 4, 2) := by decide +kernel
theorem dX10_disturbs_51 : decode cX10_disturbs 51 = .ok (.aload_n 0, 1) := by decide +kernel
theorem dX10_disturbs_52 : decode cX10_disturbs 52 = .ok (.getfield 31, 3) := by decide +kernel
theorem dX10_disturbs_55 : decode cX10_disturbs 55 = .ok (.getfield 98, 3) := by decide +kernel
theorem dX10_disturbs_58 : decode cX10_disturbs 58 = .ok (.getfield 198, 3) := by decide +kernel
theorem dX10_disturbs_61 : decode cX10_disturbs 61 = .ok (.iload 6, 2) := by decide +kernel
theorem dX10_disturbs_63 : decode cX10_disturbs 63 = .ok (.iaload, 1) := by decide +kernel
theorem dX10_disturbs_64 : decode cX10_disturbs 64 = .ok (.iadd, 1) := by decide +kernel
theorem dX10_disturbs_65 : decode cX10_disturbs 65 = .ok (.istore 4, 2) := by decide +kernel
theorem dX10_disturbs_11 : decode cX10_disturbs 11 = .ok (.iload_n 2, 1) := by decide +kernel
theorem dX10_disturbs_12 : decode cX10_disturbs 12 = .ok (.ireturn, 1) := by decide +kernel
theorem dX10_gain_0 : decode cX10_gain 0 = .ok (.aload_n 0, 1) := by decide +kernel
theorem dX10_gain_1 : decode cX10_gain 1 = .ok (.iload_n 1, 1) := by decide +kernel
theorem dX10_gain_2 : decode cX10_gain 2 = .ok (.iconst 1, 1) := by decide +kernel
theorem dX10_gain_3 : decode cX10_gain 3 = .ok (.invokevirtual 186, 3) := by decide +kernel
theorem dX10_gain_6 : decode cX10_gain 6 = .ok (.istore_n 2, 1) := by decide +kernel
theorem dX10_gain_7 : decode cX10_gain 7 = .ok (.iload_n 2, 1) := by decide +kernel
theorem dX10_gain_8 : decode cX10_gain 8 = .ok (.ifCond .eq 8, 3) := by decide +kernel
theorem dX10_gain_16 : decode cX10_gain 16 = .ok (.aload_n 0, 1) := by decide +kernel
theorem dX10_gain_17 : decode cX10_gain 17 = .ok (.aload_n 0, 1) := by decide +kernel
theorem dX10_gain_18 : decode cX10_gain 18 = .ok (.aload_n 0, 1) := by decide +kernel
theorem dX10_gain_19 : decode cX10_gain 19 = .ok (.getfield 41, 3) := by decide +kernel
theorem dX10_gain_22 : decode cX10_gain 22 = .ok (.iload_n 1, 1) := by decide +kernel
theorem dX10_gain_23 : decode cX10_gain 23 = .ok (.aaload, 1) := by decide +kernel
theorem dX10_gain_24 : decode cX10_gain 24 = .ok (.iconst 0, 1) := by decide +kernel
theorem dX10_gain_25 : decode cX10_gain 25 = .ok (.invokevirtual 190, 3) := by decide +kernel
theorem dX10_gain_28 : decode cX10_gain 28 = .ok (.aload_n 0, 1) := by decide +kernel
theorem dX10_gain_29 : decode cX10_gain 29 = .ok (.getfield 41, 3) := by decide +kernel
theorem dX10_gain_32 : decode cX10_gain 32 = .ok (.iload_n 1, 1) := by decide +kernel
theorem dX10_gain_33 : decode cX10_gain 33 = .ok (.aaload, 1) := by decide +kernel
theorem dX10_gain_34 : decode cX10_gain 34 = .ok (.getfield 194, 3) := by decide +kernel
theorem dX10_gain_37 : decode cX10_gain 37 = .ok (.invokevirtual 202, 3) := by decide +kernel
theorem dX10_gain_40 : decode cX10_gain 40 = .ok (.ireturn, 1) := by decide +kernel
theorem dX10_gain_11 : decode cX10_gain 11 = .ok (.iload_n 2, 1) := by decide +kernel
theorem dX10_gain_12 : decode cX10_gain 12 = .ok (.ldc 201, 2) := by decide +kernel
theorem dX10_gain_14 : decode cX10_gain 14 = .ok (.imul, 1) := by decide +kernel
theorem dX10_gain_15 : decode cX10_gain 15 = .ok (.ireturn, 1) := by decide +kernel
theorem dX10_stop_0 : decode cX10_stop 0 = .ok (.aload_n 0, 1) := by decide +kernel
theorem dX10_stop_1 : decode cX10_stop 1 = .ok (.iload_n 1, 1) := by decide +kernel
theorem dX10_stop_2 : decode cX10_stop 2 = .ok (.iconst 1, 1) := by decide +kernel
theorem dX10_stop_3 : decode cX10_stop 3 = .ok (.invokevirtual 186, 3) := by decide +kernel
theorem dX10_stop_6 : decode cX10_stop 6 = .ok (.istore_n 2, 1) := by decide +kernel
theorem dX10_stop_7 : decode cX10_stop 7 = .ok (.iload_n 2, 1) := by decide +kernel
theorem dX10_stop_8 : decode cX10_stop 8 = .ok (.ifCond .eq 5, 3) := by decide +kernel
theorem dX10_stop_13 : decode cX10_stop 13 = .ok (.aload_n 0, 1) := by decide +kernel
theorem dX10_stop_14 : decode cX10_stop 14 = .ok (.getfield 41, 3) := by decide +kernel
theorem dX10_stop_17 : decode cX10_stop 17 = .ok (.iload_n 1, 1) := by decide +kernel
theorem dX10_stop_18 : decode cX10_stop 18 = .ok (.aaload, 1) := by decide +kernel
theorem dX10_stop_19 : decode cX10_stop 19 = .ok (.astore_n 3, 1) := by decide +kernel
theorem dX10_stop_20 : decode cX10_stop 20 = .ok (.aload_n 0, 1) := by decide +kernel
theorem dX10_stop_21 : decode cX10_stop 21 = .ok (.getfield 52, 3) := by decide +kernel
theorem dX10_stop_24 : decode cX10_stop 24 = .ok (.aload_n 0, 1) := by decide +kernel
theorem dX10_stop_25 : decode cX10_stop 25 = .ok (.getfield 48, 3) := by decide +kernel
theorem dX10_stop_28 : decode cX10_stop 28 = .ok (.invokevirtual 179, 3) := by decide +kernel
theorem dX10_stop_31 : decode cX10_stop 31 = .ok (.iconst 0, 1) := by decide +kernel
theorem dX10_stop_32 : decode cX10_stop 32 = .ok (.istore 4, 2) := by decide +kernel
theorem dX10_stop_34 : decode cX10_stop 34 = .ok (.iconst 0, 1) := by decide +kernel
theorem dX10_stop_35 : decode cX10_stop 35 = .ok (.istore 5, 2) := by decide +kernel
theorem dX10_stop_37 : decode cX10_stop 37 = .ok (.iconst 0, 1) := by decide +kernel
theorem dX10_stop_38 : decode cX10_stop 38 = .ok (.istore 6, 2) := by decide +kernel
theorem dX10_stop_40 : decode cX10_stop 40 = .ok (.iload 6, 2) := by decide +kernel
theorem dX10_stop_42 : decode cX10_stop 42 = .ok (.aload_n 3, 1) := by decide +kernel
theorem dX10_stop_43 : decode cX10_stop 43 = .ok (.getfield 194, 3) := by decide +kernel
theorem dX10_stop_46 : decode cX10_stop 46 = .ok (.if_icmp .ge 73, 3) := by decide +kernel
theorem dX10_stop_119 : decode cX10_stop 119 = .ok (.iload 5, 2) := by decide +kernel
theorem dX10_stop_121 : decode cX10_stop 121 = .ok (.ireturn, 1) := by decide +kernel
theorem dX10_stop_49 : decode cX10_stop 49 = .ok (.aload_n 0, 1) := by decide +kernel
theorem dX10_stop_50 : decode cX10_stop 50 = .ok (.getfield 52, 3) := by decide +kernel
theorem dX10_stop_53 : decode cX10_stop 53 = .ok (.aload_n 0, 1) := by decide +kernel
theorem dX10_stop_54 : decode cX10_stop 54 = .ok (.getfield 31, 3) := by decide +kernel
theorem dX10_stop_57 : decode cX10_stop 57 = .ok (.getfield 98, 3) := by decide +kernel
theorem dX10_stop_60 : decode cX10_stop 60 = .ok (.aload_n 3, 1) := by decide +kernel
theorem dX10_stop_61 : decode cX10_stop 61 = .ok (.iload 6, 2) := by decide +kernel
theorem dX10_stop_63 : decode cX10_stop 63 = .ok (.invokevirtual 195, 3) := by decide +kernel
theorem dX10_stop_66 : decode cX10_stop 66 = .ok (.iconst 0, 1) := by decide +kernel
theorem dX10_stop_67 : decode cX10_stop 67 = .ok (.invokevirtual 175, 3) := by decide +kernel
theorem dX10_stop_70 : decode cX10_stop 70 = .ok (.pop, 1) := by decide +kernel
theorem dX10_stop_71 : decode cX10_stop 71 = .ok (.aload_n 0, 1) := by decide +kernel
theorem dX10_stop_72 : decode cX10_stop 72 = .ok (.aload_n 0, 1) := by decide +kernel
theorem dX10_stop_73 : decode cX10_stop 73 = .ok (.getfield 52, 3) := by decide +kernel
theorem dX10_stop_76 : decode cX10_stop 76 = .ok (.getfield 156, 3) := by decide +kernel
theorem dX10_stop_79 : decode cX10_stop 79 = .ok (.aload_n 0, 1) := by decide +kernel
theorem dX10_stop_80 : decode cX10_stop 80 = .ok (.getfield 48, 3) := by decide +kernel
theorem dX10_stop_83 : decode cX10_stop 83 = .ok (.getfield 156, 3) := by decide +kernel
theorem dX10_stop_86 : decode cX10_stop 86 = .ok (.isub, 1) := by decide +kernel
theorem dX10_stop_87 : decode cX10_stop 87 = .ok (.iload 6, 2) := by decide +kernel
theorem dX10_stop_89 : decode cX10_stop 89 = .ok (.iconst 1, 1) := by decide +kernel
theorem dX10_stop_90 : decode cX10_stop 90 = .ok (.iadd, 1) := by decide +kernel
theorem dX10_stop_91 : decode cX10_stop 91 = .ok (.invokevirtual 202, 3) := by decide +kernel
theorem dX10_stop_94 : decode cX10_stop 94 = .ok (.istore 7, 2) := by decide +kernel
theorem dX10_stop_96 : decode cX10_stop 96 = .ok (.iload 7, 2) := by decide +kernel
theorem dX10_stop_98 : decode cX10_stop 98 = .ok (.iload 4, 2) := by decide +kernel
theorem dX10_stop_113 : decode cX10_stop 113 = .ok (.iinc 6 1, 3) := by decide +kernel
theorem dX10_stop_116 : decode cX10_stop 116 = .ok (.goto (-76), 3) := by decide +kernel
theorem dX10_stop_100 : decode cX10_stop 100 = .ok (.if_icmp .le 13, 3) := by decide +kernel
theorem dX10_stop_103 : decode cX10_stop 103 = .ok (.iload 7, 2) := by decide +kernel
theorem dX10_stop_105 : decode cX10_stop 105 = .ok (.istore 4, 2) := by decide +kernel
theorem dX10_stop_107 : decode cX10_stop 107 = .ok (.iload 6, 2) := by decide +kernel
theorem dX10_stop_109 : decode cX10_stop 109 = .ok (.iconst 1, 1) := by decide +kernel
theorem dX10_stop_110 : decode cX10_stop 110 = .ok (.iadd, 1) := by decide +kernel
theorem dX10_stop_111 : decode cX10_stop 111 = .ok (.istore 5, 2) := by decide +kernel
theorem dX10_stop_11 : decode cX10_stop 11 = .ok (.iload_n 2, 1) := by decide +kernel
theorem dX10_stop_12 : decode cX10_stop 12 = .ok (.ireturn, 1) := by decide +kernel
theorem dX10_penny_0 : decode cX10_penny 0 = .ok (.aload_n 0, 1) := by decide +kernel
theorem dX10_penny_1 : decode cX10_penny 1 = .ok (.iload_n 1, 1) := by decide +kernel
theorem dX10_penny_2 : decode cX10_penny 2 = .ok (.iconst 1, 1) := by decide +kernel
theorem dX10_penny_3 : decode cX10_penny 3 = .ok (.invokevirtual 186, 3) := by decide +kernel
theorem dX10_penny_6 : decode cX10_penny 6 = .ok (.istore_n 2, 1) := by decide +kernel
theorem dX10_penny_7 : decode cX10_penny 7 = .ok (.iload_n 2, 1) := by decide +kernel
theorem dX10_penny_8 : decode cX10_penny 8 = .ok (.ifCond .eq 5, 3) := by decide +kernel
theorem dX10_penny_13 : decode cX10_penny 13 = .ok (.aload_n 0, 1) := by decide +kernel
theorem dX10_penny_14 : decode cX10_penny 14 = .ok (.getfield 41, 3) := by decide +kernel
theorem dX10_penny_17 : decode cX10_penny 17 = .ok (.iload_n 1, 1) := by decide +kernel
theorem dX10_penny_18 : decode cX10_penny 18 = .ok (.aaload, 1) := by decide +kernel
theorem dX10_penny_19 : decode cX10_penny 19 = .ok (.astore_n 3, 1) := by decide +kernel
theorem dX10_penny_20 : decode cX10_penny 20 = .ok (.aload_n 3, 1) := by decide +kernel
theorem dX10_penny_21 : decode cX10_penny 21 = .ok (.invokevirtual 212, 3) := by decide +kernel
theorem dX10_penny_24 : decode cX10_penny 24 = .ok (.istore 4, 2) := by decide +kernel
theorem dX10_penny_26 : decode cX10_penny 26 = .ok (.iconst 0, 1) := by decide +kernel
theorem dX10_penny_27 : decode cX10_penny 27 = .ok (.istore 5, 2) := by decide +kernel
theorem dX10_penny_29 : decode cX10_penny 29 = .ok (.iconst 0, 1) := by decide +kernel
theorem dX10_penny_30 : decode cX10_penny 30 = .ok (.istore 6, 2) := by decide +kernel
theorem dX10_penny_32 : decode cX10_penny 32 = .ok (.iconst 0, 1) := by decide +kernel
theorem dX10_penny_33 : decode cX10_penny 33 = .ok (.istore 7, 2) := by decide +kernel
theorem dX10_penny_35 : decode cX10_penny 35 = .ok (.iload 7, 2) := by decide +kernel
theorem dX10_penny_37 : decode cX10_penny 37 = .ok (.bipush 9, 2) := by decide +kernel
theorem dX10_penny_39 : decode cX10_penny 39 = .ok (.if_icmp .gt 52, 3) := by decide +kernel
theorem dX10_penny_91 : decode cX10_penny 91 = .ok (.iload 5, 2) := by decide +kernel
theorem dX10_penny_93 : decode cX10_penny 93 = .ok (.ireturn, 1) := by decide +kernel
theorem dX10_penny_42 : decode cX10_penny 42 = .ok (.aload_n 0, 1) := by decide +kernel
theorem dX10_penny_43 : decode cX10_penny 43 = .ok (.aload_n 0, 1) := by decide +kernel
theorem dX10_penny_44 : decode cX10_penny 44 = .ok (.aload_n 3, 1) := by decide +kernel
theorem dX10_penny_45 : decode cX10_penny 45 = .ok (.iload 7, 2) := by decide +kernel
theorem dX10_penny_47 : decode cX10_penny 47 = .ok (.invokevirtual 190, 3) := by decide +kernel
theorem dX10_penny_50 : decode cX10_penny 50 = .ok (.aload_n 3, 1) := by decide +kernel
theorem dX10_penny_51 : decode cX10_penny 51 = .ok (.getfield 194, 3) := by decide +kernel
theorem dX10_penny_54 : decode cX10_penny 54 = .ok (.invokevirtual 202, 3) := by decide +kernel
theorem dX10_penny_57 : decode cX10_penny 57 = .ok (.iload 7, 2) := by decide +kernel
theorem dX10_penny_59 : decode cX10_penny 59 = .ok (.iload 4, 2) := by decide +kernel
theorem dX10_penny_61 : decode cX10_penny 61 = .ok (.imul, 1) := by decide +kernel
theorem dX10_penny_62 : decode cX10_penny 62 = .ok (.isub, 1) := by decide +kernel
theorem dX10_penny_63 : decode cX10_penny 63 = .ok (.istore 8, 2) := by decide +kernel
theorem dX10_penny_65 : decode cX10_penny 65 = .ok (.iload 7, 2) := by decide +kernel
theorem dX10_penny_85 : decode cX10_penny 85 = .ok (.iinc 7 1, 3) := by decide +kernel
theorem dX10_penny_88 : decode cX10_penny 88 = .ok (.goto (-53), 3) := by decide +kernel
theorem dX10_penny_77 : decode cX10_penny 77 = .ok (.iload 8, 2) := by decide +kernel
theorem dX10_penny_79 : decode cX10_penny 79 = .ok (.istore 6, 2) := by decide +kernel
theorem dX10_penny_81 : decode cX10_penny 81 = .ok (.iload 7, 2) := by decide +kernel
theorem dX10_penny_83 : decode cX10_penny 83 = .ok (.istore 5, 2) := by decide +kernel
theorem dX10_penny_67 : decode cX10_penny 67 = .ok (.ifCond .eq 10, 3) := by decide +kernel
theorem dX10_penny_70 : decode cX10_penny 70 = .ok (.iload 8, 2) := by decide +kernel
theorem dX10_penny_72 : decode cX10_penny 72 = .ok (.iload 6, 2) := by decide +kernel
theorem dX10_penny_74 : decode cX10_penny 74 = .ok (.if_icmp .le 11, 3) := by decide +kernel
theorem dX10_penny_11 : decode cX10_penny 11 = .ok (.iload_n 2, 1) := by decide +kernel
theorem dX10_penny_12 : decode cX10_penny 12 = .ok (.ireturn, 1) := by decide +kernel
theorem dX10_hangs_0 : decode cX10_hangs 0 = .ok (.aload_n 0, 1) := by decide +kernel
theorem dX10_hangs_1 : decode cX10_hangs 1 = .ok (.iload_n 1, 1) := by decide +kernel
theorem dX10_hangs_2 : decode cX10_hangs 2 = .ok (.iconst 1, 1) := by decide +kernel
theorem dX10_hangs_3 : decode cX10_hangs 3 = .ok (.invokevirtual 186, 3) := by decide +kernel
theorem dX10_hangs_6 : decode cX10_hangs 6 = .ok (.istore_n 2, 1) := by decide +kernel
theorem dX10_hangs_7 : decode cX10_hangs 7 = .ok (.iload_n 2, 1) := by decide +kernel
theorem dX10_hangs_8 : decode cX10_hangs 8 = .ok (.ifCond .eq 5, 3) := by decide +kernel
theorem dX10_hangs_13 : decode cX10_hangs 13 = .ok (.aload_n 0, 1) := by decide +kernel
theorem dX10_hangs_14 : decode cX10_hangs 14 = .ok (.getfield 41, 3) := by decide +kernel
theorem dX10_hangs_17 : decode cX10_hangs 17 = .ok (.iload_n 1, 1) := by decide +kernel
theorem dX10_hangs_18 : decode cX10_hangs 18 = .ok (.aaload, 1) := by decide +kernel
theorem dX10_hangs_19 : decode cX10_hangs 19 = .ok (.astore_n 3, 1) := by decide +kernel
theorem dX10_hangs_20 : decode cX10_hangs 20 = .ok (.aload_n 0, 1) := by decide +kernel
theorem dX10_hangs_21 : decode cX10_hangs 21 = .ok (.getfield 52, 3) := by decide +kernel
theorem dX10_hangs_24 : decode cX10_hangs 24 = .ok (.aload_n 0, 1) := by decide +kernel
theorem dX10_hangs_25 : decode cX10_hangs 25 = .ok (.getfield 48, 3) := by decide +kernel
theorem dX10_hangs_28 : decode cX10_hangs 28 = .ok (.invokevirtual 179, 3) := by decide +kernel
theorem dX10_hangs_31 : decode cX10_hangs 31 = .ok (.iconst 0, 1) := by decide +kernel
theorem dX10_hangs_32 : decode cX10_hangs 32 = .ok (.istore 4, 2) := by decide +kernel
theorem dX10_hangs_34 : decode cX10_hangs 34 = .ok (.iload 4, 2) := by decide +kernel
theorem dX10_hangs_36 : decode cX10_hangs 36 = .ok (.aload_n 3, 1) := by decide +kernel
theorem dX10_hangs_37 : decode cX10_hangs 37 = .ok (.getfield 194, 3) := by decide +kernel
theorem dX10_hangs_40 : decode cX10_hangs 40 = .ok (.if_icmp .ge 54, 3) := by decide +kernel
theorem dX10_hangs_94 : decode cX10_hangs 94 = .ok (.iconst (-1), 1) := by decide +kernel
theorem dX10_hangs_95 : decode cX10_hangs 95 = .ok (.ireturn, 1) := by decide +kernel
theorem dX10_hangs_43 : decode cX10_hangs 43 = .ok (.aload_n 0, 1) := by decide +kernel
theorem dX10_hangs_44 : decode cX10_hangs 44 = .ok (.getfield 52, 3) := by decide +kernel
theorem dX10_hangs_47 : decode cX10_hangs 47 = .ok (.aload_n 0, 1) := by decide +kernel
theorem dX10_hangs_48 : decode cX10_hangs 48 = .ok (.getfield 31, 3) := by decide +kernel
theorem dX10_hangs_51 : decode cX10_hangs 51 = .ok (.getfield 98, 3) := by decide +kernel
theorem dX10_hangs_54 : decode cX10_hangs 54 = .ok (.aload_n 3, 1) := by decide +kernel
theorem dX10_hangs_55 : decode cX10_hangs 55 = .ok (.iload 4, 2) := by decide +kernel
theorem dX10_hangs_57 : decode cX10_hangs 57 = .ok (.invokevirtual 195, 3) := by decide +kernel
theorem dX10_hangs_60 : decode cX10_hangs 60 = .ok (.iconst 0, 1) := by decide +kernel
theorem dX10_hangs_61 : decode cX10_hangs 61 = .ok (.invokevirtual 175, 3) := by decide +kernel
theorem dX10_hangs_64 : decode cX10_hangs 64 = .ok (.istore 5, 2) := by decide +kernel
theorem dX10_hangs_66 : decode cX10_hangs 66 = .ok (.aload_n 0, 1) := by decide +kernel
theorem dX10_hangs_67 : decode cX10_hangs 67 = .ok (.iload 5, 2) := by decide +kernel
theorem dX10_hangs_69 : decode cX10_hangs 69 = .ok (.invokevirtual 232, 3) := by decide +kernel
theorem dX10_hangs_72 : decode cX10_hangs 72 = .ok (.aload_n 0, 1) := by decide +kernel
theorem dX10_hangs_73 : decode cX10_hangs 73 = .ok (.getfield 31, 3) := by decide +kernel
theorem dX10_hangs_76 : decode cX10_hangs 76 = .ok (.getfield 98, 3) := by decide +kernel
theorem dX10_hangs_79 : decode cX10_hangs 79 = .ok (.getfield 235, 3) := by decide +kernel
theorem dX10_hangs_82 : decode cX10_hangs 82 = .ok (.if_icmp .ge 6, 3) := by decide +kernel
theorem dX10_hangs_88 : decode cX10_hangs 88 = .ok (.iinc 4 1, 3) := by decide +kernel
theorem dX10_hangs_91 : decode cX10_hangs 91 = .ok (.goto (-57), 3) := by decide +kernel
theorem dX10_hangs_85 : decode cX10_hangs 85 = .ok (.iload 4, 2) := by decide +kernel
theorem dX10_hangs_87 : decode cX10_hangs 87 = .ok (.ireturn, 1) := by decide +kernel
theorem dX10_hangs_11 : decode cX10_hangs 11 = .ok (.iload_n 2, 1) := by decide +kernel
theorem dX10_hangs_12 : decode cX10_hangs 12 = .ok (.ireturn, 1) := by decide +kernel
theorem dX10_habit_0 : decode cX10_habit 0 = .ok (.aload_n 0, 1) := by decide +kernel
theorem dX10_habit_1 : decode cX10_habit 1 = .ok (.iload_n 1, 1) := by decide +kernel
theorem dX10_habit_2 : decode cX10_habit 2 = .ok (.iconst 1, 1) := by decide +kernel
theorem dX10_habit_3 : decode cX10_habit 3 = .ok (.invokevirtual 299, 3) := by decide +kernel
theorem dX10_habit_6 : decode cX10_habit 6 = .ok (.istore_n 2, 1) := by decide +kernel
theorem dX10_habit_7 : decode cX10_habit 7 = .ok (.iload_n 2, 1) := by decide +kernel
theorem dX10_habit_8 : decode cX10_habit 8 = .ok (.ifCond .eq 5, 3) := by decide +kernel
theorem dX10_habit_13 : decode cX10_habit 13 = .ok (.aload_n 0, 1) := by decide +kernel
theorem dX10_habit_14 : decode cX10_habit 14 = .ok (.aload_n 0, 1) := by decide +kernel
theorem dX10_habit_15 : decode cX10_habit 15 = .ok (.getfield 41, 3) := by decide +kernel
theorem dX10_habit_18 : decode cX10_habit 18 = .ok (.iload_n 1, 1) := by decide +kernel
theorem dX10_habit_19 : decode cX10_habit 19 = .ok (.aaload, 1) := by decide +kernel
theorem dX10_habit_20 : decode cX10_habit 20 = .ok (.iconst (-1), 1) := by decide +kernel
theorem dX10_habit_21 : decode cX10_habit 21 = .ok (.invokevirtual 302, 3) := by decide +kernel
theorem dX10_habit_24 : decode cX10_habit 24 = .ok (.ireturn, 1) := by decide +kernel
theorem dX10_habit_11 : decode cX10_habit 11 = .ok (.iload_n 2, 1) := by decide +kernel
theorem dX10_habit_12 : decode cX10_habit 12 = .ok (.ireturn, 1) := by decide +kernel
theorem dX10_period_0 : decode cX10_period 0 = .ok (.aload_n 0, 1) := by decide +kernel
theorem dX10_period_1 : decode cX10_period 1 = .ok (.iload_n 1, 1) := by decide +kernel
theorem dX10_period_2 : decode cX10_period 2 = .ok (.iconst 1, 1) := by decide +kernel
theorem dX10_period_3 : decode cX10_period 3 = .ok (.invokevirtual 299, 3) := by decide +kernel
theorem dX10_period_6 : decode cX10_period 6 = .ok (.istore_n 2, 1) := by decide +kernel
theorem dX10_period_7 : decode cX10_period 7 = .ok (.iload_n 2, 1) := by decide +kernel
theorem dX10_period_8 : decode cX10_period 8 = .ok (.ifCond .eq 5, 3) := by decide +kernel
theorem dX10_period_13 : decode cX10_period 13 = .ok (.aload_n 0, 1) := by decide +kernel
theorem dX10_period_14 : decode cX10_period 14 = .ok (.getfield 41, 3) := by decide +kernel
theorem dX10_period_17 : decode cX10_period 17 = .ok (.iload_n 1, 1) := by decide +kernel
theorem dX10_period_18 : decode cX10_period 18 = .ok (.aaload, 1) := by decide +kernel
theorem dX10_period_19 : decode cX10_period 19 = .ok (.astore_n 3, 1) := by decide +kernel
theorem dX10_period_20 : decode cX10_period 20 = .ok (.iconst 1, 1) := by decide +kernel
theorem dX10_period_21 : decode cX10_period 21 = .ok (.istore 4, 2) := by decide +kernel
theorem dX10_period_23 : decode cX10_period 23 = .ok (.iload 4, 2) := by decide +kernel
theorem dX10_period_25 : decode cX10_period 25 = .ok (.aload_n 3, 1) := by decide +kernel
theorem dX10_period_26 : decode cX10_period 26 = .ok (.getfield 194, 3) := by decide +kernel
theorem dX10_period_29 : decode cX10_period 29 = .ok (.if_icmp .gt 21, 3) := by decide +kernel
theorem dX10_period_50 : decode cX10_period 50 = .ok (.iconst (-1), 1) := by decide +kernel
theorem dX10_period_51 : decode cX10_period 51 = .ok (.ireturn, 1) := by decide +kernel
theorem dX10_period_32 : decode cX10_period 32 = .ok (.aload_n 3, 1) := by decide +kernel
theorem dX10_period_33 : decode cX10_period 33 = .ok (.iload 4, 2) := by decide +kernel
theorem dX10_period_35 : decode cX10_period 35 = .ok (.invokevirtual 305, 3) := by decide +kernel
theorem dX10_period_38 : decode cX10_period 38 = .ok (.ifCond .eq 6, 3) := by decide +kernel
theorem dX10_period_44 : decode cX10_period 44 = .ok (.iinc 4 1, 3) := by decide +kernel
theorem dX10_period_47 : decode cX10_period 47 = .ok (.goto (-24), 3) := by decide +kernel
theorem dX10_period_41 : decode cX10_period 41 = .ok (.iload 4, 2) := by decide +kernel
theorem dX10_period_43 : decode cX10_period 43 = .ok (.ireturn, 1) := by decide +kernel
theorem dX10_period_11 : decode cX10_period 11 = .ok (.iload_n 2, 1) := by decide +kernel
theorem dX10_period_12 : decode cX10_period 12 = .ok (.ireturn, 1) := by decide +kernel
theorem dX10_behind_0 : decode cX10_behind 0 = .ok (.aload_n 0, 1) := by decide +kernel
theorem dX10_behind_1 : decode cX10_behind 1 = .ok (.iload_n 1, 1) := by decide +kernel
theorem dX10_behind_2 : decode cX10_behind 2 = .ok (.aload_n 0, 1) := by decide +kernel
theorem dX10_behind_3 : decode cX10_behind 3 = .ok (.iload_n 2, 1) := by decide +kernel
theorem dX10_behind_4 : decode cX10_behind 4 = .ok (.invokevirtual 120, 3) := by decide +kernel
theorem dX10_behind_7 : decode cX10_behind 7 = .ok (.invokevirtual 186, 3) := by decide +kernel
theorem dX10_behind_10 : decode cX10_behind 10 = .ok (.istore_n 3, 1) := by decide +kernel
theorem dX10_behind_11 : decode cX10_behind 11 = .ok (.iload_n 3, 1) := by decide +kernel
theorem dX10_behind_12 : decode cX10_behind 12 = .ok (.ifCond .eq 5, 3) := by decide +kernel
theorem dX10_behind_17 : decode cX10_behind 17 = .ok (.aload_n 0, 1) := by decide +kernel
theorem dX10_behind_18 : decode cX10_behind 18 = .ok (.aload_n 0, 1) := by decide +kernel
theorem dX10_behind_19 : decode cX10_behind 19 = .ok (.getfield 41, 3) := by decide +kernel
theorem dX10_behind_22 : decode cX10_behind 22 = .ok (.iload_n 1, 1) := by decide +kernel
theorem dX10_behind_23 : decode cX10_behind 23 = .ok (.aaload, 1) := by decide +kernel
theorem dX10_behind_24 : decode cX10_behind 24 = .ok (.iconst 0, 1) := by decide +kernel
theorem dX10_behind_25 : decode cX10_behind 25 = .ok (.invokevirtual 190, 3) := by decide +kernel
theorem dX10_behind_28 : decode cX10_behind 28 = .ok (.pop, 1) := by decide +kernel
theorem dX10_behind_29 : decode cX10_behind 29 = .ok (.aload_n 0, 1) := by decide +kernel
theorem dX10_behind_30 : decode cX10_behind 30 = .ok (.getfield 52, 3) := by decide +kernel
theorem dX10_behind_33 : decode cX10_behind 33 = .ok (.iload_n 2, 1) := by decide +kernel
theorem dX10_behind_34 : decode cX10_behind 34 = .ok (.invokevirtual 148, 3) := by decide +kernel
theorem dX10_behind_37 : decode cX10_behind 37 = .ok (.ireturn, 1) := by decide +kernel
theorem dX10_behind_15 : decode cX10_behind 15 = .ok (.iload_n 3, 1) := by decide +kernel
theorem dX10_behind_16 : decode cX10_behind 16 = .ok (.ireturn, 1) := by decide +kernel
theorem dX10_doubt_0 : decode cX10_doubt 0 = .ok (.aload_n 0, 1) := by decide +kernel
theorem dX10_doubt_1 : decode cX10_doubt 1 = .ok (.iload_n 1, 1) := by decide +kernel
theorem dX10_doubt_2 : decode cX10_doubt 2 = .ok (.aload_n 0, 1) := by decide +kernel
theorem dX10_doubt_3 : decode cX10_doubt 3 = .ok (.iload_n 2, 1) := by decide +kernel
theorem dX10_doubt_4 : decode cX10_doubt 4 = .ok (.invokevirtual 205, 3) := by decide +kernel
theorem dX10_doubt_7 : decode cX10_doubt 7 = .ok (.invokevirtual 186, 3) := by decide +kernel
theorem dX10_doubt_10 : decode cX10_doubt 10 = .ok (.istore_n 3, 1) := by decide +kernel
theorem dX10_doubt_11 : decode cX10_doubt 11 = .ok (.iload_n 3, 1) := by decide +kernel
theorem dX10_doubt_12 : decode cX10_doubt 12 = .ok (.ifCond .eq 5, 3) := by decide +kernel
theorem dX10_doubt_17 : decode cX10_doubt 17 = .ok (.aload_n 0, 1) := by decide +kernel
theorem dX10_doubt_18 : decode cX10_doubt 18 = .ok (.getfield 41, 3) := by decide +kernel
theorem dX10_doubt_21 : decode cX10_doubt 21 = .ok (.iload_n 1, 1) := by decide +kernel
theorem dX10_doubt_22 : decode cX10_doubt 22 = .ok (.aaload, 1) := by decide +kernel
theorem dX10_doubt_23 : decode cX10_doubt 23 = .ok (.astore 4, 2) := by decide +kernel
theorem dX10_doubt_25 : decode cX10_doubt 25 = .ok (.aload_n 0, 1) := by decide +kernel
theorem dX10_doubt_26 : decode cX10_doubt 26 = .ok (.getfield 52, 3) := by decide +kernel
theorem dX10_doubt_29 : decode cX10_doubt 29 = .ok (.aload_n 0, 1) := by decide +kernel
theorem dX10_doubt_30 : decode cX10_doubt 30 = .ok (.getfield 48, 3) := by decide +kernel
theorem dX10_doubt_33 : decode cX10_doubt 33 = .ok (.invokevirtual 179, 3) := by decide +kernel
theorem dX10_doubt_36 : decode cX10_doubt 36 = .ok (.iconst 0, 1) := by decide +kernel
theorem dX10_doubt_37 : decode cX10_doubt 37 = .ok (.istore 5, 2) := by decide +kernel
theorem dX10_doubt_39 : decode cX10_doubt 39 = .ok (.iload 5, 2) := by decide +kernel
theorem dX10_doubt_41 : decode cX10_doubt 41 = .ok (.aload 4, 2) := by decide +kernel
theorem dX10_doubt_43 : decode cX10_doubt 43 = .ok (.getfield 194, 3) := by decide +kernel
theorem dX10_doubt_46 : decode cX10_doubt 46 = .ok (.if_icmp .ge 46, 3) := by decide +kernel
theorem dX10_doubt_92 : decode cX10_doubt 92 = .ok (.iconst (-1), 1) := by decide +kernel
theorem dX10_doubt_93 : decode cX10_doubt 93 = .ok (.ireturn, 1) := by decide +kernel
theorem dX10_doubt_49 : decode cX10_doubt 49 = .ok (.aload_n 0, 1) := by decide +kernel
theorem dX10_doubt_50 : decode cX10_doubt 50 = .ok (.getfield 52, 3) := by decide +kernel
theorem dX10_doubt_53 : decode cX10_doubt 53 = .ok (.invokevirtual 165, 3) := by decide +kernel
theorem dX10_doubt_56 : decode cX10_doubt 56 = .ok (.iload_n 2, 1) := by decide +kernel
theorem dX10_doubt_57 : decode cX10_doubt 57 = .ok (.if_icmp .ge 6, 3) := by decide +kernel
theorem dX10_doubt_63 : decode cX10_doubt 63 = .ok (.aload_n 0, 1) := by decide +kernel
theorem dX10_doubt_64 : decode cX10_doubt 64 = .ok (.getfield 52, 3) := by decide +kernel
theorem dX10_doubt_67 : decode cX10_doubt 67 = .ok (.aload_n 0, 1) := by decide +kernel
theorem dX10_doubt_68 : decode cX10_doubt 68 = .ok (.getfield 31, 3) := by decide +kernel
theorem dX10_doubt_71 : decode cX10_doubt 71 = .ok (.getfield 98, 3) := by decide +kernel
theorem dX10_doubt_74 : decode cX10_doubt 74 = .ok (.aload 4, 2) := by decide +kernel
theorem dX10_doubt_76 : decode cX10_doubt 76 = .ok (.iload 5, 2) := by decide +kernel
theorem dX10_doubt_78 : decode cX10_doubt 78 = .ok (.invokevirtual 195, 3) := by decide +kernel
theorem dX10_doubt_81 : decode cX10_doubt 81 = .ok (.iconst 0, 1) := by decide +kernel
theorem dX10_doubt_82 : decode cX10_doubt 82 = .ok (.invokevirtual 175, 3) := by decide +kernel
theorem dX10_doubt_85 : decode cX10_doubt 85 = .ok (.pop, 1) := by decide +kernel
theorem dX10_doubt_86 : decode cX10_doubt 86 = .ok (.iinc 5 1, 3) := by decide +kernel
theorem dX10_doubt_89 : decode cX10_doubt 89 = .ok (.goto (-50), 3) := by decide +kernel
theorem dX10_doubt_60 : decode cX10_doubt 60 = .ok (.iload 5, 2) := by decide +kernel
theorem dX10_doubt_62 : decode cX10_doubt 62 = .ok (.ireturn, 1) := by decide +kernel
theorem dX10_doubt_15 : decode cX10_doubt 15 = .ok (.iload_n 3, 1) := by decide +kernel
theorem dX10_doubt_16 : decode cX10_doubt 16 = .ok (.ireturn, 1) := by decide +kernel
theorem dX10_walks_0 : decode cX10_walks 0 = .ok (.aload_n 0, 1) := by decide +kernel
theorem dX10_walks_1 : decode cX10_walks 1 = .ok (.iload_n 1, 1) := by decide +kernel
theorem dX10_walks_2 : decode cX10_walks 2 = .ok (.aload_n 0, 1) := by decide +kernel
theorem dX10_walks_3 : decode cX10_walks 3 = .ok (.iload_n 2, 1) := by decide +kernel
theorem dX10_walks_4 : decode cX10_walks 4 = .ok (.invokevirtual 120, 3) := by decide +kernel
theorem dX10_walks_7 : decode cX10_walks 7 = .ok (.invokevirtual 186, 3) := by decide +kernel
theorem dX10_walks_10 : decode cX10_walks 10 = .ok (.istore_n 3, 1) := by decide +kernel
theorem dX10_walks_11 : decode cX10_walks 11 = .ok (.iload_n 3, 1) := by decide +kernel
theorem dX10_walks_12 : decode cX10_walks 12 = .ok (.ifCond .eq 5, 3) := by decide +kernel
theorem dX10_walks_17 : decode cX10_walks 17 = .ok (.aload_n 0, 1) := by decide +kernel
theorem dX10_walks_18 : decode cX10_walks 18 = .ok (.aload_n 0, 1) := by decide +kernel
theorem dX10_walks_19 : decode cX10_walks 19 = .ok (.getfield 41, 3) := by decide +kernel
theorem dX10_walks_22 : decode cX10_walks 22 = .ok (.iload_n 1, 1) := by decide +kernel
theorem dX10_walks_23 : decode cX10_walks 23 = .ok (.aaload, 1) := by decide +kernel
theorem dX10_walks_24 : decode cX10_walks 24 = .ok (.iload_n 2, 1) := by decide +kernel
theorem dX10_walks_25 : decode cX10_walks 25 = .ok (.invokevirtual 208, 3) := by decide +kernel
theorem dX10_walks_28 : decode cX10_walks 28 = .ok (.ifCond .eq 7, 3) := by decide +kernel
theorem dX10_walks_35 : decode cX10_walks 35 = .ok (.iconst 0, 1) := by decide +kernel
theorem dX10_walks_36 : decode cX10_walks 36 = .ok (.ireturn, 1) := by decide +kernel
theorem dX10_walks_31 : decode cX10_walks 31 = .ok (.iconst 1, 1) := by decide +kernel
theorem dX10_walks_32 : decode cX10_walks 32 = .ok (.goto 4, 3) := by decide +kernel
theorem dX10_walks_15 : decode cX10_walks 15 = .ok (.iload_n 3, 1) := by decide +kernel
theorem dX10_walks_16 : decode cX10_walks 16 = .ok (.ireturn, 1) := by decide +kernel
theorem dX10_slips_0 : decode cX10_slips 0 = .ok (.aload_n 0, 1) := by decide +kernel
theorem dX10_slips_1 : decode cX10_slips 1 = .ok (.iload_n 1, 1) := by decide +kernel
theorem dX10_slips_2 : decode cX10_slips 2 = .ok (.aload_n 0, 1) := by decide +kernel
theorem dX10_slips_3 : decode cX10_slips 3 = .ok (.iload_n 2, 1) := by decide +kernel
theorem dX10_slips_4 : decode cX10_slips 4 = .ok (.invokevirtual 120, 3) := by decide +kernel
theorem dX10_slips_7 : decode cX10_slips 7 = .ok (.invokevirtual 186, 3) := by decide +kernel
theorem dX10_slips_10 : decode cX10_slips 10 = .ok (.istore_n 3, 1) := by decide +kernel
theorem dX10_slips_11 : decode cX10_slips 11 = .ok (.iload_n 3, 1) := by decide +kernel
theorem dX10_slips_12 : decode cX10_slips 12 = .ok (.ifCond .eq 5, 3) := by decide +kernel
theorem dX10_slips_17 : decode cX10_slips 17 = .ok (.aload_n 0, 1) := by decide +kernel
theorem dX10_slips_18 : decode cX10_slips 18 = .ok (.getfield 41, 3) := by decide +kernel
theorem dX10_slips_21 : decode cX10_slips 21 = .ok (.iload_n 1, 1) := by decide +kernel
theorem dX10_slips_22 : decode cX10_slips 22 = .ok (.aaload, 1) := by decide +kernel
theorem dX10_slips_23 : decode cX10_slips 23 = .ok (.astore 4, 2) := by decide +kernel
theorem dX10_slips_25 : decode cX10_slips 25 = .ok (.aload_n 0, 1) := by decide +kernel
theorem dX10_slips_26 : decode cX10_slips 26 = .ok (.aload 4, 2) := by decide +kernel
theorem dX10_slips_28 : decode cX10_slips 28 = .ok (.iload_n 2, 1) := by decide +kernel
theorem dX10_slips_29 : decode cX10_slips 29 = .ok (.invokevirtual 208, 3) := by decide +kernel
theorem dX10_slips_32 : decode cX10_slips 32 = .ok (.ifCond .ne 6, 3) := by decide +kernel
theorem dX10_slips_38 : decode cX10_slips 38 = .ok (.iload_n 2, 1) := by decide +kernel
theorem dX10_slips_39 : decode cX10_slips 39 = .ok (.istore 5, 2) := by decide +kernel
theorem dX10_slips_41 : decode cX10_slips 41 = .ok (.aload_n 0, 1) := by decide +kernel
theorem dX10_slips_42 : decode cX10_slips 42 = .ok (.getfield 31, 3) := by decide +kernel
theorem dX10_slips_45 : decode cX10_slips 45 = .ok (.getfield 98, 3) := by decide +kernel
theorem dX10_slips_48 : decode cX10_slips 48 = .ok (.invokevirtual 238, 3) := by decide +kernel
theorem dX10_slips_51 : decode cX10_slips 51 = .ok (.iconst 1, 1) := by decide +kernel
theorem dX10_slips_52 : decode cX10_slips 52 = .ok (.iload 5, 2) := by decide +kernel
theorem dX10_slips_54 : decode cX10_slips 54 = .ok (.ishl, 1) := by decide +kernel
theorem dX10_slips_55 : decode cX10_slips 55 = .ok (.iconst (-1), 1) := by decide +kernel
theorem dX10_slips_56 : decode cX10_slips 56 = .ok (.ixor, 1) := by decide +kernel
theorem dX10_slips_57 : decode cX10_slips 57 = .ok (.iand, 1) := by decide +kernel
theorem dX10_slips_58 : decode cX10_slips 58 = .ok (.istore 6, 2) := by decide +kernel
theorem dX10_slips_60 : decode cX10_slips 60 = .ok (.iconst 0, 1) := by decide +kernel
theorem dX10_slips_61 : decode cX10_slips 61 = .ok (.istore 7, 2) := by decide +kernel
theorem dX10_slips_63 : decode cX10_slips 63 = .ok (.iload 7, 2) := by decide +kernel
theorem dX10_slips_65 : decode cX10_slips 65 = .ok (.aload 4, 2) := by decide +kernel
theorem dX10_slips_67 : decode cX10_slips 67 = .ok (.getfield 194, 3) := by decide +kernel
theorem dX10_slips_70 : decode cX10_slips 70 = .ok (.if_icmp .ge 49, 3) := by decide +kernel
theorem dX10_slips_119 : decode cX10_slips 119 = .ok (.iload 6, 2) := by decide +kernel
theorem dX10_slips_121 : decode cX10_slips 121 = .ok (.ireturn, 1) := by decide +kernel
theorem dX10_slips_73 : decode cX10_slips 73 = .ok (.aload 4, 2) := by decide +kernel
theorem dX10_slips_75 : decode cX10_slips 75 = .ok (.iload 7, 2) := by decide +kernel
theorem dX10_slips_77 : decode cX10_slips 77 = .ok (.invokevirtual 195, 3) := by decide +kernel
theorem dX10_slips_80 : decode cX10_slips 80 = .ok (.istore 8, 2) := by decide +kernel
theorem dX10_slips_82 : decode cX10_slips 82 = .ok (.iload 8, 2) := by decide +kernel
theorem dX10_slips_84 : decode cX10_slips 84 = .ok (.iconst (-1), 1) := by decide +kernel
theorem dX10_slips_92 : decode cX10_slips 92 = .ok (.aload_n 0, 1) := by decide +kernel
theorem dX10_slips_93 : decode cX10_slips 93 = .ok (.getfield 31, 3) := by decide +kernel
theorem dX10_slips_96 : decode cX10_slips 96 = .ok (.getfield 98, 3) := by decide +kernel
theorem dX10_slips_99 : decode cX10_slips 99 = .ok (.iload 6, 2) := by decide +kernel
theorem dX10_slips_101 : decode cX10_slips 101 = .ok (.invokevirtual 229, 3) := by decide +kernel
theorem dX10_slips_104 : decode cX10_slips 104 = .ok (.iconst 1, 1) := by decide +kernel
theorem dX10_slips_105 : decode cX10_slips 105 = .ok (.iload 5, 2) := by decide +kernel
theorem dX10_slips_107 : decode cX10_slips 107 = .ok (.ishl, 1) := by decide +kernel
theorem dX10_slips_108 : decode cX10_slips 108 = .ok (.iconst (-1), 1) := by decide +kernel
theorem dX10_slips_109 : decode cX10_slips 109 = .ok (.ixor, 1) := by decide +kernel
theorem dX10_slips_110 : decode cX10_slips 110 = .ok (.iand, 1) := by decide +kernel
theorem dX10_slips_111 : decode cX10_slips 111 = .ok (.istore 6, 2) := by decide +kernel
theorem dX10_slips_113 : decode cX10_slips 113 = .ok (.iinc 7 1, 3) := by decide +kernel
theorem dX10_slips_116 : decode cX10_slips 116 = .ok (.goto (-53), 3) := by decide +kernel
theorem dX10_slips_85 : decode cX10_slips 85 = .ok (.if_icmp .eq 7, 3) := by decide +kernel
theorem dX10_slips_88 : decode cX10_slips 88 = .ok (.iload 8, 2) := by decide +kernel
theorem dX10_slips_90 : decode cX10_slips 90 = .ok (.istore 5, 2) := by decide +kernel
theorem dX10_slips_35 : decode cX10_slips 35 = .ok (.bipush (-5), 2) := by decide +kernel
theorem dX10_slips_37 : decode cX10_slips 37 = .ok (.ireturn, 1) := by decide +kernel
theorem dX10_slips_15 : decode cX10_slips 15 = .ok (.iload_n 3, 1) := by decide +kernel
theorem dX10_slips_16 : decode cX10_slips 16 = .ok (.ireturn, 1) := by decide +kernel
theorem dX10_follows_0 : decode cX10_follows 0 = .ok (.aload_n 0, 1) := by decide +kernel
theorem dX10_follows_1 : decode cX10_follows 1 = .ok (.iload_n 1, 1) := by decide +kernel
theorem dX10_follows_2 : decode cX10_follows 2 = .ok (.aload_n 0, 1) := by decide +kernel
theorem dX10_follows_3 : decode cX10_follows 3 = .ok (.iload_n 2, 1) := by decide +kernel
theorem dX10_follows_4 : decode cX10_follows 4 = .ok (.invokevirtual 120, 3) := by decide +kernel
theorem dX10_follows_7 : decode cX10_follows 7 = .ok (.invokevirtual 299, 3) := by decide +kernel
theorem dX10_follows_10 : decode cX10_follows 10 = .ok (.istore_n 3, 1) := by decide +kernel
theorem dX10_follows_11 : decode cX10_follows 11 = .ok (.iload_n 3, 1) := by decide +kernel
theorem dX10_follows_12 : decode cX10_follows 12 = .ok (.ifCond .eq 5, 3) := by decide +kernel
theorem dX10_follows_17 : decode cX10_follows 17 = .ok (.aload_n 0, 1) := by decide +kernel
theorem dX10_follows_18 : decode cX10_follows 18 = .ok (.aload_n 0, 1) := by decide +kernel
theorem dX10_follows_19 : decode cX10_follows 19 = .ok (.getfield 41, 3) := by decide +kernel
theorem dX10_follows_22 : decode cX10_follows 22 = .ok (.iload_n 1, 1) := by decide +kernel
theorem dX10_follows_23 : decode cX10_follows 23 = .ok (.aaload, 1) := by decide +kernel
theorem dX10_follows_24 : decode cX10_follows 24 = .ok (.iload_n 2, 1) := by decide +kernel
theorem dX10_follows_25 : decode cX10_follows 25 = .ok (.invokevirtual 302, 3) := by decide +kernel
theorem dX10_follows_28 : decode cX10_follows 28 = .ok (.ireturn, 1) := by decide +kernel
theorem dX10_follows_15 : decode cX10_follows 15 = .ok (.iload_n 3, 1) := by decide +kernel
theorem dX10_follows_16 : decode cX10_follows 16 = .ok (.ireturn, 1) := by decide +kernel
theorem dX10_drawn_0 : decode cX10_drawn 0 = .ok (.aload_n 0, 1) := by decide +kernel
theorem dX10_drawn_1 : decode cX10_drawn 1 = .ok (.iload_n 2, 1) := by decide +kernel
theorem dX10_drawn_2 : decode cX10_drawn 2 = .ok (.aload_n 0, 1) := by decide +kernel
theorem dX10_drawn_3 : decode cX10_drawn 3 = .ok (.iload_n 1, 1) := by decide +kernel
theorem dX10_drawn_4 : decode cX10_drawn 4 = .ok (.invokevirtual 308, 3) := by decide +kernel
theorem dX10_drawn_24 : decode cX10_drawn 24 = .ok (.invokevirtual 186, 3) := by decide +kernel
theorem dX10_drawn_27 : decode cX10_drawn 27 = .ok (.istore 4, 2) := by decide +kernel
theorem dX10_drawn_29 : decode cX10_drawn 29 = .ok (.iload 4, 2) := by decide +kernel
theorem dX10_drawn_31 : decode cX10_drawn 31 = .ok (.ifCond .eq 6, 3) := by decide +kernel
theorem dX10_drawn_37 : decode cX10_drawn 37 = .ok (.aload_n 0, 1) := by decide +kernel
theorem dX10_drawn_38 : decode cX10_drawn 38 = .ok (.getfield 79, 3) := by decide +kernel
theorem dX10_drawn_41 : decode cX10_drawn 41 = .ok (.aload_n 0, 1) := by decide +kernel
theorem dX10_drawn_42 : decode cX10_drawn 42 = .ok (.getfield 31, 3) := by decide +kernel
theorem dX10_drawn_45 : decode cX10_drawn 45 = .ok (.getfield 98, 3) := by decide +kernel
theorem dX10_drawn_48 : decode cX10_drawn 48 = .ok (.aload_n 0, 1) := by decide +kernel
theorem dX10_drawn_49 : decode cX10_drawn 49 = .ok (.getfield 41, 3) := by decide +kernel
theorem dX10_drawn_52 : decode cX10_drawn 52 = .ok (.iload_n 2, 1) := by decide +kernel
theorem dX10_drawn_53 : decode cX10_drawn 53 = .ok (.aaload, 1) := by decide +kernel
theorem dX10_drawn_54 : decode cX10_drawn 54 = .ok (.iload_n 1, 1) := by decide +kernel
theorem dX10_drawn_55 : decode cX10_drawn 55 = .ok (.i2l, 1) := by decide +kernel
theorem dX10_drawn_56 : decode cX10_drawn 56 = .ok (.invokevirtual 311, 3) := by decide +kernel
theorem dX10_drawn_59 : decode cX10_drawn 59 = .ok (.iload_n 3, 1) := by decide +kernel
theorem dX10_drawn_60 : decode cX10_drawn 60 = .ok (.ifCond .ne 13, 3) := by decide +kernel
theorem dX10_drawn_73 : decode cX10_drawn 73 = .ok (.aload_n 0, 1) := by decide +kernel
theorem dX10_drawn_74 : decode cX10_drawn 74 = .ok (.getfield 79, 3) := by decide +kernel
theorem dX10_drawn_77 : decode cX10_drawn 77 = .ok (.getfield 318, 3) := by decide +kernel
theorem dX10_drawn_80 : decode cX10_drawn 80 = .ok (.ireturn, 1) := by decide +kernel
theorem dX10_drawn_63 : decode cX10_drawn 63 = .ok (.aload_n 0, 1) := by decide +kernel
theorem dX10_drawn_64 : decode cX10_drawn 64 = .ok (.getfield 79, 3) := by decide +kernel
theorem dX10_drawn_67 : decode cX10_drawn 67 = .ok (.getfield 315, 3) := by decide +kernel
theorem dX10_drawn_70 : decode cX10_drawn 70 = .ok (.goto 10, 3) := by decide +kernel
theorem dX10_drawn_34 : decode cX10_drawn 34 = .ok (.iload 4, 2) := by decide +kernel
theorem dX10_drawn_36 : decode cX10_drawn 36 = .ok (.ireturn, 1) := by decide +kernel
theorem dX10_drawn_23 : decode cX10_drawn 23 = .ok (.iconst 0, 1) := by decide +kernel
theorem dX10_drawn_7 : decode cX10_drawn 7 = .ok (.ifCond .eq 16, 3) := by decide +kernel
theorem dX10_drawn_10 : decode cX10_drawn 10 = .ok (.iload_n 3, 1) := by decide +kernel
theorem dX10_drawn_11 : decode cX10_drawn 11 = .ok (.ifCond .lt 12, 3) := by decide +kernel
theorem dX10_drawn_14 : decode cX10_drawn 14 = .ok (.iload_n 3, 1) := by decide +kernel
theorem dX10_drawn_15 : decode cX10_drawn 15 = .ok (.iconst 1, 1) := by decide +kernel
theorem dX10_drawn_16 : decode cX10_drawn 16 = .ok (.if_icmp .gt 7, 3) := by decide +kernel
theorem dX10_drawn_19 : decode cX10_drawn 19 = .ok (.iconst 1, 1) := by decide +kernel
theorem dX10_drawn_20 : decode cX10_drawn 20 = .ok (.goto 4, 3) := by decide +kernel
theorem dX10_lot_0 : decode cX10_lot 0 = .ok (.aload_n 0, 1) := by decide +kernel
theorem dX10_lot_1 : decode cX10_lot 1 = .ok (.iload_n 2, 1) := by decide +kernel
theorem dX10_lot_2 : decode cX10_lot 2 = .ok (.aload_n 0, 1) := by decide +kernel
theorem dX10_lot_3 : decode cX10_lot 3 = .ok (.iload_n 1, 1) := by decide +kernel
theorem dX10_lot_4 : decode cX10_lot 4 = .ok (.invokevirtual 308, 3) := by decide +kernel
theorem dX10_lot_26 : decode cX10_lot 26 = .ok (.invokevirtual 186, 3) := by decide +kernel
theorem dX10_lot_29 : decode cX10_lot 29 = .ok (.istore 4, 2) := by decide +kernel
theorem dX10_lot_31 : decode cX10_lot 31 = .ok (.iload 4, 2) := by decide +kernel
theorem dX10_lot_33 : decode cX10_lot 33 = .ok (.ifCond .eq 6, 3) := by decide +kernel
theorem dX10_lot_39 : decode cX10_lot 39 = .ok (.iconst 0, 1) := by decide +kernel
theorem dX10_lot_40 : decode cX10_lot 40 = .ok (.istore 5, 2) := by decide +kernel
theorem dX10_lot_42 : decode cX10_lot 42 = .ok (.iconst 0, 1) := by decide +kernel
theorem dX10_lot_43 : decode cX10_lot 43 = .ok (.istore 6, 2) := by decide +kernel
theorem dX10_lot_45 : decode cX10_lot 45 = .ok (.iload 6, 2) := by decide +kernel
theorem dX10_lot_47 : decode cX10_lot 47 = .ok (.iload_n 3, 1) := by decide +kernel
theorem dX10_lot_48 : decode cX10_lot 48 = .ok (.if_icmp .ge 49, 3) := by decide +kernel
theorem dX10_lot_97 : decode cX10_lot 97 = .ok (.iload 5, 2) := by decide +kernel
theorem dX10_lot_99 : decode cX10_lot 99 = .ok (.ireturn, 1) := by decide +kernel
theorem dX10_lot_51 : decode cX10_lot 51 = .ok (.aload_n 0, 1) := by decide +kernel
theorem dX10_lot_52 : decode cX10_lot 52 = .ok (.getfield 79, 3) := by decide +kernel
theorem dX10_lot_55 : decode cX10_lot 55 = .ok (.aload_n 0, 1) := by decide +kernel
theorem dX10_lot_56 : decode cX10_lot 56 = .ok (.getfield 31, 3) := by decide +kernel
theorem dX10_lot_59 : decode cX10_lot 59 = .ok (.getfield 98, 3) := by decide +kernel
theorem dX10_lot_62 : decode cX10_lot 62 = .ok (.aload_n 0, 1) := by decide +kernel
theorem dX10_lot_63 : decode cX10_lot 63 = .ok (.getfield 41, 3) := by decide +kernel
theorem dX10_lot_66 : decode cX10_lot 66 = .ok (.iload_n 2, 1) := by decide +kernel
theorem dX10_lot_67 : decode cX10_lot 67 = .ok (.aaload, 1) := by decide +kernel
theorem dX10_lot_68 : decode cX10_lot 68 = .ok (.iload_n 1, 1) := by decide +kernel
theorem dX10_lot_69 : decode cX10_lot 69 = .ok (.i2l, 1) := by decide +kernel
theorem dX10_lot_70 : decode cX10_lot 70 = .ok (.iload 6, 2) := by decide +kernel
theorem dX10_lot_72 : decode cX10_lot 72 = .ok (.i2l, 1) := by decide +kernel
theorem dX10_lot_73 : decode cX10_lot 73 = .ok (.ladd, 1) := by decide +kernel
theorem dX10_lot_74 : decode cX10_lot 74 = .ok (.invokevirtual 311, 3) := by decide +kernel
theorem dX10_lot_77 : decode cX10_lot 77 = .ok (.aload_n 0, 1) := by decide +kernel
theorem dX10_lot_78 : decode cX10_lot 78 = .ok (.getfield 79, 3) := by decide +kernel
theorem dX10_lot_81 : decode cX10_lot 81 = .ok (.getfield 315, 3) := by decide +kernel
theorem dX10_lot_84 : decode cX10_lot 84 = .ok (.iconst (-1), 1) := by decide +kernel
theorem dX10_lot_91 : decode cX10_lot 91 = .ok (.iinc 6 1, 3) := by decide +kernel
theorem dX10_lot_94 : decode cX10_lot 94 = .ok (.goto (-49), 3) := by decide +kernel
theorem dX10_lot_85 : decode cX10_lot 85 = .ok (.if_icmp .eq 6, 3) := by decide +kernel
theorem dX10_lot_88 : decode cX10_lot 88 = .ok (.iinc 5 1, 3) := by decide +kernel
theorem dX10_lot_36 : decode cX10_lot 36 = .ok (.iload 4, 2) := by decide +kernel
theorem dX10_lot_38 : decode cX10_lot 38 = .ok (.ireturn, 1) := by decide +kernel
theorem dX10_lot_25 : decode cX10_lot 25 = .ok (.iconst 0, 1) := by decide +kernel
theorem dX10_lot_7 : decode cX10_lot 7 = .ok (.ifCond .eq 18, 3) := by decide +kernel
theorem dX10_lot_10 : decode cX10_lot 10 = .ok (.iload_n 3, 1) := by decide +kernel
theorem dX10_lot_11 : decode cX10_lot 11 = .ok (.iconst 1, 1) := by decide +kernel
theorem dX10_lot_12 : decode cX10_lot 12 = .ok (.if_icmp .lt 13, 3) := by decide +kernel
theorem dX10_lot_15 : decode cX10_lot 15 = .ok (.iload_n 3, 1) := by decide +kernel
theorem dX10_lot_16 : decode cX10_lot 16 = .ok (.bipush 20, 2) := by decide +kernel
theorem dX10_lot_18 : decode cX10_lot 18 = .ok (.if_icmp .gt 7, 3) := by decide +kernel
theorem dX10_lot_21 : decode cX10_lot 21 = .ok (.iconst 1, 1) := by decide +kernel
theorem dX10_lot_22 : decode cX10_lot 22 = .ok (.goto 4, 3) := by decide +kernel
theorem dX10_best_0 : decode cX10_best 0 = .ok (.aload_n 0, 1) := by decide +kernel
theorem dX10_best_1 : decode cX10_best 1 = .ok (.iload_n 1, 1) := by decide +kernel
theorem dX10_best_2 : decode cX10_best 2 = .ok (.invokevirtual 120, 3) := by decide +kernel
theorem dX10_best_5 : decode cX10_best 5 = .ok (.ifCond .eq 11, 3) := by decide +kernel
theorem dX10_best_16 : decode cX10_best 16 = .ok (.bipush (-2), 2) := by decide +kernel
theorem dX10_best_18 : decode cX10_best 18 = .ok (.ireturn, 1) := by decide +kernel
theorem dX10_best_8 : decode cX10_best 8 = .ok (.aload_n 0, 1) := by decide +kernel
theorem dX10_best_9 : decode cX10_best 9 = .ok (.iload_n 2, 1) := by decide +kernel
theorem dX10_best_10 : decode cX10_best 10 = .ok (.invokevirtual 215, 3) := by decide +kernel
theorem dX10_best_13 : decode cX10_best 13 = .ok (.ifCond .ne 6, 3) := by decide +kernel
theorem dX10_best_19 : decode cX10_best 19 = .ok (.aload_n 0, 1) := by decide +kernel
theorem dX10_best_20 : decode cX10_best 20 = .ok (.getfield 58, 3) := by decide +kernel
theorem dX10_best_23 : decode cX10_best 23 = .ok (.aload_n 0, 1) := by decide +kernel
theorem dX10_best_24 : decode cX10_best 24 = .ok (.getfield 31, 3) := by decide +kernel
theorem dX10_best_27 : decode cX10_best 27 = .ok (.getfield 98, 3) := by decide +kernel
theorem dX10_best_30 : decode cX10_best 30 = .ok (.aload_n 0, 1) := by decide +kernel
theorem dX10_best_31 : decode cX10_best 31 = .ok (.getfield 48, 3) := by decide +kernel
theorem dX10_best_34 : decode cX10_best 34 = .ok (.iload_n 1, 1) := by decide +kernel
theorem dX10_best_35 : decode cX10_best 35 = .ok (.iload_n 2, 1) := by decide +kernel
theorem dX10_best_36 : decode cX10_best 36 = .ok (.invokevirtual 218, 3) := by decide +kernel
theorem dX10_best_39 : decode cX10_best 39 = .ok (.ireturn, 1) := by decide +kernel
theorem dX10_goes_0 : decode cX10_goes 0 = .ok (.aload_n 0, 1) := by decide +kernel
theorem dX10_goes_1 : decode cX10_goes 1 = .ok (.iload_n 1, 1) := by decide +kernel
theorem dX10_goes_2 : decode cX10_goes 2 = .ok (.invokevirtual 120, 3) := by decide +kernel
theorem dX10_goes_5 : decode cX10_goes 5 = .ok (.ifCond .eq 11, 3) := by decide +kernel
theorem dX10_goes_16 : decode cX10_goes 16 = .ok (.bipush (-2), 2) := by decide +kernel
theorem dX10_goes_18 : decode cX10_goes 18 = .ok (.ireturn, 1) := by decide +kernel
theorem dX10_goes_8 : decode cX10_goes 8 = .ok (.aload_n 0, 1) := by decide +kernel
theorem dX10_goes_9 : decode cX10_goes 9 = .ok (.iload_n 2, 1) := by decide +kernel
theorem dX10_goes_10 : decode cX10_goes 10 = .ok (.invokevirtual 215, 3) := by decide +kernel
theorem dX10_goes_13 : decode cX10_goes 13 = .ok (.ifCond .ne 6, 3) := by decide +kernel
theorem dX10_goes_19 : decode cX10_goes 19 = .ok (.iload_n 3, 1) := by decide +kernel
theorem dX10_goes_20 : decode cX10_goes 20 = .ok (.ifCond .lt 8, 3) := by decide +kernel
theorem dX10_goes_28 : decode cX10_goes 28 = .ok (.iconst (-1), 1) := by decide +kernel
theorem dX10_goes_29 : decode cX10_goes 29 = .ok (.ireturn, 1) := by decide +kernel
theorem dX10_goes_23 : decode cX10_goes 23 = .ok (.iload_n 3, 1) := by decide +kernel
theorem dX10_goes_24 : decode cX10_goes 24 = .ok (.iload_n 2, 1) := by decide +kernel
theorem dX10_goes_25 : decode cX10_goes 25 = .ok (.if_icmp .lt 5, 3) := by decide +kernel
theorem dX10_goes_30 : decode cX10_goes 30 = .ok (.aload_n 0, 1) := by decide +kernel
theorem dX10_goes_31 : decode cX10_goes 31 = .ok (.getfield 58, 3) := by decide +kernel
theorem dX10_goes_34 : decode cX10_goes 34 = .ok (.aload_n 0, 1) := by decide +kernel
theorem dX10_goes_35 : decode cX10_goes 35 = .ok (.getfield 31, 3) := by decide +kernel
theorem dX10_goes_38 : decode cX10_goes 38 = .ok (.getfield 98, 3) := by decide +kernel
theorem dX10_goes_41 : decode cX10_goes 41 = .ok (.aload_n 0, 1) := by decide +kernel
theorem dX10_goes_42 : decode cX10_goes 42 = .ok (.getfield 48, 3) := by decide +kernel
theorem dX10_goes_45 : decode cX10_goes 45 = .ok (.iload_n 1, 1) := by decide +kernel
theorem dX10_goes_46 : decode cX10_goes 46 = .ok (.iload_n 2, 1) := by decide +kernel
theorem dX10_goes_47 : decode cX10_goes 47 = .ok (.invokevirtual 218, 3) := by decide +kernel
theorem dX10_goes_50 : decode cX10_goes 50 = .ok (.pop, 1) := by decide +kernel
theorem dX10_goes_51 : decode cX10_goes 51 = .ok (.aload_n 0, 1) := by decide +kernel
theorem dX10_goes_52 : decode cX10_goes 52 = .ok (.getfield 58, 3) := by decide +kernel
theorem dX10_goes_55 : decode cX10_goes 55 = .ok (.iload_n 3, 1) := by decide +kernel
theorem dX10_goes_56 : decode cX10_goes 56 = .ok (.invokevirtual 222, 3) := by decide +kernel
theorem dX10_goes_59 : decode cX10_goes 59 = .ok (.ireturn, 1) := by decide +kernel
theorem dX10_begins_0 : decode cX10_begins 0 = .ok (.aload_n 0, 1) := by decide +kernel
theorem dX10_begins_1 : decode cX10_begins 1 = .ok (.getfield 31, 3) := by decide +kernel
theorem dX10_begins_4 : decode cX10_begins 4 = .ok (.getfield 98, 3) := by decide +kernel
theorem dX10_begins_7 : decode cX10_begins 7 = .ok (.getfield 159, 3) := by decide +kernel
theorem dX10_begins_10 : decode cX10_begins 10 = .ok (.iconst 1, 1) := by decide +kernel
theorem dX10_begins_11 : decode cX10_begins 11 = .ok (.if_icmp .lt 11, 3) := by decide +kernel
theorem dX10_begins_22 : decode cX10_begins 22 = .ok (.bipush (-2), 2) := by decide +kernel
theorem dX10_begins_24 : decode cX10_begins 24 = .ok (.ireturn, 1) := by decide +kernel
theorem dX10_begins_14 : decode cX10_begins 14 = .ok (.aload_n 0, 1) := by decide +kernel
theorem dX10_begins_15 : decode cX10_begins 15 = .ok (.iload_n 1, 1) := by decide +kernel
theorem dX10_begins_16 : decode cX10_begins 16 = .ok (.invokevirtual 215, 3) := by decide +kernel
theorem dX10_begins_19 : decode cX10_begins 19 = .ok (.ifCond .ne 6, 3) := by decide +kernel
theorem dX10_begins_25 : decode cX10_begins 25 = .ok (.aload_n 0, 1) := by decide +kernel
theorem dX10_begins_26 : decode cX10_begins 26 = .ok (.getfield 58, 3) := by decide +kernel
theorem dX10_begins_29 : decode cX10_begins 29 = .ok (.aload_n 0, 1) := by decide +kernel
theorem dX10_begins_30 : decode cX10_begins 30 = .ok (.getfield 31, 3) := by decide +kernel
theorem dX10_begins_33 : decode cX10_begins 33 = .ok (.getfield 98, 3) := by decide +kernel
theorem dX10_begins_36 : decode cX10_begins 36 = .ok (.aload_n 0, 1) := by decide +kernel
theorem dX10_begins_37 : decode cX10_begins 37 = .ok (.getfield 48, 3) := by decide +kernel
theorem dX10_begins_40 : decode cX10_begins 40 = .ok (.iload_n 1, 1) := by decide +kernel
theorem dX10_begins_41 : decode cX10_begins 41 = .ok (.invokevirtual 225, 3) := by decide +kernel
theorem dX10_begins_44 : decode cX10_begins 44 = .ok (.ireturn, 1) := by decide +kernel
theorem dX10_soon_0 : decode cX10_soon 0 = .ok (.aload_n 0, 1) := by decide +kernel
theorem dX10_soon_1 : decode cX10_soon 1 = .ok (.iload_n 1, 1) := by decide +kernel
theorem dX10_soon_2 : decode cX10_soon 2 = .ok (.invokevirtual 120, 3) := by decide +kernel
theorem dX10_soon_5 : decode cX10_soon 5 = .ok (.ifCond .eq 11, 3) := by decide +kernel
theorem dX10_soon_16 : decode cX10_soon 16 = .ok (.bipush (-2), 2) := by decide +kernel
theorem dX10_soon_18 : decode cX10_soon 18 = .ok (.ireturn, 1) := by decide +kernel
theorem dX10_soon_8 : decode cX10_soon 8 = .ok (.aload_n 0, 1) := by decide +kernel
theorem dX10_soon_9 : decode cX10_soon 9 = .ok (.iload_n 2, 1) := by decide +kernel
theorem dX10_soon_10 : decode cX10_soon 10 = .ok (.invokevirtual 205, 3) := by decide +kernel
theorem dX10_soon_13 : decode cX10_soon 13 = .ok (.ifCond .ne 6, 3) := by decide +kernel
theorem dX10_soon_19 : decode cX10_soon 19 = .ok (.iconst 0, 1) := by decide +kernel
theorem dX10_soon_20 : decode cX10_soon 20 = .ok (.istore_n 3, 1) := by decide +kernel
theorem dX10_soon_21 : decode cX10_soon 21 = .ok (.iload_n 3, 1) := by decide +kernel
theorem dX10_soon_22 : decode cX10_soon 22 = .ok (.iconst 5, 1) := by decide +kernel
theorem dX10_soon_23 : decode cX10_soon 23 = .ok (.if_icmp .gt 35, 3) := by decide +kernel
theorem dX10_soon_58 : decode cX10_soon 58 = .ok (.iconst (-1), 1) := by decide +kernel
theorem dX10_soon_59 : decode cX10_soon 59 = .ok (.ireturn, 1) := by decide +kernel
theorem dX10_soon_26 : decode cX10_soon 26 = .ok (.aload_n 0, 1) := by decide +kernel
theorem dX10_soon_27 : decode cX10_soon 27 = .ok (.getfield 58, 3) := by decide +kernel
theorem dX10_soon_30 : decode cX10_soon 30 = .ok (.aload_n 0, 1) := by decide +kernel
theorem dX10_soon_31 : decode cX10_soon 31 = .ok (.getfield 31, 3) := by decide +kernel
theorem dX10_soon_34 : decode cX10_soon 34 = .ok (.getfield 98, 3) := by decide +kernel
theorem dX10_soon_37 : decode cX10_soon 37 = .ok (.aload_n 0, 1) := by decide +kernel
theorem dX10_soon_38 : decode cX10_soon 38 = .ok (.getfield 48, 3) := by decide +kernel
theorem dX10_soon_41 : decode cX10_soon 41 = .ok (.iload_n 1, 1) := by decide +kernel
theorem dX10_soon_42 : decode cX10_soon 42 = .ok (.iload_n 3, 1) := by decide +kernel
theorem dX10_soon_43 : decode cX10_soon 43 = .ok (.invokevirtual 218, 3) := by decide +kernel
theorem dX10_soon_46 : decode cX10_soon 46 = .ok (.iload_n 2, 1) := by decide +kernel
theorem dX10_soon_47 : decode cX10_soon 47 = .ok (.if_icmp .lt 5, 3) := by decide +kernel
theorem dX10_soon_52 : decode cX10_soon 52 = .ok (.iinc 3 1, 3) := by decide +kernel
theorem dX10_soon_55 : decode cX10_soon 55 = .ok (.goto (-34), 3) := by decide +kernel
theorem dX10_soon_50 : decode cX10_soon 50 = .ok (.iload_n 3, 1) := by decide +kernel
theorem dX10_soon_51 : decode cX10_soon 51 = .ok (.ireturn, 1) := by decide +kernel
theorem dX10_far_0 : decode cX10_far 0 = .ok (.aload_n 0, 1) := by decide +kernel
theorem dX10_far_1 : decode cX10_far 1 = .ok (.iload_n 1, 1) := by decide +kernel
theorem dX10_far_2 : decode cX10_far 2 = .ok (.invokevirtual 120, 3) := by decide +kernel
theorem dX10_far_5 : decode cX10_far 5 = .ok (.ifCond .eq 11, 3) := by decide +kernel
theorem dX10_far_16 : decode cX10_far 16 = .ok (.bipush (-2), 2) := by decide +kernel
theorem dX10_far_18 : decode cX10_far 18 = .ok (.ireturn, 1) := by decide +kernel
theorem dX10_far_8 : decode cX10_far 8 = .ok (.aload_n 0, 1) := by decide +kernel
theorem dX10_far_9 : decode cX10_far 9 = .ok (.iload_n 2, 1) := by decide +kernel
theorem dX10_far_10 : decode cX10_far 10 = .ok (.invokevirtual 120, 3) := by decide +kernel
theorem dX10_far_13 : decode cX10_far 13 = .ok (.ifCond .ne 6, 3) := by decide +kernel
theorem dX10_far_19 : decode cX10_far 19 = .ok (.iconst 1, 1) := by decide +kernel
theorem dX10_far_20 : decode cX10_far 20 = .ok (.iload_n 1, 1) := by decide +kernel
theorem dX10_far_21 : decode cX10_far 21 = .ok (.ishl, 1) := by decide +kernel
theorem dX10_far_22 : decode cX10_far 22 = .ok (.istore_n 3, 1) := by decide +kernel
theorem dX10_far_23 : decode cX10_far 23 = .ok (.iconst 0, 1) := by decide +kernel
theorem dX10_far_24 : decode cX10_far 24 = .ok (.istore 4, 2) := by decide +kernel
theorem dX10_far_26 : decode cX10_far 26 = .ok (.iload 4, 2) := by decide +kernel
theorem dX10_far_28 : decode cX10_far 28 = .ok (.bipush 7, 2) := by decide +kernel
theorem dX10_far_30 : decode cX10_far 30 = .ok (.if_icmp .ge 32, 3) := by decide +kernel
theorem dX10_far_62 : decode cX10_far 62 = .ok (.iconst (-1), 1) := by decide +kernel
theorem dX10_far_63 : decode cX10_far 63 = .ok (.ireturn, 1) := by decide +kernel
theorem dX10_far_33 : decode cX10_far 33 = .ok (.iload_n 3, 1) := by decide +kernel
theorem dX10_far_34 : decode cX10_far 34 = .ok (.iload_n 2, 1) := by decide +kernel
theorem dX10_far_35 : decode cX10_far 35 = .ok (.ishr, 1) := by decide +kernel
theorem dX10_far_36 : decode cX10_far 36 = .ok (.iconst 1, 1) := by decide +kernel
theorem dX10_far_37 : decode cX10_far 37 = .ok (.iand, 1) := by decide +kernel
theorem dX10_far_38 : decode cX10_far 38 = .ok (.ifCond .eq 6, 3) := by decide +kernel
theorem dX10_far_44 : decode cX10_far 44 = .ok (.aload_n 0, 1) := by decide +kernel
theorem dX10_far_45 : decode cX10_far 45 = .ok (.getfield 31, 3) := by decide +kernel
theorem dX10_far_48 : decode cX10_far 48 = .ok (.getfield 98, 3) := by decide +kernel
theorem dX10_far_51 : decode cX10_far 51 = .ok (.iload_n 3, 1) := by decide +kernel
theorem dX10_far_52 : decode cX10_far 52 = .ok (.invokevirtual 229, 3) := by decide +kernel
theorem dX10_far_55 : decode cX10_far 55 = .ok (.istore_n 3, 1) := by decide +kernel
theorem dX10_far_56 : decode cX10_far 56 = .ok (.iinc 4 1, 3) := by decide +kernel
theorem dX10_far_59 : decode cX10_far 59 = .ok (.goto (-33), 3) := by decide +kernel
theorem dX10_far_41 : decode cX10_far 41 = .ok (.iload 4, 2) := by decide +kernel
theorem dX10_far_43 : decode cX10_far 43 = .ok (.ireturn, 1) := by decide +kernel
theorem dX10_rest_0 : decode cX10_rest 0 = .ok (.aload_n 0, 1) := by decide +kernel
theorem dX10_rest_1 : decode cX10_rest 1 = .ok (.invokevirtual 152, 3) := by decide +kernel
theorem dX10_rest_4 : decode cX10_rest 4 = .ok (.ifCond .ne 6, 3) := by decide +kernel
theorem dX10_rest_10 : decode cX10_rest 10 = .ok (.aload_n 0, 1) := by decide +kernel
theorem dX10_rest_11 : decode cX10_rest 11 = .ok (.getfield 52, 3) := by decide +kernel
theorem dX10_rest_14 : decode cX10_rest 14 = .ok (.aload_n 0, 1) := by decide +kernel
theorem dX10_rest_15 : decode cX10_rest 15 = .ok (.getfield 48, 3) := by decide +kernel
theorem dX10_rest_18 : decode cX10_rest 18 = .ok (.invokevirtual 179, 3) := by decide +kernel
theorem dX10_rest_21 : decode cX10_rest 21 = .ok (.iconst 0, 1) := by decide +kernel
theorem dX10_rest_22 : decode cX10_rest 22 = .ok (.istore_n 1, 1) := by decide +kernel
theorem dX10_rest_23 : decode cX10_rest 23 = .ok (.iload_n 1, 1) := by decide +kernel
theorem dX10_rest_24 : decode cX10_rest 24 = .ok (.sipush 200, 3) := by decide +kernel
theorem dX10_rest_27 : decode cX10_rest 27 = .ok (.if_icmp .gt 29, 3) := by decide +kernel
theorem dX10_rest_56 : decode cX10_rest 56 = .ok (.iconst (-1), 1) := by decide +kernel
theorem dX10_rest_57 : decode cX10_rest 57 = .ok (.ireturn, 1) := by decide +kernel
theorem dX10_rest_30 : decode cX10_rest 30 = .ok (.aload_n 0, 1) := by decide +kernel
theorem dX10_rest_31 : decode cX10_rest 31 = .ok (.getfield 52, 3) := by decide +kernel
theorem dX10_rest_34 : decode cX10_rest 34 = .ok (.aload_n 0, 1) := by decide +kernel
theorem dX10_rest_35 : decode cX10_rest 35 = .ok (.getfield 31, 3) := by decide +kernel
theorem dX10_rest_38 : decode cX10_rest 38 = .ok (.getfield 98, 3) := by decide +kernel
theorem dX10_rest_41 : decode cX10_rest 41 = .ok (.iconst (-1), 1) := by decide +kernel
theorem dX10_rest_42 : decode cX10_rest 42 = .ok (.invokevirtual 182, 3) := by decide +kernel
theorem dX10_rest_45 : decode cX10_rest 45 = .ok (.ifCond .ne 5, 3) := by decide +kernel
theorem dX10_rest_50 : decode cX10_rest 50 = .ok (.iinc 1 1, 3) := by decide +kernel
theorem dX10_rest_53 : decode cX10_rest 53 = .ok (.goto (-30), 3) := by decide +kernel
theorem dX10_rest_48 : decode cX10_rest 48 = .ok (.iload_n 1, 1) := by decide +kernel
theorem dX10_rest_49 : decode cX10_rest 49 = .ok (.ireturn, 1) := by decide +kernel
theorem dX10_rest_7 : decode cX10_rest 7 = .ok (.bipush (-2), 2) := by decide +kernel
theorem dX10_rest_9 : decode cX10_rest 9 = .ok (.ireturn, 1) := by decide +kernel
theorem dX10_trumpet_0 : decode cX10_trumpet 0 = .ok (.aload_n 0, 1) := by decide +kernel
theorem dX10_trumpet_1 : decode cX10_trumpet 1 = .ok (.invokevirtual 152, 3) := by decide +kernel
theorem dX10_trumpet_4 : decode cX10_trumpet 4 = .ok (.ifCond .eq 20, 3) := by decide +kernel
theorem dX10_trumpet_24 : decode cX10_trumpet 24 = .ok (.bipush (-2), 2) := by decide +kernel
theorem dX10_trumpet_26 : decode cX10_trumpet 26 = .ok (.ireturn, 1) := by decide +kernel
theorem dX10_trumpet_7 : decode cX10_trumpet 7 = .ok (.aload_n 0, 1) := by decide +kernel
theorem dX10_trumpet_8 : decode cX10_trumpet 8 = .ok (.aload_n 0, 1) := by decide +kernel
theorem dX10_trumpet_9 : decode cX10_trumpet 9 = .ok (.getfield 31, 3) := by decide +kernel
theorem dX10_trumpet_12 : decode cX10_trumpet 12 = .ok (.getfield 98, 3) := by decide +kernel
theorem dX10_trumpet_15 : decode cX10_trumpet 15 = .ok (.invokevirtual 238, 3) := by decide +kernel
theorem dX10_trumpet_18 : decode cX10_trumpet 18 = .ok (.invokevirtual 241, 3) := by decide +kernel
theorem dX10_trumpet_21 : decode cX10_trumpet 21 = .ok (.goto 5, 3) := by decide +kernel
theorem dX10_quiet_0 : decode cX10_quiet 0 = .ok (.aload_n 0, 1) := by decide +kernel
theorem dX10_quiet_1 : decode cX10_quiet 1 = .ok (.invokevirtual 152, 3) := by decide +kernel
theorem dX10_quiet_4 : decode cX10_quiet 4 = .ok (.ifCond .eq 11, 3) := by decide +kernel
theorem dX10_quiet_15 : decode cX10_quiet 15 = .ok (.bipush (-2), 2) := by decide +kernel
theorem dX10_quiet_17 : decode cX10_quiet 17 = .ok (.ireturn, 1) := by decide +kernel
theorem dX10_quiet_7 : decode cX10_quiet 7 = .ok (.aload_n 0, 1) := by decide +kernel
theorem dX10_quiet_8 : decode cX10_quiet 8 = .ok (.iload_n 1, 1) := by decide +kernel
theorem dX10_quiet_9 : decode cX10_quiet 9 = .ok (.invokevirtual 205, 3) := by decide +kernel
theorem dX10_quiet_12 : decode cX10_quiet 12 = .ok (.ifCond .ne 6, 3) := by decide +kernel
theorem dX10_quiet_18 : decode cX10_quiet 18 = .ok (.aload_n 0, 1) := by decide +kernel
theorem dX10_quiet_19 : decode cX10_quiet 19 = .ok (.iload_n 1, 1) := by decide +kernel
theorem dX10_quiet_20 : decode cX10_quiet 20 = .ok (.invokevirtual 244, 3) := by decide +kernel
theorem dX10_quiet_23 : decode cX10_quiet 23 = .ok (.istore_n 2, 1) := by decide +kernel
theorem dX10_quiet_24 : decode cX10_quiet 24 = .ok (.iload_n 2, 1) := by decide +kernel
theorem dX10_quiet_25 : decode cX10_quiet 25 = .ok (.iconst (-1), 1) := by decide +kernel
theorem dX10_quiet_26 : decode cX10_quiet 26 = .ok (.if_icmp .ne 7, 3) := by decide +kernel
theorem dX10_quiet_33 : decode cX10_quiet 33 = .ok (.aload_n 0, 1) := by decide +kernel
theorem dX10_quiet_34 : decode cX10_quiet 34 = .ok (.iload_n 2, 1) := by decide +kernel
theorem dX10_quiet_35 : decode cX10_quiet 35 = .ok (.invokevirtual 247, 3) := by decide +kernel
theorem dX10_quiet_38 : decode cX10_quiet 38 = .ok (.ireturn, 1) := by decide +kernel
theorem dX10_quiet_29 : decode cX10_quiet 29 = .ok (.iconst (-1), 1) := by decide +kernel
theorem dX10_quiet_30 : decode cX10_quiet 30 = .ok (.goto 8, 3) := by decide +kernel
theorem dX10_quietly_0 : decode cX10_quietly 0 = .ok (.aload_n 0, 1) := by decide +kernel
theorem dX10_quietly_1 : decode cX10_quietly 1 = .ok (.invokevirtual 152, 3) := by decide +kernel
theorem dX10_quietly_4 : decode cX10_quietly 4 = .ok (.ifCond .eq 11, 3) := by decide +kernel
theorem dX10_quietly_15 : decode cX10_quietly 15 = .ok (.bipush (-2), 2) := by decide +kernel
theorem dX10_quietly_17 : decode cX10_quietly 17 = .ok (.ireturn, 1) := by decide +kernel
theorem dX10_quietly_7 : decode cX10_quietly 7 = .ok (.aload_n 0, 1) := by decide +kernel
theorem dX10_quietly_8 : decode cX10_quietly 8 = .ok (.iload_n 1, 1) := by decide +kernel
