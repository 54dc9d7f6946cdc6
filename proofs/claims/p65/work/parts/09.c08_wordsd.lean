theorem dX11_is_36 : decode cX11_is 36 = .ok (.istore_n 2, 1) := by decide +kernel
theorem dX11_is_37 : decode cX11_is 37 = .ok (.iconst 0, 1) := by decide +kernel
theorem dX11_is_38 : decode cX11_is 38 = .ok (.istore_n 3, 1) := by decide +kernel
theorem dX11_is_39 : decode cX11_is 39 = .ok (.iload_n 3, 1) := by decide +kernel
theorem dX11_is_40 : decode cX11_is 40 = .ok (.aload_n 1, 1) := by decide +kernel
theorem dX11_is_41 : decode cX11_is 41 = .ok (.invokevirtual 136, 3) := by decide +kernel
theorem dX11_is_44 : decode cX11_is 44 = .ok (.if_icmp .ge 38, 3) := by decide +kernel
theorem dX11_is_82 : decode cX11_is 82 = .ok (.iload_n 2, 1) := by decide +kernel
theorem dX11_is_83 : decode cX11_is 83 = .ok (.ireturn, 1) := by decide +kernel
theorem dX11_is_47 : decode cX11_is 47 = .ok (.iload_n 2, 1) := by decide +kernel
theorem dX11_is_48 : decode cX11_is 48 = .ok (.ifCond .eq 34, 3) := by decide +kernel
theorem dX11_is_51 : decode cX11_is 51 = .ok (.aload_n 0, 1) := by decide +kernel
theorem dX11_is_52 : decode cX11_is 52 = .ok (.getfield 20, 3) := by decide +kernel
theorem dX11_is_55 : decode cX11_is 55 = .ok (.aload_n 0, 1) := by decide +kernel
theorem dX11_is_56 : decode cX11_is 56 = .ok (.getfield 106, 3) := by decide +kernel
theorem dX11_is_59 : decode cX11_is 59 = .ok (.iload_n 3, 1) := by decide +kernel
theorem dX11_is_60 : decode cX11_is 60 = .ok (.iadd, 1) := by decide +kernel
theorem dX11_is_61 : decode cX11_is 61 = .ok (.baload, 1) := by decide +kernel
theorem dX11_is_62 : decode cX11_is 62 = .ok (.aload_n 1, 1) := by decide +kernel
theorem dX11_is_63 : decode cX11_is 63 = .ok (.iload_n 3, 1) := by decide +kernel
theorem dX11_is_64 : decode cX11_is 64 = .ok (.invokevirtual 142, 3) := by decide +kernel
theorem dX11_is_75 : decode cX11_is 75 = .ok (.istore_n 2, 1) := by decide +kernel
theorem dX11_is_76 : decode cX11_is 76 = .ok (.iinc 3 1, 3) := by decide +kernel
theorem dX11_is_79 : decode cX11_is 79 = .ok (.goto (-40), 3) := by decide +kernel
theorem dX11_is_67 : decode cX11_is 67 = .ok (.if_icmp .ne 7, 3) := by decide +kernel
theorem dX11_is_74 : decode cX11_is 74 = .ok (.iconst 0, 1) := by decide +kernel
theorem dX11_is_70 : decode cX11_is 70 = .ok (.iconst 1, 1) := by decide +kernel
theorem dX11_is_71 : decode cX11_is 71 = .ok (.goto 4, 3) := by decide +kernel
theorem dX11_is_35 : decode cX11_is 35 = .ok (.iconst 0, 1) := by decide +kernel
theorem dX11_is_4 : decode cX11_is 4 = .ok (.ifCond .eq 31, 3) := by decide +kernel
theorem dX11_is_7 : decode cX11_is 7 = .ok (.aload_n 0, 1) := by decide +kernel
theorem dX11_is_8 : decode cX11_is 8 = .ok (.getfield 109, 3) := by decide +kernel
theorem dX11_is_11 : decode cX11_is 11 = .ok (.iconst 1, 1) := by decide +kernel
theorem dX11_is_12 : decode cX11_is 12 = .ok (.if_icmp .ne 23, 3) := by decide +kernel
theorem dX11_is_15 : decode cX11_is 15 = .ok (.aload_n 0, 1) := by decide +kernel
theorem dX11_is_16 : decode cX11_is 16 = .ok (.getfield 99, 3) := by decide +kernel
theorem dX11_is_19 : decode cX11_is 19 = .ok (.aload_n 0, 1) := by decide +kernel
theorem dX11_is_20 : decode cX11_is 20 = .ok (.getfield 106, 3) := by decide +kernel
theorem dX11_is_23 : decode cX11_is 23 = .ok (.isub, 1) := by decide +kernel
theorem dX11_is_24 : decode cX11_is 24 = .ok (.aload_n 1, 1) := by decide +kernel
theorem dX11_is_25 : decode cX11_is 25 = .ok (.invokevirtual 136, 3) := by decide +kernel
theorem dX11_is_28 : decode cX11_is 28 = .ok (.if_icmp .ne 7, 3) := by decide +kernel
theorem dX11_is_31 : decode cX11_is 31 = .ok (.iconst 1, 1) := by decide +kernel
theorem dX11_is_32 : decode cX11_is 32 = .ok (.goto 4, 3) := by decide +kernel
theorem dX11_takes_0 : decode cX11_takes 0 = .ok (.aload_n 0, 1) := by decide +kernel
theorem dX11_takes_1 : decode cX11_takes 1 = .ok (.aload_n 1, 1) := by decide +kernel
theorem dX11_takes_2 : decode cX11_takes 2 = .ok (.invokevirtual 146, 3) := by decide +kernel
theorem dX11_takes_5 : decode cX11_takes 5 = .ok (.istore_n 2, 1) := by decide +kernel
theorem dX11_takes_6 : decode cX11_takes 6 = .ok (.iload_n 2, 1) := by decide +kernel
theorem dX11_takes_7 : decode cX11_takes 7 = .ok (.ifCond .eq 7, 3) := by decide +kernel
theorem dX11_takes_14 : decode cX11_takes 14 = .ok (.iload_n 2, 1) := by decide +kernel
theorem dX11_takes_15 : decode cX11_takes 15 = .ok (.ireturn, 1) := by decide +kernel
theorem dX11_takes_10 : decode cX11_takes 10 = .ok (.aload_n 0, 1) := by decide +kernel
theorem dX11_takes_11 : decode cX11_takes 11 = .ok (.invokevirtual 150, 3) := by decide +kernel
theorem dX11_needs_0 : decode cX11_needs 0 = .ok (.aload_n 0, 1) := by decide +kernel
theorem dX11_needs_1 : decode cX11_needs 1 = .ok (.aload_n 1, 1) := by decide +kernel
theorem dX11_needs_2 : decode cX11_needs 2 = .ok (.invokevirtual 153, 3) := by decide +kernel
theorem dX11_needs_5 : decode cX11_needs 5 = .ok (.ifCond .ne 8, 3) := by decide +kernel
theorem dX11_needs_13 : decode cX11_needs 13 = .ok (.return_, 1) := by decide +kernel
theorem dX11_needs_8 : decode cX11_needs 8 = .ok (.aload_n 0, 1) := by decide +kernel
theorem dX11_needs_9 : decode cX11_needs 9 = .ok (.iconst 1, 1) := by decide +kernel
theorem dX11_needs_10 : decode cX11_needs 10 = .ok (.invokevirtual 156, 3) := by decide +kernel
theorem dX11_number_0 : decode cX11_number 0 = .ok (.aload_n 0, 1) := by decide +kernel
theorem dX11_number_1 : decode cX11_number 1 = .ok (.invokevirtual 133, 3) := by decide +kernel
theorem dX11_number_20 : decode cX11_number 20 = .ok (.aload_n 0, 1) := by decide +kernel
theorem dX11_number_21 : decode cX11_number 21 = .ok (.invokevirtual 133, 3) := by decide +kernel
theorem dX11_number_47 : decode cX11_number 47 = .ok (.aload_n 0, 1) := by decide +kernel
theorem dX11_number_48 : decode cX11_number 48 = .ok (.invokevirtual 133, 3) := by decide +kernel
theorem dX11_number_51 : decode cX11_number 51 = .ok (.ifCond .ne 5, 3) := by decide +kernel
theorem dX11_number_56 : decode cX11_number 56 = .ok (.aload_n 0, 1) := by decide +kernel
theorem dX11_number_57 : decode cX11_number 57 = .ok (.getfield 120, 3) := by decide +kernel
theorem dX11_number_60 : decode cX11_number 60 = .ok (.istore_n 3, 1) := by decide +kernel
theorem dX11_number_61 : decode cX11_number 61 = .ok (.aload_n 0, 1) := by decide +kernel
theorem dX11_number_62 : decode cX11_number 62 = .ok (.invokevirtual 150, 3) := by decide +kernel
theorem dX11_number_65 : decode cX11_number 65 = .ok (.iload_n 3, 1) := by decide +kernel
theorem dX11_number_66 : decode cX11_number 66 = .ok (.ireturn, 1) := by decide +kernel
theorem dX11_number_54 : decode cX11_number 54 = .ok (.iconst 0, 1) := by decide +kernel
theorem dX11_number_55 : decode cX11_number 55 = .ok (.ireturn, 1) := by decide +kernel
theorem dX11_number_24 : decode cX11_number 24 = .ok (.ifCond .eq 23, 3) := by decide +kernel
theorem dX11_number_27 : decode cX11_number 27 = .ok (.aload_n 0, 1) := by decide +kernel
theorem dX11_number_28 : decode cX11_number 28 = .ok (.getfield 120, 3) := by decide +kernel
theorem dX11_number_31 : decode cX11_number 31 = .ok (.i2l, 1) := by decide +kernel
theorem dX11_number_32 : decode cX11_number 32 = .ok (.iload_n 1, 1) := by decide +kernel
theorem dX11_number_33 : decode cX11_number 33 = .ok (.i2l, 1) := by decide +kernel
theorem dX11_number_34 : decode cX11_number 34 = .ok (.iload_n 2, 1) := by decide +kernel
theorem dX11_number_35 : decode cX11_number 35 = .ok (.i2l, 1) := by decide +kernel
theorem dX11_number_36 : decode cX11_number 36 = .ok (.invokestatic 79, 3) := by decide +kernel
theorem dX11_number_39 : decode cX11_number 39 = .ok (.ifCond .ne 8, 3) := by decide +kernel
theorem dX11_number_42 : decode cX11_number 42 = .ok (.aload_n 0, 1) := by decide +kernel
theorem dX11_number_43 : decode cX11_number 43 = .ok (.iconst 2, 1) := by decide +kernel
theorem dX11_number_44 : decode cX11_number 44 = .ok (.invokevirtual 156, 3) := by decide +kernel
theorem dX11_number_4 : decode cX11_number 4 = .ok (.ifCond .eq 16, 3) := by decide +kernel
theorem dX11_number_7 : decode cX11_number 7 = .ok (.aload_n 0, 1) := by decide +kernel
theorem dX11_number_8 : decode cX11_number 8 = .ok (.getfield 109, 3) := by decide +kernel
theorem dX11_number_11 : decode cX11_number 11 = .ok (.iconst 2, 1) := by decide +kernel
theorem dX11_number_12 : decode cX11_number 12 = .ok (.if_icmp .eq 8, 3) := by decide +kernel
theorem dX11_number_15 : decode cX11_number 15 = .ok (.aload_n 0, 1) := by decide +kernel
theorem dX11_number_16 : decode cX11_number 16 = .ok (.iconst 1, 1) := by decide +kernel
theorem dX11_number_17 : decode cX11_number 17 = .ok (.invokevirtual 156, 3) := by decide +kernel
theorem dX11_told_0 : decode cX11_told 0 = .ok (.aload_n 0, 1) := by decide +kernel
theorem dX11_told_1 : decode cX11_told 1 = .ok (.aload_n 1, 1) := by decide +kernel
theorem dX11_told_2 : decode cX11_told 2 = .ok (.invokevirtual 160, 3) := by decide +kernel
theorem dX11_told_5 : decode cX11_told 5 = .ok (.aload_n 0, 1) := by decide +kernel
theorem dX11_told_6 : decode cX11_told 6 = .ok (.iload_n 2, 1) := by decide +kernel
theorem dX11_told_7 : decode cX11_told 7 = .ok (.iload_n 3, 1) := by decide +kernel
theorem dX11_told_8 : decode cX11_told 8 = .ok (.invokevirtual 164, 3) := by decide +kernel
theorem dX11_told_11 : decode cX11_told 11 = .ok (.ireturn, 1) := by decide +kernel
theorem dX11_freshRoom_0 : decode cX11_freshRoom 0 = .ok (.aload_n 0, 1) := by decide +kernel
theorem dX11_freshRoom_1 : decode cX11_freshRoom 1 = .ok (.iconst 0, 1) := by decide +kernel
theorem dX11_freshRoom_2 : decode cX11_freshRoom 2 = .ok (.aload_n 0, 1) := by decide +kernel
theorem dX11_freshRoom_3 : decode cX11_freshRoom 3 = .ok (.getfield 31, 3) := by decide +kernel
theorem dX11_freshRoom_6 : decode cX11_freshRoom 6 = .ok (.iconst 4, 1) := by decide +kernel
theorem dX11_freshRoom_7 : decode cX11_freshRoom 7 = .ok (.iaload, 1) := by decide +kernel
theorem dX11_freshRoom_8 : decode cX11_freshRoom 8 = .ok (.iconst 1, 1) := by decide +kernel
theorem dX11_freshRoom_9 : decode cX11_freshRoom 9 = .ok (.isub, 1) := by decide +kernel
theorem dX11_freshRoom_10 : decode cX11_freshRoom 10 = .ok (.invokevirtual 164, 3) := by decide +kernel
theorem dX11_freshRoom_13 : decode cX11_freshRoom 13 = .ok (.ireturn, 1) := by decide +kernel
theorem dX11_freshMan_0 : decode cX11_freshMan 0 = .ok (.aload_n 0, 1) := by decide +kernel
theorem dX11_freshMan_1 : decode cX11_freshMan 1 = .ok (.iconst 0, 1) := by decide +kernel
theorem dX11_freshMan_2 : decode cX11_freshMan 2 = .ok (.aload_n 0, 1) := by decide +kernel
theorem dX11_freshMan_3 : decode cX11_freshMan 3 = .ok (.getfield 31, 3) := by decide +kernel
theorem dX11_freshMan_6 : decode cX11_freshMan 6 = .ok (.iconst 5, 1) := by decide +kernel
theorem dX11_freshMan_7 : decode cX11_freshMan 7 = .ok (.iaload, 1) := by decide +kernel
theorem dX11_freshMan_8 : decode cX11_freshMan 8 = .ok (.iconst 1, 1) := by decide +kernel
theorem dX11_freshMan_9 : decode cX11_freshMan 9 = .ok (.isub, 1) := by decide +kernel
theorem dX11_freshMan_10 : decode cX11_freshMan 10 = .ok (.invokevirtual 164, 3) := by decide +kernel
theorem dX11_freshMan_13 : decode cX11_freshMan 13 = .ok (.ireturn, 1) := by decide +kernel
theorem dX11_readRoom_0 : decode cX11_readRoom 0 = .ok (.bipush 8, 2) := by decide +kernel
theorem dX11_readRoom_2 : decode cX11_readRoom 2 = .ok (.iconst 4, 1) := by decide +kernel
theorem dX11_readRoom_3 : decode cX11_readRoom 3 = .ok (.aload_n 0, 1) := by decide +kernel
theorem dX11_readRoom_4 : decode cX11_readRoom 4 = .ok (.getfield 31, 3) := by decide +kernel
theorem dX11_readRoom_7 : decode cX11_readRoom 7 = .ok (.iconst 4, 1) := by decide +kernel
theorem dX11_readRoom_8 : decode cX11_readRoom 8 = .ok (.iaload, 1) := by decide +kernel
theorem dX11_readRoom_9 : decode cX11_readRoom 9 = .ok (.imul, 1) := by decide +kernel
theorem dX11_readRoom_10 : decode cX11_readRoom 10 = .ok (.iadd, 1) := by decide +kernel
theorem dX11_readRoom_11 : decode cX11_readRoom 11 = .ok (.istore_n 1, 1) := by decide +kernel
theorem dX11_readRoom_12 : decode cX11_readRoom 12 = .ok (.aload_n 0, 1) := by decide +kernel
theorem dX11_readRoom_13 : decode cX11_readRoom 13 = .ok (.getfield 31, 3) := by decide +kernel
theorem dX11_readRoom_16 : decode cX11_readRoom 16 = .ok (.iload_n 1, 1) := by decide +kernel
theorem dX11_readRoom_17 : decode cX11_readRoom 17 = .ok (.iconst 0, 1) := by decide +kernel
theorem dX11_readRoom_18 : decode cX11_readRoom 18 = .ok (.iadd, 1) := by decide +kernel
theorem dX11_readRoom_19 : decode cX11_readRoom 19 = .ok (.aload_n 0, 1) := by decide +kernel
theorem dX11_readRoom_20 : decode cX11_readRoom 20 = .ok (.ldc 167, 2) := by decide +kernel
theorem dX11_readRoom_22 : decode cX11_readRoom 22 = .ok (.iconst 0, 1) := by decide +kernel
theorem dX11_readRoom_23 : decode cX11_readRoom 23 = .ok (.sipush 999, 3) := by decide +kernel
theorem dX11_readRoom_26 : decode cX11_readRoom 26 = .ok (.invokevirtual 169, 3) := by decide +kernel
theorem dX11_readRoom_29 : decode cX11_readRoom 29 = .ok (.iastore, 1) := by decide +kernel
theorem dX11_readRoom_30 : decode cX11_readRoom 30 = .ok (.aload_n 0, 1) := by decide +kernel
theorem dX11_readRoom_31 : decode cX11_readRoom 31 = .ok (.getfield 31, 3) := by decide +kernel
theorem dX11_readRoom_34 : decode cX11_readRoom 34 = .ok (.iload_n 1, 1) := by decide +kernel
theorem dX11_readRoom_35 : decode cX11_readRoom 35 = .ok (.iconst 1, 1) := by decide +kernel
theorem dX11_readRoom_36 : decode cX11_readRoom 36 = .ok (.iadd, 1) := by decide +kernel
theorem dX11_readRoom_37 : decode cX11_readRoom 37 = .ok (.aload_n 0, 1) := by decide +kernel
theorem dX11_readRoom_38 : decode cX11_readRoom 38 = .ok (.ldc 173, 2) := by decide +kernel
theorem dX11_readRoom_40 : decode cX11_readRoom 40 = .ok (.iconst 0, 1) := by decide +kernel
theorem dX11_readRoom_41 : decode cX11_readRoom 41 = .ok (.bipush 100, 2) := by decide +kernel
theorem dX11_readRoom_43 : decode cX11_readRoom 43 = .ok (.invokevirtual 169, 3) := by decide +kernel
theorem dX11_readRoom_46 : decode cX11_readRoom 46 = .ok (.iastore, 1) := by decide +kernel
theorem dX11_readRoom_47 : decode cX11_readRoom 47 = .ok (.aload_n 0, 1) := by decide +kernel
theorem dX11_readRoom_48 : decode cX11_readRoom 48 = .ok (.getfield 31, 3) := by decide +kernel
theorem dX11_readRoom_51 : decode cX11_readRoom 51 = .ok (.iload_n 1, 1) := by decide +kernel
theorem dX11_readRoom_52 : decode cX11_readRoom 52 = .ok (.iconst 2, 1) := by decide +kernel
theorem dX11_readRoom_53 : decode cX11_readRoom 53 = .ok (.iadd, 1) := by decide +kernel
theorem dX11_readRoom_54 : decode cX11_readRoom 54 = .ok (.aload_n 0, 1) := by decide +kernel
theorem dX11_readRoom_55 : decode cX11_readRoom 55 = .ok (.ldc 175, 2) := by decide +kernel
theorem dX11_readRoom_57 : decode cX11_readRoom 57 = .ok (.iconst 0, 1) := by decide +kernel
theorem dX11_readRoom_58 : decode cX11_readRoom 58 = .ok (.bipush 99, 2) := by decide +kernel
theorem dX11_readRoom_60 : decode cX11_readRoom 60 = .ok (.invokevirtual 169, 3) := by decide +kernel
theorem dX11_readRoom_63 : decode cX11_readRoom 63 = .ok (.iastore, 1) := by decide +kernel
theorem dX11_readRoom_64 : decode cX11_readRoom 64 = .ok (.aload_n 0, 1) := by decide +kernel
theorem dX11_readRoom_65 : decode cX11_readRoom 65 = .ok (.getfield 31, 3) := by decide +kernel
theorem dX11_readRoom_68 : decode cX11_readRoom 68 = .ok (.iconst 4, 1) := by decide +kernel
theorem dX11_readRoom_69 : decode cX11_readRoom 69 = .ok (.dup2, 1) := by decide +kernel
theorem dX11_readRoom_70 : decode cX11_readRoom 70 = .ok (.iaload, 1) := by decide +kernel
theorem dX11_readRoom_71 : decode cX11_readRoom 71 = .ok (.iconst 1, 1) := by decide +kernel
theorem dX11_readRoom_72 : decode cX11_readRoom 72 = .ok (.iadd, 1) := by decide +kernel
theorem dX11_readRoom_73 : decode cX11_readRoom 73 = .ok (.iastore, 1) := by decide +kernel
theorem dX11_readRoom_74 : decode cX11_readRoom 74 = .ok (.return_, 1) := by decide +kernel
theorem dX11_readDoor_0 : decode cX11_readDoor 0 = .ok (.aload_n 0, 1) := by decide +kernel
theorem dX11_readDoor_1 : decode cX11_readDoor 1 = .ok (.invokevirtual 177, 3) := by decide +kernel
theorem dX11_readDoor_4 : decode cX11_readDoor 4 = .ok (.istore_n 1, 1) := by decide +kernel
theorem dX11_readDoor_5 : decode cX11_readDoor 5 = .ok (.aload_n 0, 1) := by decide +kernel
theorem dX11_readDoor_6 : decode cX11_readDoor 6 = .ok (.invokevirtual 133, 3) := by decide +kernel
theorem dX11_readDoor_33 : decode cX11_readDoor 33 = .ok (.aload_n 0, 1) := by decide +kernel
theorem dX11_readDoor_34 : decode cX11_readDoor 34 = .ok (.invokevirtual 177, 3) := by decide +kernel
theorem dX11_readDoor_37 : decode cX11_readDoor 37 = .ok (.istore_n 2, 1) := by decide +kernel
theorem dX11_readDoor_38 : decode cX11_readDoor 38 = .ok (.aload_n 0, 1) := by decide +kernel
theorem dX11_readDoor_39 : decode cX11_readDoor 39 = .ok (.invokevirtual 133, 3) := by decide +kernel
theorem dX11_readDoor_42 : decode cX11_readDoor 42 = .ok (.ifCond .ne 4, 3) := by decide +kernel
theorem dX11_readDoor_46 : decode cX11_readDoor 46 = .ok (.aload_n 0, 1) := by decide +kernel
theorem dX11_readDoor_47 : decode cX11_readDoor 47 = .ok (.getfield 31, 3) := by decide +kernel
theorem dX11_readDoor_50 : decode cX11_readDoor 50 = .ok (.bipush 8, 2) := by decide +kernel
theorem dX11_readDoor_52 : decode cX11_readDoor 52 = .ok (.iconst 4, 1) := by decide +kernel
theorem dX11_readDoor_53 : decode cX11_readDoor 53 = .ok (.iload_n 1, 1) := by decide +kernel
theorem dX11_readDoor_54 : decode cX11_readDoor 54 = .ok (.imul, 1) := by decide +kernel
theorem dX11_readDoor_55 : decode cX11_readDoor 55 = .ok (.iadd, 1) := by decide +kernel
theorem dX11_readDoor_56 : decode cX11_readDoor 56 = .ok (.iconst 3, 1) := by decide +kernel
theorem dX11_readDoor_57 : decode cX11_readDoor 57 = .ok (.iadd, 1) := by decide +kernel
theorem dX11_readDoor_58 : decode cX11_readDoor 58 = .ok (.dup2, 1) := by decide +kernel
theorem dX11_readDoor_59 : decode cX11_readDoor 59 = .ok (.iaload, 1) := by decide +kernel
theorem dX11_readDoor_60 : decode cX11_readDoor 60 = .ok (.iconst 1, 1) := by decide +kernel
theorem dX11_readDoor_61 : decode cX11_readDoor 61 = .ok (.iload_n 2, 1) := by decide +kernel
theorem dX11_readDoor_62 : decode cX11_readDoor 62 = .ok (.ishl, 1) := by decide +kernel
theorem dX11_readDoor_63 : decode cX11_readDoor 63 = .ok (.ior, 1) := by decide +kernel
theorem dX11_readDoor_64 : decode cX11_readDoor 64 = .ok (.iastore, 1) := by decide +kernel
theorem dX11_readDoor_65 : decode cX11_readDoor 65 = .ok (.aload_n 0, 1) := by decide +kernel
theorem dX11_readDoor_66 : decode cX11_readDoor 66 = .ok (.getfield 31, 3) := by decide +kernel
theorem dX11_readDoor_69 : decode cX11_readDoor 69 = .ok (.bipush 8, 2) := by decide +kernel
theorem dX11_readDoor_71 : decode cX11_readDoor 71 = .ok (.iconst 4, 1) := by decide +kernel
theorem dX11_readDoor_72 : decode cX11_readDoor 72 = .ok (.iload_n 2, 1) := by decide +kernel
theorem dX11_readDoor_73 : decode cX11_readDoor 73 = .ok (.imul, 1) := by decide +kernel
theorem dX11_readDoor_74 : decode cX11_readDoor 74 = .ok (.iadd, 1) := by decide +kernel
theorem dX11_readDoor_75 : decode cX11_readDoor 75 = .ok (.iconst 3, 1) := by decide +kernel
theorem dX11_readDoor_76 : decode cX11_readDoor 76 = .ok (.iadd, 1) := by decide +kernel
theorem dX11_readDoor_77 : decode cX11_readDoor 77 = .ok (.dup2, 1) := by decide +kernel
theorem dX11_readDoor_78 : decode cX11_readDoor 78 = .ok (.iaload, 1) := by decide +kernel
theorem dX11_readDoor_79 : decode cX11_readDoor 79 = .ok (.iconst 1, 1) := by decide +kernel
theorem dX11_readDoor_80 : decode cX11_readDoor 80 = .ok (.iload_n 1, 1) := by decide +kernel
theorem dX11_readDoor_81 : decode cX11_readDoor 81 = .ok (.ishl, 1) := by decide +kernel
theorem dX11_readDoor_82 : decode cX11_readDoor 82 = .ok (.ior, 1) := by decide +kernel
theorem dX11_readDoor_83 : decode cX11_readDoor 83 = .ok (.iastore, 1) := by decide +kernel
theorem dX11_readDoor_84 : decode cX11_readDoor 84 = .ok (.return_, 1) := by decide +kernel
theorem dX11_readDoor_45 : decode cX11_readDoor 45 = .ok (.return_, 1) := by decide +kernel
theorem dX11_readDoor_9 : decode cX11_readDoor 9 = .ok (.ifCond .eq 24, 3) := by decide +kernel
theorem dX11_readDoor_12 : decode cX11_readDoor 12 = .ok (.aload_n 0, 1) := by decide +kernel
theorem dX11_readDoor_13 : decode cX11_readDoor 13 = .ok (.getfield 109, 3) := by decide +kernel
theorem dX11_readDoor_16 : decode cX11_readDoor 16 = .ok (.iconst 2, 1) := by decide +kernel
theorem dX11_readDoor_17 : decode cX11_readDoor 17 = .ok (.if_icmp .ne 16, 3) := by decide +kernel
theorem dX11_readDoor_20 : decode cX11_readDoor 20 = .ok (.aload_n 0, 1) := by decide +kernel
theorem dX11_readDoor_21 : decode cX11_readDoor 21 = .ok (.getfield 120, 3) := by decide +kernel
theorem dX11_readDoor_24 : decode cX11_readDoor 24 = .ok (.iload_n 1, 1) := by decide +kernel
theorem dX11_readDoor_25 : decode cX11_readDoor 25 = .ok (.if_icmp .ne 8, 3) := by decide +kernel
theorem dX11_readDoor_28 : decode cX11_readDoor 28 = .ok (.aload_n 0, 1) := by decide +kernel
theorem dX11_readDoor_29 : decode cX11_readDoor 29 = .ok (.iconst 2, 1) := by decide +kernel
theorem dX11_readDoor_30 : decode cX11_readDoor 30 = .ok (.invokevirtual 156, 3) := by decide +kernel
theorem dX11_readMan_0 : decode cX11_readMan 0 = .ok (.aload_n 0, 1) := by decide +kernel
theorem dX11_readMan_1 : decode cX11_readMan 1 = .ok (.getfield 31, 3) := by decide +kernel
theorem dX11_readMan_4 : decode cX11_readMan 4 = .ok (.iconst 5, 1) := by decide +kernel
theorem dX11_readMan_5 : decode cX11_readMan 5 = .ok (.iaload, 1) := by decide +kernel
theorem dX11_readMan_6 : decode cX11_readMan 6 = .ok (.istore_n 1, 1) := by decide +kernel
theorem dX11_readMan_7 : decode cX11_readMan 7 = .ok (.bipush 36, 2) := by decide +kernel
theorem dX11_readMan_9 : decode cX11_readMan 9 = .ok (.bipush 8, 2) := by decide +kernel
theorem dX11_readMan_11 : decode cX11_readMan 11 = .ok (.iload_n 1, 1) := by decide +kernel
theorem dX11_readMan_12 : decode cX11_readMan 12 = .ok (.imul, 1) := by decide +kernel
theorem dX11_readMan_13 : decode cX11_readMan 13 = .ok (.iadd, 1) := by decide +kernel
theorem dX11_readMan_14 : decode cX11_readMan 14 = .ok (.istore_n 2, 1) := by decide +kernel
theorem dX11_readMan_15 : decode cX11_readMan 15 = .ok (.aload_n 0, 1) := by decide +kernel
theorem dX11_readMan_16 : decode cX11_readMan 16 = .ok (.getfield 31, 3) := by decide +kernel
theorem dX11_readMan_19 : decode cX11_readMan 19 = .ok (.iload_n 2, 1) := by decide +kernel
theorem dX11_readMan_20 : decode cX11_readMan 20 = .ok (.iconst 0, 1) := by decide +kernel
theorem dX11_readMan_21 : decode cX11_readMan 21 = .ok (.iadd, 1) := by decide +kernel
theorem dX11_readMan_22 : decode cX11_readMan 22 = .ok (.aload_n 0, 1) := by decide +kernel
theorem dX11_readMan_23 : decode cX11_readMan 23 = .ok (.ldc 180, 2) := by decide +kernel
theorem dX11_readMan_25 : decode cX11_readMan 25 = .ok (.iconst 1, 1) := by decide +kernel
theorem dX11_readMan_26 : decode cX11_readMan 26 = .ok (.bipush 99, 2) := by decide +kernel
theorem dX11_readMan_28 : decode cX11_readMan 28 = .ok (.invokevirtual 169, 3) := by decide +kernel
theorem dX11_readMan_31 : decode cX11_readMan 31 = .ok (.iastore, 1) := by decide +kernel
theorem dX11_readMan_32 : decode cX11_readMan 32 = .ok (.iconst 0, 1) := by decide +kernel
theorem dX11_readMan_33 : decode cX11_readMan 33 = .ok (.istore_n 3, 1) := by decide +kernel
theorem dX11_readMan_34 : decode cX11_readMan 34 = .ok (.aload_n 0, 1) := by decide +kernel
theorem dX11_readMan_35 : decode cX11_readMan 35 = .ok (.ldc 182, 2) := by decide +kernel
theorem dX11_readMan_37 : decode cX11_readMan 37 = .ok (.invokevirtual 153, 3) := by decide +kernel
theorem dX11_readMan_74 : decode cX11_readMan 74 = .ok (.aload_n 0, 1) := by decide +kernel
theorem dX11_readMan_75 : decode cX11_readMan 75 = .ok (.getfield 31, 3) := by decide +kernel
theorem dX11_readMan_78 : decode cX11_readMan 78 = .ok (.iload_n 2, 1) := by decide +kernel
theorem dX11_readMan_79 : decode cX11_readMan 79 = .ok (.iconst 1, 1) := by decide +kernel
theorem dX11_readMan_80 : decode cX11_readMan 80 = .ok (.iadd, 1) := by decide +kernel
theorem dX11_readMan_81 : decode cX11_readMan 81 = .ok (.iload_n 3, 1) := by decide +kernel
theorem dX11_readMan_82 : decode cX11_readMan 82 = .ok (.iastore, 1) := by decide +kernel
theorem dX11_readMan_83 : decode cX11_readMan 83 = .ok (.iconst 0, 1) := by decide +kernel
theorem dX11_readMan_84 : decode cX11_readMan 84 = .ok (.istore 4, 2) := by decide +kernel
theorem dX11_readMan_86 : decode cX11_readMan 86 = .ok (.iload 4, 2) := by decide +kernel
theorem dX11_readMan_88 : decode cX11_readMan 88 = .ok (.bipush 6, 2) := by decide +kernel
theorem dX11_readMan_90 : decode cX11_readMan 90 = .ok (.if_icmp .ge 31, 3) := by decide +kernel
theorem dX11_readMan_121 : decode cX11_readMan 121 = .ok (.aload_n 0, 1) := by decide +kernel
theorem dX11_readMan_122 : decode cX11_readMan 122 = .ok (.getfield 31, 3) := by decide +kernel
theorem dX11_readMan_125 : decode cX11_readMan 125 = .ok (.iconst 5, 1) := by decide +kernel
theorem dX11_readMan_126 : decode cX11_readMan 126 = .ok (.dup2, 1) := by decide +kernel
theorem dX11_readMan_127 : decode cX11_readMan 127 = .ok (.iaload, 1) := by decide +kernel
theorem dX11_readMan_128 : decode cX11_readMan 128 = .ok (.iconst 1, 1) := by decide +kernel
theorem dX11_readMan_129 : decode cX11_readMan 129 = .ok (.iadd, 1) := by decide +kernel
theorem dX11_readMan_130 : decode cX11_readMan 130 = .ok (.iastore, 1) := by decide +kernel
theorem dX11_readMan_131 : decode cX11_readMan 131 = .ok (.return_, 1) := by decide +kernel
theorem dX11_readMan_93 : decode cX11_readMan 93 = .ok (.aload_n 0, 1) := by decide +kernel
theorem dX11_readMan_94 : decode cX11_readMan 94 = .ok (.getfield 31, 3) := by decide +kernel
theorem dX11_readMan_97 : decode cX11_readMan 97 = .ok (.iload_n 2, 1) := by decide +kernel
theorem dX11_readMan_98 : decode cX11_readMan 98 = .ok (.iconst 2, 1) := by decide +kernel
theorem dX11_readMan_99 : decode cX11_readMan 99 = .ok (.iadd, 1) := by decide +kernel
theorem dX11_readMan_100 : decode cX11_readMan 100 = .ok (.iload 4, 2) := by decide +kernel
theorem dX11_readMan_102 : decode cX11_readMan 102 = .ok (.iadd, 1) := by decide +kernel
theorem dX11_readMan_103 : decode cX11_readMan 103 = .ok (.iload 4, 2) := by decide +kernel
theorem dX11_readMan_105 : decode cX11_readMan 105 = .ok (.iload_n 1, 1) := by decide +kernel
theorem dX11_readMan_114 : decode cX11_readMan 114 = .ok (.iastore, 1) := by decide +kernel
theorem dX11_readMan_115 : decode cX11_readMan 115 = .ok (.iinc 4 1, 3) := by decide +kernel
theorem dX11_readMan_118 : decode cX11_readMan 118 = .ok (.goto (-32), 3) := by decide +kernel
theorem dX11_readMan_106 : decode cX11_readMan 106 = .ok (.if_icmp .ne 7, 3) := by decide +kernel
theorem dX11_readMan_113 : decode cX11_readMan 113 = .ok (.iconst 0, 1) := by decide +kernel
theorem dX11_readMan_109 : decode cX11_readMan 109 = .ok (.iconst 1, 1) := by decide +kernel
theorem dX11_readMan_110 : decode cX11_readMan 110 = .ok (.goto 4, 3) := by decide +kernel
theorem dX11_readMan_40 : decode cX11_readMan 40 = .ok (.ifCond .eq 34, 3) := by decide +kernel
theorem dX11_readMan_43 : decode cX11_readMan 43 = .ok (.aload_n 0, 1) := by decide +kernel
theorem dX11_readMan_44 : decode cX11_readMan 44 = .ok (.iconst 0, 1) := by decide +kernel
theorem dX11_readMan_45 : decode cX11_readMan 45 = .ok (.iconst 5, 1) := by decide +kernel
theorem dX11_readMan_46 : decode cX11_readMan 46 = .ok (.invokevirtual 164, 3) := by decide +kernel
theorem dX11_readMan_49 : decode cX11_readMan 49 = .ok (.istore 4, 2) := by decide +kernel
theorem dX11_readMan_51 : decode cX11_readMan 51 = .ok (.aload_n 0, 1) := by decide +kernel
theorem dX11_readMan_52 : decode cX11_readMan 52 = .ok (.invokevirtual 133, 3) := by decide +kernel
theorem dX11_readMan_55 : decode cX11_readMan 55 = .ok (.ifCond .ne 4, 3) := by decide +kernel
theorem dX11_readMan_59 : decode cX11_readMan 59 = .ok (.iload_n 3, 1) := by decide +kernel
theorem dX11_readMan_60 : decode cX11_readMan 60 = .ok (.iconst 1, 1) := by decide +kernel
theorem dX11_readMan_61 : decode cX11_readMan 61 = .ok (.iload 4, 2) := by decide +kernel
theorem dX11_readMan_63 : decode cX11_readMan 63 = .ok (.ishl, 1) := by decide +kernel
theorem dX11_readMan_64 : decode cX11_readMan 64 = .ok (.ior, 1) := by decide +kernel
theorem dX11_readMan_65 : decode cX11_readMan 65 = .ok (.istore_n 3, 1) := by decide +kernel
theorem dX11_readMan_66 : decode cX11_readMan 66 = .ok (.aload_n 0, 1) := by decide +kernel
theorem dX11_readMan_67 : decode cX11_readMan 67 = .ok (.getfield 109, 3) := by decide +kernel
theorem dX11_readMan_70 : decode cX11_readMan 70 = .ok (.iconst 3, 1) := by decide +kernel
theorem dX11_readMan_71 : decode cX11_readMan 71 = .ok (.if_icmp .ne (-28), 3) := by decide +kernel
theorem dX11_readMan_58 : decode cX11_readMan 58 = .ok (.return_, 1) := by decide +kernel
theorem dX11_readSlate_0 : decode cX11_readSlate 0 = .ok (.aload_n 0, 1) := by decide +kernel
theorem dX11_readSlate_1 : decode cX11_readSlate 1 = .ok (.invokevirtual 184, 3) := by decide +kernel
theorem dX11_readSlate_4 : decode cX11_readSlate 4 = .ok (.istore_n 1, 1) := by decide +kernel
theorem dX11_readSlate_5 : decode cX11_readSlate 5 = .ok (.aload_n 0, 1) := by decide +kernel
theorem dX11_readSlate_6 : decode cX11_readSlate 6 = .ok (.ldc 187, 2) := by decide +kernel
theorem dX11_readSlate_8 : decode cX11_readSlate 8 = .ok (.invokevirtual 160, 3) := by decide +kernel
theorem dX11_readSlate_11 : decode cX11_readSlate 11 = .ok (.aload_n 0, 1) := by decide +kernel
theorem dX11_readSlate_12 : decode cX11_readSlate 12 = .ok (.invokevirtual 184, 3) := by decide +kernel
theorem dX11_readSlate_15 : decode cX11_readSlate 15 = .ok (.istore_n 2, 1) := by decide +kernel
theorem dX11_readSlate_16 : decode cX11_readSlate 16 = .ok (.aload_n 0, 1) := by decide +kernel
theorem dX11_readSlate_17 : decode cX11_readSlate 17 = .ok (.iconst 0, 1) := by decide +kernel
theorem dX11_readSlate_18 : decode cX11_readSlate 18 = .ok (.bipush 9, 2) := by decide +kernel
theorem dX11_readSlate_20 : decode cX11_readSlate 20 = .ok (.invokevirtual 164, 3) := by decide +kernel
theorem dX11_readSlate_23 : decode cX11_readSlate 23 = .ok (.istore_n 3, 1) := by decide +kernel
theorem dX11_readSlate_24 : decode cX11_readSlate 24 = .ok (.aload_n 0, 1) := by decide +kernel
theorem dX11_readSlate_25 : decode cX11_readSlate 25 = .ok (.invokevirtual 133, 3) := by decide +kernel
theorem dX11_readSlate_28 : decode cX11_readSlate 28 = .ok (.ifCond .eq 20, 3) := by decide +kernel
theorem dX11_readSlate_48 : decode cX11_readSlate 48 = .ok (.return_, 1) := by decide +kernel
theorem dX11_readSlate_31 : decode cX11_readSlate 31 = .ok (.aload_n 0, 1) := by decide +kernel
theorem dX11_readSlate_32 : decode cX11_readSlate 32 = .ok (.getfield 31, 3) := by decide +kernel
theorem dX11_readSlate_35 : decode cX11_readSlate 35 = .ok (.bipush 36, 2) := by decide +kernel
theorem dX11_readSlate_37 : decode cX11_readSlate 37 = .ok (.bipush 8, 2) := by decide +kernel
theorem dX11_readSlate_39 : decode cX11_readSlate 39 = .ok (.iload_n 1, 1) := by decide +kernel
theorem dX11_readSlate_40 : decode cX11_readSlate 40 = .ok (.imul, 1) := by decide +kernel
theorem dX11_readSlate_41 : decode cX11_readSlate 41 = .ok (.iadd, 1) := by decide +kernel
theorem dX11_readSlate_42 : decode cX11_readSlate 42 = .ok (.iconst 2, 1) := by decide +kernel
theorem dX11_readSlate_43 : decode cX11_readSlate 43 = .ok (.iadd, 1) := by decide +kernel
theorem dX11_readSlate_44 : decode cX11_readSlate 44 = .ok (.iload_n 2, 1) := by decide +kernel
theorem dX11_readSlate_45 : decode cX11_readSlate 45 = .ok (.iadd, 1) := by decide +kernel
theorem dX11_readSlate_46 : decode cX11_readSlate 46 = .ok (.iload_n 3, 1) := by decide +kernel
theorem dX11_readSlate_47 : decode cX11_readSlate 47 = .ok (.iastore, 1) := by decide +kernel
theorem dX11_readNext_0 : decode cX11_readNext 0 = .ok (.aload_n 0, 1) := by decide +kernel
theorem dX11_readNext_1 : decode cX11_readNext 1 = .ok (.ldc 189, 2) := by decide +kernel
theorem dX11_readNext_3 : decode cX11_readNext 3 = .ok (.invokevirtual 146, 3) := by decide +kernel
theorem dX11_readNext_41 : decode cX11_readNext 41 = .ok (.istore_n 1, 1) := by decide +kernel
theorem dX11_readNext_42 : decode cX11_readNext 42 = .ok (.iload_n 1, 1) := by decide +kernel
theorem dX11_readNext_51 : decode cX11_readNext 51 = .ok (.aload_n 0, 1) := by decide +kernel
theorem dX11_readNext_52 : decode cX11_readNext 52 = .ok (.ldc 189, 2) := by decide +kernel
theorem dX11_readNext_54 : decode cX11_readNext 54 = .ok (.invokevirtual 146, 3) := by decide +kernel
theorem dX11_readNext_96 : decode cX11_readNext 96 = .ok (.aload_n 0, 1) := by decide +kernel
theorem dX11_readNext_97 : decode cX11_readNext 97 = .ok (.invokevirtual 133, 3) := by decide +kernel
theorem dX11_readNext_100 : decode cX11_readNext 100 = .ok (.ifCond .ne 4, 3) := by decide +kernel
theorem dX11_readNext_104 : decode cX11_readNext 104 = .ok (.aload_n 0, 1) := by decide +kernel
theorem dX11_readNext_105 : decode cX11_readNext 105 = .ok (.ldc 189, 2) := by decide +kernel
theorem dX11_readNext_107 : decode cX11_readNext 107 = .ok (.invokevirtual 153, 3) := by decide +kernel
theorem dX11_readNext_110 : decode cX11_readNext 110 = .ok (.ifCond .eq 10, 3) := by decide +kernel
theorem dX11_readNext_120 : decode cX11_readNext 120 = .ok (.aload_n 0, 1) := by decide +kernel
theorem dX11_readNext_121 : decode cX11_readNext 121 = .ok (.ldc 191, 2) := by decide +kernel
theorem dX11_readNext_123 : decode cX11_readNext 123 = .ok (.invokevirtual 153, 3) := by decide +kernel
theorem dX11_readNext_126 : decode cX11_readNext 126 = .ok (.ifCond .eq 10, 3) := by decide +kernel
theorem dX11_readNext_136 : decode cX11_readNext 136 = .ok (.aload_n 0, 1) := by decide +kernel
theorem dX11_readNext_137 : decode cX11_readNext 137 = .ok (.ldc 193, 2) := by decide +kernel
theorem dX11_readNext_139 : decode cX11_readNext 139 = .ok (.invokevirtual 153, 3) := by decide +kernel
theorem dX11_readNext_142 : decode cX11_readNext 142 = .ok (.ifCond .eq 10, 3) := by decide +kernel
theorem dX11_readNext_152 : decode cX11_readNext 152 = .ok (.aload_n 0, 1) := by decide +kernel
theorem dX11_readNext_153 : decode cX11_readNext 153 = .ok (.invokevirtual 150, 3) := by decide +kernel
theorem dX11_readNext_156 : decode cX11_readNext 156 = .ok (.aload_n 0, 1) := by decide +kernel
theorem dX11_readNext_157 : decode cX11_readNext 157 = .ok (.invokevirtual 206, 3) := by decide +kernel
theorem dX11_readNext_160 : decode cX11_readNext 160 = .ok (.return_, 1) := by decide +kernel
theorem dX11_readNext_145 : decode cX11_readNext 145 = .ok (.aload_n 0, 1) := by decide +kernel
theorem dX11_readNext_146 : decode cX11_readNext 146 = .ok (.invokevirtual 203, 3) := by decide +kernel
theorem dX11_readNext_149 : decode cX11_readNext 149 = .ok (.goto 11, 3) := by decide +kernel
theorem dX11_readNext_129 : decode cX11_readNext 129 = .ok (.aload_n 0, 1) := by decide +kernel
theorem dX11_readNext_130 : decode cX11_readNext 130 = .ok (.invokevirtual 200, 3) := by decide +kernel
theorem dX11_readNext_133 : decode cX11_readNext 133 = .ok (.goto 27, 3) := by decide +kernel
theorem dX11_readNext_113 : decode cX11_readNext 113 = .ok (.aload_n 0, 1) := by decide +kernel
theorem dX11_readNext_114 : decode cX11_readNext 114 = .ok (.invokevirtual 197, 3) := by decide +kernel
theorem dX11_readNext_117 : decode cX11_readNext 117 = .ok (.goto 43, 3) := by decide +kernel
theorem dX11_readNext_103 : decode cX11_readNext 103 = .ok (.return_, 1) := by decide +kernel
theorem dX11_readNext_91 : decode cX11_readNext 91 = .ok (.aload_n 0, 1) := by decide +kernel
theorem dX11_readNext_92 : decode cX11_readNext 92 = .ok (.iconst 3, 1) := by decide +kernel
theorem dX11_readNext_93 : decode cX11_readNext 93 = .ok (.invokevirtual 156, 3) := by decide +kernel
theorem dX11_readNext_71 : decode cX11_readNext 71 = .ok (.aload_n 0, 1) := by decide +kernel
theorem dX11_readNext_72 : decode cX11_readNext 72 = .ok (.ldc 193, 2) := by decide +kernel
theorem dX11_readNext_74 : decode cX11_readNext 74 = .ok (.invokevirtual 146, 3) := by decide +kernel
theorem dX11_readNext_77 : decode cX11_readNext 77 = .ok (.ifCond .eq 19, 3) := by decide +kernel
theorem dX11_readNext_80 : decode cX11_readNext 80 = .ok (.aload_n 0, 1) := by decide +kernel
theorem dX11_readNext_81 : decode cX11_readNext 81 = .ok (.getfield 31, 3) := by decide +kernel
theorem dX11_readNext_84 : decode cX11_readNext 84 = .ok (.iconst 5, 1) := by decide +kernel
theorem dX11_readNext_85 : decode cX11_readNext 85 = .ok (.iaload, 1) := by decide +kernel
theorem dX11_readNext_86 : decode cX11_readNext 86 = .ok (.bipush 6, 2) := by decide +kernel
theorem dX11_readNext_88 : decode cX11_readNext 88 = .ok (.if_icmp .ne 8, 3) := by decide +kernel
theorem dX11_readNext_57 : decode cX11_readNext 57 = .ok (.ifCond .eq 14, 3) := by decide +kernel
theorem dX11_readNext_60 : decode cX11_readNext 60 = .ok (.aload_n 0, 1) := by decide +kernel
theorem dX11_readNext_61 : decode cX11_readNext 61 = .ok (.getfield 31, 3) := by decide +kernel
theorem dX11_readNext_64 : decode cX11_readNext 64 = .ok (.iconst 4, 1) := by decide +kernel
theorem dX11_readNext_65 : decode cX11_readNext 65 = .ok (.iaload, 1) := by decide +kernel
theorem dX11_readNext_66 : decode cX11_readNext 66 = .ok (.bipush 7, 2) := by decide +kernel
theorem dX11_readNext_68 : decode cX11_readNext 68 = .ok (.if_icmp .eq 23, 3) := by decide +kernel
theorem dX11_readNext_43 : decode cX11_readNext 43 = .ok (.ifCond .ne 8, 3) := by decide +kernel
theorem dX11_readNext_46 : decode cX11_readNext 46 = .ok (.aload_n 0, 1) := by decide +kernel
theorem dX11_readNext_47 : decode cX11_readNext 47 = .ok (.iconst 1, 1) := by decide +kernel
theorem dX11_readNext_48 : decode cX11_readNext 48 = .ok (.invokevirtual 156, 3) := by decide +kernel
theorem dX11_readNext_36 : decode cX11_readNext 36 = .ok (.iconst 1, 1) := by decide +kernel
theorem dX11_readNext_37 : decode cX11_readNext 37 = .ok (.goto 4, 3) := by decide +kernel
theorem dX11_readNext_6 : decode cX11_readNext 6 = .ok (.ifCond .ne 30, 3) := by decide +kernel
theorem dX11_readNext_9 : decode cX11_readNext 9 = .ok (.aload_n 0, 1) := by decide +kernel
theorem dX11_readNext_10 : decode cX11_readNext 10 = .ok (.ldc 191, 2) := by decide +kernel
theorem dX11_readNext_12 : decode cX11_readNext 12 = .ok (.invokevirtual 146, 3) := by decide +kernel
theorem dX11_readNext_15 : decode cX11_readNext 15 = .ok (.ifCond .ne 21, 3) := by decide +kernel
theorem dX11_readNext_18 : decode cX11_readNext 18 = .ok (.aload_n 0, 1) := by decide +kernel
theorem dX11_readNext_19 : decode cX11_readNext 19 = .ok (.ldc 193, 2) := by decide +kernel
theorem dX11_readNext_21 : decode cX11_readNext 21 = .ok (.invokevirtual 146, 3) := by decide +kernel
theorem dX11_readNext_24 : decode cX11_readNext 24 = .ok (.ifCond .ne 12, 3) := by decide +kernel
theorem dX11_readNext_27 : decode cX11_readNext 27 = .ok (.aload_n 0, 1) := by decide +kernel
theorem dX11_readNext_28 : decode cX11_readNext 28 = .ok (.ldc 195, 2) := by decide +kernel
theorem dX11_readNext_30 : decode cX11_readNext 30 = .ok (.invokevirtual 146, 3) := by decide +kernel
theorem dX11_readNext_33 : decode cX11_readNext 33 = .ok (.ifCond .eq 7, 3) := by decide +kernel
theorem dX11_readNext_40 : decode cX11_readNext 40 = .ok (.iconst 0, 1) := by decide +kernel
theorem dX11_readLine_0 : decode cX11_readLine 0 = .ok (.aload_n 0, 1) := by decide +kernel
theorem dX11_readLine_1 : decode cX11_readLine 1 = .ok (.getfield 31, 3) := by decide +kernel
theorem dX11_readLine_4 : decode cX11_readLine 4 = .ok (.bipush 6, 2) := by decide +kernel
theorem dX11_readLine_6 : decode cX11_readLine 6 = .ok (.iaload, 1) := by decide +kernel
theorem dX11_readLine_85 : decode cX11_readLine 85 = .ok (.aload_n 0, 1) := by decide +kernel
theorem dX11_readLine_86 : decode cX11_readLine 86 = .ok (.invokevirtual 133, 3) := by decide +kernel
theorem dX11_readLine_105 : decode cX11_readLine 105 = .ok (.aload_n 0, 1) := by decide +kernel
theorem dX11_readLine_106 : decode cX11_readLine 106 = .ok (.invokevirtual 133, 3) := by decide +kernel
theorem dX11_readLine_116 : decode cX11_readLine 116 = .ok (.aload_n 0, 1) := by decide +kernel
theorem dX11_readLine_117 : decode cX11_readLine 117 = .ok (.getfield 31, 3) := by decide +kernel
theorem dX11_readLine_120 : decode cX11_readLine 120 = .ok (.bipush 6, 2) := by decide +kernel
theorem dX11_readLine_122 : decode cX11_readLine 122 = .ok (.dup2, 1) := by decide +kernel
theorem dX11_readLine_123 : decode cX11_readLine 123 = .ok (.iaload, 1) := by decide +kernel
theorem dX11_readLine_124 : decode cX11_readLine 124 = .ok (.iconst 1, 1) := by decide +kernel
theorem dX11_readLine_125 : decode cX11_readLine 125 = .ok (.iadd, 1) := by decide +kernel
theorem dX11_readLine_126 : decode cX11_readLine 126 = .ok (.iastore, 1) := by decide +kernel
theorem dX11_readLine_127 : decode cX11_readLine 127 = .ok (.return_, 1) := by decide +kernel
theorem dX11_readLine_109 : decode cX11_readLine 109 = .ok (.ifCond .eq 7, 3) := by decide +kernel
theorem dX11_readLine_112 : decode cX11_readLine 112 = .ok (.aload_n 0, 1) := by decide +kernel
theorem dX11_readLine_113 : decode cX11_readLine 113 = .ok (.invokevirtual 150, 3) := by decide +kernel
theorem dX11_readLine_89 : decode cX11_readLine 89 = .ok (.ifCond .eq 16, 3) := by decide +kernel
theorem dX11_readLine_92 : decode cX11_readLine 92 = .ok (.aload_n 0, 1) := by decide +kernel
theorem dX11_readLine_93 : decode cX11_readLine 93 = .ok (.getfield 109, 3) := by decide +kernel
theorem dX11_readLine_96 : decode cX11_readLine 96 = .ok (.iconst 3, 1) := by decide +kernel
theorem dX11_readLine_97 : decode cX11_readLine 97 = .ok (.if_icmp .eq 8, 3) := by decide +kernel
theorem dX11_readLine_100 : decode cX11_readLine 100 = .ok (.aload_n 0, 1) := by decide +kernel
theorem dX11_readLine_101 : decode cX11_readLine 101 = .ok (.iconst 1, 1) := by decide +kernel
theorem dX11_readLine_102 : decode cX11_readLine 102 = .ok (.invokevirtual 156, 3) := by decide +kernel
theorem dX11_readLine_7 : decode cX11_readLine 7 = .ok (.ifCond .ne 74, 3) := by decide +kernel
theorem dX11_readLine_81 : decode cX11_readLine 81 = .ok (.aload_n 0, 1) := by decide +kernel
theorem dX11_readLine_82 : decode cX11_readLine 82 = .ok (.invokevirtual 219, 3) := by decide +kernel
theorem dX11_readLine_10 : decode cX11_readLine 10 = .ok (.aload_n 0, 1) := by decide +kernel
theorem dX11_readLine_11 : decode cX11_readLine 11 = .ok (.ldc 209, 2) := by decide +kernel
theorem dX11_readLine_13 : decode cX11_readLine 13 = .ok (.invokevirtual 160, 3) := by decide +kernel
theorem dX11_readLine_16 : decode cX11_readLine 16 = .ok (.aload_n 0, 1) := by decide +kernel
theorem dX11_readLine_17 : decode cX11_readLine 17 = .ok (.getfield 31, 3) := by decide +kernel
theorem dX11_readLine_20 : decode cX11_readLine 20 = .ok (.iconst 0, 1) := by decide +kernel
theorem dX11_readLine_21 : decode cX11_readLine 21 = .ok (.aload_n 0, 1) := by decide +kernel
theorem dX11_readLine_22 : decode cX11_readLine 22 = .ok (.ldc 211, 2) := by decide +kernel
theorem dX11_readLine_24 : decode cX11_readLine 24 = .ok (.iconst 0, 1) := by decide +kernel
theorem dX11_readLine_25 : decode cX11_readLine 25 = .ok (.bipush 100, 2) := by decide +kernel
theorem dX11_readLine_27 : decode cX11_readLine 27 = .ok (.invokevirtual 169, 3) := by decide +kernel
theorem dX11_readLine_30 : decode cX11_readLine 30 = .ok (.iastore, 1) := by decide +kernel
theorem dX11_readLine_31 : decode cX11_readLine 31 = .ok (.aload_n 0, 1) := by decide +kernel
theorem dX11_readLine_32 : decode cX11_readLine 32 = .ok (.getfield 31, 3) := by decide +kernel
theorem dX11_readLine_35 : decode cX11_readLine 35 = .ok (.iconst 1, 1) := by decide +kernel
theorem dX11_readLine_36 : decode cX11_readLine 36 = .ok (.aload_n 0, 1) := by decide +kernel
theorem dX11_readLine_37 : decode cX11_readLine 37 = .ok (.ldc 213, 2) := by decide +kernel
theorem dX11_readLine_39 : decode cX11_readLine 39 = .ok (.iconst 0, 1) := by decide +kernel
theorem dX11_readLine_40 : decode cX11_readLine 40 = .ok (.bipush 100, 2) := by decide +kernel
theorem dX11_readLine_42 : decode cX11_readLine 42 = .ok (.invokevirtual 169, 3) := by decide +kernel
theorem dX11_readLine_45 : decode cX11_readLine 45 = .ok (.iastore, 1) := by decide +kernel
theorem dX11_readLine_46 : decode cX11_readLine 46 = .ok (.aload_n 0, 1) := by decide +kernel
theorem dX11_readLine_47 : decode cX11_readLine 47 = .ok (.getfield 31, 3) := by decide +kernel
theorem dX11_readLine_50 : decode cX11_readLine 50 = .ok (.iconst 2, 1) := by decide +kernel
theorem dX11_readLine_51 : decode cX11_readLine 51 = .ok (.aload_n 0, 1) := by decide +kernel
theorem dX11_readLine_52 : decode cX11_readLine 52 = .ok (.ldc 215, 2) := by decide +kernel
theorem dX11_readLine_54 : decode cX11_readLine 54 = .ok (.iconst 0, 1) := by decide +kernel
theorem dX11_readLine_55 : decode cX11_readLine 55 = .ok (.sipush 999, 3) := by decide +kernel
theorem dX11_readLine_58 : decode cX11_readLine 58 = .ok (.invokevirtual 169, 3) := by decide +kernel
theorem dX11_readLine_61 : decode cX11_readLine 61 = .ok (.iastore, 1) := by decide +kernel
theorem dX11_readLine_62 : decode cX11_readLine 62 = .ok (.aload_n 0, 1) := by decide +kernel
theorem dX11_readLine_63 : decode cX11_readLine 63 = .ok (.getfield 31, 3) := by decide +kernel
theorem dX11_readLine_66 : decode cX11_readLine 66 = .ok (.iconst 3, 1) := by decide +kernel
theorem dX11_readLine_67 : decode cX11_readLine 67 = .ok (.aload_n 0, 1) := by decide +kernel
theorem dX11_readLine_68 : decode cX11_readLine 68 = .ok (.ldc 217, 2) := by decide +kernel
theorem dX11_readLine_70 : decode cX11_readLine 70 = .ok (.iconst 0, 1) := by decide +kernel
theorem dX11_readLine_71 : decode cX11_readLine 71 = .ok (.sipush 999, 3) := by decide +kernel
theorem dX11_readLine_74 : decode cX11_readLine 74 = .ok (.invokevirtual 169, 3) := by decide +kernel
theorem dX11_readLine_77 : decode cX11_readLine 77 = .ok (.iastore, 1) := by decide +kernel
theorem dX11_readLine_78 : decode cX11_readLine 78 = .ok (.goto 7, 3) := by decide +kernel
theorem dX11_house_0 : decode cX11_house 0 = .ok (.aload_n 0, 1) := by decide +kernel
theorem dX11_house_1 : decode cX11_house 1 = .ok (.aload_n 0, 1) := by decide +kernel
theorem dX11_house_2 : decode cX11_house 2 = .ok (.getfield 93, 3) := by decide +kernel
theorem dX11_house_5 : decode cX11_house 5 = .ok (.putfield 96, 3) := by decide +kernel
theorem dX11_house_8 : decode cX11_house 8 = .ok (.aload_n 0, 1) := by decide +kernel
theorem dX11_house_9 : decode cX11_house 9 = .ok (.iconst 0, 1) := by decide +kernel
theorem dX11_house_10 : decode cX11_house 10 = .ok (.putfield 93, 3) := by decide +kernel
theorem dX11_house_13 : decode cX11_house 13 = .ok (.aload_n 0, 1) := by decide +kernel
theorem dX11_house_14 : decode cX11_house 14 = .ok (.iconst 0, 1) := by decide +kernel
theorem dX11_house_15 : decode cX11_house 15 = .ok (.putfield 99, 3) := by decide +kernel
theorem dX11_house_18 : decode cX11_house 18 = .ok (.aload_n 0, 1) := by decide +kernel
theorem dX11_house_19 : decode cX11_house 19 = .ok (.iconst 0, 1) := by decide +kernel
theorem dX11_house_20 : decode cX11_house 20 = .ok (.putfield 130, 3) := by decide +kernel
theorem dX11_house_23 : decode cX11_house 23 = .ok (.aload_n 0, 1) := by decide +kernel
theorem dX11_house_24 : decode cX11_house 24 = .ok (.iconst (-1), 1) := by decide +kernel
theorem dX11_house_25 : decode cX11_house 25 = .ok (.putfield 27, 3) := by decide +kernel
theorem dX11_house_28 : decode cX11_house 28 = .ok (.iconst 0, 1) := by decide +kernel
theorem dX11_house_29 : decode cX11_house 29 = .ok (.istore_n 1, 1) := by decide +kernel
theorem dX11_house_30 : decode cX11_house 30 = .ok (.iload_n 1, 1) := by decide +kernel
theorem dX11_house_31 : decode cX11_house 31 = .ok (.sipush 144, 3) := by decide +kernel
theorem dX11_house_34 : decode cX11_house 34 = .ok (.if_icmp .ge 16, 3) := by decide +kernel
theorem dX11_house_50 : decode cX11_house 50 = .ok (.aload_n 0, 1) := by decide +kernel
theorem dX11_house_51 : decode cX11_house 51 = .ok (.invokevirtual 150, 3) := by decide +kernel
theorem dX11_house_54 : decode cX11_house 54 = .ok (.aload_n 0, 1) := by decide +kernel
theorem dX11_house_55 : decode cX11_house 55 = .ok (.invokevirtual 133, 3) := by decide +kernel
theorem dX11_house_75 : decode cX11_house 75 = .ok (.aload_n 0, 1) := by decide +kernel
theorem dX11_house_76 : decode cX11_house 76 = .ok (.invokevirtual 133, 3) := by decide +kernel
theorem dX11_house_79 : decode cX11_house 79 = .ok (.ifCond .ne 6, 3) := by decide +kernel
theorem dX11_house_85 : decode cX11_house 85 = .ok (.iconst 0, 1) := by decide +kernel
theorem dX11_house_86 : decode cX11_house 86 = .ok (.istore_n 1, 1) := by decide +kernel
theorem dX11_house_87 : decode cX11_house 87 = .ok (.iload_n 1, 1) := by decide +kernel
theorem dX11_house_88 : decode cX11_house 88 = .ok (.sipush 144, 3) := by decide +kernel
theorem dX11_house_91 : decode cX11_house 91 = .ok (.if_icmp .ge 21, 3) := by decide +kernel
theorem dX11_house_112 : decode cX11_house 112 = .ok (.aload_n 0, 1) := by decide +kernel
theorem dX11_house_113 : decode cX11_house 113 = .ok (.getfield 9, 3) := by decide +kernel
theorem dX11_house_116 : decode cX11_house 116 = .ok (.bipush 6, 2) := by decide +kernel
theorem dX11_house_118 : decode cX11_house 118 = .ok (.iaload, 1) := by decide +kernel
theorem dX11_house_119 : decode cX11_house 119 = .ok (.ireturn, 1) := by decide +kernel
theorem dX11_house_94 : decode cX11_house 94 = .ok (.aload_n 0, 1) := by decide +kernel
theorem dX11_house_95 : decode cX11_house 95 = .ok (.getfield 9, 3) := by decide +kernel
theorem dX11_house_98 : decode cX11_house 98 = .ok (.iload_n 1, 1) := by decide +kernel
theorem dX11_house_99 : decode cX11_house 99 = .ok (.aload_n 0, 1) := by decide +kernel
theorem dX11_house_100 : decode cX11_house 100 = .ok (.getfield 31, 3) := by decide +kernel
theorem dX11_house_103 : decode cX11_house 103 = .ok (.iload_n 1, 1) := by decide +kernel
theorem dX11_house_104 : decode cX11_house 104 = .ok (.iaload, 1) := by decide +kernel
theorem dX11_house_105 : decode cX11_house 105 = .ok (.iastore, 1) := by decide +kernel
theorem dX11_house_106 : decode cX11_house 106 = .ok (.iinc 1 1, 3) := by decide +kernel
theorem dX11_house_109 : decode cX11_house 109 = .ok (.goto (-22), 3) := by decide +kernel
theorem dX11_house_82 : decode cX11_house 82 = .ok (.bipush (-4), 2) := by decide +kernel
theorem dX11_house_84 : decode cX11_house 84 = .ok (.ireturn, 1) := by decide +kernel
theorem dX11_house_58 : decode cX11_house 58 = .ok (.ifCond .eq 17, 3) := by decide +kernel
theorem dX11_house_61 : decode cX11_house 61 = .ok (.aload_n 0, 1) := by decide +kernel
theorem dX11_house_62 : decode cX11_house 62 = .ok (.getfield 109, 3) := by decide +kernel
theorem dX11_house_65 : decode cX11_house 65 = .ok (.ifCond .eq 10, 3) := by decide +kernel
theorem dX11_house_68 : decode cX11_house 68 = .ok (.aload_n 0, 1) := by decide +kernel
theorem dX11_house_69 : decode cX11_house 69 = .ok (.invokevirtual 222, 3) := by decide +kernel
theorem dX11_house_72 : decode cX11_house 72 = .ok (.goto (-18), 3) := by decide +kernel
theorem dX11_house_37 : decode cX11_house 37 = .ok (.aload_n 0, 1) := by decide +kernel
theorem dX11_house_38 : decode cX11_house 38 = .ok (.getfield 31, 3) := by decide +kernel
theorem dX11_house_41 : decode cX11_house 41 = .ok (.iload_n 1, 1) := by decide +kernel
theorem dX11_house_42 : decode cX11_house 42 = .ok (.iconst 0, 1) := by decide +kernel
theorem dX11_house_43 : decode cX11_house 43 = .ok (.iastore, 1) := by decide +kernel
theorem dX11_house_44 : decode cX11_house 44 = .ok (.iinc 1 1, 3) := by decide +kernel
theorem dX11_house_47 : decode cX11_house 47 = .ok (.goto (-17), 3) := by decide +kernel
theorem dL_law_33 : decode cL_law 33 = .ok (.tableswitch 2123 0 63 #[271, 334, 357, 370, 393, 426, 459, 492, 525, 548, 561, 574, 587, 610, 633, 646, 659, 692, 715, 748, 771, 794, 817, 850, 883, 906, 939, 982, 1005, 1038, 1071, 1094, 1107, 1120, 1143, 1166, 1199, 1222, 1245, 1278, 1331, 1364, 1377, 1390, 1413, 1436, 1469, 1492, 1535, 1578, 1601, 1624, 1647, 1680, 1703, 1746, 1789, 1832, 1875, 1898, 1921, 1944, 1987, 2060], 271) := by decide +kernel
theorem dL_law_304 : decode cL_law 304 = .ok (.aload_n 1, 1) := by decide +kernel
theorem dL_law_305 : decode cL_law 305 = .ok (.aload_n 0, 1) := by decide +kernel
theorem dL_law_306 : decode cL_law 306 = .ok (.iload_n 3, 1) := by decide +kernel
theorem dL_law_307 : decode cL_law 307 = .ok (.iconst 1, 1) := by decide +kernel
theorem dL_law_308 : decode cL_law 308 = .ok (.iadd, 1) := by decide +kernel
theorem dL_law_309 : decode cL_law 309 = .ok (.iaload, 1) := by decide +kernel
theorem dL_law_310 : decode cL_law 310 = .ok (.aload_n 0, 1) := by decide +kernel
theorem dL_law_311 : decode cL_law 311 = .ok (.iload_n 3, 1) := by decide +kernel
theorem dL_law_312 : decode cL_law 312 = .ok (.iconst 2, 1) := by decide +kernel
theorem dL_law_313 : decode cL_law 313 = .ok (.iadd, 1) := by decide +kernel
theorem dL_law_314 : decode cL_law 314 = .ok (.iaload, 1) := by decide +kernel
theorem dL_law_315 : decode cL_law 315 = .ok (.aload_n 0, 1) := by decide +kernel
theorem dL_law_316 : decode cL_law 316 = .ok (.iload_n 3, 1) := by decide +kernel
theorem dL_law_317 : decode cL_law 317 = .ok (.iconst 3, 1) := by decide +kernel
theorem dL_law_318 : decode cL_law 318 = .ok (.iadd, 1) := by decide +kernel
theorem dL_law_319 : decode cL_law 319 = .ok (.iaload, 1) := by decide +kernel
theorem dL_law_320 : decode cL_law 320 = .ok (.aload_n 0, 1) := by decide +kernel
theorem dL_law_321 : decode cL_law 321 = .ok (.iload_n 3, 1) := by decide +kernel
theorem dL_law_322 : decode cL_law 322 = .ok (.iconst 4, 1) := by decide +kernel
theorem dL_law_323 : decode cL_law 323 = .ok (.iadd, 1) := by decide +kernel
theorem dL_law_324 : decode cL_law 324 = .ok (.iaload, 1) := by decide +kernel
theorem dL_law_325 : decode cL_law 325 = .ok (.aload_n 0, 1) := by decide +kernel
theorem dL_law_326 : decode cL_law 326 = .ok (.iload_n 3, 1) := by decide +kernel
theorem dL_law_327 : decode cL_law 327 = .ok (.iconst 5, 1) := by decide +kernel
theorem dL_law_328 : decode cL_law 328 = .ok (.iadd, 1) := by decide +kernel
theorem dL_law_329 : decode cL_law 329 = .ok (.iaload, 1) := by decide +kernel
theorem dL_law_330 : decode cL_law 330 = .ok (.invokevirtual 13, 3) := by decide +kernel
theorem dL_law_333 : decode cL_law 333 = .ok (.pop, 1) := by decide +kernel
theorem dL_law_334 : decode cL_law 334 = .ok (.aload_n 2, 1) := by decide +kernel
theorem dL_law_335 : decode cL_law 335 = .ok (.aload_n 0, 1) := by decide +kernel
theorem dL_law_336 : decode cL_law 336 = .ok (.iload_n 3, 1) := by decide +kernel
theorem dL_law_337 : decode cL_law 337 = .ok (.iconst 1, 1) := by decide +kernel
theorem dL_law_338 : decode cL_law 338 = .ok (.iadd, 1) := by decide +kernel
theorem dL_law_339 : decode cL_law 339 = .ok (.iaload, 1) := by decide +kernel
theorem dL_law_340 : decode cL_law 340 = .ok (.aload_n 0, 1) := by decide +kernel
theorem dL_law_341 : decode cL_law 341 = .ok (.iload_n 3, 1) := by decide +kernel
theorem dL_law_342 : decode cL_law 342 = .ok (.iconst 2, 1) := by decide +kernel
theorem dL_law_343 : decode cL_law 343 = .ok (.iadd, 1) := by decide +kernel
theorem dL_law_344 : decode cL_law 344 = .ok (.iaload, 1) := by decide +kernel
theorem dL_law_345 : decode cL_law 345 = .ok (.aload_n 0, 1) := by decide +kernel
theorem dL_law_346 : decode cL_law 346 = .ok (.iload_n 3, 1) := by decide +kernel
theorem dL_law_347 : decode cL_law 347 = .ok (.iconst 3, 1) := by decide +kernel
theorem dL_law_348 : decode cL_law 348 = .ok (.iadd, 1) := by decide +kernel
theorem dL_law_349 : decode cL_law 349 = .ok (.iaload, 1) := by decide +kernel
theorem dL_law_350 : decode cL_law 350 = .ok (.aload_n 0, 1) := by decide +kernel
theorem dL_law_351 : decode cL_law 351 = .ok (.iload_n 3, 1) := by decide +kernel
theorem dL_law_352 : decode cL_law 352 = .ok (.iconst 4, 1) := by decide +kernel
theorem dL_law_353 : decode cL_law 353 = .ok (.iadd, 1) := by decide +kernel
theorem dL_law_354 : decode cL_law 354 = .ok (.iaload, 1) := by decide +kernel
theorem dL_law_355 : decode cL_law 355 = .ok (.aload_n 0, 1) := by decide +kernel
theorem dL_law_356 : decode cL_law 356 = .ok (.iload_n 3, 1) := by decide +kernel
theorem dL_law_357 : decode cL_law 357 = .ok (.iconst 5, 1) := by decide +kernel
theorem dL_law_358 : decode cL_law 358 = .ok (.iadd, 1) := by decide +kernel
theorem dL_law_359 : decode cL_law 359 = .ok (.iaload, 1) := by decide +kernel
theorem dL_law_360 : decode cL_law 360 = .ok (.invokevirtual 17, 3) := by decide +kernel
theorem dL_law_363 : decode cL_law 363 = .ok (.pop, 1) := by decide +kernel
theorem dL_law_364 : decode cL_law 364 = .ok (.goto 1792, 3) := by decide +kernel
theorem dL_law_2156 : decode cL_law 2156 = .ok (.iinc 3 6, 3) := by decide +kernel
theorem dL_law_367 : decode cL_law 367 = .ok (.aload_n 1, 1) := by decide +kernel
theorem dL_law_368 : decode cL_law 368 = .ok (.aload_n 0, 1) := by decide +kernel
theorem dL_law_369 : decode cL_law 369 = .ok (.iload_n 3, 1) := by decide +kernel
theorem dL_law_370 : decode cL_law 370 = .ok (.iconst 1, 1) := by decide +kernel
theorem dL_law_371 : decode cL_law 371 = .ok (.iadd, 1) := by decide +kernel
theorem dL_law_372 : decode cL_law 372 = .ok (.iaload, 1) := by decide +kernel
theorem dL_law_373 : decode cL_law 373 = .ok (.invokevirtual 18, 3) := by decide +kernel
theorem dL_law_376 : decode cL_law 376 = .ok (.pop, 1) := by decide +kernel
theorem dL_law_377 : decode cL_law 377 = .ok (.aload_n 2, 1) := by decide +kernel
theorem dL_law_378 : decode cL_law 378 = .ok (.aload_n 0, 1) := by decide +kernel
theorem dL_law_379 : decode cL_law 379 = .ok (.iload_n 3, 1) := by decide +kernel
theorem dL_law_380 : decode cL_law 380 = .ok (.iconst 1, 1) := by decide +kernel
theorem dL_law_381 : decode cL_law 381 = .ok (.iadd, 1) := by decide +kernel
theorem dL_law_382 : decode cL_law 382 = .ok (.iaload, 1) := by decide +kernel
theorem dL_law_383 : decode cL_law 383 = .ok (.invokevirtual 22, 3) := by decide +kernel
theorem dL_law_386 : decode cL_law 386 = .ok (.pop, 1) := by decide +kernel
theorem dL_law_387 : decode cL_law 387 = .ok (.goto 1769, 3) := by decide +kernel
theorem dL_law_390 : decode cL_law 390 = .ok (.aload_n 1, 1) := by decide +kernel
theorem dL_law_391 : decode cL_law 391 = .ok (.invokevirtual 23, 3) := by decide +kernel
theorem dL_law_394 : decode cL_law 394 = .ok (.pop, 1) := by decide +kernel
theorem dL_law_395 : decode cL_law 395 = .ok (.aload_n 2, 1) := by decide +kernel
theorem dL_law_396 : decode cL_law 396 = .ok (.invokevirtual 27, 3) := by decide +kernel
theorem dL_law_399 : decode cL_law 399 = .ok (.pop, 1) := by decide +kernel
theorem dL_law_400 : decode cL_law 400 = .ok (.goto 1756, 3) := by decide +kernel
theorem dL_law_403 : decode cL_law 403 = .ok (.aload_n 1, 1) := by decide +kernel
theorem dL_law_404 : decode cL_law 404 = .ok (.aload_n 0, 1) := by decide +kernel
theorem dL_law_405 : decode cL_law 405 = .ok (.iload_n 3, 1) := by decide +kernel
theorem dL_law_406 : decode cL_law 406 = .ok (.iconst 1, 1) := by decide +kernel
theorem dL_law_407 : decode cL_law 407 = .ok (.iadd, 1) := by decide +kernel
theorem dL_law_408 : decode cL_law 408 = .ok (.iaload, 1) := by decide +kernel
theorem dL_law_409 : decode cL_law 409 = .ok (.invokevirtual 28, 3) := by decide +kernel
theorem dL_law_412 : decode cL_law 412 = .ok (.pop, 1) := by decide +kernel
theorem dL_law_413 : decode cL_law 413 = .ok (.aload_n 2, 1) := by decide +kernel
theorem dL_law_414 : decode cL_law 414 = .ok (.aload_n 0, 1) := by decide +kernel
theorem dL_law_415 : decode cL_law 415 = .ok (.iload_n 3, 1) := by decide +kernel
theorem dL_law_416 : decode cL_law 416 = .ok (.iconst 1, 1) := by decide +kernel
theorem dL_law_417 : decode cL_law 417 = .ok (.iadd, 1) := by decide +kernel
theorem dL_law_418 : decode cL_law 418 = .ok (.iaload, 1) := by decide +kernel
theorem dL_law_419 : decode cL_law 419 = .ok (.invokevirtual 31, 3) := by decide +kernel
theorem dL_law_422 : decode cL_law 422 = .ok (.pop, 1) := by decide +kernel
theorem dL_law_423 : decode cL_law 423 = .ok (.goto 1733, 3) := by decide +kernel
theorem dL_law_426 : decode cL_law 426 = .ok (.aload_n 1, 1) := by decide +kernel
theorem dL_law_427 : decode cL_law 427 = .ok (.aload_n 0, 1) := by decide +kernel
theorem dL_law_428 : decode cL_law 428 = .ok (.iload_n 3, 1) := by decide +kernel
theorem dL_law_429 : decode cL_law 429 = .ok (.iconst 1, 1) := by decide +kernel
theorem dL_law_430 : decode cL_law 430 = .ok (.iadd, 1) := by decide +kernel
theorem dL_law_431 : decode cL_law 431 = .ok (.iaload, 1) := by decide +kernel
theorem dL_law_432 : decode cL_law 432 = .ok (.aload_n 0, 1) := by decide +kernel
theorem dL_law_433 : decode cL_law 433 = .ok (.iload_n 3, 1) := by decide +kernel
theorem dL_law_434 : decode cL_law 434 = .ok (.iconst 2, 1) := by decide +kernel
theorem dL_law_435 : decode cL_law 435 = .ok (.iadd, 1) := by decide +kernel
theorem dL_law_436 : decode cL_law 436 = .ok (.iaload, 1) := by decide +kernel
theorem dL_law_437 : decode cL_law 437 = .ok (.invokevirtual 32, 3) := by decide +kernel
theorem dL_law_440 : decode cL_law 440 = .ok (.pop, 1) := by decide +kernel
theorem dL_law_441 : decode cL_law 441 = .ok (.aload_n 2, 1) := by decide +kernel
theorem dL_law_442 : decode cL_law 442 = .ok (.aload_n 0, 1) := by decide +kernel
theorem dL_law_443 : decode cL_law 443 = .ok (.iload_n 3, 1) := by decide +kernel
theorem dL_law_444 : decode cL_law 444 = .ok (.iconst 1, 1) := by decide +kernel
theorem dL_law_445 : decode cL_law 445 = .ok (.iadd, 1) := by decide +kernel
theorem dL_law_446 : decode cL_law 446 = .ok (.iaload, 1) := by decide +kernel
theorem dL_law_447 : decode cL_law 447 = .ok (.aload_n 0, 1) := by decide +kernel
theorem dL_law_448 : decode cL_law 448 = .ok (.iload_n 3, 1) := by decide +kernel
theorem dL_law_449 : decode cL_law 449 = .ok (.iconst 2, 1) := by decide +kernel
theorem dL_law_450 : decode cL_law 450 = .ok (.iadd, 1) := by decide +kernel
theorem dL_law_451 : decode cL_law 451 = .ok (.iaload, 1) := by decide +kernel
theorem dL_law_452 : decode cL_law 452 = .ok (.invokevirtual 36, 3) := by decide +kernel
theorem dL_law_455 : decode cL_law 455 = .ok (.pop, 1) := by decide +kernel
theorem dL_law_456 : decode cL_law 456 = .ok (.goto 1700, 3) := by decide +kernel
theorem dL_law_459 : decode cL_law 459 = .ok (.aload_n 1, 1) := by decide +kernel
theorem dL_law_460 : decode cL_law 460 = .ok (.aload_n 0, 1) := by decide +kernel
theorem dL_law_461 : decode cL_law 461 = .ok (.iload_n 3, 1) := by decide +kernel
theorem dL_law_462 : decode cL_law 462 = .ok (.iconst 1, 1) := by decide +kernel
theorem dL_law_463 : decode cL_law 463 = .ok (.iadd, 1) := by decide +kernel
theorem dL_law_464 : decode cL_law 464 = .ok (.iaload, 1) := by decide +kernel
theorem dL_law_465 : decode cL_law 465 = .ok (.aload_n 0, 1) := by decide +kernel
theorem dL_law_466 : decode cL_law 466 = .ok (.iload_n 3, 1) := by decide +kernel
theorem dL_law_467 : decode cL_law 467 = .ok (.iconst 2, 1) := by decide +kernel
theorem dL_law_468 : decode cL_law 468 = .ok (.iadd, 1) := by decide +kernel
theorem dL_law_469 : decode cL_law 469 = .ok (.iaload, 1) := by decide +kernel
theorem dL_law_470 : decode cL_law 470 = .ok (.invokevirtual 37, 3) := by decide +kernel
theorem dL_law_473 : decode cL_law 473 = .ok (.pop, 1) := by decide +kernel
theorem dL_law_474 : decode cL_law 474 = .ok (.aload_n 2, 1) := by decide +kernel
theorem dL_law_475 : decode cL_law 475 = .ok (.aload_n 0, 1) := by decide +kernel
theorem dL_law_476 : decode cL_law 476 = .ok (.iload_n 3, 1) := by decide +kernel
theorem dL_law_477 : decode cL_law 477 = .ok (.iconst 1, 1) := by decide +kernel
theorem dL_law_478 : decode cL_law 478 = .ok (.iadd, 1) := by decide +kernel
theorem dL_law_479 : decode cL_law 479 = .ok (.iaload, 1) := by decide +kernel
theorem dL_law_480 : decode cL_law 480 = .ok (.aload_n 0, 1) := by decide +kernel
theorem dL_law_481 : decode cL_law 481 = .ok (.iload_n 3, 1) := by decide +kernel
theorem dL_law_482 : decode cL_law 482 = .ok (.iconst 2, 1) := by decide +kernel
theorem dL_law_483 : decode cL_law 483 = .ok (.iadd, 1) := by decide +kernel
theorem dL_law_484 : decode cL_law 484 = .ok (.iaload, 1) := by decide +kernel
theorem dL_law_485 : decode cL_law 485 = .ok (.invokevirtual 40, 3) := by decide +kernel
theorem dL_law_488 : decode cL_law 488 = .ok (.pop, 1) := by decide +kernel
theorem dL_law_489 : decode cL_law 489 = .ok (.goto 1667, 3) := by decide +kernel
theorem dL_law_492 : decode cL_law 492 = .ok (.aload_n 1, 1) := by decide +kernel
theorem dL_law_493 : decode cL_law 493 = .ok (.aload_n 0, 1) := by decide +kernel
theorem dL_law_494 : decode cL_law 494 = .ok (.iload_n 3, 1) := by decide +kernel
theorem dL_law_495 : decode cL_law 495 = .ok (.iconst 1, 1) := by decide +kernel
theorem dL_law_496 : decode cL_law 496 = .ok (.iadd, 1) := by decide +kernel
theorem dL_law_497 : decode cL_law 497 = .ok (.iaload, 1) := by decide +kernel
theorem dL_law_498 : decode cL_law 498 = .ok (.aload_n 0, 1) := by decide +kernel
theorem dL_law_499 : decode cL_law 499 = .ok (.iload_n 3, 1) := by decide +kernel
theorem dL_law_500 : decode cL_law 500 = .ok (.iconst 2, 1) := by decide +kernel
theorem dL_law_501 : decode cL_law 501 = .ok (.iadd, 1) := by decide +kernel
theorem dL_law_502 : decode cL_law 502 = .ok (.iaload, 1) := by decide +kernel
theorem dL_law_503 : decode cL_law 503 = .ok (.invokevirtual 41, 3) := by decide +kernel
theorem dL_law_506 : decode cL_law 506 = .ok (.pop, 1) := by decide +kernel
theorem dL_law_507 : decode cL_law 507 = .ok (.aload_n 2, 1) := by decide +kernel
theorem dL_law_508 : decode cL_law 508 = .ok (.aload_n 0, 1) := by decide +kernel
theorem dL_law_509 : decode cL_law 509 = .ok (.iload_n 3, 1) := by decide +kernel
theorem dL_law_510 : decode cL_law 510 = .ok (.iconst 1, 1) := by decide +kernel
theorem dL_law_511 : decode cL_law 511 = .ok (.iadd, 1) := by decide +kernel
theorem dL_law_512 : decode cL_law 512 = .ok (.iaload, 1) := by decide +kernel
theorem dL_law_513 : decode cL_law 513 = .ok (.aload_n 0, 1) := by decide +kernel
theorem dL_law_514 : decode cL_law 514 = .ok (.iload_n 3, 1) := by decide +kernel
theorem dL_law_515 : decode cL_law 515 = .ok (.iconst 2, 1) := by decide +kernel
theorem dL_law_516 : decode cL_law 516 = .ok (.iadd, 1) := by decide +kernel
theorem dL_law_517 : decode cL_law 517 = .ok (.iaload, 1) := by decide +kernel
theorem dL_law_518 : decode cL_law 518 = .ok (.invokevirtual 44, 3) := by decide +kernel
theorem dL_law_521 : decode cL_law 521 = .ok (.pop, 1) := by decide +kernel
theorem dL_law_522 : decode cL_law 522 = .ok (.goto 1634, 3) := by decide +kernel
theorem dL_law_525 : decode cL_law 525 = .ok (.aload_n 1, 1) := by decide +kernel
theorem dL_law_526 : decode cL_law 526 = .ok (.aload_n 0, 1) := by decide +kernel
theorem dL_law_527 : decode cL_law 527 = .ok (.iload_n 3, 1) := by decide +kernel
theorem dL_law_528 : decode cL_law 528 = .ok (.iconst 1, 1) := by decide +kernel
theorem dL_law_529 : decode cL_law 529 = .ok (.iadd, 1) := by decide +kernel
theorem dL_law_530 : decode cL_law 530 = .ok (.iaload, 1) := by decide +kernel
theorem dL_law_531 : decode cL_law 531 = .ok (.aload_n 0, 1) := by decide +kernel
theorem dL_law_532 : decode cL_law 532 = .ok (.iload_n 3, 1) := by decide +kernel
theorem dL_law_533 : decode cL_law 533 = .ok (.iconst 2, 1) := by decide +kernel
theorem dL_law_534 : decode cL_law 534 = .ok (.iadd, 1) := by decide +kernel
theorem dL_law_535 : decode cL_law 535 = .ok (.iaload, 1) := by decide +kernel
theorem dL_law_536 : decode cL_law 536 = .ok (.invokevirtual 45, 3) := by decide +kernel
theorem dL_law_539 : decode cL_law 539 = .ok (.pop, 1) := by decide +kernel
theorem dL_law_540 : decode cL_law 540 = .ok (.aload_n 2, 1) := by decide +kernel
theorem dL_law_541 : decode cL_law 541 = .ok (.aload_n 0, 1) := by decide +kernel
theorem dL_law_542 : decode cL_law 542 = .ok (.iload_n 3, 1) := by decide +kernel
theorem dL_law_543 : decode cL_law 543 = .ok (.iconst 1, 1) := by decide +kernel
theorem dL_law_544 : decode cL_law 544 = .ok (.iadd, 1) := by decide +kernel
theorem dL_law_545 : decode cL_law 545 = .ok (.iaload, 1) := by decide +kernel
theorem dL_law_546 : decode cL_law 546 = .ok (.aload_n 0, 1) := by decide +kernel
theorem dL_law_547 : decode cL_law 547 = .ok (.iload_n 3, 1) := by decide +kernel
theorem dL_law_548 : decode cL_law 548 = .ok (.iconst 2, 1) := by decide +kernel
theorem dL_law_549 : decode cL_law 549 = .ok (.iadd, 1) := by decide +kernel
theorem dL_law_550 : decode cL_law 550 = .ok (.iaload, 1) := by decide +kernel
theorem dL_law_551 : decode cL_law 551 = .ok (.invokevirtual 48, 3) := by decide +kernel
theorem dL_law_554 : decode cL_law 554 = .ok (.pop, 1) := by decide +kernel
theorem dL_law_555 : decode cL_law 555 = .ok (.goto 1601, 3) := by decide +kernel
theorem dL_law_558 : decode cL_law 558 = .ok (.aload_n 1, 1) := by decide +kernel
theorem dL_law_559 : decode cL_law 559 = .ok (.aload_n 0, 1) := by decide +kernel
theorem dL_law_560 : decode cL_law 560 = .ok (.iload_n 3, 1) := by decide +kernel
theorem dL_law_561 : decode cL_law 561 = .ok (.iconst 1, 1) := by decide +kernel
theorem dL_law_562 : decode cL_law 562 = .ok (.iadd, 1) := by decide +kernel
theorem dL_law_563 : decode cL_law 563 = .ok (.iaload, 1) := by decide +kernel
theorem dL_law_564 : decode cL_law 564 = .ok (.invokevirtual 49, 3) := by decide +kernel
theorem dL_law_567 : decode cL_law 567 = .ok (.pop, 1) := by decide +kernel
theorem dL_law_568 : decode cL_law 568 = .ok (.aload_n 2, 1) := by decide +kernel
theorem dL_law_569 : decode cL_law 569 = .ok (.aload_n 0, 1) := by decide +kernel
theorem dL_law_570 : decode cL_law 570 = .ok (.iload_n 3, 1) := by decide +kernel
theorem dL_law_571 : decode cL_law 571 = .ok (.iconst 1, 1) := by decide +kernel
theorem dL_law_572 : decode cL_law 572 = .ok (.iadd, 1) := by decide +kernel
theorem dL_law_573 : decode cL_law 573 = .ok (.iaload, 1) := by decide +kernel
theorem dL_law_574 : decode cL_law 574 = .ok (.invokevirtual 52, 3) := by decide +kernel
theorem dL_law_577 : decode cL_law 577 = .ok (.pop, 1) := by decide +kernel
theorem dL_law_578 : decode cL_law 578 = .ok (.goto 1578, 3) := by decide +kernel
theorem dL_law_581 : decode cL_law 581 = .ok (.aload_n 1, 1) := by decide +kernel
theorem dL_law_582 : decode cL_law 582 = .ok (.invokevirtual 53, 3) := by decide +kernel
theorem dL_law_585 : decode cL_law 585 = .ok (.pop, 1) := by decide +kernel
theorem dL_law_586 : decode cL_law 586 = .ok (.aload_n 2, 1) := by decide +kernel
theorem dL_law_587 : decode cL_law 587 = .ok (.invokevirtual 56, 3) := by decide +kernel
theorem dL_law_590 : decode cL_law 590 = .ok (.pop, 1) := by decide +kernel
theorem dL_law_591 : decode cL_law 591 = .ok (.goto 1565, 3) := by decide +kernel
theorem dL_law_594 : decode cL_law 594 = .ok (.aload_n 1, 1) := by decide +kernel
theorem dL_law_595 : decode cL_law 595 = .ok (.invokevirtual 57, 3) := by decide +kernel
theorem dL_law_598 : decode cL_law 598 = .ok (.pop, 1) := by decide +kernel
theorem dL_law_599 : decode cL_law 599 = .ok (.aload_n 2, 1) := by decide +kernel
theorem dL_law_600 : decode cL_law 600 = .ok (.invokevirtual 60, 3) := by decide +kernel
theorem dL_law_603 : decode cL_law 603 = .ok (.pop, 1) := by decide +kernel
theorem dL_law_604 : decode cL_law 604 = .ok (.goto 1552, 3) := by decide +kernel
theorem dL_law_607 : decode cL_law 607 = .ok (.aload_n 1, 1) := by decide +kernel
theorem dL_law_608 : decode cL_law 608 = .ok (.invokevirtual 61, 3) := by decide +kernel
theorem dL_law_611 : decode cL_law 611 = .ok (.pop, 1) := by decide +kernel
theorem dL_law_612 : decode cL_law 612 = .ok (.aload_n 2, 1) := by decide +kernel
theorem dL_law_613 : decode cL_law 613 = .ok (.invokevirtual 64, 3) := by decide +kernel
theorem dL_law_616 : decode cL_law 616 = .ok (.pop, 1) := by decide +kernel
theorem dL_law_617 : decode cL_law 617 = .ok (.goto 1539, 3) := by decide +kernel
theorem dL_law_620 : decode cL_law 620 = .ok (.aload_n 1, 1) := by decide +kernel
theorem dL_law_621 : decode cL_law 621 = .ok (.aload_n 0, 1) := by decide +kernel
theorem dL_law_622 : decode cL_law 622 = .ok (.iload_n 3, 1) := by decide +kernel
theorem dL_law_623 : decode cL_law 623 = .ok (.iconst 1, 1) := by decide +kernel
theorem dL_law_624 : decode cL_law 624 = .ok (.iadd, 1) := by decide +kernel
theorem dL_law_625 : decode cL_law 625 = .ok (.iaload, 1) := by decide +kernel
theorem dL_law_626 : decode cL_law 626 = .ok (.invokevirtual 65, 3) := by decide +kernel
theorem dL_law_629 : decode cL_law 629 = .ok (.pop, 1) := by decide +kernel
theorem dL_law_630 : decode cL_law 630 = .ok (.aload_n 2, 1) := by decide +kernel
theorem dL_law_631 : decode cL_law 631 = .ok (.aload_n 0, 1) := by decide +kernel
theorem dL_law_632 : decode cL_law 632 = .ok (.iload_n 3, 1) := by decide +kernel
theorem dL_law_633 : decode cL_law 633 = .ok (.iconst 1, 1) := by decide +kernel
theorem dL_law_634 : decode cL_law 634 = .ok (.iadd, 1) := by decide +kernel
theorem dL_law_635 : decode cL_law 635 = .ok (.iaload, 1) := by decide +kernel
theorem dL_law_636 : decode cL_law 636 = .ok (.invokevirtual 68, 3) := by decide +kernel
theorem dL_law_639 : decode cL_law 639 = .ok (.pop, 1) := by decide +kernel
theorem dL_law_640 : decode cL_law 640 = .ok (.goto 1516, 3) := by decide +kernel
theorem dL_law_643 : decode cL_law 643 = .ok (.aload_n 1, 1) := by decide +kernel
theorem dL_law_644 : decode cL_law 644 = .ok (.aload_n 0, 1) := by decide +kernel
theorem dL_law_645 : decode cL_law 645 = .ok (.iload_n 3, 1) := by decide +kernel
theorem dL_law_646 : decode cL_law 646 = .ok (.iconst 1, 1) := by decide +kernel
theorem dL_law_647 : decode cL_law 647 = .ok (.iadd, 1) := by decide +kernel
theorem dL_law_648 : decode cL_law 648 = .ok (.iaload, 1) := by decide +kernel
theorem dL_law_649 : decode cL_law 649 = .ok (.invokevirtual 69, 3) := by decide +kernel
theorem dL_law_652 : decode cL_law 652 = .ok (.pop, 1) := by decide +kernel
theorem dL_law_653 : decode cL_law 653 = .ok (.aload_n 2, 1) := by decide +kernel
theorem dL_law_654 : decode cL_law 654 = .ok (.aload_n 0, 1) := by decide +kernel
theorem dL_law_655 : decode cL_law 655 = .ok (.iload_n 3, 1) := by decide +kernel
theorem dL_law_656 : decode cL_law 656 = .ok (.iconst 1, 1) := by decide +kernel
theorem dL_law_657 : decode cL_law 657 = .ok (.iadd, 1) := by decide +kernel
theorem dL_law_658 : decode cL_law 658 = .ok (.iaload, 1) := by decide +kernel
theorem dL_law_659 : decode cL_law 659 = .ok (.invokevirtual 72, 3) := by decide +kernel
theorem dL_law_662 : decode cL_law 662 = .ok (.pop, 1) := by decide +kernel
theorem dL_law_663 : decode cL_law 663 = .ok (.goto 1493, 3) := by decide +kernel
theorem dL_law_666 : decode cL_law 666 = .ok (.aload_n 1, 1) := by decide +kernel
theorem dL_law_667 : decode cL_law 667 = .ok (.invokevirtual 73, 3) := by decide +kernel
theorem dL_law_670 : decode cL_law 670 = .ok (.pop, 1) := by decide +kernel
theorem dL_law_671 : decode cL_law 671 = .ok (.aload_n 2, 1) := by decide +kernel
theorem dL_law_672 : decode cL_law 672 = .ok (.invokevirtual 76, 3) := by decide +kernel
theorem dL_law_675 : decode cL_law 675 = .ok (.pop, 1) := by decide +kernel
theorem dL_law_676 : decode cL_law 676 = .ok (.goto 1480, 3) := by decide +kernel
theorem dL_law_679 : decode cL_law 679 = .ok (.aload_n 1, 1) := by decide +kernel
theorem dL_law_680 : decode cL_law 680 = .ok (.invokevirtual 77, 3) := by decide +kernel
theorem dL_law_683 : decode cL_law 683 = .ok (.pop, 1) := by decide +kernel
theorem dL_law_684 : decode cL_law 684 = .ok (.aload_n 2, 1) := by decide +kernel
theorem dL_law_685 : decode cL_law 685 = .ok (.invokevirtual 80, 3) := by decide +kernel
theorem dL_law_688 : decode cL_law 688 = .ok (.pop, 1) := by decide +kernel
theorem dL_law_689 : decode cL_law 689 = .ok (.goto 1467, 3) := by decide +kernel
theorem dL_law_692 : decode cL_law 692 = .ok (.aload_n 1, 1) := by decide +kernel
theorem dL_law_693 : decode cL_law 693 = .ok (.aload_n 0, 1) := by decide +kernel
theorem dL_law_694 : decode cL_law 694 = .ok (.iload_n 3, 1) := by decide +kernel
theorem dL_law_695 : decode cL_law 695 = .ok (.iconst 1, 1) := by decide +kernel
theorem dL_law_696 : decode cL_law 696 = .ok (.iadd, 1) := by decide +kernel
theorem dL_law_697 : decode cL_law 697 = .ok (.iaload, 1) := by decide +kernel
theorem dL_law_698 : decode cL_law 698 = .ok (.aload_n 0, 1) := by decide +kernel
theorem dL_law_699 : decode cL_law 699 = .ok (.iload_n 3, 1) := by decide +kernel
theorem dL_law_700 : decode cL_law 700 = .ok (.iconst 2, 1) := by decide +kernel
theorem dL_law_701 : decode cL_law 701 = .ok (.iadd, 1) := by decide +kernel
theorem dL_law_702 : decode cL_law 702 = .ok (.iaload, 1) := by decide +kernel
theorem dL_law_703 : decode cL_law 703 = .ok (.invokevirtual 81, 3) := by decide +kernel
theorem dL_law_706 : decode cL_law 706 = .ok (.pop, 1) := by decide +kernel
theorem dL_law_707 : decode cL_law 707 = .ok (.aload_n 2, 1) := by decide +kernel
theorem dL_law_708 : decode cL_law 708 = .ok (.aload_n 0, 1) := by decide +kernel
theorem dL_law_709 : decode cL_law 709 = .ok (.iload_n 3, 1) := by decide +kernel
theorem dL_law_710 : decode cL_law 710 = .ok (.iconst 1, 1) := by decide +kernel
theorem dL_law_711 : decode cL_law 711 = .ok (.iadd, 1) := by decide +kernel
theorem dL_law_712 : decode cL_law 712 = .ok (.iaload, 1) := by decide +kernel
theorem dL_law_713 : decode cL_law 713 = .ok (.aload_n 0, 1) := by decide +kernel
theorem dL_law_714 : decode cL_law 714 = .ok (.iload_n 3, 1) := by decide +kernel
theorem dL_law_715 : decode cL_law 715 = .ok (.iconst 2, 1) := by decide +kernel
theorem dL_law_716 : decode cL_law 716 = .ok (.iadd, 1) := by decide +kernel
theorem dL_law_717 : decode cL_law 717 = .ok (.iaload, 1) := by decide +kernel
theorem dL_law_718 : decode cL_law 718 = .ok (.invokevirtual 84, 3) := by decide +kernel
theorem dL_law_721 : decode cL_law 721 = .ok (.pop, 1) := by decide +kernel
theorem dL_law_722 : decode cL_law 722 = .ok (.goto 1434, 3) := by decide +kernel
theorem dL_law_725 : decode cL_law 725 = .ok (.aload_n 1, 1) := by decide +kernel
theorem dL_law_726 : decode cL_law 726 = .ok (.aload_n 0, 1) := by decide +kernel
theorem dL_law_727 : decode cL_law 727 = .ok (.iload_n 3, 1) := by decide +kernel
theorem dL_law_728 : decode cL_law 728 = .ok (.iconst 1, 1) := by decide +kernel
theorem dL_law_729 : decode cL_law 729 = .ok (.iadd, 1) := by decide +kernel
theorem dL_law_730 : decode cL_law 730 = .ok (.iaload, 1) := by decide +kernel
theorem dL_law_731 : decode cL_law 731 = .ok (.invokevirtual 85, 3) := by decide +kernel
theorem dL_law_734 : decode cL_law 734 = .ok (.pop, 1) := by decide +kernel
theorem dL_law_735 : decode cL_law 735 = .ok (.aload_n 2, 1) := by decide +kernel
theorem dL_law_736 : decode cL_law 736 = .ok (.aload_n 0, 1) := by decide +kernel
theorem dL_law_737 : decode cL_law 737 = .ok (.iload_n 3, 1) := by decide +kernel
theorem dL_law_738 : decode cL_law 738 = .ok (.iconst 1, 1) := by decide +kernel
theorem dL_law_739 : decode cL_law 739 = .ok (.iadd, 1) := by decide +kernel
theorem dL_law_740 : decode cL_law 740 = .ok (.iaload, 1) := by decide +kernel
theorem dL_law_741 : decode cL_law 741 = .ok (.invokevirtual 88, 3) := by decide +kernel
theorem dL_law_744 : decode cL_law 744 = .ok (.pop, 1) := by decide +kernel
theorem dL_law_745 : decode cL_law 745 = .ok (.goto 1411, 3) := by decide +kernel
theorem dL_law_748 : decode cL_law 748 = .ok (.aload_n 1, 1) := by decide +kernel
theorem dL_law_749 : decode cL_law 749 = .ok (.aload_n 0, 1) := by decide +kernel
theorem dL_law_750 : decode cL_law 750 = .ok (.iload_n 3, 1) := by decide +kernel
theorem dL_law_751 : decode cL_law 751 = .ok (.iconst 1, 1) := by decide +kernel
theorem dL_law_752 : decode cL_law 752 = .ok (.iadd, 1) := by decide +kernel
theorem dL_law_753 : decode cL_law 753 = .ok (.iaload, 1) := by decide +kernel
theorem dL_law_754 : decode cL_law 754 = .ok (.aload_n 0, 1) := by decide +kernel
theorem dL_law_755 : decode cL_law 755 = .ok (.iload_n 3, 1) := by decide +kernel
theorem dL_law_756 : decode cL_law 756 = .ok (.iconst 2, 1) := by decide +kernel
theorem dL_law_757 : decode cL_law 757 = .ok (.iadd, 1) := by decide +kernel
theorem dL_law_758 : decode cL_law 758 = .ok (.iaload, 1) := by decide +kernel
theorem dL_law_759 : decode cL_law 759 = .ok (.invokevirtual 89, 3) := by decide +kernel
theorem dL_law_762 : decode cL_law 762 = .ok (.pop, 1) := by decide +kernel
theorem dL_law_763 : decode cL_law 763 = .ok (.aload_n 2, 1) := by decide +kernel
theorem dL_law_764 : decode cL_law 764 = .ok (.aload_n 0, 1) := by decide +kernel
theorem dL_law_765 : decode cL_law 765 = .ok (.iload_n 3, 1) := by decide +kernel
theorem dL_law_766 : decode cL_law 766 = .ok (.iconst 1, 1) := by decide +kernel
theorem dL_law_767 : decode cL_law 767 = .ok (.iadd, 1) := by decide +kernel
theorem dL_law_768 : decode cL_law 768 = .ok (.iaload, 1) := by decide +kernel
theorem dL_law_769 : decode cL_law 769 = .ok (.aload_n 0, 1) := by decide +kernel
theorem dL_law_770 : decode cL_law 770 = .ok (.iload_n 3, 1) := by decide +kernel
theorem dL_law_771 : decode cL_law 771 = .ok (.iconst 2, 1) := by decide +kernel
theorem dL_law_772 : decode cL_law 772 = .ok (.iadd, 1) := by decide +kernel
theorem dL_law_773 : decode cL_law 773 = .ok (.iaload, 1) := by decide +kernel
theorem dL_law_774 : decode cL_law 774 = .ok (.invokevirtual 92, 3) := by decide +kernel
theorem dL_law_777 : decode cL_law 777 = .ok (.pop, 1) := by decide +kernel
theorem dL_law_778 : decode cL_law 778 = .ok (.goto 1378, 3) := by decide +kernel
theorem dL_law_781 : decode cL_law 781 = .ok (.aload_n 1, 1) := by decide +kernel
theorem dL_law_782 : decode cL_law 782 = .ok (.aload_n 0, 1) := by decide +kernel
theorem dL_law_783 : decode cL_law 783 = .ok (.iload_n 3, 1) := by decide +kernel
theorem dL_law_784 : decode cL_law 784 = .ok (.iconst 1, 1) := by decide +kernel
theorem dL_law_785 : decode cL_law 785 = .ok (.iadd, 1) := by decide +kernel
theorem dL_law_786 : decode cL_law 786 = .ok (.iaload, 1) := by decide +kernel
theorem dL_law_787 : decode cL_law 787 = .ok (.invokevirtual 93, 3) := by decide +kernel
theorem dL_law_790 : decode cL_law 790 = .ok (.pop, 1) := by decide +kernel
theorem dL_law_791 : decode cL_law 791 = .ok (.aload_n 2, 1) := by decide +kernel
theorem dL_law_792 : decode cL_law 792 = .ok (.aload_n 0, 1) := by decide +kernel
theorem dL_law_793 : decode cL_law 793 = .ok (.iload_n 3, 1) := by decide +kernel
theorem dL_law_794 : decode cL_law 794 = .ok (.iconst 1, 1) := by decide +kernel
theorem dL_law_795 : decode cL_law 795 = .ok (.iadd, 1) := by decide +kernel
theorem dL_law_796 : decode cL_law 796 = .ok (.iaload, 1) := by decide +kernel
theorem dL_law_797 : decode cL_law 797 = .ok (.invokevirtual 96, 3) := by decide +kernel
theorem dL_law_800 : decode cL_law 800 = .ok (.pop, 1) := by decide +kernel
theorem dL_law_801 : decode cL_law 801 = .ok (.goto 1355, 3) := by decide +kernel
theorem dL_law_804 : decode cL_law 804 = .ok (.aload_n 1, 1) := by decide +kernel
theorem dL_law_805 : decode cL_law 805 = .ok (.aload_n 0, 1) := by decide +kernel
theorem dL_law_806 : decode cL_law 806 = .ok (.iload_n 3, 1) := by decide +kernel
theorem dL_law_807 : decode cL_law 807 = .ok (.iconst 1, 1) := by decide +kernel
theorem dL_law_808 : decode cL_law 808 = .ok (.iadd, 1) := by decide +kernel
theorem dL_law_809 : decode cL_law 809 = .ok (.iaload, 1) := by decide +kernel
theorem dL_law_810 : decode cL_law 810 = .ok (.invokevirtual 97, 3) := by decide +kernel
theorem dL_law_813 : decode cL_law 813 = .ok (.pop, 1) := by decide +kernel
theorem dL_law_814 : decode cL_law 814 = .ok (.aload_n 2, 1) := by decide +kernel
theorem dL_law_815 : decode cL_law 815 = .ok (.aload_n 0, 1) := by decide +kernel
theorem dL_law_816 : decode cL_law 816 = .ok (.iload_n 3, 1) := by decide +kernel
theorem dL_law_817 : decode cL_law 817 = .ok (.iconst 1, 1) := by decide +kernel
theorem dL_law_818 : decode cL_law 818 = .ok (.iadd, 1) := by decide +kernel
theorem dL_law_819 : decode cL_law 819 = .ok (.iaload, 1) := by decide +kernel
theorem dL_law_820 : decode cL_law 820 = .ok (.invokevirtual 100, 3) := by decide +kernel
theorem dL_law_823 : decode cL_law 823 = .ok (.pop, 1) := by decide +kernel
theorem dL_law_824 : decode cL_law 824 = .ok (.goto 1332, 3) := by decide +kernel
theorem dL_law_827 : decode cL_law 827 = .ok (.aload_n 1, 1) := by decide +kernel
theorem dL_law_828 : decode cL_law 828 = .ok (.aload_n 0, 1) := by decide +kernel
theorem dL_law_829 : decode cL_law 829 = .ok (.iload_n 3, 1) := by decide +kernel
theorem dL_law_830 : decode cL_law 830 = .ok (.iconst 1, 1) := by decide +kernel
theorem dL_law_831 : decode cL_law 831 = .ok (.iadd, 1) := by decide +kernel
theorem dL_law_832 : decode cL_law 832 = .ok (.iaload, 1) := by decide +kernel
theorem dL_law_833 : decode cL_law 833 = .ok (.invokevirtual 101, 3) := by decide +kernel
theorem dL_law_836 : decode cL_law 836 = .ok (.pop, 1) := by decide +kernel
theorem dL_law_837 : decode cL_law 837 = .ok (.aload_n 2, 1) := by decide +kernel
theorem dL_law_838 : decode cL_law 838 = .ok (.aload_n 0, 1) := by decide +kernel
theorem dL_law_839 : decode cL_law 839 = .ok (.iload_n 3, 1) := by decide +kernel
theorem dL_law_840 : decode cL_law 840 = .ok (.iconst 1, 1) := by decide +kernel
theorem dL_law_841 : decode cL_law 841 = .ok (.iadd, 1) := by decide +kernel
theorem dL_law_842 : decode cL_law 842 = .ok (.iaload, 1) := by decide +kernel
theorem dL_law_843 : decode cL_law 843 = .ok (.invokevirtual 104, 3) := by decide +kernel
theorem dL_law_846 : decode cL_law 846 = .ok (.pop, 1) := by decide +kernel
theorem dL_law_847 : decode cL_law 847 = .ok (.goto 1309, 3) := by decide +kernel
theorem dL_law_850 : decode cL_law 850 = .ok (.aload_n 1, 1) := by decide +kernel
theorem dL_law_851 : decode cL_law 851 = .ok (.aload_n 0, 1) := by decide +kernel
theorem dL_law_852 : decode cL_law 852 = .ok (.iload_n 3, 1) := by decide +kernel
theorem dL_law_853 : decode cL_law 853 = .ok (.iconst 1, 1) := by decide +kernel
theorem dL_law_854 : decode cL_law 854 = .ok (.iadd, 1) := by decide +kernel
theorem dL_law_855 : decode cL_law 855 = .ok (.iaload, 1) := by decide +kernel
theorem dL_law_856 : decode cL_law 856 = .ok (.aload_n 0, 1) := by decide +kernel
theorem dL_law_857 : decode cL_law 857 = .ok (.iload_n 3, 1) := by decide +kernel
theorem dL_law_858 : decode cL_law 858 = .ok (.iconst 2, 1) := by decide +kernel
theorem dL_law_859 : decode cL_law 859 = .ok (.iadd, 1) := by decide +kernel
theorem dL_law_860 : decode cL_law 860 = .ok (.iaload, 1) := by decide +kernel
theorem dL_law_861 : decode cL_law 861 = .ok (.invokevirtual 105, 3) := by decide +kernel
theorem dL_law_864 : decode cL_law 864 = .ok (.pop, 1) := by decide +kernel
theorem dL_law_865 : decode cL_law 865 = .ok (.aload_n 2, 1) := by decide +kernel
theorem dL_law_866 : decode cL_law 866 = .ok (.aload_n 0, 1) := by decide +kernel
theorem dL_law_867 : decode cL_law 867 = .ok (.iload_n 3, 1) := by decide +kernel
theorem dL_law_868 : decode cL_law 868 = .ok (.iconst 1, 1) := by decide +kernel
theorem dL_law_869 : decode cL_law 869 = .ok (.iadd, 1) := by decide +kernel
theorem dL_law_870 : decode cL_law 870 = .ok (.iaload, 1) := by decide +kernel
theorem dL_law_871 : decode cL_law 871 = .ok (.aload_n 0, 1) := by decide +kernel
theorem dL_law_872 : decode cL_law 872 = .ok (.iload_n 3, 1) := by decide +kernel
theorem dL_law_873 : decode cL_law 873 = .ok (.iconst 2, 1) := by decide +kernel
theorem dL_law_874 : decode cL_law 874 = .ok (.iadd, 1) := by decide +kernel
theorem dL_law_875 : decode cL_law 875 = .ok (.iaload, 1) := by decide +kernel
theorem dL_law_876 : decode cL_law 876 = .ok (.invokevirtual 108, 3) := by decide +kernel
theorem dL_law_879 : decode cL_law 879 = .ok (.pop, 1) := by decide +kernel
theorem dL_law_880 : decode cL_law 880 = .ok (.goto 1276, 3) := by decide +kernel
theorem dL_law_883 : decode cL_law 883 = .ok (.aload_n 1, 1) := by decide +kernel
theorem dL_law_884 : decode cL_law 884 = .ok (.aload_n 0, 1) := by decide +kernel
theorem dL_law_885 : decode cL_law 885 = .ok (.iload_n 3, 1) := by decide +kernel
theorem dL_law_886 : decode cL_law 886 = .ok (.iconst 1, 1) := by decide +kernel
theorem dL_law_887 : decode cL_law 887 = .ok (.iadd, 1) := by decide +kernel
theorem dL_law_888 : decode cL_law 888 = .ok (.iaload, 1) := by decide +kernel
theorem dL_law_889 : decode cL_law 889 = .ok (.aload_n 0, 1) := by decide +kernel
theorem dL_law_890 : decode cL_law 890 = .ok (.iload_n 3, 1) := by decide +kernel
theorem dL_law_891 : decode cL_law 891 = .ok (.iconst 2, 1) := by decide +kernel
theorem dL_law_892 : decode cL_law 892 = .ok (.iadd, 1) := by decide +kernel
theorem dL_law_893 : decode cL_law 893 = .ok (.iaload, 1) := by decide +kernel
theorem dL_law_894 : decode cL_law 894 = .ok (.invokevirtual 109, 3) := by decide +kernel
theorem dL_law_897 : decode cL_law 897 = .ok (.pop, 1) := by decide +kernel
theorem dL_law_898 : decode cL_law 898 = .ok (.aload_n 2, 1) := by decide +kernel
theorem dL_law_899 : decode cL_law 899 = .ok (.aload_n 0, 1) := by decide +kernel
theorem dL_law_900 : decode cL_law 900 = .ok (.iload_n 3, 1) := by decide +kernel
theorem dL_law_901 : decode cL_law 901 = .ok (.iconst 1, 1) := by decide +kernel
theorem dL_law_902 : decode cL_law 902 = .ok (.iadd, 1) := by decide +kernel
theorem dL_law_903 : decode cL_law 903 = .ok (.iaload, 1) := by decide +kernel
theorem dL_law_904 : decode cL_law 904 = .ok (.aload_n 0, 1) := by decide +kernel
theorem dL_law_905 : decode cL_law 905 = .ok (.iload_n 3, 1) := by decide +kernel
theorem dL_law_906 : decode cL_law 906 = .ok (.iconst 2, 1) := by decide +kernel
theorem dL_law_907 : decode cL_law 907 = .ok (.iadd, 1) := by decide +kernel
theorem dL_law_908 : decode cL_law 908 = .ok (.iaload, 1) := by decide +kernel
theorem dL_law_909 : decode cL_law 909 = .ok (.invokevirtual 112, 3) := by decide +kernel
theorem dL_law_912 : decode cL_law 912 = .ok (.pop, 1) := by decide +kernel
theorem dL_law_913 : decode cL_law 913 = .ok (.goto 1243, 3) := by decide +kernel
theorem dL_law_916 : decode cL_law 916 = .ok (.aload_n 1, 1) := by decide +kernel
theorem dL_law_917 : decode cL_law 917 = .ok (.aload_n 0, 1) := by decide +kernel
theorem dL_law_918 : decode cL_law 918 = .ok (.iload_n 3, 1) := by decide +kernel
theorem dL_law_919 : decode cL_law 919 = .ok (.iconst 1, 1) := by decide +kernel
theorem dL_law_920 : decode cL_law 920 = .ok (.iadd, 1) := by decide +kernel
theorem dL_law_921 : decode cL_law 921 = .ok (.iaload, 1) := by decide +kernel
theorem dL_law_922 : decode cL_law 922 = .ok (.invokevirtual 113, 3) := by decide +kernel
theorem dL_law_925 : decode cL_law 925 = .ok (.pop, 1) := by decide +kernel
theorem dL_law_926 : decode cL_law 926 = .ok (.aload_n 2, 1) := by decide +kernel
theorem dL_law_927 : decode cL_law 927 = .ok (.aload_n 0, 1) := by decide +kernel
theorem dL_law_928 : decode cL_law 928 = .ok (.iload_n 3, 1) := by decide +kernel
theorem dL_law_929 : decode cL_law 929 = .ok (.iconst 1, 1) := by decide +kernel
theorem dL_law_930 : decode cL_law 930 = .ok (.iadd, 1) := by decide +kernel
theorem dL_law_931 : decode cL_law 931 = .ok (.iaload, 1) := by decide +kernel
theorem dL_law_932 : decode cL_law 932 = .ok (.invokevirtual 116, 3) := by decide +kernel
theorem dL_law_935 : decode cL_law 935 = .ok (.pop, 1) := by decide +kernel
theorem dL_law_936 : decode cL_law 936 = .ok (.goto 1220, 3) := by decide +kernel
theorem dL_law_939 : decode cL_law 939 = .ok (.aload_n 1, 1) := by decide +kernel
theorem dL_law_940 : decode cL_law 940 = .ok (.aload_n 0, 1) := by decide +kernel
theorem dL_law_941 : decode cL_law 941 = .ok (.iload_n 3, 1) := by decide +kernel
theorem dL_law_942 : decode cL_law 942 = .ok (.iconst 1, 1) := by decide +kernel
theorem dL_law_943 : decode cL_law 943 = .ok (.iadd, 1) := by decide +kernel
theorem dL_law_944 : decode cL_law 944 = .ok (.iaload, 1) := by decide +kernel
theorem dL_law_945 : decode cL_law 945 = .ok (.aload_n 0, 1) := by decide +kernel
theorem dL_law_946 : decode cL_law 946 = .ok (.iload_n 3, 1) := by decide +kernel
theorem dL_law_947 : decode cL_law 947 = .ok (.iconst 2, 1) := by decide +kernel
theorem dL_law_948 : decode cL_law 948 = .ok (.iadd, 1) := by decide +kernel
theorem dL_law_949 : decode cL_law 949 = .ok (.iaload, 1) := by decide +kernel
theorem dL_law_950 : decode cL_law 950 = .ok (.invokevirtual 117, 3) := by decide +kernel
theorem dL_law_953 : decode cL_law 953 = .ok (.pop, 1) := by decide +kernel
theorem dL_law_954 : decode cL_law 954 = .ok (.aload_n 2, 1) := by decide +kernel
theorem dL_law_955 : decode cL_law 955 = .ok (.aload_n 0, 1) := by decide +kernel
theorem dL_law_956 : decode cL_law 956 = .ok (.iload_n 3, 1) := by decide +kernel
theorem dL_law_957 : decode cL_law 957 = .ok (.iconst 1, 1) := by decide +kernel
theorem dL_law_958 : decode cL_law 958 = .ok (.iadd, 1) := by decide +kernel
theorem dL_law_959 : decode cL_law 959 = .ok (.iaload, 1) := by decide +kernel
theorem dL_law_960 : decode cL_law 960 = .ok (.aload_n 0, 1) := by decide +kernel
theorem dL_law_961 : decode cL_law 961 = .ok (.iload_n 3, 1) := by decide +kernel
theorem dL_law_962 : decode cL_law 962 = .ok (.iconst 2, 1) := by decide +kernel
theorem dL_law_963 : decode cL_law 963 = .ok (.iadd, 1) := by decide +kernel
theorem dL_law_964 : decode cL_law 964 = .ok (.iaload, 1) := by decide +kernel
theorem dL_law_965 : decode cL_law 965 = .ok (.invokevirtual 120, 3) := by decide +kernel
theorem dL_law_968 : decode cL_law 968 = .ok (.pop, 1) := by decide +kernel
theorem dL_law_969 : decode cL_law 969 = .ok (.goto 1187, 3) := by decide +kernel
theorem dL_law_972 : decode cL_law 972 = .ok (.aload_n 1, 1) := by decide +kernel
theorem dL_law_973 : decode cL_law 973 = .ok (.aload_n 0, 1) := by decide +kernel
theorem dL_law_974 : decode cL_law 974 = .ok (.iload_n 3, 1) := by decide +kernel
theorem dL_law_975 : decode cL_law 975 = .ok (.iconst 1, 1) := by decide +kernel
theorem dL_law_976 : decode cL_law 976 = .ok (.iadd, 1) := by decide +kernel
theorem dL_law_977 : decode cL_law 977 = .ok (.iaload, 1) := by decide +kernel
theorem dL_law_978 : decode cL_law 978 = .ok (.aload_n 0, 1) := by decide +kernel
theorem dL_law_979 : decode cL_law 979 = .ok (.iload_n 3, 1) := by decide +kernel
theorem dL_law_980 : decode cL_law 980 = .ok (.iconst 2, 1) := by decide +kernel
theorem dL_law_981 : decode cL_law 981 = .ok (.iadd, 1) := by decide +kernel
theorem dL_law_982 : decode cL_law 982 = .ok (.iaload, 1) := by decide +kernel
theorem dL_law_983 : decode cL_law 983 = .ok (.aload_n 0, 1) := by decide +kernel
theorem dL_law_984 : decode cL_law 984 = .ok (.iload_n 3, 1) := by decide +kernel
theorem dL_law_985 : decode cL_law 985 = .ok (.iconst 3, 1) := by decide +kernel
theorem dL_law_986 : decode cL_law 986 = .ok (.iadd, 1) := by decide +kernel
theorem dL_law_987 : decode cL_law 987 = .ok (.iaload, 1) := by decide +kernel
theorem dL_law_988 : decode cL_law 988 = .ok (.invokevirtual 121, 3) := by decide +kernel
theorem dL_law_991 : decode cL_law 991 = .ok (.pop, 1) := by decide +kernel
theorem dL_law_992 : decode cL_law 992 = .ok (.aload_n 2, 1) := by decide +kernel
theorem dL_law_993 : decode cL_law 993 = .ok (.aload_n 0, 1) := by decide +kernel
theorem dL_law_994 : decode cL_law 994 = .ok (.iload_n 3, 1) := by decide +kernel
theorem dL_law_995 : decode cL_law 995 = .ok (.iconst 1, 1) := by decide +kernel
theorem dL_law_996 : decode cL_law 996 = .ok (.iadd, 1) := by decide +kernel
theorem dL_law_997 : decode cL_law 997 = .ok (.iaload, 1) := by decide +kernel
theorem dL_law_998 : decode cL_law 998 = .ok (.aload_n 0, 1) := by decide +kernel
theorem dL_law_999 : decode cL_law 999 = .ok (.iload_n 3, 1) := by decide +kernel
theorem dL_law_1000 : decode cL_law 1000 = .ok (.iconst 2, 1) := by decide +kernel
theorem dL_law_1001 : decode cL_law 1001 = .ok (.iadd, 1) := by decide +kernel
theorem dL_law_1002 : decode cL_law 1002 = .ok (.iaload, 1) := by decide +kernel
theorem dL_law_1003 : decode cL_law 1003 = .ok (.aload_n 0, 1) := by decide +kernel
theorem dL_law_1004 : decode cL_law 1004 = .ok (.iload_n 3, 1) := by decide +kernel
theorem dL_law_1005 : decode cL_law 1005 = .ok (.iconst 3, 1) := by decide +kernel
theorem dL_law_1006 : decode cL_law 1006 = .ok (.iadd, 1) := by decide +kernel
theorem dL_law_1007 : decode cL_law 1007 = .ok (.iaload, 1) := by decide +kernel
theorem dL_law_1008 : decode cL_law 1008 = .ok (.invokevirtual 125, 3) := by decide +kernel
theorem dL_law_1011 : decode cL_law 1011 = .ok (.pop, 1) := by decide +kernel
theorem dL_law_1012 : decode cL_law 1012 = .ok (.goto 1144, 3) := by decide +kernel
theorem dL_law_1015 : decode cL_law 1015 = .ok (.aload_n 1, 1) := by decide +kernel
theorem dL_law_1016 : decode cL_law 1016 = .ok (.aload_n 0, 1) := by decide +kernel
theorem dL_law_1017 : decode cL_law 1017 = .ok (.iload_n 3, 1) := by decide +kernel
theorem dL_law_1018 : decode cL_law 1018 = .ok (.iconst 1, 1) := by decide +kernel
theorem dL_law_1019 : decode cL_law 1019 = .ok (.iadd, 1) := by decide +kernel
theorem dL_law_1020 : decode cL_law 1020 = .ok (.iaload, 1) := by decide +kernel
theorem dL_law_1021 : decode cL_law 1021 = .ok (.invokevirtual 126, 3) := by decide +kernel
theorem dL_law_1024 : decode cL_law 1024 = .ok (.pop, 1) := by decide +kernel
theorem dL_law_1025 : decode cL_law 1025 = .ok (.aload_n 2, 1) := by decide +kernel
theorem dL_law_1026 : decode cL_law 1026 = .ok (.aload_n 0, 1) := by decide +kernel
theorem dL_law_1027 : decode cL_law 1027 = .ok (.iload_n 3, 1) := by decide +kernel
theorem dL_law_1028 : decode cL_law 1028 = .ok (.iconst 1, 1) := by decide +kernel
theorem dL_law_1029 : decode cL_law 1029 = .ok (.iadd, 1) := by decide +kernel
theorem dL_law_1030 : decode cL_law 1030 = .ok (.iaload, 1) := by decide +kernel
theorem dL_law_1031 : decode cL_law 1031 = .ok (.invokevirtual 129, 3) := by decide +kernel
theorem dL_law_1034 : decode cL_law 1034 = .ok (.pop, 1) := by decide +kernel
theorem dL_law_1035 : decode cL_law 1035 = .ok (.goto 1121, 3) := by decide +kernel
theorem dL_law_1038 : decode cL_law 1038 = .ok (.aload_n 1, 1) := by decide +kernel
theorem dL_law_1039 : decode cL_law 1039 = .ok (.aload_n 0, 1) := by decide +kernel
theorem dL_law_1040 : decode cL_law 1040 = .ok (.iload_n 3, 1) := by decide +kernel
theorem dL_law_1041 : decode cL_law 1041 = .ok (.iconst 1, 1) := by decide +kernel
theorem dL_law_1042 : decode cL_law 1042 = .ok (.iadd, 1) := by decide +kernel
theorem dL_law_1043 : decode cL_law 1043 = .ok (.iaload, 1) := by decide +kernel
theorem dL_law_1044 : decode cL_law 1044 = .ok (.aload_n 0, 1) := by decide +kernel
theorem dL_law_1045 : decode cL_law 1045 = .ok (.iload_n 3, 1) := by decide +kernel
theorem dL_law_1046 : decode cL_law 1046 = .ok (.iconst 2, 1) := by decide +kernel
theorem dL_law_1047 : decode cL_law 1047 = .ok (.iadd, 1) := by decide +kernel
theorem dL_law_1048 : decode cL_law 1048 = .ok (.iaload, 1) := by decide +kernel
theorem dL_law_1049 : decode cL_law 1049 = .ok (.invokevirtual 130, 3) := by decide +kernel
theorem dL_law_1052 : decode cL_law 1052 = .ok (.pop, 1) := by decide +kernel
theorem dL_law_1053 : decode cL_law 1053 = .ok (.aload_n 2, 1) := by decide +kernel
theorem dL_law_1054 : decode cL_law 1054 = .ok (.aload_n 0, 1) := by decide +kernel
theorem dL_law_1055 : decode cL_law 1055 = .ok (.iload_n 3, 1) := by decide +kernel
theorem dL_law_1056 : decode cL_law 1056 = .ok (.iconst 1, 1) := by decide +kernel
theorem dL_law_1057 : decode cL_law 1057 = .ok (.iadd, 1) := by decide +kernel
theorem dL_law_1058 : decode cL_law 1058 = .ok (.iaload, 1) := by decide +kernel
theorem dL_law_1059 : decode cL_law 1059 = .ok (.aload_n 0, 1) := by decide +kernel
theorem dL_law_1060 : decode cL_law 1060 = .ok (.iload_n 3, 1) := by decide +kernel
theorem dL_law_1061 : decode cL_law 1061 = .ok (.iconst 2, 1) := by decide +kernel
theorem dL_law_1062 : decode cL_law 1062 = .ok (.iadd, 1) := by decide +kernel
theorem dL_law_1063 : decode cL_law 1063 = .ok (.iaload, 1) := by decide +kernel
theorem dL_law_1064 : decode cL_law 1064 = .ok (.invokevirtual 133, 3) := by decide +kernel
theorem dL_law_1067 : decode cL_law 1067 = .ok (.pop, 1) := by decide +kernel
theorem dL_law_1068 : decode cL_law 1068 = .ok (.goto 1088, 3) := by decide +kernel
theorem dL_law_1071 : decode cL_law 1071 = .ok (.aload_n 1, 1) := by decide +kernel
theorem dL_law_1072 : decode cL_law 1072 = .ok (.aload_n 0, 1) := by decide +kernel
theorem dL_law_1073 : decode cL_law 1073 = .ok (.iload_n 3, 1) := by decide +kernel
theorem dL_law_1074 : decode cL_law 1074 = .ok (.iconst 1, 1) := by decide +kernel
theorem dL_law_1075 : decode cL_law 1075 = .ok (.iadd, 1) := by decide +kernel
theorem dL_law_1076 : decode cL_law 1076 = .ok (.iaload, 1) := by decide +kernel
theorem dL_law_1077 : decode cL_law 1077 = .ok (.aload_n 0, 1) := by decide +kernel
theorem dL_law_1078 : decode cL_law 1078 = .ok (.iload_n 3, 1) := by decide +kernel
theorem dL_law_1079 : decode cL_law 1079 = .ok (.iconst 2, 1) := by decide +kernel
theorem dL_law_1080 : decode cL_law 1080 = .ok (.iadd, 1) := by decide +kernel
theorem dL_law_1081 : decode cL_law 1081 = .ok (.iaload, 1) := by decide +kernel
theorem dL_law_1082 : decode cL_law 1082 = .ok (.invokevirtual 134, 3) := by decide +kernel
theorem dL_law_1085 : decode cL_law 1085 = .ok (.pop, 1) := by decide +kernel
theorem dL_law_1086 : decode cL_law 1086 = .ok (.aload_n 2, 1) := by decide +kernel
theorem dL_law_1087 : decode cL_law 1087 = .ok (.aload_n 0, 1) := by decide +kernel
theorem dL_law_1088 : decode cL_law 1088 = .ok (.iload_n 3, 1) := by decide +kernel
theorem dL_law_1089 : decode cL_law 1089 = .ok (.iconst 1, 1) := by decide +kernel
theorem dL_law_1090 : decode cL_law 1090 = .ok (.iadd, 1) := by decide +kernel
theorem dL_law_1091 : decode cL_law 1091 = .ok (.iaload, 1) := by decide +kernel
theorem dL_law_1092 : decode cL_law 1092 = .ok (.aload_n 0, 1) := by decide +kernel
theorem dL_law_1093 : decode cL_law 1093 = .ok (.iload_n 3, 1) := by decide +kernel
theorem dL_law_1094 : decode cL_law 1094 = .ok (.iconst 2, 1) := by decide +kernel
theorem dL_law_1095 : decode cL_law 1095 = .ok (.iadd, 1) := by decide +kernel
theorem dL_law_1096 : decode cL_law 1096 = .ok (.iaload, 1) := by decide +kernel
theorem dL_law_1097 : decode cL_law 1097 = .ok (.invokevirtual 137, 3) := by decide +kernel
theorem dL_law_1100 : decode cL_law 1100 = .ok (.pop, 1) := by decide +kernel
theorem dL_law_1101 : decode cL_law 1101 = .ok (.goto 1055, 3) := by decide +kernel
theorem dL_law_1104 : decode cL_law 1104 = .ok (.aload_n 1, 1) := by decide +kernel
theorem dL_law_1105 : decode cL_law 1105 = .ok (.aload_n 0, 1) := by decide +kernel
theorem dL_law_1106 : decode cL_law 1106 = .ok (.iload_n 3, 1) := by decide +kernel
theorem dL_law_1107 : decode cL_law 1107 = .ok (.iconst 1, 1) := by decide +kernel
theorem dL_law_1108 : decode cL_law 1108 = .ok (.iadd, 1) := by decide +kernel
theorem dL_law_1109 : decode cL_law 1109 = .ok (.iaload, 1) := by decide +kernel
theorem dL_law_1110 : decode cL_law 1110 = .ok (.invokevirtual 138, 3) := by decide +kernel
theorem dL_law_1113 : decode cL_law 1113 = .ok (.pop, 1) := by decide +kernel
theorem dL_law_1114 : decode cL_law 1114 = .ok (.aload_n 2, 1) := by decide +kernel
theorem dL_law_1115 : decode cL_law 1115 = .ok (.aload_n 0, 1) := by decide +kernel
theorem dL_law_1116 : decode cL_law 1116 = .ok (.iload_n 3, 1) := by decide +kernel
theorem dL_law_1117 : decode cL_law 1117 = .ok (.iconst 1, 1) := by decide +kernel
theorem dL_law_1118 : decode cL_law 1118 = .ok (.iadd, 1) := by decide +kernel
theorem dL_law_1119 : decode cL_law 1119 = .ok (.iaload, 1) := by decide +kernel
theorem dL_law_1120 : decode cL_law 1120 = .ok (.invokevirtual 141, 3) := by decide +kernel
