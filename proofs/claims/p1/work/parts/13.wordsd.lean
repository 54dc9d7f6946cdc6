theorem dJ7_fill_53178_0 : decode cJ7_fill_53178 0 = .ok (.iconst 0, 1) := by decide +kernel
theorem dJ7_fill_53178_1 : decode cJ7_fill_53178 1 = .ok (.istore_n 2, 1) := by decide +kernel
theorem dJ7_fill_53178_2 : decode cJ7_fill_53178 2 = .ok (.aload_n 0, 1) := by decide +kernel
theorem dJ7_fill_53178_3 : decode cJ7_fill_53178 3 = .ok (.arraylength, 1) := by decide +kernel
theorem dJ7_fill_53178_4 : decode cJ7_fill_53178 4 = .ok (.istore_n 3, 1) := by decide +kernel
theorem dJ7_fill_53178_5 : decode cJ7_fill_53178 5 = .ok (.iload_n 2, 1) := by decide +kernel
theorem dJ7_fill_53178_6 : decode cJ7_fill_53178 6 = .ok (.iload_n 3, 1) := by decide +kernel
theorem dJ7_fill_53178_7 : decode cJ7_fill_53178 7 = .ok (.if_icmp .ge 13, 3) := by decide +kernel
theorem dJ7_fill_53178_10 : decode cJ7_fill_53178 10 = .ok (.aload_n 0, 1) := by decide +kernel
theorem dJ7_fill_53178_11 : decode cJ7_fill_53178 11 = .ok (.iload_n 2, 1) := by decide +kernel
theorem dJ7_fill_53178_12 : decode cJ7_fill_53178 12 = .ok (.iload_n 1, 1) := by decide +kernel
theorem dJ7_fill_53178_13 : decode cJ7_fill_53178 13 = .ok (.iastore, 1) := by decide +kernel
theorem dJ7_fill_53178_14 : decode cJ7_fill_53178 14 = .ok (.iinc 2 1, 3) := by decide +kernel
theorem dJ7_fill_53178_17 : decode cJ7_fill_53178 17 = .ok (.goto (-12), 3) := by decide +kernel
theorem dJ7_fill_53178_20 : decode cJ7_fill_53178 20 = .ok (.return_, 1) := by decide +kernel
theorem dJ7_fill_d0a16_0 : decode cJ7_fill_d0a16 0 = .ok (.iconst 0, 1) := by decide +kernel
theorem dJ7_fill_d0a16_1 : decode cJ7_fill_d0a16 1 = .ok (.istore_n 3, 1) := by decide +kernel
theorem dJ7_fill_d0a16_2 : decode cJ7_fill_d0a16 2 = .ok (.aload_n 0, 1) := by decide +kernel
theorem dJ7_fill_d0a16_3 : decode cJ7_fill_d0a16 3 = .ok (.arraylength, 1) := by decide +kernel
theorem dJ7_fill_d0a16_4 : decode cJ7_fill_d0a16 4 = .ok (.istore 4, 2) := by decide +kernel
theorem dJ7_fill_d0a16_6 : decode cJ7_fill_d0a16 6 = .ok (.iload_n 3, 1) := by decide +kernel
theorem dJ7_fill_d0a16_7 : decode cJ7_fill_d0a16 7 = .ok (.iload 4, 2) := by decide +kernel
theorem dJ7_fill_d0a16_9 : decode cJ7_fill_d0a16 9 = .ok (.if_icmp .ge 13, 3) := by decide +kernel
theorem dJ7_fill_d0a16_12 : decode cJ7_fill_d0a16 12 = .ok (.aload_n 0, 1) := by decide +kernel
theorem dJ7_fill_d0a16_13 : decode cJ7_fill_d0a16 13 = .ok (.iload_n 3, 1) := by decide +kernel
theorem dJ7_fill_d0a16_14 : decode cJ7_fill_d0a16 14 = .ok (.lload_n 1, 1) := by decide +kernel
theorem dJ7_fill_d0a16_15 : decode cJ7_fill_d0a16 15 = .ok (.lastore, 1) := by decide +kernel
theorem dJ7_fill_d0a16_16 : decode cJ7_fill_d0a16 16 = .ok (.iinc 3 1, 3) := by decide +kernel
theorem dJ7_fill_d0a16_19 : decode cJ7_fill_d0a16 19 = .ok (.goto (-13), 3) := by decide +kernel
theorem dJ7_fill_d0a16_22 : decode cJ7_fill_d0a16 22 = .ok (.return_, 1) := by decide +kernel
theorem dX9_push_0 : decode cX9_push 0 = .ok (.bipush 24, 2) := by decide +kernel
theorem dX9_push_2 : decode cX9_push 2 = .ok (.istore_n 2, 1) := by decide +kernel
theorem dX9_push_3 : decode cX9_push 3 = .ok (.iload_n 2, 1) := by decide +kernel
theorem dX9_push_4 : decode cX9_push 4 = .ok (.ifCond .lt 42, 3) := by decide +kernel
theorem dX9_push_7 : decode cX9_push 7 = .ok (.aload_n 0, 1) := by decide +kernel
theorem dX9_push_8 : decode cX9_push 8 = .ok (.getfield 15, 3) := by decide +kernel
theorem dX9_push_11 : decode cX9_push 11 = .ok (.sipush 900, 3) := by decide +kernel
theorem dX9_push_14 : decode cX9_push 14 = .ok (.if_icmp .ge 32, 3) := by decide +kernel
theorem dX9_push_17 : decode cX9_push 17 = .ok (.aload_n 0, 1) := by decide +kernel
theorem dX9_push_18 : decode cX9_push 18 = .ok (.getfield 9, 3) := by decide +kernel
theorem dX9_push_21 : decode cX9_push 21 = .ok (.aload_n 0, 1) := by decide +kernel
theorem dX9_push_22 : decode cX9_push 22 = .ok (.getfield 15, 3) := by decide +kernel
theorem dX9_push_25 : decode cX9_push 25 = .ok (.iload_n 1, 1) := by decide +kernel
theorem dX9_push_26 : decode cX9_push 26 = .ok (.iload_n 2, 1) := by decide +kernel
theorem dX9_push_27 : decode cX9_push 27 = .ok (.ishr, 1) := by decide +kernel
theorem dX9_push_28 : decode cX9_push 28 = .ok (.i2b, 1) := by decide +kernel
theorem dX9_push_29 : decode cX9_push 29 = .ok (.bastore, 1) := by decide +kernel
theorem dX9_push_30 : decode cX9_push 30 = .ok (.aload_n 0, 1) := by decide +kernel
theorem dX9_push_31 : decode cX9_push 31 = .ok (.dup, 1) := by decide +kernel
theorem dX9_push_32 : decode cX9_push 32 = .ok (.getfield 15, 3) := by decide +kernel
theorem dX9_push_35 : decode cX9_push 35 = .ok (.iconst 1, 1) := by decide +kernel
theorem dX9_push_36 : decode cX9_push 36 = .ok (.iadd, 1) := by decide +kernel
theorem dX9_push_37 : decode cX9_push 37 = .ok (.putfield 15, 3) := by decide +kernel
theorem dX9_push_40 : decode cX9_push 40 = .ok (.iinc 2 (-8), 3) := by decide +kernel
theorem dX9_push_43 : decode cX9_push 43 = .ok (.goto (-40), 3) := by decide +kernel
theorem dX9_push_46 : decode cX9_push 46 = .ok (.return_, 1) := by decide +kernel
theorem dX10_feed_0 : decode cX10_feed 0 = .ok (.aload_n 0, 1) := by decide +kernel
theorem dX10_feed_1 : decode cX10_feed 1 = .ok (.getfield 20, 3) := by decide +kernel
theorem dX10_feed_4 : decode cX10_feed 4 = .ok (.getfield 84, 3) := by decide +kernel
theorem dX10_feed_7 : decode cX10_feed 7 = .ok (.bipush 20, 2) := by decide +kernel
theorem dX10_feed_9 : decode cX10_feed 9 = .ok (.iadd, 1) := by decide +kernel
theorem dX10_feed_10 : decode cX10_feed 10 = .ok (.sipush 900, 3) := by decide +kernel
theorem dX10_feed_13 : decode cX10_feed 13 = .ok (.if_icmp .le 5, 3) := by decide +kernel
theorem dX10_feed_18 : decode cX10_feed 18 = .ok (.aload_n 0, 1) := by decide +kernel
theorem dX10_feed_19 : decode cX10_feed 19 = .ok (.getfield 20, 3) := by decide +kernel
theorem dX10_feed_22 : decode cX10_feed 22 = .ok (.iload_n 1, 1) := by decide +kernel
theorem dX10_feed_23 : decode cX10_feed 23 = .ok (.invokevirtual 90, 3) := by decide +kernel
theorem dX10_feed_26 : decode cX10_feed 26 = .ok (.aload_n 0, 1) := by decide +kernel
theorem dX10_feed_27 : decode cX10_feed 27 = .ok (.getfield 20, 3) := by decide +kernel
theorem dX10_feed_30 : decode cX10_feed 30 = .ok (.iload_n 2, 1) := by decide +kernel
theorem dX10_feed_31 : decode cX10_feed 31 = .ok (.invokevirtual 90, 3) := by decide +kernel
theorem dX10_feed_34 : decode cX10_feed 34 = .ok (.aload_n 0, 1) := by decide +kernel
theorem dX10_feed_35 : decode cX10_feed 35 = .ok (.getfield 20, 3) := by decide +kernel
theorem dX10_feed_38 : decode cX10_feed 38 = .ok (.iload_n 3, 1) := by decide +kernel
theorem dX10_feed_39 : decode cX10_feed 39 = .ok (.invokevirtual 90, 3) := by decide +kernel
theorem dX10_feed_42 : decode cX10_feed 42 = .ok (.aload_n 0, 1) := by decide +kernel
theorem dX10_feed_43 : decode cX10_feed 43 = .ok (.getfield 20, 3) := by decide +kernel
theorem dX10_feed_46 : decode cX10_feed 46 = .ok (.iload 4, 2) := by decide +kernel
theorem dX10_feed_48 : decode cX10_feed 48 = .ok (.invokevirtual 90, 3) := by decide +kernel
theorem dX10_feed_51 : decode cX10_feed 51 = .ok (.aload_n 0, 1) := by decide +kernel
theorem dX10_feed_52 : decode cX10_feed 52 = .ok (.getfield 20, 3) := by decide +kernel
theorem dX10_feed_55 : decode cX10_feed 55 = .ok (.iload 5, 2) := by decide +kernel
theorem dX10_feed_57 : decode cX10_feed 57 = .ok (.invokevirtual 90, 3) := by decide +kernel
theorem dX10_feed_60 : decode cX10_feed 60 = .ok (.aload_n 0, 1) := by decide +kernel
theorem dX10_feed_61 : decode cX10_feed 61 = .ok (.getfield 20, 3) := by decide +kernel
theorem dX10_feed_64 : decode cX10_feed 64 = .ok (.getfield 84, 3) := by decide +kernel
theorem dX10_feed_67 : decode cX10_feed 67 = .ok (.ireturn, 1) := by decide +kernel
theorem dX10_end_0 : decode cX10_end 0 = .ok (.iload_n 1, 1) := by decide +kernel
theorem dX10_end_1 : decode cX10_end 1 = .ok (.ifCond .lt 14, 3) := by decide +kernel
theorem dX10_end_4 : decode cX10_end 4 = .ok (.iload_n 1, 1) := by decide +kernel
theorem dX10_end_5 : decode cX10_end 5 = .ok (.aload_n 0, 1) := by decide +kernel
theorem dX10_end_6 : decode cX10_end 6 = .ok (.getfield 20, 3) := by decide +kernel
theorem dX10_end_9 : decode cX10_end 9 = .ok (.getfield 84, 3) := by decide +kernel
theorem dX10_end_12 : decode cX10_end 12 = .ok (.if_icmp .le 5, 3) := by decide +kernel
theorem dX10_end_17 : decode cX10_end 17 = .ok (.aload_n 0, 1) := by decide +kernel
theorem dX10_end_18 : decode cX10_end 18 = .ok (.getfield 20, 3) := by decide +kernel
theorem dX10_end_21 : decode cX10_end 21 = .ok (.iload_n 1, 1) := by decide +kernel
theorem dX10_end_22 : decode cX10_end 22 = .ok (.putfield 84, 3) := by decide +kernel
theorem dX10_end_25 : decode cX10_end 25 = .ok (.iload_n 1, 1) := by decide +kernel
theorem dX10_end_26 : decode cX10_end 26 = .ok (.ireturn, 1) := by decide +kernel
theorem dX10_end_15 : decode cX10_end 15 = .ok (.iconst (-1), 1) := by decide +kernel
theorem dX10_end_16 : decode cX10_end 16 = .ok (.ireturn, 1) := by decide +kernel
theorem dX3_clear_0 : decode cX3_clear 0 = .ok (.aload_n 0, 1) := by decide +kernel
theorem dX3_clear_1 : decode cX3_clear 1 = .ok (.iconst 0, 1) := by decide +kernel
theorem dX3_clear_2 : decode cX3_clear 2 = .ok (.putfield 33, 3) := by decide +kernel
theorem dX3_clear_5 : decode cX3_clear 5 = .ok (.aload_n 0, 1) := by decide +kernel
theorem dX3_clear_6 : decode cX3_clear 6 = .ok (.iconst 0, 1) := by decide +kernel
theorem dX3_clear_7 : decode cX3_clear 7 = .ok (.putfield 37, 3) := by decide +kernel
theorem dX3_clear_10 : decode cX3_clear 10 = .ok (.aload_n 0, 1) := by decide +kernel
theorem dX3_clear_11 : decode cX3_clear 11 = .ok (.iconst 0, 1) := by decide +kernel
theorem dX3_clear_12 : decode cX3_clear 12 = .ok (.putfield 40, 3) := by decide +kernel
theorem dX3_clear_15 : decode cX3_clear 15 = .ok (.aload_n 0, 1) := by decide +kernel
theorem dX3_clear_16 : decode cX3_clear 16 = .ok (.iconst 0, 1) := by decide +kernel
theorem dX3_clear_17 : decode cX3_clear 17 = .ok (.putfield 43, 3) := by decide +kernel
theorem dX3_clear_20 : decode cX3_clear 20 = .ok (.aload_n 0, 1) := by decide +kernel
theorem dX3_clear_21 : decode cX3_clear 21 = .ok (.iconst 0, 1) := by decide +kernel
theorem dX3_clear_22 : decode cX3_clear 22 = .ok (.putfield 46, 3) := by decide +kernel
theorem dX3_clear_25 : decode cX3_clear 25 = .ok (.aload_n 0, 1) := by decide +kernel
theorem dX3_clear_26 : decode cX3_clear 26 = .ok (.iconst 0, 1) := by decide +kernel
theorem dX3_clear_27 : decode cX3_clear 27 = .ok (.putfield 49, 3) := by decide +kernel
theorem dX3_clear_30 : decode cX3_clear 30 = .ok (.aload_n 0, 1) := by decide +kernel
theorem dX3_clear_31 : decode cX3_clear 31 = .ok (.iconst 0, 1) := by decide +kernel
theorem dX3_clear_32 : decode cX3_clear 32 = .ok (.putfield 52, 3) := by decide +kernel
theorem dX3_clear_35 : decode cX3_clear 35 = .ok (.return_, 1) := by decide +kernel
theorem dX6_advance_0 : decode cX6_advance 0 = .ok (.aload_n 0, 1) := by decide +kernel
theorem dX6_advance_1 : decode cX6_advance 1 = .ok (.getfield 30, 3) := by decide +kernel
theorem dX6_advance_4 : decode cX6_advance 4 = .ok (.aload_n 0, 1) := by decide +kernel
theorem dX6_advance_5 : decode cX6_advance 5 = .ok (.getfield 12, 3) := by decide +kernel
theorem dX6_advance_8 : decode cX6_advance 8 = .ok (.getfield 165, 3) := by decide +kernel
theorem dX6_advance_11 : decode cX6_advance 11 = .ok (.if_icmp .ge 34, 3) := by decide +kernel
theorem dX6_advance_45 : decode cX6_advance 45 = .ok (.aload_n 0, 1) := by decide +kernel
theorem dX6_advance_46 : decode cX6_advance 46 = .ok (.aload_n 0, 1) := by decide +kernel
theorem dX6_advance_47 : decode cX6_advance 47 = .ok (.getfield 30, 3) := by decide +kernel
theorem dX6_advance_50 : decode cX6_advance 50 = .ok (.putfield 150, 3) := by decide +kernel
theorem dX6_advance_53 : decode cX6_advance 53 = .ok (.aload_n 0, 1) := by decide +kernel
theorem dX6_advance_54 : decode cX6_advance 54 = .ok (.iconst 0, 1) := by decide +kernel
theorem dX6_advance_55 : decode cX6_advance 55 = .ok (.putfield 147, 3) := by decide +kernel
theorem dX6_advance_58 : decode cX6_advance 58 = .ok (.aload_n 0, 1) := by decide +kernel
theorem dX6_advance_59 : decode cX6_advance 59 = .ok (.aload_n 0, 1) := by decide +kernel
theorem dX6_advance_60 : decode cX6_advance 60 = .ok (.getfield 30, 3) := by decide +kernel
theorem dX6_advance_63 : decode cX6_advance 63 = .ok (.aload_n 0, 1) := by decide +kernel
theorem dX6_advance_64 : decode cX6_advance 64 = .ok (.getfield 12, 3) := by decide +kernel
theorem dX6_advance_67 : decode cX6_advance 67 = .ok (.getfield 165, 3) := by decide +kernel
theorem dX6_advance_70 : decode cX6_advance 70 = .ok (.if_icmp .ge 21, 3) := by decide +kernel
theorem dX6_advance_91 : decode cX6_advance 91 = .ok (.iconst 0, 1) := by decide +kernel
theorem dX6_advance_92 : decode cX6_advance 92 = .ok (.putfield 36, 3) := by decide +kernel
theorem dX6_advance_95 : decode cX6_advance 95 = .ok (.aload_n 0, 1) := by decide +kernel
theorem dX6_advance_96 : decode cX6_advance 96 = .ok (.getfield 36, 3) := by decide +kernel
theorem dX6_advance_99 : decode cX6_advance 99 = .ok (.iconst 3, 1) := by decide +kernel
theorem dX6_advance_100 : decode cX6_advance 100 = .ok (.if_icmp .eq 11, 3) := by decide +kernel
theorem dX6_advance_103 : decode cX6_advance 103 = .ok (.aload_n 0, 1) := by decide +kernel
theorem dX6_advance_104 : decode cX6_advance 104 = .ok (.getfield 36, 3) := by decide +kernel
theorem dX6_advance_107 : decode cX6_advance 107 = .ok (.iconst 4, 1) := by decide +kernel
theorem dX6_advance_108 : decode cX6_advance 108 = .ok (.if_icmp .ne 14, 3) := by decide +kernel
theorem dX6_advance_122 : decode cX6_advance 122 = .ok (.aload_n 0, 1) := by decide +kernel
theorem dX6_advance_123 : decode cX6_advance 123 = .ok (.getfield 30, 3) := by decide +kernel
theorem dX6_advance_126 : decode cX6_advance 126 = .ok (.aload_n 0, 1) := by decide +kernel
theorem dX6_advance_127 : decode cX6_advance 127 = .ok (.getfield 12, 3) := by decide +kernel
theorem dX6_advance_130 : decode cX6_advance 130 = .ok (.getfield 165, 3) := by decide +kernel
theorem dX6_advance_133 : decode cX6_advance 133 = .ok (.if_icmp .ge 81, 3) := by decide +kernel
theorem dX6_advance_214 : decode cX6_advance 214 = .ok (.return_, 1) := by decide +kernel
theorem dX6_readHouse_0 : decode cX6_readHouse 0 = .ok (.aload_n 1, 1) := by decide +kernel
theorem dX6_readHouse_1 : decode cX6_readHouse 1 = .ok (.invokevirtual 22, 3) := by decide +kernel
theorem dX6_readHouse_4 : decode cX6_readHouse 4 = .ok (.aload_n 0, 1) := by decide +kernel
theorem dX6_readHouse_5 : decode cX6_readHouse 5 = .ok (.iconst 0, 1) := by decide +kernel
theorem dX6_readHouse_6 : decode cX6_readHouse 6 = .ok (.putfield 27, 3) := by decide +kernel
theorem dX6_readHouse_9 : decode cX6_readHouse 9 = .ok (.aload_n 0, 1) := by decide +kernel
theorem dX6_readHouse_10 : decode cX6_readHouse 10 = .ok (.iconst (-1), 1) := by decide +kernel
theorem dX6_readHouse_11 : decode cX6_readHouse 11 = .ok (.putfield 18, 3) := by decide +kernel
theorem dX6_readHouse_14 : decode cX6_readHouse 14 = .ok (.aload_n 0, 1) := by decide +kernel
theorem dX6_readHouse_15 : decode cX6_readHouse 15 = .ok (.iconst 0, 1) := by decide +kernel
theorem dX6_readHouse_16 : decode cX6_readHouse 16 = .ok (.putfield 30, 3) := by decide +kernel
theorem dX6_readHouse_19 : decode cX6_readHouse 19 = .ok (.aload_n 0, 1) := by decide +kernel
theorem dX6_readHouse_20 : decode cX6_readHouse 20 = .ok (.invokevirtual 33, 3) := by decide +kernel
theorem dX6_readHouse_23 : decode cX6_readHouse 23 = .ok (.iconst 0, 1) := by decide +kernel
theorem dX6_readHouse_24 : decode cX6_readHouse 24 = .ok (.istore_n 2, 1) := by decide +kernel
theorem dX6_readHouse_25 : decode cX6_readHouse 25 = .ok (.iload_n 2, 1) := by decide +kernel
theorem dX6_readHouse_26 : decode cX6_readHouse 26 = .ok (.sipush 900, 3) := by decide +kernel
theorem dX6_readHouse_29 : decode cX6_readHouse 29 = .ok (.if_icmp .gt 26, 3) := by decide +kernel
theorem dX6_readHouse_32 : decode cX6_readHouse 32 = .ok (.aload_n 0, 1) := by decide +kernel
theorem dX6_readHouse_33 : decode cX6_readHouse 33 = .ok (.getfield 36, 3) := by decide +kernel
theorem dX6_readHouse_36 : decode cX6_readHouse 36 = .ok (.ifCond .eq 19, 3) := by decide +kernel
theorem dX6_readHouse_55 : decode cX6_readHouse 55 = .ok (.iconst 1, 1) := by decide +kernel
theorem dX6_readHouse_56 : decode cX6_readHouse 56 = .ok (.ireturn, 1) := by decide +kernel
theorem dX3_copyFrom_0 : decode cX3_copyFrom 0 = .ok (.aload_n 0, 1) := by decide +kernel
theorem dX3_copyFrom_1 : decode cX3_copyFrom 1 = .ok (.aload_n 1, 1) := by decide +kernel
theorem dX3_copyFrom_2 : decode cX3_copyFrom 2 = .ok (.getfield 33, 3) := by decide +kernel
theorem dX3_copyFrom_5 : decode cX3_copyFrom 5 = .ok (.putfield 33, 3) := by decide +kernel
theorem dX3_copyFrom_8 : decode cX3_copyFrom 8 = .ok (.aload_n 0, 1) := by decide +kernel
theorem dX3_copyFrom_9 : decode cX3_copyFrom 9 = .ok (.aload_n 1, 1) := by decide +kernel
theorem dX3_copyFrom_10 : decode cX3_copyFrom 10 = .ok (.getfield 37, 3) := by decide +kernel
theorem dX3_copyFrom_13 : decode cX3_copyFrom 13 = .ok (.putfield 37, 3) := by decide +kernel
theorem dX3_copyFrom_16 : decode cX3_copyFrom 16 = .ok (.aload_n 0, 1) := by decide +kernel
theorem dX3_copyFrom_17 : decode cX3_copyFrom 17 = .ok (.aload_n 1, 1) := by decide +kernel
theorem dX3_copyFrom_18 : decode cX3_copyFrom 18 = .ok (.getfield 40, 3) := by decide +kernel
theorem dX3_copyFrom_21 : decode cX3_copyFrom 21 = .ok (.putfield 40, 3) := by decide +kernel
theorem dX3_copyFrom_24 : decode cX3_copyFrom 24 = .ok (.aload_n 0, 1) := by decide +kernel
theorem dX3_copyFrom_25 : decode cX3_copyFrom 25 = .ok (.aload_n 1, 1) := by decide +kernel
theorem dX3_copyFrom_26 : decode cX3_copyFrom 26 = .ok (.getfield 43, 3) := by decide +kernel
theorem dX3_copyFrom_29 : decode cX3_copyFrom 29 = .ok (.putfield 43, 3) := by decide +kernel
theorem dX3_copyFrom_32 : decode cX3_copyFrom 32 = .ok (.aload_n 0, 1) := by decide +kernel
theorem dX3_copyFrom_33 : decode cX3_copyFrom 33 = .ok (.aload_n 1, 1) := by decide +kernel
theorem dX3_copyFrom_34 : decode cX3_copyFrom 34 = .ok (.getfield 46, 3) := by decide +kernel
theorem dX3_copyFrom_37 : decode cX3_copyFrom 37 = .ok (.putfield 46, 3) := by decide +kernel
theorem dX3_copyFrom_40 : decode cX3_copyFrom 40 = .ok (.aload_n 0, 1) := by decide +kernel
theorem dX3_copyFrom_41 : decode cX3_copyFrom 41 = .ok (.aload_n 1, 1) := by decide +kernel
theorem dX3_copyFrom_42 : decode cX3_copyFrom 42 = .ok (.getfield 49, 3) := by decide +kernel
theorem dX3_copyFrom_45 : decode cX3_copyFrom 45 = .ok (.putfield 49, 3) := by decide +kernel
theorem dX3_copyFrom_48 : decode cX3_copyFrom 48 = .ok (.aload_n 0, 1) := by decide +kernel
theorem dX3_copyFrom_49 : decode cX3_copyFrom 49 = .ok (.aload_n 1, 1) := by decide +kernel
theorem dX3_copyFrom_50 : decode cX3_copyFrom 50 = .ok (.getfield 52, 3) := by decide +kernel
theorem dX3_copyFrom_53 : decode cX3_copyFrom 53 = .ok (.putfield 52, 3) := by decide +kernel
theorem dX3_copyFrom_56 : decode cX3_copyFrom 56 = .ok (.aload_n 1, 1) := by decide +kernel
theorem dX3_copyFrom_57 : decode cX3_copyFrom 57 = .ok (.getfield 9, 3) := by decide +kernel
theorem dX3_copyFrom_60 : decode cX3_copyFrom 60 = .ok (.iconst 0, 1) := by decide +kernel
theorem dX3_copyFrom_61 : decode cX3_copyFrom 61 = .ok (.aload_n 0, 1) := by decide +kernel
theorem dX3_copyFrom_62 : decode cX3_copyFrom 62 = .ok (.getfield 9, 3) := by decide +kernel
theorem dX3_copyFrom_65 : decode cX3_copyFrom 65 = .ok (.iconst 0, 1) := by decide +kernel
theorem dX3_copyFrom_66 : decode cX3_copyFrom 66 = .ok (.bipush 7, 2) := by decide +kernel
theorem dX3_copyFrom_68 : decode cX3_copyFrom 68 = .ok (.invokestatic 55, 3) := by decide +kernel
theorem dX3_copyFrom_71 : decode cX3_copyFrom 71 = .ok (.aload_n 1, 1) := by decide +kernel
theorem dX3_copyFrom_72 : decode cX3_copyFrom 72 = .ok (.getfield 15, 3) := by decide +kernel
theorem dX3_copyFrom_75 : decode cX3_copyFrom 75 = .ok (.iconst 0, 1) := by decide +kernel
theorem dX3_copyFrom_76 : decode cX3_copyFrom 76 = .ok (.aload_n 0, 1) := by decide +kernel
theorem dX3_copyFrom_77 : decode cX3_copyFrom 77 = .ok (.getfield 15, 3) := by decide +kernel
theorem dX3_copyFrom_80 : decode cX3_copyFrom 80 = .ok (.iconst 0, 1) := by decide +kernel
theorem dX3_copyFrom_81 : decode cX3_copyFrom 81 = .ok (.bipush 7, 2) := by decide +kernel
theorem dX3_copyFrom_83 : decode cX3_copyFrom 83 = .ok (.invokestatic 55, 3) := by decide +kernel
theorem dX3_copyFrom_86 : decode cX3_copyFrom 86 = .ok (.aload_n 1, 1) := by decide +kernel
theorem dX3_copyFrom_87 : decode cX3_copyFrom 87 = .ok (.getfield 18, 3) := by decide +kernel
theorem dX3_copyFrom_90 : decode cX3_copyFrom 90 = .ok (.iconst 0, 1) := by decide +kernel
theorem dX3_copyFrom_91 : decode cX3_copyFrom 91 = .ok (.aload_n 0, 1) := by decide +kernel
theorem dX3_copyFrom_92 : decode cX3_copyFrom 92 = .ok (.getfield 18, 3) := by decide +kernel
theorem dX3_copyFrom_95 : decode cX3_copyFrom 95 = .ok (.iconst 0, 1) := by decide +kernel
theorem dX3_copyFrom_96 : decode cX3_copyFrom 96 = .ok (.bipush 7, 2) := by decide +kernel
theorem dX3_copyFrom_98 : decode cX3_copyFrom 98 = .ok (.invokestatic 55, 3) := by decide +kernel
theorem dX3_copyFrom_101 : decode cX3_copyFrom 101 = .ok (.aload_n 1, 1) := by decide +kernel
theorem dX3_copyFrom_102 : decode cX3_copyFrom 102 = .ok (.getfield 21, 3) := by decide +kernel
theorem dX3_copyFrom_105 : decode cX3_copyFrom 105 = .ok (.iconst 0, 1) := by decide +kernel
theorem dX3_copyFrom_106 : decode cX3_copyFrom 106 = .ok (.aload_n 0, 1) := by decide +kernel
theorem dX3_copyFrom_107 : decode cX3_copyFrom 107 = .ok (.getfield 21, 3) := by decide +kernel
theorem dX3_copyFrom_110 : decode cX3_copyFrom 110 = .ok (.iconst 0, 1) := by decide +kernel
theorem dX3_copyFrom_111 : decode cX3_copyFrom 111 = .ok (.bipush 7, 2) := by decide +kernel
theorem dX3_copyFrom_113 : decode cX3_copyFrom 113 = .ok (.invokestatic 55, 3) := by decide +kernel
theorem dX3_copyFrom_116 : decode cX3_copyFrom 116 = .ok (.aload_n 1, 1) := by decide +kernel
theorem dX3_copyFrom_117 : decode cX3_copyFrom 117 = .ok (.getfield 24, 3) := by decide +kernel
theorem dX3_copyFrom_120 : decode cX3_copyFrom 120 = .ok (.iconst 0, 1) := by decide +kernel
theorem dX3_copyFrom_121 : decode cX3_copyFrom 121 = .ok (.aload_n 0, 1) := by decide +kernel
theorem dX3_copyFrom_122 : decode cX3_copyFrom 122 = .ok (.getfield 24, 3) := by decide +kernel
theorem dX3_copyFrom_125 : decode cX3_copyFrom 125 = .ok (.iconst 0, 1) := by decide +kernel
theorem dX3_copyFrom_126 : decode cX3_copyFrom 126 = .ok (.bipush 6, 2) := by decide +kernel
theorem dX3_copyFrom_128 : decode cX3_copyFrom 128 = .ok (.invokestatic 55, 3) := by decide +kernel
theorem dX3_copyFrom_131 : decode cX3_copyFrom 131 = .ok (.aload_n 1, 1) := by decide +kernel
theorem dX3_copyFrom_132 : decode cX3_copyFrom 132 = .ok (.getfield 27, 3) := by decide +kernel
theorem dX3_copyFrom_135 : decode cX3_copyFrom 135 = .ok (.iconst 0, 1) := by decide +kernel
theorem dX3_copyFrom_136 : decode cX3_copyFrom 136 = .ok (.aload_n 0, 1) := by decide +kernel
theorem dX3_copyFrom_137 : decode cX3_copyFrom 137 = .ok (.getfield 27, 3) := by decide +kernel
theorem dX3_copyFrom_140 : decode cX3_copyFrom 140 = .ok (.iconst 0, 1) := by decide +kernel
theorem dX3_copyFrom_141 : decode cX3_copyFrom 141 = .ok (.bipush 6, 2) := by decide +kernel
theorem dX3_copyFrom_143 : decode cX3_copyFrom 143 = .ok (.invokestatic 55, 3) := by decide +kernel
theorem dX3_copyFrom_146 : decode cX3_copyFrom 146 = .ok (.aload_n 1, 1) := by decide +kernel
theorem dX3_copyFrom_147 : decode cX3_copyFrom 147 = .ok (.getfield 30, 3) := by decide +kernel
theorem dX3_copyFrom_150 : decode cX3_copyFrom 150 = .ok (.iconst 0, 1) := by decide +kernel
theorem dX3_copyFrom_151 : decode cX3_copyFrom 151 = .ok (.aload_n 0, 1) := by decide +kernel
theorem dX3_copyFrom_152 : decode cX3_copyFrom 152 = .ok (.getfield 30, 3) := by decide +kernel
theorem dX3_copyFrom_155 : decode cX3_copyFrom 155 = .ok (.iconst 0, 1) := by decide +kernel
theorem dX3_copyFrom_156 : decode cX3_copyFrom 156 = .ok (.bipush 36, 2) := by decide +kernel
theorem dX3_copyFrom_158 : decode cX3_copyFrom 158 = .ok (.invokestatic 55, 3) := by decide +kernel
theorem dX3_copyFrom_161 : decode cX3_copyFrom 161 = .ok (.return_, 1) := by decide +kernel
theorem dX3_allSits_0 : decode cX3_allSits 0 = .ok (.iconst 0, 1) := by decide +kernel
theorem dX3_allSits_1 : decode cX3_allSits 1 = .ok (.istore_n 1, 1) := by decide +kernel
theorem dX3_allSits_2 : decode cX3_allSits 2 = .ok (.iconst 0, 1) := by decide +kernel
theorem dX3_allSits_3 : decode cX3_allSits 3 = .ok (.istore_n 2, 1) := by decide +kernel
theorem dX3_allSits_4 : decode cX3_allSits 4 = .ok (.iload_n 2, 1) := by decide +kernel
theorem dX3_allSits_5 : decode cX3_allSits 5 = .ok (.aload_n 0, 1) := by decide +kernel
theorem dX3_allSits_6 : decode cX3_allSits 6 = .ok (.getfield 49, 3) := by decide +kernel
theorem dX3_allSits_9 : decode cX3_allSits 9 = .ok (.if_icmp .ge 18, 3) := by decide +kernel
theorem dX3_allSits_27 : decode cX3_allSits 27 = .ok (.iload_n 1, 1) := by decide +kernel
theorem dX3_allSits_28 : decode cX3_allSits 28 = .ok (.ireturn, 1) := by decide +kernel
theorem dX5_begin_0 : decode cX5_begin 0 = .ok (.aload_n 1, 1) := by decide +kernel
theorem dX5_begin_1 : decode cX5_begin 1 = .ok (.invokevirtual 18, 3) := by decide +kernel
theorem dX5_begin_4 : decode cX5_begin 4 = .ok (.istore_n 2, 1) := by decide +kernel
theorem dX5_begin_5 : decode cX5_begin 5 = .ok (.ldc 24, 2) := by decide +kernel
theorem dX5_begin_7 : decode cX5_begin 7 = .ok (.istore_n 3, 1) := by decide +kernel
theorem dX5_begin_8 : decode cX5_begin 8 = .ok (.aload_n 0, 1) := by decide +kernel
theorem dX5_begin_9 : decode cX5_begin 9 = .ok (.getfield 9, 3) := by decide +kernel
theorem dX5_begin_12 : decode cX5_begin 12 = .ok (.iconst 0, 1) := by decide +kernel
theorem dX5_begin_13 : decode cX5_begin 13 = .ok (.invokestatic 25, 3) := by decide +kernel
theorem dX5_begin_16 : decode cX5_begin 16 = .ok (.iconst 0, 1) := by decide +kernel
theorem dX5_begin_17 : decode cX5_begin 17 = .ok (.istore 4, 2) := by decide +kernel
theorem dX5_begin_19 : decode cX5_begin 19 = .ok (.iload 4, 2) := by decide +kernel
theorem dX5_begin_21 : decode cX5_begin 21 = .ok (.aload_n 1, 1) := by decide +kernel
theorem dX5_begin_22 : decode cX5_begin 22 = .ok (.getfield 31, 3) := by decide +kernel
theorem dX5_begin_25 : decode cX5_begin 25 = .ok (.if_icmp .ge 52, 3) := by decide +kernel
theorem dX5_begin_77 : decode cX5_begin 77 = .ok (.aload_n 0, 1) := by decide +kernel
theorem dX5_begin_78 : decode cX5_begin 78 = .ok (.iload_n 3, 1) := by decide +kernel
theorem dX5_begin_79 : decode cX5_begin 79 = .ok (.putfield 41, 3) := by decide +kernel
theorem dX5_begin_82 : decode cX5_begin 82 = .ok (.aload_n 0, 1) := by decide +kernel
theorem dX5_begin_83 : decode cX5_begin 83 = .ok (.iconst 0, 1) := by decide +kernel
theorem dX5_begin_84 : decode cX5_begin 84 = .ok (.putfield 44, 3) := by decide +kernel
theorem dX5_begin_87 : decode cX5_begin 87 = .ok (.return_, 1) := by decide +kernel
theorem dX10_replay_0 : decode cX10_replay 0 = .ok (.aload_n 0, 1) := by decide +kernel
theorem dX10_replay_1 : decode cX10_replay 1 = .ok (.getfield 48, 3) := by decide +kernel
theorem dX10_replay_4 : decode cX10_replay 4 = .ok (.aload_n 0, 1) := by decide +kernel
theorem dX10_replay_5 : decode cX10_replay 5 = .ok (.getfield 31, 3) := by decide +kernel
theorem dX10_replay_8 : decode cX10_replay 8 = .ok (.getfield 98, 3) := by decide +kernel
theorem dX10_replay_11 : decode cX10_replay 11 = .ok (.invokevirtual 388, 3) := by decide +kernel
theorem dX10_replay_14 : decode cX10_replay 14 = .ok (.iconst 0, 1) := by decide +kernel
theorem dX10_replay_15 : decode cX10_replay 15 = .ok (.istore_n 1, 1) := by decide +kernel
theorem dX10_replay_16 : decode cX10_replay 16 = .ok (.iload_n 1, 1) := by decide +kernel
theorem dX10_replay_17 : decode cX10_replay 17 = .ok (.aload_n 0, 1) := by decide +kernel
theorem dX10_replay_18 : decode cX10_replay 18 = .ok (.getfield 31, 3) := by decide +kernel
theorem dX10_replay_21 : decode cX10_replay 21 = .ok (.getfield 105, 3) := by decide +kernel
theorem dX10_replay_24 : decode cX10_replay 24 = .ok (.if_icmp .ge 34, 3) := by decide +kernel
theorem dX10_replay_58 : decode cX10_replay 58 = .ok (.return_, 1) := by decide +kernel
theorem dX10_house_0 : decode cX10_house 0 = .ok (.aload_n 0, 1) := by decide +kernel
theorem dX10_house_1 : decode cX10_house 1 = .ok (.getfield 10, 3) := by decide +kernel
theorem dX10_house_4 : decode cX10_house 4 = .ok (.aload_n 0, 1) := by decide +kernel
theorem dX10_house_5 : decode cX10_house 5 = .ok (.getfield 24, 3) := by decide +kernel
theorem dX10_house_8 : decode cX10_house 8 = .ok (.invokevirtual 94, 3) := by decide +kernel
theorem dX10_house_11 : decode cX10_house 11 = .ok (.ifCond .ne 6, 3) := by decide +kernel
theorem dX10_house_17 : decode cX10_house 17 = .ok (.aload_n 0, 1) := by decide +kernel
theorem dX10_house_18 : decode cX10_house 18 = .ok (.getfield 20, 3) := by decide +kernel
theorem dX10_house_21 : decode cX10_house 21 = .ok (.iconst 0, 1) := by decide +kernel
theorem dX10_house_22 : decode cX10_house 22 = .ok (.putfield 84, 3) := by decide +kernel
theorem dX10_house_25 : decode cX10_house 25 = .ok (.aload_n 0, 1) := by decide +kernel
theorem dX10_house_26 : decode cX10_house 26 = .ok (.getfield 31, 3) := by decide +kernel
theorem dX10_house_29 : decode cX10_house 29 = .ok (.getfield 98, 3) := by decide +kernel
theorem dX10_house_32 : decode cX10_house 32 = .ok (.aload_n 0, 1) := by decide +kernel
theorem dX10_house_33 : decode cX10_house 33 = .ok (.getfield 24, 3) := by decide +kernel
theorem dX10_house_36 : decode cX10_house 36 = .ok (.invokevirtual 101, 3) := by decide +kernel
theorem dX10_house_39 : decode cX10_house 39 = .ok (.aload_n 0, 1) := by decide +kernel
theorem dX10_house_40 : decode cX10_house 40 = .ok (.getfield 31, 3) := by decide +kernel
theorem dX10_house_43 : decode cX10_house 43 = .ok (.iconst 0, 1) := by decide +kernel
theorem dX10_house_44 : decode cX10_house 44 = .ok (.putfield 105, 3) := by decide +kernel
theorem dX10_house_47 : decode cX10_house 47 = .ok (.aload_n 0, 1) := by decide +kernel
theorem dX10_house_48 : decode cX10_house 48 = .ok (.invokevirtual 108, 3) := by decide +kernel
theorem dX10_house_51 : decode cX10_house 51 = .ok (.aload_n 0, 1) := by decide +kernel
theorem dX10_house_52 : decode cX10_house 52 = .ok (.getfield 31, 3) := by decide +kernel
theorem dX10_house_55 : decode cX10_house 55 = .ok (.getfield 98, 3) := by decide +kernel
theorem dX10_house_58 : decode cX10_house 58 = .ok (.getfield 111, 3) := by decide +kernel
theorem dX10_house_61 : decode cX10_house 61 = .ok (.ireturn, 1) := by decide +kernel
theorem dX8_copyFrom_0 : decode cX8_copyFrom 0 = .ok (.aload_n 0, 1) := by decide +kernel
theorem dX8_copyFrom_1 : decode cX8_copyFrom 1 = .ok (.getfield 12, 3) := by decide +kernel
theorem dX8_copyFrom_4 : decode cX8_copyFrom 4 = .ok (.aload_n 1, 1) := by decide +kernel
theorem dX8_copyFrom_5 : decode cX8_copyFrom 5 = .ok (.getfield 12, 3) := by decide +kernel
theorem dX8_copyFrom_8 : decode cX8_copyFrom 8 = .ok (.invokevirtual 22, 3) := by decide +kernel
theorem dX8_copyFrom_11 : decode cX8_copyFrom 11 = .ok (.aload_n 1, 1) := by decide +kernel
theorem dX8_copyFrom_12 : decode cX8_copyFrom 12 = .ok (.getfield 18, 3) := by decide +kernel
theorem dX8_copyFrom_15 : decode cX8_copyFrom 15 = .ok (.iconst 0, 1) := by decide +kernel
theorem dX8_copyFrom_16 : decode cX8_copyFrom 16 = .ok (.aload_n 0, 1) := by decide +kernel
theorem dX8_copyFrom_17 : decode cX8_copyFrom 17 = .ok (.getfield 18, 3) := by decide +kernel
theorem dX8_copyFrom_20 : decode cX8_copyFrom 20 = .ok (.iconst 0, 1) := by decide +kernel
theorem dX8_copyFrom_21 : decode cX8_copyFrom 21 = .ok (.bipush 60, 2) := by decide +kernel
theorem dX8_copyFrom_23 : decode cX8_copyFrom 23 = .ok (.invokestatic 26, 3) := by decide +kernel
theorem dX8_copyFrom_26 : decode cX8_copyFrom 26 = .ok (.aload_n 0, 1) := by decide +kernel
theorem dX8_copyFrom_27 : decode cX8_copyFrom 27 = .ok (.aload_n 1, 1) := by decide +kernel
theorem dX8_copyFrom_28 : decode cX8_copyFrom 28 = .ok (.getfield 32, 3) := by decide +kernel
theorem dX8_copyFrom_31 : decode cX8_copyFrom 31 = .ok (.putfield 32, 3) := by decide +kernel
theorem dX8_copyFrom_34 : decode cX8_copyFrom 34 = .ok (.return_, 1) := by decide +kernel
theorem dX10_image_0 : decode cX10_image 0 = .ok (.iload_n 1, 1) := by decide +kernel
theorem dX10_image_1 : decode cX10_image 1 = .ok (.ifCond .lt 8, 3) := by decide +kernel
theorem dX10_image_9 : decode cX10_image 9 = .ok (.bipush (-2), 2) := by decide +kernel
theorem dX10_image_11 : decode cX10_image 11 = .ok (.ireturn, 1) := by decide +kernel
theorem dX10_image_4 : decode cX10_image 4 = .ok (.iload_n 1, 1) := by decide +kernel
theorem dX10_image_5 : decode cX10_image 5 = .ok (.iconst 3, 1) := by decide +kernel
theorem dX10_image_6 : decode cX10_image 6 = .ok (.if_icmp .lt 6, 3) := by decide +kernel
theorem dX10_image_12 : decode cX10_image 12 = .ok (.aload_n 0, 1) := by decide +kernel
theorem dX10_image_13 : decode cX10_image 13 = .ok (.getfield 35, 3) := by decide +kernel
theorem dX10_image_16 : decode cX10_image 16 = .ok (.iload_n 1, 1) := by decide +kernel
theorem dX10_image_17 : decode cX10_image 17 = .ok (.aaload, 1) := by decide +kernel
theorem dX10_image_18 : decode cX10_image 18 = .ok (.aload_n 0, 1) := by decide +kernel
theorem dX10_image_19 : decode cX10_image 19 = .ok (.getfield 31, 3) := by decide +kernel
theorem dX10_image_22 : decode cX10_image 22 = .ok (.invokevirtual 341, 3) := by decide +kernel
theorem dX10_image_25 : decode cX10_image 25 = .ok (.aload_n 0, 1) := by decide +kernel
theorem dX10_image_26 : decode cX10_image 26 = .ok (.getfield 35, 3) := by decide +kernel
theorem dX10_image_29 : decode cX10_image 29 = .ok (.iload_n 1, 1) := by decide +kernel
theorem dX10_image_30 : decode cX10_image 30 = .ok (.aaload, 1) := by decide +kernel
theorem dX10_image_31 : decode cX10_image 31 = .ok (.iconst 1, 1) := by decide +kernel
theorem dX10_image_32 : decode cX10_image 32 = .ok (.putfield 344, 3) := by decide +kernel
theorem dX10_image_35 : decode cX10_image 35 = .ok (.iconst 0, 1) := by decide +kernel
theorem dX10_image_36 : decode cX10_image 36 = .ok (.ireturn, 1) := by decide +kernel
theorem dX7_make_0 : decode cX7_make 0 = .ok (.aload_n 0, 1) := by decide +kernel
theorem dX7_make_1 : decode cX7_make 1 = .ok (.iconst 1, 1) := by decide +kernel
theorem dX7_make_2 : decode cX7_make 2 = .ok (.putfield 15, 3) := by decide +kernel
theorem dX7_make_5 : decode cX7_make 5 = .ok (.aload_n 0, 1) := by decide +kernel
theorem dX7_make_6 : decode cX7_make 6 = .ok (.iload_n 1, 1) := by decide +kernel
theorem dX7_make_7 : decode cX7_make 7 = .ok (.putfield 19, 3) := by decide +kernel
theorem dX7_make_10 : decode cX7_make 10 = .ok (.aload_n 0, 1) := by decide +kernel
theorem dX7_make_11 : decode cX7_make 11 = .ok (.iload_n 2, 1) := by decide +kernel
theorem dX7_make_12 : decode cX7_make 12 = .ok (.putfield 23, 3) := by decide +kernel
theorem dX7_make_15 : decode cX7_make 15 = .ok (.aload_n 0, 1) := by decide +kernel
theorem dX7_make_16 : decode cX7_make 16 = .ok (.getfield 9, 3) := by decide +kernel
theorem dX7_make_19 : decode cX7_make 19 = .ok (.lconst 0, 1) := by decide +kernel
theorem dX7_make_20 : decode cX7_make 20 = .ok (.invokestatic 26, 3) := by decide +kernel
theorem dX7_make_23 : decode cX7_make 23 = .ok (.return_, 1) := by decide +kernel
theorem dX10_row_0 : decode cX10_row 0 = .ok (.aload_n 0, 1) := by decide +kernel
theorem dX10_row_1 : decode cX10_row 1 = .ok (.iload_n 1, 1) := by decide +kernel
theorem dX10_row_2 : decode cX10_row 2 = .ok (.invokevirtual 348, 3) := by decide +kernel
theorem dX10_row_5 : decode cX10_row 5 = .ok (.ifCond .eq 18, 3) := by decide +kernel
theorem dX10_row_23 : decode cX10_row 23 = .ok (.bipush (-2), 2) := by decide +kernel
theorem dX10_row_25 : decode cX10_row 25 = .ok (.ireturn, 1) := by decide +kernel
theorem dX10_row_8 : decode cX10_row 8 = .ok (.iload_n 2, 1) := by decide +kernel
theorem dX10_row_9 : decode cX10_row 9 = .ok (.ifCond .lt 14, 3) := by decide +kernel
theorem dX10_row_12 : decode cX10_row 12 = .ok (.iload_n 2, 1) := by decide +kernel
theorem dX10_row_13 : decode cX10_row 13 = .ok (.iconst 3, 1) := by decide +kernel
theorem dX10_row_14 : decode cX10_row 14 = .ok (.if_icmp .gt 9, 3) := by decide +kernel
theorem dX10_row_17 : decode cX10_row 17 = .ok (.iload_n 3, 1) := by decide +kernel
theorem dX10_row_18 : decode cX10_row 18 = .ok (.bipush 60, 2) := by decide +kernel
theorem dX10_row_20 : decode cX10_row 20 = .ok (.if_icmp .le 6, 3) := by decide +kernel
theorem dX10_row_26 : decode cX10_row 26 = .ok (.iload_n 3, 1) := by decide +kernel
theorem dX10_row_27 : decode cX10_row 27 = .ok (.ifCond .ge 6, 3) := by decide +kernel
theorem dX10_row_30 : decode cX10_row 30 = .ok (.bipush (-3), 2) := by decide +kernel
theorem dX10_row_32 : decode cX10_row 32 = .ok (.ireturn, 1) := by decide +kernel
theorem dX10_row_33 : decode cX10_row 33 = .ok (.aload_n 0, 1) := by decide +kernel
theorem dX10_row_34 : decode cX10_row 34 = .ok (.getfield 41, 3) := by decide +kernel
theorem dX10_row_37 : decode cX10_row 37 = .ok (.iload_n 1, 1) := by decide +kernel
theorem dX10_row_38 : decode cX10_row 38 = .ok (.aaload, 1) := by decide +kernel
theorem dX10_row_39 : decode cX10_row 39 = .ok (.iload_n 2, 1) := by decide +kernel
theorem dX10_row_40 : decode cX10_row 40 = .ok (.iload_n 3, 1) := by decide +kernel
theorem dX10_row_41 : decode cX10_row 41 = .ok (.invokevirtual 351, 3) := by decide +kernel
theorem dX10_row_44 : decode cX10_row 44 = .ok (.iconst 0, 1) := by decide +kernel
theorem dX10_row_45 : decode cX10_row 45 = .ok (.ireturn, 1) := by decide +kernel
