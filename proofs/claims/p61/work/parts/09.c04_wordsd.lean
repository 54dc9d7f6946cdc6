theorem db317 : (decode cX11_freshMan 0 = .ok (.aload_n 0, 1)) ∧ (decode cX11_freshMan 1 = .ok (.iconst 0, 1)) ∧ (decode cX11_freshMan 2 = .ok (.aload_n 0, 1)) ∧ (decode cX11_freshMan 3 = .ok (.getfield 31, 3)) ∧ (decode cX11_freshMan 6 = .ok (.iconst 5, 1)) ∧ (decode cX11_freshMan 7 = .ok (.iaload, 1)) ∧ (decode cX11_freshMan 8 = .ok (.iconst 1, 1)) ∧ (decode cX11_freshMan 9 = .ok (.isub, 1)) ∧ (decode cX11_freshMan 10 = .ok (.invokevirtual 164, 3)) ∧ (decode cX11_freshMan 13 = .ok (.ireturn, 1)) := by decide +kernel
theorem dX11_freshMan_0 : decode cX11_freshMan 0 = .ok (.aload_n 0, 1) := db317.1
theorem dX11_freshMan_1 : decode cX11_freshMan 1 = .ok (.iconst 0, 1) := db317.2.1
theorem dX11_freshMan_2 : decode cX11_freshMan 2 = .ok (.aload_n 0, 1) := db317.2.2.1
theorem dX11_freshMan_3 : decode cX11_freshMan 3 = .ok (.getfield 31, 3) := db317.2.2.2.1
theorem dX11_freshMan_6 : decode cX11_freshMan 6 = .ok (.iconst 5, 1) := db317.2.2.2.2.1
theorem dX11_freshMan_7 : decode cX11_freshMan 7 = .ok (.iaload, 1) := db317.2.2.2.2.2.1
theorem dX11_freshMan_8 : decode cX11_freshMan 8 = .ok (.iconst 1, 1) := db317.2.2.2.2.2.2.1
theorem dX11_freshMan_9 : decode cX11_freshMan 9 = .ok (.isub, 1) := db317.2.2.2.2.2.2.2.1
theorem dX11_freshMan_10 : decode cX11_freshMan 10 = .ok (.invokevirtual 164, 3) := db317.2.2.2.2.2.2.2.2.1
theorem dX11_freshMan_13 : decode cX11_freshMan 13 = .ok (.ireturn, 1) := db317.2.2.2.2.2.2.2.2.2
theorem db318 : (decode cX11_freshRoom 0 = .ok (.aload_n 0, 1)) ∧ (decode cX11_freshRoom 1 = .ok (.iconst 0, 1)) ∧ (decode cX11_freshRoom 2 = .ok (.aload_n 0, 1)) ∧ (decode cX11_freshRoom 3 = .ok (.getfield 31, 3)) ∧ (decode cX11_freshRoom 6 = .ok (.iconst 4, 1)) ∧ (decode cX11_freshRoom 7 = .ok (.iaload, 1)) ∧ (decode cX11_freshRoom 8 = .ok (.iconst 1, 1)) ∧ (decode cX11_freshRoom 9 = .ok (.isub, 1)) ∧ (decode cX11_freshRoom 10 = .ok (.invokevirtual 164, 3)) ∧ (decode cX11_freshRoom 13 = .ok (.ireturn, 1)) := by decide +kernel
theorem dX11_freshRoom_0 : decode cX11_freshRoom 0 = .ok (.aload_n 0, 1) := db318.1
theorem dX11_freshRoom_1 : decode cX11_freshRoom 1 = .ok (.iconst 0, 1) := db318.2.1
theorem dX11_freshRoom_2 : decode cX11_freshRoom 2 = .ok (.aload_n 0, 1) := db318.2.2.1
theorem dX11_freshRoom_3 : decode cX11_freshRoom 3 = .ok (.getfield 31, 3) := db318.2.2.2.1
theorem dX11_freshRoom_6 : decode cX11_freshRoom 6 = .ok (.iconst 4, 1) := db318.2.2.2.2.1
theorem dX11_freshRoom_7 : decode cX11_freshRoom 7 = .ok (.iaload, 1) := db318.2.2.2.2.2.1
theorem dX11_freshRoom_8 : decode cX11_freshRoom 8 = .ok (.iconst 1, 1) := db318.2.2.2.2.2.2.1
theorem dX11_freshRoom_9 : decode cX11_freshRoom 9 = .ok (.isub, 1) := db318.2.2.2.2.2.2.2.1
theorem dX11_freshRoom_10 : decode cX11_freshRoom 10 = .ok (.invokevirtual 164, 3) := db318.2.2.2.2.2.2.2.2.1
theorem dX11_freshRoom_13 : decode cX11_freshRoom 13 = .ok (.ireturn, 1) := db318.2.2.2.2.2.2.2.2.2
theorem db319 : (decode cX11_gain 0 = .ok (.aload_n 0, 1)) ∧ (decode cX11_gain 1 = .ok (.iload_n 1, 1)) ∧ (decode cX11_gain 2 = .ok (.iconst 1, 1)) ∧ (decode cX11_gain 3 = .ok (.invokevirtual 303, 3)) ∧ (decode cX11_gain 6 = .ok (.istore_n 2, 1)) ∧ (decode cX11_gain 7 = .ok (.iload_n 2, 1)) ∧ (decode cX11_gain 8 = .ok (.bipush (-2), 2)) ∧ (decode cX11_gain 10 = .ok (.if_icmp .ne 9, 3)) ∧ (decode cX11_gain 19 = .ok (.iload_n 2, 1)) ∧ (decode cX11_gain 20 = .ok (.bipush (-6), 2)) ∧ (decode cX11_gain 22 = .ok (.if_icmp .ne 9, 3)) ∧ (decode cX11_gain 31 = .ok (.aload_n 0, 1)) ∧ (decode cX11_gain 32 = .ok (.iload_n 1, 1)) ∧ (decode cX11_gain 33 = .ok (.aload_n 0, 1)) ∧ (decode cX11_gain 34 = .ok (.getfield 61, 3)) ∧ (decode cX11_gain 37 = .ok (.iload_n 1, 1)) ∧ (decode cX11_gain 38 = .ok (.iaload, 1)) ∧ (decode cX11_gain 39 = .ok (.iconst 0, 1)) ∧ (decode cX11_gain 40 = .ok (.invokevirtual 309, 3)) ∧ (decode cX11_gain 43 = .ok (.ireturn, 1)) ∧ (decode cX11_gain 25 = .ok (.ldc_w 308, 3)) ∧ (decode cX11_gain 28 = .ok (.goto 15, 3)) ∧ (decode cX11_gain 13 = .ok (.ldc_w 307, 3)) ∧ (decode cX11_gain 16 = .ok (.goto 27, 3)) := by decide +kernel
theorem dX11_gain_0 : decode cX11_gain 0 = .ok (.aload_n 0, 1) := db319.1
theorem dX11_gain_1 : decode cX11_gain 1 = .ok (.iload_n 1, 1) := db319.2.1
theorem dX11_gain_2 : decode cX11_gain 2 = .ok (.iconst 1, 1) := db319.2.2.1
theorem dX11_gain_3 : decode cX11_gain 3 = .ok (.invokevirtual 303, 3) := db319.2.2.2.1
theorem dX11_gain_6 : decode cX11_gain 6 = .ok (.istore_n 2, 1) := db319.2.2.2.2.1
theorem dX11_gain_7 : decode cX11_gain 7 = .ok (.iload_n 2, 1) := db319.2.2.2.2.2.1
theorem dX11_gain_8 : decode cX11_gain 8 = .ok (.bipush (-2), 2) := db319.2.2.2.2.2.2.1
theorem dX11_gain_10 : decode cX11_gain 10 = .ok (.if_icmp .ne 9, 3) := db319.2.2.2.2.2.2.2.1
theorem dX11_gain_19 : decode cX11_gain 19 = .ok (.iload_n 2, 1) := db319.2.2.2.2.2.2.2.2.1
theorem dX11_gain_20 : decode cX11_gain 20 = .ok (.bipush (-6), 2) := db319.2.2.2.2.2.2.2.2.2.1
theorem dX11_gain_22 : decode cX11_gain 22 = .ok (.if_icmp .ne 9, 3) := db319.2.2.2.2.2.2.2.2.2.2.1
theorem dX11_gain_31 : decode cX11_gain 31 = .ok (.aload_n 0, 1) := db319.2.2.2.2.2.2.2.2.2.2.2.1
theorem dX11_gain_32 : decode cX11_gain 32 = .ok (.iload_n 1, 1) := db319.2.2.2.2.2.2.2.2.2.2.2.2.1
theorem dX11_gain_33 : decode cX11_gain 33 = .ok (.aload_n 0, 1) := db319.2.2.2.2.2.2.2.2.2.2.2.2.2.1
theorem dX11_gain_34 : decode cX11_gain 34 = .ok (.getfield 61, 3) := db319.2.2.2.2.2.2.2.2.2.2.2.2.2.2.1
theorem dX11_gain_37 : decode cX11_gain 37 = .ok (.iload_n 1, 1) := db319.2.2.2.2.2.2.2.2.2.2.2.2.2.2.2.1
theorem dX11_gain_38 : decode cX11_gain 38 = .ok (.iaload, 1) := db319.2.2.2.2.2.2.2.2.2.2.2.2.2.2.2.2.1
theorem dX11_gain_39 : decode cX11_gain 39 = .ok (.iconst 0, 1) := db319.2.2.2.2.2.2.2.2.2.2.2.2.2.2.2.2.2.1
theorem dX11_gain_40 : decode cX11_gain 40 = .ok (.invokevirtual 309, 3) := db319.2.2.2.2.2.2.2.2.2.2.2.2.2.2.2.2.2.2.1
theorem dX11_gain_43 : decode cX11_gain 43 = .ok (.ireturn, 1) := db319.2.2.2.2.2.2.2.2.2.2.2.2.2.2.2.2.2.2.2.1
theorem dX11_gain_25 : decode cX11_gain 25 = .ok (.ldc_w 308, 3) := db319.2.2.2.2.2.2.2.2.2.2.2.2.2.2.2.2.2.2.2.2.1
theorem dX11_gain_28 : decode cX11_gain 28 = .ok (.goto 15, 3) := db319.2.2.2.2.2.2.2.2.2.2.2.2.2.2.2.2.2.2.2.2.2.1
theorem dX11_gain_13 : decode cX11_gain 13 = .ok (.ldc_w 307, 3) := db319.2.2.2.2.2.2.2.2.2.2.2.2.2.2.2.2.2.2.2.2.2.2.1
theorem dX11_gain_16 : decode cX11_gain 16 = .ok (.goto 27, 3) := db319.2.2.2.2.2.2.2.2.2.2.2.2.2.2.2.2.2.2.2.2.2.2.2
theorem db320 : (decode cX11_gainOf 0 = .ok (.aload_n 0, 1)) ∧ (decode cX11_gainOf 1 = .ok (.aload_n 0, 1)) ∧ (decode cX11_gainOf 2 = .ok (.iload_n 1, 1)) ∧ (decode cX11_gainOf 3 = .ok (.iload_n 2, 1)) ∧ (decode cX11_gainOf 4 = .ok (.iload_n 3, 1)) ∧ (decode cX11_gainOf 5 = .ok (.invokevirtual 296, 3)) ∧ (decode cX11_gainOf 8 = .ok (.invokevirtual 300, 3)) ∧ (decode cX11_gainOf 11 = .ok (.aload_n 0, 1)) ∧ (decode cX11_gainOf 12 = .ok (.getfield 9, 3)) ∧ (decode cX11_gainOf 15 = .ok (.iconst 3, 1)) ∧ (decode cX11_gainOf 16 = .ok (.iaload, 1)) ∧ (decode cX11_gainOf 17 = .ok (.iload_n 2, 1)) ∧ (decode cX11_gainOf 18 = .ok (.imul, 1)) ∧ (decode cX11_gainOf 19 = .ok (.isub, 1)) ∧ (decode cX11_gainOf 20 = .ok (.ireturn, 1)) := by decide +kernel
theorem dX11_gainOf_0 : decode cX11_gainOf 0 = .ok (.aload_n 0, 1) := db320.1
theorem dX11_gainOf_1 : decode cX11_gainOf 1 = .ok (.aload_n 0, 1) := db320.2.1
theorem dX11_gainOf_2 : decode cX11_gainOf 2 = .ok (.iload_n 1, 1) := db320.2.2.1
theorem dX11_gainOf_3 : decode cX11_gainOf 3 = .ok (.iload_n 2, 1) := db320.2.2.2.1
theorem dX11_gainOf_4 : decode cX11_gainOf 4 = .ok (.iload_n 3, 1) := db320.2.2.2.2.1
theorem dX11_gainOf_5 : decode cX11_gainOf 5 = .ok (.invokevirtual 296, 3) := db320.2.2.2.2.2.1
theorem dX11_gainOf_8 : decode cX11_gainOf 8 = .ok (.invokevirtual 300, 3) := db320.2.2.2.2.2.2.1
theorem dX11_gainOf_11 : decode cX11_gainOf 11 = .ok (.aload_n 0, 1) := db320.2.2.2.2.2.2.2.1
theorem dX11_gainOf_12 : decode cX11_gainOf 12 = .ok (.getfield 9, 3) := db320.2.2.2.2.2.2.2.2.1
theorem dX11_gainOf_15 : decode cX11_gainOf 15 = .ok (.iconst 3, 1) := db320.2.2.2.2.2.2.2.2.2.1
theorem dX11_gainOf_16 : decode cX11_gainOf 16 = .ok (.iaload, 1) := db320.2.2.2.2.2.2.2.2.2.2.1
theorem dX11_gainOf_17 : decode cX11_gainOf 17 = .ok (.iload_n 2, 1) := db320.2.2.2.2.2.2.2.2.2.2.2.1
theorem dX11_gainOf_18 : decode cX11_gainOf 18 = .ok (.imul, 1) := db320.2.2.2.2.2.2.2.2.2.2.2.2.1
theorem dX11_gainOf_19 : decode cX11_gainOf 19 = .ok (.isub, 1) := db320.2.2.2.2.2.2.2.2.2.2.2.2.2.1
theorem dX11_gainOf_20 : decode cX11_gainOf 20 = .ok (.ireturn, 1) := db320.2.2.2.2.2.2.2.2.2.2.2.2.2.2
theorem db321 : (decode cX11_goEvening 0 = .ok (.aload_n 0, 1)) ∧ (decode cX11_goEvening 1 = .ok (.lload_n 1, 1)) ∧ (decode cX11_goEvening 2 = .ok (.putfield 414, 3)) ∧ (decode cX11_goEvening 5 = .ok (.aload_n 0, 1)) ∧ (decode cX11_goEvening 6 = .ok (.iconst (-1), 1)) ∧ (decode cX11_goEvening 7 = .ok (.putfield 427, 3)) ∧ (decode cX11_goEvening 10 = .ok (.aload_n 0, 1)) ∧ (decode cX11_goEvening 11 = .ok (.aload_n 0, 1)) ∧ (decode cX11_goEvening 12 = .ok (.invokevirtual 430, 3)) ∧ (decode cX11_goEvening 15 = .ok (.putfield 433, 3)) ∧ (decode cX11_goEvening 18 = .ok (.iconst 0, 1)) ∧ (decode cX11_goEvening 19 = .ok (.istore 4, 2)) ∧ (decode cX11_goEvening 21 = .ok (.iload 4, 2)) ∧ (decode cX11_goEvening 23 = .ok (.aload_n 0, 1)) ∧ (decode cX11_goEvening 24 = .ok (.getfield 61, 3)) ∧ (decode cX11_goEvening 27 = .ok (.iload_n 3, 1)) ∧ (decode cX11_goEvening 28 = .ok (.iaload, 1)) ∧ (decode cX11_goEvening 29 = .ok (.if_icmp .ge 108, 3)) ∧ (decode cX11_goEvening 137 = .ok (.return_, 1)) ∧ (decode cX11_goEvening 32 = .ok (.aload_n 0, 1)) ∧ (decode cX11_goEvening 33 = .ok (.getfield 433, 3)) ∧ (decode cX11_goEvening 36 = .ok (.iconst (-1), 1)) ∧ (decode cX11_goEvening 37 = .ok (.if_icmp .eq 100, 3)) ∧ (decode cX11_goEvening 40 = .ok (.aload_n 0, 1)) := by decide +kernel
theorem dX11_goEvening_0 : decode cX11_goEvening 0 = .ok (.aload_n 0, 1) := db321.1
theorem dX11_goEvening_1 : decode cX11_goEvening 1 = .ok (.lload_n 1, 1) := db321.2.1
theorem dX11_goEvening_2 : decode cX11_goEvening 2 = .ok (.putfield 414, 3) := db321.2.2.1
theorem dX11_goEvening_5 : decode cX11_goEvening 5 = .ok (.aload_n 0, 1) := db321.2.2.2.1
theorem dX11_goEvening_6 : decode cX11_goEvening 6 = .ok (.iconst (-1), 1) := db321.2.2.2.2.1
theorem dX11_goEvening_7 : decode cX11_goEvening 7 = .ok (.putfield 427, 3) := db321.2.2.2.2.2.1
theorem dX11_goEvening_10 : decode cX11_goEvening 10 = .ok (.aload_n 0, 1) := db321.2.2.2.2.2.2.1
theorem dX11_goEvening_11 : decode cX11_goEvening 11 = .ok (.aload_n 0, 1) := db321.2.2.2.2.2.2.2.1
theorem dX11_goEvening_12 : decode cX11_goEvening 12 = .ok (.invokevirtual 430, 3) := db321.2.2.2.2.2.2.2.2.1
theorem dX11_goEvening_15 : decode cX11_goEvening 15 = .ok (.putfield 433, 3) := db321.2.2.2.2.2.2.2.2.2.1
theorem dX11_goEvening_18 : decode cX11_goEvening 18 = .ok (.iconst 0, 1) := db321.2.2.2.2.2.2.2.2.2.2.1
theorem dX11_goEvening_19 : decode cX11_goEvening 19 = .ok (.istore 4, 2) := db321.2.2.2.2.2.2.2.2.2.2.2.1
theorem dX11_goEvening_21 : decode cX11_goEvening 21 = .ok (.iload 4, 2) := db321.2.2.2.2.2.2.2.2.2.2.2.2.1
theorem dX11_goEvening_23 : decode cX11_goEvening 23 = .ok (.aload_n 0, 1) := db321.2.2.2.2.2.2.2.2.2.2.2.2.2.1
theorem dX11_goEvening_24 : decode cX11_goEvening 24 = .ok (.getfield 61, 3) := db321.2.2.2.2.2.2.2.2.2.2.2.2.2.2.1
theorem dX11_goEvening_27 : decode cX11_goEvening 27 = .ok (.iload_n 3, 1) := db321.2.2.2.2.2.2.2.2.2.2.2.2.2.2.2.1
theorem dX11_goEvening_28 : decode cX11_goEvening 28 = .ok (.iaload, 1) := db321.2.2.2.2.2.2.2.2.2.2.2.2.2.2.2.2.1
theorem dX11_goEvening_29 : decode cX11_goEvening 29 = .ok (.if_icmp .ge 108, 3) := db321.2.2.2.2.2.2.2.2.2.2.2.2.2.2.2.2.2.1
theorem dX11_goEvening_137 : decode cX11_goEvening 137 = .ok (.return_, 1) := db321.2.2.2.2.2.2.2.2.2.2.2.2.2.2.2.2.2.2.1
theorem dX11_goEvening_32 : decode cX11_goEvening 32 = .ok (.aload_n 0, 1) := db321.2.2.2.2.2.2.2.2.2.2.2.2.2.2.2.2.2.2.2.1
theorem dX11_goEvening_33 : decode cX11_goEvening 33 = .ok (.getfield 433, 3) := db321.2.2.2.2.2.2.2.2.2.2.2.2.2.2.2.2.2.2.2.2.1
theorem dX11_goEvening_36 : decode cX11_goEvening 36 = .ok (.iconst (-1), 1) := db321.2.2.2.2.2.2.2.2.2.2.2.2.2.2.2.2.2.2.2.2.2.1
theorem dX11_goEvening_37 : decode cX11_goEvening 37 = .ok (.if_icmp .eq 100, 3) := db321.2.2.2.2.2.2.2.2.2.2.2.2.2.2.2.2.2.2.2.2.2.2.1
theorem dX11_goEvening_40 : decode cX11_goEvening 40 = .ok (.aload_n 0, 1) := db321.2.2.2.2.2.2.2.2.2.2.2.2.2.2.2.2.2.2.2.2.2.2.2
theorem db322 : (decode cX11_goEvening 41 = .ok (.iload_n 3, 1)) ∧ (decode cX11_goEvening 42 = .ok (.iload 4, 2)) ∧ (decode cX11_goEvening 44 = .ok (.invokevirtual 293, 3)) ∧ (decode cX11_goEvening 47 = .ok (.aload_n 0, 1)) ∧ (decode cX11_goEvening 48 = .ok (.getfield 433, 3)) ∧ (decode cX11_goEvening 79 = .ok (.aload_n 0, 1)) ∧ (decode cX11_goEvening 80 = .ok (.aload_n 0, 1)) ∧ (decode cX11_goEvening 81 = .ok (.getfield 433, 3)) ∧ (decode cX11_goEvening 84 = .ok (.iconst 3, 1)) ∧ (decode cX11_goEvening 85 = .ok (.invokevirtual 227, 3)) ∧ (decode cX11_goEvening 88 = .ok (.invokestatic 255, 3)) ∧ (decode cX11_goEvening 91 = .ok (.istore 5, 2)) ∧ (decode cX11_goEvening 93 = .ok (.iload 5, 2)) ∧ (decode cX11_goEvening 131 = .ok (.iinc 4 1, 3)) ∧ (decode cX11_goEvening 134 = .ok (.goto (-113), 3)) ∧ (decode cX11_goEvening 95 = .ok (.ifCond .le 36, 3)) ∧ (decode cX11_goEvening 98 = .ok (.aload_n 0, 1)) ∧ (decode cX11_goEvening 99 = .ok (.bipush 100, 2)) ∧ (decode cX11_goEvening 101 = .ok (.invokevirtual 424, 3)) ∧ (decode cX11_goEvening 104 = .ok (.aload_n 0, 1)) ∧ (decode cX11_goEvening 105 = .ok (.getfield 9, 3)) ∧ (decode cX11_goEvening 108 = .ok (.iconst 0, 1)) ∧ (decode cX11_goEvening 109 = .ok (.iaload, 1)) ∧ (decode cX11_goEvening 110 = .ok (.if_icmp .ge 21, 3)) := by decide +kernel
theorem dX11_goEvening_41 : decode cX11_goEvening 41 = .ok (.iload_n 3, 1) := db322.1
theorem dX11_goEvening_42 : decode cX11_goEvening 42 = .ok (.iload 4, 2) := db322.2.1
theorem dX11_goEvening_44 : decode cX11_goEvening 44 = .ok (.invokevirtual 293, 3) := db322.2.2.1
theorem dX11_goEvening_47 : decode cX11_goEvening 47 = .ok (.aload_n 0, 1) := db322.2.2.2.1
theorem dX11_goEvening_48 : decode cX11_goEvening 48 = .ok (.getfield 433, 3) := db322.2.2.2.2.1
theorem dX11_goEvening_79 : decode cX11_goEvening 79 = .ok (.aload_n 0, 1) := db322.2.2.2.2.2.1
theorem dX11_goEvening_80 : decode cX11_goEvening 80 = .ok (.aload_n 0, 1) := db322.2.2.2.2.2.2.1
theorem dX11_goEvening_81 : decode cX11_goEvening 81 = .ok (.getfield 433, 3) := db322.2.2.2.2.2.2.2.1
theorem dX11_goEvening_84 : decode cX11_goEvening 84 = .ok (.iconst 3, 1) := db322.2.2.2.2.2.2.2.2.1
theorem dX11_goEvening_85 : decode cX11_goEvening 85 = .ok (.invokevirtual 227, 3) := db322.2.2.2.2.2.2.2.2.2.1
theorem dX11_goEvening_88 : decode cX11_goEvening 88 = .ok (.invokestatic 255, 3) := db322.2.2.2.2.2.2.2.2.2.2.1
theorem dX11_goEvening_91 : decode cX11_goEvening 91 = .ok (.istore 5, 2) := db322.2.2.2.2.2.2.2.2.2.2.2.1
theorem dX11_goEvening_93 : decode cX11_goEvening 93 = .ok (.iload 5, 2) := db322.2.2.2.2.2.2.2.2.2.2.2.2.1
theorem dX11_goEvening_131 : decode cX11_goEvening 131 = .ok (.iinc 4 1, 3) := db322.2.2.2.2.2.2.2.2.2.2.2.2.2.1
theorem dX11_goEvening_134 : decode cX11_goEvening 134 = .ok (.goto (-113), 3) := db322.2.2.2.2.2.2.2.2.2.2.2.2.2.2.1
theorem dX11_goEvening_95 : decode cX11_goEvening 95 = .ok (.ifCond .le 36, 3) := db322.2.2.2.2.2.2.2.2.2.2.2.2.2.2.2.1
theorem dX11_goEvening_98 : decode cX11_goEvening 98 = .ok (.aload_n 0, 1) := db322.2.2.2.2.2.2.2.2.2.2.2.2.2.2.2.2.1
theorem dX11_goEvening_99 : decode cX11_goEvening 99 = .ok (.bipush 100, 2) := db322.2.2.2.2.2.2.2.2.2.2.2.2.2.2.2.2.2.1
theorem dX11_goEvening_101 : decode cX11_goEvening 101 = .ok (.invokevirtual 424, 3) := db322.2.2.2.2.2.2.2.2.2.2.2.2.2.2.2.2.2.2.1
theorem dX11_goEvening_104 : decode cX11_goEvening 104 = .ok (.aload_n 0, 1) := db322.2.2.2.2.2.2.2.2.2.2.2.2.2.2.2.2.2.2.2.1
theorem dX11_goEvening_105 : decode cX11_goEvening 105 = .ok (.getfield 9, 3) := db322.2.2.2.2.2.2.2.2.2.2.2.2.2.2.2.2.2.2.2.2.1
theorem dX11_goEvening_108 : decode cX11_goEvening 108 = .ok (.iconst 0, 1) := db322.2.2.2.2.2.2.2.2.2.2.2.2.2.2.2.2.2.2.2.2.2.1
theorem dX11_goEvening_109 : decode cX11_goEvening 109 = .ok (.iaload, 1) := db322.2.2.2.2.2.2.2.2.2.2.2.2.2.2.2.2.2.2.2.2.2.2.1
theorem dX11_goEvening_110 : decode cX11_goEvening 110 = .ok (.if_icmp .ge 21, 3) := db322.2.2.2.2.2.2.2.2.2.2.2.2.2.2.2.2.2.2.2.2.2.2.2
theorem db323 : (decode cX11_goEvening 113 = .ok (.aload_n 0, 1)) ∧ (decode cX11_goEvening 114 = .ok (.aload_n 0, 1)) ∧ (decode cX11_goEvening 115 = .ok (.aload_n 0, 1)) ∧ (decode cX11_goEvening 116 = .ok (.getfield 433, 3)) ∧ (decode cX11_goEvening 119 = .ok (.aload_n 0, 1)) ∧ (decode cX11_goEvening 120 = .ok (.iload 5, 2)) ∧ (decode cX11_goEvening 122 = .ok (.invokevirtual 424, 3)) ∧ (decode cX11_goEvening 125 = .ok (.invokevirtual 436, 3)) ∧ (decode cX11_goEvening 128 = .ok (.putfield 433, 3)) ∧ (decode cX11_goEvening 51 = .ok (.if_icmp .ne 28, 3)) ∧ (decode cX11_goEvening 54 = .ok (.aload_n 0, 1)) ∧ (decode cX11_goEvening 55 = .ok (.bipush 100, 2)) ∧ (decode cX11_goEvening 57 = .ok (.invokevirtual 424, 3)) ∧ (decode cX11_goEvening 60 = .ok (.aload_n 0, 1)) ∧ (decode cX11_goEvening 61 = .ok (.aload_n 0, 1)) ∧ (decode cX11_goEvening 62 = .ok (.getfield 433, 3)) ∧ (decode cX11_goEvening 65 = .ok (.iconst 1, 1)) ∧ (decode cX11_goEvening 66 = .ok (.invokevirtual 227, 3)) ∧ (decode cX11_goEvening 69 = .ok (.if_icmp .ge 10, 3)) ∧ (decode cX11_goEvening 72 = .ok (.aload_n 0, 1)) ∧ (decode cX11_goEvening 73 = .ok (.iload 4, 2)) ∧ (decode cX11_goEvening 75 = .ok (.putfield 427, 3)) ∧ (decode cX11_goEvening 78 = .ok (.return_, 1)) := by decide +kernel
theorem dX11_goEvening_113 : decode cX11_goEvening 113 = .ok (.aload_n 0, 1) := db323.1
theorem dX11_goEvening_114 : decode cX11_goEvening 114 = .ok (.aload_n 0, 1) := db323.2.1
theorem dX11_goEvening_115 : decode cX11_goEvening 115 = .ok (.aload_n 0, 1) := db323.2.2.1
theorem dX11_goEvening_116 : decode cX11_goEvening 116 = .ok (.getfield 433, 3) := db323.2.2.2.1
theorem dX11_goEvening_119 : decode cX11_goEvening 119 = .ok (.aload_n 0, 1) := db323.2.2.2.2.1
theorem dX11_goEvening_120 : decode cX11_goEvening 120 = .ok (.iload 5, 2) := db323.2.2.2.2.2.1
theorem dX11_goEvening_122 : decode cX11_goEvening 122 = .ok (.invokevirtual 424, 3) := db323.2.2.2.2.2.2.1
theorem dX11_goEvening_125 : decode cX11_goEvening 125 = .ok (.invokevirtual 436, 3) := db323.2.2.2.2.2.2.2.1
theorem dX11_goEvening_128 : decode cX11_goEvening 128 = .ok (.putfield 433, 3) := db323.2.2.2.2.2.2.2.2.1
theorem dX11_goEvening_51 : decode cX11_goEvening 51 = .ok (.if_icmp .ne 28, 3) := db323.2.2.2.2.2.2.2.2.2.1
theorem dX11_goEvening_54 : decode cX11_goEvening 54 = .ok (.aload_n 0, 1) := db323.2.2.2.2.2.2.2.2.2.2.1
theorem dX11_goEvening_55 : decode cX11_goEvening 55 = .ok (.bipush 100, 2) := db323.2.2.2.2.2.2.2.2.2.2.2.1
theorem dX11_goEvening_57 : decode cX11_goEvening 57 = .ok (.invokevirtual 424, 3) := db323.2.2.2.2.2.2.2.2.2.2.2.2.1
theorem dX11_goEvening_60 : decode cX11_goEvening 60 = .ok (.aload_n 0, 1) := db323.2.2.2.2.2.2.2.2.2.2.2.2.2.1
theorem dX11_goEvening_61 : decode cX11_goEvening 61 = .ok (.aload_n 0, 1) := db323.2.2.2.2.2.2.2.2.2.2.2.2.2.2.1
theorem dX11_goEvening_62 : decode cX11_goEvening 62 = .ok (.getfield 433, 3) := db323.2.2.2.2.2.2.2.2.2.2.2.2.2.2.2.1
theorem dX11_goEvening_65 : decode cX11_goEvening 65 = .ok (.iconst 1, 1) := db323.2.2.2.2.2.2.2.2.2.2.2.2.2.2.2.2.1
theorem dX11_goEvening_66 : decode cX11_goEvening 66 = .ok (.invokevirtual 227, 3) := db323.2.2.2.2.2.2.2.2.2.2.2.2.2.2.2.2.2.1
theorem dX11_goEvening_69 : decode cX11_goEvening 69 = .ok (.if_icmp .ge 10, 3) := db323.2.2.2.2.2.2.2.2.2.2.2.2.2.2.2.2.2.2.1
theorem dX11_goEvening_72 : decode cX11_goEvening 72 = .ok (.aload_n 0, 1) := db323.2.2.2.2.2.2.2.2.2.2.2.2.2.2.2.2.2.2.2.1
theorem dX11_goEvening_73 : decode cX11_goEvening 73 = .ok (.iload 4, 2) := db323.2.2.2.2.2.2.2.2.2.2.2.2.2.2.2.2.2.2.2.2.1
theorem dX11_goEvening_75 : decode cX11_goEvening 75 = .ok (.putfield 427, 3) := db323.2.2.2.2.2.2.2.2.2.2.2.2.2.2.2.2.2.2.2.2.2.1
theorem dX11_goEvening_78 : decode cX11_goEvening 78 = .ok (.return_, 1) := db323.2.2.2.2.2.2.2.2.2.2.2.2.2.2.2.2.2.2.2.2.2.2
theorem db324 : (decode cX11_goMinute 0 = .ok (.iconst 0, 1)) ∧ (decode cX11_goMinute 1 = .ok (.istore_n 2, 1)) ∧ (decode cX11_goMinute 2 = .ok (.iload_n 2, 1)) ∧ (decode cX11_goMinute 3 = .ok (.bipush 7, 2)) ∧ (decode cX11_goMinute 5 = .ok (.if_icmp .ge 16, 3)) ∧ (decode cX11_goMinute 21 = .ok (.iconst 0, 1)) ∧ (decode cX11_goMinute 22 = .ok (.istore_n 2, 1)) ∧ (decode cX11_goMinute 23 = .ok (.iload_n 2, 1)) ∧ (decode cX11_goMinute 24 = .ok (.aload_n 0, 1)) ∧ (decode cX11_goMinute 25 = .ok (.getfield 9, 3)) ∧ (decode cX11_goMinute 28 = .ok (.iconst 4, 1)) ∧ (decode cX11_goMinute 29 = .ok (.iaload, 1)) ∧ (decode cX11_goMinute 30 = .ok (.if_icmp .ge 108, 3)) ∧ (decode cX11_goMinute 138 = .ok (.iconst 0, 1)) ∧ (decode cX11_goMinute 139 = .ok (.istore_n 2, 1)) ∧ (decode cX11_goMinute 140 = .ok (.iload_n 2, 1)) ∧ (decode cX11_goMinute 141 = .ok (.bipush 7, 2)) ∧ (decode cX11_goMinute 143 = .ok (.if_icmp .ge 24, 3)) ∧ (decode cX11_goMinute 167 = .ok (.return_, 1)) ∧ (decode cX11_goMinute 146 = .ok (.aload_n 0, 1)) ∧ (decode cX11_goMinute 147 = .ok (.getfield 34, 3)) ∧ (decode cX11_goMinute 150 = .ok (.iload_n 2, 1)) ∧ (decode cX11_goMinute 151 = .ok (.dup2, 1)) ∧ (decode cX11_goMinute 152 = .ok (.iaload, 1)) := by decide +kernel
theorem dX11_goMinute_0 : decode cX11_goMinute 0 = .ok (.iconst 0, 1) := db324.1
theorem dX11_goMinute_1 : decode cX11_goMinute 1 = .ok (.istore_n 2, 1) := db324.2.1
theorem dX11_goMinute_2 : decode cX11_goMinute 2 = .ok (.iload_n 2, 1) := db324.2.2.1
theorem dX11_goMinute_3 : decode cX11_goMinute 3 = .ok (.bipush 7, 2) := db324.2.2.2.1
theorem dX11_goMinute_5 : decode cX11_goMinute 5 = .ok (.if_icmp .ge 16, 3) := db324.2.2.2.2.1
theorem dX11_goMinute_21 : decode cX11_goMinute 21 = .ok (.iconst 0, 1) := db324.2.2.2.2.2.1
theorem dX11_goMinute_22 : decode cX11_goMinute 22 = .ok (.istore_n 2, 1) := db324.2.2.2.2.2.2.1
theorem dX11_goMinute_23 : decode cX11_goMinute 23 = .ok (.iload_n 2, 1) := db324.2.2.2.2.2.2.2.1
theorem dX11_goMinute_24 : decode cX11_goMinute 24 = .ok (.aload_n 0, 1) := db324.2.2.2.2.2.2.2.2.1
theorem dX11_goMinute_25 : decode cX11_goMinute 25 = .ok (.getfield 9, 3) := db324.2.2.2.2.2.2.2.2.2.1
theorem dX11_goMinute_28 : decode cX11_goMinute 28 = .ok (.iconst 4, 1) := db324.2.2.2.2.2.2.2.2.2.2.1
theorem dX11_goMinute_29 : decode cX11_goMinute 29 = .ok (.iaload, 1) := db324.2.2.2.2.2.2.2.2.2.2.2.1
theorem dX11_goMinute_30 : decode cX11_goMinute 30 = .ok (.if_icmp .ge 108, 3) := db324.2.2.2.2.2.2.2.2.2.2.2.2.1
theorem dX11_goMinute_138 : decode cX11_goMinute 138 = .ok (.iconst 0, 1) := db324.2.2.2.2.2.2.2.2.2.2.2.2.2.1
theorem dX11_goMinute_139 : decode cX11_goMinute 139 = .ok (.istore_n 2, 1) := db324.2.2.2.2.2.2.2.2.2.2.2.2.2.2.1
theorem dX11_goMinute_140 : decode cX11_goMinute 140 = .ok (.iload_n 2, 1) := db324.2.2.2.2.2.2.2.2.2.2.2.2.2.2.2.1
theorem dX11_goMinute_141 : decode cX11_goMinute 141 = .ok (.bipush 7, 2) := db324.2.2.2.2.2.2.2.2.2.2.2.2.2.2.2.2.1
theorem dX11_goMinute_143 : decode cX11_goMinute 143 = .ok (.if_icmp .ge 24, 3) := db324.2.2.2.2.2.2.2.2.2.2.2.2.2.2.2.2.2.1
theorem dX11_goMinute_167 : decode cX11_goMinute 167 = .ok (.return_, 1) := db324.2.2.2.2.2.2.2.2.2.2.2.2.2.2.2.2.2.2.1
theorem dX11_goMinute_146 : decode cX11_goMinute 146 = .ok (.aload_n 0, 1) := db324.2.2.2.2.2.2.2.2.2.2.2.2.2.2.2.2.2.2.2.1
theorem dX11_goMinute_147 : decode cX11_goMinute 147 = .ok (.getfield 34, 3) := db324.2.2.2.2.2.2.2.2.2.2.2.2.2.2.2.2.2.2.2.2.1
theorem dX11_goMinute_150 : decode cX11_goMinute 150 = .ok (.iload_n 2, 1) := db324.2.2.2.2.2.2.2.2.2.2.2.2.2.2.2.2.2.2.2.2.2.1
theorem dX11_goMinute_151 : decode cX11_goMinute 151 = .ok (.dup2, 1) := db324.2.2.2.2.2.2.2.2.2.2.2.2.2.2.2.2.2.2.2.2.2.2.1
theorem dX11_goMinute_152 : decode cX11_goMinute 152 = .ok (.iaload, 1) := db324.2.2.2.2.2.2.2.2.2.2.2.2.2.2.2.2.2.2.2.2.2.2.2
theorem db325 : (decode cX11_goMinute 153 = .ok (.aload_n 0, 1)) ∧ (decode cX11_goMinute 154 = .ok (.getfield 37, 3)) ∧ (decode cX11_goMinute 157 = .ok (.iload_n 2, 1)) ∧ (decode cX11_goMinute 158 = .ok (.iaload, 1)) ∧ (decode cX11_goMinute 159 = .ok (.iadd, 1)) ∧ (decode cX11_goMinute 160 = .ok (.iastore, 1)) ∧ (decode cX11_goMinute 161 = .ok (.iinc 2 1, 3)) ∧ (decode cX11_goMinute 164 = .ok (.goto (-24), 3)) ∧ (decode cX11_goMinute 33 = .ok (.aload_n 0, 1)) ∧ (decode cX11_goMinute 34 = .ok (.iload_n 2, 1)) ∧ (decode cX11_goMinute 35 = .ok (.iconst 3, 1)) ∧ (decode cX11_goMinute 36 = .ok (.invokevirtual 227, 3)) ∧ (decode cX11_goMinute 39 = .ok (.invokestatic 255, 3)) ∧ (decode cX11_goMinute 42 = .ok (.istore_n 3, 1)) ∧ (decode cX11_goMinute 43 = .ok (.iload_n 3, 1)) ∧ (decode cX11_goMinute 132 = .ok (.iinc 2 1, 3)) ∧ (decode cX11_goMinute 135 = .ok (.goto (-112), 3)) ∧ (decode cX11_goMinute 44 = .ok (.ifCond .eq 88, 3)) ∧ (decode cX11_goMinute 47 = .ok (.iload_n 2, 1)) ∧ (decode cX11_goMinute 48 = .ok (.iload_n 1, 1)) ∧ (decode cX11_goMinute 49 = .ok (.if_icmp .ne 6, 3)) ∧ (decode cX11_goMinute 55 = .ok (.aload_n 0, 1)) ∧ (decode cX11_goMinute 56 = .ok (.getfield 34, 3)) ∧ (decode cX11_goMinute 59 = .ok (.iload_n 2, 1)) := by decide +kernel
theorem dX11_goMinute_153 : decode cX11_goMinute 153 = .ok (.aload_n 0, 1) := db325.1
theorem dX11_goMinute_154 : decode cX11_goMinute 154 = .ok (.getfield 37, 3) := db325.2.1
theorem dX11_goMinute_157 : decode cX11_goMinute 157 = .ok (.iload_n 2, 1) := db325.2.2.1
theorem dX11_goMinute_158 : decode cX11_goMinute 158 = .ok (.iaload, 1) := db325.2.2.2.1
theorem dX11_goMinute_159 : decode cX11_goMinute 159 = .ok (.iadd, 1) := db325.2.2.2.2.1
theorem dX11_goMinute_160 : decode cX11_goMinute 160 = .ok (.iastore, 1) := db325.2.2.2.2.2.1
theorem dX11_goMinute_161 : decode cX11_goMinute 161 = .ok (.iinc 2 1, 3) := db325.2.2.2.2.2.2.1
theorem dX11_goMinute_164 : decode cX11_goMinute 164 = .ok (.goto (-24), 3) := db325.2.2.2.2.2.2.2.1
theorem dX11_goMinute_33 : decode cX11_goMinute 33 = .ok (.aload_n 0, 1) := db325.2.2.2.2.2.2.2.2.1
theorem dX11_goMinute_34 : decode cX11_goMinute 34 = .ok (.iload_n 2, 1) := db325.2.2.2.2.2.2.2.2.2.1
theorem dX11_goMinute_35 : decode cX11_goMinute 35 = .ok (.iconst 3, 1) := db325.2.2.2.2.2.2.2.2.2.2.1
theorem dX11_goMinute_36 : decode cX11_goMinute 36 = .ok (.invokevirtual 227, 3) := db325.2.2.2.2.2.2.2.2.2.2.2.1
theorem dX11_goMinute_39 : decode cX11_goMinute 39 = .ok (.invokestatic 255, 3) := db325.2.2.2.2.2.2.2.2.2.2.2.2.1
theorem dX11_goMinute_42 : decode cX11_goMinute 42 = .ok (.istore_n 3, 1) := db325.2.2.2.2.2.2.2.2.2.2.2.2.2.1
theorem dX11_goMinute_43 : decode cX11_goMinute 43 = .ok (.iload_n 3, 1) := db325.2.2.2.2.2.2.2.2.2.2.2.2.2.2.1
theorem dX11_goMinute_132 : decode cX11_goMinute 132 = .ok (.iinc 2 1, 3) := db325.2.2.2.2.2.2.2.2.2.2.2.2.2.2.2.1
theorem dX11_goMinute_135 : decode cX11_goMinute 135 = .ok (.goto (-112), 3) := db325.2.2.2.2.2.2.2.2.2.2.2.2.2.2.2.2.1
theorem dX11_goMinute_44 : decode cX11_goMinute 44 = .ok (.ifCond .eq 88, 3) := db325.2.2.2.2.2.2.2.2.2.2.2.2.2.2.2.2.2.1
theorem dX11_goMinute_47 : decode cX11_goMinute 47 = .ok (.iload_n 2, 1) := db325.2.2.2.2.2.2.2.2.2.2.2.2.2.2.2.2.2.2.1
theorem dX11_goMinute_48 : decode cX11_goMinute 48 = .ok (.iload_n 1, 1) := db325.2.2.2.2.2.2.2.2.2.2.2.2.2.2.2.2.2.2.2.1
theorem dX11_goMinute_49 : decode cX11_goMinute 49 = .ok (.if_icmp .ne 6, 3) := db325.2.2.2.2.2.2.2.2.2.2.2.2.2.2.2.2.2.2.2.2.1
theorem dX11_goMinute_55 : decode cX11_goMinute 55 = .ok (.aload_n 0, 1) := db325.2.2.2.2.2.2.2.2.2.2.2.2.2.2.2.2.2.2.2.2.2.1
theorem dX11_goMinute_56 : decode cX11_goMinute 56 = .ok (.getfield 34, 3) := db325.2.2.2.2.2.2.2.2.2.2.2.2.2.2.2.2.2.2.2.2.2.2.1
theorem dX11_goMinute_59 : decode cX11_goMinute 59 = .ok (.iload_n 2, 1) := db325.2.2.2.2.2.2.2.2.2.2.2.2.2.2.2.2.2.2.2.2.2.2.2
theorem db326 : (decode cX11_goMinute 60 = .ok (.iaload, 1)) ∧ (decode cX11_goMinute 61 = .ok (.aload_n 0, 1)) ∧ (decode cX11_goMinute 62 = .ok (.getfield 9, 3)) ∧ (decode cX11_goMinute 65 = .ok (.iconst 0, 1)) ∧ (decode cX11_goMinute 66 = .ok (.iaload, 1)) ∧ (decode cX11_goMinute 67 = .ok (.imul, 1)) ∧ (decode cX11_goMinute 68 = .ok (.bipush 100, 2)) ∧ (decode cX11_goMinute 70 = .ok (.idiv, 1)) ∧ (decode cX11_goMinute 71 = .ok (.iload_n 3, 1)) ∧ (decode cX11_goMinute 72 = .ok (.idiv, 1)) ∧ (decode cX11_goMinute 73 = .ok (.istore 4, 2)) ∧ (decode cX11_goMinute 75 = .ok (.aload_n 0, 1)) ∧ (decode cX11_goMinute 76 = .ok (.getfield 37, 3)) ∧ (decode cX11_goMinute 79 = .ok (.iload_n 2, 1)) ∧ (decode cX11_goMinute 80 = .ok (.dup2, 1)) ∧ (decode cX11_goMinute 81 = .ok (.iaload, 1)) ∧ (decode cX11_goMinute 82 = .ok (.iload 4, 2)) ∧ (decode cX11_goMinute 84 = .ok (.iload_n 3, 1)) ∧ (decode cX11_goMinute 85 = .ok (.imul, 1)) ∧ (decode cX11_goMinute 86 = .ok (.isub, 1)) ∧ (decode cX11_goMinute 87 = .ok (.iastore, 1)) ∧ (decode cX11_goMinute 88 = .ok (.iconst 0, 1)) ∧ (decode cX11_goMinute 89 = .ok (.istore 5, 2)) ∧ (decode cX11_goMinute 91 = .ok (.iload 5, 2)) := by decide +kernel
theorem dX11_goMinute_60 : decode cX11_goMinute 60 = .ok (.iaload, 1) := db326.1
theorem dX11_goMinute_61 : decode cX11_goMinute 61 = .ok (.aload_n 0, 1) := db326.2.1
theorem dX11_goMinute_62 : decode cX11_goMinute 62 = .ok (.getfield 9, 3) := db326.2.2.1
theorem dX11_goMinute_65 : decode cX11_goMinute 65 = .ok (.iconst 0, 1) := db326.2.2.2.1
theorem dX11_goMinute_66 : decode cX11_goMinute 66 = .ok (.iaload, 1) := db326.2.2.2.2.1
theorem dX11_goMinute_67 : decode cX11_goMinute 67 = .ok (.imul, 1) := db326.2.2.2.2.2.1
theorem dX11_goMinute_68 : decode cX11_goMinute 68 = .ok (.bipush 100, 2) := db326.2.2.2.2.2.2.1
theorem dX11_goMinute_70 : decode cX11_goMinute 70 = .ok (.idiv, 1) := db326.2.2.2.2.2.2.2.1
theorem dX11_goMinute_71 : decode cX11_goMinute 71 = .ok (.iload_n 3, 1) := db326.2.2.2.2.2.2.2.2.1
theorem dX11_goMinute_72 : decode cX11_goMinute 72 = .ok (.idiv, 1) := db326.2.2.2.2.2.2.2.2.2.1
theorem dX11_goMinute_73 : decode cX11_goMinute 73 = .ok (.istore 4, 2) := db326.2.2.2.2.2.2.2.2.2.2.1
theorem dX11_goMinute_75 : decode cX11_goMinute 75 = .ok (.aload_n 0, 1) := db326.2.2.2.2.2.2.2.2.2.2.2.1
theorem dX11_goMinute_76 : decode cX11_goMinute 76 = .ok (.getfield 37, 3) := db326.2.2.2.2.2.2.2.2.2.2.2.2.1
theorem dX11_goMinute_79 : decode cX11_goMinute 79 = .ok (.iload_n 2, 1) := db326.2.2.2.2.2.2.2.2.2.2.2.2.2.1
theorem dX11_goMinute_80 : decode cX11_goMinute 80 = .ok (.dup2, 1) := db326.2.2.2.2.2.2.2.2.2.2.2.2.2.2.1
theorem dX11_goMinute_81 : decode cX11_goMinute 81 = .ok (.iaload, 1) := db326.2.2.2.2.2.2.2.2.2.2.2.2.2.2.2.1
theorem dX11_goMinute_82 : decode cX11_goMinute 82 = .ok (.iload 4, 2) := db326.2.2.2.2.2.2.2.2.2.2.2.2.2.2.2.2.1
theorem dX11_goMinute_84 : decode cX11_goMinute 84 = .ok (.iload_n 3, 1) := db326.2.2.2.2.2.2.2.2.2.2.2.2.2.2.2.2.2.1
theorem dX11_goMinute_85 : decode cX11_goMinute 85 = .ok (.imul, 1) := db326.2.2.2.2.2.2.2.2.2.2.2.2.2.2.2.2.2.2.1
theorem dX11_goMinute_86 : decode cX11_goMinute 86 = .ok (.isub, 1) := db326.2.2.2.2.2.2.2.2.2.2.2.2.2.2.2.2.2.2.2.1
theorem dX11_goMinute_87 : decode cX11_goMinute 87 = .ok (.iastore, 1) := db326.2.2.2.2.2.2.2.2.2.2.2.2.2.2.2.2.2.2.2.2.1
theorem dX11_goMinute_88 : decode cX11_goMinute 88 = .ok (.iconst 0, 1) := db326.2.2.2.2.2.2.2.2.2.2.2.2.2.2.2.2.2.2.2.2.2.1
theorem dX11_goMinute_89 : decode cX11_goMinute 89 = .ok (.istore 5, 2) := db326.2.2.2.2.2.2.2.2.2.2.2.2.2.2.2.2.2.2.2.2.2.2.1
theorem dX11_goMinute_91 : decode cX11_goMinute 91 = .ok (.iload 5, 2) := db326.2.2.2.2.2.2.2.2.2.2.2.2.2.2.2.2.2.2.2.2.2.2.2
theorem db327 : (decode cX11_goMinute 93 = .ok (.aload_n 0, 1)) ∧ (decode cX11_goMinute 94 = .ok (.getfield 9, 3)) ∧ (decode cX11_goMinute 97 = .ok (.iconst 4, 1)) ∧ (decode cX11_goMinute 98 = .ok (.iaload, 1)) ∧ (decode cX11_goMinute 99 = .ok (.if_icmp .ge 33, 3)) ∧ (decode cX11_goMinute 102 = .ok (.aload_n 0, 1)) ∧ (decode cX11_goMinute 103 = .ok (.getfield 37, 3)) ∧ (decode cX11_goMinute 106 = .ok (.iload 5, 2)) ∧ (decode cX11_goMinute 108 = .ok (.dup2, 1)) ∧ (decode cX11_goMinute 109 = .ok (.iaload, 1)) ∧ (decode cX11_goMinute 110 = .ok (.aload_n 0, 1)) ∧ (decode cX11_goMinute 111 = .ok (.iload_n 2, 1)) ∧ (decode cX11_goMinute 112 = .ok (.iconst 3, 1)) ∧ (decode cX11_goMinute 113 = .ok (.invokevirtual 227, 3)) ∧ (decode cX11_goMinute 116 = .ok (.iload 5, 2)) ∧ (decode cX11_goMinute 118 = .ok (.invokestatic 258, 3)) ∧ (decode cX11_goMinute 121 = .ok (.iload 4, 2)) ∧ (decode cX11_goMinute 123 = .ok (.imul, 1)) ∧ (decode cX11_goMinute 124 = .ok (.iadd, 1)) ∧ (decode cX11_goMinute 125 = .ok (.iastore, 1)) ∧ (decode cX11_goMinute 126 = .ok (.iinc 5 1, 3)) ∧ (decode cX11_goMinute 129 = .ok (.goto (-38), 3)) ∧ (decode cX11_goMinute 52 = .ok (.goto 80, 3)) ∧ (decode cX11_goMinute 8 = .ok (.aload_n 0, 1)) := by decide +kernel
theorem dX11_goMinute_93 : decode cX11_goMinute 93 = .ok (.aload_n 0, 1) := db327.1
theorem dX11_goMinute_94 : decode cX11_goMinute 94 = .ok (.getfield 9, 3) := db327.2.1
theorem dX11_goMinute_97 : decode cX11_goMinute 97 = .ok (.iconst 4, 1) := db327.2.2.1
theorem dX11_goMinute_98 : decode cX11_goMinute 98 = .ok (.iaload, 1) := db327.2.2.2.1
theorem dX11_goMinute_99 : decode cX11_goMinute 99 = .ok (.if_icmp .ge 33, 3) := db327.2.2.2.2.1
theorem dX11_goMinute_102 : decode cX11_goMinute 102 = .ok (.aload_n 0, 1) := db327.2.2.2.2.2.1
theorem dX11_goMinute_103 : decode cX11_goMinute 103 = .ok (.getfield 37, 3) := db327.2.2.2.2.2.2.1
theorem dX11_goMinute_106 : decode cX11_goMinute 106 = .ok (.iload 5, 2) := db327.2.2.2.2.2.2.2.1
theorem dX11_goMinute_108 : decode cX11_goMinute 108 = .ok (.dup2, 1) := db327.2.2.2.2.2.2.2.2.1
theorem dX11_goMinute_109 : decode cX11_goMinute 109 = .ok (.iaload, 1) := db327.2.2.2.2.2.2.2.2.2.1
theorem dX11_goMinute_110 : decode cX11_goMinute 110 = .ok (.aload_n 0, 1) := db327.2.2.2.2.2.2.2.2.2.2.1
theorem dX11_goMinute_111 : decode cX11_goMinute 111 = .ok (.iload_n 2, 1) := db327.2.2.2.2.2.2.2.2.2.2.2.1
theorem dX11_goMinute_112 : decode cX11_goMinute 112 = .ok (.iconst 3, 1) := db327.2.2.2.2.2.2.2.2.2.2.2.2.1
theorem dX11_goMinute_113 : decode cX11_goMinute 113 = .ok (.invokevirtual 227, 3) := db327.2.2.2.2.2.2.2.2.2.2.2.2.2.1
theorem dX11_goMinute_116 : decode cX11_goMinute 116 = .ok (.iload 5, 2) := db327.2.2.2.2.2.2.2.2.2.2.2.2.2.2.1
theorem dX11_goMinute_118 : decode cX11_goMinute 118 = .ok (.invokestatic 258, 3) := db327.2.2.2.2.2.2.2.2.2.2.2.2.2.2.2.1
theorem dX11_goMinute_121 : decode cX11_goMinute 121 = .ok (.iload 4, 2) := db327.2.2.2.2.2.2.2.2.2.2.2.2.2.2.2.2.1
theorem dX11_goMinute_123 : decode cX11_goMinute 123 = .ok (.imul, 1) := db327.2.2.2.2.2.2.2.2.2.2.2.2.2.2.2.2.2.1
theorem dX11_goMinute_124 : decode cX11_goMinute 124 = .ok (.iadd, 1) := db327.2.2.2.2.2.2.2.2.2.2.2.2.2.2.2.2.2.2.1
theorem dX11_goMinute_125 : decode cX11_goMinute 125 = .ok (.iastore, 1) := db327.2.2.2.2.2.2.2.2.2.2.2.2.2.2.2.2.2.2.2.1
theorem dX11_goMinute_126 : decode cX11_goMinute 126 = .ok (.iinc 5 1, 3) := db327.2.2.2.2.2.2.2.2.2.2.2.2.2.2.2.2.2.2.2.2.1
theorem dX11_goMinute_129 : decode cX11_goMinute 129 = .ok (.goto (-38), 3) := db327.2.2.2.2.2.2.2.2.2.2.2.2.2.2.2.2.2.2.2.2.2.1
theorem dX11_goMinute_52 : decode cX11_goMinute 52 = .ok (.goto 80, 3) := db327.2.2.2.2.2.2.2.2.2.2.2.2.2.2.2.2.2.2.2.2.2.2.1
theorem dX11_goMinute_8 : decode cX11_goMinute 8 = .ok (.aload_n 0, 1) := db327.2.2.2.2.2.2.2.2.2.2.2.2.2.2.2.2.2.2.2.2.2.2.2
theorem db328 : (decode cX11_goMinute 9 = .ok (.getfield 37, 3)) ∧ (decode cX11_goMinute 12 = .ok (.iload_n 2, 1)) ∧ (decode cX11_goMinute 13 = .ok (.iconst 0, 1)) ∧ (decode cX11_goMinute 14 = .ok (.iastore, 1)) ∧ (decode cX11_goMinute 15 = .ok (.iinc 2 1, 3)) ∧ (decode cX11_goMinute 18 = .ok (.goto (-16), 3)) := by decide +kernel
theorem dX11_goMinute_9 : decode cX11_goMinute 9 = .ok (.getfield 37, 3) := db328.1
theorem dX11_goMinute_12 : decode cX11_goMinute 12 = .ok (.iload_n 2, 1) := db328.2.1
theorem dX11_goMinute_13 : decode cX11_goMinute 13 = .ok (.iconst 0, 1) := db328.2.2.1
theorem dX11_goMinute_14 : decode cX11_goMinute 14 = .ok (.iastore, 1) := db328.2.2.2.1
theorem dX11_goMinute_15 : decode cX11_goMinute 15 = .ok (.iinc 2 1, 3) := db328.2.2.2.2.1
theorem dX11_goMinute_18 : decode cX11_goMinute 18 = .ok (.goto (-16), 3) := db328.2.2.2.2.2
theorem db329 : (decode cX11_goRound 0 = .ok (.aload_n 0, 1)) ∧ (decode cX11_goRound 1 = .ok (.invokevirtual 278, 3)) ∧ (decode cX11_goRound 4 = .ok (.iconst 0, 1)) ∧ (decode cX11_goRound 5 = .ok (.istore 4, 2)) ∧ (decode cX11_goRound 7 = .ok (.iconst 0, 1)) ∧ (decode cX11_goRound 8 = .ok (.istore 5, 2)) ∧ (decode cX11_goRound 10 = .ok (.iload 5, 2)) ∧ (decode cX11_goRound 12 = .ok (.iload_n 2, 1)) ∧ (decode cX11_goRound 13 = .ok (.if_icmp .ge 31, 3)) ∧ (decode cX11_goRound 44 = .ok (.iload 4, 2)) ∧ (decode cX11_goRound 46 = .ok (.ireturn, 1)) ∧ (decode cX11_goRound 16 = .ok (.iload 4, 2)) ∧ (decode cX11_goRound 18 = .ok (.aload_n 0, 1)) ∧ (decode cX11_goRound 19 = .ok (.aload_n 0, 1)) ∧ (decode cX11_goRound 20 = .ok (.iload_n 1, 1)) ∧ (decode cX11_goRound 21 = .ok (.iload 5, 2)) ∧ (decode cX11_goRound 23 = .ok (.invokevirtual 293, 3)) ∧ (decode cX11_goRound 26 = .ok (.iload_n 3, 1)) ∧ (decode cX11_goRound 27 = .ok (.invokevirtual 264, 3)) ∧ (decode cX11_goRound 30 = .ok (.iadd, 1)) ∧ (decode cX11_goRound 31 = .ok (.istore 4, 2)) ∧ (decode cX11_goRound 33 = .ok (.aload_n 0, 1)) ∧ (decode cX11_goRound 34 = .ok (.iconst (-1), 1)) ∧ (decode cX11_goRound 35 = .ok (.invokevirtual 267, 3)) := by decide +kernel
theorem dX11_goRound_0 : decode cX11_goRound 0 = .ok (.aload_n 0, 1) := db329.1
theorem dX11_goRound_1 : decode cX11_goRound 1 = .ok (.invokevirtual 278, 3) := db329.2.1
theorem dX11_goRound_4 : decode cX11_goRound 4 = .ok (.iconst 0, 1) := db329.2.2.1
theorem dX11_goRound_5 : decode cX11_goRound 5 = .ok (.istore 4, 2) := db329.2.2.2.1
theorem dX11_goRound_7 : decode cX11_goRound 7 = .ok (.iconst 0, 1) := db329.2.2.2.2.1
theorem dX11_goRound_8 : decode cX11_goRound 8 = .ok (.istore 5, 2) := db329.2.2.2.2.2.1
theorem dX11_goRound_10 : decode cX11_goRound 10 = .ok (.iload 5, 2) := db329.2.2.2.2.2.2.1
theorem dX11_goRound_12 : decode cX11_goRound 12 = .ok (.iload_n 2, 1) := db329.2.2.2.2.2.2.2.1
theorem dX11_goRound_13 : decode cX11_goRound 13 = .ok (.if_icmp .ge 31, 3) := db329.2.2.2.2.2.2.2.2.1
theorem dX11_goRound_44 : decode cX11_goRound 44 = .ok (.iload 4, 2) := db329.2.2.2.2.2.2.2.2.2.1
theorem dX11_goRound_46 : decode cX11_goRound 46 = .ok (.ireturn, 1) := db329.2.2.2.2.2.2.2.2.2.2.1
theorem dX11_goRound_16 : decode cX11_goRound 16 = .ok (.iload 4, 2) := db329.2.2.2.2.2.2.2.2.2.2.2.1
theorem dX11_goRound_18 : decode cX11_goRound 18 = .ok (.aload_n 0, 1) := db329.2.2.2.2.2.2.2.2.2.2.2.2.1
theorem dX11_goRound_19 : decode cX11_goRound 19 = .ok (.aload_n 0, 1) := db329.2.2.2.2.2.2.2.2.2.2.2.2.2.1
theorem dX11_goRound_20 : decode cX11_goRound 20 = .ok (.iload_n 1, 1) := db329.2.2.2.2.2.2.2.2.2.2.2.2.2.2.1
theorem dX11_goRound_21 : decode cX11_goRound 21 = .ok (.iload 5, 2) := db329.2.2.2.2.2.2.2.2.2.2.2.2.2.2.2.1
theorem dX11_goRound_23 : decode cX11_goRound 23 = .ok (.invokevirtual 293, 3) := db329.2.2.2.2.2.2.2.2.2.2.2.2.2.2.2.2.1
theorem dX11_goRound_26 : decode cX11_goRound 26 = .ok (.iload_n 3, 1) := db329.2.2.2.2.2.2.2.2.2.2.2.2.2.2.2.2.2.1
theorem dX11_goRound_27 : decode cX11_goRound 27 = .ok (.invokevirtual 264, 3) := db329.2.2.2.2.2.2.2.2.2.2.2.2.2.2.2.2.2.2.1
theorem dX11_goRound_30 : decode cX11_goRound 30 = .ok (.iadd, 1) := db329.2.2.2.2.2.2.2.2.2.2.2.2.2.2.2.2.2.2.2.1
theorem dX11_goRound_31 : decode cX11_goRound 31 = .ok (.istore 4, 2) := db329.2.2.2.2.2.2.2.2.2.2.2.2.2.2.2.2.2.2.2.2.1
theorem dX11_goRound_33 : decode cX11_goRound 33 = .ok (.aload_n 0, 1) := db329.2.2.2.2.2.2.2.2.2.2.2.2.2.2.2.2.2.2.2.2.2.1
theorem dX11_goRound_34 : decode cX11_goRound 34 = .ok (.iconst (-1), 1) := db329.2.2.2.2.2.2.2.2.2.2.2.2.2.2.2.2.2.2.2.2.2.2.1
theorem dX11_goRound_35 : decode cX11_goRound 35 = .ok (.invokevirtual 267, 3) := db329.2.2.2.2.2.2.2.2.2.2.2.2.2.2.2.2.2.2.2.2.2.2.2
theorem db330 : (decode cX11_goRound 38 = .ok (.iinc 5 1, 3)) ∧ (decode cX11_goRound 41 = .ok (.goto (-31), 3)) := by decide +kernel
theorem dX11_goRound_38 : decode cX11_goRound 38 = .ok (.iinc 5 1, 3) := db330.1
theorem dX11_goRound_41 : decode cX11_goRound 41 = .ok (.goto (-31), 3) := db330.2
theorem db331 : (decode cX11_goes 0 = .ok (.aload_n 0, 1)) ∧ (decode cX11_goes 1 = .ok (.iload_n 1, 1)) ∧ (decode cX11_goes 2 = .ok (.i2l, 1)) ∧ (decode cX11_goes 3 = .ok (.invokevirtual 89, 3)) ∧ (decode cX11_goes 6 = .ok (.ifCond .eq 15, 3)) ∧ (decode cX11_goes 21 = .ok (.bipush (-2), 2)) ∧ (decode cX11_goes 23 = .ok (.ireturn, 1)) ∧ (decode cX11_goes 9 = .ok (.iload_n 2, 1)) ∧ (decode cX11_goes 10 = .ok (.i2l, 1)) ∧ (decode cX11_goes 11 = .ok (.lconst 0, 1)) ∧ (decode cX11_goes 12 = .ok (.ldc2_w 325, 3)) ∧ (decode cX11_goes 15 = .ok (.invokestatic 79, 3)) ∧ (decode cX11_goes 18 = .ok (.ifCond .ne 6, 3)) ∧ (decode cX11_goes 24 = .ok (.aload_n 0, 1)) ∧ (decode cX11_goes 25 = .ok (.iload_n 1, 1)) ∧ (decode cX11_goes 26 = .ok (.iload_n 2, 1)) ∧ (decode cX11_goes 27 = .ok (.invokevirtual 327, 3)) ∧ (decode cX11_goes 30 = .ok (.pop, 1)) ∧ (decode cX11_goes 31 = .ok (.iload_n 3, 1)) ∧ (decode cX11_goes 32 = .ok (.i2l, 1)) ∧ (decode cX11_goes 33 = .ok (.lconst 0, 1)) ∧ (decode cX11_goes 34 = .ok (.iload_n 2, 1)) ∧ (decode cX11_goes 35 = .ok (.iconst 1, 1)) ∧ (decode cX11_goes 36 = .ok (.isub, 1)) := by decide +kernel
theorem dX11_goes_0 : decode cX11_goes 0 = .ok (.aload_n 0, 1) := db331.1
theorem dX11_goes_1 : decode cX11_goes 1 = .ok (.iload_n 1, 1) := db331.2.1
theorem dX11_goes_2 : decode cX11_goes 2 = .ok (.i2l, 1) := db331.2.2.1
theorem dX11_goes_3 : decode cX11_goes 3 = .ok (.invokevirtual 89, 3) := db331.2.2.2.1
theorem dX11_goes_6 : decode cX11_goes 6 = .ok (.ifCond .eq 15, 3) := db331.2.2.2.2.1
theorem dX11_goes_21 : decode cX11_goes 21 = .ok (.bipush (-2), 2) := db331.2.2.2.2.2.1
theorem dX11_goes_23 : decode cX11_goes 23 = .ok (.ireturn, 1) := db331.2.2.2.2.2.2.1
theorem dX11_goes_9 : decode cX11_goes 9 = .ok (.iload_n 2, 1) := db331.2.2.2.2.2.2.2.1
theorem dX11_goes_10 : decode cX11_goes 10 = .ok (.i2l, 1) := db331.2.2.2.2.2.2.2.2.1
theorem dX11_goes_11 : decode cX11_goes 11 = .ok (.lconst 0, 1) := db331.2.2.2.2.2.2.2.2.2.1
theorem dX11_goes_12 : decode cX11_goes 12 = .ok (.ldc2_w 325, 3) := db331.2.2.2.2.2.2.2.2.2.2.1
theorem dX11_goes_15 : decode cX11_goes 15 = .ok (.invokestatic 79, 3) := db331.2.2.2.2.2.2.2.2.2.2.2.1
theorem dX11_goes_18 : decode cX11_goes 18 = .ok (.ifCond .ne 6, 3) := db331.2.2.2.2.2.2.2.2.2.2.2.2.1
theorem dX11_goes_24 : decode cX11_goes 24 = .ok (.aload_n 0, 1) := db331.2.2.2.2.2.2.2.2.2.2.2.2.2.1
theorem dX11_goes_25 : decode cX11_goes 25 = .ok (.iload_n 1, 1) := db331.2.2.2.2.2.2.2.2.2.2.2.2.2.2.1
theorem dX11_goes_26 : decode cX11_goes 26 = .ok (.iload_n 2, 1) := db331.2.2.2.2.2.2.2.2.2.2.2.2.2.2.2.1
theorem dX11_goes_27 : decode cX11_goes 27 = .ok (.invokevirtual 327, 3) := db331.2.2.2.2.2.2.2.2.2.2.2.2.2.2.2.2.1
theorem dX11_goes_30 : decode cX11_goes 30 = .ok (.pop, 1) := db331.2.2.2.2.2.2.2.2.2.2.2.2.2.2.2.2.2.1
theorem dX11_goes_31 : decode cX11_goes 31 = .ok (.iload_n 3, 1) := db331.2.2.2.2.2.2.2.2.2.2.2.2.2.2.2.2.2.2.1
theorem dX11_goes_32 : decode cX11_goes 32 = .ok (.i2l, 1) := db331.2.2.2.2.2.2.2.2.2.2.2.2.2.2.2.2.2.2.2.1
theorem dX11_goes_33 : decode cX11_goes 33 = .ok (.lconst 0, 1) := db331.2.2.2.2.2.2.2.2.2.2.2.2.2.2.2.2.2.2.2.2.1
theorem dX11_goes_34 : decode cX11_goes 34 = .ok (.iload_n 2, 1) := db331.2.2.2.2.2.2.2.2.2.2.2.2.2.2.2.2.2.2.2.2.2.1
theorem dX11_goes_35 : decode cX11_goes 35 = .ok (.iconst 1, 1) := db331.2.2.2.2.2.2.2.2.2.2.2.2.2.2.2.2.2.2.2.2.2.2.1
theorem dX11_goes_36 : decode cX11_goes 36 = .ok (.isub, 1) := db331.2.2.2.2.2.2.2.2.2.2.2.2.2.2.2.2.2.2.2.2.2.2.2
theorem db332 : (decode cX11_goes 37 = .ok (.i2l, 1)) ∧ (decode cX11_goes 38 = .ok (.invokestatic 79, 3)) ∧ (decode cX11_goes 41 = .ok (.ifCond .eq 12, 3)) ∧ (decode cX11_goes 53 = .ok (.iconst (-1), 1)) ∧ (decode cX11_goes 54 = .ok (.ireturn, 1)) ∧ (decode cX11_goes 44 = .ok (.aload_n 0, 1)) ∧ (decode cX11_goes 45 = .ok (.getfield 43, 3)) ∧ (decode cX11_goes 48 = .ok (.iload_n 3, 1)) ∧ (decode cX11_goes 49 = .ok (.iaload, 1)) ∧ (decode cX11_goes 50 = .ok (.goto 4, 3)) := by decide +kernel
theorem dX11_goes_37 : decode cX11_goes 37 = .ok (.i2l, 1) := db332.1
theorem dX11_goes_38 : decode cX11_goes 38 = .ok (.invokestatic 79, 3) := db332.2.1
theorem dX11_goes_41 : decode cX11_goes 41 = .ok (.ifCond .eq 12, 3) := db332.2.2.1
theorem dX11_goes_53 : decode cX11_goes 53 = .ok (.iconst (-1), 1) := db332.2.2.2.1
theorem dX11_goes_54 : decode cX11_goes 54 = .ok (.ireturn, 1) := db332.2.2.2.2.1
theorem dX11_goes_44 : decode cX11_goes 44 = .ok (.aload_n 0, 1) := db332.2.2.2.2.2.1
theorem dX11_goes_45 : decode cX11_goes 45 = .ok (.getfield 43, 3) := db332.2.2.2.2.2.2.1
theorem dX11_goes_48 : decode cX11_goes 48 = .ok (.iload_n 3, 1) := db332.2.2.2.2.2.2.2.1
theorem dX11_goes_49 : decode cX11_goes 49 = .ok (.iaload, 1) := db332.2.2.2.2.2.2.2.2.1
theorem dX11_goes_50 : decode cX11_goes 50 = .ok (.goto 4, 3) := db332.2.2.2.2.2.2.2.2.2
theorem db333 : (decode cX11_goesTo 0 = .ok (.iload_n 1, 1)) ∧ (decode cX11_goesTo 1 = .ok (.iload_n 2, 1)) ∧ (decode cX11_goesTo 2 = .ok (.if_icmp .eq 17, 3)) ∧ (decode cX11_goesTo 19 = .ok (.iconst 1, 1)) ∧ (decode cX11_goesTo 20 = .ok (.goto 4, 3)) ∧ (decode cX11_goesTo 24 = .ok (.ireturn, 1)) ∧ (decode cX11_goesTo 5 = .ok (.aload_n 0, 1)) ∧ (decode cX11_goesTo 6 = .ok (.iload_n 1, 1)) ∧ (decode cX11_goesTo 7 = .ok (.iconst 3, 1)) ∧ (decode cX11_goesTo 8 = .ok (.invokevirtual 227, 3)) ∧ (decode cX11_goesTo 11 = .ok (.iload_n 2, 1)) ∧ (decode cX11_goesTo 12 = .ok (.invokestatic 258, 3)) ∧ (decode cX11_goesTo 15 = .ok (.iconst 1, 1)) ∧ (decode cX11_goesTo 16 = .ok (.if_icmp .ne 7, 3)) ∧ (decode cX11_goesTo 23 = .ok (.iconst 0, 1)) := by decide +kernel
theorem dX11_goesTo_0 : decode cX11_goesTo 0 = .ok (.iload_n 1, 1) := db333.1
theorem dX11_goesTo_1 : decode cX11_goesTo 1 = .ok (.iload_n 2, 1) := db333.2.1
theorem dX11_goesTo_2 : decode cX11_goesTo 2 = .ok (.if_icmp .eq 17, 3) := db333.2.2.1
theorem dX11_goesTo_19 : decode cX11_goesTo 19 = .ok (.iconst 1, 1) := db333.2.2.2.1
theorem dX11_goesTo_20 : decode cX11_goesTo 20 = .ok (.goto 4, 3) := db333.2.2.2.2.1
theorem dX11_goesTo_24 : decode cX11_goesTo 24 = .ok (.ireturn, 1) := db333.2.2.2.2.2.1
theorem dX11_goesTo_5 : decode cX11_goesTo 5 = .ok (.aload_n 0, 1) := db333.2.2.2.2.2.2.1
theorem dX11_goesTo_6 : decode cX11_goesTo 6 = .ok (.iload_n 1, 1) := db333.2.2.2.2.2.2.2.1
theorem dX11_goesTo_7 : decode cX11_goesTo 7 = .ok (.iconst 3, 1) := db333.2.2.2.2.2.2.2.2.1
theorem dX11_goesTo_8 : decode cX11_goesTo 8 = .ok (.invokevirtual 227, 3) := db333.2.2.2.2.2.2.2.2.2.1
theorem dX11_goesTo_11 : decode cX11_goesTo 11 = .ok (.iload_n 2, 1) := db333.2.2.2.2.2.2.2.2.2.2.1
theorem dX11_goesTo_12 : decode cX11_goesTo 12 = .ok (.invokestatic 258, 3) := db333.2.2.2.2.2.2.2.2.2.2.2.1
theorem dX11_goesTo_15 : decode cX11_goesTo 15 = .ok (.iconst 1, 1) := db333.2.2.2.2.2.2.2.2.2.2.2.2.1
theorem dX11_goesTo_16 : decode cX11_goesTo 16 = .ok (.if_icmp .ne 7, 3) := db333.2.2.2.2.2.2.2.2.2.2.2.2.2.1
theorem dX11_goesTo_23 : decode cX11_goesTo 23 = .ok (.iconst 0, 1) := db333.2.2.2.2.2.2.2.2.2.2.2.2.2.2
theorem db334 : (decode cX11_good 0 = .ok (.aload_n 0, 1)) ∧ (decode cX11_good 1 = .ok (.getfield 130, 3)) ∧ (decode cX11_good 4 = .ok (.ifCond .ne 7, 3)) ∧ (decode cX11_good 11 = .ok (.iconst 0, 1)) ∧ (decode cX11_good 12 = .ok (.ireturn, 1)) ∧ (decode cX11_good 7 = .ok (.iconst 1, 1)) ∧ (decode cX11_good 8 = .ok (.goto 4, 3)) := by decide +kernel
theorem dX11_good_0 : decode cX11_good 0 = .ok (.aload_n 0, 1) := db334.1
theorem dX11_good_1 : decode cX11_good 1 = .ok (.getfield 130, 3) := db334.2.1
theorem dX11_good_4 : decode cX11_good 4 = .ok (.ifCond .ne 7, 3) := db334.2.2.1
theorem dX11_good_11 : decode cX11_good 11 = .ok (.iconst 0, 1) := db334.2.2.2.1
theorem dX11_good_12 : decode cX11_good 12 = .ok (.ireturn, 1) := db334.2.2.2.2.1
theorem dX11_good_7 : decode cX11_good 7 = .ok (.iconst 1, 1) := db334.2.2.2.2.2.1
theorem dX11_good_8 : decode cX11_good 8 = .ok (.goto 4, 3) := db334.2.2.2.2.2.2
theorem db335 : (decode cX11_guess 0 = .ok (.aload_n 0, 1)) ∧ (decode cX11_guess 1 = .ok (.iload_n 1, 1)) ∧ (decode cX11_guess 2 = .ok (.invokevirtual 230, 3)) ∧ (decode cX11_guess 5 = .ok (.ifCond .ne 6, 3)) ∧ (decode cX11_guess 11 = .ok (.aload_n 0, 1)) ∧ (decode cX11_guess 12 = .ok (.iload_n 1, 1)) ∧ (decode cX11_guess 13 = .ok (.invokevirtual 403, 3)) ∧ (decode cX11_guess 16 = .ok (.lconst 0, 1)) ∧ (decode cX11_guess 17 = .ok (.lcmp, 1)) ∧ (decode cX11_guess 18 = .ok (.ifCond .ne 5, 3)) ∧ (decode cX11_guess 23 = .ok (.iconst 0, 1)) ∧ (decode cX11_guess 24 = .ok (.istore_n 2, 1)) ∧ (decode cX11_guess 25 = .ok (.iconst 1, 1)) ∧ (decode cX11_guess 26 = .ok (.istore_n 3, 1)) ∧ (decode cX11_guess 27 = .ok (.iload_n 3, 1)) ∧ (decode cX11_guess 28 = .ok (.aload_n 0, 1)) ∧ (decode cX11_guess 29 = .ok (.getfield 9, 3)) ∧ (decode cX11_guess 32 = .ok (.iconst 5, 1)) ∧ (decode cX11_guess 33 = .ok (.iaload, 1)) ∧ (decode cX11_guess 34 = .ok (.if_icmp .ge 31, 3)) ∧ (decode cX11_guess 65 = .ok (.iload_n 2, 1)) ∧ (decode cX11_guess 66 = .ok (.ireturn, 1)) ∧ (decode cX11_guess 37 = .ok (.aload_n 0, 1)) ∧ (decode cX11_guess 38 = .ok (.iload_n 3, 1)) := by decide +kernel
theorem dX11_guess_0 : decode cX11_guess 0 = .ok (.aload_n 0, 1) := db335.1
theorem dX11_guess_1 : decode cX11_guess 1 = .ok (.iload_n 1, 1) := db335.2.1
theorem dX11_guess_2 : decode cX11_guess 2 = .ok (.invokevirtual 230, 3) := db335.2.2.1
theorem dX11_guess_5 : decode cX11_guess 5 = .ok (.ifCond .ne 6, 3) := db335.2.2.2.1
theorem dX11_guess_11 : decode cX11_guess 11 = .ok (.aload_n 0, 1) := db335.2.2.2.2.1
theorem dX11_guess_12 : decode cX11_guess 12 = .ok (.iload_n 1, 1) := db335.2.2.2.2.2.1
theorem dX11_guess_13 : decode cX11_guess 13 = .ok (.invokevirtual 403, 3) := db335.2.2.2.2.2.2.1
theorem dX11_guess_16 : decode cX11_guess 16 = .ok (.lconst 0, 1) := db335.2.2.2.2.2.2.2.1
theorem dX11_guess_17 : decode cX11_guess 17 = .ok (.lcmp, 1) := db335.2.2.2.2.2.2.2.2.1
theorem dX11_guess_18 : decode cX11_guess 18 = .ok (.ifCond .ne 5, 3) := db335.2.2.2.2.2.2.2.2.2.1
theorem dX11_guess_23 : decode cX11_guess 23 = .ok (.iconst 0, 1) := db335.2.2.2.2.2.2.2.2.2.2.1
theorem dX11_guess_24 : decode cX11_guess 24 = .ok (.istore_n 2, 1) := db335.2.2.2.2.2.2.2.2.2.2.2.1
theorem dX11_guess_25 : decode cX11_guess 25 = .ok (.iconst 1, 1) := db335.2.2.2.2.2.2.2.2.2.2.2.2.1
theorem dX11_guess_26 : decode cX11_guess 26 = .ok (.istore_n 3, 1) := db335.2.2.2.2.2.2.2.2.2.2.2.2.2.1
theorem dX11_guess_27 : decode cX11_guess 27 = .ok (.iload_n 3, 1) := db335.2.2.2.2.2.2.2.2.2.2.2.2.2.2.1
theorem dX11_guess_28 : decode cX11_guess 28 = .ok (.aload_n 0, 1) := db335.2.2.2.2.2.2.2.2.2.2.2.2.2.2.2.1
theorem dX11_guess_29 : decode cX11_guess 29 = .ok (.getfield 9, 3) := db335.2.2.2.2.2.2.2.2.2.2.2.2.2.2.2.2.1
theorem dX11_guess_32 : decode cX11_guess 32 = .ok (.iconst 5, 1) := db335.2.2.2.2.2.2.2.2.2.2.2.2.2.2.2.2.2.1
theorem dX11_guess_33 : decode cX11_guess 33 = .ok (.iaload, 1) := db335.2.2.2.2.2.2.2.2.2.2.2.2.2.2.2.2.2.2.1
theorem dX11_guess_34 : decode cX11_guess 34 = .ok (.if_icmp .ge 31, 3) := db335.2.2.2.2.2.2.2.2.2.2.2.2.2.2.2.2.2.2.2.1
theorem dX11_guess_65 : decode cX11_guess 65 = .ok (.iload_n 2, 1) := db335.2.2.2.2.2.2.2.2.2.2.2.2.2.2.2.2.2.2.2.2.1
theorem dX11_guess_66 : decode cX11_guess 66 = .ok (.ireturn, 1) := db335.2.2.2.2.2.2.2.2.2.2.2.2.2.2.2.2.2.2.2.2.2.1
theorem dX11_guess_37 : decode cX11_guess 37 = .ok (.aload_n 0, 1) := db335.2.2.2.2.2.2.2.2.2.2.2.2.2.2.2.2.2.2.2.2.2.2.1
theorem dX11_guess_38 : decode cX11_guess 38 = .ok (.iload_n 3, 1) := db335.2.2.2.2.2.2.2.2.2.2.2.2.2.2.2.2.2.2.2.2.2.2.2
theorem db336 : (decode cX11_guess 39 = .ok (.iload_n 1, 1)) ∧ (decode cX11_guess 40 = .ok (.invokevirtual 398, 3)) ∧ (decode cX11_guess 43 = .ok (.aload_n 0, 1)) ∧ (decode cX11_guess 44 = .ok (.iload_n 2, 1)) ∧ (decode cX11_guess 45 = .ok (.iload_n 1, 1)) ∧ (decode cX11_guess 46 = .ok (.invokevirtual 398, 3)) ∧ (decode cX11_guess 49 = .ok (.lcmp, 1)) ∧ (decode cX11_guess 58 = .ok (.istore_n 2, 1)) ∧ (decode cX11_guess 59 = .ok (.iinc 3 1, 3)) ∧ (decode cX11_guess 62 = .ok (.goto (-35), 3)) ∧ (decode cX11_guess 50 = .ok (.ifCond .le 7, 3)) ∧ (decode cX11_guess 57 = .ok (.iload_n 2, 1)) ∧ (decode cX11_guess 53 = .ok (.iload_n 3, 1)) ∧ (decode cX11_guess 54 = .ok (.goto 4, 3)) ∧ (decode cX11_guess 21 = .ok (.iconst (-1), 1)) ∧ (decode cX11_guess 22 = .ok (.ireturn, 1)) ∧ (decode cX11_guess 8 = .ok (.bipush (-2), 2)) ∧ (decode cX11_guess 10 = .ok (.ireturn, 1)) := by decide +kernel
theorem dX11_guess_39 : decode cX11_guess 39 = .ok (.iload_n 1, 1) := db336.1
theorem dX11_guess_40 : decode cX11_guess 40 = .ok (.invokevirtual 398, 3) := db336.2.1
theorem dX11_guess_43 : decode cX11_guess 43 = .ok (.aload_n 0, 1) := db336.2.2.1
theorem dX11_guess_44 : decode cX11_guess 44 = .ok (.iload_n 2, 1) := db336.2.2.2.1
theorem dX11_guess_45 : decode cX11_guess 45 = .ok (.iload_n 1, 1) := db336.2.2.2.2.1
theorem dX11_guess_46 : decode cX11_guess 46 = .ok (.invokevirtual 398, 3) := db336.2.2.2.2.2.1
theorem dX11_guess_49 : decode cX11_guess 49 = .ok (.lcmp, 1) := db336.2.2.2.2.2.2.1
theorem dX11_guess_58 : decode cX11_guess 58 = .ok (.istore_n 2, 1) := db336.2.2.2.2.2.2.2.1
theorem dX11_guess_59 : decode cX11_guess 59 = .ok (.iinc 3 1, 3) := db336.2.2.2.2.2.2.2.2.1
theorem dX11_guess_62 : decode cX11_guess 62 = .ok (.goto (-35), 3) := db336.2.2.2.2.2.2.2.2.2.1
theorem dX11_guess_50 : decode cX11_guess 50 = .ok (.ifCond .le 7, 3) := db336.2.2.2.2.2.2.2.2.2.2.1
theorem dX11_guess_57 : decode cX11_guess 57 = .ok (.iload_n 2, 1) := db336.2.2.2.2.2.2.2.2.2.2.2.1
theorem dX11_guess_53 : decode cX11_guess 53 = .ok (.iload_n 3, 1) := db336.2.2.2.2.2.2.2.2.2.2.2.2.1
theorem dX11_guess_54 : decode cX11_guess 54 = .ok (.goto 4, 3) := db336.2.2.2.2.2.2.2.2.2.2.2.2.2.1
theorem dX11_guess_21 : decode cX11_guess 21 = .ok (.iconst (-1), 1) := db336.2.2.2.2.2.2.2.2.2.2.2.2.2.2.1
theorem dX11_guess_22 : decode cX11_guess 22 = .ok (.ireturn, 1) := db336.2.2.2.2.2.2.2.2.2.2.2.2.2.2.2.1
theorem dX11_guess_8 : decode cX11_guess 8 = .ok (.bipush (-2), 2) := db336.2.2.2.2.2.2.2.2.2.2.2.2.2.2.2.2.1
theorem dX11_guess_10 : decode cX11_guess 10 = .ok (.ireturn, 1) := db336.2.2.2.2.2.2.2.2.2.2.2.2.2.2.2.2.2
theorem db337 : (decode cX11_habit 0 = .ok (.aload_n 0, 1)) ∧ (decode cX11_habit 1 = .ok (.iload_n 1, 1)) ∧ (decode cX11_habit 2 = .ok (.iconst 1, 1)) ∧ (decode cX11_habit 3 = .ok (.invokevirtual 406, 3)) ∧ (decode cX11_habit 6 = .ok (.istore_n 2, 1)) ∧ (decode cX11_habit 7 = .ok (.iload_n 2, 1)) ∧ (decode cX11_habit 8 = .ok (.ifCond .ge 7, 3)) ∧ (decode cX11_habit 15 = .ok (.aload_n 0, 1)) ∧ (decode cX11_habit 16 = .ok (.iload_n 1, 1)) ∧ (decode cX11_habit 17 = .ok (.iconst (-1), 1)) ∧ (decode cX11_habit 18 = .ok (.invokevirtual 409, 3)) ∧ (decode cX11_habit 21 = .ok (.ireturn, 1)) ∧ (decode cX11_habit 11 = .ok (.iload_n 2, 1)) ∧ (decode cX11_habit 12 = .ok (.goto 9, 3)) := by decide +kernel
theorem dX11_habit_0 : decode cX11_habit 0 = .ok (.aload_n 0, 1) := db337.1
theorem dX11_habit_1 : decode cX11_habit 1 = .ok (.iload_n 1, 1) := db337.2.1
theorem dX11_habit_2 : decode cX11_habit 2 = .ok (.iconst 1, 1) := db337.2.2.1
theorem dX11_habit_3 : decode cX11_habit 3 = .ok (.invokevirtual 406, 3) := db337.2.2.2.1
theorem dX11_habit_6 : decode cX11_habit 6 = .ok (.istore_n 2, 1) := db337.2.2.2.2.1
theorem dX11_habit_7 : decode cX11_habit 7 = .ok (.iload_n 2, 1) := db337.2.2.2.2.2.1
theorem dX11_habit_8 : decode cX11_habit 8 = .ok (.ifCond .ge 7, 3) := db337.2.2.2.2.2.2.1
theorem dX11_habit_15 : decode cX11_habit 15 = .ok (.aload_n 0, 1) := db337.2.2.2.2.2.2.2.1
theorem dX11_habit_16 : decode cX11_habit 16 = .ok (.iload_n 1, 1) := db337.2.2.2.2.2.2.2.2.1
theorem dX11_habit_17 : decode cX11_habit 17 = .ok (.iconst (-1), 1) := db337.2.2.2.2.2.2.2.2.2.1
theorem dX11_habit_18 : decode cX11_habit 18 = .ok (.invokevirtual 409, 3) := db337.2.2.2.2.2.2.2.2.2.2.1
theorem dX11_habit_21 : decode cX11_habit 21 = .ok (.ireturn, 1) := db337.2.2.2.2.2.2.2.2.2.2.2.1
theorem dX11_habit_11 : decode cX11_habit 11 = .ok (.iload_n 2, 1) := db337.2.2.2.2.2.2.2.2.2.2.2.2.1
theorem dX11_habit_12 : decode cX11_habit 12 = .ok (.goto 9, 3) := db337.2.2.2.2.2.2.2.2.2.2.2.2.2
theorem db338 : (decode cX11_hangs 0 = .ok (.aload_n 0, 1)) ∧ (decode cX11_hangs 1 = .ok (.iload_n 1, 1)) ∧ (decode cX11_hangs 2 = .ok (.iconst 1, 1)) ∧ (decode cX11_hangs 3 = .ok (.invokevirtual 303, 3)) ∧ (decode cX11_hangs 6 = .ok (.istore_n 2, 1)) ∧ (decode cX11_hangs 7 = .ok (.iload_n 2, 1)) ∧ (decode cX11_hangs 8 = .ok (.ifCond .ge 5, 3)) ∧ (decode cX11_hangs 13 = .ok (.aload_n 0, 1)) ∧ (decode cX11_hangs 14 = .ok (.invokevirtual 278, 3)) ∧ (decode cX11_hangs 17 = .ok (.iconst 0, 1)) ∧ (decode cX11_hangs 18 = .ok (.istore_n 3, 1)) ∧ (decode cX11_hangs 19 = .ok (.iload_n 3, 1)) ∧ (decode cX11_hangs 20 = .ok (.aload_n 0, 1)) ∧ (decode cX11_hangs 21 = .ok (.getfield 61, 3)) ∧ (decode cX11_hangs 24 = .ok (.iload_n 1, 1)) ∧ (decode cX11_hangs 25 = .ok (.iaload, 1)) ∧ (decode cX11_hangs 26 = .ok (.if_icmp .ge 40, 3)) ∧ (decode cX11_hangs 66 = .ok (.iconst (-1), 1)) ∧ (decode cX11_hangs 67 = .ok (.ireturn, 1)) ∧ (decode cX11_hangs 29 = .ok (.aload_n 0, 1)) ∧ (decode cX11_hangs 30 = .ok (.aload_n 0, 1)) ∧ (decode cX11_hangs 31 = .ok (.aload_n 0, 1)) ∧ (decode cX11_hangs 32 = .ok (.iload_n 1, 1)) ∧ (decode cX11_hangs 33 = .ok (.iload_n 3, 1)) := by decide +kernel
theorem dX11_hangs_0 : decode cX11_hangs 0 = .ok (.aload_n 0, 1) := db338.1
theorem dX11_hangs_1 : decode cX11_hangs 1 = .ok (.iload_n 1, 1) := db338.2.1
theorem dX11_hangs_2 : decode cX11_hangs 2 = .ok (.iconst 1, 1) := db338.2.2.1
theorem dX11_hangs_3 : decode cX11_hangs 3 = .ok (.invokevirtual 303, 3) := db338.2.2.2.1
theorem dX11_hangs_6 : decode cX11_hangs 6 = .ok (.istore_n 2, 1) := db338.2.2.2.2.1
theorem dX11_hangs_7 : decode cX11_hangs 7 = .ok (.iload_n 2, 1) := db338.2.2.2.2.2.1
theorem dX11_hangs_8 : decode cX11_hangs 8 = .ok (.ifCond .ge 5, 3) := db338.2.2.2.2.2.2.1
theorem dX11_hangs_13 : decode cX11_hangs 13 = .ok (.aload_n 0, 1) := db338.2.2.2.2.2.2.2.1
theorem dX11_hangs_14 : decode cX11_hangs 14 = .ok (.invokevirtual 278, 3) := db338.2.2.2.2.2.2.2.2.1
theorem dX11_hangs_17 : decode cX11_hangs 17 = .ok (.iconst 0, 1) := db338.2.2.2.2.2.2.2.2.2.1
theorem dX11_hangs_18 : decode cX11_hangs 18 = .ok (.istore_n 3, 1) := db338.2.2.2.2.2.2.2.2.2.2.1
theorem dX11_hangs_19 : decode cX11_hangs 19 = .ok (.iload_n 3, 1) := db338.2.2.2.2.2.2.2.2.2.2.2.1
theorem dX11_hangs_20 : decode cX11_hangs 20 = .ok (.aload_n 0, 1) := db338.2.2.2.2.2.2.2.2.2.2.2.2.1
theorem dX11_hangs_21 : decode cX11_hangs 21 = .ok (.getfield 61, 3) := db338.2.2.2.2.2.2.2.2.2.2.2.2.2.1
theorem dX11_hangs_24 : decode cX11_hangs 24 = .ok (.iload_n 1, 1) := db338.2.2.2.2.2.2.2.2.2.2.2.2.2.2.1
theorem dX11_hangs_25 : decode cX11_hangs 25 = .ok (.iaload, 1) := db338.2.2.2.2.2.2.2.2.2.2.2.2.2.2.2.1
theorem dX11_hangs_26 : decode cX11_hangs 26 = .ok (.if_icmp .ge 40, 3) := db338.2.2.2.2.2.2.2.2.2.2.2.2.2.2.2.2.1
theorem dX11_hangs_66 : decode cX11_hangs 66 = .ok (.iconst (-1), 1) := db338.2.2.2.2.2.2.2.2.2.2.2.2.2.2.2.2.2.1
theorem dX11_hangs_67 : decode cX11_hangs 67 = .ok (.ireturn, 1) := db338.2.2.2.2.2.2.2.2.2.2.2.2.2.2.2.2.2.2.1
theorem dX11_hangs_29 : decode cX11_hangs 29 = .ok (.aload_n 0, 1) := db338.2.2.2.2.2.2.2.2.2.2.2.2.2.2.2.2.2.2.2.1
theorem dX11_hangs_30 : decode cX11_hangs 30 = .ok (.aload_n 0, 1) := db338.2.2.2.2.2.2.2.2.2.2.2.2.2.2.2.2.2.2.2.2.1
theorem dX11_hangs_31 : decode cX11_hangs 31 = .ok (.aload_n 0, 1) := db338.2.2.2.2.2.2.2.2.2.2.2.2.2.2.2.2.2.2.2.2.2.1
theorem dX11_hangs_32 : decode cX11_hangs 32 = .ok (.iload_n 1, 1) := db338.2.2.2.2.2.2.2.2.2.2.2.2.2.2.2.2.2.2.2.2.2.2.1
theorem dX11_hangs_33 : decode cX11_hangs 33 = .ok (.iload_n 3, 1) := db338.2.2.2.2.2.2.2.2.2.2.2.2.2.2.2.2.2.2.2.2.2.2.2
theorem db339 : (decode cX11_hangs 34 = .ok (.invokevirtual 293, 3)) ∧ (decode cX11_hangs 37 = .ok (.iconst 0, 1)) ∧ (decode cX11_hangs 38 = .ok (.invokevirtual 264, 3)) ∧ (decode cX11_hangs 41 = .ok (.invokevirtual 300, 3)) ∧ (decode cX11_hangs 44 = .ok (.aload_n 0, 1)) ∧ (decode cX11_hangs 45 = .ok (.getfield 9, 3)) ∧ (decode cX11_hangs 48 = .ok (.iconst 3, 1)) ∧ (decode cX11_hangs 49 = .ok (.iaload, 1)) ∧ (decode cX11_hangs 50 = .ok (.if_icmp .ge 5, 3)) ∧ (decode cX11_hangs 55 = .ok (.aload_n 0, 1)) ∧ (decode cX11_hangs 56 = .ok (.iconst (-1), 1)) ∧ (decode cX11_hangs 57 = .ok (.invokevirtual 267, 3)) ∧ (decode cX11_hangs 60 = .ok (.iinc 3 1, 3)) ∧ (decode cX11_hangs 63 = .ok (.goto (-44), 3)) ∧ (decode cX11_hangs 53 = .ok (.iload_n 3, 1)) ∧ (decode cX11_hangs 54 = .ok (.ireturn, 1)) ∧ (decode cX11_hangs 11 = .ok (.iload_n 2, 1)) ∧ (decode cX11_hangs 12 = .ok (.ireturn, 1)) := by decide +kernel
theorem dX11_hangs_34 : decode cX11_hangs 34 = .ok (.invokevirtual 293, 3) := db339.1
theorem dX11_hangs_37 : decode cX11_hangs 37 = .ok (.iconst 0, 1) := db339.2.1
theorem dX11_hangs_38 : decode cX11_hangs 38 = .ok (.invokevirtual 264, 3) := db339.2.2.1
theorem dX11_hangs_41 : decode cX11_hangs 41 = .ok (.invokevirtual 300, 3) := db339.2.2.2.1
theorem dX11_hangs_44 : decode cX11_hangs 44 = .ok (.aload_n 0, 1) := db339.2.2.2.2.1
theorem dX11_hangs_45 : decode cX11_hangs 45 = .ok (.getfield 9, 3) := db339.2.2.2.2.2.1
theorem dX11_hangs_48 : decode cX11_hangs 48 = .ok (.iconst 3, 1) := db339.2.2.2.2.2.2.1
theorem dX11_hangs_49 : decode cX11_hangs 49 = .ok (.iaload, 1) := db339.2.2.2.2.2.2.2.1
theorem dX11_hangs_50 : decode cX11_hangs 50 = .ok (.if_icmp .ge 5, 3) := db339.2.2.2.2.2.2.2.2.1
theorem dX11_hangs_55 : decode cX11_hangs 55 = .ok (.aload_n 0, 1) := db339.2.2.2.2.2.2.2.2.2.1
theorem dX11_hangs_56 : decode cX11_hangs 56 = .ok (.iconst (-1), 1) := db339.2.2.2.2.2.2.2.2.2.2.1
theorem dX11_hangs_57 : decode cX11_hangs 57 = .ok (.invokevirtual 267, 3) := db339.2.2.2.2.2.2.2.2.2.2.2.1
theorem dX11_hangs_60 : decode cX11_hangs 60 = .ok (.iinc 3 1, 3) := db339.2.2.2.2.2.2.2.2.2.2.2.2.1
theorem dX11_hangs_63 : decode cX11_hangs 63 = .ok (.goto (-44), 3) := db339.2.2.2.2.2.2.2.2.2.2.2.2.2.1
theorem dX11_hangs_53 : decode cX11_hangs 53 = .ok (.iload_n 3, 1) := db339.2.2.2.2.2.2.2.2.2.2.2.2.2.2.1
theorem dX11_hangs_54 : decode cX11_hangs 54 = .ok (.ireturn, 1) := db339.2.2.2.2.2.2.2.2.2.2.2.2.2.2.2.1
theorem dX11_hangs_11 : decode cX11_hangs 11 = .ok (.iload_n 2, 1) := db339.2.2.2.2.2.2.2.2.2.2.2.2.2.2.2.2.1
theorem dX11_hangs_12 : decode cX11_hangs 12 = .ok (.ireturn, 1) := db339.2.2.2.2.2.2.2.2.2.2.2.2.2.2.2.2.2
theorem db340 : (decode cX11_hears 0 = .ok (.aload_n 0, 1)) ∧ (decode cX11_hears 1 = .ok (.iload_n 1, 1)) ∧ (decode cX11_hears 2 = .ok (.i2l, 1)) ∧ (decode cX11_hears 3 = .ok (.invokevirtual 89, 3)) ∧ (decode cX11_hears 6 = .ok (.ifCond .eq 24, 3)) ∧ (decode cX11_hears 30 = .ok (.bipush (-2), 2)) ∧ (decode cX11_hears 32 = .ok (.ireturn, 1)) ∧ (decode cX11_hears 9 = .ok (.iload_n 2, 1)) ∧ (decode cX11_hears 10 = .ok (.i2l, 1)) ∧ (decode cX11_hears 11 = .ok (.lconst 0, 1)) ∧ (decode cX11_hears 12 = .ok (.ldc2_w 237, 3)) ∧ (decode cX11_hears 15 = .ok (.invokestatic 79, 3)) ∧ (decode cX11_hears 18 = .ok (.ifCond .eq 12, 3)) ∧ (decode cX11_hears 21 = .ok (.aload_n 0, 1)) ∧ (decode cX11_hears 22 = .ok (.iload_n 1, 1)) ∧ (decode cX11_hears 23 = .ok (.iload_n 2, 1)) ∧ (decode cX11_hears 24 = .ok (.invokevirtual 239, 3)) ∧ (decode cX11_hears 27 = .ok (.goto 5, 3)) := by decide +kernel
theorem dX11_hears_0 : decode cX11_hears 0 = .ok (.aload_n 0, 1) := db340.1
theorem dX11_hears_1 : decode cX11_hears 1 = .ok (.iload_n 1, 1) := db340.2.1
theorem dX11_hears_2 : decode cX11_hears 2 = .ok (.i2l, 1) := db340.2.2.1
theorem dX11_hears_3 : decode cX11_hears 3 = .ok (.invokevirtual 89, 3) := db340.2.2.2.1
theorem dX11_hears_6 : decode cX11_hears 6 = .ok (.ifCond .eq 24, 3) := db340.2.2.2.2.1
theorem dX11_hears_30 : decode cX11_hears 30 = .ok (.bipush (-2), 2) := db340.2.2.2.2.2.1
theorem dX11_hears_32 : decode cX11_hears 32 = .ok (.ireturn, 1) := db340.2.2.2.2.2.2.1
theorem dX11_hears_9 : decode cX11_hears 9 = .ok (.iload_n 2, 1) := db340.2.2.2.2.2.2.2.1
theorem dX11_hears_10 : decode cX11_hears 10 = .ok (.i2l, 1) := db340.2.2.2.2.2.2.2.2.1
theorem dX11_hears_11 : decode cX11_hears 11 = .ok (.lconst 0, 1) := db340.2.2.2.2.2.2.2.2.2.1
theorem dX11_hears_12 : decode cX11_hears 12 = .ok (.ldc2_w 237, 3) := db340.2.2.2.2.2.2.2.2.2.2.1
theorem dX11_hears_15 : decode cX11_hears 15 = .ok (.invokestatic 79, 3) := db340.2.2.2.2.2.2.2.2.2.2.2.1
theorem dX11_hears_18 : decode cX11_hears 18 = .ok (.ifCond .eq 12, 3) := db340.2.2.2.2.2.2.2.2.2.2.2.2.1
theorem dX11_hears_21 : decode cX11_hears 21 = .ok (.aload_n 0, 1) := db340.2.2.2.2.2.2.2.2.2.2.2.2.2.1
theorem dX11_hears_22 : decode cX11_hears 22 = .ok (.iload_n 1, 1) := db340.2.2.2.2.2.2.2.2.2.2.2.2.2.2.1
theorem dX11_hears_23 : decode cX11_hears 23 = .ok (.iload_n 2, 1) := db340.2.2.2.2.2.2.2.2.2.2.2.2.2.2.2.1
theorem dX11_hears_24 : decode cX11_hears 24 = .ok (.invokevirtual 239, 3) := db340.2.2.2.2.2.2.2.2.2.2.2.2.2.2.2.2.1
theorem dX11_hears_27 : decode cX11_hears 27 = .ok (.goto 5, 3) := db340.2.2.2.2.2.2.2.2.2.2.2.2.2.2.2.2.2
theorem db341 : (decode cX11_hearsBy 0 = .ok (.bipush 100, 2)) ∧ (decode cX11_hearsBy 2 = .ok (.bipush 100, 2)) ∧ (decode cX11_hearsBy 4 = .ok (.aload_n 0, 1)) ∧ (decode cX11_hearsBy 5 = .ok (.iload_n 1, 1)) ∧ (decode cX11_hearsBy 6 = .ok (.iconst 1, 1)) ∧ (decode cX11_hearsBy 7 = .ok (.invokevirtual 227, 3)) ∧ (decode cX11_hearsBy 10 = .ok (.isub, 1)) ∧ (decode cX11_hearsBy 11 = .ok (.iload_n 2, 1)) ∧ (decode cX11_hearsBy 12 = .ok (.iconst 1, 1)) ∧ (decode cX11_hearsBy 13 = .ok (.iadd, 1)) ∧ (decode cX11_hearsBy 14 = .ok (.idiv, 1)) ∧ (decode cX11_hearsBy 15 = .ok (.isub, 1)) ∧ (decode cX11_hearsBy 16 = .ok (.ireturn, 1)) := by decide +kernel
theorem dX11_hearsBy_0 : decode cX11_hearsBy 0 = .ok (.bipush 100, 2) := db341.1
theorem dX11_hearsBy_2 : decode cX11_hearsBy 2 = .ok (.bipush 100, 2) := db341.2.1
theorem dX11_hearsBy_4 : decode cX11_hearsBy 4 = .ok (.aload_n 0, 1) := db341.2.2.1
theorem dX11_hearsBy_5 : decode cX11_hearsBy 5 = .ok (.iload_n 1, 1) := db341.2.2.2.1
theorem dX11_hearsBy_6 : decode cX11_hearsBy 6 = .ok (.iconst 1, 1) := db341.2.2.2.2.1
theorem dX11_hearsBy_7 : decode cX11_hearsBy 7 = .ok (.invokevirtual 227, 3) := db341.2.2.2.2.2.1
theorem dX11_hearsBy_10 : decode cX11_hearsBy 10 = .ok (.isub, 1) := db341.2.2.2.2.2.2.1
theorem dX11_hearsBy_11 : decode cX11_hearsBy 11 = .ok (.iload_n 2, 1) := db341.2.2.2.2.2.2.2.1
theorem dX11_hearsBy_12 : decode cX11_hearsBy 12 = .ok (.iconst 1, 1) := db341.2.2.2.2.2.2.2.2.1
theorem dX11_hearsBy_13 : decode cX11_hearsBy 13 = .ok (.iadd, 1) := db341.2.2.2.2.2.2.2.2.2.1
theorem dX11_hearsBy_14 : decode cX11_hearsBy 14 = .ok (.idiv, 1) := db341.2.2.2.2.2.2.2.2.2.2.1
theorem dX11_hearsBy_15 : decode cX11_hearsBy 15 = .ok (.isub, 1) := db341.2.2.2.2.2.2.2.2.2.2.2.1
theorem dX11_hearsBy_16 : decode cX11_hearsBy 16 = .ok (.ireturn, 1) := db341.2.2.2.2.2.2.2.2.2.2.2.2
theorem db342 : (decode cX11_here 0 = .ok (.aload_n 0, 1)) ∧ (decode cX11_here 1 = .ok (.invokevirtual 83, 3)) ∧ (decode cX11_here 4 = .ok (.ifCond .ne 6, 3)) ∧ (decode cX11_here 10 = .ok (.aload_n 0, 1)) ∧ (decode cX11_here 11 = .ok (.invokevirtual 278, 3)) ∧ (decode cX11_here 14 = .ok (.aload_n 0, 1)) ∧ (decode cX11_here 15 = .ok (.aload_n 0, 1)) ∧ (decode cX11_here 16 = .ok (.invokevirtual 270, 3)) ∧ (decode cX11_here 19 = .ok (.invokevirtual 281, 3)) ∧ (decode cX11_here 22 = .ok (.ireturn, 1)) ∧ (decode cX11_here 7 = .ok (.bipush (-2), 2)) ∧ (decode cX11_here 9 = .ok (.ireturn, 1)) := by decide +kernel
theorem dX11_here_0 : decode cX11_here 0 = .ok (.aload_n 0, 1) := db342.1
theorem dX11_here_1 : decode cX11_here 1 = .ok (.invokevirtual 83, 3) := db342.2.1
theorem dX11_here_4 : decode cX11_here 4 = .ok (.ifCond .ne 6, 3) := db342.2.2.1
theorem dX11_here_10 : decode cX11_here 10 = .ok (.aload_n 0, 1) := db342.2.2.2.1
theorem dX11_here_11 : decode cX11_here 11 = .ok (.invokevirtual 278, 3) := db342.2.2.2.2.1
theorem dX11_here_14 : decode cX11_here 14 = .ok (.aload_n 0, 1) := db342.2.2.2.2.2.1
theorem dX11_here_15 : decode cX11_here 15 = .ok (.aload_n 0, 1) := db342.2.2.2.2.2.2.1
theorem dX11_here_16 : decode cX11_here 16 = .ok (.invokevirtual 270, 3) := db342.2.2.2.2.2.2.2.1
theorem dX11_here_19 : decode cX11_here 19 = .ok (.invokevirtual 281, 3) := db342.2.2.2.2.2.2.2.2.1
theorem dX11_here_22 : decode cX11_here 22 = .ok (.ireturn, 1) := db342.2.2.2.2.2.2.2.2.2.1
theorem dX11_here_7 : decode cX11_here 7 = .ok (.bipush (-2), 2) := db342.2.2.2.2.2.2.2.2.2.2.1
theorem dX11_here_9 : decode cX11_here 9 = .ok (.ireturn, 1) := db342.2.2.2.2.2.2.2.2.2.2.2
theorem db343 : (decode cX11_house 0 = .ok (.aload_n 0, 1)) ∧ (decode cX11_house 1 = .ok (.aload_n 0, 1)) ∧ (decode cX11_house 2 = .ok (.getfield 93, 3)) ∧ (decode cX11_house 5 = .ok (.putfield 96, 3)) ∧ (decode cX11_house 8 = .ok (.aload_n 0, 1)) ∧ (decode cX11_house 9 = .ok (.iconst 0, 1)) ∧ (decode cX11_house 10 = .ok (.putfield 93, 3)) ∧ (decode cX11_house 13 = .ok (.aload_n 0, 1)) ∧ (decode cX11_house 14 = .ok (.iconst 0, 1)) ∧ (decode cX11_house 15 = .ok (.putfield 99, 3)) ∧ (decode cX11_house 18 = .ok (.aload_n 0, 1)) ∧ (decode cX11_house 19 = .ok (.iconst 0, 1)) ∧ (decode cX11_house 20 = .ok (.putfield 130, 3)) ∧ (decode cX11_house 23 = .ok (.aload_n 0, 1)) ∧ (decode cX11_house 24 = .ok (.iconst (-1), 1)) ∧ (decode cX11_house 25 = .ok (.putfield 27, 3)) ∧ (decode cX11_house 28 = .ok (.iconst 0, 1)) ∧ (decode cX11_house 29 = .ok (.istore_n 1, 1)) ∧ (decode cX11_house 30 = .ok (.iload_n 1, 1)) ∧ (decode cX11_house 31 = .ok (.sipush 144, 3)) ∧ (decode cX11_house 34 = .ok (.if_icmp .ge 16, 3)) ∧ (decode cX11_house 50 = .ok (.aload_n 0, 1)) ∧ (decode cX11_house 51 = .ok (.invokevirtual 150, 3)) ∧ (decode cX11_house 54 = .ok (.aload_n 0, 1)) := by decide +kernel
theorem dX11_house_0 : decode cX11_house 0 = .ok (.aload_n 0, 1) := db343.1
theorem dX11_house_1 : decode cX11_house 1 = .ok (.aload_n 0, 1) := db343.2.1
theorem dX11_house_2 : decode cX11_house 2 = .ok (.getfield 93, 3) := db343.2.2.1
theorem dX11_house_5 : decode cX11_house 5 = .ok (.putfield 96, 3) := db343.2.2.2.1
theorem dX11_house_8 : decode cX11_house 8 = .ok (.aload_n 0, 1) := db343.2.2.2.2.1
theorem dX11_house_9 : decode cX11_house 9 = .ok (.iconst 0, 1) := db343.2.2.2.2.2.1
theorem dX11_house_10 : decode cX11_house 10 = .ok (.putfield 93, 3) := db343.2.2.2.2.2.2.1
theorem dX11_house_13 : decode cX11_house 13 = .ok (.aload_n 0, 1) := db343.2.2.2.2.2.2.2.1
theorem dX11_house_14 : decode cX11_house 14 = .ok (.iconst 0, 1) := db343.2.2.2.2.2.2.2.2.1
theorem dX11_house_15 : decode cX11_house 15 = .ok (.putfield 99, 3) := db343.2.2.2.2.2.2.2.2.2.1
theorem dX11_house_18 : decode cX11_house 18 = .ok (.aload_n 0, 1) := db343.2.2.2.2.2.2.2.2.2.2.1
theorem dX11_house_19 : decode cX11_house 19 = .ok (.iconst 0, 1) := db343.2.2.2.2.2.2.2.2.2.2.2.1
theorem dX11_house_20 : decode cX11_house 20 = .ok (.putfield 130, 3) := db343.2.2.2.2.2.2.2.2.2.2.2.2.1
theorem dX11_house_23 : decode cX11_house 23 = .ok (.aload_n 0, 1) := db343.2.2.2.2.2.2.2.2.2.2.2.2.2.1
theorem dX11_house_24 : decode cX11_house 24 = .ok (.iconst (-1), 1) := db343.2.2.2.2.2.2.2.2.2.2.2.2.2.2.1
theorem dX11_house_25 : decode cX11_house 25 = .ok (.putfield 27, 3) := db343.2.2.2.2.2.2.2.2.2.2.2.2.2.2.2.1
theorem dX11_house_28 : decode cX11_house 28 = .ok (.iconst 0, 1) := db343.2.2.2.2.2.2.2.2.2.2.2.2.2.2.2.2.1
theorem dX11_house_29 : decode cX11_house 29 = .ok (.istore_n 1, 1) := db343.2.2.2.2.2.2.2.2.2.2.2.2.2.2.2.2.2.1
theorem dX11_house_30 : decode cX11_house 30 = .ok (.iload_n 1, 1) := db343.2.2.2.2.2.2.2.2.2.2.2.2.2.2.2.2.2.2.1
theorem dX11_house_31 : decode cX11_house 31 = .ok (.sipush 144, 3) := db343.2.2.2.2.2.2.2.2.2.2.2.2.2.2.2.2.2.2.2.1
theorem dX11_house_34 : decode cX11_house 34 = .ok (.if_icmp .ge 16, 3) := db343.2.2.2.2.2.2.2.2.2.2.2.2.2.2.2.2.2.2.2.2.1
theorem dX11_house_50 : decode cX11_house 50 = .ok (.aload_n 0, 1) := db343.2.2.2.2.2.2.2.2.2.2.2.2.2.2.2.2.2.2.2.2.2.1
theorem dX11_house_51 : decode cX11_house 51 = .ok (.invokevirtual 150, 3) := db343.2.2.2.2.2.2.2.2.2.2.2.2.2.2.2.2.2.2.2.2.2.2.1
theorem dX11_house_54 : decode cX11_house 54 = .ok (.aload_n 0, 1) := db343.2.2.2.2.2.2.2.2.2.2.2.2.2.2.2.2.2.2.2.2.2.2.2
theorem db344 : (decode cX11_house 55 = .ok (.invokevirtual 133, 3)) ∧ (decode cX11_house 75 = .ok (.aload_n 0, 1)) ∧ (decode cX11_house 76 = .ok (.invokevirtual 133, 3)) ∧ (decode cX11_house 79 = .ok (.ifCond .ne 6, 3)) ∧ (decode cX11_house 85 = .ok (.iconst 0, 1)) ∧ (decode cX11_house 86 = .ok (.istore_n 1, 1)) ∧ (decode cX11_house 87 = .ok (.iload_n 1, 1)) ∧ (decode cX11_house 88 = .ok (.sipush 144, 3)) ∧ (decode cX11_house 91 = .ok (.if_icmp .ge 21, 3)) ∧ (decode cX11_house 112 = .ok (.aload_n 0, 1)) ∧ (decode cX11_house 113 = .ok (.getfield 9, 3)) ∧ (decode cX11_house 116 = .ok (.bipush 6, 2)) ∧ (decode cX11_house 118 = .ok (.iaload, 1)) ∧ (decode cX11_house 119 = .ok (.ireturn, 1)) ∧ (decode cX11_house 94 = .ok (.aload_n 0, 1)) ∧ (decode cX11_house 95 = .ok (.getfield 9, 3)) ∧ (decode cX11_house 98 = .ok (.iload_n 1, 1)) ∧ (decode cX11_house 99 = .ok (.aload_n 0, 1)) ∧ (decode cX11_house 100 = .ok (.getfield 31, 3)) ∧ (decode cX11_house 103 = .ok (.iload_n 1, 1)) ∧ (decode cX11_house 104 = .ok (.iaload, 1)) ∧ (decode cX11_house 105 = .ok (.iastore, 1)) ∧ (decode cX11_house 106 = .ok (.iinc 1 1, 3)) ∧ (decode cX11_house 109 = .ok (.goto (-22), 3)) := by decide +kernel
theorem dX11_house_55 : decode cX11_house 55 = .ok (.invokevirtual 133, 3) := db344.1
theorem dX11_house_75 : decode cX11_house 75 = .ok (.aload_n 0, 1) := db344.2.1
theorem dX11_house_76 : decode cX11_house 76 = .ok (.invokevirtual 133, 3) := db344.2.2.1
theorem dX11_house_79 : decode cX11_house 79 = .ok (.ifCond .ne 6, 3) := db344.2.2.2.1
theorem dX11_house_85 : decode cX11_house 85 = .ok (.iconst 0, 1) := db344.2.2.2.2.1
theorem dX11_house_86 : decode cX11_house 86 = .ok (.istore_n 1, 1) := db344.2.2.2.2.2.1
theorem dX11_house_87 : decode cX11_house 87 = .ok (.iload_n 1, 1) := db344.2.2.2.2.2.2.1
theorem dX11_house_88 : decode cX11_house 88 = .ok (.sipush 144, 3) := db344.2.2.2.2.2.2.2.1
theorem dX11_house_91 : decode cX11_house 91 = .ok (.if_icmp .ge 21, 3) := db344.2.2.2.2.2.2.2.2.1
theorem dX11_house_112 : decode cX11_house 112 = .ok (.aload_n 0, 1) := db344.2.2.2.2.2.2.2.2.2.1
theorem dX11_house_113 : decode cX11_house 113 = .ok (.getfield 9, 3) := db344.2.2.2.2.2.2.2.2.2.2.1
theorem dX11_house_116 : decode cX11_house 116 = .ok (.bipush 6, 2) := db344.2.2.2.2.2.2.2.2.2.2.2.1
theorem dX11_house_118 : decode cX11_house 118 = .ok (.iaload, 1) := db344.2.2.2.2.2.2.2.2.2.2.2.2.1
theorem dX11_house_119 : decode cX11_house 119 = .ok (.ireturn, 1) := db344.2.2.2.2.2.2.2.2.2.2.2.2.2.1
theorem dX11_house_94 : decode cX11_house 94 = .ok (.aload_n 0, 1) := db344.2.2.2.2.2.2.2.2.2.2.2.2.2.2.1
theorem dX11_house_95 : decode cX11_house 95 = .ok (.getfield 9, 3) := db344.2.2.2.2.2.2.2.2.2.2.2.2.2.2.2.1
theorem dX11_house_98 : decode cX11_house 98 = .ok (.iload_n 1, 1) := db344.2.2.2.2.2.2.2.2.2.2.2.2.2.2.2.2.1
theorem dX11_house_99 : decode cX11_house 99 = .ok (.aload_n 0, 1) := db344.2.2.2.2.2.2.2.2.2.2.2.2.2.2.2.2.2.1
theorem dX11_house_100 : decode cX11_house 100 = .ok (.getfield 31, 3) := db344.2.2.2.2.2.2.2.2.2.2.2.2.2.2.2.2.2.2.1
theorem dX11_house_103 : decode cX11_house 103 = .ok (.iload_n 1, 1) := db344.2.2.2.2.2.2.2.2.2.2.2.2.2.2.2.2.2.2.2.1
theorem dX11_house_104 : decode cX11_house 104 = .ok (.iaload, 1) := db344.2.2.2.2.2.2.2.2.2.2.2.2.2.2.2.2.2.2.2.2.1
theorem dX11_house_105 : decode cX11_house 105 = .ok (.iastore, 1) := db344.2.2.2.2.2.2.2.2.2.2.2.2.2.2.2.2.2.2.2.2.2.1
theorem dX11_house_106 : decode cX11_house 106 = .ok (.iinc 1 1, 3) := db344.2.2.2.2.2.2.2.2.2.2.2.2.2.2.2.2.2.2.2.2.2.2.1
theorem dX11_house_109 : decode cX11_house 109 = .ok (.goto (-22), 3) := db344.2.2.2.2.2.2.2.2.2.2.2.2.2.2.2.2.2.2.2.2.2.2.2
theorem db345 : (decode cX11_house 82 = .ok (.bipush (-4), 2)) ∧ (decode cX11_house 84 = .ok (.ireturn, 1)) ∧ (decode cX11_house 58 = .ok (.ifCond .eq 17, 3)) ∧ (decode cX11_house 61 = .ok (.aload_n 0, 1)) ∧ (decode cX11_house 62 = .ok (.getfield 109, 3)) ∧ (decode cX11_house 65 = .ok (.ifCond .eq 10, 3)) ∧ (decode cX11_house 68 = .ok (.aload_n 0, 1)) ∧ (decode cX11_house 69 = .ok (.invokevirtual 222, 3)) ∧ (decode cX11_house 72 = .ok (.goto (-18), 3)) ∧ (decode cX11_house 37 = .ok (.aload_n 0, 1)) ∧ (decode cX11_house 38 = .ok (.getfield 31, 3)) ∧ (decode cX11_house 41 = .ok (.iload_n 1, 1)) ∧ (decode cX11_house 42 = .ok (.iconst 0, 1)) ∧ (decode cX11_house 43 = .ok (.iastore, 1)) ∧ (decode cX11_house 44 = .ok (.iinc 1 1, 3)) ∧ (decode cX11_house 47 = .ok (.goto (-17), 3)) := by decide +kernel
theorem dX11_house_82 : decode cX11_house 82 = .ok (.bipush (-4), 2) := db345.1
theorem dX11_house_84 : decode cX11_house 84 = .ok (.ireturn, 1) := db345.2.1
theorem dX11_house_58 : decode cX11_house 58 = .ok (.ifCond .eq 17, 3) := db345.2.2.1
theorem dX11_house_61 : decode cX11_house 61 = .ok (.aload_n 0, 1) := db345.2.2.2.1
theorem dX11_house_62 : decode cX11_house 62 = .ok (.getfield 109, 3) := db345.2.2.2.2.1
theorem dX11_house_65 : decode cX11_house 65 = .ok (.ifCond .eq 10, 3) := db345.2.2.2.2.2.1
theorem dX11_house_68 : decode cX11_house 68 = .ok (.aload_n 0, 1) := db345.2.2.2.2.2.2.1
theorem dX11_house_69 : decode cX11_house 69 = .ok (.invokevirtual 222, 3) := db345.2.2.2.2.2.2.2.1
theorem dX11_house_72 : decode cX11_house 72 = .ok (.goto (-18), 3) := db345.2.2.2.2.2.2.2.2.1
theorem dX11_house_37 : decode cX11_house 37 = .ok (.aload_n 0, 1) := db345.2.2.2.2.2.2.2.2.2.1
theorem dX11_house_38 : decode cX11_house 38 = .ok (.getfield 31, 3) := db345.2.2.2.2.2.2.2.2.2.2.1
theorem dX11_house_41 : decode cX11_house 41 = .ok (.iload_n 1, 1) := db345.2.2.2.2.2.2.2.2.2.2.2.1
theorem dX11_house_42 : decode cX11_house 42 = .ok (.iconst 0, 1) := db345.2.2.2.2.2.2.2.2.2.2.2.2.1
theorem dX11_house_43 : decode cX11_house 43 = .ok (.iastore, 1) := db345.2.2.2.2.2.2.2.2.2.2.2.2.2.1
theorem dX11_house_44 : decode cX11_house 44 = .ok (.iinc 1 1, 3) := db345.2.2.2.2.2.2.2.2.2.2.2.2.2.2.1
theorem dX11_house_47 : decode cX11_house 47 = .ok (.goto (-17), 3) := db345.2.2.2.2.2.2.2.2.2.2.2.2.2.2.2
theorem db346 : (decode cX11_image 0 = .ok (.iload_n 1, 1)) ∧ (decode cX11_image 1 = .ok (.i2l, 1)) ∧ (decode cX11_image 2 = .ok (.lconst 0, 1)) ∧ (decode cX11_image 3 = .ok (.ldc2_w 77, 3)) ∧ (decode cX11_image 6 = .ok (.invokestatic 79, 3)) ∧ (decode cX11_image 9 = .ok (.ifCond .ne 6, 3)) ∧ (decode cX11_image 15 = .ok (.iconst 0, 1)) ∧ (decode cX11_image 16 = .ok (.istore_n 2, 1)) ∧ (decode cX11_image 17 = .ok (.iload_n 2, 1)) ∧ (decode cX11_image 18 = .ok (.sipush 144, 3)) ∧ (decode cX11_image 21 = .ok (.if_icmp .ge 27, 3)) ∧ (decode cX11_image 48 = .ok (.aload_n 0, 1)) ∧ (decode cX11_image 49 = .ok (.getfield 16, 3)) ∧ (decode cX11_image 52 = .ok (.iload_n 1, 1)) ∧ (decode cX11_image 53 = .ok (.iconst 1, 1)) ∧ (decode cX11_image 54 = .ok (.bastore, 1)) ∧ (decode cX11_image 55 = .ok (.iconst 0, 1)) ∧ (decode cX11_image 56 = .ok (.ireturn, 1)) ∧ (decode cX11_image 24 = .ok (.aload_n 0, 1)) ∧ (decode cX11_image 25 = .ok (.getfield 13, 3)) ∧ (decode cX11_image 28 = .ok (.sipush 144, 3)) ∧ (decode cX11_image 31 = .ok (.iload_n 1, 1)) ∧ (decode cX11_image 32 = .ok (.imul, 1)) ∧ (decode cX11_image 33 = .ok (.iload_n 2, 1)) := by decide +kernel
theorem dX11_image_0 : decode cX11_image 0 = .ok (.iload_n 1, 1) := db346.1
theorem dX11_image_1 : decode cX11_image 1 = .ok (.i2l, 1) := db346.2.1
theorem dX11_image_2 : decode cX11_image 2 = .ok (.lconst 0, 1) := db346.2.2.1
theorem dX11_image_3 : decode cX11_image 3 = .ok (.ldc2_w 77, 3) := db346.2.2.2.1
theorem dX11_image_6 : decode cX11_image 6 = .ok (.invokestatic 79, 3) := db346.2.2.2.2.1
theorem dX11_image_9 : decode cX11_image 9 = .ok (.ifCond .ne 6, 3) := db346.2.2.2.2.2.1
theorem dX11_image_15 : decode cX11_image 15 = .ok (.iconst 0, 1) := db346.2.2.2.2.2.2.1
theorem dX11_image_16 : decode cX11_image 16 = .ok (.istore_n 2, 1) := db346.2.2.2.2.2.2.2.1
theorem dX11_image_17 : decode cX11_image 17 = .ok (.iload_n 2, 1) := db346.2.2.2.2.2.2.2.2.1
theorem dX11_image_18 : decode cX11_image 18 = .ok (.sipush 144, 3) := db346.2.2.2.2.2.2.2.2.2.1
theorem dX11_image_21 : decode cX11_image 21 = .ok (.if_icmp .ge 27, 3) := db346.2.2.2.2.2.2.2.2.2.2.1
theorem dX11_image_48 : decode cX11_image 48 = .ok (.aload_n 0, 1) := db346.2.2.2.2.2.2.2.2.2.2.2.1
theorem dX11_image_49 : decode cX11_image 49 = .ok (.getfield 16, 3) := db346.2.2.2.2.2.2.2.2.2.2.2.2.1
theorem dX11_image_52 : decode cX11_image 52 = .ok (.iload_n 1, 1) := db346.2.2.2.2.2.2.2.2.2.2.2.2.2.1
theorem dX11_image_53 : decode cX11_image 53 = .ok (.iconst 1, 1) := db346.2.2.2.2.2.2.2.2.2.2.2.2.2.2.1
theorem dX11_image_54 : decode cX11_image 54 = .ok (.bastore, 1) := db346.2.2.2.2.2.2.2.2.2.2.2.2.2.2.2.1
theorem dX11_image_55 : decode cX11_image 55 = .ok (.iconst 0, 1) := db346.2.2.2.2.2.2.2.2.2.2.2.2.2.2.2.2.1
theorem dX11_image_56 : decode cX11_image 56 = .ok (.ireturn, 1) := db346.2.2.2.2.2.2.2.2.2.2.2.2.2.2.2.2.2.1
theorem dX11_image_24 : decode cX11_image 24 = .ok (.aload_n 0, 1) := db346.2.2.2.2.2.2.2.2.2.2.2.2.2.2.2.2.2.2.1
theorem dX11_image_25 : decode cX11_image 25 = .ok (.getfield 13, 3) := db346.2.2.2.2.2.2.2.2.2.2.2.2.2.2.2.2.2.2.2.1
theorem dX11_image_28 : decode cX11_image 28 = .ok (.sipush 144, 3) := db346.2.2.2.2.2.2.2.2.2.2.2.2.2.2.2.2.2.2.2.2.1
theorem dX11_image_31 : decode cX11_image 31 = .ok (.iload_n 1, 1) := db346.2.2.2.2.2.2.2.2.2.2.2.2.2.2.2.2.2.2.2.2.2.1
theorem dX11_image_32 : decode cX11_image 32 = .ok (.imul, 1) := db346.2.2.2.2.2.2.2.2.2.2.2.2.2.2.2.2.2.2.2.2.2.2.1
theorem dX11_image_33 : decode cX11_image 33 = .ok (.iload_n 2, 1) := db346.2.2.2.2.2.2.2.2.2.2.2.2.2.2.2.2.2.2.2.2.2.2.2
theorem db347 : (decode cX11_image 34 = .ok (.iadd, 1)) ∧ (decode cX11_image 35 = .ok (.aload_n 0, 1)) ∧ (decode cX11_image 36 = .ok (.getfield 9, 3)) ∧ (decode cX11_image 39 = .ok (.iload_n 2, 1)) ∧ (decode cX11_image 40 = .ok (.iaload, 1)) ∧ (decode cX11_image 41 = .ok (.iastore, 1)) ∧ (decode cX11_image 42 = .ok (.iinc 2 1, 3)) ∧ (decode cX11_image 45 = .ok (.goto (-28), 3)) ∧ (decode cX11_image 12 = .ok (.bipush (-2), 2)) ∧ (decode cX11_image 14 = .ok (.ireturn, 1)) := by decide +kernel
theorem dX11_image_34 : decode cX11_image 34 = .ok (.iadd, 1) := db347.1
theorem dX11_image_35 : decode cX11_image 35 = .ok (.aload_n 0, 1) := db347.2.1
theorem dX11_image_36 : decode cX11_image 36 = .ok (.getfield 9, 3) := db347.2.2.1
theorem dX11_image_39 : decode cX11_image 39 = .ok (.iload_n 2, 1) := db347.2.2.2.1
theorem dX11_image_40 : decode cX11_image 40 = .ok (.iaload, 1) := db347.2.2.2.2.1
theorem dX11_image_41 : decode cX11_image 41 = .ok (.iastore, 1) := db347.2.2.2.2.2.1
theorem dX11_image_42 : decode cX11_image 42 = .ok (.iinc 2 1, 3) := db347.2.2.2.2.2.2.1
theorem dX11_image_45 : decode cX11_image 45 = .ok (.goto (-28), 3) := db347.2.2.2.2.2.2.2.1
theorem dX11_image_12 : decode cX11_image 12 = .ok (.bipush (-2), 2) := db347.2.2.2.2.2.2.2.2.1
theorem dX11_image_14 : decode cX11_image 14 = .ok (.ireturn, 1) := db347.2.2.2.2.2.2.2.2.2
theorem db348 : (decode cX11_in 0 = .ok (.lload_n 0, 1)) ∧ (decode cX11_in 1 = .ok (.lload_n 2, 1)) ∧ (decode cX11_in 2 = .ok (.lcmp, 1)) ∧ (decode cX11_in 3 = .ok (.ifCond .lt 14, 3)) ∧ (decode cX11_in 17 = .ok (.iconst 0, 1)) ∧ (decode cX11_in 18 = .ok (.ireturn, 1)) ∧ (decode cX11_in 6 = .ok (.lload_n 0, 1)) ∧ (decode cX11_in 7 = .ok (.lload 4, 2)) ∧ (decode cX11_in 9 = .ok (.lcmp, 1)) ∧ (decode cX11_in 10 = .ok (.ifCond .gt 7, 3)) ∧ (decode cX11_in 13 = .ok (.iconst 1, 1)) ∧ (decode cX11_in 14 = .ok (.goto 4, 3)) := by decide +kernel
theorem dX11_in_0 : decode cX11_in 0 = .ok (.lload_n 0, 1) := db348.1
theorem dX11_in_1 : decode cX11_in 1 = .ok (.lload_n 2, 1) := db348.2.1
theorem dX11_in_2 : decode cX11_in 2 = .ok (.lcmp, 1) := db348.2.2.1
theorem dX11_in_3 : decode cX11_in 3 = .ok (.ifCond .lt 14, 3) := db348.2.2.2.1
theorem dX11_in_17 : decode cX11_in 17 = .ok (.iconst 0, 1) := db348.2.2.2.2.1
theorem dX11_in_18 : decode cX11_in 18 = .ok (.ireturn, 1) := db348.2.2.2.2.2.1
theorem dX11_in_6 : decode cX11_in 6 = .ok (.lload_n 0, 1) := db348.2.2.2.2.2.2.1
theorem dX11_in_7 : decode cX11_in 7 = .ok (.lload 4, 2) := db348.2.2.2.2.2.2.2.1
theorem dX11_in_9 : decode cX11_in 9 = .ok (.lcmp, 1) := db348.2.2.2.2.2.2.2.2.1
theorem dX11_in_10 : decode cX11_in 10 = .ok (.ifCond .gt 7, 3) := db348.2.2.2.2.2.2.2.2.2.1
theorem dX11_in_13 : decode cX11_in 13 = .ok (.iconst 1, 1) := db348.2.2.2.2.2.2.2.2.2.2.1
theorem dX11_in_14 : decode cX11_in 14 = .ok (.goto 4, 3) := db348.2.2.2.2.2.2.2.2.2.2.2
theorem db349 : (decode cX11_inHouse 0 = .ok (.iconst 0, 1)) ∧ (decode cX11_inHouse 1 = .ok (.istore_n 1, 1)) ∧ (decode cX11_inHouse 2 = .ok (.iconst 0, 1)) ∧ (decode cX11_inHouse 3 = .ok (.istore_n 2, 1)) ∧ (decode cX11_inHouse 4 = .ok (.iload_n 2, 1)) ∧ (decode cX11_inHouse 5 = .ok (.aload_n 0, 1)) ∧ (decode cX11_inHouse 6 = .ok (.getfield 9, 3)) ∧ (decode cX11_inHouse 9 = .ok (.iconst 4, 1)) ∧ (decode cX11_inHouse 10 = .ok (.iaload, 1)) ∧ (decode cX11_inHouse 11 = .ok (.if_icmp .ge 18, 3)) ∧ (decode cX11_inHouse 29 = .ok (.iload_n 1, 1)) ∧ (decode cX11_inHouse 30 = .ok (.ireturn, 1)) ∧ (decode cX11_inHouse 14 = .ok (.iload_n 1, 1)) ∧ (decode cX11_inHouse 15 = .ok (.aload_n 0, 1)) ∧ (decode cX11_inHouse 16 = .ok (.getfield 34, 3)) ∧ (decode cX11_inHouse 19 = .ok (.iload_n 2, 1)) ∧ (decode cX11_inHouse 20 = .ok (.iaload, 1)) ∧ (decode cX11_inHouse 21 = .ok (.iadd, 1)) ∧ (decode cX11_inHouse 22 = .ok (.istore_n 1, 1)) ∧ (decode cX11_inHouse 23 = .ok (.iinc 2 1, 3)) ∧ (decode cX11_inHouse 26 = .ok (.goto (-22), 3)) := by decide +kernel
theorem dX11_inHouse_0 : decode cX11_inHouse 0 = .ok (.iconst 0, 1) := db349.1
theorem dX11_inHouse_1 : decode cX11_inHouse 1 = .ok (.istore_n 1, 1) := db349.2.1
theorem dX11_inHouse_2 : decode cX11_inHouse 2 = .ok (.iconst 0, 1) := db349.2.2.1
theorem dX11_inHouse_3 : decode cX11_inHouse 3 = .ok (.istore_n 2, 1) := db349.2.2.2.1
theorem dX11_inHouse_4 : decode cX11_inHouse 4 = .ok (.iload_n 2, 1) := db349.2.2.2.2.1
theorem dX11_inHouse_5 : decode cX11_inHouse 5 = .ok (.aload_n 0, 1) := db349.2.2.2.2.2.1
theorem dX11_inHouse_6 : decode cX11_inHouse 6 = .ok (.getfield 9, 3) := db349.2.2.2.2.2.2.1
theorem dX11_inHouse_9 : decode cX11_inHouse 9 = .ok (.iconst 4, 1) := db349.2.2.2.2.2.2.2.1
theorem dX11_inHouse_10 : decode cX11_inHouse 10 = .ok (.iaload, 1) := db349.2.2.2.2.2.2.2.2.1
theorem dX11_inHouse_11 : decode cX11_inHouse 11 = .ok (.if_icmp .ge 18, 3) := db349.2.2.2.2.2.2.2.2.2.1
theorem dX11_inHouse_29 : decode cX11_inHouse 29 = .ok (.iload_n 1, 1) := db349.2.2.2.2.2.2.2.2.2.2.1
theorem dX11_inHouse_30 : decode cX11_inHouse 30 = .ok (.ireturn, 1) := db349.2.2.2.2.2.2.2.2.2.2.2.1
theorem dX11_inHouse_14 : decode cX11_inHouse 14 = .ok (.iload_n 1, 1) := db349.2.2.2.2.2.2.2.2.2.2.2.2.1
theorem dX11_inHouse_15 : decode cX11_inHouse 15 = .ok (.aload_n 0, 1) := db349.2.2.2.2.2.2.2.2.2.2.2.2.2.1
theorem dX11_inHouse_16 : decode cX11_inHouse 16 = .ok (.getfield 34, 3) := db349.2.2.2.2.2.2.2.2.2.2.2.2.2.2.1
theorem dX11_inHouse_19 : decode cX11_inHouse 19 = .ok (.iload_n 2, 1) := db349.2.2.2.2.2.2.2.2.2.2.2.2.2.2.2.1
theorem dX11_inHouse_20 : decode cX11_inHouse 20 = .ok (.iaload, 1) := db349.2.2.2.2.2.2.2.2.2.2.2.2.2.2.2.2.1
theorem dX11_inHouse_21 : decode cX11_inHouse 21 = .ok (.iadd, 1) := db349.2.2.2.2.2.2.2.2.2.2.2.2.2.2.2.2.2.1
theorem dX11_inHouse_22 : decode cX11_inHouse 22 = .ok (.istore_n 1, 1) := db349.2.2.2.2.2.2.2.2.2.2.2.2.2.2.2.2.2.2.1
theorem dX11_inHouse_23 : decode cX11_inHouse 23 = .ok (.iinc 2 1, 3) := db349.2.2.2.2.2.2.2.2.2.2.2.2.2.2.2.2.2.2.2.1
theorem dX11_inHouse_26 : decode cX11_inHouse 26 = .ok (.goto (-22), 3) := db349.2.2.2.2.2.2.2.2.2.2.2.2.2.2.2.2.2.2.2.2
theorem db350 : (decode cX11_inMillion 0 = .ok (.aload_n 0, 1)) ∧ (decode cX11_inMillion 1 = .ok (.invokevirtual 270, 3)) ∧ (decode cX11_inMillion 4 = .ok (.aload_n 0, 1)) ∧ (decode cX11_inMillion 5 = .ok (.getfield 246, 3)) ∧ (decode cX11_inMillion 8 = .ok (.iadd, 1)) ∧ (decode cX11_inMillion 9 = .ok (.istore_n 2, 1)) ∧ (decode cX11_inMillion 10 = .ok (.iload_n 2, 1)) ∧ (decode cX11_inMillion 11 = .ok (.ifCond .ne 7, 3)) ∧ (decode cX11_inMillion 18 = .ok (.iload_n 1, 1)) ∧ (decode cX11_inMillion 19 = .ok (.i2l, 1)) ∧ (decode cX11_inMillion 20 = .ok (.ldc2_w 273, 3)) ∧ (decode cX11_inMillion 23 = .ok (.lmul, 1)) ∧ (decode cX11_inMillion 24 = .ok (.iload_n 2, 1)) ∧ (decode cX11_inMillion 25 = .ok (.i2l, 1)) ∧ (decode cX11_inMillion 26 = .ok (.ldiv, 1)) ∧ (decode cX11_inMillion 27 = .ok (.l2i, 1)) ∧ (decode cX11_inMillion 28 = .ok (.ireturn, 1)) ∧ (decode cX11_inMillion 14 = .ok (.iconst 0, 1)) ∧ (decode cX11_inMillion 15 = .ok (.goto 13, 3)) := by decide +kernel
theorem dX11_inMillion_0 : decode cX11_inMillion 0 = .ok (.aload_n 0, 1) := db350.1
theorem dX11_inMillion_1 : decode cX11_inMillion 1 = .ok (.invokevirtual 270, 3) := db350.2.1
theorem dX11_inMillion_4 : decode cX11_inMillion 4 = .ok (.aload_n 0, 1) := db350.2.2.1
theorem dX11_inMillion_5 : decode cX11_inMillion 5 = .ok (.getfield 246, 3) := db350.2.2.2.1
theorem dX11_inMillion_8 : decode cX11_inMillion 8 = .ok (.iadd, 1) := db350.2.2.2.2.1
theorem dX11_inMillion_9 : decode cX11_inMillion 9 = .ok (.istore_n 2, 1) := db350.2.2.2.2.2.1
theorem dX11_inMillion_10 : decode cX11_inMillion 10 = .ok (.iload_n 2, 1) := db350.2.2.2.2.2.2.1
theorem dX11_inMillion_11 : decode cX11_inMillion 11 = .ok (.ifCond .ne 7, 3) := db350.2.2.2.2.2.2.2.1
theorem dX11_inMillion_18 : decode cX11_inMillion 18 = .ok (.iload_n 1, 1) := db350.2.2.2.2.2.2.2.2.1
theorem dX11_inMillion_19 : decode cX11_inMillion 19 = .ok (.i2l, 1) := db350.2.2.2.2.2.2.2.2.2.1
theorem dX11_inMillion_20 : decode cX11_inMillion 20 = .ok (.ldc2_w 273, 3) := db350.2.2.2.2.2.2.2.2.2.2.1
theorem dX11_inMillion_23 : decode cX11_inMillion 23 = .ok (.lmul, 1) := db350.2.2.2.2.2.2.2.2.2.2.2.1
theorem dX11_inMillion_24 : decode cX11_inMillion 24 = .ok (.iload_n 2, 1) := db350.2.2.2.2.2.2.2.2.2.2.2.2.1
theorem dX11_inMillion_25 : decode cX11_inMillion 25 = .ok (.i2l, 1) := db350.2.2.2.2.2.2.2.2.2.2.2.2.2.1
theorem dX11_inMillion_26 : decode cX11_inMillion 26 = .ok (.ldiv, 1) := db350.2.2.2.2.2.2.2.2.2.2.2.2.2.2.1
theorem dX11_inMillion_27 : decode cX11_inMillion 27 = .ok (.l2i, 1) := db350.2.2.2.2.2.2.2.2.2.2.2.2.2.2.2.1
theorem dX11_inMillion_28 : decode cX11_inMillion 28 = .ok (.ireturn, 1) := db350.2.2.2.2.2.2.2.2.2.2.2.2.2.2.2.2.1
theorem dX11_inMillion_14 : decode cX11_inMillion 14 = .ok (.iconst 0, 1) := db350.2.2.2.2.2.2.2.2.2.2.2.2.2.2.2.2.2.1
theorem dX11_inMillion_15 : decode cX11_inMillion 15 = .ok (.goto 13, 3) := db350.2.2.2.2.2.2.2.2.2.2.2.2.2.2.2.2.2.2
theorem db351 : (decode cX11_init 0 = .ok (.aload_n 0, 1)) ∧ (decode cX11_init 1 = .ok (.invokespecial 3, 3)) ∧ (decode cX11_init 4 = .ok (.aload_n 0, 1)) ∧ (decode cX11_init 5 = .ok (.sipush 144, 3)) ∧ (decode cX11_init 8 = .ok (.newarray .int, 2)) ∧ (decode cX11_init 10 = .ok (.putfield 9, 3)) ∧ (decode cX11_init 13 = .ok (.aload_n 0, 1)) ∧ (decode cX11_init 14 = .ok (.sipush 432, 3)) ∧ (decode cX11_init 17 = .ok (.newarray .int, 2)) ∧ (decode cX11_init 19 = .ok (.putfield 13, 3)) ∧ (decode cX11_init 22 = .ok (.aload_n 0, 1)) ∧ (decode cX11_init 23 = .ok (.iconst 3, 1)) ∧ (decode cX11_init 24 = .ok (.newarray .boolean, 2)) ∧ (decode cX11_init 26 = .ok (.putfield 16, 3)) ∧ (decode cX11_init 29 = .ok (.aload_n 0, 1)) ∧ (decode cX11_init 30 = .ok (.sipush 900, 3)) ∧ (decode cX11_init 33 = .ok (.newarray .byte, 2)) ∧ (decode cX11_init 35 = .ok (.putfield 20, 3)) ∧ (decode cX11_init 38 = .ok (.aload_n 0, 1)) ∧ (decode cX11_init 39 = .ok (.iconst 5, 1)) ∧ (decode cX11_init 40 = .ok (.newarray .int, 2)) ∧ (decode cX11_init 42 = .ok (.putfield 24, 3)) ∧ (decode cX11_init 45 = .ok (.aload_n 0, 1)) ∧ (decode cX11_init 46 = .ok (.iconst (-1), 1)) := by decide +kernel
theorem dX11_init_0 : decode cX11_init 0 = .ok (.aload_n 0, 1) := db351.1
theorem dX11_init_1 : decode cX11_init 1 = .ok (.invokespecial 3, 3) := db351.2.1
theorem dX11_init_4 : decode cX11_init 4 = .ok (.aload_n 0, 1) := db351.2.2.1
theorem dX11_init_5 : decode cX11_init 5 = .ok (.sipush 144, 3) := db351.2.2.2.1
theorem dX11_init_8 : decode cX11_init 8 = .ok (.newarray .int, 2) := db351.2.2.2.2.1
theorem dX11_init_10 : decode cX11_init 10 = .ok (.putfield 9, 3) := db351.2.2.2.2.2.1
theorem dX11_init_13 : decode cX11_init 13 = .ok (.aload_n 0, 1) := db351.2.2.2.2.2.2.1
theorem dX11_init_14 : decode cX11_init 14 = .ok (.sipush 432, 3) := db351.2.2.2.2.2.2.2.1
theorem dX11_init_17 : decode cX11_init 17 = .ok (.newarray .int, 2) := db351.2.2.2.2.2.2.2.2.1
theorem dX11_init_19 : decode cX11_init 19 = .ok (.putfield 13, 3) := db351.2.2.2.2.2.2.2.2.2.1
theorem dX11_init_22 : decode cX11_init 22 = .ok (.aload_n 0, 1) := db351.2.2.2.2.2.2.2.2.2.2.1
theorem dX11_init_23 : decode cX11_init 23 = .ok (.iconst 3, 1) := db351.2.2.2.2.2.2.2.2.2.2.2.1
theorem dX11_init_24 : decode cX11_init 24 = .ok (.newarray .boolean, 2) := db351.2.2.2.2.2.2.2.2.2.2.2.2.1
theorem dX11_init_26 : decode cX11_init 26 = .ok (.putfield 16, 3) := db351.2.2.2.2.2.2.2.2.2.2.2.2.2.1
theorem dX11_init_29 : decode cX11_init 29 = .ok (.aload_n 0, 1) := db351.2.2.2.2.2.2.2.2.2.2.2.2.2.2.1
theorem dX11_init_30 : decode cX11_init 30 = .ok (.sipush 900, 3) := db351.2.2.2.2.2.2.2.2.2.2.2.2.2.2.2.1
theorem dX11_init_33 : decode cX11_init 33 = .ok (.newarray .byte, 2) := db351.2.2.2.2.2.2.2.2.2.2.2.2.2.2.2.2.1
theorem dX11_init_35 : decode cX11_init 35 = .ok (.putfield 20, 3) := db351.2.2.2.2.2.2.2.2.2.2.2.2.2.2.2.2.2.1
theorem dX11_init_38 : decode cX11_init 38 = .ok (.aload_n 0, 1) := db351.2.2.2.2.2.2.2.2.2.2.2.2.2.2.2.2.2.2.1
theorem dX11_init_39 : decode cX11_init 39 = .ok (.iconst 5, 1) := db351.2.2.2.2.2.2.2.2.2.2.2.2.2.2.2.2.2.2.2.1
theorem dX11_init_40 : decode cX11_init 40 = .ok (.newarray .int, 2) := db351.2.2.2.2.2.2.2.2.2.2.2.2.2.2.2.2.2.2.2.2.1
theorem dX11_init_42 : decode cX11_init 42 = .ok (.putfield 24, 3) := db351.2.2.2.2.2.2.2.2.2.2.2.2.2.2.2.2.2.2.2.2.2.1
theorem dX11_init_45 : decode cX11_init 45 = .ok (.aload_n 0, 1) := db351.2.2.2.2.2.2.2.2.2.2.2.2.2.2.2.2.2.2.2.2.2.2.1
theorem dX11_init_46 : decode cX11_init 46 = .ok (.iconst (-1), 1) := db351.2.2.2.2.2.2.2.2.2.2.2.2.2.2.2.2.2.2.2.2.2.2.2
theorem db352 : (decode cX11_init 47 = .ok (.putfield 27, 3)) ∧ (decode cX11_init 50 = .ok (.aload_n 0, 1)) ∧ (decode cX11_init 51 = .ok (.sipush 144, 3)) ∧ (decode cX11_init 54 = .ok (.newarray .int, 2)) ∧ (decode cX11_init 56 = .ok (.putfield 31, 3)) ∧ (decode cX11_init 59 = .ok (.aload_n 0, 1)) ∧ (decode cX11_init 60 = .ok (.bipush 7, 2)) ∧ (decode cX11_init 62 = .ok (.newarray .int, 2)) ∧ (decode cX11_init 64 = .ok (.putfield 34, 3)) ∧ (decode cX11_init 67 = .ok (.aload_n 0, 1)) ∧ (decode cX11_init 68 = .ok (.bipush 7, 2)) ∧ (decode cX11_init 70 = .ok (.newarray .int, 2)) ∧ (decode cX11_init 72 = .ok (.putfield 37, 3)) ∧ (decode cX11_init 75 = .ok (.aload_n 0, 1)) ∧ (decode cX11_init 76 = .ok (.iconst 5, 1)) ∧ (decode cX11_init 77 = .ok (.newarray .int, 2)) ∧ (decode cX11_init 79 = .ok (.putfield 40, 3)) ∧ (decode cX11_init 82 = .ok (.aload_n 0, 1)) ∧ (decode cX11_init 83 = .ok (.iconst 5, 1)) ∧ (decode cX11_init 84 = .ok (.newarray .int, 2)) ∧ (decode cX11_init 86 = .ok (.putfield 43, 3)) ∧ (decode cX11_init 89 = .ok (.aload_n 0, 1)) ∧ (decode cX11_init 90 = .ok (.bipush 7, 2)) ∧ (decode cX11_init 92 = .ok (.newarray .int, 2)) := by decide +kernel
theorem dX11_init_47 : decode cX11_init 47 = .ok (.putfield 27, 3) := db352.1
theorem dX11_init_50 : decode cX11_init 50 = .ok (.aload_n 0, 1) := db352.2.1
theorem dX11_init_51 : decode cX11_init 51 = .ok (.sipush 144, 3) := db352.2.2.1
theorem dX11_init_54 : decode cX11_init 54 = .ok (.newarray .int, 2) := db352.2.2.2.1
theorem dX11_init_56 : decode cX11_init 56 = .ok (.putfield 31, 3) := db352.2.2.2.2.1
theorem dX11_init_59 : decode cX11_init 59 = .ok (.aload_n 0, 1) := db352.2.2.2.2.2.1
theorem dX11_init_60 : decode cX11_init 60 = .ok (.bipush 7, 2) := db352.2.2.2.2.2.2.1
theorem dX11_init_62 : decode cX11_init 62 = .ok (.newarray .int, 2) := db352.2.2.2.2.2.2.2.1
theorem dX11_init_64 : decode cX11_init 64 = .ok (.putfield 34, 3) := db352.2.2.2.2.2.2.2.2.1
theorem dX11_init_67 : decode cX11_init 67 = .ok (.aload_n 0, 1) := db352.2.2.2.2.2.2.2.2.2.1
theorem dX11_init_68 : decode cX11_init 68 = .ok (.bipush 7, 2) := db352.2.2.2.2.2.2.2.2.2.2.1
theorem dX11_init_70 : decode cX11_init 70 = .ok (.newarray .int, 2) := db352.2.2.2.2.2.2.2.2.2.2.2.1
theorem dX11_init_72 : decode cX11_init 72 = .ok (.putfield 37, 3) := db352.2.2.2.2.2.2.2.2.2.2.2.2.1
theorem dX11_init_75 : decode cX11_init 75 = .ok (.aload_n 0, 1) := db352.2.2.2.2.2.2.2.2.2.2.2.2.2.1
theorem dX11_init_76 : decode cX11_init 76 = .ok (.iconst 5, 1) := db352.2.2.2.2.2.2.2.2.2.2.2.2.2.2.1
theorem dX11_init_77 : decode cX11_init 77 = .ok (.newarray .int, 2) := db352.2.2.2.2.2.2.2.2.2.2.2.2.2.2.2.1
theorem dX11_init_79 : decode cX11_init 79 = .ok (.putfield 40, 3) := db352.2.2.2.2.2.2.2.2.2.2.2.2.2.2.2.2.1
theorem dX11_init_82 : decode cX11_init 82 = .ok (.aload_n 0, 1) := db352.2.2.2.2.2.2.2.2.2.2.2.2.2.2.2.2.2.1
theorem dX11_init_83 : decode cX11_init 83 = .ok (.iconst 5, 1) := db352.2.2.2.2.2.2.2.2.2.2.2.2.2.2.2.2.2.2.1
theorem dX11_init_84 : decode cX11_init 84 = .ok (.newarray .int, 2) := db352.2.2.2.2.2.2.2.2.2.2.2.2.2.2.2.2.2.2.2.1
theorem dX11_init_86 : decode cX11_init 86 = .ok (.putfield 43, 3) := db352.2.2.2.2.2.2.2.2.2.2.2.2.2.2.2.2.2.2.2.2.1
theorem dX11_init_89 : decode cX11_init 89 = .ok (.aload_n 0, 1) := db352.2.2.2.2.2.2.2.2.2.2.2.2.2.2.2.2.2.2.2.2.2.1
theorem dX11_init_90 : decode cX11_init 90 = .ok (.bipush 7, 2) := db352.2.2.2.2.2.2.2.2.2.2.2.2.2.2.2.2.2.2.2.2.2.2.1
theorem dX11_init_92 : decode cX11_init 92 = .ok (.newarray .int, 2) := db352.2.2.2.2.2.2.2.2.2.2.2.2.2.2.2.2.2.2.2.2.2.2.2
theorem db353 : (decode cX11_init 94 = .ok (.putfield 46, 3)) ∧ (decode cX11_init 97 = .ok (.aload_n 0, 1)) ∧ (decode cX11_init 98 = .ok (.sipush 6272, 3)) ∧ (decode cX11_init 101 = .ok (.newarray .int, 2)) ∧ (decode cX11_init 103 = .ok (.putfield 49, 3)) ∧ (decode cX11_init 106 = .ok (.aload_n 0, 1)) ∧ (decode cX11_init 107 = .ok (.sipush 6272, 3)) ∧ (decode cX11_init 110 = .ok (.newarray .int, 2)) ∧ (decode cX11_init 112 = .ok (.putfield 52, 3)) ∧ (decode cX11_init 115 = .ok (.aload_n 0, 1)) ∧ (decode cX11_init 116 = .ok (.sipush 6272, 3)) ∧ (decode cX11_init 119 = .ok (.newarray .int, 2)) ∧ (decode cX11_init 121 = .ok (.putfield 55, 3)) ∧ (decode cX11_init 124 = .ok (.aload_n 0, 1)) ∧ (decode cX11_init 125 = .ok (.bipush 64, 2)) ∧ (decode cX11_init 127 = .ok (.newarray .int, 2)) ∧ (decode cX11_init 129 = .ok (.putfield 58, 3)) ∧ (decode cX11_init 132 = .ok (.aload_n 0, 1)) ∧ (decode cX11_init 133 = .ok (.iconst 4, 1)) ∧ (decode cX11_init 134 = .ok (.newarray .int, 2)) ∧ (decode cX11_init 136 = .ok (.dup, 1)) ∧ (decode cX11_init 137 = .ok (.iconst 0, 1)) ∧ (decode cX11_init 138 = .ok (.iconst (-1), 1)) ∧ (decode cX11_init 139 = .ok (.iastore, 1)) := by decide +kernel
theorem dX11_init_94 : decode cX11_init 94 = .ok (.putfield 46, 3) := db353.1
theorem dX11_init_97 : decode cX11_init 97 = .ok (.aload_n 0, 1) := db353.2.1
theorem dX11_init_98 : decode cX11_init 98 = .ok (.sipush 6272, 3) := db353.2.2.1
theorem dX11_init_101 : decode cX11_init 101 = .ok (.newarray .int, 2) := db353.2.2.2.1
theorem dX11_init_103 : decode cX11_init 103 = .ok (.putfield 49, 3) := db353.2.2.2.2.1
theorem dX11_init_106 : decode cX11_init 106 = .ok (.aload_n 0, 1) := db353.2.2.2.2.2.1
theorem dX11_init_107 : decode cX11_init 107 = .ok (.sipush 6272, 3) := db353.2.2.2.2.2.2.1
theorem dX11_init_110 : decode cX11_init 110 = .ok (.newarray .int, 2) := db353.2.2.2.2.2.2.2.1
theorem dX11_init_112 : decode cX11_init 112 = .ok (.putfield 52, 3) := db353.2.2.2.2.2.2.2.2.1
theorem dX11_init_115 : decode cX11_init 115 = .ok (.aload_n 0, 1) := db353.2.2.2.2.2.2.2.2.2.1
theorem dX11_init_116 : decode cX11_init 116 = .ok (.sipush 6272, 3) := db353.2.2.2.2.2.2.2.2.2.2.1
theorem dX11_init_119 : decode cX11_init 119 = .ok (.newarray .int, 2) := db353.2.2.2.2.2.2.2.2.2.2.2.1
theorem dX11_init_121 : decode cX11_init 121 = .ok (.putfield 55, 3) := db353.2.2.2.2.2.2.2.2.2.2.2.2.1
theorem dX11_init_124 : decode cX11_init 124 = .ok (.aload_n 0, 1) := db353.2.2.2.2.2.2.2.2.2.2.2.2.2.1
theorem dX11_init_125 : decode cX11_init 125 = .ok (.bipush 64, 2) := db353.2.2.2.2.2.2.2.2.2.2.2.2.2.2.1
theorem dX11_init_127 : decode cX11_init 127 = .ok (.newarray .int, 2) := db353.2.2.2.2.2.2.2.2.2.2.2.2.2.2.2.1
theorem dX11_init_129 : decode cX11_init 129 = .ok (.putfield 58, 3) := db353.2.2.2.2.2.2.2.2.2.2.2.2.2.2.2.2.1
theorem dX11_init_132 : decode cX11_init 132 = .ok (.aload_n 0, 1) := db353.2.2.2.2.2.2.2.2.2.2.2.2.2.2.2.2.2.1
theorem dX11_init_133 : decode cX11_init 133 = .ok (.iconst 4, 1) := db353.2.2.2.2.2.2.2.2.2.2.2.2.2.2.2.2.2.2.1
theorem dX11_init_134 : decode cX11_init 134 = .ok (.newarray .int, 2) := db353.2.2.2.2.2.2.2.2.2.2.2.2.2.2.2.2.2.2.2.1
theorem dX11_init_136 : decode cX11_init 136 = .ok (.dup, 1) := db353.2.2.2.2.2.2.2.2.2.2.2.2.2.2.2.2.2.2.2.2.1
theorem dX11_init_137 : decode cX11_init 137 = .ok (.iconst 0, 1) := db353.2.2.2.2.2.2.2.2.2.2.2.2.2.2.2.2.2.2.2.2.2.1
theorem dX11_init_138 : decode cX11_init 138 = .ok (.iconst (-1), 1) := db353.2.2.2.2.2.2.2.2.2.2.2.2.2.2.2.2.2.2.2.2.2.2.1
theorem dX11_init_139 : decode cX11_init 139 = .ok (.iastore, 1) := db353.2.2.2.2.2.2.2.2.2.2.2.2.2.2.2.2.2.2.2.2.2.2.2
theorem db354 : (decode cX11_init 140 = .ok (.dup, 1)) ∧ (decode cX11_init 141 = .ok (.iconst 1, 1)) ∧ (decode cX11_init 142 = .ok (.iconst (-1), 1)) ∧ (decode cX11_init 143 = .ok (.iastore, 1)) ∧ (decode cX11_init 144 = .ok (.dup, 1)) ∧ (decode cX11_init 145 = .ok (.iconst 2, 1)) ∧ (decode cX11_init 146 = .ok (.iconst (-1), 1)) ∧ (decode cX11_init 147 = .ok (.iastore, 1)) ∧ (decode cX11_init 148 = .ok (.dup, 1)) ∧ (decode cX11_init 149 = .ok (.iconst 3, 1)) ∧ (decode cX11_init 150 = .ok (.iconst (-1), 1)) ∧ (decode cX11_init 151 = .ok (.iastore, 1)) ∧ (decode cX11_init 152 = .ok (.putfield 61, 3)) ∧ (decode cX11_init 155 = .ok (.aload_n 0, 1)) ∧ (decode cX11_init 156 = .ok (.iconst 4, 1)) ∧ (decode cX11_init 157 = .ok (.newarray .int, 2)) ∧ (decode cX11_init 159 = .ok (.putfield 64, 3)) ∧ (decode cX11_init 162 = .ok (.aload_n 0, 1)) ∧ (decode cX11_init 163 = .ok (.sipush 240, 3)) ∧ (decode cX11_init 166 = .ok (.newarray .long, 2)) ∧ (decode cX11_init 168 = .ok (.putfield 67, 3)) ∧ (decode cX11_init 171 = .ok (.aload_n 0, 1)) ∧ (decode cX11_init 172 = .ok (.bipush 60, 2)) ∧ (decode cX11_init 174 = .ok (.newarray .long, 2)) := by decide +kernel
theorem dX11_init_140 : decode cX11_init 140 = .ok (.dup, 1) := db354.1
theorem dX11_init_141 : decode cX11_init 141 = .ok (.iconst 1, 1) := db354.2.1
theorem dX11_init_142 : decode cX11_init 142 = .ok (.iconst (-1), 1) := db354.2.2.1
theorem dX11_init_143 : decode cX11_init 143 = .ok (.iastore, 1) := db354.2.2.2.1
theorem dX11_init_144 : decode cX11_init 144 = .ok (.dup, 1) := db354.2.2.2.2.1
theorem dX11_init_145 : decode cX11_init 145 = .ok (.iconst 2, 1) := db354.2.2.2.2.2.1
theorem dX11_init_146 : decode cX11_init 146 = .ok (.iconst (-1), 1) := db354.2.2.2.2.2.2.1
theorem dX11_init_147 : decode cX11_init 147 = .ok (.iastore, 1) := db354.2.2.2.2.2.2.2.1
theorem dX11_init_148 : decode cX11_init 148 = .ok (.dup, 1) := db354.2.2.2.2.2.2.2.2.1
theorem dX11_init_149 : decode cX11_init 149 = .ok (.iconst 3, 1) := db354.2.2.2.2.2.2.2.2.2.1
theorem dX11_init_150 : decode cX11_init 150 = .ok (.iconst (-1), 1) := db354.2.2.2.2.2.2.2.2.2.2.1
theorem dX11_init_151 : decode cX11_init 151 = .ok (.iastore, 1) := db354.2.2.2.2.2.2.2.2.2.2.2.1
theorem dX11_init_152 : decode cX11_init 152 = .ok (.putfield 61, 3) := db354.2.2.2.2.2.2.2.2.2.2.2.2.1
theorem dX11_init_155 : decode cX11_init 155 = .ok (.aload_n 0, 1) := db354.2.2.2.2.2.2.2.2.2.2.2.2.2.1
theorem dX11_init_156 : decode cX11_init 156 = .ok (.iconst 4, 1) := db354.2.2.2.2.2.2.2.2.2.2.2.2.2.2.1
theorem dX11_init_157 : decode cX11_init 157 = .ok (.newarray .int, 2) := db354.2.2.2.2.2.2.2.2.2.2.2.2.2.2.2.1
theorem dX11_init_159 : decode cX11_init 159 = .ok (.putfield 64, 3) := db354.2.2.2.2.2.2.2.2.2.2.2.2.2.2.2.2.1
theorem dX11_init_162 : decode cX11_init 162 = .ok (.aload_n 0, 1) := db354.2.2.2.2.2.2.2.2.2.2.2.2.2.2.2.2.2.1
theorem dX11_init_163 : decode cX11_init 163 = .ok (.sipush 240, 3) := db354.2.2.2.2.2.2.2.2.2.2.2.2.2.2.2.2.2.2.1
theorem dX11_init_166 : decode cX11_init 166 = .ok (.newarray .long, 2) := db354.2.2.2.2.2.2.2.2.2.2.2.2.2.2.2.2.2.2.2.1
theorem dX11_init_168 : decode cX11_init 168 = .ok (.putfield 67, 3) := db354.2.2.2.2.2.2.2.2.2.2.2.2.2.2.2.2.2.2.2.2.1
theorem dX11_init_171 : decode cX11_init 171 = .ok (.aload_n 0, 1) := db354.2.2.2.2.2.2.2.2.2.2.2.2.2.2.2.2.2.2.2.2.2.1
theorem dX11_init_172 : decode cX11_init 172 = .ok (.bipush 60, 2) := db354.2.2.2.2.2.2.2.2.2.2.2.2.2.2.2.2.2.2.2.2.2.2.1
theorem dX11_init_174 : decode cX11_init 174 = .ok (.newarray .long, 2) := db354.2.2.2.2.2.2.2.2.2.2.2.2.2.2.2.2.2.2.2.2.2.2.2
theorem db355 : (decode cX11_init 176 = .ok (.putfield 71, 3)) ∧ (decode cX11_init 179 = .ok (.return_, 1)) := by decide +kernel
theorem dX11_init_176 : decode cX11_init 176 = .ok (.putfield 71, 3) := db355.1
theorem dX11_init_179 : decode cX11_init 179 = .ok (.return_, 1) := db355.2
theorem db356 : (decode cX11_is 0 = .ok (.aload_n 0, 1)) ∧ (decode cX11_is 1 = .ok (.invokevirtual 133, 3)) ∧ (decode cX11_is 36 = .ok (.istore_n 2, 1)) ∧ (decode cX11_is 37 = .ok (.iconst 0, 1)) ∧ (decode cX11_is 38 = .ok (.istore_n 3, 1)) ∧ (decode cX11_is 39 = .ok (.iload_n 3, 1)) ∧ (decode cX11_is 40 = .ok (.aload_n 1, 1)) ∧ (decode cX11_is 41 = .ok (.invokevirtual 136, 3)) ∧ (decode cX11_is 44 = .ok (.if_icmp .ge 38, 3)) ∧ (decode cX11_is 82 = .ok (.iload_n 2, 1)) ∧ (decode cX11_is 83 = .ok (.ireturn, 1)) ∧ (decode cX11_is 47 = .ok (.iload_n 2, 1)) ∧ (decode cX11_is 48 = .ok (.ifCond .eq 34, 3)) ∧ (decode cX11_is 51 = .ok (.aload_n 0, 1)) ∧ (decode cX11_is 52 = .ok (.getfield 20, 3)) ∧ (decode cX11_is 55 = .ok (.aload_n 0, 1)) ∧ (decode cX11_is 56 = .ok (.getfield 106, 3)) ∧ (decode cX11_is 59 = .ok (.iload_n 3, 1)) ∧ (decode cX11_is 60 = .ok (.iadd, 1)) ∧ (decode cX11_is 61 = .ok (.baload, 1)) ∧ (decode cX11_is 62 = .ok (.aload_n 1, 1)) ∧ (decode cX11_is 63 = .ok (.iload_n 3, 1)) ∧ (decode cX11_is 64 = .ok (.invokevirtual 142, 3)) ∧ (decode cX11_is 75 = .ok (.istore_n 2, 1)) := by decide +kernel
theorem dX11_is_0 : decode cX11_is 0 = .ok (.aload_n 0, 1) := db356.1
theorem dX11_is_1 : decode cX11_is 1 = .ok (.invokevirtual 133, 3) := db356.2.1
theorem dX11_is_36 : decode cX11_is 36 = .ok (.istore_n 2, 1) := db356.2.2.1
theorem dX11_is_37 : decode cX11_is 37 = .ok (.iconst 0, 1) := db356.2.2.2.1
theorem dX11_is_38 : decode cX11_is 38 = .ok (.istore_n 3, 1) := db356.2.2.2.2.1
theorem dX11_is_39 : decode cX11_is 39 = .ok (.iload_n 3, 1) := db356.2.2.2.2.2.1
theorem dX11_is_40 : decode cX11_is 40 = .ok (.aload_n 1, 1) := db356.2.2.2.2.2.2.1
theorem dX11_is_41 : decode cX11_is 41 = .ok (.invokevirtual 136, 3) := db356.2.2.2.2.2.2.2.1
theorem dX11_is_44 : decode cX11_is 44 = .ok (.if_icmp .ge 38, 3) := db356.2.2.2.2.2.2.2.2.1
theorem dX11_is_82 : decode cX11_is 82 = .ok (.iload_n 2, 1) := db356.2.2.2.2.2.2.2.2.2.1
theorem dX11_is_83 : decode cX11_is 83 = .ok (.ireturn, 1) := db356.2.2.2.2.2.2.2.2.2.2.1
theorem dX11_is_47 : decode cX11_is 47 = .ok (.iload_n 2, 1) := db356.2.2.2.2.2.2.2.2.2.2.2.1
theorem dX11_is_48 : decode cX11_is 48 = .ok (.ifCond .eq 34, 3) := db356.2.2.2.2.2.2.2.2.2.2.2.2.1
theorem dX11_is_51 : decode cX11_is 51 = .ok (.aload_n 0, 1) := db356.2.2.2.2.2.2.2.2.2.2.2.2.2.1
theorem dX11_is_52 : decode cX11_is 52 = .ok (.getfield 20, 3) := db356.2.2.2.2.2.2.2.2.2.2.2.2.2.2.1
theorem dX11_is_55 : decode cX11_is 55 = .ok (.aload_n 0, 1) := db356.2.2.2.2.2.2.2.2.2.2.2.2.2.2.2.1
theorem dX11_is_56 : decode cX11_is 56 = .ok (.getfield 106, 3) := db356.2.2.2.2.2.2.2.2.2.2.2.2.2.2.2.2.1
theorem dX11_is_59 : decode cX11_is 59 = .ok (.iload_n 3, 1) := db356.2.2.2.2.2.2.2.2.2.2.2.2.2.2.2.2.2.1
theorem dX11_is_60 : decode cX11_is 60 = .ok (.iadd, 1) := db356.2.2.2.2.2.2.2.2.2.2.2.2.2.2.2.2.2.2.1
theorem dX11_is_61 : decode cX11_is 61 = .ok (.baload, 1) := db356.2.2.2.2.2.2.2.2.2.2.2.2.2.2.2.2.2.2.2.1
theorem dX11_is_62 : decode cX11_is 62 = .ok (.aload_n 1, 1) := db356.2.2.2.2.2.2.2.2.2.2.2.2.2.2.2.2.2.2.2.2.1
theorem dX11_is_63 : decode cX11_is 63 = .ok (.iload_n 3, 1) := db356.2.2.2.2.2.2.2.2.2.2.2.2.2.2.2.2.2.2.2.2.2.1
theorem dX11_is_64 : decode cX11_is 64 = .ok (.invokevirtual 142, 3) := db356.2.2.2.2.2.2.2.2.2.2.2.2.2.2.2.2.2.2.2.2.2.2.1
theorem dX11_is_75 : decode cX11_is 75 = .ok (.istore_n 2, 1) := db356.2.2.2.2.2.2.2.2.2.2.2.2.2.2.2.2.2.2.2.2.2.2.2
theorem db357 : (decode cX11_is 76 = .ok (.iinc 3 1, 3)) ∧ (decode cX11_is 79 = .ok (.goto (-40), 3)) ∧ (decode cX11_is 67 = .ok (.if_icmp .ne 7, 3)) ∧ (decode cX11_is 74 = .ok (.iconst 0, 1)) ∧ (decode cX11_is 70 = .ok (.iconst 1, 1)) ∧ (decode cX11_is 71 = .ok (.goto 4, 3)) ∧ (decode cX11_is 35 = .ok (.iconst 0, 1)) ∧ (decode cX11_is 4 = .ok (.ifCond .eq 31, 3)) ∧ (decode cX11_is 7 = .ok (.aload_n 0, 1)) ∧ (decode cX11_is 8 = .ok (.getfield 109, 3)) ∧ (decode cX11_is 11 = .ok (.iconst 1, 1)) ∧ (decode cX11_is 12 = .ok (.if_icmp .ne 23, 3)) ∧ (decode cX11_is 15 = .ok (.aload_n 0, 1)) ∧ (decode cX11_is 16 = .ok (.getfield 99, 3)) ∧ (decode cX11_is 19 = .ok (.aload_n 0, 1)) ∧ (decode cX11_is 20 = .ok (.getfield 106, 3)) ∧ (decode cX11_is 23 = .ok (.isub, 1)) ∧ (decode cX11_is 24 = .ok (.aload_n 1, 1)) ∧ (decode cX11_is 25 = .ok (.invokevirtual 136, 3)) ∧ (decode cX11_is 28 = .ok (.if_icmp .ne 7, 3)) ∧ (decode cX11_is 31 = .ok (.iconst 1, 1)) ∧ (decode cX11_is 32 = .ok (.goto 4, 3)) := by decide +kernel
theorem dX11_is_76 : decode cX11_is 76 = .ok (.iinc 3 1, 3) := db357.1
theorem dX11_is_79 : decode cX11_is 79 = .ok (.goto (-40), 3) := db357.2.1
theorem dX11_is_67 : decode cX11_is 67 = .ok (.if_icmp .ne 7, 3) := db357.2.2.1
theorem dX11_is_74 : decode cX11_is 74 = .ok (.iconst 0, 1) := db357.2.2.2.1
theorem dX11_is_70 : decode cX11_is 70 = .ok (.iconst 1, 1) := db357.2.2.2.2.1
theorem dX11_is_71 : decode cX11_is 71 = .ok (.goto 4, 3) := db357.2.2.2.2.2.1
theorem dX11_is_35 : decode cX11_is 35 = .ok (.iconst 0, 1) := db357.2.2.2.2.2.2.1
theorem dX11_is_4 : decode cX11_is 4 = .ok (.ifCond .eq 31, 3) := db357.2.2.2.2.2.2.2.1
theorem dX11_is_7 : decode cX11_is 7 = .ok (.aload_n 0, 1) := db357.2.2.2.2.2.2.2.2.1
theorem dX11_is_8 : decode cX11_is 8 = .ok (.getfield 109, 3) := db357.2.2.2.2.2.2.2.2.2.1
theorem dX11_is_11 : decode cX11_is 11 = .ok (.iconst 1, 1) := db357.2.2.2.2.2.2.2.2.2.2.1
theorem dX11_is_12 : decode cX11_is 12 = .ok (.if_icmp .ne 23, 3) := db357.2.2.2.2.2.2.2.2.2.2.2.1
theorem dX11_is_15 : decode cX11_is 15 = .ok (.aload_n 0, 1) := db357.2.2.2.2.2.2.2.2.2.2.2.2.1
theorem dX11_is_16 : decode cX11_is 16 = .ok (.getfield 99, 3) := db357.2.2.2.2.2.2.2.2.2.2.2.2.2.1
theorem dX11_is_19 : decode cX11_is 19 = .ok (.aload_n 0, 1) := db357.2.2.2.2.2.2.2.2.2.2.2.2.2.2.1
theorem dX11_is_20 : decode cX11_is 20 = .ok (.getfield 106, 3) := db357.2.2.2.2.2.2.2.2.2.2.2.2.2.2.2.1
theorem dX11_is_23 : decode cX11_is 23 = .ok (.isub, 1) := db357.2.2.2.2.2.2.2.2.2.2.2.2.2.2.2.2.1
theorem dX11_is_24 : decode cX11_is 24 = .ok (.aload_n 1, 1) := db357.2.2.2.2.2.2.2.2.2.2.2.2.2.2.2.2.2.1
theorem dX11_is_25 : decode cX11_is 25 = .ok (.invokevirtual 136, 3) := db357.2.2.2.2.2.2.2.2.2.2.2.2.2.2.2.2.2.2.1
theorem dX11_is_28 : decode cX11_is 28 = .ok (.if_icmp .ne 7, 3) := db357.2.2.2.2.2.2.2.2.2.2.2.2.2.2.2.2.2.2.2.1
theorem dX11_is_31 : decode cX11_is 31 = .ok (.iconst 1, 1) := db357.2.2.2.2.2.2.2.2.2.2.2.2.2.2.2.2.2.2.2.2.1
theorem dX11_is_32 : decode cX11_is 32 = .ok (.goto 4, 3) := db357.2.2.2.2.2.2.2.2.2.2.2.2.2.2.2.2.2.2.2.2.2
theorem db358 : (decode cX11_isHouse 0 = .ok (.aload_n 0, 1)) ∧ (decode cX11_isHouse 1 = .ok (.getfield 9, 3)) ∧ (decode cX11_isHouse 4 = .ok (.bipush 6, 2)) ∧ (decode cX11_isHouse 6 = .ok (.iaload, 1)) ∧ (decode cX11_isHouse 7 = .ok (.ifCond .le 7, 3)) ∧ (decode cX11_isHouse 14 = .ok (.iconst 0, 1)) ∧ (decode cX11_isHouse 15 = .ok (.ireturn, 1)) ∧ (decode cX11_isHouse 10 = .ok (.iconst 1, 1)) ∧ (decode cX11_isHouse 11 = .ok (.goto 4, 3)) := by decide +kernel
theorem dX11_isHouse_0 : decode cX11_isHouse 0 = .ok (.aload_n 0, 1) := db358.1
theorem dX11_isHouse_1 : decode cX11_isHouse 1 = .ok (.getfield 9, 3) := db358.2.1
theorem dX11_isHouse_4 : decode cX11_isHouse 4 = .ok (.bipush 6, 2) := db358.2.2.1
theorem dX11_isHouse_6 : decode cX11_isHouse 6 = .ok (.iaload, 1) := db358.2.2.2.1
theorem dX11_isHouse_7 : decode cX11_isHouse 7 = .ok (.ifCond .le 7, 3) := db358.2.2.2.2.1
theorem dX11_isHouse_14 : decode cX11_isHouse 14 = .ok (.iconst 0, 1) := db358.2.2.2.2.2.1
theorem dX11_isHouse_15 : decode cX11_isHouse 15 = .ok (.ireturn, 1) := db358.2.2.2.2.2.2.1
theorem dX11_isHouse_10 : decode cX11_isHouse 10 = .ok (.iconst 1, 1) := db358.2.2.2.2.2.2.2.1
theorem dX11_isHouse_11 : decode cX11_isHouse 11 = .ok (.goto 4, 3) := db358.2.2.2.2.2.2.2.2
theorem db359 : (decode cX11_isMan 0 = .ok (.iload_n 1, 1)) ∧ (decode cX11_isMan 1 = .ok (.i2l, 1)) ∧ (decode cX11_isMan 2 = .ok (.lconst 0, 1)) ∧ (decode cX11_isMan 3 = .ok (.aload_n 0, 1)) ∧ (decode cX11_isMan 4 = .ok (.getfield 9, 3)) ∧ (decode cX11_isMan 7 = .ok (.iconst 5, 1)) ∧ (decode cX11_isMan 8 = .ok (.iaload, 1)) ∧ (decode cX11_isMan 9 = .ok (.iconst 1, 1)) ∧ (decode cX11_isMan 10 = .ok (.isub, 1)) ∧ (decode cX11_isMan 11 = .ok (.i2l, 1)) ∧ (decode cX11_isMan 12 = .ok (.invokestatic 79, 3)) ∧ (decode cX11_isMan 15 = .ok (.ireturn, 1)) := by decide +kernel
theorem dX11_isMan_0 : decode cX11_isMan 0 = .ok (.iload_n 1, 1) := db359.1
theorem dX11_isMan_1 : decode cX11_isMan 1 = .ok (.i2l, 1) := db359.2.1
theorem dX11_isMan_2 : decode cX11_isMan 2 = .ok (.lconst 0, 1) := db359.2.2.1
theorem dX11_isMan_3 : decode cX11_isMan 3 = .ok (.aload_n 0, 1) := db359.2.2.2.1
theorem dX11_isMan_4 : decode cX11_isMan 4 = .ok (.getfield 9, 3) := db359.2.2.2.2.1
theorem dX11_isMan_7 : decode cX11_isMan 7 = .ok (.iconst 5, 1) := db359.2.2.2.2.2.1
theorem dX11_isMan_8 : decode cX11_isMan 8 = .ok (.iaload, 1) := db359.2.2.2.2.2.2.1
theorem dX11_isMan_9 : decode cX11_isMan 9 = .ok (.iconst 1, 1) := db359.2.2.2.2.2.2.2.1
theorem dX11_isMan_10 : decode cX11_isMan 10 = .ok (.isub, 1) := db359.2.2.2.2.2.2.2.2.1
theorem dX11_isMan_11 : decode cX11_isMan 11 = .ok (.i2l, 1) := db359.2.2.2.2.2.2.2.2.2.1
theorem dX11_isMan_12 : decode cX11_isMan 12 = .ok (.invokestatic 79, 3) := db359.2.2.2.2.2.2.2.2.2.2.1
theorem dX11_isMan_15 : decode cX11_isMan 15 = .ok (.ireturn, 1) := db359.2.2.2.2.2.2.2.2.2.2.2
theorem db360 : (decode cX11_isRoom 0 = .ok (.lload_n 1, 1)) ∧ (decode cX11_isRoom 1 = .ok (.lconst 0, 1)) ∧ (decode cX11_isRoom 2 = .ok (.aload_n 0, 1)) ∧ (decode cX11_isRoom 3 = .ok (.getfield 9, 3)) ∧ (decode cX11_isRoom 6 = .ok (.iconst 4, 1)) ∧ (decode cX11_isRoom 7 = .ok (.iaload, 1)) ∧ (decode cX11_isRoom 8 = .ok (.iconst 1, 1)) ∧ (decode cX11_isRoom 9 = .ok (.isub, 1)) ∧ (decode cX11_isRoom 10 = .ok (.i2l, 1)) ∧ (decode cX11_isRoom 11 = .ok (.invokestatic 79, 3)) ∧ (decode cX11_isRoom 14 = .ok (.ireturn, 1)) := by decide +kernel
theorem dX11_isRoom_0 : decode cX11_isRoom 0 = .ok (.lload_n 1, 1) := db360.1
theorem dX11_isRoom_1 : decode cX11_isRoom 1 = .ok (.lconst 0, 1) := db360.2.1
theorem dX11_isRoom_2 : decode cX11_isRoom 2 = .ok (.aload_n 0, 1) := db360.2.2.1
theorem dX11_isRoom_3 : decode cX11_isRoom 3 = .ok (.getfield 9, 3) := db360.2.2.2.1
theorem dX11_isRoom_6 : decode cX11_isRoom 6 = .ok (.iconst 4, 1) := db360.2.2.2.2.1
theorem dX11_isRoom_7 : decode cX11_isRoom 7 = .ok (.iaload, 1) := db360.2.2.2.2.2.1
theorem dX11_isRoom_8 : decode cX11_isRoom 8 = .ok (.iconst 1, 1) := db360.2.2.2.2.2.2.1
theorem dX11_isRoom_9 : decode cX11_isRoom 9 = .ok (.isub, 1) := db360.2.2.2.2.2.2.2.1
theorem dX11_isRoom_10 : decode cX11_isRoom 10 = .ok (.i2l, 1) := db360.2.2.2.2.2.2.2.2.1
theorem dX11_isRoom_11 : decode cX11_isRoom 11 = .ok (.invokestatic 79, 3) := db360.2.2.2.2.2.2.2.2.2.1
theorem dX11_isRoom_14 : decode cX11_isRoom 14 = .ok (.ireturn, 1) := db360.2.2.2.2.2.2.2.2.2.2
theorem db361 : (decode cX11_isRoomOrNone 0 = .ok (.aload_n 0, 1)) ∧ (decode cX11_isRoomOrNone 1 = .ok (.invokevirtual 83, 3)) ∧ (decode cX11_isRoomOrNone 15 = .ok (.aload_n 0, 1)) ∧ (decode cX11_isRoomOrNone 16 = .ok (.lload_n 1, 1)) ∧ (decode cX11_isRoomOrNone 17 = .ok (.invokevirtual 89, 3)) ∧ (decode cX11_isRoomOrNone 20 = .ok (.ifCond .eq 7, 3)) ∧ (decode cX11_isRoomOrNone 27 = .ok (.iconst 0, 1)) ∧ (decode cX11_isRoomOrNone 28 = .ok (.ireturn, 1)) ∧ (decode cX11_isRoomOrNone 23 = .ok (.iconst 1, 1)) ∧ (decode cX11_isRoomOrNone 24 = .ok (.goto 4, 3)) ∧ (decode cX11_isRoomOrNone 4 = .ok (.ifCond .eq 11, 3)) ∧ (decode cX11_isRoomOrNone 7 = .ok (.lload_n 1, 1)) ∧ (decode cX11_isRoomOrNone 8 = .ok (.ldc2_w 87, 3)) ∧ (decode cX11_isRoomOrNone 11 = .ok (.lcmp, 1)) ∧ (decode cX11_isRoomOrNone 12 = .ok (.ifCond .eq 11, 3)) := by decide +kernel
theorem dX11_isRoomOrNone_0 : decode cX11_isRoomOrNone 0 = .ok (.aload_n 0, 1) := db361.1
theorem dX11_isRoomOrNone_1 : decode cX11_isRoomOrNone 1 = .ok (.invokevirtual 83, 3) := db361.2.1
theorem dX11_isRoomOrNone_15 : decode cX11_isRoomOrNone 15 = .ok (.aload_n 0, 1) := db361.2.2.1
theorem dX11_isRoomOrNone_16 : decode cX11_isRoomOrNone 16 = .ok (.lload_n 1, 1) := db361.2.2.2.1
theorem dX11_isRoomOrNone_17 : decode cX11_isRoomOrNone 17 = .ok (.invokevirtual 89, 3) := db361.2.2.2.2.1
theorem dX11_isRoomOrNone_20 : decode cX11_isRoomOrNone 20 = .ok (.ifCond .eq 7, 3) := db361.2.2.2.2.2.1
theorem dX11_isRoomOrNone_27 : decode cX11_isRoomOrNone 27 = .ok (.iconst 0, 1) := db361.2.2.2.2.2.2.1
theorem dX11_isRoomOrNone_28 : decode cX11_isRoomOrNone 28 = .ok (.ireturn, 1) := db361.2.2.2.2.2.2.2.1
theorem dX11_isRoomOrNone_23 : decode cX11_isRoomOrNone 23 = .ok (.iconst 1, 1) := db361.2.2.2.2.2.2.2.2.1
theorem dX11_isRoomOrNone_24 : decode cX11_isRoomOrNone 24 = .ok (.goto 4, 3) := db361.2.2.2.2.2.2.2.2.2.1
theorem dX11_isRoomOrNone_4 : decode cX11_isRoomOrNone 4 = .ok (.ifCond .eq 11, 3) := db361.2.2.2.2.2.2.2.2.2.2.1
theorem dX11_isRoomOrNone_7 : decode cX11_isRoomOrNone 7 = .ok (.lload_n 1, 1) := db361.2.2.2.2.2.2.2.2.2.2.2.1
theorem dX11_isRoomOrNone_8 : decode cX11_isRoomOrNone 8 = .ok (.ldc2_w 87, 3) := db361.2.2.2.2.2.2.2.2.2.2.2.2.1
theorem dX11_isRoomOrNone_11 : decode cX11_isRoomOrNone 11 = .ok (.lcmp, 1) := db361.2.2.2.2.2.2.2.2.2.2.2.2.2.1
theorem dX11_isRoomOrNone_12 : decode cX11_isRoomOrNone 12 = .ok (.ifCond .eq 11, 3) := db361.2.2.2.2.2.2.2.2.2.2.2.2.2.2
theorem db362 : (decode cX11_isSeed 0 = .ok (.iload_n 0, 1)) ∧ (decode cX11_isSeed 1 = .ok (.i2l, 1)) ∧ (decode cX11_isSeed 2 = .ok (.lconst 0, 1)) ∧ (decode cX11_isSeed 3 = .ok (.ldc2_w 439, 3)) ∧ (decode cX11_isSeed 6 = .ok (.invokestatic 79, 3)) ∧ (decode cX11_isSeed 9 = .ok (.ireturn, 1)) := by decide +kernel
theorem dX11_isSeed_0 : decode cX11_isSeed 0 = .ok (.iload_n 0, 1) := db362.1
theorem dX11_isSeed_1 : decode cX11_isSeed 1 = .ok (.i2l, 1) := db362.2.1
theorem dX11_isSeed_2 : decode cX11_isSeed 2 = .ok (.lconst 0, 1) := db362.2.2.1
theorem dX11_isSeed_3 : decode cX11_isSeed 3 = .ok (.ldc2_w 439, 3) := db362.2.2.2.1
theorem dX11_isSeed_6 : decode cX11_isSeed 6 = .ok (.invokestatic 79, 3) := db362.2.2.2.2.1
theorem dX11_isSeed_9 : decode cX11_isSeed 9 = .ok (.ireturn, 1) := db362.2.2.2.2.2
theorem db363 : (decode cX11_isSlot 0 = .ok (.iload_n 0, 1)) ∧ (decode cX11_isSlot 1 = .ok (.i2l, 1)) ∧ (decode cX11_isSlot 2 = .ok (.lconst 0, 1)) ∧ (decode cX11_isSlot 3 = .ok (.ldc2_w 225, 3)) ∧ (decode cX11_isSlot 6 = .ok (.invokestatic 79, 3)) ∧ (decode cX11_isSlot 9 = .ok (.ireturn, 1)) := by decide +kernel
theorem dX11_isSlot_0 : decode cX11_isSlot 0 = .ok (.iload_n 0, 1) := db363.1
theorem dX11_isSlot_1 : decode cX11_isSlot 1 = .ok (.i2l, 1) := db363.2.1
theorem dX11_isSlot_2 : decode cX11_isSlot 2 = .ok (.lconst 0, 1) := db363.2.2.1
theorem dX11_isSlot_3 : decode cX11_isSlot 3 = .ok (.ldc2_w 225, 3) := db363.2.2.2.1
theorem dX11_isSlot_6 : decode cX11_isSlot 6 = .ok (.invokestatic 79, 3) := db363.2.2.2.2.1
theorem dX11_isSlot_9 : decode cX11_isSlot 9 = .ok (.ireturn, 1) := db363.2.2.2.2.2
theorem db364 : (decode cX11_isWay 0 = .ok (.iload_n 1, 1)) ∧ (decode cX11_isWay 1 = .ok (.istore_n 3, 1)) ∧ (decode cX11_isWay 2 = .ok (.iconst 0, 1)) ∧ (decode cX11_isWay 3 = .ok (.istore 4, 2)) ∧ (decode cX11_isWay 5 = .ok (.iload 4, 2)) ∧ (decode cX11_isWay 7 = .ok (.iload_n 2, 1)) ∧ (decode cX11_isWay 8 = .ok (.if_icmp .ge 34, 3)) ∧ (decode cX11_isWay 42 = .ok (.iconst 1, 1)) ∧ (decode cX11_isWay 43 = .ok (.ireturn, 1)) ∧ (decode cX11_isWay 11 = .ok (.aload_n 0, 1)) ∧ (decode cX11_isWay 12 = .ok (.iload_n 3, 1)) ∧ (decode cX11_isWay 13 = .ok (.aload_n 0, 1)) ∧ (decode cX11_isWay 14 = .ok (.getfield 40, 3)) ∧ (decode cX11_isWay 17 = .ok (.iload 4, 2)) ∧ (decode cX11_isWay 19 = .ok (.iaload, 1)) ∧ (decode cX11_isWay 20 = .ok (.invokevirtual 312, 3)) ∧ (decode cX11_isWay 23 = .ok (.ifCond .ne 5, 3)) ∧ (decode cX11_isWay 28 = .ok (.aload_n 0, 1)) ∧ (decode cX11_isWay 29 = .ok (.getfield 40, 3)) ∧ (decode cX11_isWay 32 = .ok (.iload 4, 2)) ∧ (decode cX11_isWay 34 = .ok (.iaload, 1)) ∧ (decode cX11_isWay 35 = .ok (.istore_n 3, 1)) ∧ (decode cX11_isWay 36 = .ok (.iinc 4 1, 3)) ∧ (decode cX11_isWay 39 = .ok (.goto (-34), 3)) := by decide +kernel
theorem dX11_isWay_0 : decode cX11_isWay 0 = .ok (.iload_n 1, 1) := db364.1
theorem dX11_isWay_1 : decode cX11_isWay 1 = .ok (.istore_n 3, 1) := db364.2.1
theorem dX11_isWay_2 : decode cX11_isWay 2 = .ok (.iconst 0, 1) := db364.2.2.1
theorem dX11_isWay_3 : decode cX11_isWay 3 = .ok (.istore 4, 2) := db364.2.2.2.1
theorem dX11_isWay_5 : decode cX11_isWay 5 = .ok (.iload 4, 2) := db364.2.2.2.2.1
theorem dX11_isWay_7 : decode cX11_isWay 7 = .ok (.iload_n 2, 1) := db364.2.2.2.2.2.1
theorem dX11_isWay_8 : decode cX11_isWay 8 = .ok (.if_icmp .ge 34, 3) := db364.2.2.2.2.2.2.1
theorem dX11_isWay_42 : decode cX11_isWay 42 = .ok (.iconst 1, 1) := db364.2.2.2.2.2.2.2.1
theorem dX11_isWay_43 : decode cX11_isWay 43 = .ok (.ireturn, 1) := db364.2.2.2.2.2.2.2.2.1
theorem dX11_isWay_11 : decode cX11_isWay 11 = .ok (.aload_n 0, 1) := db364.2.2.2.2.2.2.2.2.2.1
theorem dX11_isWay_12 : decode cX11_isWay 12 = .ok (.iload_n 3, 1) := db364.2.2.2.2.2.2.2.2.2.2.1
theorem dX11_isWay_13 : decode cX11_isWay 13 = .ok (.aload_n 0, 1) := db364.2.2.2.2.2.2.2.2.2.2.2.1
theorem dX11_isWay_14 : decode cX11_isWay 14 = .ok (.getfield 40, 3) := db364.2.2.2.2.2.2.2.2.2.2.2.2.1
theorem dX11_isWay_17 : decode cX11_isWay 17 = .ok (.iload 4, 2) := db364.2.2.2.2.2.2.2.2.2.2.2.2.2.1
theorem dX11_isWay_19 : decode cX11_isWay 19 = .ok (.iaload, 1) := db364.2.2.2.2.2.2.2.2.2.2.2.2.2.2.1
theorem dX11_isWay_20 : decode cX11_isWay 20 = .ok (.invokevirtual 312, 3) := db364.2.2.2.2.2.2.2.2.2.2.2.2.2.2.2.1
theorem dX11_isWay_23 : decode cX11_isWay 23 = .ok (.ifCond .ne 5, 3) := db364.2.2.2.2.2.2.2.2.2.2.2.2.2.2.2.2.1
theorem dX11_isWay_28 : decode cX11_isWay 28 = .ok (.aload_n 0, 1) := db364.2.2.2.2.2.2.2.2.2.2.2.2.2.2.2.2.2.1
theorem dX11_isWay_29 : decode cX11_isWay 29 = .ok (.getfield 40, 3) := db364.2.2.2.2.2.2.2.2.2.2.2.2.2.2.2.2.2.2.1
theorem dX11_isWay_32 : decode cX11_isWay 32 = .ok (.iload 4, 2) := db364.2.2.2.2.2.2.2.2.2.2.2.2.2.2.2.2.2.2.2.1
theorem dX11_isWay_34 : decode cX11_isWay 34 = .ok (.iaload, 1) := db364.2.2.2.2.2.2.2.2.2.2.2.2.2.2.2.2.2.2.2.2.1
theorem dX11_isWay_35 : decode cX11_isWay 35 = .ok (.istore_n 3, 1) := db364.2.2.2.2.2.2.2.2.2.2.2.2.2.2.2.2.2.2.2.2.2.1
theorem dX11_isWay_36 : decode cX11_isWay 36 = .ok (.iinc 4 1, 3) := db364.2.2.2.2.2.2.2.2.2.2.2.2.2.2.2.2.2.2.2.2.2.2.1
theorem dX11_isWay_39 : decode cX11_isWay 39 = .ok (.goto (-34), 3) := db364.2.2.2.2.2.2.2.2.2.2.2.2.2.2.2.2.2.2.2.2.2.2.2
theorem db365 : (decode cX11_isWay 26 = .ok (.iconst 0, 1)) ∧ (decode cX11_isWay 27 = .ok (.ireturn, 1)) := by decide +kernel
theorem dX11_isWay_26 : decode cX11_isWay 26 = .ok (.iconst 0, 1) := db365.1
theorem dX11_isWay_27 : decode cX11_isWay 27 = .ok (.ireturn, 1) := db365.2
theorem db366 : (decode cX11_later 0 = .ok (.aload_n 0, 1)) ∧ (decode cX11_later 1 = .ok (.iload_n 1, 1)) ∧ (decode cX11_later 2 = .ok (.i2l, 1)) ∧ (decode cX11_later 3 = .ok (.invokevirtual 275, 3)) ∧ (decode cX11_later 6 = .ok (.ifCond .eq 15, 3)) ∧ (decode cX11_later 21 = .ok (.bipush (-2), 2)) ∧ (decode cX11_later 23 = .ok (.ireturn, 1)) ∧ (decode cX11_later 9 = .ok (.iload_n 2, 1)) ∧ (decode cX11_later 10 = .ok (.i2l, 1)) ∧ (decode cX11_later 11 = .ok (.lconst 0, 1)) ∧ (decode cX11_later 12 = .ok (.ldc2_w 284, 3)) ∧ (decode cX11_later 15 = .ok (.invokestatic 79, 3)) ∧ (decode cX11_later 18 = .ok (.ifCond .ne 6, 3)) ∧ (decode cX11_later 24 = .ok (.aload_n 0, 1)) ∧ (decode cX11_later 25 = .ok (.invokevirtual 278, 3)) ∧ (decode cX11_later 28 = .ok (.iconst 0, 1)) ∧ (decode cX11_later 29 = .ok (.istore_n 3, 1)) ∧ (decode cX11_later 30 = .ok (.iload_n 3, 1)) ∧ (decode cX11_later 31 = .ok (.iload_n 2, 1)) ∧ (decode cX11_later 32 = .ok (.if_icmp .ge 14, 3)) ∧ (decode cX11_later 46 = .ok (.iload_n 1, 1)) ∧ (decode cX11_later 47 = .ok (.iconst (-1), 1)) ∧ (decode cX11_later 48 = .ok (.if_icmp .ne 10, 3)) ∧ (decode cX11_later 58 = .ok (.aload_n 0, 1)) := by decide +kernel
theorem dX11_later_0 : decode cX11_later 0 = .ok (.aload_n 0, 1) := db366.1
theorem dX11_later_1 : decode cX11_later 1 = .ok (.iload_n 1, 1) := db366.2.1
theorem dX11_later_2 : decode cX11_later 2 = .ok (.i2l, 1) := db366.2.2.1
theorem dX11_later_3 : decode cX11_later 3 = .ok (.invokevirtual 275, 3) := db366.2.2.2.1
theorem dX11_later_6 : decode cX11_later 6 = .ok (.ifCond .eq 15, 3) := db366.2.2.2.2.1
theorem dX11_later_21 : decode cX11_later 21 = .ok (.bipush (-2), 2) := db366.2.2.2.2.2.1
theorem dX11_later_23 : decode cX11_later 23 = .ok (.ireturn, 1) := db366.2.2.2.2.2.2.1
theorem dX11_later_9 : decode cX11_later 9 = .ok (.iload_n 2, 1) := db366.2.2.2.2.2.2.2.1
theorem dX11_later_10 : decode cX11_later 10 = .ok (.i2l, 1) := db366.2.2.2.2.2.2.2.2.1
theorem dX11_later_11 : decode cX11_later 11 = .ok (.lconst 0, 1) := db366.2.2.2.2.2.2.2.2.2.1
theorem dX11_later_12 : decode cX11_later 12 = .ok (.ldc2_w 284, 3) := db366.2.2.2.2.2.2.2.2.2.2.1
theorem dX11_later_15 : decode cX11_later 15 = .ok (.invokestatic 79, 3) := db366.2.2.2.2.2.2.2.2.2.2.2.1
theorem dX11_later_18 : decode cX11_later 18 = .ok (.ifCond .ne 6, 3) := db366.2.2.2.2.2.2.2.2.2.2.2.2.1
theorem dX11_later_24 : decode cX11_later 24 = .ok (.aload_n 0, 1) := db366.2.2.2.2.2.2.2.2.2.2.2.2.2.1
theorem dX11_later_25 : decode cX11_later 25 = .ok (.invokevirtual 278, 3) := db366.2.2.2.2.2.2.2.2.2.2.2.2.2.2.1
theorem dX11_later_28 : decode cX11_later 28 = .ok (.iconst 0, 1) := db366.2.2.2.2.2.2.2.2.2.2.2.2.2.2.2.1
theorem dX11_later_29 : decode cX11_later 29 = .ok (.istore_n 3, 1) := db366.2.2.2.2.2.2.2.2.2.2.2.2.2.2.2.2.1
theorem dX11_later_30 : decode cX11_later 30 = .ok (.iload_n 3, 1) := db366.2.2.2.2.2.2.2.2.2.2.2.2.2.2.2.2.2.1
theorem dX11_later_31 : decode cX11_later 31 = .ok (.iload_n 2, 1) := db366.2.2.2.2.2.2.2.2.2.2.2.2.2.2.2.2.2.2.1
theorem dX11_later_32 : decode cX11_later 32 = .ok (.if_icmp .ge 14, 3) := db366.2.2.2.2.2.2.2.2.2.2.2.2.2.2.2.2.2.2.2.1
theorem dX11_later_46 : decode cX11_later 46 = .ok (.iload_n 1, 1) := db366.2.2.2.2.2.2.2.2.2.2.2.2.2.2.2.2.2.2.2.2.1
theorem dX11_later_47 : decode cX11_later 47 = .ok (.iconst (-1), 1) := db366.2.2.2.2.2.2.2.2.2.2.2.2.2.2.2.2.2.2.2.2.2.1
theorem dX11_later_48 : decode cX11_later 48 = .ok (.if_icmp .ne 10, 3) := db366.2.2.2.2.2.2.2.2.2.2.2.2.2.2.2.2.2.2.2.2.2.2.1
theorem dX11_later_58 : decode cX11_later 58 = .ok (.aload_n 0, 1) := db366.2.2.2.2.2.2.2.2.2.2.2.2.2.2.2.2.2.2.2.2.2.2.2
theorem db367 : (decode cX11_later 59 = .ok (.getfield 34, 3)) ∧ (decode cX11_later 62 = .ok (.iload_n 1, 1)) ∧ (decode cX11_later 63 = .ok (.iaload, 1)) ∧ (decode cX11_later 64 = .ok (.ireturn, 1)) ∧ (decode cX11_later 51 = .ok (.aload_n 0, 1)) ∧ (decode cX11_later 52 = .ok (.getfield 246, 3)) ∧ (decode cX11_later 55 = .ok (.goto 9, 3)) ∧ (decode cX11_later 35 = .ok (.aload_n 0, 1)) ∧ (decode cX11_later 36 = .ok (.iconst (-1), 1)) ∧ (decode cX11_later 37 = .ok (.invokevirtual 267, 3)) ∧ (decode cX11_later 40 = .ok (.iinc 3 1, 3)) ∧ (decode cX11_later 43 = .ok (.goto (-13), 3)) := by decide +kernel
theorem dX11_later_59 : decode cX11_later 59 = .ok (.getfield 34, 3) := db367.1
theorem dX11_later_62 : decode cX11_later 62 = .ok (.iload_n 1, 1) := db367.2.1
theorem dX11_later_63 : decode cX11_later 63 = .ok (.iaload, 1) := db367.2.2.1
theorem dX11_later_64 : decode cX11_later 64 = .ok (.ireturn, 1) := db367.2.2.2.1
theorem dX11_later_51 : decode cX11_later 51 = .ok (.aload_n 0, 1) := db367.2.2.2.2.1
theorem dX11_later_52 : decode cX11_later 52 = .ok (.getfield 246, 3) := db367.2.2.2.2.2.1
theorem dX11_later_55 : decode cX11_later 55 = .ok (.goto 9, 3) := db367.2.2.2.2.2.2.1
theorem dX11_later_35 : decode cX11_later 35 = .ok (.aload_n 0, 1) := db367.2.2.2.2.2.2.2.1
theorem dX11_later_36 : decode cX11_later 36 = .ok (.iconst (-1), 1) := db367.2.2.2.2.2.2.2.2.1
theorem dX11_later_37 : decode cX11_later 37 = .ok (.invokevirtual 267, 3) := db367.2.2.2.2.2.2.2.2.2.1
theorem dX11_later_40 : decode cX11_later 40 = .ok (.iinc 3 1, 3) := db367.2.2.2.2.2.2.2.2.2.2.1
theorem dX11_later_43 : decode cX11_later 43 = .ok (.goto (-13), 3) := db367.2.2.2.2.2.2.2.2.2.2.2
theorem db368 : (decode cX11_likely 0 = .ok (.aload_n 0, 1)) ∧ (decode cX11_likely 1 = .ok (.invokevirtual 83, 3)) ∧ (decode cX11_likely 4 = .ok (.ifCond .ne 6, 3)) ∧ (decode cX11_likely 10 = .ok (.aload_n 0, 1)) ∧ (decode cX11_likely 11 = .ok (.invokevirtual 278, 3)) ∧ (decode cX11_likely 14 = .ok (.iconst (-1), 1)) ∧ (decode cX11_likely 15 = .ok (.istore_n 1, 1)) ∧ (decode cX11_likely 16 = .ok (.iconst 0, 1)) ∧ (decode cX11_likely 17 = .ok (.istore_n 2, 1)) ∧ (decode cX11_likely 18 = .ok (.iload_n 2, 1)) ∧ (decode cX11_likely 19 = .ok (.aload_n 0, 1)) ∧ (decode cX11_likely 20 = .ok (.getfield 9, 3)) ∧ (decode cX11_likely 23 = .ok (.iconst 4, 1)) ∧ (decode cX11_likely 24 = .ok (.iaload, 1)) ∧ (decode cX11_likely 25 = .ok (.if_icmp .ge 35, 3)) ∧ (decode cX11_likely 60 = .ok (.iload_n 1, 1)) ∧ (decode cX11_likely 61 = .ok (.ireturn, 1)) ∧ (decode cX11_likely 28 = .ok (.iload_n 1, 1)) ∧ (decode cX11_likely 29 = .ok (.iconst (-1), 1)) ∧ (decode cX11_likely 53 = .ok (.istore_n 1, 1)) ∧ (decode cX11_likely 54 = .ok (.iinc 2 1, 3)) ∧ (decode cX11_likely 57 = .ok (.goto (-39), 3)) ∧ (decode cX11_likely 48 = .ok (.iload_n 2, 1)) ∧ (decode cX11_likely 49 = .ok (.goto 4, 3)) := by decide +kernel
theorem dX11_likely_0 : decode cX11_likely 0 = .ok (.aload_n 0, 1) := db368.1
theorem dX11_likely_1 : decode cX11_likely 1 = .ok (.invokevirtual 83, 3) := db368.2.1
theorem dX11_likely_4 : decode cX11_likely 4 = .ok (.ifCond .ne 6, 3) := db368.2.2.1
theorem dX11_likely_10 : decode cX11_likely 10 = .ok (.aload_n 0, 1) := db368.2.2.2.1
theorem dX11_likely_11 : decode cX11_likely 11 = .ok (.invokevirtual 278, 3) := db368.2.2.2.2.1
theorem dX11_likely_14 : decode cX11_likely 14 = .ok (.iconst (-1), 1) := db368.2.2.2.2.2.1
theorem dX11_likely_15 : decode cX11_likely 15 = .ok (.istore_n 1, 1) := db368.2.2.2.2.2.2.1
theorem dX11_likely_16 : decode cX11_likely 16 = .ok (.iconst 0, 1) := db368.2.2.2.2.2.2.2.1
theorem dX11_likely_17 : decode cX11_likely 17 = .ok (.istore_n 2, 1) := db368.2.2.2.2.2.2.2.2.1
theorem dX11_likely_18 : decode cX11_likely 18 = .ok (.iload_n 2, 1) := db368.2.2.2.2.2.2.2.2.2.1
theorem dX11_likely_19 : decode cX11_likely 19 = .ok (.aload_n 0, 1) := db368.2.2.2.2.2.2.2.2.2.2.1
theorem dX11_likely_20 : decode cX11_likely 20 = .ok (.getfield 9, 3) := db368.2.2.2.2.2.2.2.2.2.2.2.1
theorem dX11_likely_23 : decode cX11_likely 23 = .ok (.iconst 4, 1) := db368.2.2.2.2.2.2.2.2.2.2.2.2.1
theorem dX11_likely_24 : decode cX11_likely 24 = .ok (.iaload, 1) := db368.2.2.2.2.2.2.2.2.2.2.2.2.2.1
theorem dX11_likely_25 : decode cX11_likely 25 = .ok (.if_icmp .ge 35, 3) := db368.2.2.2.2.2.2.2.2.2.2.2.2.2.2.1
theorem dX11_likely_60 : decode cX11_likely 60 = .ok (.iload_n 1, 1) := db368.2.2.2.2.2.2.2.2.2.2.2.2.2.2.2.1
theorem dX11_likely_61 : decode cX11_likely 61 = .ok (.ireturn, 1) := db368.2.2.2.2.2.2.2.2.2.2.2.2.2.2.2.2.1
theorem dX11_likely_28 : decode cX11_likely 28 = .ok (.iload_n 1, 1) := db368.2.2.2.2.2.2.2.2.2.2.2.2.2.2.2.2.2.1
theorem dX11_likely_29 : decode cX11_likely 29 = .ok (.iconst (-1), 1) := db368.2.2.2.2.2.2.2.2.2.2.2.2.2.2.2.2.2.2.1
theorem dX11_likely_53 : decode cX11_likely 53 = .ok (.istore_n 1, 1) := db368.2.2.2.2.2.2.2.2.2.2.2.2.2.2.2.2.2.2.2.1
theorem dX11_likely_54 : decode cX11_likely 54 = .ok (.iinc 2 1, 3) := db368.2.2.2.2.2.2.2.2.2.2.2.2.2.2.2.2.2.2.2.2.1
theorem dX11_likely_57 : decode cX11_likely 57 = .ok (.goto (-39), 3) := db368.2.2.2.2.2.2.2.2.2.2.2.2.2.2.2.2.2.2.2.2.2.1
theorem dX11_likely_48 : decode cX11_likely 48 = .ok (.iload_n 2, 1) := db368.2.2.2.2.2.2.2.2.2.2.2.2.2.2.2.2.2.2.2.2.2.2.1
theorem dX11_likely_49 : decode cX11_likely 49 = .ok (.goto 4, 3) := db368.2.2.2.2.2.2.2.2.2.2.2.2.2.2.2.2.2.2.2.2.2.2.2
theorem db369 : (decode cX11_likely 30 = .ok (.if_icmp .eq 18, 3)) ∧ (decode cX11_likely 33 = .ok (.aload_n 0, 1)) ∧ (decode cX11_likely 34 = .ok (.getfield 34, 3)) ∧ (decode cX11_likely 37 = .ok (.iload_n 2, 1)) ∧ (decode cX11_likely 38 = .ok (.iaload, 1)) ∧ (decode cX11_likely 39 = .ok (.aload_n 0, 1)) ∧ (decode cX11_likely 40 = .ok (.getfield 34, 3)) ∧ (decode cX11_likely 43 = .ok (.iload_n 1, 1)) ∧ (decode cX11_likely 44 = .ok (.iaload, 1)) ∧ (decode cX11_likely 45 = .ok (.if_icmp .le 7, 3)) ∧ (decode cX11_likely 52 = .ok (.iload_n 1, 1)) ∧ (decode cX11_likely 7 = .ok (.bipush (-2), 2)) ∧ (decode cX11_likely 9 = .ok (.ireturn, 1)) := by decide +kernel
theorem dX11_likely_30 : decode cX11_likely 30 = .ok (.if_icmp .eq 18, 3) := db369.1
theorem dX11_likely_33 : decode cX11_likely 33 = .ok (.aload_n 0, 1) := db369.2.1
theorem dX11_likely_34 : decode cX11_likely 34 = .ok (.getfield 34, 3) := db369.2.2.1
theorem dX11_likely_37 : decode cX11_likely 37 = .ok (.iload_n 2, 1) := db369.2.2.2.1
theorem dX11_likely_38 : decode cX11_likely 38 = .ok (.iaload, 1) := db369.2.2.2.2.1
theorem dX11_likely_39 : decode cX11_likely 39 = .ok (.aload_n 0, 1) := db369.2.2.2.2.2.1
theorem dX11_likely_40 : decode cX11_likely 40 = .ok (.getfield 34, 3) := db369.2.2.2.2.2.2.1
theorem dX11_likely_43 : decode cX11_likely 43 = .ok (.iload_n 1, 1) := db369.2.2.2.2.2.2.2.1
theorem dX11_likely_44 : decode cX11_likely 44 = .ok (.iaload, 1) := db369.2.2.2.2.2.2.2.2.1
theorem dX11_likely_45 : decode cX11_likely 45 = .ok (.if_icmp .le 7, 3) := db369.2.2.2.2.2.2.2.2.2.1
theorem dX11_likely_52 : decode cX11_likely 52 = .ok (.iload_n 1, 1) := db369.2.2.2.2.2.2.2.2.2.2.1
theorem dX11_likely_7 : decode cX11_likely 7 = .ok (.bipush (-2), 2) := db369.2.2.2.2.2.2.2.2.2.2.2.1
theorem dX11_likely_9 : decode cX11_likely 9 = .ok (.ireturn, 1) := db369.2.2.2.2.2.2.2.2.2.2.2.2
theorem db370 : (decode cX11_likelyRead 0 = .ok (.aload_n 0, 1)) ∧ (decode cX11_likelyRead 1 = .ok (.iload_n 1, 1)) ∧ (decode cX11_likelyRead 2 = .ok (.iconst 0, 1)) ∧ (decode cX11_likelyRead 3 = .ok (.invokevirtual 234, 3)) ∧ (decode cX11_likelyRead 6 = .ok (.i2l, 1)) ∧ (decode cX11_likelyRead 7 = .ok (.aload_n 0, 1)) ∧ (decode cX11_likelyRead 8 = .ok (.iload_n 1, 1)) ∧ (decode cX11_likelyRead 9 = .ok (.iload_n 2, 1)) ∧ (decode cX11_likelyRead 10 = .ok (.invokevirtual 391, 3)) ∧ (decode cX11_likelyRead 13 = .ok (.lmul, 1)) ∧ (decode cX11_likelyRead 14 = .ok (.lstore_n 3, 1)) ∧ (decode cX11_likelyRead 15 = .ok (.iconst 0, 1)) ∧ (decode cX11_likelyRead 16 = .ok (.istore 5, 2)) ∧ (decode cX11_likelyRead 18 = .ok (.iload 5, 2)) ∧ (decode cX11_likelyRead 20 = .ok (.aload_n 0, 1)) ∧ (decode cX11_likelyRead 21 = .ok (.getfield 9, 3)) ∧ (decode cX11_likelyRead 24 = .ok (.iconst 5, 1)) ∧ (decode cX11_likelyRead 25 = .ok (.iaload, 1)) ∧ (decode cX11_likelyRead 26 = .ok (.if_icmp .ge 28, 3)) ∧ (decode cX11_likelyRead 54 = .ok (.lload_n 3, 1)) ∧ (decode cX11_likelyRead 55 = .ok (.lreturn, 1)) ∧ (decode cX11_likelyRead 29 = .ok (.lload_n 3, 1)) ∧ (decode cX11_likelyRead 30 = .ok (.iload 5, 2)) ∧ (decode cX11_likelyRead 32 = .ok (.iload_n 1, 1)) := by decide +kernel
theorem dX11_likelyRead_0 : decode cX11_likelyRead 0 = .ok (.aload_n 0, 1) := db370.1
theorem dX11_likelyRead_1 : decode cX11_likelyRead 1 = .ok (.iload_n 1, 1) := db370.2.1
theorem dX11_likelyRead_2 : decode cX11_likelyRead 2 = .ok (.iconst 0, 1) := db370.2.2.1
theorem dX11_likelyRead_3 : decode cX11_likelyRead 3 = .ok (.invokevirtual 234, 3) := db370.2.2.2.1
theorem dX11_likelyRead_6 : decode cX11_likelyRead 6 = .ok (.i2l, 1) := db370.2.2.2.2.1
theorem dX11_likelyRead_7 : decode cX11_likelyRead 7 = .ok (.aload_n 0, 1) := db370.2.2.2.2.2.1
theorem dX11_likelyRead_8 : decode cX11_likelyRead 8 = .ok (.iload_n 1, 1) := db370.2.2.2.2.2.2.1
theorem dX11_likelyRead_9 : decode cX11_likelyRead 9 = .ok (.iload_n 2, 1) := db370.2.2.2.2.2.2.2.1
theorem dX11_likelyRead_10 : decode cX11_likelyRead 10 = .ok (.invokevirtual 391, 3) := db370.2.2.2.2.2.2.2.2.1
theorem dX11_likelyRead_13 : decode cX11_likelyRead 13 = .ok (.lmul, 1) := db370.2.2.2.2.2.2.2.2.2.1
theorem dX11_likelyRead_14 : decode cX11_likelyRead 14 = .ok (.lstore_n 3, 1) := db370.2.2.2.2.2.2.2.2.2.2.1
theorem dX11_likelyRead_15 : decode cX11_likelyRead 15 = .ok (.iconst 0, 1) := db370.2.2.2.2.2.2.2.2.2.2.2.1
theorem dX11_likelyRead_16 : decode cX11_likelyRead 16 = .ok (.istore 5, 2) := db370.2.2.2.2.2.2.2.2.2.2.2.2.1
theorem dX11_likelyRead_18 : decode cX11_likelyRead 18 = .ok (.iload 5, 2) := db370.2.2.2.2.2.2.2.2.2.2.2.2.2.1
theorem dX11_likelyRead_20 : decode cX11_likelyRead 20 = .ok (.aload_n 0, 1) := db370.2.2.2.2.2.2.2.2.2.2.2.2.2.2.1
theorem dX11_likelyRead_21 : decode cX11_likelyRead 21 = .ok (.getfield 9, 3) := db370.2.2.2.2.2.2.2.2.2.2.2.2.2.2.2.1
theorem dX11_likelyRead_24 : decode cX11_likelyRead 24 = .ok (.iconst 5, 1) := db370.2.2.2.2.2.2.2.2.2.2.2.2.2.2.2.2.1
theorem dX11_likelyRead_25 : decode cX11_likelyRead 25 = .ok (.iaload, 1) := db370.2.2.2.2.2.2.2.2.2.2.2.2.2.2.2.2.2.1
theorem dX11_likelyRead_26 : decode cX11_likelyRead 26 = .ok (.if_icmp .ge 28, 3) := db370.2.2.2.2.2.2.2.2.2.2.2.2.2.2.2.2.2.2.1
theorem dX11_likelyRead_54 : decode cX11_likelyRead 54 = .ok (.lload_n 3, 1) := db370.2.2.2.2.2.2.2.2.2.2.2.2.2.2.2.2.2.2.2.1
theorem dX11_likelyRead_55 : decode cX11_likelyRead 55 = .ok (.lreturn, 1) := db370.2.2.2.2.2.2.2.2.2.2.2.2.2.2.2.2.2.2.2.2.1
theorem dX11_likelyRead_29 : decode cX11_likelyRead 29 = .ok (.lload_n 3, 1) := db370.2.2.2.2.2.2.2.2.2.2.2.2.2.2.2.2.2.2.2.2.2.1
theorem dX11_likelyRead_30 : decode cX11_likelyRead 30 = .ok (.iload 5, 2) := db370.2.2.2.2.2.2.2.2.2.2.2.2.2.2.2.2.2.2.2.2.2.2.1
theorem dX11_likelyRead_32 : decode cX11_likelyRead 32 = .ok (.iload_n 1, 1) := db370.2.2.2.2.2.2.2.2.2.2.2.2.2.2.2.2.2.2.2.2.2.2.2
theorem db371 : (decode cX11_likelyRead 46 = .ok (.lmul, 1)) ∧ (decode cX11_likelyRead 47 = .ok (.lstore_n 3, 1)) ∧ (decode cX11_likelyRead 48 = .ok (.iinc 5 1, 3)) ∧ (decode cX11_likelyRead 51 = .ok (.goto (-33), 3)) ∧ (decode cX11_likelyRead 33 = .ok (.if_icmp .ne 7, 3)) ∧ (decode cX11_likelyRead 40 = .ok (.aload_n 0, 1)) ∧ (decode cX11_likelyRead 41 = .ok (.iload 5, 2)) ∧ (decode cX11_likelyRead 43 = .ok (.invokevirtual 394, 3)) ∧ (decode cX11_likelyRead 36 = .ok (.lconst 1, 1)) ∧ (decode cX11_likelyRead 37 = .ok (.goto 9, 3)) := by decide +kernel
theorem dX11_likelyRead_46 : decode cX11_likelyRead 46 = .ok (.lmul, 1) := db371.1
theorem dX11_likelyRead_47 : decode cX11_likelyRead 47 = .ok (.lstore_n 3, 1) := db371.2.1
theorem dX11_likelyRead_48 : decode cX11_likelyRead 48 = .ok (.iinc 5 1, 3) := db371.2.2.1
theorem dX11_likelyRead_51 : decode cX11_likelyRead 51 = .ok (.goto (-33), 3) := db371.2.2.2.1
theorem dX11_likelyRead_33 : decode cX11_likelyRead 33 = .ok (.if_icmp .ne 7, 3) := db371.2.2.2.2.1
theorem dX11_likelyRead_40 : decode cX11_likelyRead 40 = .ok (.aload_n 0, 1) := db371.2.2.2.2.2.1
theorem dX11_likelyRead_41 : decode cX11_likelyRead 41 = .ok (.iload 5, 2) := db371.2.2.2.2.2.2.1
theorem dX11_likelyRead_43 : decode cX11_likelyRead 43 = .ok (.invokevirtual 394, 3) := db371.2.2.2.2.2.2.2.1
theorem dX11_likelyRead_36 : decode cX11_likelyRead 36 = .ok (.lconst 1, 1) := db371.2.2.2.2.2.2.2.2.1
theorem dX11_likelyRead_37 : decode cX11_likelyRead 37 = .ok (.goto 9, 3) := db371.2.2.2.2.2.2.2.2.2
theorem db372 : (decode cX11_list 0 = .ok (.aload_n 0, 1)) ∧ (decode cX11_list 1 = .ok (.iload_n 1, 1)) ∧ (decode cX11_list 2 = .ok (.invokevirtual 375, 3)) ∧ (decode cX11_list 5 = .ok (.ifCond .ne 6, 3)) ∧ (decode cX11_list 11 = .ok (.iconst (-1), 1)) ∧ (decode cX11_list 12 = .ok (.istore_n 2, 1)) ∧ (decode cX11_list 13 = .ok (.iconst 0, 1)) ∧ (decode cX11_list 14 = .ok (.istore_n 3, 1)) ∧ (decode cX11_list 15 = .ok (.iload_n 3, 1)) ∧ (decode cX11_list 16 = .ok (.bipush 64, 2)) ∧ (decode cX11_list 18 = .ok (.if_icmp .ge 40, 3)) ∧ (decode cX11_list 58 = .ok (.iload_n 2, 1)) ∧ (decode cX11_list 59 = .ok (.ireturn, 1)) ∧ (decode cX11_list 21 = .ok (.iload_n 2, 1)) ∧ (decode cX11_list 22 = .ok (.iconst (-1), 1)) ∧ (decode cX11_list 51 = .ok (.istore_n 2, 1)) ∧ (decode cX11_list 52 = .ok (.iinc 3 1, 3)) ∧ (decode cX11_list 55 = .ok (.goto (-40), 3)) ∧ (decode cX11_list 50 = .ok (.iload_n 2, 1)) ∧ (decode cX11_list 37 = .ok (.aload_n 0, 1)) ∧ (decode cX11_list 38 = .ok (.iload_n 1, 1)) ∧ (decode cX11_list 39 = .ok (.iload_n 3, 1)) ∧ (decode cX11_list 40 = .ok (.invokevirtual 381, 3)) ∧ (decode cX11_list 43 = .ok (.ifCond .eq 7, 3)) := by decide +kernel
theorem dX11_list_0 : decode cX11_list 0 = .ok (.aload_n 0, 1) := db372.1
theorem dX11_list_1 : decode cX11_list 1 = .ok (.iload_n 1, 1) := db372.2.1
theorem dX11_list_2 : decode cX11_list 2 = .ok (.invokevirtual 375, 3) := db372.2.2.1
theorem dX11_list_5 : decode cX11_list 5 = .ok (.ifCond .ne 6, 3) := db372.2.2.2.1
theorem dX11_list_11 : decode cX11_list 11 = .ok (.iconst (-1), 1) := db372.2.2.2.2.1
theorem dX11_list_12 : decode cX11_list 12 = .ok (.istore_n 2, 1) := db372.2.2.2.2.2.1
theorem dX11_list_13 : decode cX11_list 13 = .ok (.iconst 0, 1) := db372.2.2.2.2.2.2.1
theorem dX11_list_14 : decode cX11_list 14 = .ok (.istore_n 3, 1) := db372.2.2.2.2.2.2.2.1
theorem dX11_list_15 : decode cX11_list 15 = .ok (.iload_n 3, 1) := db372.2.2.2.2.2.2.2.2.1
theorem dX11_list_16 : decode cX11_list 16 = .ok (.bipush 64, 2) := db372.2.2.2.2.2.2.2.2.2.1
theorem dX11_list_18 : decode cX11_list 18 = .ok (.if_icmp .ge 40, 3) := db372.2.2.2.2.2.2.2.2.2.2.1
theorem dX11_list_58 : decode cX11_list 58 = .ok (.iload_n 2, 1) := db372.2.2.2.2.2.2.2.2.2.2.2.1
theorem dX11_list_59 : decode cX11_list 59 = .ok (.ireturn, 1) := db372.2.2.2.2.2.2.2.2.2.2.2.2.1
theorem dX11_list_21 : decode cX11_list 21 = .ok (.iload_n 2, 1) := db372.2.2.2.2.2.2.2.2.2.2.2.2.2.1
theorem dX11_list_22 : decode cX11_list 22 = .ok (.iconst (-1), 1) := db372.2.2.2.2.2.2.2.2.2.2.2.2.2.2.1
theorem dX11_list_51 : decode cX11_list 51 = .ok (.istore_n 2, 1) := db372.2.2.2.2.2.2.2.2.2.2.2.2.2.2.2.1
theorem dX11_list_52 : decode cX11_list 52 = .ok (.iinc 3 1, 3) := db372.2.2.2.2.2.2.2.2.2.2.2.2.2.2.2.2.1
theorem dX11_list_55 : decode cX11_list 55 = .ok (.goto (-40), 3) := db372.2.2.2.2.2.2.2.2.2.2.2.2.2.2.2.2.2.1
theorem dX11_list_50 : decode cX11_list 50 = .ok (.iload_n 2, 1) := db372.2.2.2.2.2.2.2.2.2.2.2.2.2.2.2.2.2.2.1
theorem dX11_list_37 : decode cX11_list 37 = .ok (.aload_n 0, 1) := db372.2.2.2.2.2.2.2.2.2.2.2.2.2.2.2.2.2.2.2.1
theorem dX11_list_38 : decode cX11_list 38 = .ok (.iload_n 1, 1) := db372.2.2.2.2.2.2.2.2.2.2.2.2.2.2.2.2.2.2.2.2.1
theorem dX11_list_39 : decode cX11_list 39 = .ok (.iload_n 3, 1) := db372.2.2.2.2.2.2.2.2.2.2.2.2.2.2.2.2.2.2.2.2.2.1
theorem dX11_list_40 : decode cX11_list 40 = .ok (.invokevirtual 381, 3) := db372.2.2.2.2.2.2.2.2.2.2.2.2.2.2.2.2.2.2.2.2.2.2.1
theorem dX11_list_43 : decode cX11_list 43 = .ok (.ifCond .eq 7, 3) := db372.2.2.2.2.2.2.2.2.2.2.2.2.2.2.2.2.2.2.2.2.2.2.2
theorem db373 : (decode cX11_list 46 = .ok (.iload_n 3, 1)) ∧ (decode cX11_list 47 = .ok (.goto 4, 3)) ∧ (decode cX11_list 23 = .ok (.if_icmp .eq 14, 3)) ∧ (decode cX11_list 26 = .ok (.iload_n 3, 1)) ∧ (decode cX11_list 27 = .ok (.invokestatic 255, 3)) ∧ (decode cX11_list 30 = .ok (.iload_n 2, 1)) ∧ (decode cX11_list 31 = .ok (.invokestatic 255, 3)) ∧ (decode cX11_list 34 = .ok (.if_icmp .ge 16, 3)) ∧ (decode cX11_list 8 = .ok (.bipush (-2), 2)) ∧ (decode cX11_list 10 = .ok (.ireturn, 1)) := by decide +kernel
theorem dX11_list_46 : decode cX11_list 46 = .ok (.iload_n 3, 1) := db373.1
theorem dX11_list_47 : decode cX11_list 47 = .ok (.goto 4, 3) := db373.2.1
theorem dX11_list_23 : decode cX11_list 23 = .ok (.if_icmp .eq 14, 3) := db373.2.2.1
theorem dX11_list_26 : decode cX11_list 26 = .ok (.iload_n 3, 1) := db373.2.2.2.1
theorem dX11_list_27 : decode cX11_list 27 = .ok (.invokestatic 255, 3) := db373.2.2.2.2.1
theorem dX11_list_30 : decode cX11_list 30 = .ok (.iload_n 2, 1) := db373.2.2.2.2.2.1
theorem dX11_list_31 : decode cX11_list 31 = .ok (.invokestatic 255, 3) := db373.2.2.2.2.2.2.1
theorem dX11_list_34 : decode cX11_list 34 = .ok (.if_icmp .ge 16, 3) := db373.2.2.2.2.2.2.2.1
theorem dX11_list_8 : decode cX11_list 8 = .ok (.bipush (-2), 2) := db373.2.2.2.2.2.2.2.2.1
theorem dX11_list_10 : decode cX11_list 10 = .ok (.ireturn, 1) := db373.2.2.2.2.2.2.2.2.2
theorem db374 : (decode cX11_lot 0 = .ok (.aload_n 0, 1)) ∧ (decode cX11_lot 1 = .ok (.iload_n 2, 1)) ∧ (decode cX11_lot 2 = .ok (.iload_n 1, 1)) ∧ (decode cX11_lot 3 = .ok (.invokestatic 441, 3)) ∧ (decode cX11_lot 26 = .ok (.invokevirtual 303, 3)) ∧ (decode cX11_lot 29 = .ok (.istore 4, 2)) ∧ (decode cX11_lot 31 = .ok (.iload 4, 2)) ∧ (decode cX11_lot 33 = .ok (.ifCond .ge 6, 3)) ∧ (decode cX11_lot 39 = .ok (.iconst 0, 1)) ∧ (decode cX11_lot 40 = .ok (.istore 5, 2)) ∧ (decode cX11_lot 42 = .ok (.iconst 0, 1)) ∧ (decode cX11_lot 43 = .ok (.istore 6, 2)) ∧ (decode cX11_lot 45 = .ok (.iload 6, 2)) ∧ (decode cX11_lot 47 = .ok (.iload_n 3, 1)) ∧ (decode cX11_lot 48 = .ok (.if_icmp .ge 38, 3)) ∧ (decode cX11_lot 86 = .ok (.iload 5, 2)) ∧ (decode cX11_lot 88 = .ok (.ireturn, 1)) ∧ (decode cX11_lot 51 = .ok (.aload_n 0, 1)) ∧ (decode cX11_lot 52 = .ok (.iload_n 1, 1)) ∧ (decode cX11_lot 53 = .ok (.i2l, 1)) ∧ (decode cX11_lot 54 = .ok (.iload 6, 2)) ∧ (decode cX11_lot 56 = .ok (.i2l, 1)) ∧ (decode cX11_lot 57 = .ok (.ladd, 1)) ∧ (decode cX11_lot 58 = .ok (.iload_n 2, 1)) := by decide +kernel
theorem dX11_lot_0 : decode cX11_lot 0 = .ok (.aload_n 0, 1) := db374.1
theorem dX11_lot_1 : decode cX11_lot 1 = .ok (.iload_n 2, 1) := db374.2.1
theorem dX11_lot_2 : decode cX11_lot 2 = .ok (.iload_n 1, 1) := db374.2.2.1
theorem dX11_lot_3 : decode cX11_lot 3 = .ok (.invokestatic 441, 3) := db374.2.2.2.1
theorem dX11_lot_26 : decode cX11_lot 26 = .ok (.invokevirtual 303, 3) := db374.2.2.2.2.1
theorem dX11_lot_29 : decode cX11_lot 29 = .ok (.istore 4, 2) := db374.2.2.2.2.2.1
theorem dX11_lot_31 : decode cX11_lot 31 = .ok (.iload 4, 2) := db374.2.2.2.2.2.2.1
theorem dX11_lot_33 : decode cX11_lot 33 = .ok (.ifCond .ge 6, 3) := db374.2.2.2.2.2.2.2.1
theorem dX11_lot_39 : decode cX11_lot 39 = .ok (.iconst 0, 1) := db374.2.2.2.2.2.2.2.2.1
theorem dX11_lot_40 : decode cX11_lot 40 = .ok (.istore 5, 2) := db374.2.2.2.2.2.2.2.2.2.1
theorem dX11_lot_42 : decode cX11_lot 42 = .ok (.iconst 0, 1) := db374.2.2.2.2.2.2.2.2.2.2.1
theorem dX11_lot_43 : decode cX11_lot 43 = .ok (.istore 6, 2) := db374.2.2.2.2.2.2.2.2.2.2.2.1
theorem dX11_lot_45 : decode cX11_lot 45 = .ok (.iload 6, 2) := db374.2.2.2.2.2.2.2.2.2.2.2.2.1
theorem dX11_lot_47 : decode cX11_lot 47 = .ok (.iload_n 3, 1) := db374.2.2.2.2.2.2.2.2.2.2.2.2.2.1
theorem dX11_lot_48 : decode cX11_lot 48 = .ok (.if_icmp .ge 38, 3) := db374.2.2.2.2.2.2.2.2.2.2.2.2.2.2.1
theorem dX11_lot_86 : decode cX11_lot 86 = .ok (.iload 5, 2) := db374.2.2.2.2.2.2.2.2.2.2.2.2.2.2.2.1
theorem dX11_lot_88 : decode cX11_lot 88 = .ok (.ireturn, 1) := db374.2.2.2.2.2.2.2.2.2.2.2.2.2.2.2.2.1
theorem dX11_lot_51 : decode cX11_lot 51 = .ok (.aload_n 0, 1) := db374.2.2.2.2.2.2.2.2.2.2.2.2.2.2.2.2.2.1
theorem dX11_lot_52 : decode cX11_lot 52 = .ok (.iload_n 1, 1) := db374.2.2.2.2.2.2.2.2.2.2.2.2.2.2.2.2.2.2.1
theorem dX11_lot_53 : decode cX11_lot 53 = .ok (.i2l, 1) := db374.2.2.2.2.2.2.2.2.2.2.2.2.2.2.2.2.2.2.2.1
theorem dX11_lot_54 : decode cX11_lot 54 = .ok (.iload 6, 2) := db374.2.2.2.2.2.2.2.2.2.2.2.2.2.2.2.2.2.2.2.2.1
theorem dX11_lot_56 : decode cX11_lot 56 = .ok (.i2l, 1) := db374.2.2.2.2.2.2.2.2.2.2.2.2.2.2.2.2.2.2.2.2.2.1
theorem dX11_lot_57 : decode cX11_lot 57 = .ok (.ladd, 1) := db374.2.2.2.2.2.2.2.2.2.2.2.2.2.2.2.2.2.2.2.2.2.2.1
theorem dX11_lot_58 : decode cX11_lot 58 = .ok (.iload_n 2, 1) := db374.2.2.2.2.2.2.2.2.2.2.2.2.2.2.2.2.2.2.2.2.2.2.2
theorem db375 : (decode cX11_lot 59 = .ok (.invokevirtual 444, 3)) ∧ (decode cX11_lot 62 = .ok (.iload 5, 2)) ∧ (decode cX11_lot 64 = .ok (.aload_n 0, 1)) ∧ (decode cX11_lot 65 = .ok (.getfield 427, 3)) ∧ (decode cX11_lot 68 = .ok (.iconst (-1), 1)) ∧ (decode cX11_lot 77 = .ok (.iadd, 1)) ∧ (decode cX11_lot 78 = .ok (.istore 5, 2)) ∧ (decode cX11_lot 80 = .ok (.iinc 6 1, 3)) ∧ (decode cX11_lot 83 = .ok (.goto (-38), 3)) ∧ (decode cX11_lot 69 = .ok (.if_icmp .ne 7, 3)) ∧ (decode cX11_lot 76 = .ok (.iconst 1, 1)) ∧ (decode cX11_lot 72 = .ok (.iconst 0, 1)) ∧ (decode cX11_lot 73 = .ok (.goto 4, 3)) ∧ (decode cX11_lot 36 = .ok (.iload 4, 2)) ∧ (decode cX11_lot 38 = .ok (.ireturn, 1)) ∧ (decode cX11_lot 25 = .ok (.iconst 0, 1)) ∧ (decode cX11_lot 6 = .ok (.ifCond .eq 19, 3)) ∧ (decode cX11_lot 9 = .ok (.iload_n 3, 1)) ∧ (decode cX11_lot 10 = .ok (.i2l, 1)) ∧ (decode cX11_lot 11 = .ok (.lconst 1, 1)) ∧ (decode cX11_lot 12 = .ok (.ldc2_w 448, 3)) ∧ (decode cX11_lot 15 = .ok (.invokestatic 79, 3)) ∧ (decode cX11_lot 18 = .ok (.ifCond .eq 7, 3)) ∧ (decode cX11_lot 21 = .ok (.iconst 1, 1)) := by decide +kernel
theorem dX11_lot_59 : decode cX11_lot 59 = .ok (.invokevirtual 444, 3) := db375.1
theorem dX11_lot_62 : decode cX11_lot 62 = .ok (.iload 5, 2) := db375.2.1
theorem dX11_lot_64 : decode cX11_lot 64 = .ok (.aload_n 0, 1) := db375.2.2.1
theorem dX11_lot_65 : decode cX11_lot 65 = .ok (.getfield 427, 3) := db375.2.2.2.1
theorem dX11_lot_68 : decode cX11_lot 68 = .ok (.iconst (-1), 1) := db375.2.2.2.2.1
theorem dX11_lot_77 : decode cX11_lot 77 = .ok (.iadd, 1) := db375.2.2.2.2.2.1
theorem dX11_lot_78 : decode cX11_lot 78 = .ok (.istore 5, 2) := db375.2.2.2.2.2.2.1
theorem dX11_lot_80 : decode cX11_lot 80 = .ok (.iinc 6 1, 3) := db375.2.2.2.2.2.2.2.1
theorem dX11_lot_83 : decode cX11_lot 83 = .ok (.goto (-38), 3) := db375.2.2.2.2.2.2.2.2.1
theorem dX11_lot_69 : decode cX11_lot 69 = .ok (.if_icmp .ne 7, 3) := db375.2.2.2.2.2.2.2.2.2.1
theorem dX11_lot_76 : decode cX11_lot 76 = .ok (.iconst 1, 1) := db375.2.2.2.2.2.2.2.2.2.2.1
theorem dX11_lot_72 : decode cX11_lot 72 = .ok (.iconst 0, 1) := db375.2.2.2.2.2.2.2.2.2.2.2.1
theorem dX11_lot_73 : decode cX11_lot 73 = .ok (.goto 4, 3) := db375.2.2.2.2.2.2.2.2.2.2.2.2.1
theorem dX11_lot_36 : decode cX11_lot 36 = .ok (.iload 4, 2) := db375.2.2.2.2.2.2.2.2.2.2.2.2.2.1
theorem dX11_lot_38 : decode cX11_lot 38 = .ok (.ireturn, 1) := db375.2.2.2.2.2.2.2.2.2.2.2.2.2.2.1
theorem dX11_lot_25 : decode cX11_lot 25 = .ok (.iconst 0, 1) := db375.2.2.2.2.2.2.2.2.2.2.2.2.2.2.2.1
theorem dX11_lot_6 : decode cX11_lot 6 = .ok (.ifCond .eq 19, 3) := db375.2.2.2.2.2.2.2.2.2.2.2.2.2.2.2.2.1
theorem dX11_lot_9 : decode cX11_lot 9 = .ok (.iload_n 3, 1) := db375.2.2.2.2.2.2.2.2.2.2.2.2.2.2.2.2.2.1
theorem dX11_lot_10 : decode cX11_lot 10 = .ok (.i2l, 1) := db375.2.2.2.2.2.2.2.2.2.2.2.2.2.2.2.2.2.2.1
theorem dX11_lot_11 : decode cX11_lot 11 = .ok (.lconst 1, 1) := db375.2.2.2.2.2.2.2.2.2.2.2.2.2.2.2.2.2.2.2.1
theorem dX11_lot_12 : decode cX11_lot 12 = .ok (.ldc2_w 448, 3) := db375.2.2.2.2.2.2.2.2.2.2.2.2.2.2.2.2.2.2.2.2.1
theorem dX11_lot_15 : decode cX11_lot 15 = .ok (.invokestatic 79, 3) := db375.2.2.2.2.2.2.2.2.2.2.2.2.2.2.2.2.2.2.2.2.2.1
theorem dX11_lot_18 : decode cX11_lot 18 = .ok (.ifCond .eq 7, 3) := db375.2.2.2.2.2.2.2.2.2.2.2.2.2.2.2.2.2.2.2.2.2.2.1
theorem dX11_lot_21 : decode cX11_lot 21 = .ok (.iconst 1, 1) := db375.2.2.2.2.2.2.2.2.2.2.2.2.2.2.2.2.2.2.2.2.2.2.2
theorem dX11_lot_22 : decode cX11_lot 22 = .ok (.goto 4, 3) := by decide +kernel
theorem db376 : (decode cX11_man 0 = .ok (.aload_n 0, 1)) ∧ (decode cX11_man 1 = .ok (.iload_n 1, 1)) ∧ (decode cX11_man 2 = .ok (.invokevirtual 230, 3)) ∧ (decode cX11_man 5 = .ok (.ifCond .eq 22, 3)) ∧ (decode cX11_man 27 = .ok (.bipush (-2), 2)) ∧ (decode cX11_man 29 = .ok (.ireturn, 1)) ∧ (decode cX11_man 8 = .ok (.iload_n 2, 1)) ∧ (decode cX11_man 9 = .ok (.i2l, 1)) ∧ (decode cX11_man 10 = .ok (.lconst 0, 1)) ∧ (decode cX11_man 11 = .ok (.lconst 1, 1)) ∧ (decode cX11_man 12 = .ok (.invokestatic 79, 3)) ∧ (decode cX11_man 15 = .ok (.ifCond .eq 12, 3)) ∧ (decode cX11_man 18 = .ok (.aload_n 0, 1)) ∧ (decode cX11_man 19 = .ok (.iload_n 1, 1)) ∧ (decode cX11_man 20 = .ok (.iload_n 2, 1)) ∧ (decode cX11_man 21 = .ok (.invokevirtual 234, 3)) ∧ (decode cX11_man 24 = .ok (.goto 5, 3)) := by decide +kernel
theorem dX11_man_0 : decode cX11_man 0 = .ok (.aload_n 0, 1) := db376.1
theorem dX11_man_1 : decode cX11_man 1 = .ok (.iload_n 1, 1) := db376.2.1
theorem dX11_man_2 : decode cX11_man 2 = .ok (.invokevirtual 230, 3) := db376.2.2.1
theorem dX11_man_5 : decode cX11_man 5 = .ok (.ifCond .eq 22, 3) := db376.2.2.2.1
theorem dX11_man_27 : decode cX11_man 27 = .ok (.bipush (-2), 2) := db376.2.2.2.2.1
theorem dX11_man_29 : decode cX11_man 29 = .ok (.ireturn, 1) := db376.2.2.2.2.2.1
theorem dX11_man_8 : decode cX11_man 8 = .ok (.iload_n 2, 1) := db376.2.2.2.2.2.2.1
theorem dX11_man_9 : decode cX11_man 9 = .ok (.i2l, 1) := db376.2.2.2.2.2.2.2.1
theorem dX11_man_10 : decode cX11_man 10 = .ok (.lconst 0, 1) := db376.2.2.2.2.2.2.2.2.1
theorem dX11_man_11 : decode cX11_man 11 = .ok (.lconst 1, 1) := db376.2.2.2.2.2.2.2.2.2.1
theorem dX11_man_12 : decode cX11_man 12 = .ok (.invokestatic 79, 3) := db376.2.2.2.2.2.2.2.2.2.2.1
theorem dX11_man_15 : decode cX11_man 15 = .ok (.ifCond .eq 12, 3) := db376.2.2.2.2.2.2.2.2.2.2.2.1
theorem dX11_man_18 : decode cX11_man 18 = .ok (.aload_n 0, 1) := db376.2.2.2.2.2.2.2.2.2.2.2.2.1
theorem dX11_man_19 : decode cX11_man 19 = .ok (.iload_n 1, 1) := db376.2.2.2.2.2.2.2.2.2.2.2.2.2.1
theorem dX11_man_20 : decode cX11_man 20 = .ok (.iload_n 2, 1) := db376.2.2.2.2.2.2.2.2.2.2.2.2.2.2.1
theorem dX11_man_21 : decode cX11_man 21 = .ok (.invokevirtual 234, 3) := db376.2.2.2.2.2.2.2.2.2.2.2.2.2.2.2.1
theorem dX11_man_24 : decode cX11_man 24 = .ok (.goto 5, 3) := db376.2.2.2.2.2.2.2.2.2.2.2.2.2.2.2.2
theorem db377 : (decode cX11_meant 0 = .ok (.aload_n 0, 1)) ∧ (decode cX11_meant 1 = .ok (.iload_n 1, 1)) ∧ (decode cX11_meant 2 = .ok (.invokevirtual 375, 3)) ∧ (decode cX11_meant 5 = .ok (.ifCond .eq 21, 3)) ∧ (decode cX11_meant 26 = .ok (.bipush (-2), 2)) ∧ (decode cX11_meant 28 = .ok (.ireturn, 1)) ∧ (decode cX11_meant 8 = .ok (.aload_n 0, 1)) ∧ (decode cX11_meant 9 = .ok (.iload_n 2, 1)) ∧ (decode cX11_meant 10 = .ok (.invokevirtual 230, 3)) ∧ (decode cX11_meant 13 = .ok (.ifCond .eq 13, 3)) ∧ (decode cX11_meant 16 = .ok (.iload_n 3, 1)) ∧ (decode cX11_meant 17 = .ok (.i2l, 1)) ∧ (decode cX11_meant 18 = .ok (.lconst 0, 1)) ∧ (decode cX11_meant 19 = .ok (.lconst 1, 1)) ∧ (decode cX11_meant 20 = .ok (.invokestatic 79, 3)) ∧ (decode cX11_meant 23 = .ok (.ifCond .ne 6, 3)) ∧ (decode cX11_meant 29 = .ok (.iconst 0, 1)) ∧ (decode cX11_meant 30 = .ok (.istore 4, 2)) ∧ (decode cX11_meant 32 = .ok (.iconst 0, 1)) ∧ (decode cX11_meant 33 = .ok (.istore 5, 2)) ∧ (decode cX11_meant 35 = .ok (.iload 5, 2)) ∧ (decode cX11_meant 37 = .ok (.aload_n 0, 1)) ∧ (decode cX11_meant 38 = .ok (.getfield 9, 3)) ∧ (decode cX11_meant 41 = .ok (.iconst 5, 1)) := by decide +kernel
theorem dX11_meant_0 : decode cX11_meant 0 = .ok (.aload_n 0, 1) := db377.1
theorem dX11_meant_1 : decode cX11_meant 1 = .ok (.iload_n 1, 1) := db377.2.1
theorem dX11_meant_2 : decode cX11_meant 2 = .ok (.invokevirtual 375, 3) := db377.2.2.1
theorem dX11_meant_5 : decode cX11_meant 5 = .ok (.ifCond .eq 21, 3) := db377.2.2.2.1
theorem dX11_meant_26 : decode cX11_meant 26 = .ok (.bipush (-2), 2) := db377.2.2.2.2.1
theorem dX11_meant_28 : decode cX11_meant 28 = .ok (.ireturn, 1) := db377.2.2.2.2.2.1
theorem dX11_meant_8 : decode cX11_meant 8 = .ok (.aload_n 0, 1) := db377.2.2.2.2.2.2.1
theorem dX11_meant_9 : decode cX11_meant 9 = .ok (.iload_n 2, 1) := db377.2.2.2.2.2.2.2.1
theorem dX11_meant_10 : decode cX11_meant 10 = .ok (.invokevirtual 230, 3) := db377.2.2.2.2.2.2.2.2.1
theorem dX11_meant_13 : decode cX11_meant 13 = .ok (.ifCond .eq 13, 3) := db377.2.2.2.2.2.2.2.2.2.1
theorem dX11_meant_16 : decode cX11_meant 16 = .ok (.iload_n 3, 1) := db377.2.2.2.2.2.2.2.2.2.2.1
theorem dX11_meant_17 : decode cX11_meant 17 = .ok (.i2l, 1) := db377.2.2.2.2.2.2.2.2.2.2.2.1
theorem dX11_meant_18 : decode cX11_meant 18 = .ok (.lconst 0, 1) := db377.2.2.2.2.2.2.2.2.2.2.2.2.1
theorem dX11_meant_19 : decode cX11_meant 19 = .ok (.lconst 1, 1) := db377.2.2.2.2.2.2.2.2.2.2.2.2.2.1
theorem dX11_meant_20 : decode cX11_meant 20 = .ok (.invokestatic 79, 3) := db377.2.2.2.2.2.2.2.2.2.2.2.2.2.2.1
theorem dX11_meant_23 : decode cX11_meant 23 = .ok (.ifCond .ne 6, 3) := db377.2.2.2.2.2.2.2.2.2.2.2.2.2.2.2.1
theorem dX11_meant_29 : decode cX11_meant 29 = .ok (.iconst 0, 1) := db377.2.2.2.2.2.2.2.2.2.2.2.2.2.2.2.2.1
theorem dX11_meant_30 : decode cX11_meant 30 = .ok (.istore 4, 2) := db377.2.2.2.2.2.2.2.2.2.2.2.2.2.2.2.2.2.1
theorem dX11_meant_32 : decode cX11_meant 32 = .ok (.iconst 0, 1) := db377.2.2.2.2.2.2.2.2.2.2.2.2.2.2.2.2.2.2.1
theorem dX11_meant_33 : decode cX11_meant 33 = .ok (.istore 5, 2) := db377.2.2.2.2.2.2.2.2.2.2.2.2.2.2.2.2.2.2.2.1
theorem dX11_meant_35 : decode cX11_meant 35 = .ok (.iload 5, 2) := db377.2.2.2.2.2.2.2.2.2.2.2.2.2.2.2.2.2.2.2.2.1
theorem dX11_meant_37 : decode cX11_meant 37 = .ok (.aload_n 0, 1) := db377.2.2.2.2.2.2.2.2.2.2.2.2.2.2.2.2.2.2.2.2.2.1
theorem dX11_meant_38 : decode cX11_meant 38 = .ok (.getfield 9, 3) := db377.2.2.2.2.2.2.2.2.2.2.2.2.2.2.2.2.2.2.2.2.2.2.1
theorem dX11_meant_41 : decode cX11_meant 41 = .ok (.iconst 5, 1) := db377.2.2.2.2.2.2.2.2.2.2.2.2.2.2.2.2.2.2.2.2.2.2.2
theorem db378 : (decode cX11_meant 42 = .ok (.iaload, 1)) ∧ (decode cX11_meant 43 = .ok (.if_icmp .ge 28, 3)) ∧ (decode cX11_meant 71 = .ok (.iload_n 1, 1)) ∧ (decode cX11_meant 72 = .ok (.iload_n 2, 1)) ∧ (decode cX11_meant 73 = .ok (.invokestatic 258, 3)) ∧ (decode cX11_meant 76 = .ok (.aload_n 0, 1)) ∧ (decode cX11_meant 77 = .ok (.iload_n 2, 1)) ∧ (decode cX11_meant 78 = .ok (.iconst 0, 1)) ∧ (decode cX11_meant 79 = .ok (.invokevirtual 234, 3)) ∧ (decode cX11_meant 82 = .ok (.imul, 1)) ∧ (decode cX11_meant 83 = .ok (.i2l, 1)) ∧ (decode cX11_meant 84 = .ok (.iload 4, 2)) ∧ (decode cX11_meant 86 = .ok (.i2l, 1)) ∧ (decode cX11_meant 87 = .ok (.iload_n 3, 1)) ∧ (decode cX11_meant 88 = .ok (.invokestatic 388, 3)) ∧ (decode cX11_meant 91 = .ok (.l2i, 1)) ∧ (decode cX11_meant 92 = .ok (.ireturn, 1)) ∧ (decode cX11_meant 46 = .ok (.iload 4, 2)) ∧ (decode cX11_meant 48 = .ok (.iload_n 1, 1)) ∧ (decode cX11_meant 49 = .ok (.iload 5, 2)) ∧ (decode cX11_meant 51 = .ok (.invokestatic 258, 3)) ∧ (decode cX11_meant 54 = .ok (.aload_n 0, 1)) ∧ (decode cX11_meant 55 = .ok (.iload 5, 2)) ∧ (decode cX11_meant 57 = .ok (.iconst 0, 1)) := by decide +kernel
theorem dX11_meant_42 : decode cX11_meant 42 = .ok (.iaload, 1) := db378.1
theorem dX11_meant_43 : decode cX11_meant 43 = .ok (.if_icmp .ge 28, 3) := db378.2.1
theorem dX11_meant_71 : decode cX11_meant 71 = .ok (.iload_n 1, 1) := db378.2.2.1
theorem dX11_meant_72 : decode cX11_meant 72 = .ok (.iload_n 2, 1) := db378.2.2.2.1
theorem dX11_meant_73 : decode cX11_meant 73 = .ok (.invokestatic 258, 3) := db378.2.2.2.2.1
theorem dX11_meant_76 : decode cX11_meant 76 = .ok (.aload_n 0, 1) := db378.2.2.2.2.2.1
theorem dX11_meant_77 : decode cX11_meant 77 = .ok (.iload_n 2, 1) := db378.2.2.2.2.2.2.1
theorem dX11_meant_78 : decode cX11_meant 78 = .ok (.iconst 0, 1) := db378.2.2.2.2.2.2.2.1
theorem dX11_meant_79 : decode cX11_meant 79 = .ok (.invokevirtual 234, 3) := db378.2.2.2.2.2.2.2.2.1
theorem dX11_meant_82 : decode cX11_meant 82 = .ok (.imul, 1) := db378.2.2.2.2.2.2.2.2.2.1
theorem dX11_meant_83 : decode cX11_meant 83 = .ok (.i2l, 1) := db378.2.2.2.2.2.2.2.2.2.2.1
theorem dX11_meant_84 : decode cX11_meant 84 = .ok (.iload 4, 2) := db378.2.2.2.2.2.2.2.2.2.2.2.1
theorem dX11_meant_86 : decode cX11_meant 86 = .ok (.i2l, 1) := db378.2.2.2.2.2.2.2.2.2.2.2.2.1
theorem dX11_meant_87 : decode cX11_meant 87 = .ok (.iload_n 3, 1) := db378.2.2.2.2.2.2.2.2.2.2.2.2.2.1
theorem dX11_meant_88 : decode cX11_meant 88 = .ok (.invokestatic 388, 3) := db378.2.2.2.2.2.2.2.2.2.2.2.2.2.2.1
theorem dX11_meant_91 : decode cX11_meant 91 = .ok (.l2i, 1) := db378.2.2.2.2.2.2.2.2.2.2.2.2.2.2.2.1
theorem dX11_meant_92 : decode cX11_meant 92 = .ok (.ireturn, 1) := db378.2.2.2.2.2.2.2.2.2.2.2.2.2.2.2.2.1
theorem dX11_meant_46 : decode cX11_meant 46 = .ok (.iload 4, 2) := db378.2.2.2.2.2.2.2.2.2.2.2.2.2.2.2.2.2.1
theorem dX11_meant_48 : decode cX11_meant 48 = .ok (.iload_n 1, 1) := db378.2.2.2.2.2.2.2.2.2.2.2.2.2.2.2.2.2.2.1
theorem dX11_meant_49 : decode cX11_meant 49 = .ok (.iload 5, 2) := db378.2.2.2.2.2.2.2.2.2.2.2.2.2.2.2.2.2.2.2.1
theorem dX11_meant_51 : decode cX11_meant 51 = .ok (.invokestatic 258, 3) := db378.2.2.2.2.2.2.2.2.2.2.2.2.2.2.2.2.2.2.2.2.1
theorem dX11_meant_54 : decode cX11_meant 54 = .ok (.aload_n 0, 1) := db378.2.2.2.2.2.2.2.2.2.2.2.2.2.2.2.2.2.2.2.2.2.1
theorem dX11_meant_55 : decode cX11_meant 55 = .ok (.iload 5, 2) := db378.2.2.2.2.2.2.2.2.2.2.2.2.2.2.2.2.2.2.2.2.2.2.1
theorem dX11_meant_57 : decode cX11_meant 57 = .ok (.iconst 0, 1) := db378.2.2.2.2.2.2.2.2.2.2.2.2.2.2.2.2.2.2.2.2.2.2.2
theorem db379 : (decode cX11_meant 58 = .ok (.invokevirtual 234, 3)) ∧ (decode cX11_meant 61 = .ok (.imul, 1)) ∧ (decode cX11_meant 62 = .ok (.iadd, 1)) ∧ (decode cX11_meant 63 = .ok (.istore 4, 2)) ∧ (decode cX11_meant 65 = .ok (.iinc 5 1, 3)) ∧ (decode cX11_meant 68 = .ok (.goto (-33), 3)) := by decide +kernel
theorem dX11_meant_58 : decode cX11_meant 58 = .ok (.invokevirtual 234, 3) := db379.1
theorem dX11_meant_61 : decode cX11_meant 61 = .ok (.imul, 1) := db379.2.1
theorem dX11_meant_62 : decode cX11_meant 62 = .ok (.iadd, 1) := db379.2.2.1
theorem dX11_meant_63 : decode cX11_meant 63 = .ok (.istore 4, 2) := db379.2.2.2.1
theorem dX11_meant_65 : decode cX11_meant 65 = .ok (.iinc 5 1, 3) := db379.2.2.2.2.1
theorem dX11_meant_68 : decode cX11_meant 68 = .ok (.goto (-33), 3) := db379.2.2.2.2.2
theorem db380 : (decode cX11_meet 0 = .ok (.aload_n 0, 1)) ∧ (decode cX11_meet 1 = .ok (.getfield 52, 3)) ∧ (decode cX11_meet 4 = .ok (.iload_n 1, 1)) ∧ (decode cX11_meet 5 = .ok (.iaload, 1)) ∧ (decode cX11_meet 6 = .ok (.iconst (-1), 1)) ∧ (decode cX11_meet 7 = .ok (.if_icmp .eq 4, 3)) ∧ (decode cX11_meet 11 = .ok (.aload_n 0, 1)) ∧ (decode cX11_meet 12 = .ok (.getfield 52, 3)) ∧ (decode cX11_meet 15 = .ok (.iload_n 1, 1)) ∧ (decode cX11_meet 16 = .ok (.iload_n 2, 1)) ∧ (decode cX11_meet 17 = .ok (.iastore, 1)) ∧ (decode cX11_meet 18 = .ok (.aload_n 0, 1)) ∧ (decode cX11_meet 19 = .ok (.getfield 55, 3)) ∧ (decode cX11_meet 22 = .ok (.iload_n 1, 1)) ∧ (decode cX11_meet 23 = .ok (.iload_n 3, 1)) ∧ (decode cX11_meet 24 = .ok (.iastore, 1)) ∧ (decode cX11_meet 25 = .ok (.aload_n 0, 1)) ∧ (decode cX11_meet 26 = .ok (.getfield 49, 3)) ∧ (decode cX11_meet 29 = .ok (.aload_n 0, 1)) ∧ (decode cX11_meet 30 = .ok (.getfield 346, 3)) ∧ (decode cX11_meet 33 = .ok (.iload_n 1, 1)) ∧ (decode cX11_meet 34 = .ok (.iastore, 1)) ∧ (decode cX11_meet 35 = .ok (.aload_n 0, 1)) ∧ (decode cX11_meet 36 = .ok (.dup, 1)) := by decide +kernel
theorem dX11_meet_0 : decode cX11_meet 0 = .ok (.aload_n 0, 1) := db380.1
theorem dX11_meet_1 : decode cX11_meet 1 = .ok (.getfield 52, 3) := db380.2.1
theorem dX11_meet_4 : decode cX11_meet 4 = .ok (.iload_n 1, 1) := db380.2.2.1
theorem dX11_meet_5 : decode cX11_meet 5 = .ok (.iaload, 1) := db380.2.2.2.1
theorem dX11_meet_6 : decode cX11_meet 6 = .ok (.iconst (-1), 1) := db380.2.2.2.2.1
theorem dX11_meet_7 : decode cX11_meet 7 = .ok (.if_icmp .eq 4, 3) := db380.2.2.2.2.2.1
theorem dX11_meet_11 : decode cX11_meet 11 = .ok (.aload_n 0, 1) := db380.2.2.2.2.2.2.1
theorem dX11_meet_12 : decode cX11_meet 12 = .ok (.getfield 52, 3) := db380.2.2.2.2.2.2.2.1
theorem dX11_meet_15 : decode cX11_meet 15 = .ok (.iload_n 1, 1) := db380.2.2.2.2.2.2.2.2.1
theorem dX11_meet_16 : decode cX11_meet 16 = .ok (.iload_n 2, 1) := db380.2.2.2.2.2.2.2.2.2.1
theorem dX11_meet_17 : decode cX11_meet 17 = .ok (.iastore, 1) := db380.2.2.2.2.2.2.2.2.2.2.1
theorem dX11_meet_18 : decode cX11_meet 18 = .ok (.aload_n 0, 1) := db380.2.2.2.2.2.2.2.2.2.2.2.1
theorem dX11_meet_19 : decode cX11_meet 19 = .ok (.getfield 55, 3) := db380.2.2.2.2.2.2.2.2.2.2.2.2.1
theorem dX11_meet_22 : decode cX11_meet 22 = .ok (.iload_n 1, 1) := db380.2.2.2.2.2.2.2.2.2.2.2.2.2.1
theorem dX11_meet_23 : decode cX11_meet 23 = .ok (.iload_n 3, 1) := db380.2.2.2.2.2.2.2.2.2.2.2.2.2.2.1
theorem dX11_meet_24 : decode cX11_meet 24 = .ok (.iastore, 1) := db380.2.2.2.2.2.2.2.2.2.2.2.2.2.2.2.1
theorem dX11_meet_25 : decode cX11_meet 25 = .ok (.aload_n 0, 1) := db380.2.2.2.2.2.2.2.2.2.2.2.2.2.2.2.2.1
theorem dX11_meet_26 : decode cX11_meet 26 = .ok (.getfield 49, 3) := db380.2.2.2.2.2.2.2.2.2.2.2.2.2.2.2.2.2.1
theorem dX11_meet_29 : decode cX11_meet 29 = .ok (.aload_n 0, 1) := db380.2.2.2.2.2.2.2.2.2.2.2.2.2.2.2.2.2.2.1
theorem dX11_meet_30 : decode cX11_meet 30 = .ok (.getfield 346, 3) := db380.2.2.2.2.2.2.2.2.2.2.2.2.2.2.2.2.2.2.2.1
theorem dX11_meet_33 : decode cX11_meet 33 = .ok (.iload_n 1, 1) := db380.2.2.2.2.2.2.2.2.2.2.2.2.2.2.2.2.2.2.2.2.1
theorem dX11_meet_34 : decode cX11_meet 34 = .ok (.iastore, 1) := db380.2.2.2.2.2.2.2.2.2.2.2.2.2.2.2.2.2.2.2.2.2.1
theorem dX11_meet_35 : decode cX11_meet 35 = .ok (.aload_n 0, 1) := db380.2.2.2.2.2.2.2.2.2.2.2.2.2.2.2.2.2.2.2.2.2.2.1
theorem dX11_meet_36 : decode cX11_meet 36 = .ok (.dup, 1) := db380.2.2.2.2.2.2.2.2.2.2.2.2.2.2.2.2.2.2.2.2.2.2.2
theorem db381 : (decode cX11_meet 37 = .ok (.getfield 346, 3)) ∧ (decode cX11_meet 40 = .ok (.iconst 1, 1)) ∧ (decode cX11_meet 41 = .ok (.iadd, 1)) ∧ (decode cX11_meet 42 = .ok (.putfield 346, 3)) ∧ (decode cX11_meet 45 = .ok (.return_, 1)) ∧ (decode cX11_meet 10 = .ok (.return_, 1)) := by decide +kernel
theorem dX11_meet_37 : decode cX11_meet 37 = .ok (.getfield 346, 3) := db381.1
theorem dX11_meet_40 : decode cX11_meet 40 = .ok (.iconst 1, 1) := db381.2.1
theorem dX11_meet_41 : decode cX11_meet 41 = .ok (.iadd, 1) := db381.2.2.1
theorem dX11_meet_42 : decode cX11_meet 42 = .ok (.putfield 346, 3) := db381.2.2.2.1
theorem dX11_meet_45 : decode cX11_meet 45 = .ok (.return_, 1) := db381.2.2.2.2.1
theorem dX11_meet_10 : decode cX11_meet 10 = .ok (.return_, 1) := db381.2.2.2.2.2
theorem db382 : (decode cX11_needs 0 = .ok (.aload_n 0, 1)) ∧ (decode cX11_needs 1 = .ok (.aload_n 1, 1)) ∧ (decode cX11_needs 2 = .ok (.invokevirtual 153, 3)) ∧ (decode cX11_needs 5 = .ok (.ifCond .ne 8, 3)) ∧ (decode cX11_needs 13 = .ok (.return_, 1)) ∧ (decode cX11_needs 8 = .ok (.aload_n 0, 1)) ∧ (decode cX11_needs 9 = .ok (.iconst 1, 1)) ∧ (decode cX11_needs 10 = .ok (.invokevirtual 156, 3)) := by decide +kernel
theorem dX11_needs_0 : decode cX11_needs 0 = .ok (.aload_n 0, 1) := db382.1
theorem dX11_needs_1 : decode cX11_needs 1 = .ok (.aload_n 1, 1) := db382.2.1
theorem dX11_needs_2 : decode cX11_needs 2 = .ok (.invokevirtual 153, 3) := db382.2.2.1
theorem dX11_needs_5 : decode cX11_needs 5 = .ok (.ifCond .ne 8, 3) := db382.2.2.2.1
theorem dX11_needs_13 : decode cX11_needs 13 = .ok (.return_, 1) := db382.2.2.2.2.1
theorem dX11_needs_8 : decode cX11_needs 8 = .ok (.aload_n 0, 1) := db382.2.2.2.2.2.1
theorem dX11_needs_9 : decode cX11_needs 9 = .ok (.iconst 1, 1) := db382.2.2.2.2.2.2.1
theorem dX11_needs_10 : decode cX11_needs 10 = .ok (.invokevirtual 156, 3) := db382.2.2.2.2.2.2.2
theorem db383 : (decode cX11_nextWay 0 = .ok (.iload_n 1, 1)) ∧ (decode cX11_nextWay 1 = .ok (.iconst 1, 1)) ∧ (decode cX11_nextWay 2 = .ok (.isub, 1)) ∧ (decode cX11_nextWay 3 = .ok (.istore_n 2, 1)) ∧ (decode cX11_nextWay 4 = .ok (.iload_n 2, 1)) ∧ (decode cX11_nextWay 5 = .ok (.ifCond .lt 43, 3)) ∧ (decode cX11_nextWay 48 = .ok (.iconst 0, 1)) ∧ (decode cX11_nextWay 49 = .ok (.ireturn, 1)) ∧ (decode cX11_nextWay 8 = .ok (.aload_n 0, 1)) ∧ (decode cX11_nextWay 9 = .ok (.getfield 40, 3)) ∧ (decode cX11_nextWay 12 = .ok (.iload_n 2, 1)) ∧ (decode cX11_nextWay 13 = .ok (.dup2, 1)) ∧ (decode cX11_nextWay 14 = .ok (.iaload, 1)) ∧ (decode cX11_nextWay 15 = .ok (.iconst 1, 1)) ∧ (decode cX11_nextWay 16 = .ok (.iadd, 1)) ∧ (decode cX11_nextWay 17 = .ok (.iastore, 1)) ∧ (decode cX11_nextWay 18 = .ok (.aload_n 0, 1)) ∧ (decode cX11_nextWay 19 = .ok (.getfield 40, 3)) ∧ (decode cX11_nextWay 22 = .ok (.iload_n 2, 1)) ∧ (decode cX11_nextWay 23 = .ok (.iaload, 1)) ∧ (decode cX11_nextWay 24 = .ok (.aload_n 0, 1)) ∧ (decode cX11_nextWay 25 = .ok (.getfield 9, 3)) ∧ (decode cX11_nextWay 28 = .ok (.iconst 4, 1)) ∧ (decode cX11_nextWay 29 = .ok (.iaload, 1)) := by decide +kernel
theorem dX11_nextWay_0 : decode cX11_nextWay 0 = .ok (.iload_n 1, 1) := db383.1
theorem dX11_nextWay_1 : decode cX11_nextWay 1 = .ok (.iconst 1, 1) := db383.2.1
theorem dX11_nextWay_2 : decode cX11_nextWay 2 = .ok (.isub, 1) := db383.2.2.1
theorem dX11_nextWay_3 : decode cX11_nextWay 3 = .ok (.istore_n 2, 1) := db383.2.2.2.1
theorem dX11_nextWay_4 : decode cX11_nextWay 4 = .ok (.iload_n 2, 1) := db383.2.2.2.2.1
theorem dX11_nextWay_5 : decode cX11_nextWay 5 = .ok (.ifCond .lt 43, 3) := db383.2.2.2.2.2.1
theorem dX11_nextWay_48 : decode cX11_nextWay 48 = .ok (.iconst 0, 1) := db383.2.2.2.2.2.2.1
theorem dX11_nextWay_49 : decode cX11_nextWay 49 = .ok (.ireturn, 1) := db383.2.2.2.2.2.2.2.1
theorem dX11_nextWay_8 : decode cX11_nextWay 8 = .ok (.aload_n 0, 1) := db383.2.2.2.2.2.2.2.2.1
theorem dX11_nextWay_9 : decode cX11_nextWay 9 = .ok (.getfield 40, 3) := db383.2.2.2.2.2.2.2.2.2.1
theorem dX11_nextWay_12 : decode cX11_nextWay 12 = .ok (.iload_n 2, 1) := db383.2.2.2.2.2.2.2.2.2.2.1
theorem dX11_nextWay_13 : decode cX11_nextWay 13 = .ok (.dup2, 1) := db383.2.2.2.2.2.2.2.2.2.2.2.1
theorem dX11_nextWay_14 : decode cX11_nextWay 14 = .ok (.iaload, 1) := db383.2.2.2.2.2.2.2.2.2.2.2.2.1
theorem dX11_nextWay_15 : decode cX11_nextWay 15 = .ok (.iconst 1, 1) := db383.2.2.2.2.2.2.2.2.2.2.2.2.2.1
theorem dX11_nextWay_16 : decode cX11_nextWay 16 = .ok (.iadd, 1) := db383.2.2.2.2.2.2.2.2.2.2.2.2.2.2.1
theorem dX11_nextWay_17 : decode cX11_nextWay 17 = .ok (.iastore, 1) := db383.2.2.2.2.2.2.2.2.2.2.2.2.2.2.2.1
theorem dX11_nextWay_18 : decode cX11_nextWay 18 = .ok (.aload_n 0, 1) := db383.2.2.2.2.2.2.2.2.2.2.2.2.2.2.2.2.1
theorem dX11_nextWay_19 : decode cX11_nextWay 19 = .ok (.getfield 40, 3) := db383.2.2.2.2.2.2.2.2.2.2.2.2.2.2.2.2.2.1
theorem dX11_nextWay_22 : decode cX11_nextWay 22 = .ok (.iload_n 2, 1) := db383.2.2.2.2.2.2.2.2.2.2.2.2.2.2.2.2.2.2.1
theorem dX11_nextWay_23 : decode cX11_nextWay 23 = .ok (.iaload, 1) := db383.2.2.2.2.2.2.2.2.2.2.2.2.2.2.2.2.2.2.2.1
theorem dX11_nextWay_24 : decode cX11_nextWay 24 = .ok (.aload_n 0, 1) := db383.2.2.2.2.2.2.2.2.2.2.2.2.2.2.2.2.2.2.2.2.1
theorem dX11_nextWay_25 : decode cX11_nextWay 25 = .ok (.getfield 9, 3) := db383.2.2.2.2.2.2.2.2.2.2.2.2.2.2.2.2.2.2.2.2.2.1
theorem dX11_nextWay_28 : decode cX11_nextWay 28 = .ok (.iconst 4, 1) := db383.2.2.2.2.2.2.2.2.2.2.2.2.2.2.2.2.2.2.2.2.2.2.1
theorem dX11_nextWay_29 : decode cX11_nextWay 29 = .ok (.iaload, 1) := db383.2.2.2.2.2.2.2.2.2.2.2.2.2.2.2.2.2.2.2.2.2.2.2
theorem db384 : (decode cX11_nextWay 30 = .ok (.if_icmp .ge 5, 3)) ∧ (decode cX11_nextWay 35 = .ok (.aload_n 0, 1)) ∧ (decode cX11_nextWay 36 = .ok (.getfield 40, 3)) ∧ (decode cX11_nextWay 39 = .ok (.iload_n 2, 1)) ∧ (decode cX11_nextWay 40 = .ok (.iconst 0, 1)) ∧ (decode cX11_nextWay 41 = .ok (.iastore, 1)) ∧ (decode cX11_nextWay 42 = .ok (.iinc 2 (-1), 3)) ∧ (decode cX11_nextWay 45 = .ok (.goto (-41), 3)) ∧ (decode cX11_nextWay 33 = .ok (.iconst 1, 1)) ∧ (decode cX11_nextWay 34 = .ok (.ireturn, 1)) := by decide +kernel
theorem dX11_nextWay_30 : decode cX11_nextWay 30 = .ok (.if_icmp .ge 5, 3) := db384.1
theorem dX11_nextWay_35 : decode cX11_nextWay 35 = .ok (.aload_n 0, 1) := db384.2.1
theorem dX11_nextWay_36 : decode cX11_nextWay 36 = .ok (.getfield 40, 3) := db384.2.2.1
theorem dX11_nextWay_39 : decode cX11_nextWay 39 = .ok (.iload_n 2, 1) := db384.2.2.2.1
theorem dX11_nextWay_40 : decode cX11_nextWay 40 = .ok (.iconst 0, 1) := db384.2.2.2.2.1
theorem dX11_nextWay_41 : decode cX11_nextWay 41 = .ok (.iastore, 1) := db384.2.2.2.2.2.1
theorem dX11_nextWay_42 : decode cX11_nextWay 42 = .ok (.iinc 2 (-1), 3) := db384.2.2.2.2.2.2.1
theorem dX11_nextWay_45 : decode cX11_nextWay 45 = .ok (.goto (-41), 3) := db384.2.2.2.2.2.2.2.1
theorem dX11_nextWay_33 : decode cX11_nextWay 33 = .ok (.iconst 1, 1) := db384.2.2.2.2.2.2.2.2.1
theorem dX11_nextWay_34 : decode cX11_nextWay 34 = .ok (.ireturn, 1) := db384.2.2.2.2.2.2.2.2.2
theorem db385 : (decode cX11_number 0 = .ok (.aload_n 0, 1)) ∧ (decode cX11_number 1 = .ok (.invokevirtual 133, 3)) ∧ (decode cX11_number 20 = .ok (.aload_n 0, 1)) ∧ (decode cX11_number 21 = .ok (.invokevirtual 133, 3)) ∧ (decode cX11_number 47 = .ok (.aload_n 0, 1)) ∧ (decode cX11_number 48 = .ok (.invokevirtual 133, 3)) ∧ (decode cX11_number 51 = .ok (.ifCond .ne 5, 3)) ∧ (decode cX11_number 56 = .ok (.aload_n 0, 1)) ∧ (decode cX11_number 57 = .ok (.getfield 120, 3)) ∧ (decode cX11_number 60 = .ok (.istore_n 3, 1)) ∧ (decode cX11_number 61 = .ok (.aload_n 0, 1)) ∧ (decode cX11_number 62 = .ok (.invokevirtual 150, 3)) ∧ (decode cX11_number 65 = .ok (.iload_n 3, 1)) ∧ (decode cX11_number 66 = .ok (.ireturn, 1)) ∧ (decode cX11_number 54 = .ok (.iconst 0, 1)) ∧ (decode cX11_number 55 = .ok (.ireturn, 1)) ∧ (decode cX11_number 24 = .ok (.ifCond .eq 23, 3)) ∧ (decode cX11_number 27 = .ok (.aload_n 0, 1)) ∧ (decode cX11_number 28 = .ok (.getfield 120, 3)) ∧ (decode cX11_number 31 = .ok (.i2l, 1)) ∧ (decode cX11_number 32 = .ok (.iload_n 1, 1)) ∧ (decode cX11_number 33 = .ok (.i2l, 1)) ∧ (decode cX11_number 34 = .ok (.iload_n 2, 1)) ∧ (decode cX11_number 35 = .ok (.i2l, 1)) := by decide +kernel
theorem dX11_number_0 : decode cX11_number 0 = .ok (.aload_n 0, 1) := db385.1
theorem dX11_number_1 : decode cX11_number 1 = .ok (.invokevirtual 133, 3) := db385.2.1
theorem dX11_number_20 : decode cX11_number 20 = .ok (.aload_n 0, 1) := db385.2.2.1
theorem dX11_number_21 : decode cX11_number 21 = .ok (.invokevirtual 133, 3) := db385.2.2.2.1
theorem dX11_number_47 : decode cX11_number 47 = .ok (.aload_n 0, 1) := db385.2.2.2.2.1
theorem dX11_number_48 : decode cX11_number 48 = .ok (.invokevirtual 133, 3) := db385.2.2.2.2.2.1
theorem dX11_number_51 : decode cX11_number 51 = .ok (.ifCond .ne 5, 3) := db385.2.2.2.2.2.2.1
theorem dX11_number_56 : decode cX11_number 56 = .ok (.aload_n 0, 1) := db385.2.2.2.2.2.2.2.1
theorem dX11_number_57 : decode cX11_number 57 = .ok (.getfield 120, 3) := db385.2.2.2.2.2.2.2.2.1
theorem dX11_number_60 : decode cX11_number 60 = .ok (.istore_n 3, 1) := db385.2.2.2.2.2.2.2.2.2.1
theorem dX11_number_61 : decode cX11_number 61 = .ok (.aload_n 0, 1) := db385.2.2.2.2.2.2.2.2.2.2.1
theorem dX11_number_62 : decode cX11_number 62 = .ok (.invokevirtual 150, 3) := db385.2.2.2.2.2.2.2.2.2.2.2.1
theorem dX11_number_65 : decode cX11_number 65 = .ok (.iload_n 3, 1) := db385.2.2.2.2.2.2.2.2.2.2.2.2.1
theorem dX11_number_66 : decode cX11_number 66 = .ok (.ireturn, 1) := db385.2.2.2.2.2.2.2.2.2.2.2.2.2.1
theorem dX11_number_54 : decode cX11_number 54 = .ok (.iconst 0, 1) := db385.2.2.2.2.2.2.2.2.2.2.2.2.2.2.1
theorem dX11_number_55 : decode cX11_number 55 = .ok (.ireturn, 1) := db385.2.2.2.2.2.2.2.2.2.2.2.2.2.2.2.1
theorem dX11_number_24 : decode cX11_number 24 = .ok (.ifCond .eq 23, 3) := db385.2.2.2.2.2.2.2.2.2.2.2.2.2.2.2.2.1
theorem dX11_number_27 : decode cX11_number 27 = .ok (.aload_n 0, 1) := db385.2.2.2.2.2.2.2.2.2.2.2.2.2.2.2.2.2.1
theorem dX11_number_28 : decode cX11_number 28 = .ok (.getfield 120, 3) := db385.2.2.2.2.2.2.2.2.2.2.2.2.2.2.2.2.2.2.1
theorem dX11_number_31 : decode cX11_number 31 = .ok (.i2l, 1) := db385.2.2.2.2.2.2.2.2.2.2.2.2.2.2.2.2.2.2.2.1
theorem dX11_number_32 : decode cX11_number 32 = .ok (.iload_n 1, 1) := db385.2.2.2.2.2.2.2.2.2.2.2.2.2.2.2.2.2.2.2.2.1
theorem dX11_number_33 : decode cX11_number 33 = .ok (.i2l, 1) := db385.2.2.2.2.2.2.2.2.2.2.2.2.2.2.2.2.2.2.2.2.2.1
theorem dX11_number_34 : decode cX11_number 34 = .ok (.iload_n 2, 1) := db385.2.2.2.2.2.2.2.2.2.2.2.2.2.2.2.2.2.2.2.2.2.2.1
theorem dX11_number_35 : decode cX11_number 35 = .ok (.i2l, 1) := db385.2.2.2.2.2.2.2.2.2.2.2.2.2.2.2.2.2.2.2.2.2.2.2
theorem db386 : (decode cX11_number 36 = .ok (.invokestatic 79, 3)) ∧ (decode cX11_number 39 = .ok (.ifCond .ne 8, 3)) ∧ (decode cX11_number 42 = .ok (.aload_n 0, 1)) ∧ (decode cX11_number 43 = .ok (.iconst 2, 1)) ∧ (decode cX11_number 44 = .ok (.invokevirtual 156, 3)) ∧ (decode cX11_number 4 = .ok (.ifCond .eq 16, 3)) ∧ (decode cX11_number 7 = .ok (.aload_n 0, 1)) ∧ (decode cX11_number 8 = .ok (.getfield 109, 3)) ∧ (decode cX11_number 11 = .ok (.iconst 2, 1)) ∧ (decode cX11_number 12 = .ok (.if_icmp .eq 8, 3)) ∧ (decode cX11_number 15 = .ok (.aload_n 0, 1)) ∧ (decode cX11_number 16 = .ok (.iconst 1, 1)) ∧ (decode cX11_number 17 = .ok (.invokevirtual 156, 3)) := by decide +kernel
theorem dX11_number_36 : decode cX11_number 36 = .ok (.invokestatic 79, 3) := db386.1
theorem dX11_number_39 : decode cX11_number 39 = .ok (.ifCond .ne 8, 3) := db386.2.1
theorem dX11_number_42 : decode cX11_number 42 = .ok (.aload_n 0, 1) := db386.2.2.1
theorem dX11_number_43 : decode cX11_number 43 = .ok (.iconst 2, 1) := db386.2.2.2.1
theorem dX11_number_44 : decode cX11_number 44 = .ok (.invokevirtual 156, 3) := db386.2.2.2.2.1
theorem dX11_number_4 : decode cX11_number 4 = .ok (.ifCond .eq 16, 3) := db386.2.2.2.2.2.1
theorem dX11_number_7 : decode cX11_number 7 = .ok (.aload_n 0, 1) := db386.2.2.2.2.2.2.1
theorem dX11_number_8 : decode cX11_number 8 = .ok (.getfield 109, 3) := db386.2.2.2.2.2.2.2.1
theorem dX11_number_11 : decode cX11_number 11 = .ok (.iconst 2, 1) := db386.2.2.2.2.2.2.2.2.1
theorem dX11_number_12 : decode cX11_number 12 = .ok (.if_icmp .eq 8, 3) := db386.2.2.2.2.2.2.2.2.2.1
theorem dX11_number_15 : decode cX11_number 15 = .ok (.aload_n 0, 1) := db386.2.2.2.2.2.2.2.2.2.2.1
theorem dX11_number_16 : decode cX11_number 16 = .ok (.iconst 1, 1) := db386.2.2.2.2.2.2.2.2.2.2.2.1
theorem dX11_number_17 : decode cX11_number 17 = .ok (.invokevirtual 156, 3) := db386.2.2.2.2.2.2.2.2.2.2.2.2
theorem db387 : (decode cX11_numberAt 0 = .ok (.aload_n 0, 1)) ∧ (decode cX11_numberAt 1 = .ok (.getfield 67, 3)) ∧ (decode cX11_numberAt 4 = .ok (.bipush 60, 2)) ∧ (decode cX11_numberAt 6 = .ok (.iload_n 1, 1)) ∧ (decode cX11_numberAt 7 = .ok (.imul, 1)) ∧ (decode cX11_numberAt 8 = .ok (.iload_n 2, 1)) ∧ (decode cX11_numberAt 9 = .ok (.iadd, 1)) ∧ (decode cX11_numberAt 10 = .ok (.laload, 1)) ∧ (decode cX11_numberAt 11 = .ok (.lreturn, 1)) := by decide +kernel
theorem dX11_numberAt_0 : decode cX11_numberAt 0 = .ok (.aload_n 0, 1) := db387.1
theorem dX11_numberAt_1 : decode cX11_numberAt 1 = .ok (.getfield 67, 3) := db387.2.1
theorem dX11_numberAt_4 : decode cX11_numberAt 4 = .ok (.bipush 60, 2) := db387.2.2.1
theorem dX11_numberAt_6 : decode cX11_numberAt 6 = .ok (.iload_n 1, 1) := db387.2.2.2.1
theorem dX11_numberAt_7 : decode cX11_numberAt 7 = .ok (.imul, 1) := db387.2.2.2.2.1
theorem dX11_numberAt_8 : decode cX11_numberAt 8 = .ok (.iload_n 2, 1) := db387.2.2.2.2.2.1
theorem dX11_numberAt_9 : decode cX11_numberAt 9 = .ok (.iadd, 1) := db387.2.2.2.2.2.2.1
theorem dX11_numberAt_10 : decode cX11_numberAt 10 = .ok (.laload, 1) := db387.2.2.2.2.2.2.2.1
theorem dX11_numberAt_11 : decode cX11_numberAt 11 = .ok (.lreturn, 1) := db387.2.2.2.2.2.2.2.2
theorem db388 : (decode cX11_of 0 = .ok (.aload_n 0, 1)) ∧ (decode cX11_of 1 = .ok (.getfield 9, 3)) ∧ (decode cX11_of 4 = .ok (.bipush 8, 2)) ∧ (decode cX11_of 6 = .ok (.iconst 4, 1)) ∧ (decode cX11_of 7 = .ok (.iload_n 1, 1)) ∧ (decode cX11_of 8 = .ok (.imul, 1)) ∧ (decode cX11_of 9 = .ok (.iadd, 1)) ∧ (decode cX11_of 10 = .ok (.iload_n 2, 1)) ∧ (decode cX11_of 11 = .ok (.iadd, 1)) ∧ (decode cX11_of 12 = .ok (.iaload, 1)) ∧ (decode cX11_of 13 = .ok (.ireturn, 1)) := by decide +kernel
theorem dX11_of_0 : decode cX11_of 0 = .ok (.aload_n 0, 1) := db388.1
theorem dX11_of_1 : decode cX11_of 1 = .ok (.getfield 9, 3) := db388.2.1
theorem dX11_of_4 : decode cX11_of 4 = .ok (.bipush 8, 2) := db388.2.2.1
theorem dX11_of_6 : decode cX11_of 6 = .ok (.iconst 4, 1) := db388.2.2.2.1
theorem dX11_of_7 : decode cX11_of 7 = .ok (.iload_n 1, 1) := db388.2.2.2.2.1
theorem dX11_of_8 : decode cX11_of 8 = .ok (.imul, 1) := db388.2.2.2.2.2.1
theorem dX11_of_9 : decode cX11_of 9 = .ok (.iadd, 1) := db388.2.2.2.2.2.2.1
theorem dX11_of_10 : decode cX11_of 10 = .ok (.iload_n 2, 1) := db388.2.2.2.2.2.2.2.1
theorem dX11_of_11 : decode cX11_of 11 = .ok (.iadd, 1) := db388.2.2.2.2.2.2.2.2.1
theorem dX11_of_12 : decode cX11_of 12 = .ok (.iaload, 1) := db388.2.2.2.2.2.2.2.2.2.1
theorem dX11_of_13 : decode cX11_of 13 = .ok (.ireturn, 1) := db388.2.2.2.2.2.2.2.2.2.2
theorem db389 : (decode cX11_ofMan 0 = .ok (.aload_n 0, 1)) ∧ (decode cX11_ofMan 1 = .ok (.getfield 9, 3)) ∧ (decode cX11_ofMan 4 = .ok (.bipush 36, 2)) ∧ (decode cX11_ofMan 6 = .ok (.bipush 8, 2)) ∧ (decode cX11_ofMan 8 = .ok (.iload_n 1, 1)) ∧ (decode cX11_ofMan 9 = .ok (.imul, 1)) ∧ (decode cX11_ofMan 10 = .ok (.iadd, 1)) ∧ (decode cX11_ofMan 11 = .ok (.iload_n 2, 1)) ∧ (decode cX11_ofMan 12 = .ok (.iadd, 1)) ∧ (decode cX11_ofMan 13 = .ok (.iaload, 1)) ∧ (decode cX11_ofMan 14 = .ok (.ireturn, 1)) := by decide +kernel
theorem dX11_ofMan_0 : decode cX11_ofMan 0 = .ok (.aload_n 0, 1) := db389.1
theorem dX11_ofMan_1 : decode cX11_ofMan 1 = .ok (.getfield 9, 3) := db389.2.1
theorem dX11_ofMan_4 : decode cX11_ofMan 4 = .ok (.bipush 36, 2) := db389.2.2.1
theorem dX11_ofMan_6 : decode cX11_ofMan 6 = .ok (.bipush 8, 2) := db389.2.2.2.1
theorem dX11_ofMan_8 : decode cX11_ofMan 8 = .ok (.iload_n 1, 1) := db389.2.2.2.2.1
theorem dX11_ofMan_9 : decode cX11_ofMan 9 = .ok (.imul, 1) := db389.2.2.2.2.2.1
theorem dX11_ofMan_10 : decode cX11_ofMan 10 = .ok (.iadd, 1) := db389.2.2.2.2.2.2.1
theorem dX11_ofMan_11 : decode cX11_ofMan 11 = .ok (.iload_n 2, 1) := db389.2.2.2.2.2.2.2.1
theorem dX11_ofMan_12 : decode cX11_ofMan 12 = .ok (.iadd, 1) := db389.2.2.2.2.2.2.2.2.1
theorem dX11_ofMan_13 : decode cX11_ofMan 13 = .ok (.iaload, 1) := db389.2.2.2.2.2.2.2.2.2.1
theorem dX11_ofMan_14 : decode cX11_ofMan 14 = .ok (.ireturn, 1) := db389.2.2.2.2.2.2.2.2.2.2
theorem db390 : (decode cX11_oftenest 0 = .ok (.iconst (-1), 1)) ∧ (decode cX11_oftenest 1 = .ok (.istore_n 3, 1)) ∧ (decode cX11_oftenest 2 = .ok (.iconst 0, 1)) ∧ (decode cX11_oftenest 3 = .ok (.istore 4, 2)) ∧ (decode cX11_oftenest 5 = .ok (.iconst 0, 1)) ∧ (decode cX11_oftenest 6 = .ok (.istore 5, 2)) ∧ (decode cX11_oftenest 8 = .ok (.iload 5, 2)) ∧ (decode cX11_oftenest 10 = .ok (.aload_n 0, 1)) ∧ (decode cX11_oftenest 11 = .ok (.getfield 9, 3)) ∧ (decode cX11_oftenest 14 = .ok (.iconst 4, 1)) ∧ (decode cX11_oftenest 15 = .ok (.iaload, 1)) ∧ (decode cX11_oftenest 16 = .ok (.if_icmp .ge 98, 3)) ∧ (decode cX11_oftenest 114 = .ok (.iload_n 3, 1)) ∧ (decode cX11_oftenest 115 = .ok (.ireturn, 1)) ∧ (decode cX11_oftenest 19 = .ok (.iconst 0, 1)) ∧ (decode cX11_oftenest 20 = .ok (.istore 6, 2)) ∧ (decode cX11_oftenest 22 = .ok (.iload_n 2, 1)) ∧ (decode cX11_oftenest 23 = .ok (.iconst (-1), 1)) ∧ (decode cX11_oftenest 32 = .ok (.istore 7, 2)) ∧ (decode cX11_oftenest 34 = .ok (.iload 7, 2)) ∧ (decode cX11_oftenest 36 = .ok (.aload_n 0, 1)) ∧ (decode cX11_oftenest 37 = .ok (.getfield 61, 3)) ∧ (decode cX11_oftenest 40 = .ok (.iload_n 1, 1)) ∧ (decode cX11_oftenest 41 = .ok (.iaload, 1)) := by decide +kernel
theorem dX11_oftenest_0 : decode cX11_oftenest 0 = .ok (.iconst (-1), 1) := db390.1
theorem dX11_oftenest_1 : decode cX11_oftenest 1 = .ok (.istore_n 3, 1) := db390.2.1
theorem dX11_oftenest_2 : decode cX11_oftenest 2 = .ok (.iconst 0, 1) := db390.2.2.1
theorem dX11_oftenest_3 : decode cX11_oftenest 3 = .ok (.istore 4, 2) := db390.2.2.2.1
theorem dX11_oftenest_5 : decode cX11_oftenest 5 = .ok (.iconst 0, 1) := db390.2.2.2.2.1
theorem dX11_oftenest_6 : decode cX11_oftenest 6 = .ok (.istore 5, 2) := db390.2.2.2.2.2.1
theorem dX11_oftenest_8 : decode cX11_oftenest 8 = .ok (.iload 5, 2) := db390.2.2.2.2.2.2.1
theorem dX11_oftenest_10 : decode cX11_oftenest 10 = .ok (.aload_n 0, 1) := db390.2.2.2.2.2.2.2.1
theorem dX11_oftenest_11 : decode cX11_oftenest 11 = .ok (.getfield 9, 3) := db390.2.2.2.2.2.2.2.2.1
theorem dX11_oftenest_14 : decode cX11_oftenest 14 = .ok (.iconst 4, 1) := db390.2.2.2.2.2.2.2.2.2.1
theorem dX11_oftenest_15 : decode cX11_oftenest 15 = .ok (.iaload, 1) := db390.2.2.2.2.2.2.2.2.2.2.1
theorem dX11_oftenest_16 : decode cX11_oftenest 16 = .ok (.if_icmp .ge 98, 3) := db390.2.2.2.2.2.2.2.2.2.2.2.1
theorem dX11_oftenest_114 : decode cX11_oftenest 114 = .ok (.iload_n 3, 1) := db390.2.2.2.2.2.2.2.2.2.2.2.2.1
theorem dX11_oftenest_115 : decode cX11_oftenest 115 = .ok (.ireturn, 1) := db390.2.2.2.2.2.2.2.2.2.2.2.2.2.1
theorem dX11_oftenest_19 : decode cX11_oftenest 19 = .ok (.iconst 0, 1) := db390.2.2.2.2.2.2.2.2.2.2.2.2.2.2.1
theorem dX11_oftenest_20 : decode cX11_oftenest 20 = .ok (.istore 6, 2) := db390.2.2.2.2.2.2.2.2.2.2.2.2.2.2.2.1
theorem dX11_oftenest_22 : decode cX11_oftenest 22 = .ok (.iload_n 2, 1) := db390.2.2.2.2.2.2.2.2.2.2.2.2.2.2.2.2.1
theorem dX11_oftenest_23 : decode cX11_oftenest 23 = .ok (.iconst (-1), 1) := db390.2.2.2.2.2.2.2.2.2.2.2.2.2.2.2.2.2.1
theorem dX11_oftenest_32 : decode cX11_oftenest 32 = .ok (.istore 7, 2) := db390.2.2.2.2.2.2.2.2.2.2.2.2.2.2.2.2.2.2.1
theorem dX11_oftenest_34 : decode cX11_oftenest 34 = .ok (.iload 7, 2) := db390.2.2.2.2.2.2.2.2.2.2.2.2.2.2.2.2.2.2.2.1
theorem dX11_oftenest_36 : decode cX11_oftenest 36 = .ok (.aload_n 0, 1) := db390.2.2.2.2.2.2.2.2.2.2.2.2.2.2.2.2.2.2.2.2.1
theorem dX11_oftenest_37 : decode cX11_oftenest 37 = .ok (.getfield 61, 3) := db390.2.2.2.2.2.2.2.2.2.2.2.2.2.2.2.2.2.2.2.2.2.1
theorem dX11_oftenest_40 : decode cX11_oftenest 40 = .ok (.iload_n 1, 1) := db390.2.2.2.2.2.2.2.2.2.2.2.2.2.2.2.2.2.2.2.2.2.2.1
theorem dX11_oftenest_41 : decode cX11_oftenest 41 = .ok (.iaload, 1) := db390.2.2.2.2.2.2.2.2.2.2.2.2.2.2.2.2.2.2.2.2.2.2.2
theorem db391 : (decode cX11_oftenest 42 = .ok (.if_icmp .ge 49, 3)) ∧ (decode cX11_oftenest 91 = .ok (.iload 6, 2)) ∧ (decode cX11_oftenest 93 = .ok (.iload 4, 2)) ∧ (decode cX11_oftenest 108 = .ok (.iinc 5 1, 3)) ∧ (decode cX11_oftenest 111 = .ok (.goto (-103), 3)) ∧ (decode cX11_oftenest 95 = .ok (.if_icmp .gt 6, 3)) ∧ (decode cX11_oftenest 101 = .ok (.iload 6, 2)) ∧ (decode cX11_oftenest 103 = .ok (.istore 4, 2)) ∧ (decode cX11_oftenest 105 = .ok (.iload 5, 2)) ∧ (decode cX11_oftenest 107 = .ok (.istore_n 3, 1)) ∧ (decode cX11_oftenest 98 = .ok (.goto 10, 3)) ∧ (decode cX11_oftenest 45 = .ok (.iload 6, 2)) ∧ (decode cX11_oftenest 47 = .ok (.aload_n 0, 1)) ∧ (decode cX11_oftenest 48 = .ok (.iload_n 1, 1)) ∧ (decode cX11_oftenest 49 = .ok (.iload 7, 2)) ∧ (decode cX11_oftenest 51 = .ok (.invokevirtual 293, 3)) ∧ (decode cX11_oftenest 54 = .ok (.iload 5, 2)) ∧ (decode cX11_oftenest 82 = .ok (.iadd, 1)) ∧ (decode cX11_oftenest 83 = .ok (.istore 6, 2)) ∧ (decode cX11_oftenest 85 = .ok (.iinc 7 1, 3)) ∧ (decode cX11_oftenest 88 = .ok (.goto (-54), 3)) ∧ (decode cX11_oftenest 81 = .ok (.iconst 0, 1)) ∧ (decode cX11_oftenest 56 = .ok (.if_icmp .ne 25, 3)) ∧ (decode cX11_oftenest 59 = .ok (.iload_n 2, 1)) := by decide +kernel
theorem dX11_oftenest_42 : decode cX11_oftenest 42 = .ok (.if_icmp .ge 49, 3) := db391.1
theorem dX11_oftenest_91 : decode cX11_oftenest 91 = .ok (.iload 6, 2) := db391.2.1
theorem dX11_oftenest_93 : decode cX11_oftenest 93 = .ok (.iload 4, 2) := db391.2.2.1
theorem dX11_oftenest_108 : decode cX11_oftenest 108 = .ok (.iinc 5 1, 3) := db391.2.2.2.1
theorem dX11_oftenest_111 : decode cX11_oftenest 111 = .ok (.goto (-103), 3) := db391.2.2.2.2.1
theorem dX11_oftenest_95 : decode cX11_oftenest 95 = .ok (.if_icmp .gt 6, 3) := db391.2.2.2.2.2.1
theorem dX11_oftenest_101 : decode cX11_oftenest 101 = .ok (.iload 6, 2) := db391.2.2.2.2.2.2.1
theorem dX11_oftenest_103 : decode cX11_oftenest 103 = .ok (.istore 4, 2) := db391.2.2.2.2.2.2.2.1
theorem dX11_oftenest_105 : decode cX11_oftenest 105 = .ok (.iload 5, 2) := db391.2.2.2.2.2.2.2.2.1
theorem dX11_oftenest_107 : decode cX11_oftenest 107 = .ok (.istore_n 3, 1) := db391.2.2.2.2.2.2.2.2.2.1
theorem dX11_oftenest_98 : decode cX11_oftenest 98 = .ok (.goto 10, 3) := db391.2.2.2.2.2.2.2.2.2.2.1
theorem dX11_oftenest_45 : decode cX11_oftenest 45 = .ok (.iload 6, 2) := db391.2.2.2.2.2.2.2.2.2.2.2.1
theorem dX11_oftenest_47 : decode cX11_oftenest 47 = .ok (.aload_n 0, 1) := db391.2.2.2.2.2.2.2.2.2.2.2.2.1
theorem dX11_oftenest_48 : decode cX11_oftenest 48 = .ok (.iload_n 1, 1) := db391.2.2.2.2.2.2.2.2.2.2.2.2.2.1
theorem dX11_oftenest_49 : decode cX11_oftenest 49 = .ok (.iload 7, 2) := db391.2.2.2.2.2.2.2.2.2.2.2.2.2.2.1
theorem dX11_oftenest_51 : decode cX11_oftenest 51 = .ok (.invokevirtual 293, 3) := db391.2.2.2.2.2.2.2.2.2.2.2.2.2.2.2.1
theorem dX11_oftenest_54 : decode cX11_oftenest 54 = .ok (.iload 5, 2) := db391.2.2.2.2.2.2.2.2.2.2.2.2.2.2.2.2.1
theorem dX11_oftenest_82 : decode cX11_oftenest 82 = .ok (.iadd, 1) := db391.2.2.2.2.2.2.2.2.2.2.2.2.2.2.2.2.2.1
theorem dX11_oftenest_83 : decode cX11_oftenest 83 = .ok (.istore 6, 2) := db391.2.2.2.2.2.2.2.2.2.2.2.2.2.2.2.2.2.2.1
theorem dX11_oftenest_85 : decode cX11_oftenest 85 = .ok (.iinc 7 1, 3) := db391.2.2.2.2.2.2.2.2.2.2.2.2.2.2.2.2.2.2.2.1
theorem dX11_oftenest_88 : decode cX11_oftenest 88 = .ok (.goto (-54), 3) := db391.2.2.2.2.2.2.2.2.2.2.2.2.2.2.2.2.2.2.2.2.1
theorem dX11_oftenest_81 : decode cX11_oftenest 81 = .ok (.iconst 0, 1) := db391.2.2.2.2.2.2.2.2.2.2.2.2.2.2.2.2.2.2.2.2.2.1
theorem dX11_oftenest_56 : decode cX11_oftenest 56 = .ok (.if_icmp .ne 25, 3) := db391.2.2.2.2.2.2.2.2.2.2.2.2.2.2.2.2.2.2.2.2.2.2.1
theorem dX11_oftenest_59 : decode cX11_oftenest 59 = .ok (.iload_n 2, 1) := db391.2.2.2.2.2.2.2.2.2.2.2.2.2.2.2.2.2.2.2.2.2.2.2
theorem db392 : (decode cX11_oftenest 60 = .ok (.iconst (-1), 1)) ∧ (decode cX11_oftenest 77 = .ok (.iconst 1, 1)) ∧ (decode cX11_oftenest 78 = .ok (.goto 4, 3)) ∧ (decode cX11_oftenest 61 = .ok (.if_icmp .eq 16, 3)) ∧ (decode cX11_oftenest 64 = .ok (.aload_n 0, 1)) ∧ (decode cX11_oftenest 65 = .ok (.iload_n 1, 1)) ∧ (decode cX11_oftenest 66 = .ok (.iload 7, 2)) ∧ (decode cX11_oftenest 68 = .ok (.iconst 1, 1)) ∧ (decode cX11_oftenest 69 = .ok (.isub, 1)) ∧ (decode cX11_oftenest 70 = .ok (.invokevirtual 293, 3)) ∧ (decode cX11_oftenest 73 = .ok (.iload_n 2, 1)) ∧ (decode cX11_oftenest 74 = .ok (.if_icmp .ne 7, 3)) ∧ (decode cX11_oftenest 24 = .ok (.if_icmp .ne 7, 3)) ∧ (decode cX11_oftenest 31 = .ok (.iconst 1, 1)) ∧ (decode cX11_oftenest 27 = .ok (.iconst 0, 1)) ∧ (decode cX11_oftenest 28 = .ok (.goto 4, 3)) := by decide +kernel
theorem dX11_oftenest_60 : decode cX11_oftenest 60 = .ok (.iconst (-1), 1) := db392.1
theorem dX11_oftenest_77 : decode cX11_oftenest 77 = .ok (.iconst 1, 1) := db392.2.1
theorem dX11_oftenest_78 : decode cX11_oftenest 78 = .ok (.goto 4, 3) := db392.2.2.1
theorem dX11_oftenest_61 : decode cX11_oftenest 61 = .ok (.if_icmp .eq 16, 3) := db392.2.2.2.1
theorem dX11_oftenest_64 : decode cX11_oftenest 64 = .ok (.aload_n 0, 1) := db392.2.2.2.2.1
theorem dX11_oftenest_65 : decode cX11_oftenest 65 = .ok (.iload_n 1, 1) := db392.2.2.2.2.2.1
theorem dX11_oftenest_66 : decode cX11_oftenest 66 = .ok (.iload 7, 2) := db392.2.2.2.2.2.2.1
theorem dX11_oftenest_68 : decode cX11_oftenest 68 = .ok (.iconst 1, 1) := db392.2.2.2.2.2.2.2.1
theorem dX11_oftenest_69 : decode cX11_oftenest 69 = .ok (.isub, 1) := db392.2.2.2.2.2.2.2.2.1
theorem dX11_oftenest_70 : decode cX11_oftenest 70 = .ok (.invokevirtual 293, 3) := db392.2.2.2.2.2.2.2.2.2.1
theorem dX11_oftenest_73 : decode cX11_oftenest 73 = .ok (.iload_n 2, 1) := db392.2.2.2.2.2.2.2.2.2.2.1
theorem dX11_oftenest_74 : decode cX11_oftenest 74 = .ok (.if_icmp .ne 7, 3) := db392.2.2.2.2.2.2.2.2.2.2.2.1
theorem dX11_oftenest_24 : decode cX11_oftenest 24 = .ok (.if_icmp .ne 7, 3) := db392.2.2.2.2.2.2.2.2.2.2.2.2.1
theorem dX11_oftenest_31 : decode cX11_oftenest 31 = .ok (.iconst 1, 1) := db392.2.2.2.2.2.2.2.2.2.2.2.2.2.1
theorem dX11_oftenest_27 : decode cX11_oftenest 27 = .ok (.iconst 0, 1) := db392.2.2.2.2.2.2.2.2.2.2.2.2.2.2.1
theorem dX11_oftenest_28 : decode cX11_oftenest 28 = .ok (.goto 4, 3) := db392.2.2.2.2.2.2.2.2.2.2.2.2.2.2.2
theorem db393 : (decode cX11_one 0 = .ok (.aload_n 0, 1)) ∧ (decode cX11_one 1 = .ok (.iload_n 1, 1)) ∧ (decode cX11_one 2 = .ok (.i2l, 1)) ∧ (decode cX11_one 3 = .ok (.invokevirtual 89, 3)) ∧ (decode cX11_one 6 = .ok (.ifCond .eq 17, 3)) ∧ (decode cX11_one 23 = .ok (.bipush (-2), 2)) ∧ (decode cX11_one 25 = .ok (.ireturn, 1)) ∧ (decode cX11_one 9 = .ok (.aload_n 0, 1)) ∧ (decode cX11_one 10 = .ok (.aload_n 0, 1)) ∧ (decode cX11_one 11 = .ok (.iload_n 1, 1)) ∧ (decode cX11_one 12 = .ok (.iload_n 1, 1)) ∧ (decode cX11_one 13 = .ok (.iconst 1, 1)) ∧ (decode cX11_one 14 = .ok (.invokevirtual 356, 3)) ∧ (decode cX11_one 17 = .ok (.invokevirtual 360, 3)) ∧ (decode cX11_one 20 = .ok (.goto 5, 3)) := by decide +kernel
theorem dX11_one_0 : decode cX11_one 0 = .ok (.aload_n 0, 1) := db393.1
theorem dX11_one_1 : decode cX11_one 1 = .ok (.iload_n 1, 1) := db393.2.1
theorem dX11_one_2 : decode cX11_one 2 = .ok (.i2l, 1) := db393.2.2.1
theorem dX11_one_3 : decode cX11_one 3 = .ok (.invokevirtual 89, 3) := db393.2.2.2.1
theorem dX11_one_6 : decode cX11_one 6 = .ok (.ifCond .eq 17, 3) := db393.2.2.2.2.1
theorem dX11_one_23 : decode cX11_one 23 = .ok (.bipush (-2), 2) := db393.2.2.2.2.2.1
theorem dX11_one_25 : decode cX11_one 25 = .ok (.ireturn, 1) := db393.2.2.2.2.2.2.1
theorem dX11_one_9 : decode cX11_one 9 = .ok (.aload_n 0, 1) := db393.2.2.2.2.2.2.2.1
theorem dX11_one_10 : decode cX11_one 10 = .ok (.aload_n 0, 1) := db393.2.2.2.2.2.2.2.2.1
theorem dX11_one_11 : decode cX11_one 11 = .ok (.iload_n 1, 1) := db393.2.2.2.2.2.2.2.2.2.1
theorem dX11_one_12 : decode cX11_one 12 = .ok (.iload_n 1, 1) := db393.2.2.2.2.2.2.2.2.2.2.1
theorem dX11_one_13 : decode cX11_one 13 = .ok (.iconst 1, 1) := db393.2.2.2.2.2.2.2.2.2.2.2.1
theorem dX11_one_14 : decode cX11_one 14 = .ok (.invokevirtual 356, 3) := db393.2.2.2.2.2.2.2.2.2.2.2.2.1
theorem dX11_one_17 : decode cX11_one 17 = .ok (.invokevirtual 360, 3) := db393.2.2.2.2.2.2.2.2.2.2.2.2.2.1
theorem dX11_one_20 : decode cX11_one 20 = .ok (.goto 5, 3) := db393.2.2.2.2.2.2.2.2.2.2.2.2.2.2
theorem db394 : (decode cX11_pairs 0 = .ok (.aload_n 0, 1)) ∧ (decode cX11_pairs 1 = .ok (.getfield 9, 3)) ∧ (decode cX11_pairs 4 = .ok (.iconst 4, 1)) ∧ (decode cX11_pairs 5 = .ok (.iaload, 1)) ∧ (decode cX11_pairs 6 = .ok (.ifCond .ne 6, 3)) ∧ (decode cX11_pairs 12 = .ok (.iconst 0, 1)) ∧ (decode cX11_pairs 13 = .ok (.istore_n 1, 1)) ∧ (decode cX11_pairs 14 = .ok (.iconst 0, 1)) ∧ (decode cX11_pairs 15 = .ok (.istore_n 2, 1)) ∧ (decode cX11_pairs 16 = .ok (.iload_n 2, 1)) ∧ (decode cX11_pairs 17 = .ok (.aload_n 0, 1)) ∧ (decode cX11_pairs 18 = .ok (.getfield 9, 3)) ∧ (decode cX11_pairs 21 = .ok (.iconst 4, 1)) ∧ (decode cX11_pairs 22 = .ok (.iaload, 1)) ∧ (decode cX11_pairs 23 = .ok (.if_icmp .ge 46, 3)) ∧ (decode cX11_pairs 69 = .ok (.iload_n 1, 1)) ∧ (decode cX11_pairs 70 = .ok (.ireturn, 1)) ∧ (decode cX11_pairs 26 = .ok (.iload_n 2, 1)) ∧ (decode cX11_pairs 27 = .ok (.istore_n 3, 1)) ∧ (decode cX11_pairs 28 = .ok (.iload_n 3, 1)) ∧ (decode cX11_pairs 29 = .ok (.aload_n 0, 1)) ∧ (decode cX11_pairs 30 = .ok (.getfield 9, 3)) ∧ (decode cX11_pairs 33 = .ok (.iconst 4, 1)) ∧ (decode cX11_pairs 34 = .ok (.iaload, 1)) := by decide +kernel
theorem dX11_pairs_0 : decode cX11_pairs 0 = .ok (.aload_n 0, 1) := db394.1
theorem dX11_pairs_1 : decode cX11_pairs 1 = .ok (.getfield 9, 3) := db394.2.1
theorem dX11_pairs_4 : decode cX11_pairs 4 = .ok (.iconst 4, 1) := db394.2.2.1
theorem dX11_pairs_5 : decode cX11_pairs 5 = .ok (.iaload, 1) := db394.2.2.2.1
theorem dX11_pairs_6 : decode cX11_pairs 6 = .ok (.ifCond .ne 6, 3) := db394.2.2.2.2.1
theorem dX11_pairs_12 : decode cX11_pairs 12 = .ok (.iconst 0, 1) := db394.2.2.2.2.2.1
theorem dX11_pairs_13 : decode cX11_pairs 13 = .ok (.istore_n 1, 1) := db394.2.2.2.2.2.2.1
theorem dX11_pairs_14 : decode cX11_pairs 14 = .ok (.iconst 0, 1) := db394.2.2.2.2.2.2.2.1
theorem dX11_pairs_15 : decode cX11_pairs 15 = .ok (.istore_n 2, 1) := db394.2.2.2.2.2.2.2.2.1
theorem dX11_pairs_16 : decode cX11_pairs 16 = .ok (.iload_n 2, 1) := db394.2.2.2.2.2.2.2.2.2.1
theorem dX11_pairs_17 : decode cX11_pairs 17 = .ok (.aload_n 0, 1) := db394.2.2.2.2.2.2.2.2.2.2.1
theorem dX11_pairs_18 : decode cX11_pairs 18 = .ok (.getfield 9, 3) := db394.2.2.2.2.2.2.2.2.2.2.2.1
theorem dX11_pairs_21 : decode cX11_pairs 21 = .ok (.iconst 4, 1) := db394.2.2.2.2.2.2.2.2.2.2.2.2.1
theorem dX11_pairs_22 : decode cX11_pairs 22 = .ok (.iaload, 1) := db394.2.2.2.2.2.2.2.2.2.2.2.2.2.1
theorem dX11_pairs_23 : decode cX11_pairs 23 = .ok (.if_icmp .ge 46, 3) := db394.2.2.2.2.2.2.2.2.2.2.2.2.2.2.1
theorem dX11_pairs_69 : decode cX11_pairs 69 = .ok (.iload_n 1, 1) := db394.2.2.2.2.2.2.2.2.2.2.2.2.2.2.2.1
theorem dX11_pairs_70 : decode cX11_pairs 70 = .ok (.ireturn, 1) := db394.2.2.2.2.2.2.2.2.2.2.2.2.2.2.2.2.1
theorem dX11_pairs_26 : decode cX11_pairs 26 = .ok (.iload_n 2, 1) := db394.2.2.2.2.2.2.2.2.2.2.2.2.2.2.2.2.2.1
theorem dX11_pairs_27 : decode cX11_pairs 27 = .ok (.istore_n 3, 1) := db394.2.2.2.2.2.2.2.2.2.2.2.2.2.2.2.2.2.2.1
theorem dX11_pairs_28 : decode cX11_pairs 28 = .ok (.iload_n 3, 1) := db394.2.2.2.2.2.2.2.2.2.2.2.2.2.2.2.2.2.2.2.1
theorem dX11_pairs_29 : decode cX11_pairs 29 = .ok (.aload_n 0, 1) := db394.2.2.2.2.2.2.2.2.2.2.2.2.2.2.2.2.2.2.2.2.1
theorem dX11_pairs_30 : decode cX11_pairs 30 = .ok (.getfield 9, 3) := db394.2.2.2.2.2.2.2.2.2.2.2.2.2.2.2.2.2.2.2.2.2.1
theorem dX11_pairs_33 : decode cX11_pairs 33 = .ok (.iconst 4, 1) := db394.2.2.2.2.2.2.2.2.2.2.2.2.2.2.2.2.2.2.2.2.2.2.1
theorem dX11_pairs_34 : decode cX11_pairs 34 = .ok (.iaload, 1) := db394.2.2.2.2.2.2.2.2.2.2.2.2.2.2.2.2.2.2.2.2.2.2.2
theorem db395 : (decode cX11_pairs 35 = .ok (.if_icmp .ge 28, 3)) ∧ (decode cX11_pairs 63 = .ok (.iinc 2 1, 3)) ∧ (decode cX11_pairs 66 = .ok (.goto (-50), 3)) ∧ (decode cX11_pairs 38 = .ok (.iload_n 1, 1)) ∧ (decode cX11_pairs 39 = .ok (.aload_n 0, 1)) ∧ (decode cX11_pairs 40 = .ok (.iload_n 2, 1)) ∧ (decode cX11_pairs 41 = .ok (.iload_n 3, 1)) ∧ (decode cX11_pairs 42 = .ok (.iconst 0, 1)) ∧ (decode cX11_pairs 43 = .ok (.invokevirtual 356, 3)) ∧ (decode cX11_pairs 46 = .ok (.iconst (-1), 1)) ∧ (decode cX11_pairs 55 = .ok (.iadd, 1)) ∧ (decode cX11_pairs 56 = .ok (.istore_n 1, 1)) ∧ (decode cX11_pairs 57 = .ok (.iinc 3 1, 3)) ∧ (decode cX11_pairs 60 = .ok (.goto (-32), 3)) ∧ (decode cX11_pairs 47 = .ok (.if_icmp .eq 7, 3)) ∧ (decode cX11_pairs 54 = .ok (.iconst 0, 1)) ∧ (decode cX11_pairs 50 = .ok (.iconst 1, 1)) ∧ (decode cX11_pairs 51 = .ok (.goto 4, 3)) ∧ (decode cX11_pairs 9 = .ok (.bipush (-2), 2)) ∧ (decode cX11_pairs 11 = .ok (.ireturn, 1)) := by decide +kernel
theorem dX11_pairs_35 : decode cX11_pairs 35 = .ok (.if_icmp .ge 28, 3) := db395.1
theorem dX11_pairs_63 : decode cX11_pairs 63 = .ok (.iinc 2 1, 3) := db395.2.1
theorem dX11_pairs_66 : decode cX11_pairs 66 = .ok (.goto (-50), 3) := db395.2.2.1
theorem dX11_pairs_38 : decode cX11_pairs 38 = .ok (.iload_n 1, 1) := db395.2.2.2.1
theorem dX11_pairs_39 : decode cX11_pairs 39 = .ok (.aload_n 0, 1) := db395.2.2.2.2.1
theorem dX11_pairs_40 : decode cX11_pairs 40 = .ok (.iload_n 2, 1) := db395.2.2.2.2.2.1
theorem dX11_pairs_41 : decode cX11_pairs 41 = .ok (.iload_n 3, 1) := db395.2.2.2.2.2.2.1
theorem dX11_pairs_42 : decode cX11_pairs 42 = .ok (.iconst 0, 1) := db395.2.2.2.2.2.2.2.1
theorem dX11_pairs_43 : decode cX11_pairs 43 = .ok (.invokevirtual 356, 3) := db395.2.2.2.2.2.2.2.2.1
theorem dX11_pairs_46 : decode cX11_pairs 46 = .ok (.iconst (-1), 1) := db395.2.2.2.2.2.2.2.2.2.1
theorem dX11_pairs_55 : decode cX11_pairs 55 = .ok (.iadd, 1) := db395.2.2.2.2.2.2.2.2.2.2.1
theorem dX11_pairs_56 : decode cX11_pairs 56 = .ok (.istore_n 1, 1) := db395.2.2.2.2.2.2.2.2.2.2.2.1
theorem dX11_pairs_57 : decode cX11_pairs 57 = .ok (.iinc 3 1, 3) := db395.2.2.2.2.2.2.2.2.2.2.2.2.1
theorem dX11_pairs_60 : decode cX11_pairs 60 = .ok (.goto (-32), 3) := db395.2.2.2.2.2.2.2.2.2.2.2.2.2.1
theorem dX11_pairs_47 : decode cX11_pairs 47 = .ok (.if_icmp .eq 7, 3) := db395.2.2.2.2.2.2.2.2.2.2.2.2.2.2.1
theorem dX11_pairs_54 : decode cX11_pairs 54 = .ok (.iconst 0, 1) := db395.2.2.2.2.2.2.2.2.2.2.2.2.2.2.2.1
theorem dX11_pairs_50 : decode cX11_pairs 50 = .ok (.iconst 1, 1) := db395.2.2.2.2.2.2.2.2.2.2.2.2.2.2.2.2.1
theorem dX11_pairs_51 : decode cX11_pairs 51 = .ok (.goto 4, 3) := db395.2.2.2.2.2.2.2.2.2.2.2.2.2.2.2.2.2.1
theorem dX11_pairs_9 : decode cX11_pairs 9 = .ok (.bipush (-2), 2) := db395.2.2.2.2.2.2.2.2.2.2.2.2.2.2.2.2.2.2.1
theorem dX11_pairs_11 : decode cX11_pairs 11 = .ok (.ireturn, 1) := db395.2.2.2.2.2.2.2.2.2.2.2.2.2.2.2.2.2.2.2
