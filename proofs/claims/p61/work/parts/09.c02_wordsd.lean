theorem db158 : (decode cX10_isSet 0 = .ok (.iload_n 1, 1)) ∧ (decode cX10_isSet 1 = .ok (.iconst 1, 1)) ∧ (decode cX10_isSet 2 = .ok (.if_icmp .lt 23, 3)) ∧ (decode cX10_isSet 25 = .ok (.iconst 0, 1)) ∧ (decode cX10_isSet 26 = .ok (.ireturn, 1)) ∧ (decode cX10_isSet 5 = .ok (.iload_n 1, 1)) ∧ (decode cX10_isSet 6 = .ok (.iconst 1, 1)) ∧ (decode cX10_isSet 7 = .ok (.aload_n 0, 1)) ∧ (decode cX10_isSet 8 = .ok (.getfield 31, 3)) ∧ (decode cX10_isSet 11 = .ok (.getfield 98, 3)) ∧ (decode cX10_isSet 14 = .ok (.getfield 283, 3)) ∧ (decode cX10_isSet 17 = .ok (.ishl, 1)) ∧ (decode cX10_isSet 18 = .ok (.if_icmp .ge 7, 3)) ∧ (decode cX10_isSet 21 = .ok (.iconst 1, 1)) ∧ (decode cX10_isSet 22 = .ok (.goto 4, 3)) := by decide +kernel
theorem dX10_isSet_0 : decode cX10_isSet 0 = .ok (.iload_n 1, 1) := db158.1
theorem dX10_isSet_1 : decode cX10_isSet 1 = .ok (.iconst 1, 1) := db158.2.1
theorem dX10_isSet_2 : decode cX10_isSet 2 = .ok (.if_icmp .lt 23, 3) := db158.2.2.1
theorem dX10_isSet_25 : decode cX10_isSet 25 = .ok (.iconst 0, 1) := db158.2.2.2.1
theorem dX10_isSet_26 : decode cX10_isSet 26 = .ok (.ireturn, 1) := db158.2.2.2.2.1
theorem dX10_isSet_5 : decode cX10_isSet 5 = .ok (.iload_n 1, 1) := db158.2.2.2.2.2.1
theorem dX10_isSet_6 : decode cX10_isSet 6 = .ok (.iconst 1, 1) := db158.2.2.2.2.2.2.1
theorem dX10_isSet_7 : decode cX10_isSet 7 = .ok (.aload_n 0, 1) := db158.2.2.2.2.2.2.2.1
theorem dX10_isSet_8 : decode cX10_isSet 8 = .ok (.getfield 31, 3) := db158.2.2.2.2.2.2.2.2.1
theorem dX10_isSet_11 : decode cX10_isSet 11 = .ok (.getfield 98, 3) := db158.2.2.2.2.2.2.2.2.2.1
theorem dX10_isSet_14 : decode cX10_isSet 14 = .ok (.getfield 283, 3) := db158.2.2.2.2.2.2.2.2.2.2.1
theorem dX10_isSet_17 : decode cX10_isSet 17 = .ok (.ishl, 1) := db158.2.2.2.2.2.2.2.2.2.2.2.1
theorem dX10_isSet_18 : decode cX10_isSet 18 = .ok (.if_icmp .ge 7, 3) := db158.2.2.2.2.2.2.2.2.2.2.2.2.1
theorem dX10_isSet_21 : decode cX10_isSet 21 = .ok (.iconst 1, 1) := db158.2.2.2.2.2.2.2.2.2.2.2.2.2.1
theorem dX10_isSet_22 : decode cX10_isSet 22 = .ok (.goto 4, 3) := db158.2.2.2.2.2.2.2.2.2.2.2.2.2.2
theorem db159 : (decode cX10_isSlot 0 = .ok (.iload_n 1, 1)) ∧ (decode cX10_isSlot 1 = .ok (.ifCond .lt 12, 3)) ∧ (decode cX10_isSlot 13 = .ok (.iconst 0, 1)) ∧ (decode cX10_isSlot 14 = .ok (.ireturn, 1)) ∧ (decode cX10_isSlot 4 = .ok (.iload_n 1, 1)) ∧ (decode cX10_isSlot 5 = .ok (.iconst 4, 1)) ∧ (decode cX10_isSlot 6 = .ok (.if_icmp .ge 7, 3)) ∧ (decode cX10_isSlot 9 = .ok (.iconst 1, 1)) ∧ (decode cX10_isSlot 10 = .ok (.goto 4, 3)) := by decide +kernel
theorem dX10_isSlot_0 : decode cX10_isSlot 0 = .ok (.iload_n 1, 1) := db159.1
theorem dX10_isSlot_1 : decode cX10_isSlot 1 = .ok (.ifCond .lt 12, 3) := db159.2.1
theorem dX10_isSlot_13 : decode cX10_isSlot 13 = .ok (.iconst 0, 1) := db159.2.2.1
theorem dX10_isSlot_14 : decode cX10_isSlot 14 = .ok (.ireturn, 1) := db159.2.2.2.1
theorem dX10_isSlot_4 : decode cX10_isSlot 4 = .ok (.iload_n 1, 1) := db159.2.2.2.2.1
theorem dX10_isSlot_5 : decode cX10_isSlot 5 = .ok (.iconst 4, 1) := db159.2.2.2.2.2.1
theorem dX10_isSlot_6 : decode cX10_isSlot 6 = .ok (.if_icmp .ge 7, 3) := db159.2.2.2.2.2.2.1
theorem dX10_isSlot_9 : decode cX10_isSlot 9 = .ok (.iconst 1, 1) := db159.2.2.2.2.2.2.2.1
theorem dX10_isSlot_10 : decode cX10_isSlot 10 = .ok (.goto 4, 3) := db159.2.2.2.2.2.2.2.2
theorem db160 : (decode cX10_later 0 = .ok (.aload_n 0, 1)) ∧ (decode cX10_later 1 = .ok (.iload_n 1, 1)) ∧ (decode cX10_later 2 = .ok (.invokevirtual 145, 3)) ∧ (decode cX10_later 5 = .ok (.ifCond .eq 14, 3)) ∧ (decode cX10_later 19 = .ok (.bipush (-2), 2)) ∧ (decode cX10_later 21 = .ok (.ireturn, 1)) ∧ (decode cX10_later 8 = .ok (.iload_n 2, 1)) ∧ (decode cX10_later 9 = .ok (.ifCond .lt 10, 3)) ∧ (decode cX10_later 12 = .ok (.iload_n 2, 1)) ∧ (decode cX10_later 13 = .ok (.sipush 200, 3)) ∧ (decode cX10_later 16 = .ok (.if_icmp .le 6, 3)) ∧ (decode cX10_later 22 = .ok (.aload_n 0, 1)) ∧ (decode cX10_later 23 = .ok (.getfield 52, 3)) ∧ (decode cX10_later 26 = .ok (.aload_n 0, 1)) ∧ (decode cX10_later 27 = .ok (.getfield 48, 3)) ∧ (decode cX10_later 30 = .ok (.invokevirtual 179, 3)) ∧ (decode cX10_later 33 = .ok (.iconst 0, 1)) ∧ (decode cX10_later 34 = .ok (.istore_n 3, 1)) ∧ (decode cX10_later 35 = .ok (.iload_n 3, 1)) ∧ (decode cX10_later 36 = .ok (.iload_n 2, 1)) ∧ (decode cX10_later 37 = .ok (.if_icmp .ge 25, 3)) ∧ (decode cX10_later 62 = .ok (.aload_n 0, 1)) ∧ (decode cX10_later 63 = .ok (.getfield 52, 3)) ∧ (decode cX10_later 66 = .ok (.iload_n 1, 1)) := by decide +kernel
theorem dX10_later_0 : decode cX10_later 0 = .ok (.aload_n 0, 1) := db160.1
theorem dX10_later_1 : decode cX10_later 1 = .ok (.iload_n 1, 1) := db160.2.1
theorem dX10_later_2 : decode cX10_later 2 = .ok (.invokevirtual 145, 3) := db160.2.2.1
theorem dX10_later_5 : decode cX10_later 5 = .ok (.ifCond .eq 14, 3) := db160.2.2.2.1
theorem dX10_later_19 : decode cX10_later 19 = .ok (.bipush (-2), 2) := db160.2.2.2.2.1
theorem dX10_later_21 : decode cX10_later 21 = .ok (.ireturn, 1) := db160.2.2.2.2.2.1
theorem dX10_later_8 : decode cX10_later 8 = .ok (.iload_n 2, 1) := db160.2.2.2.2.2.2.1
theorem dX10_later_9 : decode cX10_later 9 = .ok (.ifCond .lt 10, 3) := db160.2.2.2.2.2.2.2.1
theorem dX10_later_12 : decode cX10_later 12 = .ok (.iload_n 2, 1) := db160.2.2.2.2.2.2.2.2.1
theorem dX10_later_13 : decode cX10_later 13 = .ok (.sipush 200, 3) := db160.2.2.2.2.2.2.2.2.2.1
theorem dX10_later_16 : decode cX10_later 16 = .ok (.if_icmp .le 6, 3) := db160.2.2.2.2.2.2.2.2.2.2.1
theorem dX10_later_22 : decode cX10_later 22 = .ok (.aload_n 0, 1) := db160.2.2.2.2.2.2.2.2.2.2.2.1
theorem dX10_later_23 : decode cX10_later 23 = .ok (.getfield 52, 3) := db160.2.2.2.2.2.2.2.2.2.2.2.2.1
theorem dX10_later_26 : decode cX10_later 26 = .ok (.aload_n 0, 1) := db160.2.2.2.2.2.2.2.2.2.2.2.2.2.1
theorem dX10_later_27 : decode cX10_later 27 = .ok (.getfield 48, 3) := db160.2.2.2.2.2.2.2.2.2.2.2.2.2.2.1
theorem dX10_later_30 : decode cX10_later 30 = .ok (.invokevirtual 179, 3) := db160.2.2.2.2.2.2.2.2.2.2.2.2.2.2.2.1
theorem dX10_later_33 : decode cX10_later 33 = .ok (.iconst 0, 1) := db160.2.2.2.2.2.2.2.2.2.2.2.2.2.2.2.2.1
theorem dX10_later_34 : decode cX10_later 34 = .ok (.istore_n 3, 1) := db160.2.2.2.2.2.2.2.2.2.2.2.2.2.2.2.2.2.1
theorem dX10_later_35 : decode cX10_later 35 = .ok (.iload_n 3, 1) := db160.2.2.2.2.2.2.2.2.2.2.2.2.2.2.2.2.2.2.1
theorem dX10_later_36 : decode cX10_later 36 = .ok (.iload_n 2, 1) := db160.2.2.2.2.2.2.2.2.2.2.2.2.2.2.2.2.2.2.2.1
theorem dX10_later_37 : decode cX10_later 37 = .ok (.if_icmp .ge 25, 3) := db160.2.2.2.2.2.2.2.2.2.2.2.2.2.2.2.2.2.2.2.2.1
theorem dX10_later_62 : decode cX10_later 62 = .ok (.aload_n 0, 1) := db160.2.2.2.2.2.2.2.2.2.2.2.2.2.2.2.2.2.2.2.2.2.1
theorem dX10_later_63 : decode cX10_later 63 = .ok (.getfield 52, 3) := db160.2.2.2.2.2.2.2.2.2.2.2.2.2.2.2.2.2.2.2.2.2.2.1
theorem dX10_later_66 : decode cX10_later 66 = .ok (.iload_n 1, 1) := db160.2.2.2.2.2.2.2.2.2.2.2.2.2.2.2.2.2.2.2.2.2.2.2
theorem db161 : (decode cX10_later 67 = .ok (.invokevirtual 148, 3)) ∧ (decode cX10_later 70 = .ok (.ireturn, 1)) ∧ (decode cX10_later 40 = .ok (.aload_n 0, 1)) ∧ (decode cX10_later 41 = .ok (.getfield 52, 3)) ∧ (decode cX10_later 44 = .ok (.aload_n 0, 1)) ∧ (decode cX10_later 45 = .ok (.getfield 31, 3)) ∧ (decode cX10_later 48 = .ok (.getfield 98, 3)) ∧ (decode cX10_later 51 = .ok (.iconst (-1), 1)) ∧ (decode cX10_later 52 = .ok (.invokevirtual 182, 3)) ∧ (decode cX10_later 55 = .ok (.pop, 1)) ∧ (decode cX10_later 56 = .ok (.iinc 3 1, 3)) ∧ (decode cX10_later 59 = .ok (.goto (-24), 3)) := by decide +kernel
theorem dX10_later_67 : decode cX10_later 67 = .ok (.invokevirtual 148, 3) := db161.1
theorem dX10_later_70 : decode cX10_later 70 = .ok (.ireturn, 1) := db161.2.1
theorem dX10_later_40 : decode cX10_later 40 = .ok (.aload_n 0, 1) := db161.2.2.1
theorem dX10_later_41 : decode cX10_later 41 = .ok (.getfield 52, 3) := db161.2.2.2.1
theorem dX10_later_44 : decode cX10_later 44 = .ok (.aload_n 0, 1) := db161.2.2.2.2.1
theorem dX10_later_45 : decode cX10_later 45 = .ok (.getfield 31, 3) := db161.2.2.2.2.2.1
theorem dX10_later_48 : decode cX10_later 48 = .ok (.getfield 98, 3) := db161.2.2.2.2.2.2.1
theorem dX10_later_51 : decode cX10_later 51 = .ok (.iconst (-1), 1) := db161.2.2.2.2.2.2.2.1
theorem dX10_later_52 : decode cX10_later 52 = .ok (.invokevirtual 182, 3) := db161.2.2.2.2.2.2.2.2.1
theorem dX10_later_55 : decode cX10_later 55 = .ok (.pop, 1) := db161.2.2.2.2.2.2.2.2.2.1
theorem dX10_later_56 : decode cX10_later 56 = .ok (.iinc 3 1, 3) := db161.2.2.2.2.2.2.2.2.2.2.1
theorem dX10_later_59 : decode cX10_later 59 = .ok (.goto (-24), 3) := db161.2.2.2.2.2.2.2.2.2.2.2
theorem db162 : (decode cX10_likely 0 = .ok (.aload_n 0, 1)) ∧ (decode cX10_likely 1 = .ok (.invokevirtual 152, 3)) ∧ (decode cX10_likely 4 = .ok (.ifCond .ne 6, 3)) ∧ (decode cX10_likely 10 = .ok (.iconst (-1), 1)) ∧ (decode cX10_likely 11 = .ok (.istore_n 1, 1)) ∧ (decode cX10_likely 12 = .ok (.iconst 0, 1)) ∧ (decode cX10_likely 13 = .ok (.istore_n 2, 1)) ∧ (decode cX10_likely 14 = .ok (.iload_n 2, 1)) ∧ (decode cX10_likely 15 = .ok (.aload_n 0, 1)) ∧ (decode cX10_likely 16 = .ok (.getfield 31, 3)) ∧ (decode cX10_likely 19 = .ok (.getfield 98, 3)) ∧ (decode cX10_likely 22 = .ok (.getfield 159, 3)) ∧ (decode cX10_likely 25 = .ok (.if_icmp .ge 37, 3)) ∧ (decode cX10_likely 62 = .ok (.iload_n 1, 1)) ∧ (decode cX10_likely 63 = .ok (.ireturn, 1)) ∧ (decode cX10_likely 28 = .ok (.iload_n 1, 1)) ∧ (decode cX10_likely 29 = .ok (.iconst (-1), 1)) ∧ (decode cX10_likely 56 = .ok (.iinc 2 1, 3)) ∧ (decode cX10_likely 59 = .ok (.goto (-45), 3)) ∧ (decode cX10_likely 54 = .ok (.iload_n 2, 1)) ∧ (decode cX10_likely 55 = .ok (.istore_n 1, 1)) ∧ (decode cX10_likely 30 = .ok (.if_icmp .eq 24, 3)) ∧ (decode cX10_likely 33 = .ok (.aload_n 0, 1)) ∧ (decode cX10_likely 34 = .ok (.getfield 48, 3)) := by decide +kernel
theorem dX10_likely_0 : decode cX10_likely 0 = .ok (.aload_n 0, 1) := db162.1
theorem dX10_likely_1 : decode cX10_likely 1 = .ok (.invokevirtual 152, 3) := db162.2.1
theorem dX10_likely_4 : decode cX10_likely 4 = .ok (.ifCond .ne 6, 3) := db162.2.2.1
theorem dX10_likely_10 : decode cX10_likely 10 = .ok (.iconst (-1), 1) := db162.2.2.2.1
theorem dX10_likely_11 : decode cX10_likely 11 = .ok (.istore_n 1, 1) := db162.2.2.2.2.1
theorem dX10_likely_12 : decode cX10_likely 12 = .ok (.iconst 0, 1) := db162.2.2.2.2.2.1
theorem dX10_likely_13 : decode cX10_likely 13 = .ok (.istore_n 2, 1) := db162.2.2.2.2.2.2.1
theorem dX10_likely_14 : decode cX10_likely 14 = .ok (.iload_n 2, 1) := db162.2.2.2.2.2.2.2.1
theorem dX10_likely_15 : decode cX10_likely 15 = .ok (.aload_n 0, 1) := db162.2.2.2.2.2.2.2.2.1
theorem dX10_likely_16 : decode cX10_likely 16 = .ok (.getfield 31, 3) := db162.2.2.2.2.2.2.2.2.2.1
theorem dX10_likely_19 : decode cX10_likely 19 = .ok (.getfield 98, 3) := db162.2.2.2.2.2.2.2.2.2.2.1
theorem dX10_likely_22 : decode cX10_likely 22 = .ok (.getfield 159, 3) := db162.2.2.2.2.2.2.2.2.2.2.2.1
theorem dX10_likely_25 : decode cX10_likely 25 = .ok (.if_icmp .ge 37, 3) := db162.2.2.2.2.2.2.2.2.2.2.2.2.1
theorem dX10_likely_62 : decode cX10_likely 62 = .ok (.iload_n 1, 1) := db162.2.2.2.2.2.2.2.2.2.2.2.2.2.1
theorem dX10_likely_63 : decode cX10_likely 63 = .ok (.ireturn, 1) := db162.2.2.2.2.2.2.2.2.2.2.2.2.2.2.1
theorem dX10_likely_28 : decode cX10_likely 28 = .ok (.iload_n 1, 1) := db162.2.2.2.2.2.2.2.2.2.2.2.2.2.2.2.1
theorem dX10_likely_29 : decode cX10_likely 29 = .ok (.iconst (-1), 1) := db162.2.2.2.2.2.2.2.2.2.2.2.2.2.2.2.2.1
theorem dX10_likely_56 : decode cX10_likely 56 = .ok (.iinc 2 1, 3) := db162.2.2.2.2.2.2.2.2.2.2.2.2.2.2.2.2.2.1
theorem dX10_likely_59 : decode cX10_likely 59 = .ok (.goto (-45), 3) := db162.2.2.2.2.2.2.2.2.2.2.2.2.2.2.2.2.2.2.1
theorem dX10_likely_54 : decode cX10_likely 54 = .ok (.iload_n 2, 1) := db162.2.2.2.2.2.2.2.2.2.2.2.2.2.2.2.2.2.2.2.1
theorem dX10_likely_55 : decode cX10_likely 55 = .ok (.istore_n 1, 1) := db162.2.2.2.2.2.2.2.2.2.2.2.2.2.2.2.2.2.2.2.2.1
theorem dX10_likely_30 : decode cX10_likely 30 = .ok (.if_icmp .eq 24, 3) := db162.2.2.2.2.2.2.2.2.2.2.2.2.2.2.2.2.2.2.2.2.2.1
theorem dX10_likely_33 : decode cX10_likely 33 = .ok (.aload_n 0, 1) := db162.2.2.2.2.2.2.2.2.2.2.2.2.2.2.2.2.2.2.2.2.2.2.1
theorem dX10_likely_34 : decode cX10_likely 34 = .ok (.getfield 48, 3) := db162.2.2.2.2.2.2.2.2.2.2.2.2.2.2.2.2.2.2.2.2.2.2.2
theorem db163 : (decode cX10_likely 37 = .ok (.getfield 162, 3)) ∧ (decode cX10_likely 40 = .ok (.iload_n 2, 1)) ∧ (decode cX10_likely 41 = .ok (.iaload, 1)) ∧ (decode cX10_likely 42 = .ok (.aload_n 0, 1)) ∧ (decode cX10_likely 43 = .ok (.getfield 48, 3)) ∧ (decode cX10_likely 46 = .ok (.getfield 162, 3)) ∧ (decode cX10_likely 49 = .ok (.iload_n 1, 1)) ∧ (decode cX10_likely 50 = .ok (.iaload, 1)) ∧ (decode cX10_likely 51 = .ok (.if_icmp .le 5, 3)) ∧ (decode cX10_likely 7 = .ok (.bipush (-2), 2)) ∧ (decode cX10_likely 9 = .ok (.ireturn, 1)) := by decide +kernel
theorem dX10_likely_37 : decode cX10_likely 37 = .ok (.getfield 162, 3) := db163.1
theorem dX10_likely_40 : decode cX10_likely 40 = .ok (.iload_n 2, 1) := db163.2.1
theorem dX10_likely_41 : decode cX10_likely 41 = .ok (.iaload, 1) := db163.2.2.1
theorem dX10_likely_42 : decode cX10_likely 42 = .ok (.aload_n 0, 1) := db163.2.2.2.1
theorem dX10_likely_43 : decode cX10_likely 43 = .ok (.getfield 48, 3) := db163.2.2.2.2.1
theorem dX10_likely_46 : decode cX10_likely 46 = .ok (.getfield 162, 3) := db163.2.2.2.2.2.1
theorem dX10_likely_49 : decode cX10_likely 49 = .ok (.iload_n 1, 1) := db163.2.2.2.2.2.2.1
theorem dX10_likely_50 : decode cX10_likely 50 = .ok (.iaload, 1) := db163.2.2.2.2.2.2.2.1
theorem dX10_likely_51 : decode cX10_likely 51 = .ok (.if_icmp .le 5, 3) := db163.2.2.2.2.2.2.2.2.1
theorem dX10_likely_7 : decode cX10_likely 7 = .ok (.bipush (-2), 2) := db163.2.2.2.2.2.2.2.2.2.1
theorem dX10_likely_9 : decode cX10_likely 9 = .ok (.ireturn, 1) := db163.2.2.2.2.2.2.2.2.2.2
theorem db164 : (decode cX10_list 0 = .ok (.aload_n 0, 1)) ∧ (decode cX10_list 1 = .ok (.iload_n 1, 1)) ∧ (decode cX10_list 2 = .ok (.invokevirtual 267, 3)) ∧ (decode cX10_list 5 = .ok (.ifCond .eq 21, 3)) ∧ (decode cX10_list 26 = .ok (.bipush (-2), 2)) ∧ (decode cX10_list 28 = .ok (.ireturn, 1)) ∧ (decode cX10_list 8 = .ok (.aload_n 0, 1)) ∧ (decode cX10_list 9 = .ok (.getfield 72, 3)) ∧ (decode cX10_list 12 = .ok (.aload_n 0, 1)) ∧ (decode cX10_list 13 = .ok (.getfield 31, 3)) ∧ (decode cX10_list 16 = .ok (.getfield 98, 3)) ∧ (decode cX10_list 19 = .ok (.iload_n 1, 1)) ∧ (decode cX10_list 20 = .ok (.invokevirtual 280, 3)) ∧ (decode cX10_list 23 = .ok (.goto 5, 3)) := by decide +kernel
theorem dX10_list_0 : decode cX10_list 0 = .ok (.aload_n 0, 1) := db164.1
theorem dX10_list_1 : decode cX10_list 1 = .ok (.iload_n 1, 1) := db164.2.1
theorem dX10_list_2 : decode cX10_list 2 = .ok (.invokevirtual 267, 3) := db164.2.2.1
theorem dX10_list_5 : decode cX10_list 5 = .ok (.ifCond .eq 21, 3) := db164.2.2.2.1
theorem dX10_list_26 : decode cX10_list 26 = .ok (.bipush (-2), 2) := db164.2.2.2.2.1
theorem dX10_list_28 : decode cX10_list 28 = .ok (.ireturn, 1) := db164.2.2.2.2.2.1
theorem dX10_list_8 : decode cX10_list 8 = .ok (.aload_n 0, 1) := db164.2.2.2.2.2.2.1
theorem dX10_list_9 : decode cX10_list 9 = .ok (.getfield 72, 3) := db164.2.2.2.2.2.2.2.1
theorem dX10_list_12 : decode cX10_list 12 = .ok (.aload_n 0, 1) := db164.2.2.2.2.2.2.2.2.1
theorem dX10_list_13 : decode cX10_list 13 = .ok (.getfield 31, 3) := db164.2.2.2.2.2.2.2.2.2.1
theorem dX10_list_16 : decode cX10_list 16 = .ok (.getfield 98, 3) := db164.2.2.2.2.2.2.2.2.2.2.1
theorem dX10_list_19 : decode cX10_list 19 = .ok (.iload_n 1, 1) := db164.2.2.2.2.2.2.2.2.2.2.2.1
theorem dX10_list_20 : decode cX10_list 20 = .ok (.invokevirtual 280, 3) := db164.2.2.2.2.2.2.2.2.2.2.2.2.1
theorem dX10_list_23 : decode cX10_list 23 = .ok (.goto 5, 3) := db164.2.2.2.2.2.2.2.2.2.2.2.2.2
theorem db165 : (decode cX10_lot 0 = .ok (.aload_n 0, 1)) ∧ (decode cX10_lot 1 = .ok (.iload_n 2, 1)) ∧ (decode cX10_lot 2 = .ok (.aload_n 0, 1)) ∧ (decode cX10_lot 3 = .ok (.iload_n 1, 1)) ∧ (decode cX10_lot 4 = .ok (.invokevirtual 308, 3)) ∧ (decode cX10_lot 26 = .ok (.invokevirtual 186, 3)) ∧ (decode cX10_lot 29 = .ok (.istore 4, 2)) ∧ (decode cX10_lot 31 = .ok (.iload 4, 2)) ∧ (decode cX10_lot 33 = .ok (.ifCond .eq 6, 3)) ∧ (decode cX10_lot 39 = .ok (.iconst 0, 1)) ∧ (decode cX10_lot 40 = .ok (.istore 5, 2)) ∧ (decode cX10_lot 42 = .ok (.iconst 0, 1)) ∧ (decode cX10_lot 43 = .ok (.istore 6, 2)) ∧ (decode cX10_lot 45 = .ok (.iload 6, 2)) ∧ (decode cX10_lot 47 = .ok (.iload_n 3, 1)) ∧ (decode cX10_lot 48 = .ok (.if_icmp .ge 49, 3)) ∧ (decode cX10_lot 97 = .ok (.iload 5, 2)) ∧ (decode cX10_lot 99 = .ok (.ireturn, 1)) ∧ (decode cX10_lot 51 = .ok (.aload_n 0, 1)) ∧ (decode cX10_lot 52 = .ok (.getfield 79, 3)) ∧ (decode cX10_lot 55 = .ok (.aload_n 0, 1)) ∧ (decode cX10_lot 56 = .ok (.getfield 31, 3)) ∧ (decode cX10_lot 59 = .ok (.getfield 98, 3)) ∧ (decode cX10_lot 62 = .ok (.aload_n 0, 1)) := by decide +kernel
theorem dX10_lot_0 : decode cX10_lot 0 = .ok (.aload_n 0, 1) := db165.1
theorem dX10_lot_1 : decode cX10_lot 1 = .ok (.iload_n 2, 1) := db165.2.1
theorem dX10_lot_2 : decode cX10_lot 2 = .ok (.aload_n 0, 1) := db165.2.2.1
theorem dX10_lot_3 : decode cX10_lot 3 = .ok (.iload_n 1, 1) := db165.2.2.2.1
theorem dX10_lot_4 : decode cX10_lot 4 = .ok (.invokevirtual 308, 3) := db165.2.2.2.2.1
theorem dX10_lot_26 : decode cX10_lot 26 = .ok (.invokevirtual 186, 3) := db165.2.2.2.2.2.1
theorem dX10_lot_29 : decode cX10_lot 29 = .ok (.istore 4, 2) := db165.2.2.2.2.2.2.1
theorem dX10_lot_31 : decode cX10_lot 31 = .ok (.iload 4, 2) := db165.2.2.2.2.2.2.2.1
theorem dX10_lot_33 : decode cX10_lot 33 = .ok (.ifCond .eq 6, 3) := db165.2.2.2.2.2.2.2.2.1
theorem dX10_lot_39 : decode cX10_lot 39 = .ok (.iconst 0, 1) := db165.2.2.2.2.2.2.2.2.2.1
theorem dX10_lot_40 : decode cX10_lot 40 = .ok (.istore 5, 2) := db165.2.2.2.2.2.2.2.2.2.2.1
theorem dX10_lot_42 : decode cX10_lot 42 = .ok (.iconst 0, 1) := db165.2.2.2.2.2.2.2.2.2.2.2.1
theorem dX10_lot_43 : decode cX10_lot 43 = .ok (.istore 6, 2) := db165.2.2.2.2.2.2.2.2.2.2.2.2.1
theorem dX10_lot_45 : decode cX10_lot 45 = .ok (.iload 6, 2) := db165.2.2.2.2.2.2.2.2.2.2.2.2.2.1
theorem dX10_lot_47 : decode cX10_lot 47 = .ok (.iload_n 3, 1) := db165.2.2.2.2.2.2.2.2.2.2.2.2.2.2.1
theorem dX10_lot_48 : decode cX10_lot 48 = .ok (.if_icmp .ge 49, 3) := db165.2.2.2.2.2.2.2.2.2.2.2.2.2.2.2.1
theorem dX10_lot_97 : decode cX10_lot 97 = .ok (.iload 5, 2) := db165.2.2.2.2.2.2.2.2.2.2.2.2.2.2.2.2.1
theorem dX10_lot_99 : decode cX10_lot 99 = .ok (.ireturn, 1) := db165.2.2.2.2.2.2.2.2.2.2.2.2.2.2.2.2.2.1
theorem dX10_lot_51 : decode cX10_lot 51 = .ok (.aload_n 0, 1) := db165.2.2.2.2.2.2.2.2.2.2.2.2.2.2.2.2.2.2.1
theorem dX10_lot_52 : decode cX10_lot 52 = .ok (.getfield 79, 3) := db165.2.2.2.2.2.2.2.2.2.2.2.2.2.2.2.2.2.2.2.1
theorem dX10_lot_55 : decode cX10_lot 55 = .ok (.aload_n 0, 1) := db165.2.2.2.2.2.2.2.2.2.2.2.2.2.2.2.2.2.2.2.2.1
theorem dX10_lot_56 : decode cX10_lot 56 = .ok (.getfield 31, 3) := db165.2.2.2.2.2.2.2.2.2.2.2.2.2.2.2.2.2.2.2.2.2.1
theorem dX10_lot_59 : decode cX10_lot 59 = .ok (.getfield 98, 3) := db165.2.2.2.2.2.2.2.2.2.2.2.2.2.2.2.2.2.2.2.2.2.2.1
theorem dX10_lot_62 : decode cX10_lot 62 = .ok (.aload_n 0, 1) := db165.2.2.2.2.2.2.2.2.2.2.2.2.2.2.2.2.2.2.2.2.2.2.2
theorem db166 : (decode cX10_lot 63 = .ok (.getfield 41, 3)) ∧ (decode cX10_lot 66 = .ok (.iload_n 2, 1)) ∧ (decode cX10_lot 67 = .ok (.aaload, 1)) ∧ (decode cX10_lot 68 = .ok (.iload_n 1, 1)) ∧ (decode cX10_lot 69 = .ok (.i2l, 1)) ∧ (decode cX10_lot 70 = .ok (.iload 6, 2)) ∧ (decode cX10_lot 72 = .ok (.i2l, 1)) ∧ (decode cX10_lot 73 = .ok (.ladd, 1)) ∧ (decode cX10_lot 74 = .ok (.invokevirtual 311, 3)) ∧ (decode cX10_lot 77 = .ok (.aload_n 0, 1)) ∧ (decode cX10_lot 78 = .ok (.getfield 79, 3)) ∧ (decode cX10_lot 81 = .ok (.getfield 315, 3)) ∧ (decode cX10_lot 84 = .ok (.iconst (-1), 1)) ∧ (decode cX10_lot 91 = .ok (.iinc 6 1, 3)) ∧ (decode cX10_lot 94 = .ok (.goto (-49), 3)) ∧ (decode cX10_lot 85 = .ok (.if_icmp .eq 6, 3)) ∧ (decode cX10_lot 88 = .ok (.iinc 5 1, 3)) ∧ (decode cX10_lot 36 = .ok (.iload 4, 2)) ∧ (decode cX10_lot 38 = .ok (.ireturn, 1)) ∧ (decode cX10_lot 25 = .ok (.iconst 0, 1)) ∧ (decode cX10_lot 7 = .ok (.ifCond .eq 18, 3)) ∧ (decode cX10_lot 10 = .ok (.iload_n 3, 1)) ∧ (decode cX10_lot 11 = .ok (.iconst 1, 1)) ∧ (decode cX10_lot 12 = .ok (.if_icmp .lt 13, 3)) := by decide +kernel
theorem dX10_lot_63 : decode cX10_lot 63 = .ok (.getfield 41, 3) := db166.1
theorem dX10_lot_66 : decode cX10_lot 66 = .ok (.iload_n 2, 1) := db166.2.1
theorem dX10_lot_67 : decode cX10_lot 67 = .ok (.aaload, 1) := db166.2.2.1
theorem dX10_lot_68 : decode cX10_lot 68 = .ok (.iload_n 1, 1) := db166.2.2.2.1
theorem dX10_lot_69 : decode cX10_lot 69 = .ok (.i2l, 1) := db166.2.2.2.2.1
theorem dX10_lot_70 : decode cX10_lot 70 = .ok (.iload 6, 2) := db166.2.2.2.2.2.1
theorem dX10_lot_72 : decode cX10_lot 72 = .ok (.i2l, 1) := db166.2.2.2.2.2.2.1
theorem dX10_lot_73 : decode cX10_lot 73 = .ok (.ladd, 1) := db166.2.2.2.2.2.2.2.1
theorem dX10_lot_74 : decode cX10_lot 74 = .ok (.invokevirtual 311, 3) := db166.2.2.2.2.2.2.2.2.1
theorem dX10_lot_77 : decode cX10_lot 77 = .ok (.aload_n 0, 1) := db166.2.2.2.2.2.2.2.2.2.1
theorem dX10_lot_78 : decode cX10_lot 78 = .ok (.getfield 79, 3) := db166.2.2.2.2.2.2.2.2.2.2.1
theorem dX10_lot_81 : decode cX10_lot 81 = .ok (.getfield 315, 3) := db166.2.2.2.2.2.2.2.2.2.2.2.1
theorem dX10_lot_84 : decode cX10_lot 84 = .ok (.iconst (-1), 1) := db166.2.2.2.2.2.2.2.2.2.2.2.2.1
theorem dX10_lot_91 : decode cX10_lot 91 = .ok (.iinc 6 1, 3) := db166.2.2.2.2.2.2.2.2.2.2.2.2.2.1
theorem dX10_lot_94 : decode cX10_lot 94 = .ok (.goto (-49), 3) := db166.2.2.2.2.2.2.2.2.2.2.2.2.2.2.1
theorem dX10_lot_85 : decode cX10_lot 85 = .ok (.if_icmp .eq 6, 3) := db166.2.2.2.2.2.2.2.2.2.2.2.2.2.2.2.1
theorem dX10_lot_88 : decode cX10_lot 88 = .ok (.iinc 5 1, 3) := db166.2.2.2.2.2.2.2.2.2.2.2.2.2.2.2.2.1
theorem dX10_lot_36 : decode cX10_lot 36 = .ok (.iload 4, 2) := db166.2.2.2.2.2.2.2.2.2.2.2.2.2.2.2.2.2.1
theorem dX10_lot_38 : decode cX10_lot 38 = .ok (.ireturn, 1) := db166.2.2.2.2.2.2.2.2.2.2.2.2.2.2.2.2.2.2.1
theorem dX10_lot_25 : decode cX10_lot 25 = .ok (.iconst 0, 1) := db166.2.2.2.2.2.2.2.2.2.2.2.2.2.2.2.2.2.2.2.1
theorem dX10_lot_7 : decode cX10_lot 7 = .ok (.ifCond .eq 18, 3) := db166.2.2.2.2.2.2.2.2.2.2.2.2.2.2.2.2.2.2.2.2.1
theorem dX10_lot_10 : decode cX10_lot 10 = .ok (.iload_n 3, 1) := db166.2.2.2.2.2.2.2.2.2.2.2.2.2.2.2.2.2.2.2.2.2.1
theorem dX10_lot_11 : decode cX10_lot 11 = .ok (.iconst 1, 1) := db166.2.2.2.2.2.2.2.2.2.2.2.2.2.2.2.2.2.2.2.2.2.2.1
theorem dX10_lot_12 : decode cX10_lot 12 = .ok (.if_icmp .lt 13, 3) := db166.2.2.2.2.2.2.2.2.2.2.2.2.2.2.2.2.2.2.2.2.2.2.2
theorem db167 : (decode cX10_lot 15 = .ok (.iload_n 3, 1)) ∧ (decode cX10_lot 16 = .ok (.bipush 20, 2)) ∧ (decode cX10_lot 18 = .ok (.if_icmp .gt 7, 3)) ∧ (decode cX10_lot 21 = .ok (.iconst 1, 1)) ∧ (decode cX10_lot 22 = .ok (.goto 4, 3)) := by decide +kernel
theorem dX10_lot_15 : decode cX10_lot 15 = .ok (.iload_n 3, 1) := db167.1
theorem dX10_lot_16 : decode cX10_lot 16 = .ok (.bipush 20, 2) := db167.2.1
theorem dX10_lot_18 : decode cX10_lot 18 = .ok (.if_icmp .gt 7, 3) := db167.2.2.1
theorem dX10_lot_21 : decode cX10_lot 21 = .ok (.iconst 1, 1) := db167.2.2.2.1
theorem dX10_lot_22 : decode cX10_lot 22 = .ok (.goto 4, 3) := db167.2.2.2.2
theorem db168 : (decode cX10_man 0 = .ok (.aload_n 0, 1)) ∧ (decode cX10_man 1 = .ok (.iload_n 1, 1)) ∧ (decode cX10_man 2 = .ok (.invokevirtual 128, 3)) ∧ (decode cX10_man 5 = .ok (.ifCond .eq 12, 3)) ∧ (decode cX10_man 17 = .ok (.bipush (-2), 2)) ∧ (decode cX10_man 19 = .ok (.ireturn, 1)) ∧ (decode cX10_man 8 = .ok (.iload_n 2, 1)) ∧ (decode cX10_man 9 = .ok (.ifCond .lt 8, 3)) ∧ (decode cX10_man 12 = .ok (.iload_n 2, 1)) ∧ (decode cX10_man 13 = .ok (.iconst 1, 1)) ∧ (decode cX10_man 14 = .ok (.if_icmp .le 6, 3)) ∧ (decode cX10_man 20 = .ok (.iload_n 2, 1)) ∧ (decode cX10_man 21 = .ok (.ifCond .ne 18, 3)) ∧ (decode cX10_man 39 = .ok (.aload_n 0, 1)) ∧ (decode cX10_man 40 = .ok (.getfield 31, 3)) ∧ (decode cX10_man 43 = .ok (.getfield 98, 3)) ∧ (decode cX10_man 46 = .ok (.getfield 135, 3)) ∧ (decode cX10_man 49 = .ok (.iload_n 1, 1)) ∧ (decode cX10_man 50 = .ok (.iaload, 1)) ∧ (decode cX10_man 51 = .ok (.ireturn, 1)) ∧ (decode cX10_man 24 = .ok (.aload_n 0, 1)) ∧ (decode cX10_man 25 = .ok (.getfield 31, 3)) ∧ (decode cX10_man 28 = .ok (.getfield 98, 3)) ∧ (decode cX10_man 31 = .ok (.getfield 131, 3)) := by decide +kernel
theorem dX10_man_0 : decode cX10_man 0 = .ok (.aload_n 0, 1) := db168.1
theorem dX10_man_1 : decode cX10_man 1 = .ok (.iload_n 1, 1) := db168.2.1
theorem dX10_man_2 : decode cX10_man 2 = .ok (.invokevirtual 128, 3) := db168.2.2.1
theorem dX10_man_5 : decode cX10_man 5 = .ok (.ifCond .eq 12, 3) := db168.2.2.2.1
theorem dX10_man_17 : decode cX10_man 17 = .ok (.bipush (-2), 2) := db168.2.2.2.2.1
theorem dX10_man_19 : decode cX10_man 19 = .ok (.ireturn, 1) := db168.2.2.2.2.2.1
theorem dX10_man_8 : decode cX10_man 8 = .ok (.iload_n 2, 1) := db168.2.2.2.2.2.2.1
theorem dX10_man_9 : decode cX10_man 9 = .ok (.ifCond .lt 8, 3) := db168.2.2.2.2.2.2.2.1
theorem dX10_man_12 : decode cX10_man 12 = .ok (.iload_n 2, 1) := db168.2.2.2.2.2.2.2.2.1
theorem dX10_man_13 : decode cX10_man 13 = .ok (.iconst 1, 1) := db168.2.2.2.2.2.2.2.2.2.1
theorem dX10_man_14 : decode cX10_man 14 = .ok (.if_icmp .le 6, 3) := db168.2.2.2.2.2.2.2.2.2.2.1
theorem dX10_man_20 : decode cX10_man 20 = .ok (.iload_n 2, 1) := db168.2.2.2.2.2.2.2.2.2.2.2.1
theorem dX10_man_21 : decode cX10_man 21 = .ok (.ifCond .ne 18, 3) := db168.2.2.2.2.2.2.2.2.2.2.2.2.1
theorem dX10_man_39 : decode cX10_man 39 = .ok (.aload_n 0, 1) := db168.2.2.2.2.2.2.2.2.2.2.2.2.2.1
theorem dX10_man_40 : decode cX10_man 40 = .ok (.getfield 31, 3) := db168.2.2.2.2.2.2.2.2.2.2.2.2.2.2.1
theorem dX10_man_43 : decode cX10_man 43 = .ok (.getfield 98, 3) := db168.2.2.2.2.2.2.2.2.2.2.2.2.2.2.2.1
theorem dX10_man_46 : decode cX10_man 46 = .ok (.getfield 135, 3) := db168.2.2.2.2.2.2.2.2.2.2.2.2.2.2.2.2.1
theorem dX10_man_49 : decode cX10_man 49 = .ok (.iload_n 1, 1) := db168.2.2.2.2.2.2.2.2.2.2.2.2.2.2.2.2.2.1
theorem dX10_man_50 : decode cX10_man 50 = .ok (.iaload, 1) := db168.2.2.2.2.2.2.2.2.2.2.2.2.2.2.2.2.2.2.1
theorem dX10_man_51 : decode cX10_man 51 = .ok (.ireturn, 1) := db168.2.2.2.2.2.2.2.2.2.2.2.2.2.2.2.2.2.2.2.1
theorem dX10_man_24 : decode cX10_man 24 = .ok (.aload_n 0, 1) := db168.2.2.2.2.2.2.2.2.2.2.2.2.2.2.2.2.2.2.2.2.1
theorem dX10_man_25 : decode cX10_man 25 = .ok (.getfield 31, 3) := db168.2.2.2.2.2.2.2.2.2.2.2.2.2.2.2.2.2.2.2.2.2.1
theorem dX10_man_28 : decode cX10_man 28 = .ok (.getfield 98, 3) := db168.2.2.2.2.2.2.2.2.2.2.2.2.2.2.2.2.2.2.2.2.2.2.1
theorem dX10_man_31 : decode cX10_man 31 = .ok (.getfield 131, 3) := db168.2.2.2.2.2.2.2.2.2.2.2.2.2.2.2.2.2.2.2.2.2.2.2
theorem db169 : (decode cX10_man 34 = .ok (.iload_n 1, 1)) ∧ (decode cX10_man 35 = .ok (.iaload, 1)) ∧ (decode cX10_man 36 = .ok (.goto 15, 3)) := by decide +kernel
theorem dX10_man_34 : decode cX10_man 34 = .ok (.iload_n 1, 1) := db169.1
theorem dX10_man_35 : decode cX10_man 35 = .ok (.iaload, 1) := db169.2.1
theorem dX10_man_36 : decode cX10_man 36 = .ok (.goto 15, 3) := db169.2.2
theorem db170 : (decode cX10_meant 0 = .ok (.aload_n 0, 1)) ∧ (decode cX10_meant 1 = .ok (.iload_n 1, 1)) ∧ (decode cX10_meant 2 = .ok (.invokevirtual 267, 3)) ∧ (decode cX10_meant 5 = .ok (.ifCond .eq 28, 3)) ∧ (decode cX10_meant 33 = .ok (.bipush (-2), 2)) ∧ (decode cX10_meant 35 = .ok (.ireturn, 1)) ∧ (decode cX10_meant 8 = .ok (.aload_n 0, 1)) ∧ (decode cX10_meant 9 = .ok (.iload_n 2, 1)) ∧ (decode cX10_meant 10 = .ok (.invokevirtual 128, 3)) ∧ (decode cX10_meant 13 = .ok (.ifCond .eq 20, 3)) ∧ (decode cX10_meant 16 = .ok (.iload_n 1, 1)) ∧ (decode cX10_meant 17 = .ok (.iload_n 2, 1)) ∧ (decode cX10_meant 18 = .ok (.ishr, 1)) ∧ (decode cX10_meant 19 = .ok (.iconst 1, 1)) ∧ (decode cX10_meant 20 = .ok (.iand, 1)) ∧ (decode cX10_meant 21 = .ok (.ifCond .eq 12, 3)) ∧ (decode cX10_meant 24 = .ok (.iload_n 3, 1)) ∧ (decode cX10_meant 25 = .ok (.ifCond .lt 8, 3)) ∧ (decode cX10_meant 28 = .ok (.iload_n 3, 1)) ∧ (decode cX10_meant 29 = .ok (.iconst 1, 1)) ∧ (decode cX10_meant 30 = .ok (.if_icmp .le 6, 3)) ∧ (decode cX10_meant 36 = .ok (.iconst 0, 1)) ∧ (decode cX10_meant 37 = .ok (.istore 4, 2)) ∧ (decode cX10_meant 39 = .ok (.iconst 0, 1)) := by decide +kernel
theorem dX10_meant_0 : decode cX10_meant 0 = .ok (.aload_n 0, 1) := db170.1
theorem dX10_meant_1 : decode cX10_meant 1 = .ok (.iload_n 1, 1) := db170.2.1
theorem dX10_meant_2 : decode cX10_meant 2 = .ok (.invokevirtual 267, 3) := db170.2.2.1
theorem dX10_meant_5 : decode cX10_meant 5 = .ok (.ifCond .eq 28, 3) := db170.2.2.2.1
theorem dX10_meant_33 : decode cX10_meant 33 = .ok (.bipush (-2), 2) := db170.2.2.2.2.1
theorem dX10_meant_35 : decode cX10_meant 35 = .ok (.ireturn, 1) := db170.2.2.2.2.2.1
theorem dX10_meant_8 : decode cX10_meant 8 = .ok (.aload_n 0, 1) := db170.2.2.2.2.2.2.1
theorem dX10_meant_9 : decode cX10_meant 9 = .ok (.iload_n 2, 1) := db170.2.2.2.2.2.2.2.1
theorem dX10_meant_10 : decode cX10_meant 10 = .ok (.invokevirtual 128, 3) := db170.2.2.2.2.2.2.2.2.1
theorem dX10_meant_13 : decode cX10_meant 13 = .ok (.ifCond .eq 20, 3) := db170.2.2.2.2.2.2.2.2.2.1
theorem dX10_meant_16 : decode cX10_meant 16 = .ok (.iload_n 1, 1) := db170.2.2.2.2.2.2.2.2.2.2.1
theorem dX10_meant_17 : decode cX10_meant 17 = .ok (.iload_n 2, 1) := db170.2.2.2.2.2.2.2.2.2.2.2.1
theorem dX10_meant_18 : decode cX10_meant 18 = .ok (.ishr, 1) := db170.2.2.2.2.2.2.2.2.2.2.2.2.1
theorem dX10_meant_19 : decode cX10_meant 19 = .ok (.iconst 1, 1) := db170.2.2.2.2.2.2.2.2.2.2.2.2.2.1
theorem dX10_meant_20 : decode cX10_meant 20 = .ok (.iand, 1) := db170.2.2.2.2.2.2.2.2.2.2.2.2.2.2.1
theorem dX10_meant_21 : decode cX10_meant 21 = .ok (.ifCond .eq 12, 3) := db170.2.2.2.2.2.2.2.2.2.2.2.2.2.2.2.1
theorem dX10_meant_24 : decode cX10_meant 24 = .ok (.iload_n 3, 1) := db170.2.2.2.2.2.2.2.2.2.2.2.2.2.2.2.2.1
theorem dX10_meant_25 : decode cX10_meant 25 = .ok (.ifCond .lt 8, 3) := db170.2.2.2.2.2.2.2.2.2.2.2.2.2.2.2.2.2.1
theorem dX10_meant_28 : decode cX10_meant 28 = .ok (.iload_n 3, 1) := db170.2.2.2.2.2.2.2.2.2.2.2.2.2.2.2.2.2.2.1
theorem dX10_meant_29 : decode cX10_meant 29 = .ok (.iconst 1, 1) := db170.2.2.2.2.2.2.2.2.2.2.2.2.2.2.2.2.2.2.2.1
theorem dX10_meant_30 : decode cX10_meant 30 = .ok (.if_icmp .le 6, 3) := db170.2.2.2.2.2.2.2.2.2.2.2.2.2.2.2.2.2.2.2.2.1
theorem dX10_meant_36 : decode cX10_meant 36 = .ok (.iconst 0, 1) := db170.2.2.2.2.2.2.2.2.2.2.2.2.2.2.2.2.2.2.2.2.2.1
theorem dX10_meant_37 : decode cX10_meant 37 = .ok (.istore 4, 2) := db170.2.2.2.2.2.2.2.2.2.2.2.2.2.2.2.2.2.2.2.2.2.2.1
theorem dX10_meant_39 : decode cX10_meant 39 = .ok (.iconst 0, 1) := db170.2.2.2.2.2.2.2.2.2.2.2.2.2.2.2.2.2.2.2.2.2.2.2
theorem db171 : (decode cX10_meant 40 = .ok (.istore 5, 2)) ∧ (decode cX10_meant 42 = .ok (.iload 5, 2)) ∧ (decode cX10_meant 44 = .ok (.aload_n 0, 1)) ∧ (decode cX10_meant 45 = .ok (.getfield 31, 3)) ∧ (decode cX10_meant 48 = .ok (.getfield 98, 3)) ∧ (decode cX10_meant 51 = .ok (.getfield 283, 3)) ∧ (decode cX10_meant 54 = .ok (.if_icmp .ge 36, 3)) ∧ (decode cX10_meant 90 = .ok (.aload_n 0, 1)) ∧ (decode cX10_meant 91 = .ok (.getfield 72, 3)) ∧ (decode cX10_meant 94 = .ok (.aload_n 0, 1)) ∧ (decode cX10_meant 95 = .ok (.getfield 31, 3)) ∧ (decode cX10_meant 98 = .ok (.getfield 98, 3)) ∧ (decode cX10_meant 101 = .ok (.getfield 131, 3)) ∧ (decode cX10_meant 104 = .ok (.iload_n 2, 1)) ∧ (decode cX10_meant 105 = .ok (.iaload, 1)) ∧ (decode cX10_meant 106 = .ok (.i2l, 1)) ∧ (decode cX10_meant 107 = .ok (.iload 4, 2)) ∧ (decode cX10_meant 109 = .ok (.i2l, 1)) ∧ (decode cX10_meant 110 = .ok (.iload_n 3, 1)) ∧ (decode cX10_meant 111 = .ok (.invokevirtual 285, 3)) ∧ (decode cX10_meant 114 = .ok (.l2i, 1)) ∧ (decode cX10_meant 115 = .ok (.ireturn, 1)) ∧ (decode cX10_meant 57 = .ok (.iload_n 1, 1)) ∧ (decode cX10_meant 58 = .ok (.iload 5, 2)) := by decide +kernel
theorem dX10_meant_40 : decode cX10_meant 40 = .ok (.istore 5, 2) := db171.1
theorem dX10_meant_42 : decode cX10_meant 42 = .ok (.iload 5, 2) := db171.2.1
theorem dX10_meant_44 : decode cX10_meant 44 = .ok (.aload_n 0, 1) := db171.2.2.1
theorem dX10_meant_45 : decode cX10_meant 45 = .ok (.getfield 31, 3) := db171.2.2.2.1
theorem dX10_meant_48 : decode cX10_meant 48 = .ok (.getfield 98, 3) := db171.2.2.2.2.1
theorem dX10_meant_51 : decode cX10_meant 51 = .ok (.getfield 283, 3) := db171.2.2.2.2.2.1
theorem dX10_meant_54 : decode cX10_meant 54 = .ok (.if_icmp .ge 36, 3) := db171.2.2.2.2.2.2.1
theorem dX10_meant_90 : decode cX10_meant 90 = .ok (.aload_n 0, 1) := db171.2.2.2.2.2.2.2.1
theorem dX10_meant_91 : decode cX10_meant 91 = .ok (.getfield 72, 3) := db171.2.2.2.2.2.2.2.2.1
theorem dX10_meant_94 : decode cX10_meant 94 = .ok (.aload_n 0, 1) := db171.2.2.2.2.2.2.2.2.2.1
theorem dX10_meant_95 : decode cX10_meant 95 = .ok (.getfield 31, 3) := db171.2.2.2.2.2.2.2.2.2.2.1
theorem dX10_meant_98 : decode cX10_meant 98 = .ok (.getfield 98, 3) := db171.2.2.2.2.2.2.2.2.2.2.2.1
theorem dX10_meant_101 : decode cX10_meant 101 = .ok (.getfield 131, 3) := db171.2.2.2.2.2.2.2.2.2.2.2.2.1
theorem dX10_meant_104 : decode cX10_meant 104 = .ok (.iload_n 2, 1) := db171.2.2.2.2.2.2.2.2.2.2.2.2.2.1
theorem dX10_meant_105 : decode cX10_meant 105 = .ok (.iaload, 1) := db171.2.2.2.2.2.2.2.2.2.2.2.2.2.2.1
theorem dX10_meant_106 : decode cX10_meant 106 = .ok (.i2l, 1) := db171.2.2.2.2.2.2.2.2.2.2.2.2.2.2.2.1
theorem dX10_meant_107 : decode cX10_meant 107 = .ok (.iload 4, 2) := db171.2.2.2.2.2.2.2.2.2.2.2.2.2.2.2.2.1
theorem dX10_meant_109 : decode cX10_meant 109 = .ok (.i2l, 1) := db171.2.2.2.2.2.2.2.2.2.2.2.2.2.2.2.2.2.1
theorem dX10_meant_110 : decode cX10_meant 110 = .ok (.iload_n 3, 1) := db171.2.2.2.2.2.2.2.2.2.2.2.2.2.2.2.2.2.2.1
theorem dX10_meant_111 : decode cX10_meant 111 = .ok (.invokevirtual 285, 3) := db171.2.2.2.2.2.2.2.2.2.2.2.2.2.2.2.2.2.2.2.1
theorem dX10_meant_114 : decode cX10_meant 114 = .ok (.l2i, 1) := db171.2.2.2.2.2.2.2.2.2.2.2.2.2.2.2.2.2.2.2.2.1
theorem dX10_meant_115 : decode cX10_meant 115 = .ok (.ireturn, 1) := db171.2.2.2.2.2.2.2.2.2.2.2.2.2.2.2.2.2.2.2.2.2.1
theorem dX10_meant_57 : decode cX10_meant 57 = .ok (.iload_n 1, 1) := db171.2.2.2.2.2.2.2.2.2.2.2.2.2.2.2.2.2.2.2.2.2.2.1
theorem dX10_meant_58 : decode cX10_meant 58 = .ok (.iload 5, 2) := db171.2.2.2.2.2.2.2.2.2.2.2.2.2.2.2.2.2.2.2.2.2.2.2
theorem db172 : (decode cX10_meant 60 = .ok (.ishr, 1)) ∧ (decode cX10_meant 61 = .ok (.iconst 1, 1)) ∧ (decode cX10_meant 62 = .ok (.iand, 1)) ∧ (decode cX10_meant 84 = .ok (.iinc 5 1, 3)) ∧ (decode cX10_meant 87 = .ok (.goto (-45), 3)) ∧ (decode cX10_meant 63 = .ok (.ifCond .eq 21, 3)) ∧ (decode cX10_meant 66 = .ok (.iload 4, 2)) ∧ (decode cX10_meant 68 = .ok (.aload_n 0, 1)) ∧ (decode cX10_meant 69 = .ok (.getfield 31, 3)) ∧ (decode cX10_meant 72 = .ok (.getfield 98, 3)) ∧ (decode cX10_meant 75 = .ok (.getfield 131, 3)) ∧ (decode cX10_meant 78 = .ok (.iload 5, 2)) ∧ (decode cX10_meant 80 = .ok (.iaload, 1)) ∧ (decode cX10_meant 81 = .ok (.iadd, 1)) ∧ (decode cX10_meant 82 = .ok (.istore 4, 2)) := by decide +kernel
theorem dX10_meant_60 : decode cX10_meant 60 = .ok (.ishr, 1) := db172.1
theorem dX10_meant_61 : decode cX10_meant 61 = .ok (.iconst 1, 1) := db172.2.1
theorem dX10_meant_62 : decode cX10_meant 62 = .ok (.iand, 1) := db172.2.2.1
theorem dX10_meant_84 : decode cX10_meant 84 = .ok (.iinc 5 1, 3) := db172.2.2.2.1
theorem dX10_meant_87 : decode cX10_meant 87 = .ok (.goto (-45), 3) := db172.2.2.2.2.1
theorem dX10_meant_63 : decode cX10_meant 63 = .ok (.ifCond .eq 21, 3) := db172.2.2.2.2.2.1
theorem dX10_meant_66 : decode cX10_meant 66 = .ok (.iload 4, 2) := db172.2.2.2.2.2.2.1
theorem dX10_meant_68 : decode cX10_meant 68 = .ok (.aload_n 0, 1) := db172.2.2.2.2.2.2.2.1
theorem dX10_meant_69 : decode cX10_meant 69 = .ok (.getfield 31, 3) := db172.2.2.2.2.2.2.2.2.1
theorem dX10_meant_72 : decode cX10_meant 72 = .ok (.getfield 98, 3) := db172.2.2.2.2.2.2.2.2.2.1
theorem dX10_meant_75 : decode cX10_meant 75 = .ok (.getfield 131, 3) := db172.2.2.2.2.2.2.2.2.2.2.1
theorem dX10_meant_78 : decode cX10_meant 78 = .ok (.iload 5, 2) := db172.2.2.2.2.2.2.2.2.2.2.2.1
theorem dX10_meant_80 : decode cX10_meant 80 = .ok (.iaload, 1) := db172.2.2.2.2.2.2.2.2.2.2.2.2.1
theorem dX10_meant_81 : decode cX10_meant 81 = .ok (.iadd, 1) := db172.2.2.2.2.2.2.2.2.2.2.2.2.2.1
theorem dX10_meant_82 : decode cX10_meant 82 = .ok (.istore 4, 2) := db172.2.2.2.2.2.2.2.2.2.2.2.2.2.2
theorem db173 : (decode cX10_mostFrequent 0 = .ok (.iconst (-1), 1)) ∧ (decode cX10_mostFrequent 1 = .ok (.istore_n 3, 1)) ∧ (decode cX10_mostFrequent 2 = .ok (.iconst 0, 1)) ∧ (decode cX10_mostFrequent 3 = .ok (.istore 4, 2)) ∧ (decode cX10_mostFrequent 5 = .ok (.iconst 0, 1)) ∧ (decode cX10_mostFrequent 6 = .ok (.istore 5, 2)) ∧ (decode cX10_mostFrequent 8 = .ok (.iload 5, 2)) ∧ (decode cX10_mostFrequent 10 = .ok (.aload_n 0, 1)) ∧ (decode cX10_mostFrequent 11 = .ok (.getfield 31, 3)) ∧ (decode cX10_mostFrequent 14 = .ok (.getfield 98, 3)) ∧ (decode cX10_mostFrequent 17 = .ok (.getfield 159, 3)) ∧ (decode cX10_mostFrequent 20 = .ok (.if_icmp .ge 32, 3)) ∧ (decode cX10_mostFrequent 52 = .ok (.iload_n 3, 1)) ∧ (decode cX10_mostFrequent 53 = .ok (.ireturn, 1)) ∧ (decode cX10_mostFrequent 23 = .ok (.aload_n 1, 1)) ∧ (decode cX10_mostFrequent 24 = .ok (.iload 5, 2)) ∧ (decode cX10_mostFrequent 26 = .ok (.iload_n 2, 1)) ∧ (decode cX10_mostFrequent 27 = .ok (.invokevirtual 402, 3)) ∧ (decode cX10_mostFrequent 30 = .ok (.istore 6, 2)) ∧ (decode cX10_mostFrequent 32 = .ok (.iload 6, 2)) ∧ (decode cX10_mostFrequent 34 = .ok (.iload 4, 2)) ∧ (decode cX10_mostFrequent 46 = .ok (.iinc 5 1, 3)) ∧ (decode cX10_mostFrequent 49 = .ok (.goto (-41), 3)) ∧ (decode cX10_mostFrequent 36 = .ok (.if_icmp .le 10, 3)) := by decide +kernel
theorem dX10_mostFrequent_0 : decode cX10_mostFrequent 0 = .ok (.iconst (-1), 1) := db173.1
theorem dX10_mostFrequent_1 : decode cX10_mostFrequent 1 = .ok (.istore_n 3, 1) := db173.2.1
theorem dX10_mostFrequent_2 : decode cX10_mostFrequent 2 = .ok (.iconst 0, 1) := db173.2.2.1
theorem dX10_mostFrequent_3 : decode cX10_mostFrequent 3 = .ok (.istore 4, 2) := db173.2.2.2.1
theorem dX10_mostFrequent_5 : decode cX10_mostFrequent 5 = .ok (.iconst 0, 1) := db173.2.2.2.2.1
theorem dX10_mostFrequent_6 : decode cX10_mostFrequent 6 = .ok (.istore 5, 2) := db173.2.2.2.2.2.1
theorem dX10_mostFrequent_8 : decode cX10_mostFrequent 8 = .ok (.iload 5, 2) := db173.2.2.2.2.2.2.1
theorem dX10_mostFrequent_10 : decode cX10_mostFrequent 10 = .ok (.aload_n 0, 1) := db173.2.2.2.2.2.2.2.1
theorem dX10_mostFrequent_11 : decode cX10_mostFrequent 11 = .ok (.getfield 31, 3) := db173.2.2.2.2.2.2.2.2.1
theorem dX10_mostFrequent_14 : decode cX10_mostFrequent 14 = .ok (.getfield 98, 3) := db173.2.2.2.2.2.2.2.2.2.1
theorem dX10_mostFrequent_17 : decode cX10_mostFrequent 17 = .ok (.getfield 159, 3) := db173.2.2.2.2.2.2.2.2.2.2.1
theorem dX10_mostFrequent_20 : decode cX10_mostFrequent 20 = .ok (.if_icmp .ge 32, 3) := db173.2.2.2.2.2.2.2.2.2.2.2.1
theorem dX10_mostFrequent_52 : decode cX10_mostFrequent 52 = .ok (.iload_n 3, 1) := db173.2.2.2.2.2.2.2.2.2.2.2.2.1
theorem dX10_mostFrequent_53 : decode cX10_mostFrequent 53 = .ok (.ireturn, 1) := db173.2.2.2.2.2.2.2.2.2.2.2.2.2.1
theorem dX10_mostFrequent_23 : decode cX10_mostFrequent 23 = .ok (.aload_n 1, 1) := db173.2.2.2.2.2.2.2.2.2.2.2.2.2.2.1
theorem dX10_mostFrequent_24 : decode cX10_mostFrequent 24 = .ok (.iload 5, 2) := db173.2.2.2.2.2.2.2.2.2.2.2.2.2.2.2.1
theorem dX10_mostFrequent_26 : decode cX10_mostFrequent 26 = .ok (.iload_n 2, 1) := db173.2.2.2.2.2.2.2.2.2.2.2.2.2.2.2.2.1
theorem dX10_mostFrequent_27 : decode cX10_mostFrequent 27 = .ok (.invokevirtual 402, 3) := db173.2.2.2.2.2.2.2.2.2.2.2.2.2.2.2.2.2.1
theorem dX10_mostFrequent_30 : decode cX10_mostFrequent 30 = .ok (.istore 6, 2) := db173.2.2.2.2.2.2.2.2.2.2.2.2.2.2.2.2.2.2.1
theorem dX10_mostFrequent_32 : decode cX10_mostFrequent 32 = .ok (.iload 6, 2) := db173.2.2.2.2.2.2.2.2.2.2.2.2.2.2.2.2.2.2.2.1
theorem dX10_mostFrequent_34 : decode cX10_mostFrequent 34 = .ok (.iload 4, 2) := db173.2.2.2.2.2.2.2.2.2.2.2.2.2.2.2.2.2.2.2.2.1
theorem dX10_mostFrequent_46 : decode cX10_mostFrequent 46 = .ok (.iinc 5 1, 3) := db173.2.2.2.2.2.2.2.2.2.2.2.2.2.2.2.2.2.2.2.2.2.1
theorem dX10_mostFrequent_49 : decode cX10_mostFrequent 49 = .ok (.goto (-41), 3) := db173.2.2.2.2.2.2.2.2.2.2.2.2.2.2.2.2.2.2.2.2.2.2.1
theorem dX10_mostFrequent_36 : decode cX10_mostFrequent 36 = .ok (.if_icmp .le 10, 3) := db173.2.2.2.2.2.2.2.2.2.2.2.2.2.2.2.2.2.2.2.2.2.2.2
theorem db174 : (decode cX10_mostFrequent 39 = .ok (.iload 6, 2)) ∧ (decode cX10_mostFrequent 41 = .ok (.istore 4, 2)) ∧ (decode cX10_mostFrequent 43 = .ok (.iload 5, 2)) ∧ (decode cX10_mostFrequent 45 = .ok (.istore_n 3, 1)) := by decide +kernel
theorem dX10_mostFrequent_39 : decode cX10_mostFrequent 39 = .ok (.iload 6, 2) := db174.1
theorem dX10_mostFrequent_41 : decode cX10_mostFrequent 41 = .ok (.istore 4, 2) := db174.2.1
theorem dX10_mostFrequent_43 : decode cX10_mostFrequent 43 = .ok (.iload 5, 2) := db174.2.2.1
theorem dX10_mostFrequent_45 : decode cX10_mostFrequent 45 = .ok (.istore_n 3, 1) := db174.2.2.2
theorem db175 : (decode cX10_one 0 = .ok (.aload_n 0, 1)) ∧ (decode cX10_one 1 = .ok (.iload_n 1, 1)) ∧ (decode cX10_one 2 = .ok (.invokevirtual 120, 3)) ∧ (decode cX10_one 5 = .ok (.ifCond .ne 6, 3)) ∧ (decode cX10_one 11 = .ok (.aload_n 0, 1)) ∧ (decode cX10_one 12 = .ok (.getfield 65, 3)) ∧ (decode cX10_one 15 = .ok (.aload_n 0, 1)) ∧ (decode cX10_one 16 = .ok (.getfield 31, 3)) ∧ (decode cX10_one 19 = .ok (.getfield 98, 3)) ∧ (decode cX10_one 22 = .ok (.iload_n 1, 1)) ∧ (decode cX10_one 23 = .ok (.iload_n 1, 1)) ∧ (decode cX10_one 24 = .ok (.iconst 1, 1)) ∧ (decode cX10_one 25 = .ok (.invokevirtual 253, 3)) ∧ (decode cX10_one 28 = .ok (.pop, 1)) ∧ (decode cX10_one 29 = .ok (.aload_n 0, 1)) ∧ (decode cX10_one 30 = .ok (.getfield 65, 3)) ∧ (decode cX10_one 33 = .ok (.invokevirtual 257, 3)) ∧ (decode cX10_one 36 = .ok (.ireturn, 1)) ∧ (decode cX10_one 8 = .ok (.bipush (-2), 2)) ∧ (decode cX10_one 10 = .ok (.ireturn, 1)) := by decide +kernel
theorem dX10_one_0 : decode cX10_one 0 = .ok (.aload_n 0, 1) := db175.1
theorem dX10_one_1 : decode cX10_one 1 = .ok (.iload_n 1, 1) := db175.2.1
theorem dX10_one_2 : decode cX10_one 2 = .ok (.invokevirtual 120, 3) := db175.2.2.1
theorem dX10_one_5 : decode cX10_one 5 = .ok (.ifCond .ne 6, 3) := db175.2.2.2.1
theorem dX10_one_11 : decode cX10_one 11 = .ok (.aload_n 0, 1) := db175.2.2.2.2.1
theorem dX10_one_12 : decode cX10_one 12 = .ok (.getfield 65, 3) := db175.2.2.2.2.2.1
theorem dX10_one_15 : decode cX10_one 15 = .ok (.aload_n 0, 1) := db175.2.2.2.2.2.2.1
theorem dX10_one_16 : decode cX10_one 16 = .ok (.getfield 31, 3) := db175.2.2.2.2.2.2.2.1
theorem dX10_one_19 : decode cX10_one 19 = .ok (.getfield 98, 3) := db175.2.2.2.2.2.2.2.2.1
theorem dX10_one_22 : decode cX10_one 22 = .ok (.iload_n 1, 1) := db175.2.2.2.2.2.2.2.2.2.1
theorem dX10_one_23 : decode cX10_one 23 = .ok (.iload_n 1, 1) := db175.2.2.2.2.2.2.2.2.2.2.1
theorem dX10_one_24 : decode cX10_one 24 = .ok (.iconst 1, 1) := db175.2.2.2.2.2.2.2.2.2.2.2.1
theorem dX10_one_25 : decode cX10_one 25 = .ok (.invokevirtual 253, 3) := db175.2.2.2.2.2.2.2.2.2.2.2.2.1
theorem dX10_one_28 : decode cX10_one 28 = .ok (.pop, 1) := db175.2.2.2.2.2.2.2.2.2.2.2.2.2.1
theorem dX10_one_29 : decode cX10_one 29 = .ok (.aload_n 0, 1) := db175.2.2.2.2.2.2.2.2.2.2.2.2.2.2.1
theorem dX10_one_30 : decode cX10_one 30 = .ok (.getfield 65, 3) := db175.2.2.2.2.2.2.2.2.2.2.2.2.2.2.2.1
theorem dX10_one_33 : decode cX10_one 33 = .ok (.invokevirtual 257, 3) := db175.2.2.2.2.2.2.2.2.2.2.2.2.2.2.2.2.1
theorem dX10_one_36 : decode cX10_one 36 = .ok (.ireturn, 1) := db175.2.2.2.2.2.2.2.2.2.2.2.2.2.2.2.2.2.1
theorem dX10_one_8 : decode cX10_one 8 = .ok (.bipush (-2), 2) := db175.2.2.2.2.2.2.2.2.2.2.2.2.2.2.2.2.2.2.1
theorem dX10_one_10 : decode cX10_one 10 = .ok (.ireturn, 1) := db175.2.2.2.2.2.2.2.2.2.2.2.2.2.2.2.2.2.2.2
theorem db176 : (decode cX10_pairs 0 = .ok (.aload_n 0, 1)) ∧ (decode cX10_pairs 1 = .ok (.getfield 31, 3)) ∧ (decode cX10_pairs 4 = .ok (.getfield 98, 3)) ∧ (decode cX10_pairs 7 = .ok (.getfield 159, 3)) ∧ (decode cX10_pairs 10 = .ok (.iconst 1, 1)) ∧ (decode cX10_pairs 11 = .ok (.if_icmp .ge 8, 3)) ∧ (decode cX10_pairs 19 = .ok (.aload_n 0, 1)) ∧ (decode cX10_pairs 20 = .ok (.getfield 65, 3)) ∧ (decode cX10_pairs 23 = .ok (.aload_n 0, 1)) ∧ (decode cX10_pairs 24 = .ok (.getfield 31, 3)) ∧ (decode cX10_pairs 27 = .ok (.getfield 98, 3)) ∧ (decode cX10_pairs 30 = .ok (.invokevirtual 263, 3)) ∧ (decode cX10_pairs 33 = .ok (.ireturn, 1)) ∧ (decode cX10_pairs 14 = .ok (.bipush (-2), 2)) ∧ (decode cX10_pairs 16 = .ok (.goto 17, 3)) := by decide +kernel
theorem dX10_pairs_0 : decode cX10_pairs 0 = .ok (.aload_n 0, 1) := db176.1
theorem dX10_pairs_1 : decode cX10_pairs 1 = .ok (.getfield 31, 3) := db176.2.1
theorem dX10_pairs_4 : decode cX10_pairs 4 = .ok (.getfield 98, 3) := db176.2.2.1
theorem dX10_pairs_7 : decode cX10_pairs 7 = .ok (.getfield 159, 3) := db176.2.2.2.1
theorem dX10_pairs_10 : decode cX10_pairs 10 = .ok (.iconst 1, 1) := db176.2.2.2.2.1
theorem dX10_pairs_11 : decode cX10_pairs 11 = .ok (.if_icmp .ge 8, 3) := db176.2.2.2.2.2.1
theorem dX10_pairs_19 : decode cX10_pairs 19 = .ok (.aload_n 0, 1) := db176.2.2.2.2.2.2.1
theorem dX10_pairs_20 : decode cX10_pairs 20 = .ok (.getfield 65, 3) := db176.2.2.2.2.2.2.2.1
theorem dX10_pairs_23 : decode cX10_pairs 23 = .ok (.aload_n 0, 1) := db176.2.2.2.2.2.2.2.2.1
theorem dX10_pairs_24 : decode cX10_pairs 24 = .ok (.getfield 31, 3) := db176.2.2.2.2.2.2.2.2.2.1
theorem dX10_pairs_27 : decode cX10_pairs 27 = .ok (.getfield 98, 3) := db176.2.2.2.2.2.2.2.2.2.2.1
theorem dX10_pairs_30 : decode cX10_pairs 30 = .ok (.invokevirtual 263, 3) := db176.2.2.2.2.2.2.2.2.2.2.2.1
theorem dX10_pairs_33 : decode cX10_pairs 33 = .ok (.ireturn, 1) := db176.2.2.2.2.2.2.2.2.2.2.2.2.1
theorem dX10_pairs_14 : decode cX10_pairs 14 = .ok (.bipush (-2), 2) := db176.2.2.2.2.2.2.2.2.2.2.2.2.2.1
theorem dX10_pairs_16 : decode cX10_pairs 16 = .ok (.goto 17, 3) := db176.2.2.2.2.2.2.2.2.2.2.2.2.2.2
theorem db177 : (decode cX10_parts 0 = .ok (.aload_n 0, 1)) ∧ (decode cX10_parts 1 = .ok (.iload_n 1, 1)) ∧ (decode cX10_parts 2 = .ok (.invokevirtual 145, 3)) ∧ (decode cX10_parts 5 = .ok (.ifCond .eq 14, 3)) ∧ (decode cX10_parts 19 = .ok (.bipush (-2), 2)) ∧ (decode cX10_parts 21 = .ok (.ireturn, 1)) ∧ (decode cX10_parts 8 = .ok (.aload_n 0, 1)) ∧ (decode cX10_parts 9 = .ok (.getfield 48, 3)) ∧ (decode cX10_parts 12 = .ok (.iload_n 1, 1)) ∧ (decode cX10_parts 13 = .ok (.invokevirtual 148, 3)) ∧ (decode cX10_parts 16 = .ok (.goto 5, 3)) := by decide +kernel
theorem dX10_parts_0 : decode cX10_parts 0 = .ok (.aload_n 0, 1) := db177.1
theorem dX10_parts_1 : decode cX10_parts 1 = .ok (.iload_n 1, 1) := db177.2.1
theorem dX10_parts_2 : decode cX10_parts 2 = .ok (.invokevirtual 145, 3) := db177.2.2.1
theorem dX10_parts_5 : decode cX10_parts 5 = .ok (.ifCond .eq 14, 3) := db177.2.2.2.1
theorem dX10_parts_19 : decode cX10_parts 19 = .ok (.bipush (-2), 2) := db177.2.2.2.2.1
theorem dX10_parts_21 : decode cX10_parts 21 = .ok (.ireturn, 1) := db177.2.2.2.2.2.1
theorem dX10_parts_8 : decode cX10_parts 8 = .ok (.aload_n 0, 1) := db177.2.2.2.2.2.2.1
theorem dX10_parts_9 : decode cX10_parts 9 = .ok (.getfield 48, 3) := db177.2.2.2.2.2.2.2.1
theorem dX10_parts_12 : decode cX10_parts 12 = .ok (.iload_n 1, 1) := db177.2.2.2.2.2.2.2.2.1
theorem dX10_parts_13 : decode cX10_parts 13 = .ok (.invokevirtual 148, 3) := db177.2.2.2.2.2.2.2.2.2.1
theorem dX10_parts_16 : decode cX10_parts 16 = .ok (.goto 5, 3) := db177.2.2.2.2.2.2.2.2.2.2
theorem db178 : (decode cX10_paste 0 = .ok (.aload_n 0, 1)) ∧ (decode cX10_paste 1 = .ok (.iload_n 1, 1)) ∧ (decode cX10_paste 2 = .ok (.invokevirtual 348, 3)) ∧ (decode cX10_paste 5 = .ok (.ifCond .eq 11, 3)) ∧ (decode cX10_paste 16 = .ok (.bipush (-2), 2)) ∧ (decode cX10_paste 18 = .ok (.ireturn, 1)) ∧ (decode cX10_paste 8 = .ok (.aload_n 0, 1)) ∧ (decode cX10_paste 9 = .ok (.iload_n 3, 1)) ∧ (decode cX10_paste 10 = .ok (.invokevirtual 348, 3)) ∧ (decode cX10_paste 13 = .ok (.ifCond .ne 6, 3)) ∧ (decode cX10_paste 19 = .ok (.aload_n 0, 1)) ∧ (decode cX10_paste 20 = .ok (.getfield 41, 3)) ∧ (decode cX10_paste 23 = .ok (.iload_n 1, 1)) ∧ (decode cX10_paste 24 = .ok (.aaload, 1)) ∧ (decode cX10_paste 25 = .ok (.astore 6, 2)) ∧ (decode cX10_paste 27 = .ok (.aload_n 0, 1)) ∧ (decode cX10_paste 28 = .ok (.getfield 41, 3)) ∧ (decode cX10_paste 31 = .ok (.iload_n 3, 1)) ∧ (decode cX10_paste 32 = .ok (.aaload, 1)) ∧ (decode cX10_paste 33 = .ok (.astore 7, 2)) ∧ (decode cX10_paste 35 = .ok (.aload 6, 2)) ∧ (decode cX10_paste 37 = .ok (.getfield 354, 3)) ∧ (decode cX10_paste 40 = .ok (.ifCond .eq 11, 3)) ∧ (decode cX10_paste 51 = .ok (.bipush (-6), 2)) := by decide +kernel
theorem dX10_paste_0 : decode cX10_paste 0 = .ok (.aload_n 0, 1) := db178.1
theorem dX10_paste_1 : decode cX10_paste 1 = .ok (.iload_n 1, 1) := db178.2.1
theorem dX10_paste_2 : decode cX10_paste 2 = .ok (.invokevirtual 348, 3) := db178.2.2.1
theorem dX10_paste_5 : decode cX10_paste 5 = .ok (.ifCond .eq 11, 3) := db178.2.2.2.1
theorem dX10_paste_16 : decode cX10_paste 16 = .ok (.bipush (-2), 2) := db178.2.2.2.2.1
theorem dX10_paste_18 : decode cX10_paste 18 = .ok (.ireturn, 1) := db178.2.2.2.2.2.1
theorem dX10_paste_8 : decode cX10_paste 8 = .ok (.aload_n 0, 1) := db178.2.2.2.2.2.2.1
theorem dX10_paste_9 : decode cX10_paste 9 = .ok (.iload_n 3, 1) := db178.2.2.2.2.2.2.2.1
theorem dX10_paste_10 : decode cX10_paste 10 = .ok (.invokevirtual 348, 3) := db178.2.2.2.2.2.2.2.2.1
theorem dX10_paste_13 : decode cX10_paste 13 = .ok (.ifCond .ne 6, 3) := db178.2.2.2.2.2.2.2.2.2.1
theorem dX10_paste_19 : decode cX10_paste 19 = .ok (.aload_n 0, 1) := db178.2.2.2.2.2.2.2.2.2.2.1
theorem dX10_paste_20 : decode cX10_paste 20 = .ok (.getfield 41, 3) := db178.2.2.2.2.2.2.2.2.2.2.2.1
theorem dX10_paste_23 : decode cX10_paste 23 = .ok (.iload_n 1, 1) := db178.2.2.2.2.2.2.2.2.2.2.2.2.1
theorem dX10_paste_24 : decode cX10_paste 24 = .ok (.aaload, 1) := db178.2.2.2.2.2.2.2.2.2.2.2.2.2.1
theorem dX10_paste_25 : decode cX10_paste 25 = .ok (.astore 6, 2) := db178.2.2.2.2.2.2.2.2.2.2.2.2.2.2.1
theorem dX10_paste_27 : decode cX10_paste 27 = .ok (.aload_n 0, 1) := db178.2.2.2.2.2.2.2.2.2.2.2.2.2.2.2.1
theorem dX10_paste_28 : decode cX10_paste 28 = .ok (.getfield 41, 3) := db178.2.2.2.2.2.2.2.2.2.2.2.2.2.2.2.2.1
theorem dX10_paste_31 : decode cX10_paste 31 = .ok (.iload_n 3, 1) := db178.2.2.2.2.2.2.2.2.2.2.2.2.2.2.2.2.2.1
theorem dX10_paste_32 : decode cX10_paste 32 = .ok (.aaload, 1) := db178.2.2.2.2.2.2.2.2.2.2.2.2.2.2.2.2.2.2.1
theorem dX10_paste_33 : decode cX10_paste 33 = .ok (.astore 7, 2) := db178.2.2.2.2.2.2.2.2.2.2.2.2.2.2.2.2.2.2.2.1
theorem dX10_paste_35 : decode cX10_paste 35 = .ok (.aload 6, 2) := db178.2.2.2.2.2.2.2.2.2.2.2.2.2.2.2.2.2.2.2.2.1
theorem dX10_paste_37 : decode cX10_paste 37 = .ok (.getfield 354, 3) := db178.2.2.2.2.2.2.2.2.2.2.2.2.2.2.2.2.2.2.2.2.2.1
theorem dX10_paste_40 : decode cX10_paste 40 = .ok (.ifCond .eq 11, 3) := db178.2.2.2.2.2.2.2.2.2.2.2.2.2.2.2.2.2.2.2.2.2.2.1
theorem dX10_paste_51 : decode cX10_paste 51 = .ok (.bipush (-6), 2) := db178.2.2.2.2.2.2.2.2.2.2.2.2.2.2.2.2.2.2.2.2.2.2.2
theorem db179 : (decode cX10_paste 53 = .ok (.ireturn, 1)) ∧ (decode cX10_paste 43 = .ok (.aload 7, 2)) ∧ (decode cX10_paste 45 = .ok (.getfield 354, 3)) ∧ (decode cX10_paste 48 = .ok (.ifCond .ne 6, 3)) ∧ (decode cX10_paste 54 = .ok (.aload 6, 2)) ∧ (decode cX10_paste 56 = .ok (.getfield 365, 3)) ∧ (decode cX10_paste 59 = .ok (.aload 7, 2)) ∧ (decode cX10_paste 61 = .ok (.getfield 365, 3)) ∧ (decode cX10_paste 64 = .ok (.if_icmp .eq 6, 3)) ∧ (decode cX10_paste 70 = .ok (.aload 6, 2)) ∧ (decode cX10_paste 72 = .ok (.iload_n 2, 1)) ∧ (decode cX10_paste 73 = .ok (.iload 5, 2)) ∧ (decode cX10_paste 75 = .ok (.invokevirtual 368, 3)) ∧ (decode cX10_paste 78 = .ok (.ifCond .eq 15, 3)) ∧ (decode cX10_paste 93 = .ok (.bipush (-7), 2)) ∧ (decode cX10_paste 95 = .ok (.ireturn, 1)) ∧ (decode cX10_paste 81 = .ok (.aload 7, 2)) ∧ (decode cX10_paste 83 = .ok (.iload 4, 2)) ∧ (decode cX10_paste 85 = .ok (.iload 5, 2)) ∧ (decode cX10_paste 87 = .ok (.invokevirtual 368, 3)) ∧ (decode cX10_paste 90 = .ok (.ifCond .ne 6, 3)) ∧ (decode cX10_paste 96 = .ok (.aload 6, 2)) ∧ (decode cX10_paste 98 = .ok (.getfield 357, 3)) ∧ (decode cX10_paste 101 = .ok (.iload_n 2, 1)) := by decide +kernel
theorem dX10_paste_53 : decode cX10_paste 53 = .ok (.ireturn, 1) := db179.1
theorem dX10_paste_43 : decode cX10_paste 43 = .ok (.aload 7, 2) := db179.2.1
theorem dX10_paste_45 : decode cX10_paste 45 = .ok (.getfield 354, 3) := db179.2.2.1
theorem dX10_paste_48 : decode cX10_paste 48 = .ok (.ifCond .ne 6, 3) := db179.2.2.2.1
theorem dX10_paste_54 : decode cX10_paste 54 = .ok (.aload 6, 2) := db179.2.2.2.2.1
theorem dX10_paste_56 : decode cX10_paste 56 = .ok (.getfield 365, 3) := db179.2.2.2.2.2.1
theorem dX10_paste_59 : decode cX10_paste 59 = .ok (.aload 7, 2) := db179.2.2.2.2.2.2.1
theorem dX10_paste_61 : decode cX10_paste 61 = .ok (.getfield 365, 3) := db179.2.2.2.2.2.2.2.1
theorem dX10_paste_64 : decode cX10_paste 64 = .ok (.if_icmp .eq 6, 3) := db179.2.2.2.2.2.2.2.2.1
theorem dX10_paste_70 : decode cX10_paste 70 = .ok (.aload 6, 2) := db179.2.2.2.2.2.2.2.2.2.1
theorem dX10_paste_72 : decode cX10_paste 72 = .ok (.iload_n 2, 1) := db179.2.2.2.2.2.2.2.2.2.2.1
theorem dX10_paste_73 : decode cX10_paste 73 = .ok (.iload 5, 2) := db179.2.2.2.2.2.2.2.2.2.2.2.1
theorem dX10_paste_75 : decode cX10_paste 75 = .ok (.invokevirtual 368, 3) := db179.2.2.2.2.2.2.2.2.2.2.2.2.1
theorem dX10_paste_78 : decode cX10_paste 78 = .ok (.ifCond .eq 15, 3) := db179.2.2.2.2.2.2.2.2.2.2.2.2.2.1
theorem dX10_paste_93 : decode cX10_paste 93 = .ok (.bipush (-7), 2) := db179.2.2.2.2.2.2.2.2.2.2.2.2.2.2.1
theorem dX10_paste_95 : decode cX10_paste 95 = .ok (.ireturn, 1) := db179.2.2.2.2.2.2.2.2.2.2.2.2.2.2.2.1
theorem dX10_paste_81 : decode cX10_paste 81 = .ok (.aload 7, 2) := db179.2.2.2.2.2.2.2.2.2.2.2.2.2.2.2.2.1
theorem dX10_paste_83 : decode cX10_paste 83 = .ok (.iload 4, 2) := db179.2.2.2.2.2.2.2.2.2.2.2.2.2.2.2.2.2.1
theorem dX10_paste_85 : decode cX10_paste 85 = .ok (.iload 5, 2) := db179.2.2.2.2.2.2.2.2.2.2.2.2.2.2.2.2.2.2.1
theorem dX10_paste_87 : decode cX10_paste 87 = .ok (.invokevirtual 368, 3) := db179.2.2.2.2.2.2.2.2.2.2.2.2.2.2.2.2.2.2.2.1
theorem dX10_paste_90 : decode cX10_paste 90 = .ok (.ifCond .ne 6, 3) := db179.2.2.2.2.2.2.2.2.2.2.2.2.2.2.2.2.2.2.2.2.1
theorem dX10_paste_96 : decode cX10_paste 96 = .ok (.aload 6, 2) := db179.2.2.2.2.2.2.2.2.2.2.2.2.2.2.2.2.2.2.2.2.2.1
theorem dX10_paste_98 : decode cX10_paste 98 = .ok (.getfield 357, 3) := db179.2.2.2.2.2.2.2.2.2.2.2.2.2.2.2.2.2.2.2.2.2.2.1
theorem dX10_paste_101 : decode cX10_paste 101 = .ok (.iload_n 2, 1) := db179.2.2.2.2.2.2.2.2.2.2.2.2.2.2.2.2.2.2.2.2.2.2.2
theorem db180 : (decode cX10_paste 102 = .ok (.aload 7, 2)) ∧ (decode cX10_paste 104 = .ok (.getfield 357, 3)) ∧ (decode cX10_paste 107 = .ok (.iload 4, 2)) ∧ (decode cX10_paste 109 = .ok (.iload 5, 2)) ∧ (decode cX10_paste 111 = .ok (.invokestatic 371, 3)) ∧ (decode cX10_paste 114 = .ok (.iconst 0, 1)) ∧ (decode cX10_paste 115 = .ok (.ireturn, 1)) ∧ (decode cX10_paste 67 = .ok (.bipush (-8), 2)) ∧ (decode cX10_paste 69 = .ok (.ireturn, 1)) := by decide +kernel
theorem dX10_paste_102 : decode cX10_paste 102 = .ok (.aload 7, 2) := db180.1
theorem dX10_paste_104 : decode cX10_paste 104 = .ok (.getfield 357, 3) := db180.2.1
theorem dX10_paste_107 : decode cX10_paste 107 = .ok (.iload 4, 2) := db180.2.2.1
theorem dX10_paste_109 : decode cX10_paste 109 = .ok (.iload 5, 2) := db180.2.2.2.1
theorem dX10_paste_111 : decode cX10_paste 111 = .ok (.invokestatic 371, 3) := db180.2.2.2.2.1
theorem dX10_paste_114 : decode cX10_paste 114 = .ok (.iconst 0, 1) := db180.2.2.2.2.2.1
theorem dX10_paste_115 : decode cX10_paste 115 = .ok (.ireturn, 1) := db180.2.2.2.2.2.2.1
theorem dX10_paste_67 : decode cX10_paste 67 = .ok (.bipush (-8), 2) := db180.2.2.2.2.2.2.2.1
theorem dX10_paste_69 : decode cX10_paste 69 = .ok (.ireturn, 1) := db180.2.2.2.2.2.2.2.2
theorem db181 : (decode cX10_penny 0 = .ok (.aload_n 0, 1)) ∧ (decode cX10_penny 1 = .ok (.iload_n 1, 1)) ∧ (decode cX10_penny 2 = .ok (.iconst 1, 1)) ∧ (decode cX10_penny 3 = .ok (.invokevirtual 186, 3)) ∧ (decode cX10_penny 6 = .ok (.istore_n 2, 1)) ∧ (decode cX10_penny 7 = .ok (.iload_n 2, 1)) ∧ (decode cX10_penny 8 = .ok (.ifCond .eq 5, 3)) ∧ (decode cX10_penny 13 = .ok (.aload_n 0, 1)) ∧ (decode cX10_penny 14 = .ok (.getfield 41, 3)) ∧ (decode cX10_penny 17 = .ok (.iload_n 1, 1)) ∧ (decode cX10_penny 18 = .ok (.aaload, 1)) ∧ (decode cX10_penny 19 = .ok (.astore_n 3, 1)) ∧ (decode cX10_penny 20 = .ok (.aload_n 3, 1)) ∧ (decode cX10_penny 21 = .ok (.invokevirtual 212, 3)) ∧ (decode cX10_penny 24 = .ok (.istore 4, 2)) ∧ (decode cX10_penny 26 = .ok (.iconst 0, 1)) ∧ (decode cX10_penny 27 = .ok (.istore 5, 2)) ∧ (decode cX10_penny 29 = .ok (.iconst 0, 1)) ∧ (decode cX10_penny 30 = .ok (.istore 6, 2)) ∧ (decode cX10_penny 32 = .ok (.iconst 0, 1)) ∧ (decode cX10_penny 33 = .ok (.istore 7, 2)) ∧ (decode cX10_penny 35 = .ok (.iload 7, 2)) ∧ (decode cX10_penny 37 = .ok (.bipush 9, 2)) ∧ (decode cX10_penny 39 = .ok (.if_icmp .gt 52, 3)) := by decide +kernel
theorem dX10_penny_0 : decode cX10_penny 0 = .ok (.aload_n 0, 1) := db181.1
theorem dX10_penny_1 : decode cX10_penny 1 = .ok (.iload_n 1, 1) := db181.2.1
theorem dX10_penny_2 : decode cX10_penny 2 = .ok (.iconst 1, 1) := db181.2.2.1
theorem dX10_penny_3 : decode cX10_penny 3 = .ok (.invokevirtual 186, 3) := db181.2.2.2.1
theorem dX10_penny_6 : decode cX10_penny 6 = .ok (.istore_n 2, 1) := db181.2.2.2.2.1
theorem dX10_penny_7 : decode cX10_penny 7 = .ok (.iload_n 2, 1) := db181.2.2.2.2.2.1
theorem dX10_penny_8 : decode cX10_penny 8 = .ok (.ifCond .eq 5, 3) := db181.2.2.2.2.2.2.1
theorem dX10_penny_13 : decode cX10_penny 13 = .ok (.aload_n 0, 1) := db181.2.2.2.2.2.2.2.1
theorem dX10_penny_14 : decode cX10_penny 14 = .ok (.getfield 41, 3) := db181.2.2.2.2.2.2.2.2.1
theorem dX10_penny_17 : decode cX10_penny 17 = .ok (.iload_n 1, 1) := db181.2.2.2.2.2.2.2.2.2.1
theorem dX10_penny_18 : decode cX10_penny 18 = .ok (.aaload, 1) := db181.2.2.2.2.2.2.2.2.2.2.1
theorem dX10_penny_19 : decode cX10_penny 19 = .ok (.astore_n 3, 1) := db181.2.2.2.2.2.2.2.2.2.2.2.1
theorem dX10_penny_20 : decode cX10_penny 20 = .ok (.aload_n 3, 1) := db181.2.2.2.2.2.2.2.2.2.2.2.2.1
theorem dX10_penny_21 : decode cX10_penny 21 = .ok (.invokevirtual 212, 3) := db181.2.2.2.2.2.2.2.2.2.2.2.2.2.1
theorem dX10_penny_24 : decode cX10_penny 24 = .ok (.istore 4, 2) := db181.2.2.2.2.2.2.2.2.2.2.2.2.2.2.1
theorem dX10_penny_26 : decode cX10_penny 26 = .ok (.iconst 0, 1) := db181.2.2.2.2.2.2.2.2.2.2.2.2.2.2.2.1
theorem dX10_penny_27 : decode cX10_penny 27 = .ok (.istore 5, 2) := db181.2.2.2.2.2.2.2.2.2.2.2.2.2.2.2.2.1
theorem dX10_penny_29 : decode cX10_penny 29 = .ok (.iconst 0, 1) := db181.2.2.2.2.2.2.2.2.2.2.2.2.2.2.2.2.2.1
theorem dX10_penny_30 : decode cX10_penny 30 = .ok (.istore 6, 2) := db181.2.2.2.2.2.2.2.2.2.2.2.2.2.2.2.2.2.2.1
theorem dX10_penny_32 : decode cX10_penny 32 = .ok (.iconst 0, 1) := db181.2.2.2.2.2.2.2.2.2.2.2.2.2.2.2.2.2.2.2.1
theorem dX10_penny_33 : decode cX10_penny 33 = .ok (.istore 7, 2) := db181.2.2.2.2.2.2.2.2.2.2.2.2.2.2.2.2.2.2.2.2.1
theorem dX10_penny_35 : decode cX10_penny 35 = .ok (.iload 7, 2) := db181.2.2.2.2.2.2.2.2.2.2.2.2.2.2.2.2.2.2.2.2.2.1
theorem dX10_penny_37 : decode cX10_penny 37 = .ok (.bipush 9, 2) := db181.2.2.2.2.2.2.2.2.2.2.2.2.2.2.2.2.2.2.2.2.2.2.1
theorem dX10_penny_39 : decode cX10_penny 39 = .ok (.if_icmp .gt 52, 3) := db181.2.2.2.2.2.2.2.2.2.2.2.2.2.2.2.2.2.2.2.2.2.2.2
theorem db182 : (decode cX10_penny 91 = .ok (.iload 5, 2)) ∧ (decode cX10_penny 93 = .ok (.ireturn, 1)) ∧ (decode cX10_penny 42 = .ok (.aload_n 0, 1)) ∧ (decode cX10_penny 43 = .ok (.aload_n 0, 1)) ∧ (decode cX10_penny 44 = .ok (.aload_n 3, 1)) ∧ (decode cX10_penny 45 = .ok (.iload 7, 2)) ∧ (decode cX10_penny 47 = .ok (.invokevirtual 190, 3)) ∧ (decode cX10_penny 50 = .ok (.aload_n 3, 1)) ∧ (decode cX10_penny 51 = .ok (.getfield 194, 3)) ∧ (decode cX10_penny 54 = .ok (.invokevirtual 202, 3)) ∧ (decode cX10_penny 57 = .ok (.iload 7, 2)) ∧ (decode cX10_penny 59 = .ok (.iload 4, 2)) ∧ (decode cX10_penny 61 = .ok (.imul, 1)) ∧ (decode cX10_penny 62 = .ok (.isub, 1)) ∧ (decode cX10_penny 63 = .ok (.istore 8, 2)) ∧ (decode cX10_penny 65 = .ok (.iload 7, 2)) ∧ (decode cX10_penny 85 = .ok (.iinc 7 1, 3)) ∧ (decode cX10_penny 88 = .ok (.goto (-53), 3)) ∧ (decode cX10_penny 77 = .ok (.iload 8, 2)) ∧ (decode cX10_penny 79 = .ok (.istore 6, 2)) ∧ (decode cX10_penny 81 = .ok (.iload 7, 2)) ∧ (decode cX10_penny 83 = .ok (.istore 5, 2)) ∧ (decode cX10_penny 67 = .ok (.ifCond .eq 10, 3)) ∧ (decode cX10_penny 70 = .ok (.iload 8, 2)) := by decide +kernel
theorem dX10_penny_91 : decode cX10_penny 91 = .ok (.iload 5, 2) := db182.1
theorem dX10_penny_93 : decode cX10_penny 93 = .ok (.ireturn, 1) := db182.2.1
theorem dX10_penny_42 : decode cX10_penny 42 = .ok (.aload_n 0, 1) := db182.2.2.1
theorem dX10_penny_43 : decode cX10_penny 43 = .ok (.aload_n 0, 1) := db182.2.2.2.1
theorem dX10_penny_44 : decode cX10_penny 44 = .ok (.aload_n 3, 1) := db182.2.2.2.2.1
theorem dX10_penny_45 : decode cX10_penny 45 = .ok (.iload 7, 2) := db182.2.2.2.2.2.1
theorem dX10_penny_47 : decode cX10_penny 47 = .ok (.invokevirtual 190, 3) := db182.2.2.2.2.2.2.1
theorem dX10_penny_50 : decode cX10_penny 50 = .ok (.aload_n 3, 1) := db182.2.2.2.2.2.2.2.1
theorem dX10_penny_51 : decode cX10_penny 51 = .ok (.getfield 194, 3) := db182.2.2.2.2.2.2.2.2.1
theorem dX10_penny_54 : decode cX10_penny 54 = .ok (.invokevirtual 202, 3) := db182.2.2.2.2.2.2.2.2.2.1
theorem dX10_penny_57 : decode cX10_penny 57 = .ok (.iload 7, 2) := db182.2.2.2.2.2.2.2.2.2.2.1
theorem dX10_penny_59 : decode cX10_penny 59 = .ok (.iload 4, 2) := db182.2.2.2.2.2.2.2.2.2.2.2.1
theorem dX10_penny_61 : decode cX10_penny 61 = .ok (.imul, 1) := db182.2.2.2.2.2.2.2.2.2.2.2.2.1
theorem dX10_penny_62 : decode cX10_penny 62 = .ok (.isub, 1) := db182.2.2.2.2.2.2.2.2.2.2.2.2.2.1
theorem dX10_penny_63 : decode cX10_penny 63 = .ok (.istore 8, 2) := db182.2.2.2.2.2.2.2.2.2.2.2.2.2.2.1
theorem dX10_penny_65 : decode cX10_penny 65 = .ok (.iload 7, 2) := db182.2.2.2.2.2.2.2.2.2.2.2.2.2.2.2.1
theorem dX10_penny_85 : decode cX10_penny 85 = .ok (.iinc 7 1, 3) := db182.2.2.2.2.2.2.2.2.2.2.2.2.2.2.2.2.1
theorem dX10_penny_88 : decode cX10_penny 88 = .ok (.goto (-53), 3) := db182.2.2.2.2.2.2.2.2.2.2.2.2.2.2.2.2.2.1
theorem dX10_penny_77 : decode cX10_penny 77 = .ok (.iload 8, 2) := db182.2.2.2.2.2.2.2.2.2.2.2.2.2.2.2.2.2.2.1
theorem dX10_penny_79 : decode cX10_penny 79 = .ok (.istore 6, 2) := db182.2.2.2.2.2.2.2.2.2.2.2.2.2.2.2.2.2.2.2.1
theorem dX10_penny_81 : decode cX10_penny 81 = .ok (.iload 7, 2) := db182.2.2.2.2.2.2.2.2.2.2.2.2.2.2.2.2.2.2.2.2.1
theorem dX10_penny_83 : decode cX10_penny 83 = .ok (.istore 5, 2) := db182.2.2.2.2.2.2.2.2.2.2.2.2.2.2.2.2.2.2.2.2.2.1
theorem dX10_penny_67 : decode cX10_penny 67 = .ok (.ifCond .eq 10, 3) := db182.2.2.2.2.2.2.2.2.2.2.2.2.2.2.2.2.2.2.2.2.2.2.1
theorem dX10_penny_70 : decode cX10_penny 70 = .ok (.iload 8, 2) := db182.2.2.2.2.2.2.2.2.2.2.2.2.2.2.2.2.2.2.2.2.2.2.2
theorem db183 : (decode cX10_penny 72 = .ok (.iload 6, 2)) ∧ (decode cX10_penny 74 = .ok (.if_icmp .le 11, 3)) ∧ (decode cX10_penny 11 = .ok (.iload_n 2, 1)) ∧ (decode cX10_penny 12 = .ok (.ireturn, 1)) := by decide +kernel
theorem dX10_penny_72 : decode cX10_penny 72 = .ok (.iload 6, 2) := db183.1
theorem dX10_penny_74 : decode cX10_penny 74 = .ok (.if_icmp .le 11, 3) := db183.2.1
theorem dX10_penny_11 : decode cX10_penny 11 = .ok (.iload_n 2, 1) := db183.2.2.1
theorem dX10_penny_12 : decode cX10_penny 12 = .ok (.ireturn, 1) := db183.2.2.2
theorem db184 : (decode cX10_peopleOf 0 = .ok (.iconst 0, 1)) ∧ (decode cX10_peopleOf 1 = .ok (.istore_n 2, 1)) ∧ (decode cX10_peopleOf 2 = .ok (.iconst 0, 1)) ∧ (decode cX10_peopleOf 3 = .ok (.istore_n 3, 1)) ∧ (decode cX10_peopleOf 4 = .ok (.iload_n 3, 1)) ∧ (decode cX10_peopleOf 5 = .ok (.aload_n 0, 1)) ∧ (decode cX10_peopleOf 6 = .ok (.getfield 31, 3)) ∧ (decode cX10_peopleOf 9 = .ok (.getfield 98, 3)) ∧ (decode cX10_peopleOf 12 = .ok (.getfield 159, 3)) ∧ (decode cX10_peopleOf 15 = .ok (.if_icmp .ge 32, 3)) ∧ (decode cX10_peopleOf 47 = .ok (.iload_n 2, 1)) ∧ (decode cX10_peopleOf 48 = .ok (.ireturn, 1)) ∧ (decode cX10_peopleOf 18 = .ok (.iload_n 1, 1)) ∧ (decode cX10_peopleOf 19 = .ok (.iload_n 3, 1)) ∧ (decode cX10_peopleOf 20 = .ok (.ishr, 1)) ∧ (decode cX10_peopleOf 21 = .ok (.iconst 1, 1)) ∧ (decode cX10_peopleOf 22 = .ok (.iand, 1)) ∧ (decode cX10_peopleOf 41 = .ok (.iinc 3 1, 3)) ∧ (decode cX10_peopleOf 44 = .ok (.goto (-40), 3)) ∧ (decode cX10_peopleOf 23 = .ok (.ifCond .eq 18, 3)) ∧ (decode cX10_peopleOf 26 = .ok (.iload_n 2, 1)) ∧ (decode cX10_peopleOf 27 = .ok (.aload_n 0, 1)) ∧ (decode cX10_peopleOf 28 = .ok (.getfield 31, 3)) ∧ (decode cX10_peopleOf 31 = .ok (.getfield 98, 3)) := by decide +kernel
theorem dX10_peopleOf_0 : decode cX10_peopleOf 0 = .ok (.iconst 0, 1) := db184.1
theorem dX10_peopleOf_1 : decode cX10_peopleOf 1 = .ok (.istore_n 2, 1) := db184.2.1
theorem dX10_peopleOf_2 : decode cX10_peopleOf 2 = .ok (.iconst 0, 1) := db184.2.2.1
theorem dX10_peopleOf_3 : decode cX10_peopleOf 3 = .ok (.istore_n 3, 1) := db184.2.2.2.1
theorem dX10_peopleOf_4 : decode cX10_peopleOf 4 = .ok (.iload_n 3, 1) := db184.2.2.2.2.1
theorem dX10_peopleOf_5 : decode cX10_peopleOf 5 = .ok (.aload_n 0, 1) := db184.2.2.2.2.2.1
theorem dX10_peopleOf_6 : decode cX10_peopleOf 6 = .ok (.getfield 31, 3) := db184.2.2.2.2.2.2.1
theorem dX10_peopleOf_9 : decode cX10_peopleOf 9 = .ok (.getfield 98, 3) := db184.2.2.2.2.2.2.2.1
theorem dX10_peopleOf_12 : decode cX10_peopleOf 12 = .ok (.getfield 159, 3) := db184.2.2.2.2.2.2.2.2.1
theorem dX10_peopleOf_15 : decode cX10_peopleOf 15 = .ok (.if_icmp .ge 32, 3) := db184.2.2.2.2.2.2.2.2.2.1
theorem dX10_peopleOf_47 : decode cX10_peopleOf 47 = .ok (.iload_n 2, 1) := db184.2.2.2.2.2.2.2.2.2.2.1
theorem dX10_peopleOf_48 : decode cX10_peopleOf 48 = .ok (.ireturn, 1) := db184.2.2.2.2.2.2.2.2.2.2.2.1
theorem dX10_peopleOf_18 : decode cX10_peopleOf 18 = .ok (.iload_n 1, 1) := db184.2.2.2.2.2.2.2.2.2.2.2.2.1
theorem dX10_peopleOf_19 : decode cX10_peopleOf 19 = .ok (.iload_n 3, 1) := db184.2.2.2.2.2.2.2.2.2.2.2.2.2.1
theorem dX10_peopleOf_20 : decode cX10_peopleOf 20 = .ok (.ishr, 1) := db184.2.2.2.2.2.2.2.2.2.2.2.2.2.2.1
theorem dX10_peopleOf_21 : decode cX10_peopleOf 21 = .ok (.iconst 1, 1) := db184.2.2.2.2.2.2.2.2.2.2.2.2.2.2.2.1
theorem dX10_peopleOf_22 : decode cX10_peopleOf 22 = .ok (.iand, 1) := db184.2.2.2.2.2.2.2.2.2.2.2.2.2.2.2.2.1
theorem dX10_peopleOf_41 : decode cX10_peopleOf 41 = .ok (.iinc 3 1, 3) := db184.2.2.2.2.2.2.2.2.2.2.2.2.2.2.2.2.2.1
theorem dX10_peopleOf_44 : decode cX10_peopleOf 44 = .ok (.goto (-40), 3) := db184.2.2.2.2.2.2.2.2.2.2.2.2.2.2.2.2.2.2.1
theorem dX10_peopleOf_23 : decode cX10_peopleOf 23 = .ok (.ifCond .eq 18, 3) := db184.2.2.2.2.2.2.2.2.2.2.2.2.2.2.2.2.2.2.2.1
theorem dX10_peopleOf_26 : decode cX10_peopleOf 26 = .ok (.iload_n 2, 1) := db184.2.2.2.2.2.2.2.2.2.2.2.2.2.2.2.2.2.2.2.2.1
theorem dX10_peopleOf_27 : decode cX10_peopleOf 27 = .ok (.aload_n 0, 1) := db184.2.2.2.2.2.2.2.2.2.2.2.2.2.2.2.2.2.2.2.2.2.1
theorem dX10_peopleOf_28 : decode cX10_peopleOf 28 = .ok (.getfield 31, 3) := db184.2.2.2.2.2.2.2.2.2.2.2.2.2.2.2.2.2.2.2.2.2.2.1
theorem dX10_peopleOf_31 : decode cX10_peopleOf 31 = .ok (.getfield 98, 3) := db184.2.2.2.2.2.2.2.2.2.2.2.2.2.2.2.2.2.2.2.2.2.2.2
theorem db185 : (decode cX10_peopleOf 34 = .ok (.getfield 198, 3)) ∧ (decode cX10_peopleOf 37 = .ok (.iload_n 3, 1)) ∧ (decode cX10_peopleOf 38 = .ok (.iaload, 1)) ∧ (decode cX10_peopleOf 39 = .ok (.iadd, 1)) ∧ (decode cX10_peopleOf 40 = .ok (.istore_n 2, 1)) := by decide +kernel
theorem dX10_peopleOf_34 : decode cX10_peopleOf 34 = .ok (.getfield 198, 3) := db185.1
theorem dX10_peopleOf_37 : decode cX10_peopleOf 37 = .ok (.iload_n 3, 1) := db185.2.1
theorem dX10_peopleOf_38 : decode cX10_peopleOf 38 = .ok (.iaload, 1) := db185.2.2.1
theorem dX10_peopleOf_39 : decode cX10_peopleOf 39 = .ok (.iadd, 1) := db185.2.2.2.1
theorem dX10_peopleOf_40 : decode cX10_peopleOf 40 = .ok (.istore_n 2, 1) := db185.2.2.2.2
theorem db186 : (decode cX10_period 0 = .ok (.aload_n 0, 1)) ∧ (decode cX10_period 1 = .ok (.iload_n 1, 1)) ∧ (decode cX10_period 2 = .ok (.iconst 1, 1)) ∧ (decode cX10_period 3 = .ok (.invokevirtual 299, 3)) ∧ (decode cX10_period 6 = .ok (.istore_n 2, 1)) ∧ (decode cX10_period 7 = .ok (.iload_n 2, 1)) ∧ (decode cX10_period 8 = .ok (.ifCond .eq 5, 3)) ∧ (decode cX10_period 13 = .ok (.aload_n 0, 1)) ∧ (decode cX10_period 14 = .ok (.getfield 41, 3)) ∧ (decode cX10_period 17 = .ok (.iload_n 1, 1)) ∧ (decode cX10_period 18 = .ok (.aaload, 1)) ∧ (decode cX10_period 19 = .ok (.astore_n 3, 1)) ∧ (decode cX10_period 20 = .ok (.iconst 1, 1)) ∧ (decode cX10_period 21 = .ok (.istore 4, 2)) ∧ (decode cX10_period 23 = .ok (.iload 4, 2)) ∧ (decode cX10_period 25 = .ok (.aload_n 3, 1)) ∧ (decode cX10_period 26 = .ok (.getfield 194, 3)) ∧ (decode cX10_period 29 = .ok (.if_icmp .gt 21, 3)) ∧ (decode cX10_period 50 = .ok (.iconst (-1), 1)) ∧ (decode cX10_period 51 = .ok (.ireturn, 1)) ∧ (decode cX10_period 32 = .ok (.aload_n 3, 1)) ∧ (decode cX10_period 33 = .ok (.iload 4, 2)) ∧ (decode cX10_period 35 = .ok (.invokevirtual 305, 3)) ∧ (decode cX10_period 38 = .ok (.ifCond .eq 6, 3)) := by decide +kernel
theorem dX10_period_0 : decode cX10_period 0 = .ok (.aload_n 0, 1) := db186.1
theorem dX10_period_1 : decode cX10_period 1 = .ok (.iload_n 1, 1) := db186.2.1
theorem dX10_period_2 : decode cX10_period 2 = .ok (.iconst 1, 1) := db186.2.2.1
theorem dX10_period_3 : decode cX10_period 3 = .ok (.invokevirtual 299, 3) := db186.2.2.2.1
theorem dX10_period_6 : decode cX10_period 6 = .ok (.istore_n 2, 1) := db186.2.2.2.2.1
theorem dX10_period_7 : decode cX10_period 7 = .ok (.iload_n 2, 1) := db186.2.2.2.2.2.1
theorem dX10_period_8 : decode cX10_period 8 = .ok (.ifCond .eq 5, 3) := db186.2.2.2.2.2.2.1
theorem dX10_period_13 : decode cX10_period 13 = .ok (.aload_n 0, 1) := db186.2.2.2.2.2.2.2.1
theorem dX10_period_14 : decode cX10_period 14 = .ok (.getfield 41, 3) := db186.2.2.2.2.2.2.2.2.1
theorem dX10_period_17 : decode cX10_period 17 = .ok (.iload_n 1, 1) := db186.2.2.2.2.2.2.2.2.2.1
theorem dX10_period_18 : decode cX10_period 18 = .ok (.aaload, 1) := db186.2.2.2.2.2.2.2.2.2.2.1
theorem dX10_period_19 : decode cX10_period 19 = .ok (.astore_n 3, 1) := db186.2.2.2.2.2.2.2.2.2.2.2.1
theorem dX10_period_20 : decode cX10_period 20 = .ok (.iconst 1, 1) := db186.2.2.2.2.2.2.2.2.2.2.2.2.1
theorem dX10_period_21 : decode cX10_period 21 = .ok (.istore 4, 2) := db186.2.2.2.2.2.2.2.2.2.2.2.2.2.1
theorem dX10_period_23 : decode cX10_period 23 = .ok (.iload 4, 2) := db186.2.2.2.2.2.2.2.2.2.2.2.2.2.2.1
theorem dX10_period_25 : decode cX10_period 25 = .ok (.aload_n 3, 1) := db186.2.2.2.2.2.2.2.2.2.2.2.2.2.2.2.1
theorem dX10_period_26 : decode cX10_period 26 = .ok (.getfield 194, 3) := db186.2.2.2.2.2.2.2.2.2.2.2.2.2.2.2.2.1
theorem dX10_period_29 : decode cX10_period 29 = .ok (.if_icmp .gt 21, 3) := db186.2.2.2.2.2.2.2.2.2.2.2.2.2.2.2.2.2.1
theorem dX10_period_50 : decode cX10_period 50 = .ok (.iconst (-1), 1) := db186.2.2.2.2.2.2.2.2.2.2.2.2.2.2.2.2.2.2.1
theorem dX10_period_51 : decode cX10_period 51 = .ok (.ireturn, 1) := db186.2.2.2.2.2.2.2.2.2.2.2.2.2.2.2.2.2.2.2.1
theorem dX10_period_32 : decode cX10_period 32 = .ok (.aload_n 3, 1) := db186.2.2.2.2.2.2.2.2.2.2.2.2.2.2.2.2.2.2.2.2.1
theorem dX10_period_33 : decode cX10_period 33 = .ok (.iload 4, 2) := db186.2.2.2.2.2.2.2.2.2.2.2.2.2.2.2.2.2.2.2.2.2.1
theorem dX10_period_35 : decode cX10_period 35 = .ok (.invokevirtual 305, 3) := db186.2.2.2.2.2.2.2.2.2.2.2.2.2.2.2.2.2.2.2.2.2.2.1
theorem dX10_period_38 : decode cX10_period 38 = .ok (.ifCond .eq 6, 3) := db186.2.2.2.2.2.2.2.2.2.2.2.2.2.2.2.2.2.2.2.2.2.2.2
theorem db187 : (decode cX10_period 44 = .ok (.iinc 4 1, 3)) ∧ (decode cX10_period 47 = .ok (.goto (-24), 3)) ∧ (decode cX10_period 41 = .ok (.iload 4, 2)) ∧ (decode cX10_period 43 = .ok (.ireturn, 1)) ∧ (decode cX10_period 11 = .ok (.iload_n 2, 1)) ∧ (decode cX10_period 12 = .ok (.ireturn, 1)) := by decide +kernel
theorem dX10_period_44 : decode cX10_period 44 = .ok (.iinc 4 1, 3) := db187.1
theorem dX10_period_47 : decode cX10_period 47 = .ok (.goto (-24), 3) := db187.2.1
theorem dX10_period_41 : decode cX10_period 41 = .ok (.iload 4, 2) := db187.2.2.1
theorem dX10_period_43 : decode cX10_period 43 = .ok (.ireturn, 1) := db187.2.2.2.1
theorem dX10_period_11 : decode cX10_period 11 = .ok (.iload_n 2, 1) := db187.2.2.2.2.1
theorem dX10_period_12 : decode cX10_period 12 = .ok (.ireturn, 1) := db187.2.2.2.2.2
theorem db188 : (decode cX10_question 0 = .ok (.aload_n 0, 1)) ∧ (decode cX10_question 1 = .ok (.iload_n 1, 1)) ∧ (decode cX10_question 2 = .ok (.invokevirtual 267, 3)) ∧ (decode cX10_question 5 = .ok (.ifCond .eq 21, 3)) ∧ (decode cX10_question 26 = .ok (.bipush (-2), 2)) ∧ (decode cX10_question 28 = .ok (.ireturn, 1)) ∧ (decode cX10_question 8 = .ok (.aload_n 0, 1)) ∧ (decode cX10_question 9 = .ok (.getfield 72, 3)) ∧ (decode cX10_question 12 = .ok (.aload_n 0, 1)) ∧ (decode cX10_question 13 = .ok (.getfield 31, 3)) ∧ (decode cX10_question 16 = .ok (.getfield 98, 3)) ∧ (decode cX10_question 19 = .ok (.iload_n 1, 1)) ∧ (decode cX10_question 20 = .ok (.invokevirtual 274, 3)) ∧ (decode cX10_question 23 = .ok (.goto 5, 3)) := by decide +kernel
theorem dX10_question_0 : decode cX10_question 0 = .ok (.aload_n 0, 1) := db188.1
theorem dX10_question_1 : decode cX10_question 1 = .ok (.iload_n 1, 1) := db188.2.1
theorem dX10_question_2 : decode cX10_question 2 = .ok (.invokevirtual 267, 3) := db188.2.2.1
theorem dX10_question_5 : decode cX10_question 5 = .ok (.ifCond .eq 21, 3) := db188.2.2.2.1
theorem dX10_question_26 : decode cX10_question 26 = .ok (.bipush (-2), 2) := db188.2.2.2.2.1
theorem dX10_question_28 : decode cX10_question 28 = .ok (.ireturn, 1) := db188.2.2.2.2.2.1
theorem dX10_question_8 : decode cX10_question 8 = .ok (.aload_n 0, 1) := db188.2.2.2.2.2.2.1
theorem dX10_question_9 : decode cX10_question 9 = .ok (.getfield 72, 3) := db188.2.2.2.2.2.2.2.1
theorem dX10_question_12 : decode cX10_question 12 = .ok (.aload_n 0, 1) := db188.2.2.2.2.2.2.2.2.1
theorem dX10_question_13 : decode cX10_question 13 = .ok (.getfield 31, 3) := db188.2.2.2.2.2.2.2.2.2.1
theorem dX10_question_16 : decode cX10_question 16 = .ok (.getfield 98, 3) := db188.2.2.2.2.2.2.2.2.2.2.1
theorem dX10_question_19 : decode cX10_question 19 = .ok (.iload_n 1, 1) := db188.2.2.2.2.2.2.2.2.2.2.2.1
theorem dX10_question_20 : decode cX10_question 20 = .ok (.invokevirtual 274, 3) := db188.2.2.2.2.2.2.2.2.2.2.2.2.1
theorem dX10_question_23 : decode cX10_question 23 = .ok (.goto 5, 3) := db188.2.2.2.2.2.2.2.2.2.2.2.2.2
theorem db189 : (decode cX10_quiet 0 = .ok (.aload_n 0, 1)) ∧ (decode cX10_quiet 1 = .ok (.invokevirtual 152, 3)) ∧ (decode cX10_quiet 4 = .ok (.ifCond .eq 11, 3)) ∧ (decode cX10_quiet 15 = .ok (.bipush (-2), 2)) ∧ (decode cX10_quiet 17 = .ok (.ireturn, 1)) ∧ (decode cX10_quiet 7 = .ok (.aload_n 0, 1)) ∧ (decode cX10_quiet 8 = .ok (.iload_n 1, 1)) ∧ (decode cX10_quiet 9 = .ok (.invokevirtual 205, 3)) ∧ (decode cX10_quiet 12 = .ok (.ifCond .ne 6, 3)) ∧ (decode cX10_quiet 18 = .ok (.aload_n 0, 1)) ∧ (decode cX10_quiet 19 = .ok (.iload_n 1, 1)) ∧ (decode cX10_quiet 20 = .ok (.invokevirtual 244, 3)) ∧ (decode cX10_quiet 23 = .ok (.istore_n 2, 1)) ∧ (decode cX10_quiet 24 = .ok (.iload_n 2, 1)) ∧ (decode cX10_quiet 25 = .ok (.iconst (-1), 1)) ∧ (decode cX10_quiet 26 = .ok (.if_icmp .ne 7, 3)) ∧ (decode cX10_quiet 33 = .ok (.aload_n 0, 1)) ∧ (decode cX10_quiet 34 = .ok (.iload_n 2, 1)) ∧ (decode cX10_quiet 35 = .ok (.invokevirtual 247, 3)) ∧ (decode cX10_quiet 38 = .ok (.ireturn, 1)) ∧ (decode cX10_quiet 29 = .ok (.iconst (-1), 1)) ∧ (decode cX10_quiet 30 = .ok (.goto 8, 3)) := by decide +kernel
theorem dX10_quiet_0 : decode cX10_quiet 0 = .ok (.aload_n 0, 1) := db189.1
theorem dX10_quiet_1 : decode cX10_quiet 1 = .ok (.invokevirtual 152, 3) := db189.2.1
theorem dX10_quiet_4 : decode cX10_quiet 4 = .ok (.ifCond .eq 11, 3) := db189.2.2.1
theorem dX10_quiet_15 : decode cX10_quiet 15 = .ok (.bipush (-2), 2) := db189.2.2.2.1
theorem dX10_quiet_17 : decode cX10_quiet 17 = .ok (.ireturn, 1) := db189.2.2.2.2.1
theorem dX10_quiet_7 : decode cX10_quiet 7 = .ok (.aload_n 0, 1) := db189.2.2.2.2.2.1
theorem dX10_quiet_8 : decode cX10_quiet 8 = .ok (.iload_n 1, 1) := db189.2.2.2.2.2.2.1
theorem dX10_quiet_9 : decode cX10_quiet 9 = .ok (.invokevirtual 205, 3) := db189.2.2.2.2.2.2.2.1
theorem dX10_quiet_12 : decode cX10_quiet 12 = .ok (.ifCond .ne 6, 3) := db189.2.2.2.2.2.2.2.2.1
theorem dX10_quiet_18 : decode cX10_quiet 18 = .ok (.aload_n 0, 1) := db189.2.2.2.2.2.2.2.2.2.1
theorem dX10_quiet_19 : decode cX10_quiet 19 = .ok (.iload_n 1, 1) := db189.2.2.2.2.2.2.2.2.2.2.1
theorem dX10_quiet_20 : decode cX10_quiet 20 = .ok (.invokevirtual 244, 3) := db189.2.2.2.2.2.2.2.2.2.2.2.1
theorem dX10_quiet_23 : decode cX10_quiet 23 = .ok (.istore_n 2, 1) := db189.2.2.2.2.2.2.2.2.2.2.2.2.1
theorem dX10_quiet_24 : decode cX10_quiet 24 = .ok (.iload_n 2, 1) := db189.2.2.2.2.2.2.2.2.2.2.2.2.2.1
theorem dX10_quiet_25 : decode cX10_quiet 25 = .ok (.iconst (-1), 1) := db189.2.2.2.2.2.2.2.2.2.2.2.2.2.2.1
theorem dX10_quiet_26 : decode cX10_quiet 26 = .ok (.if_icmp .ne 7, 3) := db189.2.2.2.2.2.2.2.2.2.2.2.2.2.2.2.1
theorem dX10_quiet_33 : decode cX10_quiet 33 = .ok (.aload_n 0, 1) := db189.2.2.2.2.2.2.2.2.2.2.2.2.2.2.2.2.1
theorem dX10_quiet_34 : decode cX10_quiet 34 = .ok (.iload_n 2, 1) := db189.2.2.2.2.2.2.2.2.2.2.2.2.2.2.2.2.2.1
theorem dX10_quiet_35 : decode cX10_quiet 35 = .ok (.invokevirtual 247, 3) := db189.2.2.2.2.2.2.2.2.2.2.2.2.2.2.2.2.2.2.1
theorem dX10_quiet_38 : decode cX10_quiet 38 = .ok (.ireturn, 1) := db189.2.2.2.2.2.2.2.2.2.2.2.2.2.2.2.2.2.2.2.1
theorem dX10_quiet_29 : decode cX10_quiet 29 = .ok (.iconst (-1), 1) := db189.2.2.2.2.2.2.2.2.2.2.2.2.2.2.2.2.2.2.2.2.1
theorem dX10_quiet_30 : decode cX10_quiet 30 = .ok (.goto 8, 3) := db189.2.2.2.2.2.2.2.2.2.2.2.2.2.2.2.2.2.2.2.2.2
theorem db190 : (decode cX10_quietestSet 0 = .ok (.iconst (-1), 1)) ∧ (decode cX10_quietestSet 1 = .ok (.istore_n 2, 1)) ∧ (decode cX10_quietestSet 2 = .ok (.iconst 0, 1)) ∧ (decode cX10_quietestSet 3 = .ok (.istore_n 3, 1)) ∧ (decode cX10_quietestSet 4 = .ok (.iconst 0, 1)) ∧ (decode cX10_quietestSet 5 = .ok (.istore 4, 2)) ∧ (decode cX10_quietestSet 7 = .ok (.iload 4, 2)) ∧ (decode cX10_quietestSet 9 = .ok (.aload_n 0, 1)) ∧ (decode cX10_quietestSet 10 = .ok (.getfield 31, 3)) ∧ (decode cX10_quietestSet 13 = .ok (.getfield 98, 3)) ∧ (decode cX10_quietestSet 16 = .ok (.invokevirtual 238, 3)) ∧ (decode cX10_quietestSet 19 = .ok (.if_icmp .gt 44, 3)) ∧ (decode cX10_quietestSet 63 = .ok (.iload_n 2, 1)) ∧ (decode cX10_quietestSet 64 = .ok (.ireturn, 1)) ∧ (decode cX10_quietestSet 22 = .ok (.aload_n 0, 1)) ∧ (decode cX10_quietestSet 23 = .ok (.iload 4, 2)) ∧ (decode cX10_quietestSet 25 = .ok (.invokevirtual 241, 3)) ∧ (decode cX10_quietestSet 28 = .ok (.iload_n 1, 1)) ∧ (decode cX10_quietestSet 57 = .ok (.iinc 4 1, 3)) ∧ (decode cX10_quietestSet 60 = .ok (.goto (-53), 3)) ∧ (decode cX10_quietestSet 29 = .ok (.if_icmp .lt 28, 3)) ∧ (decode cX10_quietestSet 32 = .ok (.aload_n 0, 1)) ∧ (decode cX10_quietestSet 33 = .ok (.iload 4, 2)) ∧ (decode cX10_quietestSet 35 = .ok (.invokevirtual 247, 3)) := by decide +kernel
theorem dX10_quietestSet_0 : decode cX10_quietestSet 0 = .ok (.iconst (-1), 1) := db190.1
theorem dX10_quietestSet_1 : decode cX10_quietestSet 1 = .ok (.istore_n 2, 1) := db190.2.1
theorem dX10_quietestSet_2 : decode cX10_quietestSet 2 = .ok (.iconst 0, 1) := db190.2.2.1
theorem dX10_quietestSet_3 : decode cX10_quietestSet 3 = .ok (.istore_n 3, 1) := db190.2.2.2.1
theorem dX10_quietestSet_4 : decode cX10_quietestSet 4 = .ok (.iconst 0, 1) := db190.2.2.2.2.1
theorem dX10_quietestSet_5 : decode cX10_quietestSet 5 = .ok (.istore 4, 2) := db190.2.2.2.2.2.1
theorem dX10_quietestSet_7 : decode cX10_quietestSet 7 = .ok (.iload 4, 2) := db190.2.2.2.2.2.2.1
theorem dX10_quietestSet_9 : decode cX10_quietestSet 9 = .ok (.aload_n 0, 1) := db190.2.2.2.2.2.2.2.1
theorem dX10_quietestSet_10 : decode cX10_quietestSet 10 = .ok (.getfield 31, 3) := db190.2.2.2.2.2.2.2.2.1
theorem dX10_quietestSet_13 : decode cX10_quietestSet 13 = .ok (.getfield 98, 3) := db190.2.2.2.2.2.2.2.2.2.1
theorem dX10_quietestSet_16 : decode cX10_quietestSet 16 = .ok (.invokevirtual 238, 3) := db190.2.2.2.2.2.2.2.2.2.2.1
theorem dX10_quietestSet_19 : decode cX10_quietestSet 19 = .ok (.if_icmp .gt 44, 3) := db190.2.2.2.2.2.2.2.2.2.2.2.1
theorem dX10_quietestSet_63 : decode cX10_quietestSet 63 = .ok (.iload_n 2, 1) := db190.2.2.2.2.2.2.2.2.2.2.2.2.1
theorem dX10_quietestSet_64 : decode cX10_quietestSet 64 = .ok (.ireturn, 1) := db190.2.2.2.2.2.2.2.2.2.2.2.2.2.1
theorem dX10_quietestSet_22 : decode cX10_quietestSet 22 = .ok (.aload_n 0, 1) := db190.2.2.2.2.2.2.2.2.2.2.2.2.2.2.1
theorem dX10_quietestSet_23 : decode cX10_quietestSet 23 = .ok (.iload 4, 2) := db190.2.2.2.2.2.2.2.2.2.2.2.2.2.2.2.1
theorem dX10_quietestSet_25 : decode cX10_quietestSet 25 = .ok (.invokevirtual 241, 3) := db190.2.2.2.2.2.2.2.2.2.2.2.2.2.2.2.2.1
theorem dX10_quietestSet_28 : decode cX10_quietestSet 28 = .ok (.iload_n 1, 1) := db190.2.2.2.2.2.2.2.2.2.2.2.2.2.2.2.2.2.1
theorem dX10_quietestSet_57 : decode cX10_quietestSet 57 = .ok (.iinc 4 1, 3) := db190.2.2.2.2.2.2.2.2.2.2.2.2.2.2.2.2.2.2.1
theorem dX10_quietestSet_60 : decode cX10_quietestSet 60 = .ok (.goto (-53), 3) := db190.2.2.2.2.2.2.2.2.2.2.2.2.2.2.2.2.2.2.2.1
theorem dX10_quietestSet_29 : decode cX10_quietestSet 29 = .ok (.if_icmp .lt 28, 3) := db190.2.2.2.2.2.2.2.2.2.2.2.2.2.2.2.2.2.2.2.2.1
theorem dX10_quietestSet_32 : decode cX10_quietestSet 32 = .ok (.aload_n 0, 1) := db190.2.2.2.2.2.2.2.2.2.2.2.2.2.2.2.2.2.2.2.2.2.1
theorem dX10_quietestSet_33 : decode cX10_quietestSet 33 = .ok (.iload 4, 2) := db190.2.2.2.2.2.2.2.2.2.2.2.2.2.2.2.2.2.2.2.2.2.2.1
theorem dX10_quietestSet_35 : decode cX10_quietestSet 35 = .ok (.invokevirtual 247, 3) := db190.2.2.2.2.2.2.2.2.2.2.2.2.2.2.2.2.2.2.2.2.2.2.2
theorem db191 : (decode cX10_quietestSet 38 = .ok (.istore 5, 2)) ∧ (decode cX10_quietestSet 40 = .ok (.iload_n 2, 1)) ∧ (decode cX10_quietestSet 41 = .ok (.iconst (-1), 1)) ∧ (decode cX10_quietestSet 51 = .ok (.iload 5, 2)) ∧ (decode cX10_quietestSet 53 = .ok (.istore_n 3, 1)) ∧ (decode cX10_quietestSet 54 = .ok (.iload 4, 2)) ∧ (decode cX10_quietestSet 56 = .ok (.istore_n 2, 1)) ∧ (decode cX10_quietestSet 42 = .ok (.if_icmp .eq 9, 3)) ∧ (decode cX10_quietestSet 45 = .ok (.iload 5, 2)) ∧ (decode cX10_quietestSet 47 = .ok (.iload_n 3, 1)) ∧ (decode cX10_quietestSet 48 = .ok (.if_icmp .ge 9, 3)) := by decide +kernel
theorem dX10_quietestSet_38 : decode cX10_quietestSet 38 = .ok (.istore 5, 2) := db191.1
theorem dX10_quietestSet_40 : decode cX10_quietestSet 40 = .ok (.iload_n 2, 1) := db191.2.1
theorem dX10_quietestSet_41 : decode cX10_quietestSet 41 = .ok (.iconst (-1), 1) := db191.2.2.1
theorem dX10_quietestSet_51 : decode cX10_quietestSet 51 = .ok (.iload 5, 2) := db191.2.2.2.1
theorem dX10_quietestSet_53 : decode cX10_quietestSet 53 = .ok (.istore_n 3, 1) := db191.2.2.2.2.1
theorem dX10_quietestSet_54 : decode cX10_quietestSet 54 = .ok (.iload 4, 2) := db191.2.2.2.2.2.1
theorem dX10_quietestSet_56 : decode cX10_quietestSet 56 = .ok (.istore_n 2, 1) := db191.2.2.2.2.2.2.1
theorem dX10_quietestSet_42 : decode cX10_quietestSet 42 = .ok (.if_icmp .eq 9, 3) := db191.2.2.2.2.2.2.2.1
theorem dX10_quietestSet_45 : decode cX10_quietestSet 45 = .ok (.iload 5, 2) := db191.2.2.2.2.2.2.2.2.1
theorem dX10_quietestSet_47 : decode cX10_quietestSet 47 = .ok (.iload_n 3, 1) := db191.2.2.2.2.2.2.2.2.2.1
theorem dX10_quietestSet_48 : decode cX10_quietestSet 48 = .ok (.if_icmp .ge 9, 3) := db191.2.2.2.2.2.2.2.2.2.2
theorem db192 : (decode cX10_quietly 0 = .ok (.aload_n 0, 1)) ∧ (decode cX10_quietly 1 = .ok (.invokevirtual 152, 3)) ∧ (decode cX10_quietly 4 = .ok (.ifCond .eq 11, 3)) ∧ (decode cX10_quietly 15 = .ok (.bipush (-2), 2)) ∧ (decode cX10_quietly 17 = .ok (.ireturn, 1)) ∧ (decode cX10_quietly 7 = .ok (.aload_n 0, 1)) ∧ (decode cX10_quietly 8 = .ok (.iload_n 1, 1)) ∧ (decode cX10_quietly 9 = .ok (.invokevirtual 205, 3)) ∧ (decode cX10_quietly 12 = .ok (.ifCond .ne 6, 3)) ∧ (decode cX10_quietly 18 = .ok (.aload_n 0, 1)) ∧ (decode cX10_quietly 19 = .ok (.iload_n 1, 1)) ∧ (decode cX10_quietly 20 = .ok (.invokevirtual 244, 3)) ∧ (decode cX10_quietly 23 = .ok (.ireturn, 1)) := by decide +kernel
theorem dX10_quietly_0 : decode cX10_quietly 0 = .ok (.aload_n 0, 1) := db192.1
theorem dX10_quietly_1 : decode cX10_quietly 1 = .ok (.invokevirtual 152, 3) := db192.2.1
theorem dX10_quietly_4 : decode cX10_quietly 4 = .ok (.ifCond .eq 11, 3) := db192.2.2.1
theorem dX10_quietly_15 : decode cX10_quietly 15 = .ok (.bipush (-2), 2) := db192.2.2.2.1
theorem dX10_quietly_17 : decode cX10_quietly 17 = .ok (.ireturn, 1) := db192.2.2.2.2.1
theorem dX10_quietly_7 : decode cX10_quietly 7 = .ok (.aload_n 0, 1) := db192.2.2.2.2.2.1
theorem dX10_quietly_8 : decode cX10_quietly 8 = .ok (.iload_n 1, 1) := db192.2.2.2.2.2.2.1
theorem dX10_quietly_9 : decode cX10_quietly 9 = .ok (.invokevirtual 205, 3) := db192.2.2.2.2.2.2.2.1
theorem dX10_quietly_12 : decode cX10_quietly 12 = .ok (.ifCond .ne 6, 3) := db192.2.2.2.2.2.2.2.2.1
theorem dX10_quietly_18 : decode cX10_quietly 18 = .ok (.aload_n 0, 1) := db192.2.2.2.2.2.2.2.2.2.1
theorem dX10_quietly_19 : decode cX10_quietly 19 = .ok (.iload_n 1, 1) := db192.2.2.2.2.2.2.2.2.2.2.1
theorem dX10_quietly_20 : decode cX10_quietly 20 = .ok (.invokevirtual 244, 3) := db192.2.2.2.2.2.2.2.2.2.2.2.1
theorem dX10_quietly_23 : decode cX10_quietly 23 = .ok (.ireturn, 1) := db192.2.2.2.2.2.2.2.2.2.2.2.2
theorem db193 : (decode cX10_read 0 = .ok (.aload_n 0, 1)) ∧ (decode cX10_read 1 = .ok (.iload_n 1, 1)) ∧ (decode cX10_read 2 = .ok (.invokevirtual 128, 3)) ∧ (decode cX10_read 5 = .ok (.ifCond .eq 20, 3)) ∧ (decode cX10_read 25 = .ok (.ldc2_w 289, 3)) ∧ (decode cX10_read 28 = .ok (.lreturn, 1)) ∧ (decode cX10_read 8 = .ok (.aload_n 0, 1)) ∧ (decode cX10_read 9 = .ok (.iload_n 2, 1)) ∧ (decode cX10_read 10 = .ok (.invokevirtual 128, 3)) ∧ (decode cX10_read 13 = .ok (.ifCond .eq 12, 3)) ∧ (decode cX10_read 16 = .ok (.iload_n 3, 1)) ∧ (decode cX10_read 17 = .ok (.ifCond .lt 8, 3)) ∧ (decode cX10_read 20 = .ok (.iload_n 3, 1)) ∧ (decode cX10_read 21 = .ok (.iconst 1, 1)) ∧ (decode cX10_read 22 = .ok (.if_icmp .le 7, 3)) ∧ (decode cX10_read 29 = .ok (.aload_n 0, 1)) ∧ (decode cX10_read 30 = .ok (.getfield 72, 3)) ∧ (decode cX10_read 33 = .ok (.aload_n 0, 1)) ∧ (decode cX10_read 34 = .ok (.getfield 72, 3)) ∧ (decode cX10_read 37 = .ok (.aload_n 0, 1)) ∧ (decode cX10_read 38 = .ok (.getfield 31, 3)) ∧ (decode cX10_read 41 = .ok (.getfield 98, 3)) ∧ (decode cX10_read 44 = .ok (.iload_n 1, 1)) ∧ (decode cX10_read 45 = .ok (.iload_n 2, 1)) := by decide +kernel
theorem dX10_read_0 : decode cX10_read 0 = .ok (.aload_n 0, 1) := db193.1
theorem dX10_read_1 : decode cX10_read 1 = .ok (.iload_n 1, 1) := db193.2.1
theorem dX10_read_2 : decode cX10_read 2 = .ok (.invokevirtual 128, 3) := db193.2.2.1
theorem dX10_read_5 : decode cX10_read 5 = .ok (.ifCond .eq 20, 3) := db193.2.2.2.1
theorem dX10_read_25 : decode cX10_read 25 = .ok (.ldc2_w 289, 3) := db193.2.2.2.2.1
theorem dX10_read_28 : decode cX10_read 28 = .ok (.lreturn, 1) := db193.2.2.2.2.2.1
theorem dX10_read_8 : decode cX10_read 8 = .ok (.aload_n 0, 1) := db193.2.2.2.2.2.2.1
theorem dX10_read_9 : decode cX10_read 9 = .ok (.iload_n 2, 1) := db193.2.2.2.2.2.2.2.1
theorem dX10_read_10 : decode cX10_read 10 = .ok (.invokevirtual 128, 3) := db193.2.2.2.2.2.2.2.2.1
theorem dX10_read_13 : decode cX10_read 13 = .ok (.ifCond .eq 12, 3) := db193.2.2.2.2.2.2.2.2.2.1
theorem dX10_read_16 : decode cX10_read 16 = .ok (.iload_n 3, 1) := db193.2.2.2.2.2.2.2.2.2.2.1
theorem dX10_read_17 : decode cX10_read 17 = .ok (.ifCond .lt 8, 3) := db193.2.2.2.2.2.2.2.2.2.2.2.1
theorem dX10_read_20 : decode cX10_read 20 = .ok (.iload_n 3, 1) := db193.2.2.2.2.2.2.2.2.2.2.2.2.1
theorem dX10_read_21 : decode cX10_read 21 = .ok (.iconst 1, 1) := db193.2.2.2.2.2.2.2.2.2.2.2.2.2.1
theorem dX10_read_22 : decode cX10_read 22 = .ok (.if_icmp .le 7, 3) := db193.2.2.2.2.2.2.2.2.2.2.2.2.2.2.1
theorem dX10_read_29 : decode cX10_read 29 = .ok (.aload_n 0, 1) := db193.2.2.2.2.2.2.2.2.2.2.2.2.2.2.2.1
theorem dX10_read_30 : decode cX10_read 30 = .ok (.getfield 72, 3) := db193.2.2.2.2.2.2.2.2.2.2.2.2.2.2.2.2.1
theorem dX10_read_33 : decode cX10_read 33 = .ok (.aload_n 0, 1) := db193.2.2.2.2.2.2.2.2.2.2.2.2.2.2.2.2.2.1
theorem dX10_read_34 : decode cX10_read 34 = .ok (.getfield 72, 3) := db193.2.2.2.2.2.2.2.2.2.2.2.2.2.2.2.2.2.2.1
theorem dX10_read_37 : decode cX10_read 37 = .ok (.aload_n 0, 1) := db193.2.2.2.2.2.2.2.2.2.2.2.2.2.2.2.2.2.2.2.1
theorem dX10_read_38 : decode cX10_read 38 = .ok (.getfield 31, 3) := db193.2.2.2.2.2.2.2.2.2.2.2.2.2.2.2.2.2.2.2.2.1
theorem dX10_read_41 : decode cX10_read 41 = .ok (.getfield 98, 3) := db193.2.2.2.2.2.2.2.2.2.2.2.2.2.2.2.2.2.2.2.2.2.1
theorem dX10_read_44 : decode cX10_read 44 = .ok (.iload_n 1, 1) := db193.2.2.2.2.2.2.2.2.2.2.2.2.2.2.2.2.2.2.2.2.2.2.1
theorem dX10_read_45 : decode cX10_read 45 = .ok (.iload_n 2, 1) := db193.2.2.2.2.2.2.2.2.2.2.2.2.2.2.2.2.2.2.2.2.2.2.2
theorem db194 : (decode cX10_read 46 = .ok (.invokevirtual 291, 3)) ∧ (decode cX10_read 49 = .ok (.aload_n 0, 1)) ∧ (decode cX10_read 50 = .ok (.getfield 72, 3)) ∧ (decode cX10_read 53 = .ok (.aload_n 0, 1)) ∧ (decode cX10_read 54 = .ok (.getfield 31, 3)) ∧ (decode cX10_read 57 = .ok (.getfield 98, 3)) ∧ (decode cX10_read 60 = .ok (.iload_n 2, 1)) ∧ (decode cX10_read 61 = .ok (.invokevirtual 295, 3)) ∧ (decode cX10_read 64 = .ok (.iload_n 3, 1)) ∧ (decode cX10_read 65 = .ok (.invokevirtual 285, 3)) ∧ (decode cX10_read 68 = .ok (.lreturn, 1)) := by decide +kernel
theorem dX10_read_46 : decode cX10_read 46 = .ok (.invokevirtual 291, 3) := db194.1
theorem dX10_read_49 : decode cX10_read 49 = .ok (.aload_n 0, 1) := db194.2.1
theorem dX10_read_50 : decode cX10_read 50 = .ok (.getfield 72, 3) := db194.2.2.1
theorem dX10_read_53 : decode cX10_read 53 = .ok (.aload_n 0, 1) := db194.2.2.2.1
theorem dX10_read_54 : decode cX10_read 54 = .ok (.getfield 31, 3) := db194.2.2.2.2.1
theorem dX10_read_57 : decode cX10_read 57 = .ok (.getfield 98, 3) := db194.2.2.2.2.2.1
theorem dX10_read_60 : decode cX10_read 60 = .ok (.iload_n 2, 1) := db194.2.2.2.2.2.2.1
theorem dX10_read_61 : decode cX10_read 61 = .ok (.invokevirtual 295, 3) := db194.2.2.2.2.2.2.2.1
theorem dX10_read_64 : decode cX10_read 64 = .ok (.iload_n 3, 1) := db194.2.2.2.2.2.2.2.2.1
theorem dX10_read_65 : decode cX10_read 65 = .ok (.invokevirtual 285, 3) := db194.2.2.2.2.2.2.2.2.2.1
theorem dX10_read_68 : decode cX10_read 68 = .ok (.lreturn, 1) := db194.2.2.2.2.2.2.2.2.2.2
theorem db195 : (decode cX10_replay 0 = .ok (.aload_n 0, 1)) ∧ (decode cX10_replay 1 = .ok (.getfield 48, 3)) ∧ (decode cX10_replay 4 = .ok (.aload_n 0, 1)) ∧ (decode cX10_replay 5 = .ok (.getfield 31, 3)) ∧ (decode cX10_replay 8 = .ok (.getfield 98, 3)) ∧ (decode cX10_replay 11 = .ok (.invokevirtual 388, 3)) ∧ (decode cX10_replay 14 = .ok (.iconst 0, 1)) ∧ (decode cX10_replay 15 = .ok (.istore_n 1, 1)) ∧ (decode cX10_replay 16 = .ok (.iload_n 1, 1)) ∧ (decode cX10_replay 17 = .ok (.aload_n 0, 1)) ∧ (decode cX10_replay 18 = .ok (.getfield 31, 3)) ∧ (decode cX10_replay 21 = .ok (.getfield 105, 3)) ∧ (decode cX10_replay 24 = .ok (.if_icmp .ge 34, 3)) ∧ (decode cX10_replay 58 = .ok (.return_, 1)) ∧ (decode cX10_replay 27 = .ok (.aload_n 0, 1)) ∧ (decode cX10_replay 28 = .ok (.getfield 48, 3)) ∧ (decode cX10_replay 31 = .ok (.aload_n 0, 1)) ∧ (decode cX10_replay 32 = .ok (.getfield 31, 3)) ∧ (decode cX10_replay 35 = .ok (.getfield 98, 3)) ∧ (decode cX10_replay 38 = .ok (.aload_n 0, 1)) ∧ (decode cX10_replay 39 = .ok (.getfield 31, 3)) ∧ (decode cX10_replay 42 = .ok (.getfield 172, 3)) ∧ (decode cX10_replay 45 = .ok (.iload_n 1, 1)) ∧ (decode cX10_replay 46 = .ok (.iaload, 1)) := by decide +kernel
theorem dX10_replay_0 : decode cX10_replay 0 = .ok (.aload_n 0, 1) := db195.1
theorem dX10_replay_1 : decode cX10_replay 1 = .ok (.getfield 48, 3) := db195.2.1
theorem dX10_replay_4 : decode cX10_replay 4 = .ok (.aload_n 0, 1) := db195.2.2.1
theorem dX10_replay_5 : decode cX10_replay 5 = .ok (.getfield 31, 3) := db195.2.2.2.1
theorem dX10_replay_8 : decode cX10_replay 8 = .ok (.getfield 98, 3) := db195.2.2.2.2.1
theorem dX10_replay_11 : decode cX10_replay 11 = .ok (.invokevirtual 388, 3) := db195.2.2.2.2.2.1
theorem dX10_replay_14 : decode cX10_replay 14 = .ok (.iconst 0, 1) := db195.2.2.2.2.2.2.1
theorem dX10_replay_15 : decode cX10_replay 15 = .ok (.istore_n 1, 1) := db195.2.2.2.2.2.2.2.1
theorem dX10_replay_16 : decode cX10_replay 16 = .ok (.iload_n 1, 1) := db195.2.2.2.2.2.2.2.2.1
theorem dX10_replay_17 : decode cX10_replay 17 = .ok (.aload_n 0, 1) := db195.2.2.2.2.2.2.2.2.2.1
theorem dX10_replay_18 : decode cX10_replay 18 = .ok (.getfield 31, 3) := db195.2.2.2.2.2.2.2.2.2.2.1
theorem dX10_replay_21 : decode cX10_replay 21 = .ok (.getfield 105, 3) := db195.2.2.2.2.2.2.2.2.2.2.2.1
theorem dX10_replay_24 : decode cX10_replay 24 = .ok (.if_icmp .ge 34, 3) := db195.2.2.2.2.2.2.2.2.2.2.2.2.1
theorem dX10_replay_58 : decode cX10_replay 58 = .ok (.return_, 1) := db195.2.2.2.2.2.2.2.2.2.2.2.2.2.1
theorem dX10_replay_27 : decode cX10_replay 27 = .ok (.aload_n 0, 1) := db195.2.2.2.2.2.2.2.2.2.2.2.2.2.2.1
theorem dX10_replay_28 : decode cX10_replay 28 = .ok (.getfield 48, 3) := db195.2.2.2.2.2.2.2.2.2.2.2.2.2.2.2.1
theorem dX10_replay_31 : decode cX10_replay 31 = .ok (.aload_n 0, 1) := db195.2.2.2.2.2.2.2.2.2.2.2.2.2.2.2.2.1
theorem dX10_replay_32 : decode cX10_replay 32 = .ok (.getfield 31, 3) := db195.2.2.2.2.2.2.2.2.2.2.2.2.2.2.2.2.2.1
theorem dX10_replay_35 : decode cX10_replay 35 = .ok (.getfield 98, 3) := db195.2.2.2.2.2.2.2.2.2.2.2.2.2.2.2.2.2.2.1
theorem dX10_replay_38 : decode cX10_replay 38 = .ok (.aload_n 0, 1) := db195.2.2.2.2.2.2.2.2.2.2.2.2.2.2.2.2.2.2.2.1
theorem dX10_replay_39 : decode cX10_replay 39 = .ok (.getfield 31, 3) := db195.2.2.2.2.2.2.2.2.2.2.2.2.2.2.2.2.2.2.2.2.1
theorem dX10_replay_42 : decode cX10_replay 42 = .ok (.getfield 172, 3) := db195.2.2.2.2.2.2.2.2.2.2.2.2.2.2.2.2.2.2.2.2.2.1
theorem dX10_replay_45 : decode cX10_replay 45 = .ok (.iload_n 1, 1) := db195.2.2.2.2.2.2.2.2.2.2.2.2.2.2.2.2.2.2.2.2.2.2.1
theorem dX10_replay_46 : decode cX10_replay 46 = .ok (.iaload, 1) := db195.2.2.2.2.2.2.2.2.2.2.2.2.2.2.2.2.2.2.2.2.2.2.2
theorem db196 : (decode cX10_replay 47 = .ok (.iconst 0, 1)) ∧ (decode cX10_replay 48 = .ok (.invokevirtual 175, 3)) ∧ (decode cX10_replay 51 = .ok (.pop, 1)) ∧ (decode cX10_replay 52 = .ok (.iinc 1 1, 3)) ∧ (decode cX10_replay 55 = .ok (.goto (-39), 3)) := by decide +kernel
theorem dX10_replay_47 : decode cX10_replay 47 = .ok (.iconst 0, 1) := db196.1
theorem dX10_replay_48 : decode cX10_replay 48 = .ok (.invokevirtual 175, 3) := db196.2.1
theorem dX10_replay_51 : decode cX10_replay 51 = .ok (.pop, 1) := db196.2.2.1
theorem dX10_replay_52 : decode cX10_replay 52 = .ok (.iinc 1 1, 3) := db196.2.2.2.1
theorem dX10_replay_55 : decode cX10_replay 55 = .ok (.goto (-39), 3) := db196.2.2.2.2
theorem db197 : (decode cX10_rest 0 = .ok (.aload_n 0, 1)) ∧ (decode cX10_rest 1 = .ok (.invokevirtual 152, 3)) ∧ (decode cX10_rest 4 = .ok (.ifCond .ne 6, 3)) ∧ (decode cX10_rest 10 = .ok (.aload_n 0, 1)) ∧ (decode cX10_rest 11 = .ok (.getfield 52, 3)) ∧ (decode cX10_rest 14 = .ok (.aload_n 0, 1)) ∧ (decode cX10_rest 15 = .ok (.getfield 48, 3)) ∧ (decode cX10_rest 18 = .ok (.invokevirtual 179, 3)) ∧ (decode cX10_rest 21 = .ok (.iconst 0, 1)) ∧ (decode cX10_rest 22 = .ok (.istore_n 1, 1)) ∧ (decode cX10_rest 23 = .ok (.iload_n 1, 1)) ∧ (decode cX10_rest 24 = .ok (.sipush 200, 3)) ∧ (decode cX10_rest 27 = .ok (.if_icmp .gt 29, 3)) ∧ (decode cX10_rest 56 = .ok (.iconst (-1), 1)) ∧ (decode cX10_rest 57 = .ok (.ireturn, 1)) ∧ (decode cX10_rest 30 = .ok (.aload_n 0, 1)) ∧ (decode cX10_rest 31 = .ok (.getfield 52, 3)) ∧ (decode cX10_rest 34 = .ok (.aload_n 0, 1)) ∧ (decode cX10_rest 35 = .ok (.getfield 31, 3)) ∧ (decode cX10_rest 38 = .ok (.getfield 98, 3)) ∧ (decode cX10_rest 41 = .ok (.iconst (-1), 1)) ∧ (decode cX10_rest 42 = .ok (.invokevirtual 182, 3)) ∧ (decode cX10_rest 45 = .ok (.ifCond .ne 5, 3)) ∧ (decode cX10_rest 50 = .ok (.iinc 1 1, 3)) := by decide +kernel
theorem dX10_rest_0 : decode cX10_rest 0 = .ok (.aload_n 0, 1) := db197.1
theorem dX10_rest_1 : decode cX10_rest 1 = .ok (.invokevirtual 152, 3) := db197.2.1
theorem dX10_rest_4 : decode cX10_rest 4 = .ok (.ifCond .ne 6, 3) := db197.2.2.1
theorem dX10_rest_10 : decode cX10_rest 10 = .ok (.aload_n 0, 1) := db197.2.2.2.1
theorem dX10_rest_11 : decode cX10_rest 11 = .ok (.getfield 52, 3) := db197.2.2.2.2.1
theorem dX10_rest_14 : decode cX10_rest 14 = .ok (.aload_n 0, 1) := db197.2.2.2.2.2.1
theorem dX10_rest_15 : decode cX10_rest 15 = .ok (.getfield 48, 3) := db197.2.2.2.2.2.2.1
theorem dX10_rest_18 : decode cX10_rest 18 = .ok (.invokevirtual 179, 3) := db197.2.2.2.2.2.2.2.1
theorem dX10_rest_21 : decode cX10_rest 21 = .ok (.iconst 0, 1) := db197.2.2.2.2.2.2.2.2.1
theorem dX10_rest_22 : decode cX10_rest 22 = .ok (.istore_n 1, 1) := db197.2.2.2.2.2.2.2.2.2.1
theorem dX10_rest_23 : decode cX10_rest 23 = .ok (.iload_n 1, 1) := db197.2.2.2.2.2.2.2.2.2.2.1
theorem dX10_rest_24 : decode cX10_rest 24 = .ok (.sipush 200, 3) := db197.2.2.2.2.2.2.2.2.2.2.2.1
theorem dX10_rest_27 : decode cX10_rest 27 = .ok (.if_icmp .gt 29, 3) := db197.2.2.2.2.2.2.2.2.2.2.2.2.1
theorem dX10_rest_56 : decode cX10_rest 56 = .ok (.iconst (-1), 1) := db197.2.2.2.2.2.2.2.2.2.2.2.2.2.1
theorem dX10_rest_57 : decode cX10_rest 57 = .ok (.ireturn, 1) := db197.2.2.2.2.2.2.2.2.2.2.2.2.2.2.1
theorem dX10_rest_30 : decode cX10_rest 30 = .ok (.aload_n 0, 1) := db197.2.2.2.2.2.2.2.2.2.2.2.2.2.2.2.1
theorem dX10_rest_31 : decode cX10_rest 31 = .ok (.getfield 52, 3) := db197.2.2.2.2.2.2.2.2.2.2.2.2.2.2.2.2.1
theorem dX10_rest_34 : decode cX10_rest 34 = .ok (.aload_n 0, 1) := db197.2.2.2.2.2.2.2.2.2.2.2.2.2.2.2.2.2.1
theorem dX10_rest_35 : decode cX10_rest 35 = .ok (.getfield 31, 3) := db197.2.2.2.2.2.2.2.2.2.2.2.2.2.2.2.2.2.2.1
theorem dX10_rest_38 : decode cX10_rest 38 = .ok (.getfield 98, 3) := db197.2.2.2.2.2.2.2.2.2.2.2.2.2.2.2.2.2.2.2.1
theorem dX10_rest_41 : decode cX10_rest 41 = .ok (.iconst (-1), 1) := db197.2.2.2.2.2.2.2.2.2.2.2.2.2.2.2.2.2.2.2.2.1
theorem dX10_rest_42 : decode cX10_rest 42 = .ok (.invokevirtual 182, 3) := db197.2.2.2.2.2.2.2.2.2.2.2.2.2.2.2.2.2.2.2.2.2.1
theorem dX10_rest_45 : decode cX10_rest 45 = .ok (.ifCond .ne 5, 3) := db197.2.2.2.2.2.2.2.2.2.2.2.2.2.2.2.2.2.2.2.2.2.2.1
theorem dX10_rest_50 : decode cX10_rest 50 = .ok (.iinc 1 1, 3) := db197.2.2.2.2.2.2.2.2.2.2.2.2.2.2.2.2.2.2.2.2.2.2.2
theorem db198 : (decode cX10_rest 53 = .ok (.goto (-30), 3)) ∧ (decode cX10_rest 48 = .ok (.iload_n 1, 1)) ∧ (decode cX10_rest 49 = .ok (.ireturn, 1)) ∧ (decode cX10_rest 7 = .ok (.bipush (-2), 2)) ∧ (decode cX10_rest 9 = .ok (.ireturn, 1)) := by decide +kernel
theorem dX10_rest_53 : decode cX10_rest 53 = .ok (.goto (-30), 3) := db198.1
theorem dX10_rest_48 : decode cX10_rest 48 = .ok (.iload_n 1, 1) := db198.2.1
theorem dX10_rest_49 : decode cX10_rest 49 = .ok (.ireturn, 1) := db198.2.2.1
theorem dX10_rest_7 : decode cX10_rest 7 = .ok (.bipush (-2), 2) := db198.2.2.2.1
theorem dX10_rest_9 : decode cX10_rest 9 = .ok (.ireturn, 1) := db198.2.2.2.2
theorem db199 : (decode cX10_right 0 = .ok (.aload_n 0, 1)) ∧ (decode cX10_right 1 = .ok (.getfield 31, 3)) ∧ (decode cX10_right 4 = .ok (.getfield 98, 3)) ∧ (decode cX10_right 7 = .ok (.getfield 283, 3)) ∧ (decode cX10_right 10 = .ok (.iconst 1, 1)) ∧ (decode cX10_right 11 = .ok (.if_icmp .lt 12, 3)) ∧ (decode cX10_right 23 = .ok (.ldc2_w 289, 3)) ∧ (decode cX10_right 26 = .ok (.lreturn, 1)) ∧ (decode cX10_right 14 = .ok (.iload_n 1, 1)) ∧ (decode cX10_right 15 = .ok (.ifCond .lt 8, 3)) ∧ (decode cX10_right 18 = .ok (.iload_n 1, 1)) ∧ (decode cX10_right 19 = .ok (.iconst 1, 1)) ∧ (decode cX10_right 20 = .ok (.if_icmp .le 7, 3)) ∧ (decode cX10_right 27 = .ok (.lconst 0, 1)) ∧ (decode cX10_right 28 = .ok (.lstore_n 2, 1)) ∧ (decode cX10_right 29 = .ok (.lconst 0, 1)) ∧ (decode cX10_right 30 = .ok (.lstore 4, 2)) ∧ (decode cX10_right 32 = .ok (.iconst 0, 1)) ∧ (decode cX10_right 33 = .ok (.istore 6, 2)) ∧ (decode cX10_right 35 = .ok (.iload 6, 2)) ∧ (decode cX10_right 37 = .ok (.aload_n 0, 1)) ∧ (decode cX10_right 38 = .ok (.getfield 31, 3)) ∧ (decode cX10_right 41 = .ok (.getfield 98, 3)) ∧ (decode cX10_right 44 = .ok (.getfield 283, 3)) := by decide +kernel
theorem dX10_right_0 : decode cX10_right 0 = .ok (.aload_n 0, 1) := db199.1
theorem dX10_right_1 : decode cX10_right 1 = .ok (.getfield 31, 3) := db199.2.1
theorem dX10_right_4 : decode cX10_right 4 = .ok (.getfield 98, 3) := db199.2.2.1
theorem dX10_right_7 : decode cX10_right 7 = .ok (.getfield 283, 3) := db199.2.2.2.1
theorem dX10_right_10 : decode cX10_right 10 = .ok (.iconst 1, 1) := db199.2.2.2.2.1
theorem dX10_right_11 : decode cX10_right 11 = .ok (.if_icmp .lt 12, 3) := db199.2.2.2.2.2.1
theorem dX10_right_23 : decode cX10_right 23 = .ok (.ldc2_w 289, 3) := db199.2.2.2.2.2.2.1
theorem dX10_right_26 : decode cX10_right 26 = .ok (.lreturn, 1) := db199.2.2.2.2.2.2.2.1
theorem dX10_right_14 : decode cX10_right 14 = .ok (.iload_n 1, 1) := db199.2.2.2.2.2.2.2.2.1
theorem dX10_right_15 : decode cX10_right 15 = .ok (.ifCond .lt 8, 3) := db199.2.2.2.2.2.2.2.2.2.1
theorem dX10_right_18 : decode cX10_right 18 = .ok (.iload_n 1, 1) := db199.2.2.2.2.2.2.2.2.2.2.1
theorem dX10_right_19 : decode cX10_right 19 = .ok (.iconst 1, 1) := db199.2.2.2.2.2.2.2.2.2.2.2.1
theorem dX10_right_20 : decode cX10_right 20 = .ok (.if_icmp .le 7, 3) := db199.2.2.2.2.2.2.2.2.2.2.2.2.1
theorem dX10_right_27 : decode cX10_right 27 = .ok (.lconst 0, 1) := db199.2.2.2.2.2.2.2.2.2.2.2.2.2.1
theorem dX10_right_28 : decode cX10_right 28 = .ok (.lstore_n 2, 1) := db199.2.2.2.2.2.2.2.2.2.2.2.2.2.2.1
theorem dX10_right_29 : decode cX10_right 29 = .ok (.lconst 0, 1) := db199.2.2.2.2.2.2.2.2.2.2.2.2.2.2.2.1
theorem dX10_right_30 : decode cX10_right 30 = .ok (.lstore 4, 2) := db199.2.2.2.2.2.2.2.2.2.2.2.2.2.2.2.2.1
theorem dX10_right_32 : decode cX10_right 32 = .ok (.iconst 0, 1) := db199.2.2.2.2.2.2.2.2.2.2.2.2.2.2.2.2.2.1
theorem dX10_right_33 : decode cX10_right 33 = .ok (.istore 6, 2) := db199.2.2.2.2.2.2.2.2.2.2.2.2.2.2.2.2.2.2.1
theorem dX10_right_35 : decode cX10_right 35 = .ok (.iload 6, 2) := db199.2.2.2.2.2.2.2.2.2.2.2.2.2.2.2.2.2.2.2.1
theorem dX10_right_37 : decode cX10_right 37 = .ok (.aload_n 0, 1) := db199.2.2.2.2.2.2.2.2.2.2.2.2.2.2.2.2.2.2.2.2.1
theorem dX10_right_38 : decode cX10_right 38 = .ok (.getfield 31, 3) := db199.2.2.2.2.2.2.2.2.2.2.2.2.2.2.2.2.2.2.2.2.2.1
theorem dX10_right_41 : decode cX10_right 41 = .ok (.getfield 98, 3) := db199.2.2.2.2.2.2.2.2.2.2.2.2.2.2.2.2.2.2.2.2.2.2.1
theorem dX10_right_44 : decode cX10_right 44 = .ok (.getfield 283, 3) := db199.2.2.2.2.2.2.2.2.2.2.2.2.2.2.2.2.2.2.2.2.2.2.2
theorem db200 : (decode cX10_right 47 = .ok (.if_icmp .ge 51, 3)) ∧ (decode cX10_right 98 = .ok (.aload_n 0, 1)) ∧ (decode cX10_right 99 = .ok (.getfield 72, 3)) ∧ (decode cX10_right 102 = .ok (.lload_n 2, 1)) ∧ (decode cX10_right 103 = .ok (.lload 4, 2)) ∧ (decode cX10_right 105 = .ok (.iload_n 1, 1)) ∧ (decode cX10_right 106 = .ok (.invokevirtual 285, 3)) ∧ (decode cX10_right 109 = .ok (.lreturn, 1)) ∧ (decode cX10_right 50 = .ok (.lload_n 2, 1)) ∧ (decode cX10_right 51 = .ok (.aload_n 0, 1)) ∧ (decode cX10_right 52 = .ok (.getfield 72, 3)) ∧ (decode cX10_right 55 = .ok (.aload_n 0, 1)) ∧ (decode cX10_right 56 = .ok (.getfield 31, 3)) ∧ (decode cX10_right 59 = .ok (.getfield 98, 3)) ∧ (decode cX10_right 62 = .ok (.iload 6, 2)) ∧ (decode cX10_right 64 = .ok (.iload 6, 2)) ∧ (decode cX10_right 66 = .ok (.invokevirtual 291, 3)) ∧ (decode cX10_right 69 = .ok (.ladd, 1)) ∧ (decode cX10_right 70 = .ok (.lstore_n 2, 1)) ∧ (decode cX10_right 71 = .ok (.lload 4, 2)) ∧ (decode cX10_right 73 = .ok (.aload_n 0, 1)) ∧ (decode cX10_right 74 = .ok (.getfield 72, 3)) ∧ (decode cX10_right 77 = .ok (.aload_n 0, 1)) ∧ (decode cX10_right 78 = .ok (.getfield 31, 3)) := by decide +kernel
theorem dX10_right_47 : decode cX10_right 47 = .ok (.if_icmp .ge 51, 3) := db200.1
theorem dX10_right_98 : decode cX10_right 98 = .ok (.aload_n 0, 1) := db200.2.1
theorem dX10_right_99 : decode cX10_right 99 = .ok (.getfield 72, 3) := db200.2.2.1
theorem dX10_right_102 : decode cX10_right 102 = .ok (.lload_n 2, 1) := db200.2.2.2.1
theorem dX10_right_103 : decode cX10_right 103 = .ok (.lload 4, 2) := db200.2.2.2.2.1
theorem dX10_right_105 : decode cX10_right 105 = .ok (.iload_n 1, 1) := db200.2.2.2.2.2.1
theorem dX10_right_106 : decode cX10_right 106 = .ok (.invokevirtual 285, 3) := db200.2.2.2.2.2.2.1
theorem dX10_right_109 : decode cX10_right 109 = .ok (.lreturn, 1) := db200.2.2.2.2.2.2.2.1
theorem dX10_right_50 : decode cX10_right 50 = .ok (.lload_n 2, 1) := db200.2.2.2.2.2.2.2.2.1
theorem dX10_right_51 : decode cX10_right 51 = .ok (.aload_n 0, 1) := db200.2.2.2.2.2.2.2.2.2.1
theorem dX10_right_52 : decode cX10_right 52 = .ok (.getfield 72, 3) := db200.2.2.2.2.2.2.2.2.2.2.1
theorem dX10_right_55 : decode cX10_right 55 = .ok (.aload_n 0, 1) := db200.2.2.2.2.2.2.2.2.2.2.2.1
theorem dX10_right_56 : decode cX10_right 56 = .ok (.getfield 31, 3) := db200.2.2.2.2.2.2.2.2.2.2.2.2.1
theorem dX10_right_59 : decode cX10_right 59 = .ok (.getfield 98, 3) := db200.2.2.2.2.2.2.2.2.2.2.2.2.2.1
theorem dX10_right_62 : decode cX10_right 62 = .ok (.iload 6, 2) := db200.2.2.2.2.2.2.2.2.2.2.2.2.2.2.1
theorem dX10_right_64 : decode cX10_right 64 = .ok (.iload 6, 2) := db200.2.2.2.2.2.2.2.2.2.2.2.2.2.2.2.1
theorem dX10_right_66 : decode cX10_right 66 = .ok (.invokevirtual 291, 3) := db200.2.2.2.2.2.2.2.2.2.2.2.2.2.2.2.2.1
theorem dX10_right_69 : decode cX10_right 69 = .ok (.ladd, 1) := db200.2.2.2.2.2.2.2.2.2.2.2.2.2.2.2.2.2.1
theorem dX10_right_70 : decode cX10_right 70 = .ok (.lstore_n 2, 1) := db200.2.2.2.2.2.2.2.2.2.2.2.2.2.2.2.2.2.2.1
theorem dX10_right_71 : decode cX10_right 71 = .ok (.lload 4, 2) := db200.2.2.2.2.2.2.2.2.2.2.2.2.2.2.2.2.2.2.2.1
theorem dX10_right_73 : decode cX10_right 73 = .ok (.aload_n 0, 1) := db200.2.2.2.2.2.2.2.2.2.2.2.2.2.2.2.2.2.2.2.2.1
theorem dX10_right_74 : decode cX10_right 74 = .ok (.getfield 72, 3) := db200.2.2.2.2.2.2.2.2.2.2.2.2.2.2.2.2.2.2.2.2.2.1
theorem dX10_right_77 : decode cX10_right 77 = .ok (.aload_n 0, 1) := db200.2.2.2.2.2.2.2.2.2.2.2.2.2.2.2.2.2.2.2.2.2.2.1
theorem dX10_right_78 : decode cX10_right 78 = .ok (.getfield 31, 3) := db200.2.2.2.2.2.2.2.2.2.2.2.2.2.2.2.2.2.2.2.2.2.2.2
theorem db201 : (decode cX10_right 81 = .ok (.getfield 98, 3)) ∧ (decode cX10_right 84 = .ok (.iload 6, 2)) ∧ (decode cX10_right 86 = .ok (.invokevirtual 295, 3)) ∧ (decode cX10_right 89 = .ok (.ladd, 1)) ∧ (decode cX10_right 90 = .ok (.lstore 4, 2)) ∧ (decode cX10_right 92 = .ok (.iinc 6 1, 3)) ∧ (decode cX10_right 95 = .ok (.goto (-60), 3)) := by decide +kernel
theorem dX10_right_81 : decode cX10_right 81 = .ok (.getfield 98, 3) := db201.1
theorem dX10_right_84 : decode cX10_right 84 = .ok (.iload 6, 2) := db201.2.1
theorem dX10_right_86 : decode cX10_right 86 = .ok (.invokevirtual 295, 3) := db201.2.2.1
theorem dX10_right_89 : decode cX10_right 89 = .ok (.ladd, 1) := db201.2.2.2.1
theorem dX10_right_90 : decode cX10_right 90 = .ok (.lstore 4, 2) := db201.2.2.2.2.1
theorem dX10_right_92 : decode cX10_right 92 = .ok (.iinc 6 1, 3) := db201.2.2.2.2.2.1
theorem dX10_right_95 : decode cX10_right 95 = .ok (.goto (-60), 3) := db201.2.2.2.2.2.2
theorem db202 : (decode cX10_room 0 = .ok (.aload_n 0, 1)) ∧ (decode cX10_room 1 = .ok (.iload_n 1, 1)) ∧ (decode cX10_room 2 = .ok (.invokevirtual 120, 3)) ∧ (decode cX10_room 5 = .ok (.ifCond .eq 12, 3)) ∧ (decode cX10_room 17 = .ok (.bipush (-2), 2)) ∧ (decode cX10_room 19 = .ok (.ireturn, 1)) ∧ (decode cX10_room 8 = .ok (.iload_n 2, 1)) ∧ (decode cX10_room 9 = .ok (.ifCond .lt 8, 3)) ∧ (decode cX10_room 12 = .ok (.iload_n 2, 1)) ∧ (decode cX10_room 13 = .ok (.iconst 3, 1)) ∧ (decode cX10_room 14 = .ok (.if_icmp .le 6, 3)) ∧ (decode cX10_room 20 = .ok (.aload_n 0, 1)) ∧ (decode cX10_room 21 = .ok (.getfield 31, 3)) ∧ (decode cX10_room 24 = .ok (.getfield 98, 3)) ∧ (decode cX10_room 27 = .ok (.iload_n 2, 1)) ∧ (decode cX10_room 28 = .ok (.invokevirtual 124, 3)) ∧ (decode cX10_room 31 = .ok (.iload_n 1, 1)) ∧ (decode cX10_room 32 = .ok (.iaload, 1)) ∧ (decode cX10_room 33 = .ok (.ireturn, 1)) := by decide +kernel
theorem dX10_room_0 : decode cX10_room 0 = .ok (.aload_n 0, 1) := db202.1
theorem dX10_room_1 : decode cX10_room 1 = .ok (.iload_n 1, 1) := db202.2.1
theorem dX10_room_2 : decode cX10_room 2 = .ok (.invokevirtual 120, 3) := db202.2.2.1
theorem dX10_room_5 : decode cX10_room 5 = .ok (.ifCond .eq 12, 3) := db202.2.2.2.1
theorem dX10_room_17 : decode cX10_room 17 = .ok (.bipush (-2), 2) := db202.2.2.2.2.1
theorem dX10_room_19 : decode cX10_room 19 = .ok (.ireturn, 1) := db202.2.2.2.2.2.1
theorem dX10_room_8 : decode cX10_room 8 = .ok (.iload_n 2, 1) := db202.2.2.2.2.2.2.1
theorem dX10_room_9 : decode cX10_room 9 = .ok (.ifCond .lt 8, 3) := db202.2.2.2.2.2.2.2.1
theorem dX10_room_12 : decode cX10_room 12 = .ok (.iload_n 2, 1) := db202.2.2.2.2.2.2.2.2.1
theorem dX10_room_13 : decode cX10_room 13 = .ok (.iconst 3, 1) := db202.2.2.2.2.2.2.2.2.2.1
theorem dX10_room_14 : decode cX10_room 14 = .ok (.if_icmp .le 6, 3) := db202.2.2.2.2.2.2.2.2.2.2.1
theorem dX10_room_20 : decode cX10_room 20 = .ok (.aload_n 0, 1) := db202.2.2.2.2.2.2.2.2.2.2.2.1
theorem dX10_room_21 : decode cX10_room 21 = .ok (.getfield 31, 3) := db202.2.2.2.2.2.2.2.2.2.2.2.2.1
theorem dX10_room_24 : decode cX10_room 24 = .ok (.getfield 98, 3) := db202.2.2.2.2.2.2.2.2.2.2.2.2.2.1
theorem dX10_room_27 : decode cX10_room 27 = .ok (.iload_n 2, 1) := db202.2.2.2.2.2.2.2.2.2.2.2.2.2.2.1
theorem dX10_room_28 : decode cX10_room 28 = .ok (.invokevirtual 124, 3) := db202.2.2.2.2.2.2.2.2.2.2.2.2.2.2.2.1
theorem dX10_room_31 : decode cX10_room 31 = .ok (.iload_n 1, 1) := db202.2.2.2.2.2.2.2.2.2.2.2.2.2.2.2.2.1
theorem dX10_room_32 : decode cX10_room 32 = .ok (.iaload, 1) := db202.2.2.2.2.2.2.2.2.2.2.2.2.2.2.2.2.2.1
theorem dX10_room_33 : decode cX10_room 33 = .ok (.ireturn, 1) := db202.2.2.2.2.2.2.2.2.2.2.2.2.2.2.2.2.2.2
theorem db203 : (decode cX10_round 0 = .ok (.aload_n 0, 1)) ∧ (decode cX10_round 1 = .ok (.iload_n 1, 1)) ∧ (decode cX10_round 2 = .ok (.iconst 1, 1)) ∧ (decode cX10_round 3 = .ok (.invokevirtual 186, 3)) ∧ (decode cX10_round 6 = .ok (.istore_n 2, 1)) ∧ (decode cX10_round 7 = .ok (.iload_n 2, 1)) ∧ (decode cX10_round 8 = .ok (.ifCond .eq 7, 3)) ∧ (decode cX10_round 15 = .ok (.aload_n 0, 1)) ∧ (decode cX10_round 16 = .ok (.aload_n 0, 1)) ∧ (decode cX10_round 17 = .ok (.getfield 41, 3)) ∧ (decode cX10_round 20 = .ok (.iload_n 1, 1)) ∧ (decode cX10_round 21 = .ok (.aaload, 1)) ∧ (decode cX10_round 22 = .ok (.iconst 0, 1)) ∧ (decode cX10_round 23 = .ok (.invokevirtual 190, 3)) ∧ (decode cX10_round 26 = .ok (.ireturn, 1)) ∧ (decode cX10_round 11 = .ok (.iload_n 2, 1)) ∧ (decode cX10_round 12 = .ok (.goto 14, 3)) := by decide +kernel
theorem dX10_round_0 : decode cX10_round 0 = .ok (.aload_n 0, 1) := db203.1
theorem dX10_round_1 : decode cX10_round 1 = .ok (.iload_n 1, 1) := db203.2.1
theorem dX10_round_2 : decode cX10_round 2 = .ok (.iconst 1, 1) := db203.2.2.1
theorem dX10_round_3 : decode cX10_round 3 = .ok (.invokevirtual 186, 3) := db203.2.2.2.1
theorem dX10_round_6 : decode cX10_round 6 = .ok (.istore_n 2, 1) := db203.2.2.2.2.1
theorem dX10_round_7 : decode cX10_round 7 = .ok (.iload_n 2, 1) := db203.2.2.2.2.2.1
theorem dX10_round_8 : decode cX10_round 8 = .ok (.ifCond .eq 7, 3) := db203.2.2.2.2.2.2.1
theorem dX10_round_15 : decode cX10_round 15 = .ok (.aload_n 0, 1) := db203.2.2.2.2.2.2.2.1
theorem dX10_round_16 : decode cX10_round 16 = .ok (.aload_n 0, 1) := db203.2.2.2.2.2.2.2.2.1
theorem dX10_round_17 : decode cX10_round 17 = .ok (.getfield 41, 3) := db203.2.2.2.2.2.2.2.2.2.1
theorem dX10_round_20 : decode cX10_round 20 = .ok (.iload_n 1, 1) := db203.2.2.2.2.2.2.2.2.2.2.1
theorem dX10_round_21 : decode cX10_round 21 = .ok (.aaload, 1) := db203.2.2.2.2.2.2.2.2.2.2.2.1
theorem dX10_round_22 : decode cX10_round 22 = .ok (.iconst 0, 1) := db203.2.2.2.2.2.2.2.2.2.2.2.2.1
theorem dX10_round_23 : decode cX10_round 23 = .ok (.invokevirtual 190, 3) := db203.2.2.2.2.2.2.2.2.2.2.2.2.2.1
theorem dX10_round_26 : decode cX10_round 26 = .ok (.ireturn, 1) := db203.2.2.2.2.2.2.2.2.2.2.2.2.2.2.1
theorem dX10_round_11 : decode cX10_round 11 = .ok (.iload_n 2, 1) := db203.2.2.2.2.2.2.2.2.2.2.2.2.2.2.2.1
theorem dX10_round_12 : decode cX10_round 12 = .ok (.goto 14, 3) := db203.2.2.2.2.2.2.2.2.2.2.2.2.2.2.2.2
theorem db204 : (decode cX10_row 0 = .ok (.aload_n 0, 1)) ∧ (decode cX10_row 1 = .ok (.iload_n 1, 1)) ∧ (decode cX10_row 2 = .ok (.invokevirtual 348, 3)) ∧ (decode cX10_row 5 = .ok (.ifCond .eq 18, 3)) ∧ (decode cX10_row 23 = .ok (.bipush (-2), 2)) ∧ (decode cX10_row 25 = .ok (.ireturn, 1)) ∧ (decode cX10_row 8 = .ok (.iload_n 2, 1)) ∧ (decode cX10_row 9 = .ok (.ifCond .lt 14, 3)) ∧ (decode cX10_row 12 = .ok (.iload_n 2, 1)) ∧ (decode cX10_row 13 = .ok (.iconst 3, 1)) ∧ (decode cX10_row 14 = .ok (.if_icmp .gt 9, 3)) ∧ (decode cX10_row 17 = .ok (.iload_n 3, 1)) ∧ (decode cX10_row 18 = .ok (.bipush 60, 2)) ∧ (decode cX10_row 20 = .ok (.if_icmp .le 6, 3)) ∧ (decode cX10_row 26 = .ok (.iload_n 3, 1)) ∧ (decode cX10_row 27 = .ok (.ifCond .ge 6, 3)) ∧ (decode cX10_row 33 = .ok (.aload_n 0, 1)) ∧ (decode cX10_row 34 = .ok (.getfield 41, 3)) ∧ (decode cX10_row 37 = .ok (.iload_n 1, 1)) ∧ (decode cX10_row 38 = .ok (.aaload, 1)) ∧ (decode cX10_row 39 = .ok (.iload_n 2, 1)) ∧ (decode cX10_row 40 = .ok (.iload_n 3, 1)) ∧ (decode cX10_row 41 = .ok (.invokevirtual 351, 3)) ∧ (decode cX10_row 44 = .ok (.iconst 0, 1)) := by decide +kernel
theorem dX10_row_0 : decode cX10_row 0 = .ok (.aload_n 0, 1) := db204.1
theorem dX10_row_1 : decode cX10_row 1 = .ok (.iload_n 1, 1) := db204.2.1
theorem dX10_row_2 : decode cX10_row 2 = .ok (.invokevirtual 348, 3) := db204.2.2.1
theorem dX10_row_5 : decode cX10_row 5 = .ok (.ifCond .eq 18, 3) := db204.2.2.2.1
theorem dX10_row_23 : decode cX10_row 23 = .ok (.bipush (-2), 2) := db204.2.2.2.2.1
theorem dX10_row_25 : decode cX10_row 25 = .ok (.ireturn, 1) := db204.2.2.2.2.2.1
theorem dX10_row_8 : decode cX10_row 8 = .ok (.iload_n 2, 1) := db204.2.2.2.2.2.2.1
theorem dX10_row_9 : decode cX10_row 9 = .ok (.ifCond .lt 14, 3) := db204.2.2.2.2.2.2.2.1
theorem dX10_row_12 : decode cX10_row 12 = .ok (.iload_n 2, 1) := db204.2.2.2.2.2.2.2.2.1
theorem dX10_row_13 : decode cX10_row 13 = .ok (.iconst 3, 1) := db204.2.2.2.2.2.2.2.2.2.1
theorem dX10_row_14 : decode cX10_row 14 = .ok (.if_icmp .gt 9, 3) := db204.2.2.2.2.2.2.2.2.2.2.1
theorem dX10_row_17 : decode cX10_row 17 = .ok (.iload_n 3, 1) := db204.2.2.2.2.2.2.2.2.2.2.2.1
theorem dX10_row_18 : decode cX10_row 18 = .ok (.bipush 60, 2) := db204.2.2.2.2.2.2.2.2.2.2.2.2.1
theorem dX10_row_20 : decode cX10_row 20 = .ok (.if_icmp .le 6, 3) := db204.2.2.2.2.2.2.2.2.2.2.2.2.2.1
theorem dX10_row_26 : decode cX10_row 26 = .ok (.iload_n 3, 1) := db204.2.2.2.2.2.2.2.2.2.2.2.2.2.2.1
theorem dX10_row_27 : decode cX10_row 27 = .ok (.ifCond .ge 6, 3) := db204.2.2.2.2.2.2.2.2.2.2.2.2.2.2.2.1
theorem dX10_row_33 : decode cX10_row 33 = .ok (.aload_n 0, 1) := db204.2.2.2.2.2.2.2.2.2.2.2.2.2.2.2.2.1
theorem dX10_row_34 : decode cX10_row 34 = .ok (.getfield 41, 3) := db204.2.2.2.2.2.2.2.2.2.2.2.2.2.2.2.2.2.1
theorem dX10_row_37 : decode cX10_row 37 = .ok (.iload_n 1, 1) := db204.2.2.2.2.2.2.2.2.2.2.2.2.2.2.2.2.2.2.1
theorem dX10_row_38 : decode cX10_row 38 = .ok (.aaload, 1) := db204.2.2.2.2.2.2.2.2.2.2.2.2.2.2.2.2.2.2.2.1
theorem dX10_row_39 : decode cX10_row 39 = .ok (.iload_n 2, 1) := db204.2.2.2.2.2.2.2.2.2.2.2.2.2.2.2.2.2.2.2.2.1
theorem dX10_row_40 : decode cX10_row 40 = .ok (.iload_n 3, 1) := db204.2.2.2.2.2.2.2.2.2.2.2.2.2.2.2.2.2.2.2.2.2.1
theorem dX10_row_41 : decode cX10_row 41 = .ok (.invokevirtual 351, 3) := db204.2.2.2.2.2.2.2.2.2.2.2.2.2.2.2.2.2.2.2.2.2.2.1
theorem dX10_row_44 : decode cX10_row 44 = .ok (.iconst 0, 1) := db204.2.2.2.2.2.2.2.2.2.2.2.2.2.2.2.2.2.2.2.2.2.2.2
theorem db205 : (decode cX10_row 45 = .ok (.ireturn, 1)) ∧ (decode cX10_row 30 = .ok (.bipush (-3), 2)) ∧ (decode cX10_row 32 = .ok (.ireturn, 1)) := by decide +kernel
theorem dX10_row_45 : decode cX10_row 45 = .ok (.ireturn, 1) := db205.1
theorem dX10_row_30 : decode cX10_row 30 = .ok (.bipush (-3), 2) := db205.2.1
theorem dX10_row_32 : decode cX10_row 32 = .ok (.ireturn, 1) := db205.2.2
theorem db206 : (decode cX10_shut 0 = .ok (.aload_n 0, 1)) ∧ (decode cX10_shut 1 = .ok (.iload_n 1, 1)) ∧ (decode cX10_shut 2 = .ok (.invokevirtual 120, 3)) ∧ (decode cX10_shut 5 = .ok (.ifCond .eq 25, 3)) ∧ (decode cX10_shut 30 = .ok (.bipush (-2), 2)) ∧ (decode cX10_shut 32 = .ok (.ireturn, 1)) ∧ (decode cX10_shut 8 = .ok (.aload_n 0, 1)) ∧ (decode cX10_shut 9 = .ok (.iload_n 2, 1)) ∧ (decode cX10_shut 10 = .ok (.invokevirtual 120, 3)) ∧ (decode cX10_shut 13 = .ok (.ifCond .eq 17, 3)) ∧ (decode cX10_shut 16 = .ok (.iload_n 1, 1)) ∧ (decode cX10_shut 17 = .ok (.iload_n 2, 1)) ∧ (decode cX10_shut 18 = .ok (.if_icmp .eq 12, 3)) ∧ (decode cX10_shut 21 = .ok (.iload_n 3, 1)) ∧ (decode cX10_shut 22 = .ok (.ifCond .lt 8, 3)) ∧ (decode cX10_shut 25 = .ok (.iload_n 3, 1)) ∧ (decode cX10_shut 26 = .ok (.iconst 1, 1)) ∧ (decode cX10_shut 27 = .ok (.if_icmp .le 6, 3)) ∧ (decode cX10_shut 33 = .ok (.aload_n 0, 1)) ∧ (decode cX10_shut 34 = .ok (.getfield 31, 3)) ∧ (decode cX10_shut 37 = .ok (.getfield 105, 3)) ∧ (decode cX10_shut 40 = .ok (.ifCond .le 6, 3)) ∧ (decode cX10_shut 46 = .ok (.aload_n 0, 1)) ∧ (decode cX10_shut 47 = .ok (.getfield 31, 3)) := by decide +kernel
theorem dX10_shut_0 : decode cX10_shut 0 = .ok (.aload_n 0, 1) := db206.1
theorem dX10_shut_1 : decode cX10_shut 1 = .ok (.iload_n 1, 1) := db206.2.1
theorem dX10_shut_2 : decode cX10_shut 2 = .ok (.invokevirtual 120, 3) := db206.2.2.1
theorem dX10_shut_5 : decode cX10_shut 5 = .ok (.ifCond .eq 25, 3) := db206.2.2.2.1
theorem dX10_shut_30 : decode cX10_shut 30 = .ok (.bipush (-2), 2) := db206.2.2.2.2.1
theorem dX10_shut_32 : decode cX10_shut 32 = .ok (.ireturn, 1) := db206.2.2.2.2.2.1
theorem dX10_shut_8 : decode cX10_shut 8 = .ok (.aload_n 0, 1) := db206.2.2.2.2.2.2.1
theorem dX10_shut_9 : decode cX10_shut 9 = .ok (.iload_n 2, 1) := db206.2.2.2.2.2.2.2.1
theorem dX10_shut_10 : decode cX10_shut 10 = .ok (.invokevirtual 120, 3) := db206.2.2.2.2.2.2.2.2.1
theorem dX10_shut_13 : decode cX10_shut 13 = .ok (.ifCond .eq 17, 3) := db206.2.2.2.2.2.2.2.2.2.1
theorem dX10_shut_16 : decode cX10_shut 16 = .ok (.iload_n 1, 1) := db206.2.2.2.2.2.2.2.2.2.2.1
theorem dX10_shut_17 : decode cX10_shut 17 = .ok (.iload_n 2, 1) := db206.2.2.2.2.2.2.2.2.2.2.2.1
theorem dX10_shut_18 : decode cX10_shut 18 = .ok (.if_icmp .eq 12, 3) := db206.2.2.2.2.2.2.2.2.2.2.2.2.1
theorem dX10_shut_21 : decode cX10_shut 21 = .ok (.iload_n 3, 1) := db206.2.2.2.2.2.2.2.2.2.2.2.2.2.1
theorem dX10_shut_22 : decode cX10_shut 22 = .ok (.ifCond .lt 8, 3) := db206.2.2.2.2.2.2.2.2.2.2.2.2.2.2.1
theorem dX10_shut_25 : decode cX10_shut 25 = .ok (.iload_n 3, 1) := db206.2.2.2.2.2.2.2.2.2.2.2.2.2.2.2.1
theorem dX10_shut_26 : decode cX10_shut 26 = .ok (.iconst 1, 1) := db206.2.2.2.2.2.2.2.2.2.2.2.2.2.2.2.2.1
theorem dX10_shut_27 : decode cX10_shut 27 = .ok (.if_icmp .le 6, 3) := db206.2.2.2.2.2.2.2.2.2.2.2.2.2.2.2.2.2.1
theorem dX10_shut_33 : decode cX10_shut 33 = .ok (.aload_n 0, 1) := db206.2.2.2.2.2.2.2.2.2.2.2.2.2.2.2.2.2.2.1
theorem dX10_shut_34 : decode cX10_shut 34 = .ok (.getfield 31, 3) := db206.2.2.2.2.2.2.2.2.2.2.2.2.2.2.2.2.2.2.2.1
theorem dX10_shut_37 : decode cX10_shut 37 = .ok (.getfield 105, 3) := db206.2.2.2.2.2.2.2.2.2.2.2.2.2.2.2.2.2.2.2.2.1
theorem dX10_shut_40 : decode cX10_shut 40 = .ok (.ifCond .le 6, 3) := db206.2.2.2.2.2.2.2.2.2.2.2.2.2.2.2.2.2.2.2.2.2.1
theorem dX10_shut_46 : decode cX10_shut 46 = .ok (.aload_n 0, 1) := db206.2.2.2.2.2.2.2.2.2.2.2.2.2.2.2.2.2.2.2.2.2.2.1
theorem dX10_shut_47 : decode cX10_shut 47 = .ok (.getfield 31, 3) := db206.2.2.2.2.2.2.2.2.2.2.2.2.2.2.2.2.2.2.2.2.2.2.2
theorem db207 : (decode cX10_shut 50 = .ok (.getfield 98, 3)) ∧ (decode cX10_shut 53 = .ok (.iload_n 1, 1)) ∧ (decode cX10_shut 54 = .ok (.iload_n 2, 1)) ∧ (decode cX10_shut 55 = .ok (.invokevirtual 324, 3)) ∧ (decode cX10_shut 58 = .ok (.istore 4, 2)) ∧ (decode cX10_shut 60 = .ok (.iload_n 3, 1)) ∧ (decode cX10_shut 61 = .ok (.iconst 1, 1)) ∧ (decode cX10_shut 92 = .ok (.iload 4, 2)) ∧ (decode cX10_shut 94 = .ok (.ifCond .eq 7, 3)) ∧ (decode cX10_shut 101 = .ok (.iconst 0, 1)) ∧ (decode cX10_shut 102 = .ok (.ireturn, 1)) ∧ (decode cX10_shut 97 = .ok (.iconst 1, 1)) ∧ (decode cX10_shut 98 = .ok (.goto 4, 3)) ∧ (decode cX10_shut 62 = .ok (.if_icmp .ne 18, 3)) ∧ (decode cX10_shut 80 = .ok (.aload_n 0, 1)) ∧ (decode cX10_shut 81 = .ok (.getfield 31, 3)) ∧ (decode cX10_shut 84 = .ok (.getfield 98, 3)) ∧ (decode cX10_shut 87 = .ok (.iload_n 1, 1)) ∧ (decode cX10_shut 88 = .ok (.iload_n 2, 1)) ∧ (decode cX10_shut 89 = .ok (.invokevirtual 332, 3)) ∧ (decode cX10_shut 65 = .ok (.aload_n 0, 1)) ∧ (decode cX10_shut 66 = .ok (.getfield 31, 3)) ∧ (decode cX10_shut 69 = .ok (.getfield 98, 3)) ∧ (decode cX10_shut 72 = .ok (.iload_n 1, 1)) := by decide +kernel
theorem dX10_shut_50 : decode cX10_shut 50 = .ok (.getfield 98, 3) := db207.1
theorem dX10_shut_53 : decode cX10_shut 53 = .ok (.iload_n 1, 1) := db207.2.1
theorem dX10_shut_54 : decode cX10_shut 54 = .ok (.iload_n 2, 1) := db207.2.2.1
theorem dX10_shut_55 : decode cX10_shut 55 = .ok (.invokevirtual 324, 3) := db207.2.2.2.1
theorem dX10_shut_58 : decode cX10_shut 58 = .ok (.istore 4, 2) := db207.2.2.2.2.1
theorem dX10_shut_60 : decode cX10_shut 60 = .ok (.iload_n 3, 1) := db207.2.2.2.2.2.1
theorem dX10_shut_61 : decode cX10_shut 61 = .ok (.iconst 1, 1) := db207.2.2.2.2.2.2.1
theorem dX10_shut_92 : decode cX10_shut 92 = .ok (.iload 4, 2) := db207.2.2.2.2.2.2.2.1
theorem dX10_shut_94 : decode cX10_shut 94 = .ok (.ifCond .eq 7, 3) := db207.2.2.2.2.2.2.2.2.1
theorem dX10_shut_101 : decode cX10_shut 101 = .ok (.iconst 0, 1) := db207.2.2.2.2.2.2.2.2.2.1
theorem dX10_shut_102 : decode cX10_shut 102 = .ok (.ireturn, 1) := db207.2.2.2.2.2.2.2.2.2.2.1
theorem dX10_shut_97 : decode cX10_shut 97 = .ok (.iconst 1, 1) := db207.2.2.2.2.2.2.2.2.2.2.2.1
theorem dX10_shut_98 : decode cX10_shut 98 = .ok (.goto 4, 3) := db207.2.2.2.2.2.2.2.2.2.2.2.2.1
theorem dX10_shut_62 : decode cX10_shut 62 = .ok (.if_icmp .ne 18, 3) := db207.2.2.2.2.2.2.2.2.2.2.2.2.2.1
theorem dX10_shut_80 : decode cX10_shut 80 = .ok (.aload_n 0, 1) := db207.2.2.2.2.2.2.2.2.2.2.2.2.2.2.1
theorem dX10_shut_81 : decode cX10_shut 81 = .ok (.getfield 31, 3) := db207.2.2.2.2.2.2.2.2.2.2.2.2.2.2.2.1
theorem dX10_shut_84 : decode cX10_shut 84 = .ok (.getfield 98, 3) := db207.2.2.2.2.2.2.2.2.2.2.2.2.2.2.2.2.1
theorem dX10_shut_87 : decode cX10_shut 87 = .ok (.iload_n 1, 1) := db207.2.2.2.2.2.2.2.2.2.2.2.2.2.2.2.2.2.1
theorem dX10_shut_88 : decode cX10_shut 88 = .ok (.iload_n 2, 1) := db207.2.2.2.2.2.2.2.2.2.2.2.2.2.2.2.2.2.2.1
theorem dX10_shut_89 : decode cX10_shut 89 = .ok (.invokevirtual 332, 3) := db207.2.2.2.2.2.2.2.2.2.2.2.2.2.2.2.2.2.2.2.1
theorem dX10_shut_65 : decode cX10_shut 65 = .ok (.aload_n 0, 1) := db207.2.2.2.2.2.2.2.2.2.2.2.2.2.2.2.2.2.2.2.2.1
theorem dX10_shut_66 : decode cX10_shut 66 = .ok (.getfield 31, 3) := db207.2.2.2.2.2.2.2.2.2.2.2.2.2.2.2.2.2.2.2.2.2.1
theorem dX10_shut_69 : decode cX10_shut 69 = .ok (.getfield 98, 3) := db207.2.2.2.2.2.2.2.2.2.2.2.2.2.2.2.2.2.2.2.2.2.2.1
theorem dX10_shut_72 : decode cX10_shut 72 = .ok (.iload_n 1, 1) := db207.2.2.2.2.2.2.2.2.2.2.2.2.2.2.2.2.2.2.2.2.2.2.2
theorem db208 : (decode cX10_shut 73 = .ok (.iload_n 2, 1)) ∧ (decode cX10_shut 74 = .ok (.invokevirtual 328, 3)) ∧ (decode cX10_shut 77 = .ok (.goto 15, 3)) ∧ (decode cX10_shut 43 = .ok (.bipush (-5), 2)) ∧ (decode cX10_shut 45 = .ok (.ireturn, 1)) := by decide +kernel
theorem dX10_shut_73 : decode cX10_shut 73 = .ok (.iload_n 2, 1) := db208.1
theorem dX10_shut_74 : decode cX10_shut 74 = .ok (.invokevirtual 328, 3) := db208.2.1
theorem dX10_shut_77 : decode cX10_shut 77 = .ok (.goto 15, 3) := db208.2.2.1
theorem dX10_shut_43 : decode cX10_shut 43 = .ok (.bipush (-5), 2) := db208.2.2.2.1
theorem dX10_shut_45 : decode cX10_shut 45 = .ok (.ireturn, 1) := db208.2.2.2.2
theorem db209 : (decode cX10_slate 0 = .ok (.aload_n 0, 1)) ∧ (decode cX10_slate 1 = .ok (.iload_n 1, 1)) ∧ (decode cX10_slate 2 = .ok (.invokevirtual 128, 3)) ∧ (decode cX10_slate 5 = .ok (.ifCond .eq 11, 3)) ∧ (decode cX10_slate 16 = .ok (.bipush (-2), 2)) ∧ (decode cX10_slate 18 = .ok (.ireturn, 1)) ∧ (decode cX10_slate 8 = .ok (.aload_n 0, 1)) ∧ (decode cX10_slate 9 = .ok (.iload_n 2, 1)) ∧ (decode cX10_slate 10 = .ok (.invokevirtual 128, 3)) ∧ (decode cX10_slate 13 = .ok (.ifCond .ne 6, 3)) ∧ (decode cX10_slate 19 = .ok (.aload_n 0, 1)) ∧ (decode cX10_slate 20 = .ok (.getfield 31, 3)) ∧ (decode cX10_slate 23 = .ok (.getfield 98, 3)) ∧ (decode cX10_slate 26 = .ok (.getfield 138, 3)) ∧ (decode cX10_slate 29 = .ok (.iload_n 1, 1)) ∧ (decode cX10_slate 30 = .ok (.bipush 6, 2)) ∧ (decode cX10_slate 32 = .ok (.imul, 1)) ∧ (decode cX10_slate 33 = .ok (.iload_n 2, 1)) ∧ (decode cX10_slate 34 = .ok (.iadd, 1)) ∧ (decode cX10_slate 35 = .ok (.iaload, 1)) ∧ (decode cX10_slate 36 = .ok (.ireturn, 1)) := by decide +kernel
theorem dX10_slate_0 : decode cX10_slate 0 = .ok (.aload_n 0, 1) := db209.1
theorem dX10_slate_1 : decode cX10_slate 1 = .ok (.iload_n 1, 1) := db209.2.1
theorem dX10_slate_2 : decode cX10_slate 2 = .ok (.invokevirtual 128, 3) := db209.2.2.1
theorem dX10_slate_5 : decode cX10_slate 5 = .ok (.ifCond .eq 11, 3) := db209.2.2.2.1
theorem dX10_slate_16 : decode cX10_slate 16 = .ok (.bipush (-2), 2) := db209.2.2.2.2.1
theorem dX10_slate_18 : decode cX10_slate 18 = .ok (.ireturn, 1) := db209.2.2.2.2.2.1
theorem dX10_slate_8 : decode cX10_slate 8 = .ok (.aload_n 0, 1) := db209.2.2.2.2.2.2.1
theorem dX10_slate_9 : decode cX10_slate 9 = .ok (.iload_n 2, 1) := db209.2.2.2.2.2.2.2.1
theorem dX10_slate_10 : decode cX10_slate 10 = .ok (.invokevirtual 128, 3) := db209.2.2.2.2.2.2.2.2.1
theorem dX10_slate_13 : decode cX10_slate 13 = .ok (.ifCond .ne 6, 3) := db209.2.2.2.2.2.2.2.2.2.1
theorem dX10_slate_19 : decode cX10_slate 19 = .ok (.aload_n 0, 1) := db209.2.2.2.2.2.2.2.2.2.2.1
theorem dX10_slate_20 : decode cX10_slate 20 = .ok (.getfield 31, 3) := db209.2.2.2.2.2.2.2.2.2.2.2.1
theorem dX10_slate_23 : decode cX10_slate 23 = .ok (.getfield 98, 3) := db209.2.2.2.2.2.2.2.2.2.2.2.2.1
theorem dX10_slate_26 : decode cX10_slate 26 = .ok (.getfield 138, 3) := db209.2.2.2.2.2.2.2.2.2.2.2.2.2.1
theorem dX10_slate_29 : decode cX10_slate 29 = .ok (.iload_n 1, 1) := db209.2.2.2.2.2.2.2.2.2.2.2.2.2.2.1
theorem dX10_slate_30 : decode cX10_slate 30 = .ok (.bipush 6, 2) := db209.2.2.2.2.2.2.2.2.2.2.2.2.2.2.2.1
theorem dX10_slate_32 : decode cX10_slate 32 = .ok (.imul, 1) := db209.2.2.2.2.2.2.2.2.2.2.2.2.2.2.2.2.1
theorem dX10_slate_33 : decode cX10_slate 33 = .ok (.iload_n 2, 1) := db209.2.2.2.2.2.2.2.2.2.2.2.2.2.2.2.2.2.1
theorem dX10_slate_34 : decode cX10_slate 34 = .ok (.iadd, 1) := db209.2.2.2.2.2.2.2.2.2.2.2.2.2.2.2.2.2.2.1
theorem dX10_slate_35 : decode cX10_slate 35 = .ok (.iaload, 1) := db209.2.2.2.2.2.2.2.2.2.2.2.2.2.2.2.2.2.2.2.1
theorem dX10_slate_36 : decode cX10_slate 36 = .ok (.ireturn, 1) := db209.2.2.2.2.2.2.2.2.2.2.2.2.2.2.2.2.2.2.2.2
theorem db210 : (decode cX10_slips 0 = .ok (.aload_n 0, 1)) ∧ (decode cX10_slips 1 = .ok (.iload_n 1, 1)) ∧ (decode cX10_slips 2 = .ok (.aload_n 0, 1)) ∧ (decode cX10_slips 3 = .ok (.iload_n 2, 1)) ∧ (decode cX10_slips 4 = .ok (.invokevirtual 120, 3)) ∧ (decode cX10_slips 7 = .ok (.invokevirtual 186, 3)) ∧ (decode cX10_slips 10 = .ok (.istore_n 3, 1)) ∧ (decode cX10_slips 11 = .ok (.iload_n 3, 1)) ∧ (decode cX10_slips 12 = .ok (.ifCond .eq 5, 3)) ∧ (decode cX10_slips 17 = .ok (.aload_n 0, 1)) ∧ (decode cX10_slips 18 = .ok (.getfield 41, 3)) ∧ (decode cX10_slips 21 = .ok (.iload_n 1, 1)) ∧ (decode cX10_slips 22 = .ok (.aaload, 1)) ∧ (decode cX10_slips 23 = .ok (.astore 4, 2)) ∧ (decode cX10_slips 25 = .ok (.aload_n 0, 1)) ∧ (decode cX10_slips 26 = .ok (.aload 4, 2)) ∧ (decode cX10_slips 28 = .ok (.iload_n 2, 1)) ∧ (decode cX10_slips 29 = .ok (.invokevirtual 208, 3)) ∧ (decode cX10_slips 32 = .ok (.ifCond .ne 6, 3)) ∧ (decode cX10_slips 38 = .ok (.iload_n 2, 1)) ∧ (decode cX10_slips 39 = .ok (.istore 5, 2)) ∧ (decode cX10_slips 41 = .ok (.aload_n 0, 1)) ∧ (decode cX10_slips 42 = .ok (.getfield 31, 3)) ∧ (decode cX10_slips 45 = .ok (.getfield 98, 3)) := by decide +kernel
theorem dX10_slips_0 : decode cX10_slips 0 = .ok (.aload_n 0, 1) := db210.1
theorem dX10_slips_1 : decode cX10_slips 1 = .ok (.iload_n 1, 1) := db210.2.1
theorem dX10_slips_2 : decode cX10_slips 2 = .ok (.aload_n 0, 1) := db210.2.2.1
theorem dX10_slips_3 : decode cX10_slips 3 = .ok (.iload_n 2, 1) := db210.2.2.2.1
theorem dX10_slips_4 : decode cX10_slips 4 = .ok (.invokevirtual 120, 3) := db210.2.2.2.2.1
theorem dX10_slips_7 : decode cX10_slips 7 = .ok (.invokevirtual 186, 3) := db210.2.2.2.2.2.1
theorem dX10_slips_10 : decode cX10_slips 10 = .ok (.istore_n 3, 1) := db210.2.2.2.2.2.2.1
theorem dX10_slips_11 : decode cX10_slips 11 = .ok (.iload_n 3, 1) := db210.2.2.2.2.2.2.2.1
theorem dX10_slips_12 : decode cX10_slips 12 = .ok (.ifCond .eq 5, 3) := db210.2.2.2.2.2.2.2.2.1
theorem dX10_slips_17 : decode cX10_slips 17 = .ok (.aload_n 0, 1) := db210.2.2.2.2.2.2.2.2.2.1
theorem dX10_slips_18 : decode cX10_slips 18 = .ok (.getfield 41, 3) := db210.2.2.2.2.2.2.2.2.2.2.1
theorem dX10_slips_21 : decode cX10_slips 21 = .ok (.iload_n 1, 1) := db210.2.2.2.2.2.2.2.2.2.2.2.1
theorem dX10_slips_22 : decode cX10_slips 22 = .ok (.aaload, 1) := db210.2.2.2.2.2.2.2.2.2.2.2.2.1
theorem dX10_slips_23 : decode cX10_slips 23 = .ok (.astore 4, 2) := db210.2.2.2.2.2.2.2.2.2.2.2.2.2.1
theorem dX10_slips_25 : decode cX10_slips 25 = .ok (.aload_n 0, 1) := db210.2.2.2.2.2.2.2.2.2.2.2.2.2.2.1
theorem dX10_slips_26 : decode cX10_slips 26 = .ok (.aload 4, 2) := db210.2.2.2.2.2.2.2.2.2.2.2.2.2.2.2.1
theorem dX10_slips_28 : decode cX10_slips 28 = .ok (.iload_n 2, 1) := db210.2.2.2.2.2.2.2.2.2.2.2.2.2.2.2.2.1
theorem dX10_slips_29 : decode cX10_slips 29 = .ok (.invokevirtual 208, 3) := db210.2.2.2.2.2.2.2.2.2.2.2.2.2.2.2.2.2.1
theorem dX10_slips_32 : decode cX10_slips 32 = .ok (.ifCond .ne 6, 3) := db210.2.2.2.2.2.2.2.2.2.2.2.2.2.2.2.2.2.2.1
theorem dX10_slips_38 : decode cX10_slips 38 = .ok (.iload_n 2, 1) := db210.2.2.2.2.2.2.2.2.2.2.2.2.2.2.2.2.2.2.2.1
theorem dX10_slips_39 : decode cX10_slips 39 = .ok (.istore 5, 2) := db210.2.2.2.2.2.2.2.2.2.2.2.2.2.2.2.2.2.2.2.2.1
theorem dX10_slips_41 : decode cX10_slips 41 = .ok (.aload_n 0, 1) := db210.2.2.2.2.2.2.2.2.2.2.2.2.2.2.2.2.2.2.2.2.2.1
theorem dX10_slips_42 : decode cX10_slips 42 = .ok (.getfield 31, 3) := db210.2.2.2.2.2.2.2.2.2.2.2.2.2.2.2.2.2.2.2.2.2.2.1
theorem dX10_slips_45 : decode cX10_slips 45 = .ok (.getfield 98, 3) := db210.2.2.2.2.2.2.2.2.2.2.2.2.2.2.2.2.2.2.2.2.2.2.2
theorem db211 : (decode cX10_slips 48 = .ok (.invokevirtual 238, 3)) ∧ (decode cX10_slips 51 = .ok (.iconst 1, 1)) ∧ (decode cX10_slips 52 = .ok (.iload 5, 2)) ∧ (decode cX10_slips 54 = .ok (.ishl, 1)) ∧ (decode cX10_slips 55 = .ok (.iconst (-1), 1)) ∧ (decode cX10_slips 56 = .ok (.ixor, 1)) ∧ (decode cX10_slips 57 = .ok (.iand, 1)) ∧ (decode cX10_slips 58 = .ok (.istore 6, 2)) ∧ (decode cX10_slips 60 = .ok (.iconst 0, 1)) ∧ (decode cX10_slips 61 = .ok (.istore 7, 2)) ∧ (decode cX10_slips 63 = .ok (.iload 7, 2)) ∧ (decode cX10_slips 65 = .ok (.aload 4, 2)) ∧ (decode cX10_slips 67 = .ok (.getfield 194, 3)) ∧ (decode cX10_slips 70 = .ok (.if_icmp .ge 49, 3)) ∧ (decode cX10_slips 119 = .ok (.iload 6, 2)) ∧ (decode cX10_slips 121 = .ok (.ireturn, 1)) ∧ (decode cX10_slips 73 = .ok (.aload 4, 2)) ∧ (decode cX10_slips 75 = .ok (.iload 7, 2)) ∧ (decode cX10_slips 77 = .ok (.invokevirtual 195, 3)) ∧ (decode cX10_slips 80 = .ok (.istore 8, 2)) ∧ (decode cX10_slips 82 = .ok (.iload 8, 2)) ∧ (decode cX10_slips 84 = .ok (.iconst (-1), 1)) ∧ (decode cX10_slips 92 = .ok (.aload_n 0, 1)) ∧ (decode cX10_slips 93 = .ok (.getfield 31, 3)) := by decide +kernel
theorem dX10_slips_48 : decode cX10_slips 48 = .ok (.invokevirtual 238, 3) := db211.1
theorem dX10_slips_51 : decode cX10_slips 51 = .ok (.iconst 1, 1) := db211.2.1
theorem dX10_slips_52 : decode cX10_slips 52 = .ok (.iload 5, 2) := db211.2.2.1
theorem dX10_slips_54 : decode cX10_slips 54 = .ok (.ishl, 1) := db211.2.2.2.1
theorem dX10_slips_55 : decode cX10_slips 55 = .ok (.iconst (-1), 1) := db211.2.2.2.2.1
theorem dX10_slips_56 : decode cX10_slips 56 = .ok (.ixor, 1) := db211.2.2.2.2.2.1
theorem dX10_slips_57 : decode cX10_slips 57 = .ok (.iand, 1) := db211.2.2.2.2.2.2.1
theorem dX10_slips_58 : decode cX10_slips 58 = .ok (.istore 6, 2) := db211.2.2.2.2.2.2.2.1
theorem dX10_slips_60 : decode cX10_slips 60 = .ok (.iconst 0, 1) := db211.2.2.2.2.2.2.2.2.1
theorem dX10_slips_61 : decode cX10_slips 61 = .ok (.istore 7, 2) := db211.2.2.2.2.2.2.2.2.2.1
theorem dX10_slips_63 : decode cX10_slips 63 = .ok (.iload 7, 2) := db211.2.2.2.2.2.2.2.2.2.2.1
theorem dX10_slips_65 : decode cX10_slips 65 = .ok (.aload 4, 2) := db211.2.2.2.2.2.2.2.2.2.2.2.1
theorem dX10_slips_67 : decode cX10_slips 67 = .ok (.getfield 194, 3) := db211.2.2.2.2.2.2.2.2.2.2.2.2.1
theorem dX10_slips_70 : decode cX10_slips 70 = .ok (.if_icmp .ge 49, 3) := db211.2.2.2.2.2.2.2.2.2.2.2.2.2.1
theorem dX10_slips_119 : decode cX10_slips 119 = .ok (.iload 6, 2) := db211.2.2.2.2.2.2.2.2.2.2.2.2.2.2.1
theorem dX10_slips_121 : decode cX10_slips 121 = .ok (.ireturn, 1) := db211.2.2.2.2.2.2.2.2.2.2.2.2.2.2.2.1
theorem dX10_slips_73 : decode cX10_slips 73 = .ok (.aload 4, 2) := db211.2.2.2.2.2.2.2.2.2.2.2.2.2.2.2.2.1
theorem dX10_slips_75 : decode cX10_slips 75 = .ok (.iload 7, 2) := db211.2.2.2.2.2.2.2.2.2.2.2.2.2.2.2.2.2.1
theorem dX10_slips_77 : decode cX10_slips 77 = .ok (.invokevirtual 195, 3) := db211.2.2.2.2.2.2.2.2.2.2.2.2.2.2.2.2.2.2.1
theorem dX10_slips_80 : decode cX10_slips 80 = .ok (.istore 8, 2) := db211.2.2.2.2.2.2.2.2.2.2.2.2.2.2.2.2.2.2.2.1
theorem dX10_slips_82 : decode cX10_slips 82 = .ok (.iload 8, 2) := db211.2.2.2.2.2.2.2.2.2.2.2.2.2.2.2.2.2.2.2.2.1
theorem dX10_slips_84 : decode cX10_slips 84 = .ok (.iconst (-1), 1) := db211.2.2.2.2.2.2.2.2.2.2.2.2.2.2.2.2.2.2.2.2.2.1
theorem dX10_slips_92 : decode cX10_slips 92 = .ok (.aload_n 0, 1) := db211.2.2.2.2.2.2.2.2.2.2.2.2.2.2.2.2.2.2.2.2.2.2.1
theorem dX10_slips_93 : decode cX10_slips 93 = .ok (.getfield 31, 3) := db211.2.2.2.2.2.2.2.2.2.2.2.2.2.2.2.2.2.2.2.2.2.2.2
theorem db212 : (decode cX10_slips 96 = .ok (.getfield 98, 3)) ∧ (decode cX10_slips 99 = .ok (.iload 6, 2)) ∧ (decode cX10_slips 101 = .ok (.invokevirtual 229, 3)) ∧ (decode cX10_slips 104 = .ok (.iconst 1, 1)) ∧ (decode cX10_slips 105 = .ok (.iload 5, 2)) ∧ (decode cX10_slips 107 = .ok (.ishl, 1)) ∧ (decode cX10_slips 108 = .ok (.iconst (-1), 1)) ∧ (decode cX10_slips 109 = .ok (.ixor, 1)) ∧ (decode cX10_slips 110 = .ok (.iand, 1)) ∧ (decode cX10_slips 111 = .ok (.istore 6, 2)) ∧ (decode cX10_slips 113 = .ok (.iinc 7 1, 3)) ∧ (decode cX10_slips 116 = .ok (.goto (-53), 3)) ∧ (decode cX10_slips 85 = .ok (.if_icmp .eq 7, 3)) ∧ (decode cX10_slips 88 = .ok (.iload 8, 2)) ∧ (decode cX10_slips 90 = .ok (.istore 5, 2)) ∧ (decode cX10_slips 35 = .ok (.bipush (-5), 2)) ∧ (decode cX10_slips 37 = .ok (.ireturn, 1)) ∧ (decode cX10_slips 15 = .ok (.iload_n 3, 1)) ∧ (decode cX10_slips 16 = .ok (.ireturn, 1)) := by decide +kernel
theorem dX10_slips_96 : decode cX10_slips 96 = .ok (.getfield 98, 3) := db212.1
theorem dX10_slips_99 : decode cX10_slips 99 = .ok (.iload 6, 2) := db212.2.1
theorem dX10_slips_101 : decode cX10_slips 101 = .ok (.invokevirtual 229, 3) := db212.2.2.1
theorem dX10_slips_104 : decode cX10_slips 104 = .ok (.iconst 1, 1) := db212.2.2.2.1
theorem dX10_slips_105 : decode cX10_slips 105 = .ok (.iload 5, 2) := db212.2.2.2.2.1
theorem dX10_slips_107 : decode cX10_slips 107 = .ok (.ishl, 1) := db212.2.2.2.2.2.1
theorem dX10_slips_108 : decode cX10_slips 108 = .ok (.iconst (-1), 1) := db212.2.2.2.2.2.2.1
theorem dX10_slips_109 : decode cX10_slips 109 = .ok (.ixor, 1) := db212.2.2.2.2.2.2.2.1
theorem dX10_slips_110 : decode cX10_slips 110 = .ok (.iand, 1) := db212.2.2.2.2.2.2.2.2.1
theorem dX10_slips_111 : decode cX10_slips 111 = .ok (.istore 6, 2) := db212.2.2.2.2.2.2.2.2.2.1
theorem dX10_slips_113 : decode cX10_slips 113 = .ok (.iinc 7 1, 3) := db212.2.2.2.2.2.2.2.2.2.2.1
theorem dX10_slips_116 : decode cX10_slips 116 = .ok (.goto (-53), 3) := db212.2.2.2.2.2.2.2.2.2.2.2.1
theorem dX10_slips_85 : decode cX10_slips 85 = .ok (.if_icmp .eq 7, 3) := db212.2.2.2.2.2.2.2.2.2.2.2.2.1
theorem dX10_slips_88 : decode cX10_slips 88 = .ok (.iload 8, 2) := db212.2.2.2.2.2.2.2.2.2.2.2.2.2.1
theorem dX10_slips_90 : decode cX10_slips 90 = .ok (.istore 5, 2) := db212.2.2.2.2.2.2.2.2.2.2.2.2.2.2.1
theorem dX10_slips_35 : decode cX10_slips 35 = .ok (.bipush (-5), 2) := db212.2.2.2.2.2.2.2.2.2.2.2.2.2.2.2.1
theorem dX10_slips_37 : decode cX10_slips 37 = .ok (.ireturn, 1) := db212.2.2.2.2.2.2.2.2.2.2.2.2.2.2.2.2.1
theorem dX10_slips_15 : decode cX10_slips 15 = .ok (.iload_n 3, 1) := db212.2.2.2.2.2.2.2.2.2.2.2.2.2.2.2.2.2.1
theorem dX10_slips_16 : decode cX10_slips 16 = .ok (.ireturn, 1) := db212.2.2.2.2.2.2.2.2.2.2.2.2.2.2.2.2.2.2
theorem db213 : (decode cX10_soon 0 = .ok (.aload_n 0, 1)) ∧ (decode cX10_soon 1 = .ok (.iload_n 1, 1)) ∧ (decode cX10_soon 2 = .ok (.invokevirtual 120, 3)) ∧ (decode cX10_soon 5 = .ok (.ifCond .eq 11, 3)) ∧ (decode cX10_soon 16 = .ok (.bipush (-2), 2)) ∧ (decode cX10_soon 18 = .ok (.ireturn, 1)) ∧ (decode cX10_soon 8 = .ok (.aload_n 0, 1)) ∧ (decode cX10_soon 9 = .ok (.iload_n 2, 1)) ∧ (decode cX10_soon 10 = .ok (.invokevirtual 205, 3)) ∧ (decode cX10_soon 13 = .ok (.ifCond .ne 6, 3)) ∧ (decode cX10_soon 19 = .ok (.iconst 0, 1)) ∧ (decode cX10_soon 20 = .ok (.istore_n 3, 1)) ∧ (decode cX10_soon 21 = .ok (.iload_n 3, 1)) ∧ (decode cX10_soon 22 = .ok (.iconst 5, 1)) ∧ (decode cX10_soon 23 = .ok (.if_icmp .gt 35, 3)) ∧ (decode cX10_soon 58 = .ok (.iconst (-1), 1)) ∧ (decode cX10_soon 59 = .ok (.ireturn, 1)) ∧ (decode cX10_soon 26 = .ok (.aload_n 0, 1)) ∧ (decode cX10_soon 27 = .ok (.getfield 58, 3)) ∧ (decode cX10_soon 30 = .ok (.aload_n 0, 1)) ∧ (decode cX10_soon 31 = .ok (.getfield 31, 3)) ∧ (decode cX10_soon 34 = .ok (.getfield 98, 3)) ∧ (decode cX10_soon 37 = .ok (.aload_n 0, 1)) ∧ (decode cX10_soon 38 = .ok (.getfield 48, 3)) := by decide +kernel
theorem dX10_soon_0 : decode cX10_soon 0 = .ok (.aload_n 0, 1) := db213.1
theorem dX10_soon_1 : decode cX10_soon 1 = .ok (.iload_n 1, 1) := db213.2.1
theorem dX10_soon_2 : decode cX10_soon 2 = .ok (.invokevirtual 120, 3) := db213.2.2.1
theorem dX10_soon_5 : decode cX10_soon 5 = .ok (.ifCond .eq 11, 3) := db213.2.2.2.1
theorem dX10_soon_16 : decode cX10_soon 16 = .ok (.bipush (-2), 2) := db213.2.2.2.2.1
theorem dX10_soon_18 : decode cX10_soon 18 = .ok (.ireturn, 1) := db213.2.2.2.2.2.1
theorem dX10_soon_8 : decode cX10_soon 8 = .ok (.aload_n 0, 1) := db213.2.2.2.2.2.2.1
theorem dX10_soon_9 : decode cX10_soon 9 = .ok (.iload_n 2, 1) := db213.2.2.2.2.2.2.2.1
theorem dX10_soon_10 : decode cX10_soon 10 = .ok (.invokevirtual 205, 3) := db213.2.2.2.2.2.2.2.2.1
theorem dX10_soon_13 : decode cX10_soon 13 = .ok (.ifCond .ne 6, 3) := db213.2.2.2.2.2.2.2.2.2.1
theorem dX10_soon_19 : decode cX10_soon 19 = .ok (.iconst 0, 1) := db213.2.2.2.2.2.2.2.2.2.2.1
theorem dX10_soon_20 : decode cX10_soon 20 = .ok (.istore_n 3, 1) := db213.2.2.2.2.2.2.2.2.2.2.2.1
theorem dX10_soon_21 : decode cX10_soon 21 = .ok (.iload_n 3, 1) := db213.2.2.2.2.2.2.2.2.2.2.2.2.1
theorem dX10_soon_22 : decode cX10_soon 22 = .ok (.iconst 5, 1) := db213.2.2.2.2.2.2.2.2.2.2.2.2.2.1
theorem dX10_soon_23 : decode cX10_soon 23 = .ok (.if_icmp .gt 35, 3) := db213.2.2.2.2.2.2.2.2.2.2.2.2.2.2.1
theorem dX10_soon_58 : decode cX10_soon 58 = .ok (.iconst (-1), 1) := db213.2.2.2.2.2.2.2.2.2.2.2.2.2.2.2.1
theorem dX10_soon_59 : decode cX10_soon 59 = .ok (.ireturn, 1) := db213.2.2.2.2.2.2.2.2.2.2.2.2.2.2.2.2.1
theorem dX10_soon_26 : decode cX10_soon 26 = .ok (.aload_n 0, 1) := db213.2.2.2.2.2.2.2.2.2.2.2.2.2.2.2.2.2.1
theorem dX10_soon_27 : decode cX10_soon 27 = .ok (.getfield 58, 3) := db213.2.2.2.2.2.2.2.2.2.2.2.2.2.2.2.2.2.2.1
theorem dX10_soon_30 : decode cX10_soon 30 = .ok (.aload_n 0, 1) := db213.2.2.2.2.2.2.2.2.2.2.2.2.2.2.2.2.2.2.2.1
theorem dX10_soon_31 : decode cX10_soon 31 = .ok (.getfield 31, 3) := db213.2.2.2.2.2.2.2.2.2.2.2.2.2.2.2.2.2.2.2.2.1
theorem dX10_soon_34 : decode cX10_soon 34 = .ok (.getfield 98, 3) := db213.2.2.2.2.2.2.2.2.2.2.2.2.2.2.2.2.2.2.2.2.2.1
theorem dX10_soon_37 : decode cX10_soon 37 = .ok (.aload_n 0, 1) := db213.2.2.2.2.2.2.2.2.2.2.2.2.2.2.2.2.2.2.2.2.2.2.1
theorem dX10_soon_38 : decode cX10_soon 38 = .ok (.getfield 48, 3) := db213.2.2.2.2.2.2.2.2.2.2.2.2.2.2.2.2.2.2.2.2.2.2.2
theorem db214 : (decode cX10_soon 41 = .ok (.iload_n 1, 1)) ∧ (decode cX10_soon 42 = .ok (.iload_n 3, 1)) ∧ (decode cX10_soon 43 = .ok (.invokevirtual 218, 3)) ∧ (decode cX10_soon 46 = .ok (.iload_n 2, 1)) ∧ (decode cX10_soon 47 = .ok (.if_icmp .lt 5, 3)) ∧ (decode cX10_soon 52 = .ok (.iinc 3 1, 3)) ∧ (decode cX10_soon 55 = .ok (.goto (-34), 3)) ∧ (decode cX10_soon 50 = .ok (.iload_n 3, 1)) ∧ (decode cX10_soon 51 = .ok (.ireturn, 1)) := by decide +kernel
theorem dX10_soon_41 : decode cX10_soon 41 = .ok (.iload_n 1, 1) := db214.1
theorem dX10_soon_42 : decode cX10_soon 42 = .ok (.iload_n 3, 1) := db214.2.1
theorem dX10_soon_43 : decode cX10_soon 43 = .ok (.invokevirtual 218, 3) := db214.2.2.1
theorem dX10_soon_46 : decode cX10_soon 46 = .ok (.iload_n 2, 1) := db214.2.2.2.1
theorem dX10_soon_47 : decode cX10_soon 47 = .ok (.if_icmp .lt 5, 3) := db214.2.2.2.2.1
theorem dX10_soon_52 : decode cX10_soon 52 = .ok (.iinc 3 1, 3) := db214.2.2.2.2.2.1
theorem dX10_soon_55 : decode cX10_soon 55 = .ok (.goto (-34), 3) := db214.2.2.2.2.2.2.1
theorem dX10_soon_50 : decode cX10_soon 50 = .ok (.iload_n 3, 1) := db214.2.2.2.2.2.2.2.1
theorem dX10_soon_51 : decode cX10_soon 51 = .ok (.ireturn, 1) := db214.2.2.2.2.2.2.2.2
theorem db215 : (decode cX10_stop 0 = .ok (.aload_n 0, 1)) ∧ (decode cX10_stop 1 = .ok (.iload_n 1, 1)) ∧ (decode cX10_stop 2 = .ok (.iconst 1, 1)) ∧ (decode cX10_stop 3 = .ok (.invokevirtual 186, 3)) ∧ (decode cX10_stop 6 = .ok (.istore_n 2, 1)) ∧ (decode cX10_stop 7 = .ok (.iload_n 2, 1)) ∧ (decode cX10_stop 8 = .ok (.ifCond .eq 5, 3)) ∧ (decode cX10_stop 13 = .ok (.aload_n 0, 1)) ∧ (decode cX10_stop 14 = .ok (.getfield 41, 3)) ∧ (decode cX10_stop 17 = .ok (.iload_n 1, 1)) ∧ (decode cX10_stop 18 = .ok (.aaload, 1)) ∧ (decode cX10_stop 19 = .ok (.astore_n 3, 1)) ∧ (decode cX10_stop 20 = .ok (.aload_n 0, 1)) ∧ (decode cX10_stop 21 = .ok (.getfield 52, 3)) ∧ (decode cX10_stop 24 = .ok (.aload_n 0, 1)) ∧ (decode cX10_stop 25 = .ok (.getfield 48, 3)) ∧ (decode cX10_stop 28 = .ok (.invokevirtual 179, 3)) ∧ (decode cX10_stop 31 = .ok (.iconst 0, 1)) ∧ (decode cX10_stop 32 = .ok (.istore 4, 2)) ∧ (decode cX10_stop 34 = .ok (.iconst 0, 1)) ∧ (decode cX10_stop 35 = .ok (.istore 5, 2)) ∧ (decode cX10_stop 37 = .ok (.iconst 0, 1)) ∧ (decode cX10_stop 38 = .ok (.istore 6, 2)) ∧ (decode cX10_stop 40 = .ok (.iload 6, 2)) := by decide +kernel
theorem dX10_stop_0 : decode cX10_stop 0 = .ok (.aload_n 0, 1) := db215.1
theorem dX10_stop_1 : decode cX10_stop 1 = .ok (.iload_n 1, 1) := db215.2.1
theorem dX10_stop_2 : decode cX10_stop 2 = .ok (.iconst 1, 1) := db215.2.2.1
theorem dX10_stop_3 : decode cX10_stop 3 = .ok (.invokevirtual 186, 3) := db215.2.2.2.1
theorem dX10_stop_6 : decode cX10_stop 6 = .ok (.istore_n 2, 1) := db215.2.2.2.2.1
theorem dX10_stop_7 : decode cX10_stop 7 = .ok (.iload_n 2, 1) := db215.2.2.2.2.2.1
theorem dX10_stop_8 : decode cX10_stop 8 = .ok (.ifCond .eq 5, 3) := db215.2.2.2.2.2.2.1
theorem dX10_stop_13 : decode cX10_stop 13 = .ok (.aload_n 0, 1) := db215.2.2.2.2.2.2.2.1
theorem dX10_stop_14 : decode cX10_stop 14 = .ok (.getfield 41, 3) := db215.2.2.2.2.2.2.2.2.1
theorem dX10_stop_17 : decode cX10_stop 17 = .ok (.iload_n 1, 1) := db215.2.2.2.2.2.2.2.2.2.1
theorem dX10_stop_18 : decode cX10_stop 18 = .ok (.aaload, 1) := db215.2.2.2.2.2.2.2.2.2.2.1
theorem dX10_stop_19 : decode cX10_stop 19 = .ok (.astore_n 3, 1) := db215.2.2.2.2.2.2.2.2.2.2.2.1
theorem dX10_stop_20 : decode cX10_stop 20 = .ok (.aload_n 0, 1) := db215.2.2.2.2.2.2.2.2.2.2.2.2.1
theorem dX10_stop_21 : decode cX10_stop 21 = .ok (.getfield 52, 3) := db215.2.2.2.2.2.2.2.2.2.2.2.2.2.1
theorem dX10_stop_24 : decode cX10_stop 24 = .ok (.aload_n 0, 1) := db215.2.2.2.2.2.2.2.2.2.2.2.2.2.2.1
theorem dX10_stop_25 : decode cX10_stop 25 = .ok (.getfield 48, 3) := db215.2.2.2.2.2.2.2.2.2.2.2.2.2.2.2.1
theorem dX10_stop_28 : decode cX10_stop 28 = .ok (.invokevirtual 179, 3) := db215.2.2.2.2.2.2.2.2.2.2.2.2.2.2.2.2.1
theorem dX10_stop_31 : decode cX10_stop 31 = .ok (.iconst 0, 1) := db215.2.2.2.2.2.2.2.2.2.2.2.2.2.2.2.2.2.1
theorem dX10_stop_32 : decode cX10_stop 32 = .ok (.istore 4, 2) := db215.2.2.2.2.2.2.2.2.2.2.2.2.2.2.2.2.2.2.1
theorem dX10_stop_34 : decode cX10_stop 34 = .ok (.iconst 0, 1) := db215.2.2.2.2.2.2.2.2.2.2.2.2.2.2.2.2.2.2.2.1
theorem dX10_stop_35 : decode cX10_stop 35 = .ok (.istore 5, 2) := db215.2.2.2.2.2.2.2.2.2.2.2.2.2.2.2.2.2.2.2.2.1
theorem dX10_stop_37 : decode cX10_stop 37 = .ok (.iconst 0, 1) := db215.2.2.2.2.2.2.2.2.2.2.2.2.2.2.2.2.2.2.2.2.2.1
theorem dX10_stop_38 : decode cX10_stop 38 = .ok (.istore 6, 2) := db215.2.2.2.2.2.2.2.2.2.2.2.2.2.2.2.2.2.2.2.2.2.2.1
theorem dX10_stop_40 : decode cX10_stop 40 = .ok (.iload 6, 2) := db215.2.2.2.2.2.2.2.2.2.2.2.2.2.2.2.2.2.2.2.2.2.2.2
theorem db216 : (decode cX10_stop 42 = .ok (.aload_n 3, 1)) ∧ (decode cX10_stop 43 = .ok (.getfield 194, 3)) ∧ (decode cX10_stop 46 = .ok (.if_icmp .ge 73, 3)) ∧ (decode cX10_stop 119 = .ok (.iload 5, 2)) ∧ (decode cX10_stop 121 = .ok (.ireturn, 1)) ∧ (decode cX10_stop 49 = .ok (.aload_n 0, 1)) ∧ (decode cX10_stop 50 = .ok (.getfield 52, 3)) ∧ (decode cX10_stop 53 = .ok (.aload_n 0, 1)) ∧ (decode cX10_stop 54 = .ok (.getfield 31, 3)) ∧ (decode cX10_stop 57 = .ok (.getfield 98, 3)) ∧ (decode cX10_stop 60 = .ok (.aload_n 3, 1)) ∧ (decode cX10_stop 61 = .ok (.iload 6, 2)) ∧ (decode cX10_stop 63 = .ok (.invokevirtual 195, 3)) ∧ (decode cX10_stop 66 = .ok (.iconst 0, 1)) ∧ (decode cX10_stop 67 = .ok (.invokevirtual 175, 3)) ∧ (decode cX10_stop 70 = .ok (.pop, 1)) ∧ (decode cX10_stop 71 = .ok (.aload_n 0, 1)) ∧ (decode cX10_stop 72 = .ok (.aload_n 0, 1)) ∧ (decode cX10_stop 73 = .ok (.getfield 52, 3)) ∧ (decode cX10_stop 76 = .ok (.getfield 156, 3)) ∧ (decode cX10_stop 79 = .ok (.aload_n 0, 1)) ∧ (decode cX10_stop 80 = .ok (.getfield 48, 3)) ∧ (decode cX10_stop 83 = .ok (.getfield 156, 3)) ∧ (decode cX10_stop 86 = .ok (.isub, 1)) := by decide +kernel
theorem dX10_stop_42 : decode cX10_stop 42 = .ok (.aload_n 3, 1) := db216.1
theorem dX10_stop_43 : decode cX10_stop 43 = .ok (.getfield 194, 3) := db216.2.1
theorem dX10_stop_46 : decode cX10_stop 46 = .ok (.if_icmp .ge 73, 3) := db216.2.2.1
theorem dX10_stop_119 : decode cX10_stop 119 = .ok (.iload 5, 2) := db216.2.2.2.1
theorem dX10_stop_121 : decode cX10_stop 121 = .ok (.ireturn, 1) := db216.2.2.2.2.1
theorem dX10_stop_49 : decode cX10_stop 49 = .ok (.aload_n 0, 1) := db216.2.2.2.2.2.1
theorem dX10_stop_50 : decode cX10_stop 50 = .ok (.getfield 52, 3) := db216.2.2.2.2.2.2.1
theorem dX10_stop_53 : decode cX10_stop 53 = .ok (.aload_n 0, 1) := db216.2.2.2.2.2.2.2.1
theorem dX10_stop_54 : decode cX10_stop 54 = .ok (.getfield 31, 3) := db216.2.2.2.2.2.2.2.2.1
theorem dX10_stop_57 : decode cX10_stop 57 = .ok (.getfield 98, 3) := db216.2.2.2.2.2.2.2.2.2.1
theorem dX10_stop_60 : decode cX10_stop 60 = .ok (.aload_n 3, 1) := db216.2.2.2.2.2.2.2.2.2.2.1
theorem dX10_stop_61 : decode cX10_stop 61 = .ok (.iload 6, 2) := db216.2.2.2.2.2.2.2.2.2.2.2.1
theorem dX10_stop_63 : decode cX10_stop 63 = .ok (.invokevirtual 195, 3) := db216.2.2.2.2.2.2.2.2.2.2.2.2.1
theorem dX10_stop_66 : decode cX10_stop 66 = .ok (.iconst 0, 1) := db216.2.2.2.2.2.2.2.2.2.2.2.2.2.1
theorem dX10_stop_67 : decode cX10_stop 67 = .ok (.invokevirtual 175, 3) := db216.2.2.2.2.2.2.2.2.2.2.2.2.2.2.1
theorem dX10_stop_70 : decode cX10_stop 70 = .ok (.pop, 1) := db216.2.2.2.2.2.2.2.2.2.2.2.2.2.2.2.1
theorem dX10_stop_71 : decode cX10_stop 71 = .ok (.aload_n 0, 1) := db216.2.2.2.2.2.2.2.2.2.2.2.2.2.2.2.2.1
theorem dX10_stop_72 : decode cX10_stop 72 = .ok (.aload_n 0, 1) := db216.2.2.2.2.2.2.2.2.2.2.2.2.2.2.2.2.2.1
theorem dX10_stop_73 : decode cX10_stop 73 = .ok (.getfield 52, 3) := db216.2.2.2.2.2.2.2.2.2.2.2.2.2.2.2.2.2.2.1
theorem dX10_stop_76 : decode cX10_stop 76 = .ok (.getfield 156, 3) := db216.2.2.2.2.2.2.2.2.2.2.2.2.2.2.2.2.2.2.2.1
theorem dX10_stop_79 : decode cX10_stop 79 = .ok (.aload_n 0, 1) := db216.2.2.2.2.2.2.2.2.2.2.2.2.2.2.2.2.2.2.2.2.1
theorem dX10_stop_80 : decode cX10_stop 80 = .ok (.getfield 48, 3) := db216.2.2.2.2.2.2.2.2.2.2.2.2.2.2.2.2.2.2.2.2.2.1
theorem dX10_stop_83 : decode cX10_stop 83 = .ok (.getfield 156, 3) := db216.2.2.2.2.2.2.2.2.2.2.2.2.2.2.2.2.2.2.2.2.2.2.1
theorem dX10_stop_86 : decode cX10_stop 86 = .ok (.isub, 1) := db216.2.2.2.2.2.2.2.2.2.2.2.2.2.2.2.2.2.2.2.2.2.2.2
theorem db217 : (decode cX10_stop 87 = .ok (.iload 6, 2)) ∧ (decode cX10_stop 89 = .ok (.iconst 1, 1)) ∧ (decode cX10_stop 90 = .ok (.iadd, 1)) ∧ (decode cX10_stop 91 = .ok (.invokevirtual 202, 3)) ∧ (decode cX10_stop 94 = .ok (.istore 7, 2)) ∧ (decode cX10_stop 96 = .ok (.iload 7, 2)) ∧ (decode cX10_stop 98 = .ok (.iload 4, 2)) ∧ (decode cX10_stop 113 = .ok (.iinc 6 1, 3)) ∧ (decode cX10_stop 116 = .ok (.goto (-76), 3)) ∧ (decode cX10_stop 100 = .ok (.if_icmp .le 13, 3)) ∧ (decode cX10_stop 103 = .ok (.iload 7, 2)) ∧ (decode cX10_stop 105 = .ok (.istore 4, 2)) ∧ (decode cX10_stop 107 = .ok (.iload 6, 2)) ∧ (decode cX10_stop 109 = .ok (.iconst 1, 1)) ∧ (decode cX10_stop 110 = .ok (.iadd, 1)) ∧ (decode cX10_stop 111 = .ok (.istore 5, 2)) ∧ (decode cX10_stop 11 = .ok (.iload_n 2, 1)) ∧ (decode cX10_stop 12 = .ok (.ireturn, 1)) := by decide +kernel
theorem dX10_stop_87 : decode cX10_stop 87 = .ok (.iload 6, 2) := db217.1
theorem dX10_stop_89 : decode cX10_stop 89 = .ok (.iconst 1, 1) := db217.2.1
theorem dX10_stop_90 : decode cX10_stop 90 = .ok (.iadd, 1) := db217.2.2.1
theorem dX10_stop_91 : decode cX10_stop 91 = .ok (.invokevirtual 202, 3) := db217.2.2.2.1
theorem dX10_stop_94 : decode cX10_stop 94 = .ok (.istore 7, 2) := db217.2.2.2.2.1
theorem dX10_stop_96 : decode cX10_stop 96 = .ok (.iload 7, 2) := db217.2.2.2.2.2.1
theorem dX10_stop_98 : decode cX10_stop 98 = .ok (.iload 4, 2) := db217.2.2.2.2.2.2.1
theorem dX10_stop_113 : decode cX10_stop 113 = .ok (.iinc 6 1, 3) := db217.2.2.2.2.2.2.2.1
theorem dX10_stop_116 : decode cX10_stop 116 = .ok (.goto (-76), 3) := db217.2.2.2.2.2.2.2.2.1
theorem dX10_stop_100 : decode cX10_stop 100 = .ok (.if_icmp .le 13, 3) := db217.2.2.2.2.2.2.2.2.2.1
theorem dX10_stop_103 : decode cX10_stop 103 = .ok (.iload 7, 2) := db217.2.2.2.2.2.2.2.2.2.2.1
theorem dX10_stop_105 : decode cX10_stop 105 = .ok (.istore 4, 2) := db217.2.2.2.2.2.2.2.2.2.2.2.1
theorem dX10_stop_107 : decode cX10_stop 107 = .ok (.iload 6, 2) := db217.2.2.2.2.2.2.2.2.2.2.2.2.1
theorem dX10_stop_109 : decode cX10_stop 109 = .ok (.iconst 1, 1) := db217.2.2.2.2.2.2.2.2.2.2.2.2.2.1
theorem dX10_stop_110 : decode cX10_stop 110 = .ok (.iadd, 1) := db217.2.2.2.2.2.2.2.2.2.2.2.2.2.2.1
theorem dX10_stop_111 : decode cX10_stop 111 = .ok (.istore 5, 2) := db217.2.2.2.2.2.2.2.2.2.2.2.2.2.2.2.1
theorem dX10_stop_11 : decode cX10_stop 11 = .ok (.iload_n 2, 1) := db217.2.2.2.2.2.2.2.2.2.2.2.2.2.2.2.2.1
theorem dX10_stop_12 : decode cX10_stop 12 = .ok (.ireturn, 1) := db217.2.2.2.2.2.2.2.2.2.2.2.2.2.2.2.2.2
theorem db218 : (decode cX10_tell 0 = .ok (.aload_n 0, 1)) ∧ (decode cX10_tell 1 = .ok (.iload_n 1, 1)) ∧ (decode cX10_tell 2 = .ok (.invokevirtual 120, 3)) ∧ (decode cX10_tell 5 = .ok (.ifCond .eq 24, 3)) ∧ (decode cX10_tell 29 = .ok (.bipush (-2), 2)) ∧ (decode cX10_tell 31 = .ok (.ireturn, 1)) ∧ (decode cX10_tell 8 = .ok (.iload_n 2, 1)) ∧ (decode cX10_tell 9 = .ok (.ifCond .lt 20, 3)) ∧ (decode cX10_tell 12 = .ok (.iload_n 2, 1)) ∧ (decode cX10_tell 13 = .ok (.iconst 2, 1)) ∧ (decode cX10_tell 14 = .ok (.if_icmp .gt 15, 3)) ∧ (decode cX10_tell 17 = .ok (.iload_n 3, 1)) ∧ (decode cX10_tell 18 = .ok (.ifCond .lt 11, 3)) ∧ (decode cX10_tell 21 = .ok (.iload_n 3, 1)) ∧ (decode cX10_tell 22 = .ok (.iload_n 2, 1)) ∧ (decode cX10_tell 23 = .ok (.invokestatic 321, 3)) ∧ (decode cX10_tell 26 = .ok (.if_icmp .le 6, 3)) ∧ (decode cX10_tell 32 = .ok (.aload_n 0, 1)) ∧ (decode cX10_tell 33 = .ok (.getfield 31, 3)) ∧ (decode cX10_tell 36 = .ok (.getfield 105, 3)) ∧ (decode cX10_tell 39 = .ok (.ifCond .le 6, 3)) ∧ (decode cX10_tell 45 = .ok (.aload_n 0, 1)) ∧ (decode cX10_tell 46 = .ok (.getfield 31, 3)) ∧ (decode cX10_tell 49 = .ok (.getfield 98, 3)) := by decide +kernel
theorem dX10_tell_0 : decode cX10_tell 0 = .ok (.aload_n 0, 1) := db218.1
theorem dX10_tell_1 : decode cX10_tell 1 = .ok (.iload_n 1, 1) := db218.2.1
theorem dX10_tell_2 : decode cX10_tell 2 = .ok (.invokevirtual 120, 3) := db218.2.2.1
theorem dX10_tell_5 : decode cX10_tell 5 = .ok (.ifCond .eq 24, 3) := db218.2.2.2.1
theorem dX10_tell_29 : decode cX10_tell 29 = .ok (.bipush (-2), 2) := db218.2.2.2.2.1
theorem dX10_tell_31 : decode cX10_tell 31 = .ok (.ireturn, 1) := db218.2.2.2.2.2.1
theorem dX10_tell_8 : decode cX10_tell 8 = .ok (.iload_n 2, 1) := db218.2.2.2.2.2.2.1
theorem dX10_tell_9 : decode cX10_tell 9 = .ok (.ifCond .lt 20, 3) := db218.2.2.2.2.2.2.2.1
theorem dX10_tell_12 : decode cX10_tell 12 = .ok (.iload_n 2, 1) := db218.2.2.2.2.2.2.2.2.1
theorem dX10_tell_13 : decode cX10_tell 13 = .ok (.iconst 2, 1) := db218.2.2.2.2.2.2.2.2.2.1
theorem dX10_tell_14 : decode cX10_tell 14 = .ok (.if_icmp .gt 15, 3) := db218.2.2.2.2.2.2.2.2.2.2.1
theorem dX10_tell_17 : decode cX10_tell 17 = .ok (.iload_n 3, 1) := db218.2.2.2.2.2.2.2.2.2.2.2.1
theorem dX10_tell_18 : decode cX10_tell 18 = .ok (.ifCond .lt 11, 3) := db218.2.2.2.2.2.2.2.2.2.2.2.2.1
theorem dX10_tell_21 : decode cX10_tell 21 = .ok (.iload_n 3, 1) := db218.2.2.2.2.2.2.2.2.2.2.2.2.2.1
theorem dX10_tell_22 : decode cX10_tell 22 = .ok (.iload_n 2, 1) := db218.2.2.2.2.2.2.2.2.2.2.2.2.2.2.1
theorem dX10_tell_23 : decode cX10_tell 23 = .ok (.invokestatic 321, 3) := db218.2.2.2.2.2.2.2.2.2.2.2.2.2.2.2.1
theorem dX10_tell_26 : decode cX10_tell 26 = .ok (.if_icmp .le 6, 3) := db218.2.2.2.2.2.2.2.2.2.2.2.2.2.2.2.2.1
theorem dX10_tell_32 : decode cX10_tell 32 = .ok (.aload_n 0, 1) := db218.2.2.2.2.2.2.2.2.2.2.2.2.2.2.2.2.2.1
theorem dX10_tell_33 : decode cX10_tell 33 = .ok (.getfield 31, 3) := db218.2.2.2.2.2.2.2.2.2.2.2.2.2.2.2.2.2.2.1
theorem dX10_tell_36 : decode cX10_tell 36 = .ok (.getfield 105, 3) := db218.2.2.2.2.2.2.2.2.2.2.2.2.2.2.2.2.2.2.2.1
theorem dX10_tell_39 : decode cX10_tell 39 = .ok (.ifCond .le 6, 3) := db218.2.2.2.2.2.2.2.2.2.2.2.2.2.2.2.2.2.2.2.2.1
theorem dX10_tell_45 : decode cX10_tell 45 = .ok (.aload_n 0, 1) := db218.2.2.2.2.2.2.2.2.2.2.2.2.2.2.2.2.2.2.2.2.2.1
theorem dX10_tell_46 : decode cX10_tell 46 = .ok (.getfield 31, 3) := db218.2.2.2.2.2.2.2.2.2.2.2.2.2.2.2.2.2.2.2.2.2.2.1
theorem dX10_tell_49 : decode cX10_tell 49 = .ok (.getfield 98, 3) := db218.2.2.2.2.2.2.2.2.2.2.2.2.2.2.2.2.2.2.2.2.2.2.2
theorem db219 : (decode cX10_tell 52 = .ok (.iload_n 2, 1)) ∧ (decode cX10_tell 53 = .ok (.invokevirtual 124, 3)) ∧ (decode cX10_tell 56 = .ok (.astore 4, 2)) ∧ (decode cX10_tell 58 = .ok (.aload 4, 2)) ∧ (decode cX10_tell 60 = .ok (.iload_n 1, 1)) ∧ (decode cX10_tell 61 = .ok (.iaload, 1)) ∧ (decode cX10_tell 62 = .ok (.istore 5, 2)) ∧ (decode cX10_tell 64 = .ok (.aload 4, 2)) ∧ (decode cX10_tell 66 = .ok (.iload_n 1, 1)) ∧ (decode cX10_tell 67 = .ok (.iload_n 3, 1)) ∧ (decode cX10_tell 68 = .ok (.iastore, 1)) ∧ (decode cX10_tell 69 = .ok (.aload_n 0, 1)) ∧ (decode cX10_tell 70 = .ok (.invokevirtual 108, 3)) ∧ (decode cX10_tell 73 = .ok (.iload 5, 2)) ∧ (decode cX10_tell 75 = .ok (.ireturn, 1)) ∧ (decode cX10_tell 42 = .ok (.bipush (-5), 2)) ∧ (decode cX10_tell 44 = .ok (.ireturn, 1)) := by decide +kernel
theorem dX10_tell_52 : decode cX10_tell 52 = .ok (.iload_n 2, 1) := db219.1
theorem dX10_tell_53 : decode cX10_tell 53 = .ok (.invokevirtual 124, 3) := db219.2.1
theorem dX10_tell_56 : decode cX10_tell 56 = .ok (.astore 4, 2) := db219.2.2.1
theorem dX10_tell_58 : decode cX10_tell 58 = .ok (.aload 4, 2) := db219.2.2.2.1
theorem dX10_tell_60 : decode cX10_tell 60 = .ok (.iload_n 1, 1) := db219.2.2.2.2.1
theorem dX10_tell_61 : decode cX10_tell 61 = .ok (.iaload, 1) := db219.2.2.2.2.2.1
theorem dX10_tell_62 : decode cX10_tell 62 = .ok (.istore 5, 2) := db219.2.2.2.2.2.2.1
theorem dX10_tell_64 : decode cX10_tell 64 = .ok (.aload 4, 2) := db219.2.2.2.2.2.2.2.1
theorem dX10_tell_66 : decode cX10_tell 66 = .ok (.iload_n 1, 1) := db219.2.2.2.2.2.2.2.2.1
theorem dX10_tell_67 : decode cX10_tell 67 = .ok (.iload_n 3, 1) := db219.2.2.2.2.2.2.2.2.2.1
theorem dX10_tell_68 : decode cX10_tell 68 = .ok (.iastore, 1) := db219.2.2.2.2.2.2.2.2.2.2.1
theorem dX10_tell_69 : decode cX10_tell 69 = .ok (.aload_n 0, 1) := db219.2.2.2.2.2.2.2.2.2.2.2.1
theorem dX10_tell_70 : decode cX10_tell 70 = .ok (.invokevirtual 108, 3) := db219.2.2.2.2.2.2.2.2.2.2.2.2.1
theorem dX10_tell_73 : decode cX10_tell 73 = .ok (.iload 5, 2) := db219.2.2.2.2.2.2.2.2.2.2.2.2.2.1
theorem dX10_tell_75 : decode cX10_tell 75 = .ok (.ireturn, 1) := db219.2.2.2.2.2.2.2.2.2.2.2.2.2.2.1
theorem dX10_tell_42 : decode cX10_tell 42 = .ok (.bipush (-5), 2) := db219.2.2.2.2.2.2.2.2.2.2.2.2.2.2.2.1
theorem dX10_tell_44 : decode cX10_tell 44 = .ok (.ireturn, 1) := db219.2.2.2.2.2.2.2.2.2.2.2.2.2.2.2.2
theorem db220 : (decode cX10_trumpet 0 = .ok (.aload_n 0, 1)) ∧ (decode cX10_trumpet 1 = .ok (.invokevirtual 152, 3)) ∧ (decode cX10_trumpet 4 = .ok (.ifCond .eq 20, 3)) ∧ (decode cX10_trumpet 24 = .ok (.bipush (-2), 2)) ∧ (decode cX10_trumpet 26 = .ok (.ireturn, 1)) ∧ (decode cX10_trumpet 7 = .ok (.aload_n 0, 1)) ∧ (decode cX10_trumpet 8 = .ok (.aload_n 0, 1)) ∧ (decode cX10_trumpet 9 = .ok (.getfield 31, 3)) ∧ (decode cX10_trumpet 12 = .ok (.getfield 98, 3)) ∧ (decode cX10_trumpet 15 = .ok (.invokevirtual 238, 3)) ∧ (decode cX10_trumpet 18 = .ok (.invokevirtual 241, 3)) ∧ (decode cX10_trumpet 21 = .ok (.goto 5, 3)) := by decide +kernel
theorem dX10_trumpet_0 : decode cX10_trumpet 0 = .ok (.aload_n 0, 1) := db220.1
theorem dX10_trumpet_1 : decode cX10_trumpet 1 = .ok (.invokevirtual 152, 3) := db220.2.1
theorem dX10_trumpet_4 : decode cX10_trumpet 4 = .ok (.ifCond .eq 20, 3) := db220.2.2.1
theorem dX10_trumpet_24 : decode cX10_trumpet 24 = .ok (.bipush (-2), 2) := db220.2.2.2.1
theorem dX10_trumpet_26 : decode cX10_trumpet 26 = .ok (.ireturn, 1) := db220.2.2.2.2.1
theorem dX10_trumpet_7 : decode cX10_trumpet 7 = .ok (.aload_n 0, 1) := db220.2.2.2.2.2.1
theorem dX10_trumpet_8 : decode cX10_trumpet 8 = .ok (.aload_n 0, 1) := db220.2.2.2.2.2.2.1
theorem dX10_trumpet_9 : decode cX10_trumpet 9 = .ok (.getfield 31, 3) := db220.2.2.2.2.2.2.2.1
theorem dX10_trumpet_12 : decode cX10_trumpet 12 = .ok (.getfield 98, 3) := db220.2.2.2.2.2.2.2.2.1
theorem dX10_trumpet_15 : decode cX10_trumpet 15 = .ok (.invokevirtual 238, 3) := db220.2.2.2.2.2.2.2.2.2.1
theorem dX10_trumpet_18 : decode cX10_trumpet 18 = .ok (.invokevirtual 241, 3) := db220.2.2.2.2.2.2.2.2.2.2.1
theorem dX10_trumpet_21 : decode cX10_trumpet 21 = .ok (.goto 5, 3) := db220.2.2.2.2.2.2.2.2.2.2.2
theorem db221 : (decode cX10_two 0 = .ok (.aload_n 0, 1)) ∧ (decode cX10_two 1 = .ok (.iload_n 1, 1)) ∧ (decode cX10_two 2 = .ok (.invokevirtual 120, 3)) ∧ (decode cX10_two 5 = .ok (.ifCond .eq 11, 3)) ∧ (decode cX10_two 16 = .ok (.bipush (-2), 2)) ∧ (decode cX10_two 18 = .ok (.ireturn, 1)) ∧ (decode cX10_two 8 = .ok (.aload_n 0, 1)) ∧ (decode cX10_two 9 = .ok (.iload_n 2, 1)) ∧ (decode cX10_two 10 = .ok (.invokevirtual 120, 3)) ∧ (decode cX10_two 13 = .ok (.ifCond .ne 6, 3)) ∧ (decode cX10_two 19 = .ok (.aload_n 0, 1)) ∧ (decode cX10_two 20 = .ok (.getfield 65, 3)) ∧ (decode cX10_two 23 = .ok (.aload_n 0, 1)) ∧ (decode cX10_two 24 = .ok (.getfield 31, 3)) ∧ (decode cX10_two 27 = .ok (.getfield 98, 3)) ∧ (decode cX10_two 30 = .ok (.iload_n 1, 1)) ∧ (decode cX10_two 31 = .ok (.iload_n 2, 1)) ∧ (decode cX10_two 32 = .ok (.iconst 0, 1)) ∧ (decode cX10_two 33 = .ok (.invokevirtual 253, 3)) ∧ (decode cX10_two 36 = .ok (.pop, 1)) ∧ (decode cX10_two 37 = .ok (.aload_n 0, 1)) ∧ (decode cX10_two 38 = .ok (.getfield 65, 3)) ∧ (decode cX10_two 41 = .ok (.invokevirtual 257, 3)) ∧ (decode cX10_two 44 = .ok (.ireturn, 1)) := by decide +kernel
theorem dX10_two_0 : decode cX10_two 0 = .ok (.aload_n 0, 1) := db221.1
theorem dX10_two_1 : decode cX10_two 1 = .ok (.iload_n 1, 1) := db221.2.1
theorem dX10_two_2 : decode cX10_two 2 = .ok (.invokevirtual 120, 3) := db221.2.2.1
theorem dX10_two_5 : decode cX10_two 5 = .ok (.ifCond .eq 11, 3) := db221.2.2.2.1
theorem dX10_two_16 : decode cX10_two 16 = .ok (.bipush (-2), 2) := db221.2.2.2.2.1
theorem dX10_two_18 : decode cX10_two 18 = .ok (.ireturn, 1) := db221.2.2.2.2.2.1
theorem dX10_two_8 : decode cX10_two 8 = .ok (.aload_n 0, 1) := db221.2.2.2.2.2.2.1
theorem dX10_two_9 : decode cX10_two 9 = .ok (.iload_n 2, 1) := db221.2.2.2.2.2.2.2.1
theorem dX10_two_10 : decode cX10_two 10 = .ok (.invokevirtual 120, 3) := db221.2.2.2.2.2.2.2.2.1
theorem dX10_two_13 : decode cX10_two 13 = .ok (.ifCond .ne 6, 3) := db221.2.2.2.2.2.2.2.2.2.1
theorem dX10_two_19 : decode cX10_two 19 = .ok (.aload_n 0, 1) := db221.2.2.2.2.2.2.2.2.2.2.1
theorem dX10_two_20 : decode cX10_two 20 = .ok (.getfield 65, 3) := db221.2.2.2.2.2.2.2.2.2.2.2.1
theorem dX10_two_23 : decode cX10_two 23 = .ok (.aload_n 0, 1) := db221.2.2.2.2.2.2.2.2.2.2.2.2.1
theorem dX10_two_24 : decode cX10_two 24 = .ok (.getfield 31, 3) := db221.2.2.2.2.2.2.2.2.2.2.2.2.2.1
theorem dX10_two_27 : decode cX10_two 27 = .ok (.getfield 98, 3) := db221.2.2.2.2.2.2.2.2.2.2.2.2.2.2.1
theorem dX10_two_30 : decode cX10_two 30 = .ok (.iload_n 1, 1) := db221.2.2.2.2.2.2.2.2.2.2.2.2.2.2.2.1
theorem dX10_two_31 : decode cX10_two 31 = .ok (.iload_n 2, 1) := db221.2.2.2.2.2.2.2.2.2.2.2.2.2.2.2.2.1
theorem dX10_two_32 : decode cX10_two 32 = .ok (.iconst 0, 1) := db221.2.2.2.2.2.2.2.2.2.2.2.2.2.2.2.2.2.1
theorem dX10_two_33 : decode cX10_two 33 = .ok (.invokevirtual 253, 3) := db221.2.2.2.2.2.2.2.2.2.2.2.2.2.2.2.2.2.2.1
theorem dX10_two_36 : decode cX10_two 36 = .ok (.pop, 1) := db221.2.2.2.2.2.2.2.2.2.2.2.2.2.2.2.2.2.2.2.1
theorem dX10_two_37 : decode cX10_two 37 = .ok (.aload_n 0, 1) := db221.2.2.2.2.2.2.2.2.2.2.2.2.2.2.2.2.2.2.2.2.1
theorem dX10_two_38 : decode cX10_two 38 = .ok (.getfield 65, 3) := db221.2.2.2.2.2.2.2.2.2.2.2.2.2.2.2.2.2.2.2.2.2.1
theorem dX10_two_41 : decode cX10_two 41 = .ok (.invokevirtual 257, 3) := db221.2.2.2.2.2.2.2.2.2.2.2.2.2.2.2.2.2.2.2.2.2.2.1
theorem dX10_two_44 : decode cX10_two 44 = .ok (.ireturn, 1) := db221.2.2.2.2.2.2.2.2.2.2.2.2.2.2.2.2.2.2.2.2.2.2.2
theorem db222 : (decode cX10_undo 0 = .ok (.aload_n 0, 1)) ∧ (decode cX10_undo 1 = .ok (.invokevirtual 152, 3)) ∧ (decode cX10_undo 4 = .ok (.ifCond .ne 6, 3)) ∧ (decode cX10_undo 10 = .ok (.aload_n 0, 1)) ∧ (decode cX10_undo 11 = .ok (.getfield 31, 3)) ∧ (decode cX10_undo 14 = .ok (.getfield 105, 3)) ∧ (decode cX10_undo 17 = .ok (.iconst 1, 1)) ∧ (decode cX10_undo 18 = .ok (.if_icmp .ge 6, 3)) ∧ (decode cX10_undo 24 = .ok (.aload_n 0, 1)) ∧ (decode cX10_undo 25 = .ok (.getfield 31, 3)) ∧ (decode cX10_undo 28 = .ok (.dup, 1)) ∧ (decode cX10_undo 29 = .ok (.getfield 105, 3)) ∧ (decode cX10_undo 32 = .ok (.iconst 1, 1)) ∧ (decode cX10_undo 33 = .ok (.isub, 1)) ∧ (decode cX10_undo 34 = .ok (.putfield 105, 3)) ∧ (decode cX10_undo 37 = .ok (.aload_n 0, 1)) ∧ (decode cX10_undo 38 = .ok (.invokevirtual 108, 3)) ∧ (decode cX10_undo 41 = .ok (.aload_n 0, 1)) ∧ (decode cX10_undo 42 = .ok (.getfield 31, 3)) ∧ (decode cX10_undo 45 = .ok (.getfield 105, 3)) ∧ (decode cX10_undo 48 = .ok (.ireturn, 1)) ∧ (decode cX10_undo 21 = .ok (.bipush (-5), 2)) ∧ (decode cX10_undo 23 = .ok (.ireturn, 1)) ∧ (decode cX10_undo 7 = .ok (.bipush (-2), 2)) := by decide +kernel
theorem dX10_undo_0 : decode cX10_undo 0 = .ok (.aload_n 0, 1) := db222.1
theorem dX10_undo_1 : decode cX10_undo 1 = .ok (.invokevirtual 152, 3) := db222.2.1
theorem dX10_undo_4 : decode cX10_undo 4 = .ok (.ifCond .ne 6, 3) := db222.2.2.1
theorem dX10_undo_10 : decode cX10_undo 10 = .ok (.aload_n 0, 1) := db222.2.2.2.1
theorem dX10_undo_11 : decode cX10_undo 11 = .ok (.getfield 31, 3) := db222.2.2.2.2.1
theorem dX10_undo_14 : decode cX10_undo 14 = .ok (.getfield 105, 3) := db222.2.2.2.2.2.1
theorem dX10_undo_17 : decode cX10_undo 17 = .ok (.iconst 1, 1) := db222.2.2.2.2.2.2.1
theorem dX10_undo_18 : decode cX10_undo 18 = .ok (.if_icmp .ge 6, 3) := db222.2.2.2.2.2.2.2.1
theorem dX10_undo_24 : decode cX10_undo 24 = .ok (.aload_n 0, 1) := db222.2.2.2.2.2.2.2.2.1
theorem dX10_undo_25 : decode cX10_undo 25 = .ok (.getfield 31, 3) := db222.2.2.2.2.2.2.2.2.2.1
theorem dX10_undo_28 : decode cX10_undo 28 = .ok (.dup, 1) := db222.2.2.2.2.2.2.2.2.2.2.1
theorem dX10_undo_29 : decode cX10_undo 29 = .ok (.getfield 105, 3) := db222.2.2.2.2.2.2.2.2.2.2.2.1
theorem dX10_undo_32 : decode cX10_undo 32 = .ok (.iconst 1, 1) := db222.2.2.2.2.2.2.2.2.2.2.2.2.1
theorem dX10_undo_33 : decode cX10_undo 33 = .ok (.isub, 1) := db222.2.2.2.2.2.2.2.2.2.2.2.2.2.1
theorem dX10_undo_34 : decode cX10_undo 34 = .ok (.putfield 105, 3) := db222.2.2.2.2.2.2.2.2.2.2.2.2.2.2.1
theorem dX10_undo_37 : decode cX10_undo 37 = .ok (.aload_n 0, 1) := db222.2.2.2.2.2.2.2.2.2.2.2.2.2.2.2.1
theorem dX10_undo_38 : decode cX10_undo 38 = .ok (.invokevirtual 108, 3) := db222.2.2.2.2.2.2.2.2.2.2.2.2.2.2.2.2.1
theorem dX10_undo_41 : decode cX10_undo 41 = .ok (.aload_n 0, 1) := db222.2.2.2.2.2.2.2.2.2.2.2.2.2.2.2.2.2.1
theorem dX10_undo_42 : decode cX10_undo 42 = .ok (.getfield 31, 3) := db222.2.2.2.2.2.2.2.2.2.2.2.2.2.2.2.2.2.2.1
theorem dX10_undo_45 : decode cX10_undo 45 = .ok (.getfield 105, 3) := db222.2.2.2.2.2.2.2.2.2.2.2.2.2.2.2.2.2.2.2.1
theorem dX10_undo_48 : decode cX10_undo 48 = .ok (.ireturn, 1) := db222.2.2.2.2.2.2.2.2.2.2.2.2.2.2.2.2.2.2.2.2.1
theorem dX10_undo_21 : decode cX10_undo 21 = .ok (.bipush (-5), 2) := db222.2.2.2.2.2.2.2.2.2.2.2.2.2.2.2.2.2.2.2.2.2.1
theorem dX10_undo_23 : decode cX10_undo 23 = .ok (.ireturn, 1) := db222.2.2.2.2.2.2.2.2.2.2.2.2.2.2.2.2.2.2.2.2.2.2.1
theorem dX10_undo_7 : decode cX10_undo 7 = .ok (.bipush (-2), 2) := db222.2.2.2.2.2.2.2.2.2.2.2.2.2.2.2.2.2.2.2.2.2.2.2
theorem dX10_undo_9 : decode cX10_undo 9 = .ok (.ireturn, 1) := by decide +kernel
theorem db223 : (decode cX10_walks 0 = .ok (.aload_n 0, 1)) ∧ (decode cX10_walks 1 = .ok (.iload_n 1, 1)) ∧ (decode cX10_walks 2 = .ok (.aload_n 0, 1)) ∧ (decode cX10_walks 3 = .ok (.iload_n 2, 1)) ∧ (decode cX10_walks 4 = .ok (.invokevirtual 120, 3)) ∧ (decode cX10_walks 7 = .ok (.invokevirtual 186, 3)) ∧ (decode cX10_walks 10 = .ok (.istore_n 3, 1)) ∧ (decode cX10_walks 11 = .ok (.iload_n 3, 1)) ∧ (decode cX10_walks 12 = .ok (.ifCond .eq 5, 3)) ∧ (decode cX10_walks 17 = .ok (.aload_n 0, 1)) ∧ (decode cX10_walks 18 = .ok (.aload_n 0, 1)) ∧ (decode cX10_walks 19 = .ok (.getfield 41, 3)) ∧ (decode cX10_walks 22 = .ok (.iload_n 1, 1)) ∧ (decode cX10_walks 23 = .ok (.aaload, 1)) ∧ (decode cX10_walks 24 = .ok (.iload_n 2, 1)) ∧ (decode cX10_walks 25 = .ok (.invokevirtual 208, 3)) ∧ (decode cX10_walks 28 = .ok (.ifCond .eq 7, 3)) ∧ (decode cX10_walks 35 = .ok (.iconst 0, 1)) ∧ (decode cX10_walks 36 = .ok (.ireturn, 1)) ∧ (decode cX10_walks 31 = .ok (.iconst 1, 1)) ∧ (decode cX10_walks 32 = .ok (.goto 4, 3)) ∧ (decode cX10_walks 15 = .ok (.iload_n 3, 1)) ∧ (decode cX10_walks 16 = .ok (.ireturn, 1)) := by decide +kernel
theorem dX10_walks_0 : decode cX10_walks 0 = .ok (.aload_n 0, 1) := db223.1
theorem dX10_walks_1 : decode cX10_walks 1 = .ok (.iload_n 1, 1) := db223.2.1
theorem dX10_walks_2 : decode cX10_walks 2 = .ok (.aload_n 0, 1) := db223.2.2.1
theorem dX10_walks_3 : decode cX10_walks 3 = .ok (.iload_n 2, 1) := db223.2.2.2.1
theorem dX10_walks_4 : decode cX10_walks 4 = .ok (.invokevirtual 120, 3) := db223.2.2.2.2.1
theorem dX10_walks_7 : decode cX10_walks 7 = .ok (.invokevirtual 186, 3) := db223.2.2.2.2.2.1
theorem dX10_walks_10 : decode cX10_walks 10 = .ok (.istore_n 3, 1) := db223.2.2.2.2.2.2.1
theorem dX10_walks_11 : decode cX10_walks 11 = .ok (.iload_n 3, 1) := db223.2.2.2.2.2.2.2.1
theorem dX10_walks_12 : decode cX10_walks 12 = .ok (.ifCond .eq 5, 3) := db223.2.2.2.2.2.2.2.2.1
theorem dX10_walks_17 : decode cX10_walks 17 = .ok (.aload_n 0, 1) := db223.2.2.2.2.2.2.2.2.2.1
theorem dX10_walks_18 : decode cX10_walks 18 = .ok (.aload_n 0, 1) := db223.2.2.2.2.2.2.2.2.2.2.1
theorem dX10_walks_19 : decode cX10_walks 19 = .ok (.getfield 41, 3) := db223.2.2.2.2.2.2.2.2.2.2.2.1
theorem dX10_walks_22 : decode cX10_walks 22 = .ok (.iload_n 1, 1) := db223.2.2.2.2.2.2.2.2.2.2.2.2.1
theorem dX10_walks_23 : decode cX10_walks 23 = .ok (.aaload, 1) := db223.2.2.2.2.2.2.2.2.2.2.2.2.2.1
theorem dX10_walks_24 : decode cX10_walks 24 = .ok (.iload_n 2, 1) := db223.2.2.2.2.2.2.2.2.2.2.2.2.2.2.1
theorem dX10_walks_25 : decode cX10_walks 25 = .ok (.invokevirtual 208, 3) := db223.2.2.2.2.2.2.2.2.2.2.2.2.2.2.2.1
theorem dX10_walks_28 : decode cX10_walks 28 = .ok (.ifCond .eq 7, 3) := db223.2.2.2.2.2.2.2.2.2.2.2.2.2.2.2.2.1
theorem dX10_walks_35 : decode cX10_walks 35 = .ok (.iconst 0, 1) := db223.2.2.2.2.2.2.2.2.2.2.2.2.2.2.2.2.2.1
theorem dX10_walks_36 : decode cX10_walks 36 = .ok (.ireturn, 1) := db223.2.2.2.2.2.2.2.2.2.2.2.2.2.2.2.2.2.2.1
theorem dX10_walks_31 : decode cX10_walks 31 = .ok (.iconst 1, 1) := db223.2.2.2.2.2.2.2.2.2.2.2.2.2.2.2.2.2.2.2.1
theorem dX10_walks_32 : decode cX10_walks 32 = .ok (.goto 4, 3) := db223.2.2.2.2.2.2.2.2.2.2.2.2.2.2.2.2.2.2.2.2.1
theorem dX10_walks_15 : decode cX10_walks 15 = .ok (.iload_n 3, 1) := db223.2.2.2.2.2.2.2.2.2.2.2.2.2.2.2.2.2.2.2.2.2.1
theorem dX10_walks_16 : decode cX10_walks 16 = .ok (.ireturn, 1) := db223.2.2.2.2.2.2.2.2.2.2.2.2.2.2.2.2.2.2.2.2.2.2
theorem db224 : (decode cX10_way 0 = .ok (.aload_n 0, 1)) ∧ (decode cX10_way 1 = .ok (.iload_n 1, 1)) ∧ (decode cX10_way 2 = .ok (.invokevirtual 120, 3)) ∧ (decode cX10_way 5 = .ok (.ifCond .eq 20, 3)) ∧ (decode cX10_way 25 = .ok (.bipush (-2), 2)) ∧ (decode cX10_way 27 = .ok (.ireturn, 1)) ∧ (decode cX10_way 8 = .ok (.aload_n 0, 1)) ∧ (decode cX10_way 9 = .ok (.iload_n 2, 1)) ∧ (decode cX10_way 10 = .ok (.invokevirtual 120, 3)) ∧ (decode cX10_way 13 = .ok (.ifCond .eq 12, 3)) ∧ (decode cX10_way 16 = .ok (.iload_n 3, 1)) ∧ (decode cX10_way 17 = .ok (.ifCond .lt 8, 3)) ∧ (decode cX10_way 20 = .ok (.iload_n 3, 1)) ∧ (decode cX10_way 21 = .ok (.iconst 1, 1)) ∧ (decode cX10_way 22 = .ok (.if_icmp .le 6, 3)) ∧ (decode cX10_way 28 = .ok (.aload_n 0, 1)) ∧ (decode cX10_way 29 = .ok (.getfield 65, 3)) ∧ (decode cX10_way 32 = .ok (.aload_n 0, 1)) ∧ (decode cX10_way 33 = .ok (.getfield 31, 3)) ∧ (decode cX10_way 36 = .ok (.getfield 98, 3)) ∧ (decode cX10_way 39 = .ok (.iload_n 1, 1)) ∧ (decode cX10_way 40 = .ok (.iload_n 2, 1)) ∧ (decode cX10_way 41 = .ok (.iconst 0, 1)) ∧ (decode cX10_way 42 = .ok (.invokevirtual 253, 3)) := by decide +kernel
theorem dX10_way_0 : decode cX10_way 0 = .ok (.aload_n 0, 1) := db224.1
theorem dX10_way_1 : decode cX10_way 1 = .ok (.iload_n 1, 1) := db224.2.1
theorem dX10_way_2 : decode cX10_way 2 = .ok (.invokevirtual 120, 3) := db224.2.2.1
theorem dX10_way_5 : decode cX10_way 5 = .ok (.ifCond .eq 20, 3) := db224.2.2.2.1
theorem dX10_way_25 : decode cX10_way 25 = .ok (.bipush (-2), 2) := db224.2.2.2.2.1
theorem dX10_way_27 : decode cX10_way 27 = .ok (.ireturn, 1) := db224.2.2.2.2.2.1
theorem dX10_way_8 : decode cX10_way 8 = .ok (.aload_n 0, 1) := db224.2.2.2.2.2.2.1
theorem dX10_way_9 : decode cX10_way 9 = .ok (.iload_n 2, 1) := db224.2.2.2.2.2.2.2.1
theorem dX10_way_10 : decode cX10_way 10 = .ok (.invokevirtual 120, 3) := db224.2.2.2.2.2.2.2.2.1
theorem dX10_way_13 : decode cX10_way 13 = .ok (.ifCond .eq 12, 3) := db224.2.2.2.2.2.2.2.2.2.1
theorem dX10_way_16 : decode cX10_way 16 = .ok (.iload_n 3, 1) := db224.2.2.2.2.2.2.2.2.2.2.1
theorem dX10_way_17 : decode cX10_way 17 = .ok (.ifCond .lt 8, 3) := db224.2.2.2.2.2.2.2.2.2.2.2.1
theorem dX10_way_20 : decode cX10_way 20 = .ok (.iload_n 3, 1) := db224.2.2.2.2.2.2.2.2.2.2.2.2.1
theorem dX10_way_21 : decode cX10_way 21 = .ok (.iconst 1, 1) := db224.2.2.2.2.2.2.2.2.2.2.2.2.2.1
theorem dX10_way_22 : decode cX10_way 22 = .ok (.if_icmp .le 6, 3) := db224.2.2.2.2.2.2.2.2.2.2.2.2.2.2.1
theorem dX10_way_28 : decode cX10_way 28 = .ok (.aload_n 0, 1) := db224.2.2.2.2.2.2.2.2.2.2.2.2.2.2.2.1
theorem dX10_way_29 : decode cX10_way 29 = .ok (.getfield 65, 3) := db224.2.2.2.2.2.2.2.2.2.2.2.2.2.2.2.2.1
theorem dX10_way_32 : decode cX10_way 32 = .ok (.aload_n 0, 1) := db224.2.2.2.2.2.2.2.2.2.2.2.2.2.2.2.2.2.1
theorem dX10_way_33 : decode cX10_way 33 = .ok (.getfield 31, 3) := db224.2.2.2.2.2.2.2.2.2.2.2.2.2.2.2.2.2.2.1
theorem dX10_way_36 : decode cX10_way 36 = .ok (.getfield 98, 3) := db224.2.2.2.2.2.2.2.2.2.2.2.2.2.2.2.2.2.2.2.1
theorem dX10_way_39 : decode cX10_way 39 = .ok (.iload_n 1, 1) := db224.2.2.2.2.2.2.2.2.2.2.2.2.2.2.2.2.2.2.2.2.1
theorem dX10_way_40 : decode cX10_way 40 = .ok (.iload_n 2, 1) := db224.2.2.2.2.2.2.2.2.2.2.2.2.2.2.2.2.2.2.2.2.2.1
theorem dX10_way_41 : decode cX10_way 41 = .ok (.iconst 0, 1) := db224.2.2.2.2.2.2.2.2.2.2.2.2.2.2.2.2.2.2.2.2.2.2.1
theorem dX10_way_42 : decode cX10_way 42 = .ok (.invokevirtual 253, 3) := db224.2.2.2.2.2.2.2.2.2.2.2.2.2.2.2.2.2.2.2.2.2.2.2
theorem db225 : (decode cX10_way 45 = .ok (.pop, 1)) ∧ (decode cX10_way 46 = .ok (.aload_n 0, 1)) ∧ (decode cX10_way 47 = .ok (.getfield 65, 3)) ∧ (decode cX10_way 50 = .ok (.iload_n 3, 1)) ∧ (decode cX10_way 51 = .ok (.iload 4, 2)) ∧ (decode cX10_way 53 = .ok (.invokevirtual 260, 3)) ∧ (decode cX10_way 56 = .ok (.ireturn, 1)) := by decide +kernel
theorem dX10_way_45 : decode cX10_way 45 = .ok (.pop, 1) := db225.1
theorem dX10_way_46 : decode cX10_way 46 = .ok (.aload_n 0, 1) := db225.2.1
theorem dX10_way_47 : decode cX10_way 47 = .ok (.getfield 65, 3) := db225.2.2.1
theorem dX10_way_50 : decode cX10_way 50 = .ok (.iload_n 3, 1) := db225.2.2.2.1
theorem dX10_way_51 : decode cX10_way 51 = .ok (.iload 4, 2) := db225.2.2.2.2.1
theorem dX10_way_53 : decode cX10_way 53 = .ok (.invokevirtual 260, 3) := db225.2.2.2.2.2.1
theorem dX10_way_56 : decode cX10_way 56 = .ok (.ireturn, 1) := db225.2.2.2.2.2.2
theorem db226 : (decode cX10_which 0 = .ok (.aload_n 0, 1)) ∧ (decode cX10_which 1 = .ok (.iload_n 1, 1)) ∧ (decode cX10_which 2 = .ok (.invokevirtual 267, 3)) ∧ (decode cX10_which 5 = .ok (.ifCond .eq 21, 3)) ∧ (decode cX10_which 26 = .ok (.bipush (-2), 2)) ∧ (decode cX10_which 28 = .ok (.ireturn, 1)) ∧ (decode cX10_which 8 = .ok (.aload_n 0, 1)) ∧ (decode cX10_which 9 = .ok (.getfield 72, 3)) ∧ (decode cX10_which 12 = .ok (.aload_n 0, 1)) ∧ (decode cX10_which 13 = .ok (.getfield 31, 3)) ∧ (decode cX10_which 16 = .ok (.getfield 98, 3)) ∧ (decode cX10_which 19 = .ok (.iload_n 1, 1)) ∧ (decode cX10_which 20 = .ok (.invokevirtual 270, 3)) ∧ (decode cX10_which 23 = .ok (.goto 5, 3)) := by decide +kernel
theorem dX10_which_0 : decode cX10_which 0 = .ok (.aload_n 0, 1) := db226.1
theorem dX10_which_1 : decode cX10_which 1 = .ok (.iload_n 1, 1) := db226.2.1
theorem dX10_which_2 : decode cX10_which 2 = .ok (.invokevirtual 267, 3) := db226.2.2.1
theorem dX10_which_5 : decode cX10_which 5 = .ok (.ifCond .eq 21, 3) := db226.2.2.2.1
theorem dX10_which_26 : decode cX10_which 26 = .ok (.bipush (-2), 2) := db226.2.2.2.2.1
theorem dX10_which_28 : decode cX10_which 28 = .ok (.ireturn, 1) := db226.2.2.2.2.2.1
theorem dX10_which_8 : decode cX10_which 8 = .ok (.aload_n 0, 1) := db226.2.2.2.2.2.2.1
theorem dX10_which_9 : decode cX10_which 9 = .ok (.getfield 72, 3) := db226.2.2.2.2.2.2.2.1
theorem dX10_which_12 : decode cX10_which 12 = .ok (.aload_n 0, 1) := db226.2.2.2.2.2.2.2.2.1
theorem dX10_which_13 : decode cX10_which 13 = .ok (.getfield 31, 3) := db226.2.2.2.2.2.2.2.2.2.1
theorem dX10_which_16 : decode cX10_which 16 = .ok (.getfield 98, 3) := db226.2.2.2.2.2.2.2.2.2.2.1
theorem dX10_which_19 : decode cX10_which 19 = .ok (.iload_n 1, 1) := db226.2.2.2.2.2.2.2.2.2.2.2.1
theorem dX10_which_20 : decode cX10_which 20 = .ok (.invokevirtual 270, 3) := db226.2.2.2.2.2.2.2.2.2.2.2.2.1
theorem dX10_which_23 : decode cX10_which 23 = .ok (.goto 5, 3) := db226.2.2.2.2.2.2.2.2.2.2.2.2.2
theorem db227 : (decode cX10_worthOf 0 = .ok (.aload_n 0, 1)) ∧ (decode cX10_worthOf 1 = .ok (.getfield 31, 3)) ∧ (decode cX10_worthOf 4 = .ok (.getfield 98, 3)) ∧ (decode cX10_worthOf 7 = .ok (.getfield 391, 3)) ∧ (decode cX10_worthOf 10 = .ok (.i2l, 1)) ∧ (decode cX10_worthOf 11 = .ok (.iload_n 1, 1)) ∧ (decode cX10_worthOf 12 = .ok (.i2l, 1)) ∧ (decode cX10_worthOf 13 = .ok (.lmul, 1)) ∧ (decode cX10_worthOf 14 = .ok (.ldc2_w 394, 3)) ∧ (decode cX10_worthOf 17 = .ok (.ldiv, 1)) ∧ (decode cX10_worthOf 18 = .ok (.l2i, 1)) ∧ (decode cX10_worthOf 19 = .ok (.ireturn, 1)) := by decide +kernel
theorem dX10_worthOf_0 : decode cX10_worthOf 0 = .ok (.aload_n 0, 1) := db227.1
theorem dX10_worthOf_1 : decode cX10_worthOf 1 = .ok (.getfield 31, 3) := db227.2.1
theorem dX10_worthOf_4 : decode cX10_worthOf 4 = .ok (.getfield 98, 3) := db227.2.2.1
theorem dX10_worthOf_7 : decode cX10_worthOf 7 = .ok (.getfield 391, 3) := db227.2.2.2.1
theorem dX10_worthOf_10 : decode cX10_worthOf 10 = .ok (.i2l, 1) := db227.2.2.2.2.1
theorem dX10_worthOf_11 : decode cX10_worthOf 11 = .ok (.iload_n 1, 1) := db227.2.2.2.2.2.1
theorem dX10_worthOf_12 : decode cX10_worthOf 12 = .ok (.i2l, 1) := db227.2.2.2.2.2.2.1
theorem dX10_worthOf_13 : decode cX10_worthOf 13 = .ok (.lmul, 1) := db227.2.2.2.2.2.2.2.1
theorem dX10_worthOf_14 : decode cX10_worthOf 14 = .ok (.ldc2_w 394, 3) := db227.2.2.2.2.2.2.2.2.1
theorem dX10_worthOf_17 : decode cX10_worthOf 17 = .ok (.ldiv, 1) := db227.2.2.2.2.2.2.2.2.2.1
theorem dX10_worthOf_18 : decode cX10_worthOf 18 = .ok (.l2i, 1) := db227.2.2.2.2.2.2.2.2.2.2.1
theorem dX10_worthOf_19 : decode cX10_worthOf 19 = .ok (.ireturn, 1) := db227.2.2.2.2.2.2.2.2.2.2.2
theorem db228 : (decode cX10_write 0 = .ok (.aload_n 0, 1)) ∧ (decode cX10_write 1 = .ok (.iload_n 1, 1)) ∧ (decode cX10_write 2 = .ok (.invokevirtual 348, 3)) ∧ (decode cX10_write 5 = .ok (.ifCond .ne 6, 3)) ∧ (decode cX10_write 11 = .ok (.aload_n 0, 1)) ∧ (decode cX10_write 12 = .ok (.getfield 41, 3)) ∧ (decode cX10_write 15 = .ok (.iload_n 1, 1)) ∧ (decode cX10_write 16 = .ok (.aaload, 1)) ∧ (decode cX10_write 17 = .ok (.astore 5, 2)) ∧ (decode cX10_write 19 = .ok (.aload 5, 2)) ∧ (decode cX10_write 21 = .ok (.getfield 354, 3)) ∧ (decode cX10_write 24 = .ok (.ifCond .ne 6, 3)) ∧ (decode cX10_write 30 = .ok (.iload_n 2, 1)) ∧ (decode cX10_write 31 = .ok (.ifCond .lt 12, 3)) ∧ (decode cX10_write 43 = .ok (.bipush (-7), 2)) ∧ (decode cX10_write 45 = .ok (.ireturn, 1)) ∧ (decode cX10_write 34 = .ok (.iload_n 2, 1)) ∧ (decode cX10_write 35 = .ok (.aload 5, 2)) ∧ (decode cX10_write 37 = .ok (.getfield 194, 3)) ∧ (decode cX10_write 40 = .ok (.if_icmp .lt 6, 3)) ∧ (decode cX10_write 46 = .ok (.aload 5, 2)) ∧ (decode cX10_write 48 = .ok (.getfield 357, 3)) ∧ (decode cX10_write 51 = .ok (.iload_n 2, 1)) ∧ (decode cX10_write 52 = .ok (.aload 5, 2)) := by decide +kernel
theorem dX10_write_0 : decode cX10_write 0 = .ok (.aload_n 0, 1) := db228.1
theorem dX10_write_1 : decode cX10_write 1 = .ok (.iload_n 1, 1) := db228.2.1
theorem dX10_write_2 : decode cX10_write 2 = .ok (.invokevirtual 348, 3) := db228.2.2.1
theorem dX10_write_5 : decode cX10_write 5 = .ok (.ifCond .ne 6, 3) := db228.2.2.2.1
theorem dX10_write_11 : decode cX10_write 11 = .ok (.aload_n 0, 1) := db228.2.2.2.2.1
theorem dX10_write_12 : decode cX10_write 12 = .ok (.getfield 41, 3) := db228.2.2.2.2.2.1
theorem dX10_write_15 : decode cX10_write 15 = .ok (.iload_n 1, 1) := db228.2.2.2.2.2.2.1
theorem dX10_write_16 : decode cX10_write 16 = .ok (.aaload, 1) := db228.2.2.2.2.2.2.2.1
theorem dX10_write_17 : decode cX10_write 17 = .ok (.astore 5, 2) := db228.2.2.2.2.2.2.2.2.1
theorem dX10_write_19 : decode cX10_write 19 = .ok (.aload 5, 2) := db228.2.2.2.2.2.2.2.2.2.1
theorem dX10_write_21 : decode cX10_write 21 = .ok (.getfield 354, 3) := db228.2.2.2.2.2.2.2.2.2.2.1
theorem dX10_write_24 : decode cX10_write 24 = .ok (.ifCond .ne 6, 3) := db228.2.2.2.2.2.2.2.2.2.2.2.1
theorem dX10_write_30 : decode cX10_write 30 = .ok (.iload_n 2, 1) := db228.2.2.2.2.2.2.2.2.2.2.2.2.1
theorem dX10_write_31 : decode cX10_write 31 = .ok (.ifCond .lt 12, 3) := db228.2.2.2.2.2.2.2.2.2.2.2.2.2.1
theorem dX10_write_43 : decode cX10_write 43 = .ok (.bipush (-7), 2) := db228.2.2.2.2.2.2.2.2.2.2.2.2.2.2.1
theorem dX10_write_45 : decode cX10_write 45 = .ok (.ireturn, 1) := db228.2.2.2.2.2.2.2.2.2.2.2.2.2.2.2.1
theorem dX10_write_34 : decode cX10_write 34 = .ok (.iload_n 2, 1) := db228.2.2.2.2.2.2.2.2.2.2.2.2.2.2.2.2.1
theorem dX10_write_35 : decode cX10_write 35 = .ok (.aload 5, 2) := db228.2.2.2.2.2.2.2.2.2.2.2.2.2.2.2.2.2.1
theorem dX10_write_37 : decode cX10_write 37 = .ok (.getfield 194, 3) := db228.2.2.2.2.2.2.2.2.2.2.2.2.2.2.2.2.2.2.1
theorem dX10_write_40 : decode cX10_write 40 = .ok (.if_icmp .lt 6, 3) := db228.2.2.2.2.2.2.2.2.2.2.2.2.2.2.2.2.2.2.2.1
theorem dX10_write_46 : decode cX10_write 46 = .ok (.aload 5, 2) := db228.2.2.2.2.2.2.2.2.2.2.2.2.2.2.2.2.2.2.2.2.1
theorem dX10_write_48 : decode cX10_write 48 = .ok (.getfield 357, 3) := db228.2.2.2.2.2.2.2.2.2.2.2.2.2.2.2.2.2.2.2.2.2.1
theorem dX10_write_51 : decode cX10_write 51 = .ok (.iload_n 2, 1) := db228.2.2.2.2.2.2.2.2.2.2.2.2.2.2.2.2.2.2.2.2.2.2.1
theorem dX10_write_52 : decode cX10_write 52 = .ok (.aload 5, 2) := db228.2.2.2.2.2.2.2.2.2.2.2.2.2.2.2.2.2.2.2.2.2.2.2
theorem db229 : (decode cX10_write 54 = .ok (.lload_n 3, 1)) ∧ (decode cX10_write 55 = .ok (.invokevirtual 361, 3)) ∧ (decode cX10_write 58 = .ok (.lastore, 1)) ∧ (decode cX10_write 59 = .ok (.iconst 0, 1)) ∧ (decode cX10_write 60 = .ok (.ireturn, 1)) ∧ (decode cX10_write 27 = .ok (.bipush (-6), 2)) ∧ (decode cX10_write 29 = .ok (.ireturn, 1)) ∧ (decode cX10_write 8 = .ok (.bipush (-2), 2)) ∧ (decode cX10_write 10 = .ok (.ireturn, 1)) := by decide +kernel
theorem dX10_write_54 : decode cX10_write 54 = .ok (.lload_n 3, 1) := db229.1
theorem dX10_write_55 : decode cX10_write 55 = .ok (.invokevirtual 361, 3) := db229.2.1
theorem dX10_write_58 : decode cX10_write 58 = .ok (.lastore, 1) := db229.2.2.1
theorem dX10_write_59 : decode cX10_write 59 = .ok (.iconst 0, 1) := db229.2.2.2.1
theorem dX10_write_60 : decode cX10_write 60 = .ok (.ireturn, 1) := db229.2.2.2.2.1
theorem dX10_write_27 : decode cX10_write 27 = .ok (.bipush (-6), 2) := db229.2.2.2.2.2.1
theorem dX10_write_29 : decode cX10_write 29 = .ok (.ireturn, 1) := db229.2.2.2.2.2.2.1
theorem dX10_write_8 : decode cX10_write 8 = .ok (.bipush (-2), 2) := db229.2.2.2.2.2.2.2.1
theorem dX10_write_10 : decode cX10_write 10 = .ok (.ireturn, 1) := db229.2.2.2.2.2.2.2.2
theorem db230 : (decode cX10_yes 0 = .ok (.aload_n 0, 1)) ∧ (decode cX10_yes 1 = .ok (.iload_n 1, 1)) ∧ (decode cX10_yes 2 = .ok (.invokevirtual 267, 3)) ∧ (decode cX10_yes 5 = .ok (.ifCond .eq 13, 3)) ∧ (decode cX10_yes 18 = .ok (.bipush (-2), 2)) ∧ (decode cX10_yes 20 = .ok (.ireturn, 1)) ∧ (decode cX10_yes 8 = .ok (.iload_n 2, 1)) ∧ (decode cX10_yes 9 = .ok (.ifCond .lt 9, 3)) ∧ (decode cX10_yes 12 = .ok (.iload_n 2, 1)) ∧ (decode cX10_yes 13 = .ok (.bipush 6, 2)) ∧ (decode cX10_yes 15 = .ok (.if_icmp .lt 6, 3)) ∧ (decode cX10_yes 21 = .ok (.aload_n 0, 1)) ∧ (decode cX10_yes 22 = .ok (.getfield 31, 3)) ∧ (decode cX10_yes 25 = .ok (.getfield 98, 3)) ∧ (decode cX10_yes 28 = .ok (.iload_n 1, 1)) ∧ (decode cX10_yes 29 = .ok (.iload_n 2, 1)) ∧ (decode cX10_yes 30 = .ok (.invokevirtual 277, 3)) ∧ (decode cX10_yes 33 = .ok (.ireturn, 1)) := by decide +kernel
theorem dX10_yes_0 : decode cX10_yes 0 = .ok (.aload_n 0, 1) := db230.1
theorem dX10_yes_1 : decode cX10_yes 1 = .ok (.iload_n 1, 1) := db230.2.1
theorem dX10_yes_2 : decode cX10_yes 2 = .ok (.invokevirtual 267, 3) := db230.2.2.1
theorem dX10_yes_5 : decode cX10_yes 5 = .ok (.ifCond .eq 13, 3) := db230.2.2.2.1
theorem dX10_yes_18 : decode cX10_yes 18 = .ok (.bipush (-2), 2) := db230.2.2.2.2.1
theorem dX10_yes_20 : decode cX10_yes 20 = .ok (.ireturn, 1) := db230.2.2.2.2.2.1
theorem dX10_yes_8 : decode cX10_yes 8 = .ok (.iload_n 2, 1) := db230.2.2.2.2.2.2.1
theorem dX10_yes_9 : decode cX10_yes 9 = .ok (.ifCond .lt 9, 3) := db230.2.2.2.2.2.2.2.1
theorem dX10_yes_12 : decode cX10_yes 12 = .ok (.iload_n 2, 1) := db230.2.2.2.2.2.2.2.2.1
theorem dX10_yes_13 : decode cX10_yes 13 = .ok (.bipush 6, 2) := db230.2.2.2.2.2.2.2.2.2.1
theorem dX10_yes_15 : decode cX10_yes 15 = .ok (.if_icmp .lt 6, 3) := db230.2.2.2.2.2.2.2.2.2.2.1
theorem dX10_yes_21 : decode cX10_yes 21 = .ok (.aload_n 0, 1) := db230.2.2.2.2.2.2.2.2.2.2.2.1
theorem dX10_yes_22 : decode cX10_yes 22 = .ok (.getfield 31, 3) := db230.2.2.2.2.2.2.2.2.2.2.2.2.1
theorem dX10_yes_25 : decode cX10_yes 25 = .ok (.getfield 98, 3) := db230.2.2.2.2.2.2.2.2.2.2.2.2.2.1
theorem dX10_yes_28 : decode cX10_yes 28 = .ok (.iload_n 1, 1) := db230.2.2.2.2.2.2.2.2.2.2.2.2.2.2.1
theorem dX10_yes_29 : decode cX10_yes 29 = .ok (.iload_n 2, 1) := db230.2.2.2.2.2.2.2.2.2.2.2.2.2.2.2.1
theorem dX10_yes_30 : decode cX10_yes 30 = .ok (.invokevirtual 277, 3) := db230.2.2.2.2.2.2.2.2.2.2.2.2.2.2.2.2.1
theorem dX10_yes_33 : decode cX10_yes 33 = .ok (.ireturn, 1) := db230.2.2.2.2.2.2.2.2.2.2.2.2.2.2.2.2.2
theorem db231 : (decode cX11_advance 0 = .ok (.aload_n 0, 1)) ∧ (decode cX11_advance 1 = .ok (.aload_n 0, 1)) ∧ (decode cX11_advance 2 = .ok (.getfield 99, 3)) ∧ (decode cX11_advance 5 = .ok (.invokevirtual 102, 3)) ∧ (decode cX11_advance 8 = .ok (.bipush 32, 2)) ∧ (decode cX11_advance 26 = .ok (.aload_n 0, 1)) ∧ (decode cX11_advance 27 = .ok (.dup, 1)) ∧ (decode cX11_advance 28 = .ok (.getfield 99, 3)) ∧ (decode cX11_advance 31 = .ok (.iconst 1, 1)) ∧ (decode cX11_advance 32 = .ok (.iadd, 1)) ∧ (decode cX11_advance 33 = .ok (.putfield 99, 3)) ∧ (decode cX11_advance 36 = .ok (.goto (-36), 3)) ∧ (decode cX11_advance 10 = .ok (.if_icmp .eq 16, 3)) ∧ (decode cX11_advance 13 = .ok (.aload_n 0, 1)) ∧ (decode cX11_advance 14 = .ok (.aload_n 0, 1)) ∧ (decode cX11_advance 15 = .ok (.getfield 99, 3)) ∧ (decode cX11_advance 18 = .ok (.invokevirtual 102, 3)) ∧ (decode cX11_advance 21 = .ok (.bipush 10, 2)) ∧ (decode cX11_advance 23 = .ok (.if_icmp .ne 16, 3)) ∧ (decode cX11_advance 39 = .ok (.aload_n 0, 1)) ∧ (decode cX11_advance 40 = .ok (.aload_n 0, 1)) ∧ (decode cX11_advance 41 = .ok (.getfield 99, 3)) ∧ (decode cX11_advance 44 = .ok (.putfield 106, 3)) ∧ (decode cX11_advance 47 = .ok (.aload_n 0, 1)) := by decide +kernel
theorem dX11_advance_0 : decode cX11_advance 0 = .ok (.aload_n 0, 1) := db231.1
theorem dX11_advance_1 : decode cX11_advance 1 = .ok (.aload_n 0, 1) := db231.2.1
theorem dX11_advance_2 : decode cX11_advance 2 = .ok (.getfield 99, 3) := db231.2.2.1
theorem dX11_advance_5 : decode cX11_advance 5 = .ok (.invokevirtual 102, 3) := db231.2.2.2.1
theorem dX11_advance_8 : decode cX11_advance 8 = .ok (.bipush 32, 2) := db231.2.2.2.2.1
theorem dX11_advance_26 : decode cX11_advance 26 = .ok (.aload_n 0, 1) := db231.2.2.2.2.2.1
theorem dX11_advance_27 : decode cX11_advance 27 = .ok (.dup, 1) := db231.2.2.2.2.2.2.1
theorem dX11_advance_28 : decode cX11_advance 28 = .ok (.getfield 99, 3) := db231.2.2.2.2.2.2.2.1
theorem dX11_advance_31 : decode cX11_advance 31 = .ok (.iconst 1, 1) := db231.2.2.2.2.2.2.2.2.1
theorem dX11_advance_32 : decode cX11_advance 32 = .ok (.iadd, 1) := db231.2.2.2.2.2.2.2.2.2.1
theorem dX11_advance_33 : decode cX11_advance 33 = .ok (.putfield 99, 3) := db231.2.2.2.2.2.2.2.2.2.2.1
theorem dX11_advance_36 : decode cX11_advance 36 = .ok (.goto (-36), 3) := db231.2.2.2.2.2.2.2.2.2.2.2.1
theorem dX11_advance_10 : decode cX11_advance 10 = .ok (.if_icmp .eq 16, 3) := db231.2.2.2.2.2.2.2.2.2.2.2.2.1
theorem dX11_advance_13 : decode cX11_advance 13 = .ok (.aload_n 0, 1) := db231.2.2.2.2.2.2.2.2.2.2.2.2.2.1
theorem dX11_advance_14 : decode cX11_advance 14 = .ok (.aload_n 0, 1) := db231.2.2.2.2.2.2.2.2.2.2.2.2.2.2.1
theorem dX11_advance_15 : decode cX11_advance 15 = .ok (.getfield 99, 3) := db231.2.2.2.2.2.2.2.2.2.2.2.2.2.2.2.1
theorem dX11_advance_18 : decode cX11_advance 18 = .ok (.invokevirtual 102, 3) := db231.2.2.2.2.2.2.2.2.2.2.2.2.2.2.2.2.1
theorem dX11_advance_21 : decode cX11_advance 21 = .ok (.bipush 10, 2) := db231.2.2.2.2.2.2.2.2.2.2.2.2.2.2.2.2.2.1
theorem dX11_advance_23 : decode cX11_advance 23 = .ok (.if_icmp .ne 16, 3) := db231.2.2.2.2.2.2.2.2.2.2.2.2.2.2.2.2.2.2.1
theorem dX11_advance_39 : decode cX11_advance 39 = .ok (.aload_n 0, 1) := db231.2.2.2.2.2.2.2.2.2.2.2.2.2.2.2.2.2.2.2.1
theorem dX11_advance_40 : decode cX11_advance 40 = .ok (.aload_n 0, 1) := db231.2.2.2.2.2.2.2.2.2.2.2.2.2.2.2.2.2.2.2.2.1
theorem dX11_advance_41 : decode cX11_advance 41 = .ok (.getfield 99, 3) := db231.2.2.2.2.2.2.2.2.2.2.2.2.2.2.2.2.2.2.2.2.2.1
theorem dX11_advance_44 : decode cX11_advance 44 = .ok (.putfield 106, 3) := db231.2.2.2.2.2.2.2.2.2.2.2.2.2.2.2.2.2.2.2.2.2.2.1
theorem dX11_advance_47 : decode cX11_advance 47 = .ok (.aload_n 0, 1) := db231.2.2.2.2.2.2.2.2.2.2.2.2.2.2.2.2.2.2.2.2.2.2.2
theorem db232 : (decode cX11_advance 48 = .ok (.aload_n 0, 1)) ∧ (decode cX11_advance 49 = .ok (.getfield 99, 3)) ∧ (decode cX11_advance 52 = .ok (.invokevirtual 102, 3)) ∧ (decode cX11_advance 55 = .ok (.istore_n 1, 1)) ∧ (decode cX11_advance 56 = .ok (.iload_n 1, 1)) ∧ (decode cX11_advance 57 = .ok (.iconst (-1), 1)) ∧ (decode cX11_advance 58 = .ok (.if_icmp .ne 11, 3)) ∧ (decode cX11_advance 69 = .ok (.iload_n 1, 1)) ∧ (decode cX11_advance 70 = .ok (.i2l, 1)) ∧ (decode cX11_advance 71 = .ok (.ldc2_w 112, 3)) ∧ (decode cX11_advance 74 = .ok (.ldc2_w 114, 3)) ∧ (decode cX11_advance 77 = .ok (.invokestatic 79, 3)) ∧ (decode cX11_advance 80 = .ok (.ifCond .eq 45, 3)) ∧ (decode cX11_advance 125 = .ok (.iload_n 1, 1)) ∧ (decode cX11_advance 126 = .ok (.i2l, 1)) ∧ (decode cX11_advance 127 = .ok (.ldc2_w 116, 3)) ∧ (decode cX11_advance 130 = .ok (.ldc2_w 118, 3)) ∧ (decode cX11_advance 133 = .ok (.invokestatic 79, 3)) ∧ (decode cX11_advance 136 = .ok (.ifCond .eq 78, 3)) ∧ (decode cX11_advance 214 = .ok (.aload_n 0, 1)) ∧ (decode cX11_advance 215 = .ok (.iload_n 1, 1)) ∧ (decode cX11_advance 216 = .ok (.bipush 59, 2)) ∧ (decode cX11_advance 226 = .ok (.putfield 109, 3)) ∧ (decode cX11_advance 229 = .ok (.aload_n 0, 1)) := by decide +kernel
theorem dX11_advance_48 : decode cX11_advance 48 = .ok (.aload_n 0, 1) := db232.1
theorem dX11_advance_49 : decode cX11_advance 49 = .ok (.getfield 99, 3) := db232.2.1
theorem dX11_advance_52 : decode cX11_advance 52 = .ok (.invokevirtual 102, 3) := db232.2.2.1
theorem dX11_advance_55 : decode cX11_advance 55 = .ok (.istore_n 1, 1) := db232.2.2.2.1
theorem dX11_advance_56 : decode cX11_advance 56 = .ok (.iload_n 1, 1) := db232.2.2.2.2.1
theorem dX11_advance_57 : decode cX11_advance 57 = .ok (.iconst (-1), 1) := db232.2.2.2.2.2.1
theorem dX11_advance_58 : decode cX11_advance 58 = .ok (.if_icmp .ne 11, 3) := db232.2.2.2.2.2.2.1
theorem dX11_advance_69 : decode cX11_advance 69 = .ok (.iload_n 1, 1) := db232.2.2.2.2.2.2.2.1
theorem dX11_advance_70 : decode cX11_advance 70 = .ok (.i2l, 1) := db232.2.2.2.2.2.2.2.2.1
theorem dX11_advance_71 : decode cX11_advance 71 = .ok (.ldc2_w 112, 3) := db232.2.2.2.2.2.2.2.2.2.1
theorem dX11_advance_74 : decode cX11_advance 74 = .ok (.ldc2_w 114, 3) := db232.2.2.2.2.2.2.2.2.2.2.1
theorem dX11_advance_77 : decode cX11_advance 77 = .ok (.invokestatic 79, 3) := db232.2.2.2.2.2.2.2.2.2.2.2.1
theorem dX11_advance_80 : decode cX11_advance 80 = .ok (.ifCond .eq 45, 3) := db232.2.2.2.2.2.2.2.2.2.2.2.2.1
theorem dX11_advance_125 : decode cX11_advance 125 = .ok (.iload_n 1, 1) := db232.2.2.2.2.2.2.2.2.2.2.2.2.2.1
theorem dX11_advance_126 : decode cX11_advance 126 = .ok (.i2l, 1) := db232.2.2.2.2.2.2.2.2.2.2.2.2.2.2.1
theorem dX11_advance_127 : decode cX11_advance 127 = .ok (.ldc2_w 116, 3) := db232.2.2.2.2.2.2.2.2.2.2.2.2.2.2.2.1
theorem dX11_advance_130 : decode cX11_advance 130 = .ok (.ldc2_w 118, 3) := db232.2.2.2.2.2.2.2.2.2.2.2.2.2.2.2.2.1
theorem dX11_advance_133 : decode cX11_advance 133 = .ok (.invokestatic 79, 3) := db232.2.2.2.2.2.2.2.2.2.2.2.2.2.2.2.2.2.1
theorem dX11_advance_136 : decode cX11_advance 136 = .ok (.ifCond .eq 78, 3) := db232.2.2.2.2.2.2.2.2.2.2.2.2.2.2.2.2.2.2.1
theorem dX11_advance_214 : decode cX11_advance 214 = .ok (.aload_n 0, 1) := db232.2.2.2.2.2.2.2.2.2.2.2.2.2.2.2.2.2.2.2.1
theorem dX11_advance_215 : decode cX11_advance 215 = .ok (.iload_n 1, 1) := db232.2.2.2.2.2.2.2.2.2.2.2.2.2.2.2.2.2.2.2.2.1
theorem dX11_advance_216 : decode cX11_advance 216 = .ok (.bipush 59, 2) := db232.2.2.2.2.2.2.2.2.2.2.2.2.2.2.2.2.2.2.2.2.2.1
theorem dX11_advance_226 : decode cX11_advance 226 = .ok (.putfield 109, 3) := db232.2.2.2.2.2.2.2.2.2.2.2.2.2.2.2.2.2.2.2.2.2.2.1
theorem dX11_advance_229 : decode cX11_advance 229 = .ok (.aload_n 0, 1) := db232.2.2.2.2.2.2.2.2.2.2.2.2.2.2.2.2.2.2.2.2.2.2.2
theorem db233 : (decode cX11_advance 230 = .ok (.dup, 1)) ∧ (decode cX11_advance 231 = .ok (.getfield 99, 3)) ∧ (decode cX11_advance 234 = .ok (.iconst 1, 1)) ∧ (decode cX11_advance 235 = .ok (.iadd, 1)) ∧ (decode cX11_advance 236 = .ok (.putfield 99, 3)) ∧ (decode cX11_advance 239 = .ok (.return_, 1)) ∧ (decode cX11_advance 218 = .ok (.if_icmp .ne 7, 3)) ∧ (decode cX11_advance 225 = .ok (.iconst 4, 1)) ∧ (decode cX11_advance 221 = .ok (.iconst 3, 1)) ∧ (decode cX11_advance 222 = .ok (.goto 4, 3)) ∧ (decode cX11_advance 139 = .ok (.aload_n 0, 1)) ∧ (decode cX11_advance 140 = .ok (.iconst 0, 1)) ∧ (decode cX11_advance 141 = .ok (.putfield 120, 3)) ∧ (decode cX11_advance 144 = .ok (.aload_n 0, 1)) ∧ (decode cX11_advance 145 = .ok (.aload_n 0, 1)) ∧ (decode cX11_advance 146 = .ok (.getfield 99, 3)) ∧ (decode cX11_advance 149 = .ok (.invokevirtual 102, 3)) ∧ (decode cX11_advance 152 = .ok (.i2l, 1)) ∧ (decode cX11_advance 153 = .ok (.ldc2_w 116, 3)) ∧ (decode cX11_advance 156 = .ok (.ldc2_w 118, 3)) ∧ (decode cX11_advance 159 = .ok (.invokestatic 79, 3)) ∧ (decode cX11_advance 162 = .ok (.ifCond .eq 44, 3)) ∧ (decode cX11_advance 206 = .ok (.aload_n 0, 1)) ∧ (decode cX11_advance 207 = .ok (.iconst 2, 1)) := by decide +kernel
theorem dX11_advance_230 : decode cX11_advance 230 = .ok (.dup, 1) := db233.1
theorem dX11_advance_231 : decode cX11_advance 231 = .ok (.getfield 99, 3) := db233.2.1
theorem dX11_advance_234 : decode cX11_advance 234 = .ok (.iconst 1, 1) := db233.2.2.1
theorem dX11_advance_235 : decode cX11_advance 235 = .ok (.iadd, 1) := db233.2.2.2.1
theorem dX11_advance_236 : decode cX11_advance 236 = .ok (.putfield 99, 3) := db233.2.2.2.2.1
theorem dX11_advance_239 : decode cX11_advance 239 = .ok (.return_, 1) := db233.2.2.2.2.2.1
theorem dX11_advance_218 : decode cX11_advance 218 = .ok (.if_icmp .ne 7, 3) := db233.2.2.2.2.2.2.1
theorem dX11_advance_225 : decode cX11_advance 225 = .ok (.iconst 4, 1) := db233.2.2.2.2.2.2.2.1
theorem dX11_advance_221 : decode cX11_advance 221 = .ok (.iconst 3, 1) := db233.2.2.2.2.2.2.2.2.1
theorem dX11_advance_222 : decode cX11_advance 222 = .ok (.goto 4, 3) := db233.2.2.2.2.2.2.2.2.2.1
theorem dX11_advance_139 : decode cX11_advance 139 = .ok (.aload_n 0, 1) := db233.2.2.2.2.2.2.2.2.2.2.1
theorem dX11_advance_140 : decode cX11_advance 140 = .ok (.iconst 0, 1) := db233.2.2.2.2.2.2.2.2.2.2.2.1
theorem dX11_advance_141 : decode cX11_advance 141 = .ok (.putfield 120, 3) := db233.2.2.2.2.2.2.2.2.2.2.2.2.1
theorem dX11_advance_144 : decode cX11_advance 144 = .ok (.aload_n 0, 1) := db233.2.2.2.2.2.2.2.2.2.2.2.2.2.1
theorem dX11_advance_145 : decode cX11_advance 145 = .ok (.aload_n 0, 1) := db233.2.2.2.2.2.2.2.2.2.2.2.2.2.2.1
theorem dX11_advance_146 : decode cX11_advance 146 = .ok (.getfield 99, 3) := db233.2.2.2.2.2.2.2.2.2.2.2.2.2.2.2.1
theorem dX11_advance_149 : decode cX11_advance 149 = .ok (.invokevirtual 102, 3) := db233.2.2.2.2.2.2.2.2.2.2.2.2.2.2.2.2.1
theorem dX11_advance_152 : decode cX11_advance 152 = .ok (.i2l, 1) := db233.2.2.2.2.2.2.2.2.2.2.2.2.2.2.2.2.2.1
theorem dX11_advance_153 : decode cX11_advance 153 = .ok (.ldc2_w 116, 3) := db233.2.2.2.2.2.2.2.2.2.2.2.2.2.2.2.2.2.2.1
theorem dX11_advance_156 : decode cX11_advance 156 = .ok (.ldc2_w 118, 3) := db233.2.2.2.2.2.2.2.2.2.2.2.2.2.2.2.2.2.2.2.1
theorem dX11_advance_159 : decode cX11_advance 159 = .ok (.invokestatic 79, 3) := db233.2.2.2.2.2.2.2.2.2.2.2.2.2.2.2.2.2.2.2.2.1
theorem dX11_advance_162 : decode cX11_advance 162 = .ok (.ifCond .eq 44, 3) := db233.2.2.2.2.2.2.2.2.2.2.2.2.2.2.2.2.2.2.2.2.2.1
theorem dX11_advance_206 : decode cX11_advance 206 = .ok (.aload_n 0, 1) := db233.2.2.2.2.2.2.2.2.2.2.2.2.2.2.2.2.2.2.2.2.2.2.1
theorem dX11_advance_207 : decode cX11_advance 207 = .ok (.iconst 2, 1) := db233.2.2.2.2.2.2.2.2.2.2.2.2.2.2.2.2.2.2.2.2.2.2.2
theorem db234 : (decode cX11_advance 208 = .ok (.putfield 109, 3)) ∧ (decode cX11_advance 211 = .ok (.goto 28, 3)) ∧ (decode cX11_advance 165 = .ok (.aload_n 0, 1)) ∧ (decode cX11_advance 166 = .ok (.ldc 123, 2)) ∧ (decode cX11_advance 168 = .ok (.bipush 10, 2)) ∧ (decode cX11_advance 170 = .ok (.aload_n 0, 1)) ∧ (decode cX11_advance 171 = .ok (.getfield 120, 3)) ∧ (decode cX11_advance 174 = .ok (.imul, 1)) ∧ (decode cX11_advance 175 = .ok (.aload_n 0, 1)) ∧ (decode cX11_advance 176 = .ok (.aload_n 0, 1)) ∧ (decode cX11_advance 177 = .ok (.getfield 99, 3)) ∧ (decode cX11_advance 180 = .ok (.invokevirtual 102, 3)) ∧ (decode cX11_advance 183 = .ok (.iadd, 1)) ∧ (decode cX11_advance 184 = .ok (.bipush 48, 2)) ∧ (decode cX11_advance 186 = .ok (.isub, 1)) ∧ (decode cX11_advance 187 = .ok (.invokestatic 124, 3)) ∧ (decode cX11_advance 190 = .ok (.putfield 120, 3)) ∧ (decode cX11_advance 193 = .ok (.aload_n 0, 1)) ∧ (decode cX11_advance 194 = .ok (.dup, 1)) ∧ (decode cX11_advance 195 = .ok (.getfield 99, 3)) ∧ (decode cX11_advance 198 = .ok (.iconst 1, 1)) ∧ (decode cX11_advance 199 = .ok (.iadd, 1)) ∧ (decode cX11_advance 200 = .ok (.putfield 99, 3)) ∧ (decode cX11_advance 203 = .ok (.goto (-59), 3)) := by decide +kernel
theorem dX11_advance_208 : decode cX11_advance 208 = .ok (.putfield 109, 3) := db234.1
theorem dX11_advance_211 : decode cX11_advance 211 = .ok (.goto 28, 3) := db234.2.1
theorem dX11_advance_165 : decode cX11_advance 165 = .ok (.aload_n 0, 1) := db234.2.2.1
theorem dX11_advance_166 : decode cX11_advance 166 = .ok (.ldc 123, 2) := db234.2.2.2.1
theorem dX11_advance_168 : decode cX11_advance 168 = .ok (.bipush 10, 2) := db234.2.2.2.2.1
theorem dX11_advance_170 : decode cX11_advance 170 = .ok (.aload_n 0, 1) := db234.2.2.2.2.2.1
theorem dX11_advance_171 : decode cX11_advance 171 = .ok (.getfield 120, 3) := db234.2.2.2.2.2.2.1
theorem dX11_advance_174 : decode cX11_advance 174 = .ok (.imul, 1) := db234.2.2.2.2.2.2.2.1
theorem dX11_advance_175 : decode cX11_advance 175 = .ok (.aload_n 0, 1) := db234.2.2.2.2.2.2.2.2.1
theorem dX11_advance_176 : decode cX11_advance 176 = .ok (.aload_n 0, 1) := db234.2.2.2.2.2.2.2.2.2.1
theorem dX11_advance_177 : decode cX11_advance 177 = .ok (.getfield 99, 3) := db234.2.2.2.2.2.2.2.2.2.2.1
theorem dX11_advance_180 : decode cX11_advance 180 = .ok (.invokevirtual 102, 3) := db234.2.2.2.2.2.2.2.2.2.2.2.1
theorem dX11_advance_183 : decode cX11_advance 183 = .ok (.iadd, 1) := db234.2.2.2.2.2.2.2.2.2.2.2.2.1
theorem dX11_advance_184 : decode cX11_advance 184 = .ok (.bipush 48, 2) := db234.2.2.2.2.2.2.2.2.2.2.2.2.2.1
theorem dX11_advance_186 : decode cX11_advance 186 = .ok (.isub, 1) := db234.2.2.2.2.2.2.2.2.2.2.2.2.2.2.1
theorem dX11_advance_187 : decode cX11_advance 187 = .ok (.invokestatic 124, 3) := db234.2.2.2.2.2.2.2.2.2.2.2.2.2.2.2.1
theorem dX11_advance_190 : decode cX11_advance 190 = .ok (.putfield 120, 3) := db234.2.2.2.2.2.2.2.2.2.2.2.2.2.2.2.2.1
theorem dX11_advance_193 : decode cX11_advance 193 = .ok (.aload_n 0, 1) := db234.2.2.2.2.2.2.2.2.2.2.2.2.2.2.2.2.2.1
theorem dX11_advance_194 : decode cX11_advance 194 = .ok (.dup, 1) := db234.2.2.2.2.2.2.2.2.2.2.2.2.2.2.2.2.2.2.1
theorem dX11_advance_195 : decode cX11_advance 195 = .ok (.getfield 99, 3) := db234.2.2.2.2.2.2.2.2.2.2.2.2.2.2.2.2.2.2.2.1
theorem dX11_advance_198 : decode cX11_advance 198 = .ok (.iconst 1, 1) := db234.2.2.2.2.2.2.2.2.2.2.2.2.2.2.2.2.2.2.2.2.1
theorem dX11_advance_199 : decode cX11_advance 199 = .ok (.iadd, 1) := db234.2.2.2.2.2.2.2.2.2.2.2.2.2.2.2.2.2.2.2.2.2.1
theorem dX11_advance_200 : decode cX11_advance 200 = .ok (.putfield 99, 3) := db234.2.2.2.2.2.2.2.2.2.2.2.2.2.2.2.2.2.2.2.2.2.2.1
theorem dX11_advance_203 : decode cX11_advance 203 = .ok (.goto (-59), 3) := db234.2.2.2.2.2.2.2.2.2.2.2.2.2.2.2.2.2.2.2.2.2.2.2
theorem db235 : (decode cX11_advance 83 = .ok (.aload_n 0, 1)) ∧ (decode cX11_advance 84 = .ok (.aload_n 0, 1)) ∧ (decode cX11_advance 85 = .ok (.getfield 99, 3)) ∧ (decode cX11_advance 88 = .ok (.invokevirtual 102, 3)) ∧ (decode cX11_advance 91 = .ok (.i2l, 1)) ∧ (decode cX11_advance 92 = .ok (.ldc2_w 112, 3)) ∧ (decode cX11_advance 95 = .ok (.ldc2_w 114, 3)) ∧ (decode cX11_advance 98 = .ok (.invokestatic 79, 3)) ∧ (decode cX11_advance 101 = .ok (.ifCond .eq 16, 3)) ∧ (decode cX11_advance 117 = .ok (.aload_n 0, 1)) ∧ (decode cX11_advance 118 = .ok (.iconst 1, 1)) ∧ (decode cX11_advance 119 = .ok (.putfield 109, 3)) ∧ (decode cX11_advance 122 = .ok (.goto 117, 3)) ∧ (decode cX11_advance 104 = .ok (.aload_n 0, 1)) ∧ (decode cX11_advance 105 = .ok (.dup, 1)) ∧ (decode cX11_advance 106 = .ok (.getfield 99, 3)) ∧ (decode cX11_advance 109 = .ok (.iconst 1, 1)) ∧ (decode cX11_advance 110 = .ok (.iadd, 1)) ∧ (decode cX11_advance 111 = .ok (.putfield 99, 3)) ∧ (decode cX11_advance 114 = .ok (.goto (-31), 3)) ∧ (decode cX11_advance 61 = .ok (.aload_n 0, 1)) ∧ (decode cX11_advance 62 = .ok (.iconst 0, 1)) ∧ (decode cX11_advance 63 = .ok (.putfield 109, 3)) ∧ (decode cX11_advance 66 = .ok (.goto 173, 3)) := by decide +kernel
theorem dX11_advance_83 : decode cX11_advance 83 = .ok (.aload_n 0, 1) := db235.1
theorem dX11_advance_84 : decode cX11_advance 84 = .ok (.aload_n 0, 1) := db235.2.1
theorem dX11_advance_85 : decode cX11_advance 85 = .ok (.getfield 99, 3) := db235.2.2.1
theorem dX11_advance_88 : decode cX11_advance 88 = .ok (.invokevirtual 102, 3) := db235.2.2.2.1
theorem dX11_advance_91 : decode cX11_advance 91 = .ok (.i2l, 1) := db235.2.2.2.2.1
theorem dX11_advance_92 : decode cX11_advance 92 = .ok (.ldc2_w 112, 3) := db235.2.2.2.2.2.1
theorem dX11_advance_95 : decode cX11_advance 95 = .ok (.ldc2_w 114, 3) := db235.2.2.2.2.2.2.1
theorem dX11_advance_98 : decode cX11_advance 98 = .ok (.invokestatic 79, 3) := db235.2.2.2.2.2.2.2.1
theorem dX11_advance_101 : decode cX11_advance 101 = .ok (.ifCond .eq 16, 3) := db235.2.2.2.2.2.2.2.2.1
theorem dX11_advance_117 : decode cX11_advance 117 = .ok (.aload_n 0, 1) := db235.2.2.2.2.2.2.2.2.2.1
theorem dX11_advance_118 : decode cX11_advance 118 = .ok (.iconst 1, 1) := db235.2.2.2.2.2.2.2.2.2.2.1
theorem dX11_advance_119 : decode cX11_advance 119 = .ok (.putfield 109, 3) := db235.2.2.2.2.2.2.2.2.2.2.2.1
theorem dX11_advance_122 : decode cX11_advance 122 = .ok (.goto 117, 3) := db235.2.2.2.2.2.2.2.2.2.2.2.2.1
theorem dX11_advance_104 : decode cX11_advance 104 = .ok (.aload_n 0, 1) := db235.2.2.2.2.2.2.2.2.2.2.2.2.2.1
theorem dX11_advance_105 : decode cX11_advance 105 = .ok (.dup, 1) := db235.2.2.2.2.2.2.2.2.2.2.2.2.2.2.1
theorem dX11_advance_106 : decode cX11_advance 106 = .ok (.getfield 99, 3) := db235.2.2.2.2.2.2.2.2.2.2.2.2.2.2.2.1
theorem dX11_advance_109 : decode cX11_advance 109 = .ok (.iconst 1, 1) := db235.2.2.2.2.2.2.2.2.2.2.2.2.2.2.2.2.1
theorem dX11_advance_110 : decode cX11_advance 110 = .ok (.iadd, 1) := db235.2.2.2.2.2.2.2.2.2.2.2.2.2.2.2.2.2.1
theorem dX11_advance_111 : decode cX11_advance 111 = .ok (.putfield 99, 3) := db235.2.2.2.2.2.2.2.2.2.2.2.2.2.2.2.2.2.2.1
theorem dX11_advance_114 : decode cX11_advance 114 = .ok (.goto (-31), 3) := db235.2.2.2.2.2.2.2.2.2.2.2.2.2.2.2.2.2.2.2.1
theorem dX11_advance_61 : decode cX11_advance 61 = .ok (.aload_n 0, 1) := db235.2.2.2.2.2.2.2.2.2.2.2.2.2.2.2.2.2.2.2.2.1
theorem dX11_advance_62 : decode cX11_advance 62 = .ok (.iconst 0, 1) := db235.2.2.2.2.2.2.2.2.2.2.2.2.2.2.2.2.2.2.2.2.2.1
theorem dX11_advance_63 : decode cX11_advance 63 = .ok (.putfield 109, 3) := db235.2.2.2.2.2.2.2.2.2.2.2.2.2.2.2.2.2.2.2.2.2.2.1
theorem dX11_advance_66 : decode cX11_advance 66 = .ok (.goto 173, 3) := db235.2.2.2.2.2.2.2.2.2.2.2.2.2.2.2.2.2.2.2.2.2.2.2
theorem db236 : (decode cX11_allRead 0 = .ok (.lconst 0, 1)) ∧ (decode cX11_allRead 1 = .ok (.lstore_n 2, 1)) ∧ (decode cX11_allRead 2 = .ok (.iconst 0, 1)) ∧ (decode cX11_allRead 3 = .ok (.istore 4, 2)) ∧ (decode cX11_allRead 5 = .ok (.iload 4, 2)) ∧ (decode cX11_allRead 7 = .ok (.aload_n 0, 1)) ∧ (decode cX11_allRead 8 = .ok (.getfield 9, 3)) ∧ (decode cX11_allRead 11 = .ok (.iconst 5, 1)) ∧ (decode cX11_allRead 12 = .ok (.iaload, 1)) ∧ (decode cX11_allRead 13 = .ok (.if_icmp .ge 19, 3)) ∧ (decode cX11_allRead 32 = .ok (.lload_n 2, 1)) ∧ (decode cX11_allRead 33 = .ok (.lreturn, 1)) ∧ (decode cX11_allRead 16 = .ok (.lload_n 2, 1)) ∧ (decode cX11_allRead 17 = .ok (.aload_n 0, 1)) ∧ (decode cX11_allRead 18 = .ok (.iload 4, 2)) ∧ (decode cX11_allRead 20 = .ok (.iload_n 1, 1)) ∧ (decode cX11_allRead 21 = .ok (.invokevirtual 398, 3)) ∧ (decode cX11_allRead 24 = .ok (.ladd, 1)) ∧ (decode cX11_allRead 25 = .ok (.lstore_n 2, 1)) ∧ (decode cX11_allRead 26 = .ok (.iinc 4 1, 3)) ∧ (decode cX11_allRead 29 = .ok (.goto (-24), 3)) := by decide +kernel
theorem dX11_allRead_0 : decode cX11_allRead 0 = .ok (.lconst 0, 1) := db236.1
theorem dX11_allRead_1 : decode cX11_allRead 1 = .ok (.lstore_n 2, 1) := db236.2.1
theorem dX11_allRead_2 : decode cX11_allRead 2 = .ok (.iconst 0, 1) := db236.2.2.1
theorem dX11_allRead_3 : decode cX11_allRead 3 = .ok (.istore 4, 2) := db236.2.2.2.1
theorem dX11_allRead_5 : decode cX11_allRead 5 = .ok (.iload 4, 2) := db236.2.2.2.2.1
theorem dX11_allRead_7 : decode cX11_allRead 7 = .ok (.aload_n 0, 1) := db236.2.2.2.2.2.1
theorem dX11_allRead_8 : decode cX11_allRead 8 = .ok (.getfield 9, 3) := db236.2.2.2.2.2.2.1
theorem dX11_allRead_11 : decode cX11_allRead 11 = .ok (.iconst 5, 1) := db236.2.2.2.2.2.2.2.1
theorem dX11_allRead_12 : decode cX11_allRead 12 = .ok (.iaload, 1) := db236.2.2.2.2.2.2.2.2.1
theorem dX11_allRead_13 : decode cX11_allRead 13 = .ok (.if_icmp .ge 19, 3) := db236.2.2.2.2.2.2.2.2.2.1
theorem dX11_allRead_32 : decode cX11_allRead 32 = .ok (.lload_n 2, 1) := db236.2.2.2.2.2.2.2.2.2.2.1
theorem dX11_allRead_33 : decode cX11_allRead 33 = .ok (.lreturn, 1) := db236.2.2.2.2.2.2.2.2.2.2.2.1
theorem dX11_allRead_16 : decode cX11_allRead 16 = .ok (.lload_n 2, 1) := db236.2.2.2.2.2.2.2.2.2.2.2.2.1
theorem dX11_allRead_17 : decode cX11_allRead 17 = .ok (.aload_n 0, 1) := db236.2.2.2.2.2.2.2.2.2.2.2.2.2.1
theorem dX11_allRead_18 : decode cX11_allRead 18 = .ok (.iload 4, 2) := db236.2.2.2.2.2.2.2.2.2.2.2.2.2.2.1
theorem dX11_allRead_20 : decode cX11_allRead 20 = .ok (.iload_n 1, 1) := db236.2.2.2.2.2.2.2.2.2.2.2.2.2.2.2.1
theorem dX11_allRead_21 : decode cX11_allRead 21 = .ok (.invokevirtual 398, 3) := db236.2.2.2.2.2.2.2.2.2.2.2.2.2.2.2.2.1
theorem dX11_allRead_24 : decode cX11_allRead 24 = .ok (.ladd, 1) := db236.2.2.2.2.2.2.2.2.2.2.2.2.2.2.2.2.2.1
theorem dX11_allRead_25 : decode cX11_allRead 25 = .ok (.lstore_n 2, 1) := db236.2.2.2.2.2.2.2.2.2.2.2.2.2.2.2.2.2.2.1
theorem dX11_allRead_26 : decode cX11_allRead 26 = .ok (.iinc 4 1, 3) := db236.2.2.2.2.2.2.2.2.2.2.2.2.2.2.2.2.2.2.2.1
theorem dX11_allRead_29 : decode cX11_allRead 29 = .ok (.goto (-24), 3) := db236.2.2.2.2.2.2.2.2.2.2.2.2.2.2.2.2.2.2.2.2
