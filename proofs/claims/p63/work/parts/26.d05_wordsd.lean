theorem dX10_two_2 : decode cX10_two 2 = .ok (.invokevirtual 120, 3) := by decide +kernel
theorem dX10_two_5 : decode cX10_two 5 = .ok (.ifCond .eq 11, 3) := by decide +kernel
theorem dX10_two_16 : decode cX10_two 16 = .ok (.bipush (-2), 2) := by decide +kernel
theorem dX10_two_18 : decode cX10_two 18 = .ok (.ireturn, 1) := by decide +kernel
theorem dX10_two_8 : decode cX10_two 8 = .ok (.aload_n 0, 1) := by decide +kernel
theorem dX10_two_9 : decode cX10_two 9 = .ok (.iload_n 2, 1) := by decide +kernel
theorem dX10_two_10 : decode cX10_two 10 = .ok (.invokevirtual 120, 3) := by decide +kernel
theorem dX10_two_13 : decode cX10_two 13 = .ok (.ifCond .ne 6, 3) := by decide +kernel
theorem dX10_two_19 : decode cX10_two 19 = .ok (.aload_n 0, 1) := by decide +kernel
theorem dX10_two_20 : decode cX10_two 20 = .ok (.getfield 65, 3) := by decide +kernel
theorem dX10_two_23 : decode cX10_two 23 = .ok (.aload_n 0, 1) := by decide +kernel
theorem dX10_two_24 : decode cX10_two 24 = .ok (.getfield 31, 3) := by decide +kernel
theorem dX10_two_27 : decode cX10_two 27 = .ok (.getfield 98, 3) := by decide +kernel
theorem dX10_two_30 : decode cX10_two 30 = .ok (.iload_n 1, 1) := by decide +kernel
theorem dX10_two_31 : decode cX10_two 31 = .ok (.iload_n 2, 1) := by decide +kernel
theorem dX10_two_32 : decode cX10_two 32 = .ok (.iconst 0, 1) := by decide +kernel
theorem dX10_two_33 : decode cX10_two 33 = .ok (.invokevirtual 253, 3) := by decide +kernel
theorem dX10_two_36 : decode cX10_two 36 = .ok (.pop, 1) := by decide +kernel
theorem dX10_two_37 : decode cX10_two 37 = .ok (.aload_n 0, 1) := by decide +kernel
theorem dX10_two_38 : decode cX10_two 38 = .ok (.getfield 65, 3) := by decide +kernel
theorem dX10_two_41 : decode cX10_two 41 = .ok (.invokevirtual 257, 3) := by decide +kernel
theorem dX10_two_44 : decode cX10_two 44 = .ok (.ireturn, 1) := by decide +kernel
theorem dX10_way_0 : decode cX10_way 0 = .ok (.aload_n 0, 1) := by decide +kernel
theorem dX10_way_1 : decode cX10_way 1 = .ok (.iload_n 1, 1) := by decide +kernel
theorem dX10_way_2 : decode cX10_way 2 = .ok (.invokevirtual 120, 3) := by decide +kernel
theorem dX10_way_5 : decode cX10_way 5 = .ok (.ifCond .eq 20, 3) := by decide +kernel
theorem dX10_way_25 : decode cX10_way 25 = .ok (.bipush (-2), 2) := by decide +kernel
theorem dX10_way_27 : decode cX10_way 27 = .ok (.ireturn, 1) := by decide +kernel
theorem dX10_way_8 : decode cX10_way 8 = .ok (.aload_n 0, 1) := by decide +kernel
theorem dX10_way_9 : decode cX10_way 9 = .ok (.iload_n 2, 1) := by decide +kernel
theorem dX10_way_10 : decode cX10_way 10 = .ok (.invokevirtual 120, 3) := by decide +kernel
theorem dX10_way_13 : decode cX10_way 13 = .ok (.ifCond .eq 12, 3) := by decide +kernel
theorem dX10_way_16 : decode cX10_way 16 = .ok (.iload_n 3, 1) := by decide +kernel
theorem dX10_way_17 : decode cX10_way 17 = .ok (.ifCond .lt 8, 3) := by decide +kernel
theorem dX10_way_20 : decode cX10_way 20 = .ok (.iload_n 3, 1) := by decide +kernel
theorem dX10_way_21 : decode cX10_way 21 = .ok (.iconst 1, 1) := by decide +kernel
theorem dX10_way_22 : decode cX10_way 22 = .ok (.if_icmp .le 6, 3) := by decide +kernel
theorem dX10_way_28 : decode cX10_way 28 = .ok (.aload_n 0, 1) := by decide +kernel
theorem dX10_way_29 : decode cX10_way 29 = .ok (.getfield 65, 3) := by decide +kernel
theorem dX10_way_32 : decode cX10_way 32 = .ok (.aload_n 0, 1) := by decide +kernel
theorem dX10_way_33 : decode cX10_way 33 = .ok (.getfield 31, 3) := by decide +kernel
theorem dX10_way_36 : decode cX10_way 36 = .ok (.getfield 98, 3) := by decide +kernel
theorem dX10_way_39 : decode cX10_way 39 = .ok (.iload_n 1, 1) := by decide +kernel
theorem dX10_way_40 : decode cX10_way 40 = .ok (.iload_n 2, 1) := by decide +kernel
theorem dX10_way_41 : decode cX10_way 41 = .ok (.iconst 0, 1) := by decide +kernel
theorem dX10_way_42 : decode cX10_way 42 = .ok (.invokevirtual 253, 3) := by decide +kernel
theorem dX10_way_45 : decode cX10_way 45 = .ok (.pop, 1) := by decide +kernel
theorem dX10_way_46 : decode cX10_way 46 = .ok (.aload_n 0, 1) := by decide +kernel
theorem dX10_way_47 : decode cX10_way 47 = .ok (.getfield 65, 3) := by decide +kernel
theorem dX10_way_50 : decode cX10_way 50 = .ok (.iload_n 3, 1) := by decide +kernel
theorem dX10_way_51 : decode cX10_way 51 = .ok (.iload 4, 2) := by decide +kernel
theorem dX10_way_53 : decode cX10_way 53 = .ok (.invokevirtual 260, 3) := by decide +kernel
theorem dX10_way_56 : decode cX10_way 56 = .ok (.ireturn, 1) := by decide +kernel
theorem dX10_boys_0 : decode cX10_boys 0 = .ok (.aload_n 0, 1) := by decide +kernel
theorem dX10_boys_1 : decode cX10_boys 1 = .ok (.getfield 31, 3) := by decide +kernel
theorem dX10_boys_4 : decode cX10_boys 4 = .ok (.getfield 98, 3) := by decide +kernel
theorem dX10_boys_7 : decode cX10_boys 7 = .ok (.getfield 159, 3) := by decide +kernel
theorem dX10_boys_10 : decode cX10_boys 10 = .ok (.iconst 1, 1) := by decide +kernel
theorem dX10_boys_11 : decode cX10_boys 11 = .ok (.if_icmp .ge 6, 3) := by decide +kernel
theorem dX10_boys_17 : decode cX10_boys 17 = .ok (.iconst 0, 1) := by decide +kernel
theorem dX10_boys_18 : decode cX10_boys 18 = .ok (.istore_n 1, 1) := by decide +kernel
theorem dX10_boys_19 : decode cX10_boys 19 = .ok (.iload_n 1, 1) := by decide +kernel
theorem dX10_boys_20 : decode cX10_boys 20 = .ok (.aload_n 0, 1) := by decide +kernel
theorem dX10_boys_21 : decode cX10_boys 21 = .ok (.getfield 31, 3) := by decide +kernel
theorem dX10_boys_24 : decode cX10_boys 24 = .ok (.getfield 98, 3) := by decide +kernel
theorem dX10_boys_27 : decode cX10_boys 27 = .ok (.getfield 159, 3) := by decide +kernel
theorem dX10_boys_30 : decode cX10_boys 30 = .ok (.if_icmp .ge 31, 3) := by decide +kernel
theorem dX10_boys_61 : decode cX10_boys 61 = .ok (.aload_n 0, 1) := by decide +kernel
theorem dX10_boys_62 : decode cX10_boys 62 = .ok (.getfield 65, 3) := by decide +kernel
theorem dX10_boys_65 : decode cX10_boys 65 = .ok (.aload_n 0, 1) := by decide +kernel
theorem dX10_boys_66 : decode cX10_boys 66 = .ok (.getfield 31, 3) := by decide +kernel
theorem dX10_boys_69 : decode cX10_boys 69 = .ok (.getfield 98, 3) := by decide +kernel
theorem dX10_boys_72 : decode cX10_boys 72 = .ok (.invokevirtual 263, 3) := by decide +kernel
theorem dX10_boys_75 : decode cX10_boys 75 = .ok (.ifCond .le 7, 3) := by decide +kernel
theorem dX10_boys_82 : decode cX10_boys 82 = .ok (.iconst 3, 1) := by decide +kernel
theorem dX10_boys_83 : decode cX10_boys 83 = .ok (.ireturn, 1) := by decide +kernel
theorem dX10_boys_78 : decode cX10_boys 78 = .ok (.iconst 2, 1) := by decide +kernel
theorem dX10_boys_79 : decode cX10_boys 79 = .ok (.goto 4, 3) := by decide +kernel
theorem dX10_boys_33 : decode cX10_boys 33 = .ok (.aload_n 0, 1) := by decide +kernel
theorem dX10_boys_34 : decode cX10_boys 34 = .ok (.getfield 65, 3) := by decide +kernel
theorem dX10_boys_37 : decode cX10_boys 37 = .ok (.aload_n 0, 1) := by decide +kernel
theorem dX10_boys_38 : decode cX10_boys 38 = .ok (.getfield 31, 3) := by decide +kernel
theorem dX10_boys_41 : decode cX10_boys 41 = .ok (.getfield 98, 3) := by decide +kernel
theorem dX10_boys_44 : decode cX10_boys 44 = .ok (.iload_n 1, 1) := by decide +kernel
theorem dX10_boys_45 : decode cX10_boys 45 = .ok (.iload_n 1, 1) := by decide +kernel
theorem dX10_boys_46 : decode cX10_boys 46 = .ok (.iconst 1, 1) := by decide +kernel
theorem dX10_boys_47 : decode cX10_boys 47 = .ok (.invokevirtual 253, 3) := by decide +kernel
theorem dX10_boys_50 : decode cX10_boys 50 = .ok (.ifCond .eq 5, 3) := by decide +kernel
theorem dX10_boys_55 : decode cX10_boys 55 = .ok (.iinc 1 1, 3) := by decide +kernel
theorem dX10_boys_58 : decode cX10_boys 58 = .ok (.goto (-39), 3) := by decide +kernel
theorem dX10_boys_53 : decode cX10_boys 53 = .ok (.iconst 1, 1) := by decide +kernel
theorem dX10_boys_54 : decode cX10_boys 54 = .ok (.ireturn, 1) := by decide +kernel
theorem dX10_boys_14 : decode cX10_boys 14 = .ok (.bipush (-2), 2) := by decide +kernel
theorem dX10_boys_16 : decode cX10_boys 16 = .ok (.ireturn, 1) := by decide +kernel
theorem dX10_pairs_0 : decode cX10_pairs 0 = .ok (.aload_n 0, 1) := by decide +kernel
theorem dX10_pairs_1 : decode cX10_pairs 1 = .ok (.getfield 31, 3) := by decide +kernel
theorem dX10_pairs_4 : decode cX10_pairs 4 = .ok (.getfield 98, 3) := by decide +kernel
theorem dX10_pairs_7 : decode cX10_pairs 7 = .ok (.getfield 159, 3) := by decide +kernel
theorem dX10_pairs_10 : decode cX10_pairs 10 = .ok (.iconst 1, 1) := by decide +kernel
theorem dX10_pairs_11 : decode cX10_pairs 11 = .ok (.if_icmp .ge 8, 3) := by decide +kernel
theorem dX10_pairs_19 : decode cX10_pairs 19 = .ok (.aload_n 0, 1) := by decide +kernel
theorem dX10_pairs_20 : decode cX10_pairs 20 = .ok (.getfield 65, 3) := by decide +kernel
theorem dX10_pairs_23 : decode cX10_pairs 23 = .ok (.aload_n 0, 1) := by decide +kernel
theorem dX10_pairs_24 : decode cX10_pairs 24 = .ok (.getfield 31, 3) := by decide +kernel
theorem dX10_pairs_27 : decode cX10_pairs 27 = .ok (.getfield 98, 3) := by decide +kernel
theorem dX10_pairs_30 : decode cX10_pairs 30 = .ok (.invokevirtual 263, 3) := by decide +kernel
theorem dX10_pairs_33 : decode cX10_pairs 33 = .ok (.ireturn, 1) := by decide +kernel
theorem dX10_pairs_14 : decode cX10_pairs 14 = .ok (.bipush (-2), 2) := by decide +kernel
theorem dX10_pairs_16 : decode cX10_pairs 16 = .ok (.goto 17, 3) := by decide +kernel
theorem dX10_which_0 : decode cX10_which 0 = .ok (.aload_n 0, 1) := by decide +kernel
theorem dX10_which_1 : decode cX10_which 1 = .ok (.iload_n 1, 1) := by decide +kernel
theorem dX10_which_2 : decode cX10_which 2 = .ok (.invokevirtual 267, 3) := by decide +kernel
theorem dX10_which_5 : decode cX10_which 5 = .ok (.ifCond .eq 21, 3) := by decide +kernel
theorem dX10_which_26 : decode cX10_which 26 = .ok (.bipush (-2), 2) := by decide +kernel
theorem dX10_which_28 : decode cX10_which 28 = .ok (.ireturn, 1) := by decide +kernel
theorem dX10_which_8 : decode cX10_which 8 = .ok (.aload_n 0, 1) := by decide +kernel
theorem dX10_which_9 : decode cX10_which 9 = .ok (.getfield 72, 3) := by decide +kernel
theorem dX10_which_12 : decode cX10_which 12 = .ok (.aload_n 0, 1) := by decide +kernel
theorem dX10_which_13 : decode cX10_which 13 = .ok (.getfield 31, 3) := by decide +kernel
theorem dX10_which_16 : decode cX10_which 16 = .ok (.getfield 98, 3) := by decide +kernel
theorem dX10_which_19 : decode cX10_which 19 = .ok (.iload_n 1, 1) := by decide +kernel
theorem dX10_which_20 : decode cX10_which 20 = .ok (.invokevirtual 270, 3) := by decide +kernel
theorem dX10_which_23 : decode cX10_which 23 = .ok (.goto 5, 3) := by decide +kernel
theorem dX10_question_0 : decode cX10_question 0 = .ok (.aload_n 0, 1) := by decide +kernel
theorem dX10_question_1 : decode cX10_question 1 = .ok (.iload_n 1, 1) := by decide +kernel
theorem dX10_question_2 : decode cX10_question 2 = .ok (.invokevirtual 267, 3) := by decide +kernel
theorem dX10_question_5 : decode cX10_question 5 = .ok (.ifCond .eq 21, 3) := by decide +kernel
theorem dX10_question_26 : decode cX10_question 26 = .ok (.bipush (-2), 2) := by decide +kernel
theorem dX10_question_28 : decode cX10_question 28 = .ok (.ireturn, 1) := by decide +kernel
theorem dX10_question_8 : decode cX10_question 8 = .ok (.aload_n 0, 1) := by decide +kernel
theorem dX10_question_9 : decode cX10_question 9 = .ok (.getfield 72, 3) := by decide +kernel
theorem dX10_question_12 : decode cX10_question 12 = .ok (.aload_n 0, 1) := by decide +kernel
theorem dX10_question_13 : decode cX10_question 13 = .ok (.getfield 31, 3) := by decide +kernel
theorem dX10_question_16 : decode cX10_question 16 = .ok (.getfield 98, 3) := by decide +kernel
theorem dX10_question_19 : decode cX10_question 19 = .ok (.iload_n 1, 1) := by decide +kernel
theorem dX10_question_20 : decode cX10_question 20 = .ok (.invokevirtual 274, 3) := by decide +kernel
theorem dX10_question_23 : decode cX10_question 23 = .ok (.goto 5, 3) := by decide +kernel
theorem dX10_yes_0 : decode cX10_yes 0 = .ok (.aload_n 0, 1) := by decide +kernel
theorem dX10_yes_1 : decode cX10_yes 1 = .ok (.iload_n 1, 1) := by decide +kernel
theorem dX10_yes_2 : decode cX10_yes 2 = .ok (.invokevirtual 267, 3) := by decide +kernel
theorem dX10_yes_5 : decode cX10_yes 5 = .ok (.ifCond .eq 13, 3) := by decide +kernel
theorem dX10_yes_18 : decode cX10_yes 18 = .ok (.bipush (-2), 2) := by decide +kernel
theorem dX10_yes_20 : decode cX10_yes 20 = .ok (.ireturn, 1) := by decide +kernel
theorem dX10_yes_8 : decode cX10_yes 8 = .ok (.iload_n 2, 1) := by decide +kernel
theorem dX10_yes_9 : decode cX10_yes 9 = .ok (.ifCond .lt 9, 3) := by decide +kernel
theorem dX10_yes_12 : decode cX10_yes 12 = .ok (.iload_n 2, 1) := by decide +kernel
theorem dX10_yes_13 : decode cX10_yes 13 = .ok (.bipush 6, 2) := by decide +kernel
theorem dX10_yes_15 : decode cX10_yes 15 = .ok (.if_icmp .lt 6, 3) := by decide +kernel
theorem dX10_yes_21 : decode cX10_yes 21 = .ok (.aload_n 0, 1) := by decide +kernel
theorem dX10_yes_22 : decode cX10_yes 22 = .ok (.getfield 31, 3) := by decide +kernel
theorem dX10_yes_25 : decode cX10_yes 25 = .ok (.getfield 98, 3) := by decide +kernel
theorem dX10_yes_28 : decode cX10_yes 28 = .ok (.iload_n 1, 1) := by decide +kernel
theorem dX10_yes_29 : decode cX10_yes 29 = .ok (.iload_n 2, 1) := by decide +kernel
theorem dX10_yes_30 : decode cX10_yes 30 = .ok (.invokevirtual 277, 3) := by decide +kernel
theorem dX10_yes_33 : decode cX10_yes 33 = .ok (.ireturn, 1) := by decide +kernel
theorem dX10_list_0 : decode cX10_list 0 = .ok (.aload_n 0, 1) := by decide +kernel
theorem dX10_list_1 : decode cX10_list 1 = .ok (.iload_n 1, 1) := by decide +kernel
theorem dX10_list_2 : decode cX10_list 2 = .ok (.invokevirtual 267, 3) := by decide +kernel
theorem dX10_list_5 : decode cX10_list 5 = .ok (.ifCond .eq 21, 3) := by decide +kernel
theorem dX10_list_26 : decode cX10_list 26 = .ok (.bipush (-2), 2) := by decide +kernel
theorem dX10_list_28 : decode cX10_list 28 = .ok (.ireturn, 1) := by decide +kernel
theorem dX10_list_8 : decode cX10_list 8 = .ok (.aload_n 0, 1) := by decide +kernel
theorem dX10_list_9 : decode cX10_list 9 = .ok (.getfield 72, 3) := by decide +kernel
theorem dX10_list_12 : decode cX10_list 12 = .ok (.aload_n 0, 1) := by decide +kernel
theorem dX10_list_13 : decode cX10_list 13 = .ok (.getfield 31, 3) := by decide +kernel
theorem dX10_list_16 : decode cX10_list 16 = .ok (.getfield 98, 3) := by decide +kernel
theorem dX10_list_19 : decode cX10_list 19 = .ok (.iload_n 1, 1) := by decide +kernel
theorem dX10_list_20 : decode cX10_list 20 = .ok (.invokevirtual 280, 3) := by decide +kernel
theorem dX10_list_23 : decode cX10_list 23 = .ok (.goto 5, 3) := by decide +kernel
theorem dX10_meant_0 : decode cX10_meant 0 = .ok (.aload_n 0, 1) := by decide +kernel
theorem dX10_meant_1 : decode cX10_meant 1 = .ok (.iload_n 1, 1) := by decide +kernel
theorem dX10_meant_2 : decode cX10_meant 2 = .ok (.invokevirtual 267, 3) := by decide +kernel
theorem dX10_meant_5 : decode cX10_meant 5 = .ok (.ifCond .eq 28, 3) := by decide +kernel
theorem dX10_meant_33 : decode cX10_meant 33 = .ok (.bipush (-2), 2) := by decide +kernel
theorem dX10_meant_35 : decode cX10_meant 35 = .ok (.ireturn, 1) := by decide +kernel
theorem dX10_meant_8 : decode cX10_meant 8 = .ok (.aload_n 0, 1) := by decide +kernel
theorem dX10_meant_9 : decode cX10_meant 9 = .ok (.iload_n 2, 1) := by decide +kernel
theorem dX10_meant_10 : decode cX10_meant 10 = .ok (.invokevirtual 128, 3) := by decide +kernel
theorem dX10_meant_13 : decode cX10_meant 13 = .ok (.ifCond .eq 20, 3) := by decide +kernel
theorem dX10_meant_16 : decode cX10_meant 16 = .ok (.iload_n 1, 1) := by decide +kernel
theorem dX10_meant_17 : decode cX10_meant 17 = .ok (.iload_n 2, 1) := by decide +kernel
theorem dX10_meant_18 : decode cX10_meant 18 = .ok (.ishr, 1) := by decide +kernel
theorem dX10_meant_19 : decode cX10_meant 19 = .ok (.iconst 1, 1) := by decide +kernel
theorem dX10_meant_20 : decode cX10_meant 20 = .ok (.iand, 1) := by decide +kernel
theorem dX10_meant_21 : decode cX10_meant 21 = .ok (.ifCond .eq 12, 3) := by decide +kernel
theorem dX10_meant_24 : decode cX10_meant 24 = .ok (.iload_n 3, 1) := by decide +kernel
theorem dX10_meant_25 : decode cX10_meant 25 = .ok (.ifCond .lt 8, 3) := by decide +kernel
theorem dX10_meant_28 : decode cX10_meant 28 = .ok (.iload_n 3, 1) := by decide +kernel
theorem dX10_meant_29 : decode cX10_meant 29 = .ok (.iconst 1, 1) := by decide +kernel
theorem dX10_meant_30 : decode cX10_meant 30 = .ok (.if_icmp .le 6, 3) := by decide +kernel
theorem dX10_meant_36 : decode cX10_meant 36 = .ok (.iconst 0, 1) := by decide +kernel
theorem dX10_meant_37 : decode cX10_meant 37 = .ok (.istore 4, 2) := by decide +kernel
theorem dX10_meant_39 : decode cX10_meant 39 = .ok (.iconst 0, 1) := by decide +kernel
theorem dX10_meant_40 : decode cX10_meant 40 = .ok (.istore 5, 2) := by decide +kernel
theorem dX10_meant_42 : decode cX10_meant 42 = .ok (.iload 5, 2) := by decide +kernel
theorem dX10_meant_44 : decode cX10_meant 44 = .ok (.aload_n 0, 1) := by decide +kernel
theorem dX10_meant_45 : decode cX10_meant 45 = .ok (.getfield 31, 3) := by decide +kernel
theorem dX10_meant_48 : decode cX10_meant 48 = .ok (.getfield 98, 3) := by decide +kernel
theorem dX10_meant_51 : decode cX10_meant 51 = .ok (.getfield 283, 3) := by decide +kernel
theorem dX10_meant_54 : decode cX10_meant 54 = .ok (.if_icmp .ge 36, 3) := by decide +kernel
theorem dX10_meant_90 : decode cX10_meant 90 = .ok (.aload_n 0, 1) := by decide +kernel
theorem dX10_meant_91 : decode cX10_meant 91 = .ok (.getfield 72, 3) := by decide +kernel
theorem dX10_meant_94 : decode cX10_meant 94 = .ok (.aload_n 0, 1) := by decide +kernel
theorem dX10_meant_95 : decode cX10_meant 95 = .ok (.getfield 31, 3) := by decide +kernel
theorem dX10_meant_98 : decode cX10_meant 98 = .ok (.getfield 98, 3) := by decide +kernel
theorem dX10_meant_101 : decode cX10_meant 101 = .ok (.getfield 131, 3) := by decide +kernel
theorem dX10_meant_104 : decode cX10_meant 104 = .ok (.iload_n 2, 1) := by decide +kernel
theorem dX10_meant_105 : decode cX10_meant 105 = .ok (.iaload, 1) := by decide +kernel
theorem dX10_meant_106 : decode cX10_meant 106 = .ok (.i2l, 1) := by decide +kernel
theorem dX10_meant_107 : decode cX10_meant 107 = .ok (.iload 4, 2) := by decide +kernel
theorem dX10_meant_109 : decode cX10_meant 109 = .ok (.i2l, 1) := by decide +kernel
theorem dX10_meant_110 : decode cX10_meant 110 = .ok (.iload_n 3, 1) := by decide +kernel
theorem dX10_meant_111 : decode cX10_meant 111 = .ok (.invokevirtual 285, 3) := by decide +kernel
theorem dX10_meant_114 : decode cX10_meant 114 = .ok (.l2i, 1) := by decide +kernel
theorem dX10_meant_115 : decode cX10_meant 115 = .ok (.ireturn, 1) := by decide +kernel
theorem dX10_meant_57 : decode cX10_meant 57 = .ok (.iload_n 1, 1) := by decide +kernel
theorem dX10_meant_58 : decode cX10_meant 58 = .ok (.iload 5, 2) := by decide +kernel
theorem dX10_meant_60 : decode cX10_meant 60 = .ok (.ishr, 1) := by decide +kernel
theorem dX10_meant_61 : decode cX10_meant 61 = .ok (.iconst 1, 1) := by decide +kernel
theorem dX10_meant_62 : decode cX10_meant 62 = .ok (.iand, 1) := by decide +kernel
theorem dX10_meant_84 : decode cX10_meant 84 = .ok (.iinc 5 1, 3) := by decide +kernel
theorem dX10_meant_87 : decode cX10_meant 87 = .ok (.goto (-45), 3) := by decide +kernel
theorem dX10_meant_63 : decode cX10_meant 63 = .ok (.ifCond .eq 21, 3) := by decide +kernel
theorem dX10_meant_66 : decode cX10_meant 66 = .ok (.iload 4, 2) := by decide +kernel
theorem dX10_meant_68 : decode cX10_meant 68 = .ok (.aload_n 0, 1) := by decide +kernel
theorem dX10_meant_69 : decode cX10_meant 69 = .ok (.getfield 31, 3) := by decide +kernel
theorem dX10_meant_72 : decode cX10_meant 72 = .ok (.getfield 98, 3) := by decide +kernel
theorem dX10_meant_75 : decode cX10_meant 75 = .ok (.getfield 131, 3) := by decide +kernel
theorem dX10_meant_78 : decode cX10_meant 78 = .ok (.iload 5, 2) := by decide +kernel
theorem dX10_meant_80 : decode cX10_meant 80 = .ok (.iaload, 1) := by decide +kernel
theorem dX10_meant_81 : decode cX10_meant 81 = .ok (.iadd, 1) := by decide +kernel
theorem dX10_meant_82 : decode cX10_meant 82 = .ok (.istore 4, 2) := by decide +kernel
theorem dX10_read_0 : decode cX10_read 0 = .ok (.aload_n 0, 1) := by decide +kernel
theorem dX10_read_1 : decode cX10_read 1 = .ok (.iload_n 1, 1) := by decide +kernel
theorem dX10_read_2 : decode cX10_read 2 = .ok (.invokevirtual 128, 3) := by decide +kernel
theorem dX10_read_5 : decode cX10_read 5 = .ok (.ifCond .eq 20, 3) := by decide +kernel
theorem dX10_read_25 : decode cX10_read 25 = .ok (.ldc2_w 289, 3) := by decide +kernel
theorem dX10_read_28 : decode cX10_read 28 = .ok (.lreturn, 1) := by decide +kernel
theorem dX10_read_8 : decode cX10_read 8 = .ok (.aload_n 0, 1) := by decide +kernel
theorem dX10_read_9 : decode cX10_read 9 = .ok (.iload_n 2, 1) := by decide +kernel
theorem dX10_read_10 : decode cX10_read 10 = .ok (.invokevirtual 128, 3) := by decide +kernel
theorem dX10_read_13 : decode cX10_read 13 = .ok (.ifCond .eq 12, 3) := by decide +kernel
theorem dX10_read_16 : decode cX10_read 16 = .ok (.iload_n 3, 1) := by decide +kernel
theorem dX10_read_17 : decode cX10_read 17 = .ok (.ifCond .lt 8, 3) := by decide +kernel
theorem dX10_read_20 : decode cX10_read 20 = .ok (.iload_n 3, 1) := by decide +kernel
theorem dX10_read_21 : decode cX10_read 21 = .ok (.iconst 1, 1) := by decide +kernel
theorem dX10_read_22 : decode cX10_read 22 = .ok (.if_icmp .le 7, 3) := by decide +kernel
theorem dX10_read_29 : decode cX10_read 29 = .ok (.aload_n 0, 1) := by decide +kernel
theorem dX10_read_30 : decode cX10_read 30 = .ok (.getfield 72, 3) := by decide +kernel
theorem dX10_read_33 : decode cX10_read 33 = .ok (.aload_n 0, 1) := by decide +kernel
theorem dX10_read_34 : decode cX10_read 34 = .ok (.getfield 72, 3) := by decide +kernel
theorem dX10_read_37 : decode cX10_read 37 = .ok (.aload_n 0, 1) := by decide +kernel
theorem dX10_read_38 : decode cX10_read 38 = .ok (.getfield 31, 3) := by decide +kernel
theorem dX10_read_41 : decode cX10_read 41 = .ok (.getfield 98, 3) := by decide +kernel
theorem dX10_read_44 : decode cX10_read 44 = .ok (.iload_n 1, 1) := by decide +kernel
theorem dX10_read_45 : decode cX10_read 45 = .ok (.iload_n 2, 1) := by decide +kernel
theorem dX10_read_46 : decode cX10_read 46 = .ok (.invokevirtual 291, 3) := by decide +kernel
theorem dX10_read_49 : decode cX10_read 49 = .ok (.aload_n 0, 1) := by decide +kernel
theorem dX10_read_50 : decode cX10_read 50 = .ok (.getfield 72, 3) := by decide +kernel
theorem dX10_read_53 : decode cX10_read 53 = .ok (.aload_n 0, 1) := by decide +kernel
theorem dX10_read_54 : decode cX10_read 54 = .ok (.getfield 31, 3) := by decide +kernel
theorem dX10_read_57 : decode cX10_read 57 = .ok (.getfield 98, 3) := by decide +kernel
theorem dX10_read_60 : decode cX10_read 60 = .ok (.iload_n 2, 1) := by decide +kernel
theorem dX10_read_61 : decode cX10_read 61 = .ok (.invokevirtual 295, 3) := by decide +kernel
theorem dX10_read_64 : decode cX10_read 64 = .ok (.iload_n 3, 1) := by decide +kernel
theorem dX10_read_65 : decode cX10_read 65 = .ok (.invokevirtual 285, 3) := by decide +kernel
theorem dX10_read_68 : decode cX10_read 68 = .ok (.lreturn, 1) := by decide +kernel
theorem dX10_guess_0 : decode cX10_guess 0 = .ok (.aload_n 0, 1) := by decide +kernel
theorem dX10_guess_1 : decode cX10_guess 1 = .ok (.iload_n 1, 1) := by decide +kernel
theorem dX10_guess_2 : decode cX10_guess 2 = .ok (.invokevirtual 128, 3) := by decide +kernel
theorem dX10_guess_5 : decode cX10_guess 5 = .ok (.ifCond .ne 6, 3) := by decide +kernel
theorem dX10_guess_11 : decode cX10_guess 11 = .ok (.iconst (-1), 1) := by decide +kernel
theorem dX10_guess_12 : decode cX10_guess 12 = .ok (.istore_n 2, 1) := by decide +kernel
theorem dX10_guess_13 : decode cX10_guess 13 = .ok (.lconst 0, 1) := by decide +kernel
theorem dX10_guess_14 : decode cX10_guess 14 = .ok (.lstore_n 3, 1) := by decide +kernel
theorem dX10_guess_15 : decode cX10_guess 15 = .ok (.iconst 0, 1) := by decide +kernel
theorem dX10_guess_16 : decode cX10_guess 16 = .ok (.istore 5, 2) := by decide +kernel
theorem dX10_guess_18 : decode cX10_guess 18 = .ok (.iload 5, 2) := by decide +kernel
theorem dX10_guess_20 : decode cX10_guess 20 = .ok (.aload_n 0, 1) := by decide +kernel
theorem dX10_guess_21 : decode cX10_guess 21 = .ok (.getfield 31, 3) := by decide +kernel
theorem dX10_guess_24 : decode cX10_guess 24 = .ok (.getfield 98, 3) := by decide +kernel
theorem dX10_guess_27 : decode cX10_guess 27 = .ok (.getfield 283, 3) := by decide +kernel
theorem dX10_guess_30 : decode cX10_guess 30 = .ok (.if_icmp .ge 41, 3) := by decide +kernel
theorem dX10_guess_71 : decode cX10_guess 71 = .ok (.iload_n 2, 1) := by decide +kernel
theorem dX10_guess_72 : decode cX10_guess 72 = .ok (.ireturn, 1) := by decide +kernel
theorem dX10_guess_33 : decode cX10_guess 33 = .ok (.aload_n 0, 1) := by decide +kernel
theorem dX10_guess_34 : decode cX10_guess 34 = .ok (.getfield 72, 3) := by decide +kernel
theorem dX10_guess_37 : decode cX10_guess 37 = .ok (.aload_n 0, 1) := by decide +kernel
theorem dX10_guess_38 : decode cX10_guess 38 = .ok (.getfield 31, 3) := by decide +kernel
theorem dX10_guess_41 : decode cX10_guess 41 = .ok (.getfield 98, 3) := by decide +kernel
theorem dX10_guess_44 : decode cX10_guess 44 = .ok (.iload 5, 2) := by decide +kernel
theorem dX10_guess_46 : decode cX10_guess 46 = .ok (.iload_n 1, 1) := by decide +kernel
theorem dX10_guess_47 : decode cX10_guess 47 = .ok (.invokevirtual 291, 3) := by decide +kernel
theorem dX10_guess_50 : decode cX10_guess 50 = .ok (.lstore 6, 2) := by decide +kernel
theorem dX10_guess_52 : decode cX10_guess 52 = .ok (.lload 6, 2) := by decide +kernel
theorem dX10_guess_54 : decode cX10_guess 54 = .ok (.lload_n 3, 1) := by decide +kernel
theorem dX10_guess_55 : decode cX10_guess 55 = .ok (.lcmp, 1) := by decide +kernel
theorem dX10_guess_65 : decode cX10_guess 65 = .ok (.iinc 5 1, 3) := by decide +kernel
theorem dX10_guess_68 : decode cX10_guess 68 = .ok (.goto (-50), 3) := by decide +kernel
theorem dX10_guess_56 : decode cX10_guess 56 = .ok (.ifCond .le 9, 3) := by decide +kernel
theorem dX10_guess_59 : decode cX10_guess 59 = .ok (.lload 6, 2) := by decide +kernel
theorem dX10_guess_61 : decode cX10_guess 61 = .ok (.lstore_n 3, 1) := by decide +kernel
theorem dX10_guess_62 : decode cX10_guess 62 = .ok (.iload 5, 2) := by decide +kernel
theorem dX10_guess_64 : decode cX10_guess 64 = .ok (.istore_n 2, 1) := by decide +kernel
theorem dX10_guess_8 : decode cX10_guess 8 = .ok (.bipush (-2), 2) := by decide +kernel
theorem dX10_guess_10 : decode cX10_guess 10 = .ok (.ireturn, 1) := by decide +kernel
theorem dX10_right_0 : decode cX10_right 0 = .ok (.aload_n 0, 1) := by decide +kernel
theorem dX10_right_1 : decode cX10_right 1 = .ok (.getfield 31, 3) := by decide +kernel
theorem dX10_right_4 : decode cX10_right 4 = .ok (.getfield 98, 3) := by decide +kernel
theorem dX10_right_7 : decode cX10_right 7 = .ok (.getfield 283, 3) := by decide +kernel
theorem dX10_right_10 : decode cX10_right 10 = .ok (.iconst 1, 1) := by decide +kernel
theorem dX10_right_11 : decode cX10_right 11 = .ok (.if_icmp .lt 12, 3) := by decide +kernel
theorem dX10_right_23 : decode cX10_right 23 = .ok (.ldc2_w 289, 3) := by decide +kernel
theorem dX10_right_26 : decode cX10_right 26 = .ok (.lreturn, 1) := by decide +kernel
theorem dX10_right_14 : decode cX10_right 14 = .ok (.iload_n 1, 1) := by decide +kernel
theorem dX10_right_15 : decode cX10_right 15 = .ok (.ifCond .lt 8, 3) := by decide +kernel
theorem dX10_right_18 : decode cX10_right 18 = .ok (.iload_n 1, 1) := by decide +kernel
theorem dX10_right_19 : decode cX10_right 19 = .ok (.iconst 1, 1) := by decide +kernel
theorem dX10_right_20 : decode cX10_right 20 = .ok (.if_icmp .le 7, 3) := by decide +kernel
theorem dX10_right_27 : decode cX10_right 27 = .ok (.lconst 0, 1) := by decide +kernel
theorem dX10_right_28 : decode cX10_right 28 = .ok (.lstore_n 2, 1) := by decide +kernel
theorem dX10_right_29 : decode cX10_right 29 = .ok (.lconst 0, 1) := by decide +kernel
theorem dX10_right_30 : decode cX10_right 30 = .ok (.lstore 4, 2) := by decide +kernel
theorem dX10_right_32 : decode cX10_right 32 = .ok (.iconst 0, 1) := by decide +kernel
theorem dX10_right_33 : decode cX10_right 33 = .ok (.istore 6, 2) := by decide +kernel
theorem dX10_right_35 : decode cX10_right 35 = .ok (.iload 6, 2) := by decide +kernel
theorem dX10_right_37 : decode cX10_right 37 = .ok (.aload_n 0, 1) := by decide +kernel
theorem dX10_right_38 : decode cX10_right 38 = .ok (.getfield 31, 3) := by decide +kernel
theorem dX10_right_41 : decode cX10_right 41 = .ok (.getfield 98, 3) := by decide +kernel
theorem dX10_right_44 : decode cX10_right 44 = .ok (.getfield 283, 3) := by decide +kernel
theorem dX10_right_47 : decode cX10_right 47 = .ok (.if_icmp .ge 51, 3) := by decide +kernel
theorem dX10_right_98 : decode cX10_right 98 = .ok (.aload_n 0, 1) := by decide +kernel
theorem dX10_right_99 : decode cX10_right 99 = .ok (.getfield 72, 3) := by decide +kernel
theorem dX10_right_102 : decode cX10_right 102 = .ok (.lload_n 2, 1) := by decide +kernel
theorem dX10_right_103 : decode cX10_right 103 = .ok (.lload 4, 2) := by decide +kernel
theorem dX10_right_105 : decode cX10_right 105 = .ok (.iload_n 1, 1) := by decide +kernel
theorem dX10_right_106 : decode cX10_right 106 = .ok (.invokevirtual 285, 3) := by decide +kernel
theorem dX10_right_109 : decode cX10_right 109 = .ok (.lreturn, 1) := by decide +kernel
theorem dX10_right_50 : decode cX10_right 50 = .ok (.lload_n 2, 1) := by decide +kernel
theorem dX10_right_51 : decode cX10_right 51 = .ok (.aload_n 0, 1) := by decide +kernel
theorem dX10_right_52 : decode cX10_right 52 = .ok (.getfield 72, 3) := by decide +kernel
theorem dX10_right_55 : decode cX10_right 55 = .ok (.aload_n 0, 1) := by decide +kernel
theorem dX10_right_56 : decode cX10_right 56 = .ok (.getfield 31, 3) := by decide +kernel
theorem dX10_right_59 : decode cX10_right 59 = .ok (.getfield 98, 3) := by decide +kernel
theorem dX10_right_62 : decode cX10_right 62 = .ok (.iload 6, 2) := by decide +kernel
theorem dX10_right_64 : decode cX10_right 64 = .ok (.iload 6, 2) := by decide +kernel
theorem dX10_right_66 : decode cX10_right 66 = .ok (.invokevirtual 291, 3) := by decide +kernel
theorem dX10_right_69 : decode cX10_right 69 = .ok (.ladd, 1) := by decide +kernel
theorem dX10_right_70 : decode cX10_right 70 = .ok (.lstore_n 2, 1) := by decide +kernel
theorem dX10_right_71 : decode cX10_right 71 = .ok (.lload 4, 2) := by decide +kernel
theorem dX10_right_73 : decode cX10_right 73 = .ok (.aload_n 0, 1) := by decide +kernel
theorem dX10_right_74 : decode cX10_right 74 = .ok (.getfield 72, 3) := by decide +kernel
theorem dX10_right_77 : decode cX10_right 77 = .ok (.aload_n 0, 1) := by decide +kernel
theorem dX10_right_78 : decode cX10_right 78 = .ok (.getfield 31, 3) := by decide +kernel
theorem dX10_right_81 : decode cX10_right 81 = .ok (.getfield 98, 3) := by decide +kernel
theorem dX10_right_84 : decode cX10_right 84 = .ok (.iload 6, 2) := by decide +kernel
theorem dX10_right_86 : decode cX10_right 86 = .ok (.invokevirtual 295, 3) := by decide +kernel
theorem dX10_right_89 : decode cX10_right 89 = .ok (.ladd, 1) := by decide +kernel
theorem dX10_right_90 : decode cX10_right 90 = .ok (.lstore 4, 2) := by decide +kernel
theorem dX10_right_92 : decode cX10_right 92 = .ok (.iinc 6 1, 3) := by decide +kernel
theorem dX10_right_95 : decode cX10_right 95 = .ok (.goto (-60), 3) := by decide +kernel
theorem dX10_tell_0 : decode cX10_tell 0 = .ok (.aload_n 0, 1) := by decide +kernel
theorem dX10_tell_1 : decode cX10_tell 1 = .ok (.iload_n 1, 1) := by decide +kernel
theorem dX10_tell_2 : decode cX10_tell 2 = .ok (.invokevirtual 120, 3) := by decide +kernel
theorem dX10_tell_5 : decode cX10_tell 5 = .ok (.ifCond .eq 24, 3) := by decide +kernel
theorem dX10_tell_29 : decode cX10_tell 29 = .ok (.bipush (-2), 2) := by decide +kernel
theorem dX10_tell_31 : decode cX10_tell 31 = .ok (.ireturn, 1) := by decide +kernel
theorem dX10_tell_8 : decode cX10_tell 8 = .ok (.iload_n 2, 1) := by decide +kernel
theorem dX10_tell_9 : decode cX10_tell 9 = .ok (.ifCond .lt 20, 3) := by decide +kernel
theorem dX10_tell_12 : decode cX10_tell 12 = .ok (.iload_n 2, 1) := by decide +kernel
theorem dX10_tell_13 : decode cX10_tell 13 = .ok (.iconst 2, 1) := by decide +kernel
theorem dX10_tell_14 : decode cX10_tell 14 = .ok (.if_icmp .gt 15, 3) := by decide +kernel
theorem dX10_tell_17 : decode cX10_tell 17 = .ok (.iload_n 3, 1) := by decide +kernel
theorem dX10_tell_18 : decode cX10_tell 18 = .ok (.ifCond .lt 11, 3) := by decide +kernel
theorem dX10_tell_21 : decode cX10_tell 21 = .ok (.iload_n 3, 1) := by decide +kernel
theorem dX10_tell_22 : decode cX10_tell 22 = .ok (.iload_n 2, 1) := by decide +kernel
theorem dX10_tell_23 : decode cX10_tell 23 = .ok (.invokestatic 321, 3) := by decide +kernel
theorem dX10_tell_26 : decode cX10_tell 26 = .ok (.if_icmp .le 6, 3) := by decide +kernel
theorem dX10_tell_32 : decode cX10_tell 32 = .ok (.aload_n 0, 1) := by decide +kernel
theorem dX10_tell_33 : decode cX10_tell 33 = .ok (.getfield 31, 3) := by decide +kernel
theorem dX10_tell_36 : decode cX10_tell 36 = .ok (.getfield 105, 3) := by decide +kernel
theorem dX10_tell_39 : decode cX10_tell 39 = .ok (.ifCond .le 6, 3) := by decide +kernel
theorem dX10_tell_45 : decode cX10_tell 45 = .ok (.aload_n 0, 1) := by decide +kernel
theorem dX10_tell_46 : decode cX10_tell 46 = .ok (.getfield 31, 3) := by decide +kernel
theorem dX10_tell_49 : decode cX10_tell 49 = .ok (.getfield 98, 3) := by decide +kernel
theorem dX10_tell_52 : decode cX10_tell 52 = .ok (.iload_n 2, 1) := by decide +kernel
theorem dX10_tell_53 : decode cX10_tell 53 = .ok (.invokevirtual 124, 3) := by decide +kernel
theorem dX10_tell_56 : decode cX10_tell 56 = .ok (.astore 4, 2) := by decide +kernel
theorem dX10_tell_58 : decode cX10_tell 58 = .ok (.aload 4, 2) := by decide +kernel
theorem dX10_tell_60 : decode cX10_tell 60 = .ok (.iload_n 1, 1) := by decide +kernel
theorem dX10_tell_61 : decode cX10_tell 61 = .ok (.iaload, 1) := by decide +kernel
theorem dX10_tell_62 : decode cX10_tell 62 = .ok (.istore 5, 2) := by decide +kernel
theorem dX10_tell_64 : decode cX10_tell 64 = .ok (.aload 4, 2) := by decide +kernel
theorem dX10_tell_66 : decode cX10_tell 66 = .ok (.iload_n 1, 1) := by decide +kernel
theorem dX10_tell_67 : decode cX10_tell 67 = .ok (.iload_n 3, 1) := by decide +kernel
theorem dX10_tell_68 : decode cX10_tell 68 = .ok (.iastore, 1) := by decide +kernel
theorem dX10_tell_69 : decode cX10_tell 69 = .ok (.aload_n 0, 1) := by decide +kernel
theorem dX10_tell_70 : decode cX10_tell 70 = .ok (.invokevirtual 108, 3) := by decide +kernel
theorem dX10_tell_73 : decode cX10_tell 73 = .ok (.iload 5, 2) := by decide +kernel
theorem dX10_tell_75 : decode cX10_tell 75 = .ok (.ireturn, 1) := by decide +kernel
theorem dX10_tell_42 : decode cX10_tell 42 = .ok (.bipush (-5), 2) := by decide +kernel
theorem dX10_tell_44 : decode cX10_tell 44 = .ok (.ireturn, 1) := by decide +kernel
theorem dX10_shut_0 : decode cX10_shut 0 = .ok (.aload_n 0, 1) := by decide +kernel
theorem dX10_shut_1 : decode cX10_shut 1 = .ok (.iload_n 1, 1) := by decide +kernel
theorem dX10_shut_2 : decode cX10_shut 2 = .ok (.invokevirtual 120, 3) := by decide +kernel
theorem dX10_shut_5 : decode cX10_shut 5 = .ok (.ifCond .eq 25, 3) := by decide +kernel
theorem dX10_shut_30 : decode cX10_shut 30 = .ok (.bipush (-2), 2) := by decide +kernel
theorem dX10_shut_32 : decode cX10_shut 32 = .ok (.ireturn, 1) := by decide +kernel
theorem dX10_shut_8 : decode cX10_shut 8 = .ok (.aload_n 0, 1) := by decide +kernel
theorem dX10_shut_9 : decode cX10_shut 9 = .ok (.iload_n 2, 1) := by decide +kernel
theorem dX10_shut_10 : decode cX10_shut 10 = .ok (.invokevirtual 120, 3) := by decide +kernel
theorem dX10_shut_13 : decode cX10_shut 13 = .ok (.ifCond .eq 17, 3) := by decide +kernel
theorem dX10_shut_16 : decode cX10_shut 16 = .ok (.iload_n 1, 1) := by decide +kernel
theorem dX10_shut_17 : decode cX10_shut 17 = .ok (.iload_n 2, 1) := by decide +kernel
theorem dX10_shut_18 : decode cX10_shut 18 = .ok (.if_icmp .eq 12, 3) := by decide +kernel
theorem dX10_shut_21 : decode cX10_shut 21 = .ok (.iload_n 3, 1) := by decide +kernel
theorem dX10_shut_22 : decode cX10_shut 22 = .ok (.ifCond .lt 8, 3) := by decide +kernel
theorem dX10_shut_25 : decode cX10_shut 25 = .ok (.iload_n 3, 1) := by decide +kernel
theorem dX10_shut_26 : decode cX10_shut 26 = .ok (.iconst 1, 1) := by decide +kernel
theorem dX10_shut_27 : decode cX10_shut 27 = .ok (.if_icmp .le 6, 3) := by decide +kernel
theorem dX10_shut_33 : decode cX10_shut 33 = .ok (.aload_n 0, 1) := by decide +kernel
theorem dX10_shut_34 : decode cX10_shut 34 = .ok (.getfield 31, 3) := by decide +kernel
theorem dX10_shut_37 : decode cX10_shut 37 = .ok (.getfield 105, 3) := by decide +kernel
theorem dX10_shut_40 : decode cX10_shut 40 = .ok (.ifCond .le 6, 3) := by decide +kernel
theorem dX10_shut_46 : decode cX10_shut 46 = .ok (.aload_n 0, 1) := by decide +kernel
theorem dX10_shut_47 : decode cX10_shut 47 = .ok (.getfield 31, 3) := by decide +kernel
theorem dX10_shut_50 : decode cX10_shut 50 = .ok (.getfield 98, 3) := by decide +kernel
theorem dX10_shut_53 : decode cX10_shut 53 = .ok (.iload_n 1, 1) := by decide +kernel
theorem dX10_shut_54 : decode cX10_shut 54 = .ok (.iload_n 2, 1) := by decide +kernel
theorem dX10_shut_55 : decode cX10_shut 55 = .ok (.invokevirtual 324, 3) := by decide +kernel
theorem dX10_shut_58 : decode cX10_shut 58 = .ok (.istore 4, 2) := by decide +kernel
theorem dX10_shut_60 : decode cX10_shut 60 = .ok (.iload_n 3, 1) := by decide +kernel
theorem dX10_shut_61 : decode cX10_shut 61 = .ok (.iconst 1, 1) := by decide +kernel
theorem dX10_shut_92 : decode cX10_shut 92 = .ok (.iload 4, 2) := by decide +kernel
theorem dX10_shut_94 : decode cX10_shut 94 = .ok (.ifCond .eq 7, 3) := by decide +kernel
theorem dX10_shut_101 : decode cX10_shut 101 = .ok (.iconst 0, 1) := by decide +kernel
theorem dX10_shut_102 : decode cX10_shut 102 = .ok (.ireturn, 1) := by decide +kernel
theorem dX10_shut_97 : decode cX10_shut 97 = .ok (.iconst 1, 1) := by decide +kernel
theorem dX10_shut_98 : decode cX10_shut 98 = .ok (.goto 4, 3) := by decide +kernel
theorem dX10_shut_62 : decode cX10_shut 62 = .ok (.if_icmp .ne 18, 3) := by decide +kernel
theorem dX10_shut_80 : decode cX10_shut 80 = .ok (.aload_n 0, 1) := by decide +kernel
theorem dX10_shut_81 : decode cX10_shut 81 = .ok (.getfield 31, 3) := by decide +kernel
theorem dX10_shut_84 : decode cX10_shut 84 = .ok (.getfield 98, 3) := by decide +kernel
theorem dX10_shut_87 : decode cX10_shut 87 = .ok (.iload_n 1, 1) := by decide +kernel
theorem dX10_shut_88 : decode cX10_shut 88 = .ok (.iload_n 2, 1) := by decide +kernel
theorem dX10_shut_89 : decode cX10_shut 89 = .ok (.invokevirtual 332, 3) := by decide +kernel
theorem dX10_shut_65 : decode cX10_shut 65 = .ok (.aload_n 0, 1) := by decide +kernel
theorem dX10_shut_66 : decode cX10_shut 66 = .ok (.getfield 31, 3) := by decide +kernel
theorem dX10_shut_69 : decode cX10_shut 69 = .ok (.getfield 98, 3) := by decide +kernel
theorem dX10_shut_72 : decode cX10_shut 72 = .ok (.iload_n 1, 1) := by decide +kernel
theorem dX10_shut_73 : decode cX10_shut 73 = .ok (.iload_n 2, 1) := by decide +kernel
theorem dX10_shut_74 : decode cX10_shut 74 = .ok (.invokevirtual 328, 3) := by decide +kernel
theorem dX10_shut_77 : decode cX10_shut 77 = .ok (.goto 15, 3) := by decide +kernel
theorem dX10_shut_43 : decode cX10_shut 43 = .ok (.bipush (-5), 2) := by decide +kernel
theorem dX10_shut_45 : decode cX10_shut 45 = .ok (.ireturn, 1) := by decide +kernel
theorem dX10_count_0 : decode cX10_count 0 = .ok (.iload_n 1, 1) := by decide +kernel
theorem dX10_count_1 : decode cX10_count 1 = .ok (.tableswitch 127 0 7 #[47, 58, 69, 80, 95, 106, 114, 122], 47) := by decide +kernel
theorem dX10_count_128 : decode cX10_count 128 = .ok (.iconst (-1), 1) := by decide +kernel
theorem dX10_count_129 : decode cX10_count 129 = .ok (.ireturn, 1) := by decide +kernel
theorem dX10_count_48 : decode cX10_count 48 = .ok (.aload_n 0, 1) := by decide +kernel
theorem dX10_count_49 : decode cX10_count 49 = .ok (.getfield 31, 3) := by decide +kernel
theorem dX10_count_52 : decode cX10_count 52 = .ok (.getfield 98, 3) := by decide +kernel
theorem dX10_count_55 : decode cX10_count 55 = .ok (.getfield 159, 3) := by decide +kernel
theorem dX10_count_58 : decode cX10_count 58 = .ok (.ireturn, 1) := by decide +kernel
theorem dX10_count_59 : decode cX10_count 59 = .ok (.aload_n 0, 1) := by decide +kernel
theorem dX10_count_60 : decode cX10_count 60 = .ok (.getfield 31, 3) := by decide +kernel
theorem dX10_count_63 : decode cX10_count 63 = .ok (.getfield 98, 3) := by decide +kernel
theorem dX10_count_66 : decode cX10_count 66 = .ok (.invokevirtual 335, 3) := by decide +kernel
theorem dX10_count_69 : decode cX10_count 69 = .ok (.ireturn, 1) := by decide +kernel
theorem dX10_count_70 : decode cX10_count 70 = .ok (.aload_n 0, 1) := by decide +kernel
theorem dX10_count_71 : decode cX10_count 71 = .ok (.getfield 31, 3) := by decide +kernel
theorem dX10_count_74 : decode cX10_count 74 = .ok (.getfield 98, 3) := by decide +kernel
theorem dX10_count_77 : decode cX10_count 77 = .ok (.getfield 283, 3) := by decide +kernel
theorem dX10_count_80 : decode cX10_count 80 = .ok (.ireturn, 1) := by decide +kernel
theorem dX10_count_81 : decode cX10_count 81 = .ok (.aload_n 0, 1) := by decide +kernel
theorem dX10_count_82 : decode cX10_count 82 = .ok (.aload_n 0, 1) := by decide +kernel
theorem dX10_count_83 : decode cX10_count 83 = .ok (.getfield 31, 3) := by decide +kernel
theorem dX10_count_86 : decode cX10_count 86 = .ok (.getfield 98, 3) := by decide +kernel
theorem dX10_count_89 : decode cX10_count 89 = .ok (.invokevirtual 238, 3) := by decide +kernel
theorem dX10_count_92 : decode cX10_count 92 = .ok (.invokevirtual 247, 3) := by decide +kernel
theorem dX10_count_95 : decode cX10_count 95 = .ok (.ireturn, 1) := by decide +kernel
theorem dX10_count_96 : decode cX10_count 96 = .ok (.aload_n 0, 1) := by decide +kernel
theorem dX10_count_97 : decode cX10_count 97 = .ok (.getfield 31, 3) := by decide +kernel
theorem dX10_count_100 : decode cX10_count 100 = .ok (.getfield 98, 3) := by decide +kernel
theorem dX10_count_103 : decode cX10_count 103 = .ok (.getfield 111, 3) := by decide +kernel
theorem dX10_count_106 : decode cX10_count 106 = .ok (.ireturn, 1) := by decide +kernel
theorem dX10_count_107 : decode cX10_count 107 = .ok (.aload_n 0, 1) := by decide +kernel
theorem dX10_count_108 : decode cX10_count 108 = .ok (.getfield 20, 3) := by decide +kernel
theorem dX10_count_111 : decode cX10_count 111 = .ok (.getfield 84, 3) := by decide +kernel
theorem dX10_count_114 : decode cX10_count 114 = .ok (.ireturn, 1) := by decide +kernel
theorem dX10_count_115 : decode cX10_count 115 = .ok (.aload_n 0, 1) := by decide +kernel
theorem dX10_count_116 : decode cX10_count 116 = .ok (.getfield 31, 3) := by decide +kernel
theorem dX10_count_119 : decode cX10_count 119 = .ok (.getfield 105, 3) := by decide +kernel
theorem dX10_count_122 : decode cX10_count 122 = .ok (.ireturn, 1) := by decide +kernel
theorem dX10_count_123 : decode cX10_count 123 = .ok (.aload_n 0, 1) := by decide +kernel
theorem dX10_count_124 : decode cX10_count 124 = .ok (.invokevirtual 338, 3) := by decide +kernel
theorem dX10_count_127 : decode cX10_count 127 = .ok (.ireturn, 1) := by decide +kernel
theorem dX10_image_0 : decode cX10_image 0 = .ok (.iload_n 1, 1) := by decide +kernel
theorem dX10_image_1 : decode cX10_image 1 = .ok (.ifCond .lt 8, 3) := by decide +kernel
theorem dX10_image_4 : decode cX10_image 4 = .ok (.iload_n 1, 1) := by decide +kernel
theorem dX10_image_5 : decode cX10_image 5 = .ok (.iconst 3, 1) := by decide +kernel
theorem dX10_image_6 : decode cX10_image 6 = .ok (.if_icmp .lt 6, 3) := by decide +kernel
theorem dX10_image_12 : decode cX10_image 12 = .ok (.aload_n 0, 1) := by decide +kernel
theorem dX10_image_13 : decode cX10_image 13 = .ok (.getfield 35, 3) := by decide +kernel
theorem dX10_image_16 : decode cX10_image 16 = .ok (.iload_n 1, 1) := by decide +kernel
theorem dX10_image_17 : decode cX10_image 17 = .ok (.aaload, 1) := by decide +kernel
theorem dX10_image_18 : decode cX10_image 18 = .ok (.aload_n 0, 1) := by decide +kernel
theorem dX10_image_19 : decode cX10_image 19 = .ok (.getfield 31, 3) := by decide +kernel
theorem dX10_image_22 : decode cX10_image 22 = .ok (.invokevirtual 341, 3) := by decide +kernel
theorem dX10_image_25 : decode cX10_image 25 = .ok (.aload_n 0, 1) := by decide +kernel
theorem dX10_image_26 : decode cX10_image 26 = .ok (.getfield 35, 3) := by decide +kernel
theorem dX10_image_29 : decode cX10_image 29 = .ok (.iload_n 1, 1) := by decide +kernel
theorem dX10_image_30 : decode cX10_image 30 = .ok (.aaload, 1) := by decide +kernel
theorem dX10_image_31 : decode cX10_image 31 = .ok (.iconst 1, 1) := by decide +kernel
theorem dX10_image_32 : decode cX10_image 32 = .ok (.putfield 344, 3) := by decide +kernel
theorem dX10_image_35 : decode cX10_image 35 = .ok (.iconst 0, 1) := by decide +kernel
theorem dX10_image_36 : decode cX10_image 36 = .ok (.ireturn, 1) := by decide +kernel
theorem dX10_back_0 : decode cX10_back 0 = .ok (.iload_n 1, 1) := by decide +kernel
theorem dX10_back_1 : decode cX10_back 1 = .ok (.ifCond .lt 8, 3) := by decide +kernel
theorem dX10_back_4 : decode cX10_back 4 = .ok (.iload_n 1, 1) := by decide +kernel
theorem dX10_back_5 : decode cX10_back 5 = .ok (.iconst 3, 1) := by decide +kernel
theorem dX10_back_6 : decode cX10_back 6 = .ok (.if_icmp .lt 6, 3) := by decide +kernel
theorem dX10_back_12 : decode cX10_back 12 = .ok (.aload_n 0, 1) := by decide +kernel
theorem dX10_back_13 : decode cX10_back 13 = .ok (.getfield 35, 3) := by decide +kernel
theorem dX10_back_16 : decode cX10_back 16 = .ok (.iload_n 1, 1) := by decide +kernel
theorem dX10_back_17 : decode cX10_back 17 = .ok (.aaload, 1) := by decide +kernel
theorem dX10_back_18 : decode cX10_back 18 = .ok (.getfield 344, 3) := by decide +kernel
theorem dX10_back_21 : decode cX10_back 21 = .ok (.ifCond .ne 6, 3) := by decide +kernel
theorem dX10_back_27 : decode cX10_back 27 = .ok (.aload_n 0, 1) := by decide +kernel
theorem dX10_back_28 : decode cX10_back 28 = .ok (.getfield 31, 3) := by decide +kernel
theorem dX10_back_31 : decode cX10_back 31 = .ok (.aload_n 0, 1) := by decide +kernel
theorem dX10_back_32 : decode cX10_back 32 = .ok (.getfield 35, 3) := by decide +kernel
theorem dX10_back_35 : decode cX10_back 35 = .ok (.iload_n 1, 1) := by decide +kernel
theorem dX10_back_36 : decode cX10_back 36 = .ok (.aaload, 1) := by decide +kernel
theorem dX10_back_37 : decode cX10_back 37 = .ok (.invokevirtual 341, 3) := by decide +kernel
theorem dX10_back_40 : decode cX10_back 40 = .ok (.aload_n 0, 1) := by decide +kernel
theorem dX10_back_41 : decode cX10_back 41 = .ok (.invokevirtual 108, 3) := by decide +kernel
theorem dX10_back_44 : decode cX10_back 44 = .ok (.iconst 0, 1) := by decide +kernel
theorem dX10_back_45 : decode cX10_back 45 = .ok (.ireturn, 1) := by decide +kernel
theorem dX10_back_24 : decode cX10_back 24 = .ok (.bipush (-6), 2) := by decide +kernel
theorem dX10_back_26 : decode cX10_back 26 = .ok (.ireturn, 1) := by decide +kernel
theorem dX10_image_9 : decode cX10_image 9 = .ok (.bipush (-2), 2) := by decide +kernel
theorem dX10_image_11 : decode cX10_image 11 = .ok (.ireturn, 1) := by decide +kernel
theorem dX10_back_9 : decode cX10_back 9 = .ok (.bipush (-2), 2) := by decide +kernel
theorem dX10_back_11 : decode cX10_back 11 = .ok (.ireturn, 1) := by decide +kernel
theorem dX10_row_0 : decode cX10_row 0 = .ok (.aload_n 0, 1) := by decide +kernel
theorem dX10_row_1 : decode cX10_row 1 = .ok (.iload_n 1, 1) := by decide +kernel
theorem dX10_row_2 : decode cX10_row 2 = .ok (.invokevirtual 348, 3) := by decide +kernel
theorem dX10_row_5 : decode cX10_row 5 = .ok (.ifCond .eq 18, 3) := by decide +kernel
theorem dX10_row_23 : decode cX10_row 23 = .ok (.bipush (-2), 2) := by decide +kernel
theorem dX10_row_25 : decode cX10_row 25 = .ok (.ireturn, 1) := by decide +kernel
theorem dX10_row_8 : decode cX10_row 8 = .ok (.iload_n 2, 1) := by decide +kernel
theorem dX10_row_9 : decode cX10_row 9 = .ok (.ifCond .lt 14, 3) := by decide +kernel
theorem dX10_row_12 : decode cX10_row 12 = .ok (.iload_n 2, 1) := by decide +kernel
theorem dX10_row_13 : decode cX10_row 13 = .ok (.iconst 3, 1) := by decide +kernel
theorem dX10_row_14 : decode cX10_row 14 = .ok (.if_icmp .gt 9, 3) := by decide +kernel
theorem dX10_row_17 : decode cX10_row 17 = .ok (.iload_n 3, 1) := by decide +kernel
theorem dX10_row_18 : decode cX10_row 18 = .ok (.bipush 60, 2) := by decide +kernel
theorem dX10_row_20 : decode cX10_row 20 = .ok (.if_icmp .le 6, 3) := by decide +kernel
theorem dX10_row_26 : decode cX10_row 26 = .ok (.iload_n 3, 1) := by decide +kernel
theorem dX10_row_27 : decode cX10_row 27 = .ok (.ifCond .ge 6, 3) := by decide +kernel
theorem dX10_row_33 : decode cX10_row 33 = .ok (.aload_n 0, 1) := by decide +kernel
theorem dX10_row_34 : decode cX10_row 34 = .ok (.getfield 41, 3) := by decide +kernel
theorem dX10_row_37 : decode cX10_row 37 = .ok (.iload_n 1, 1) := by decide +kernel
theorem dX10_row_38 : decode cX10_row 38 = .ok (.aaload, 1) := by decide +kernel
theorem dX10_row_39 : decode cX10_row 39 = .ok (.iload_n 2, 1) := by decide +kernel
theorem dX10_row_40 : decode cX10_row 40 = .ok (.iload_n 3, 1) := by decide +kernel
theorem dX10_row_41 : decode cX10_row 41 = .ok (.invokevirtual 351, 3) := by decide +kernel
theorem dX10_row_44 : decode cX10_row 44 = .ok (.iconst 0, 1) := by decide +kernel
theorem dX10_row_45 : decode cX10_row 45 = .ok (.ireturn, 1) := by decide +kernel
theorem dX10_row_30 : decode cX10_row 30 = .ok (.bipush (-3), 2) := by decide +kernel
theorem dX10_row_32 : decode cX10_row 32 = .ok (.ireturn, 1) := by decide +kernel
theorem dX10_write_0 : decode cX10_write 0 = .ok (.aload_n 0, 1) := by decide +kernel
theorem dX10_write_1 : decode cX10_write 1 = .ok (.iload_n 1, 1) := by decide +kernel
theorem dX10_write_2 : decode cX10_write 2 = .ok (.invokevirtual 348, 3) := by decide +kernel
theorem dX10_write_5 : decode cX10_write 5 = .ok (.ifCond .ne 6, 3) := by decide +kernel
theorem dX10_write_11 : decode cX10_write 11 = .ok (.aload_n 0, 1) := by decide +kernel
theorem dX10_write_12 : decode cX10_write 12 = .ok (.getfield 41, 3) := by decide +kernel
theorem dX10_write_15 : decode cX10_write 15 = .ok (.iload_n 1, 1) := by decide +kernel
theorem dX10_write_16 : decode cX10_write 16 = .ok (.aaload, 1) := by decide +kernel
theorem dX10_write_17 : decode cX10_write 17 = .ok (.astore 5, 2) := by decide +kernel
theorem dX10_write_19 : decode cX10_write 19 = .ok (.aload 5, 2) := by decide +kernel
theorem dX10_write_21 : decode cX10_write 21 = .ok (.getfield 354, 3) := by decide +kernel
theorem dX10_write_24 : decode cX10_write 24 = .ok (.ifCond .ne 6, 3) := by decide +kernel
theorem dX10_write_30 : decode cX10_write 30 = .ok (.iload_n 2, 1) := by decide +kernel
theorem dX10_write_31 : decode cX10_write 31 = .ok (.ifCond .lt 12, 3) := by decide +kernel
theorem dX10_write_43 : decode cX10_write 43 = .ok (.bipush (-7), 2) := by decide +kernel
theorem dX10_write_45 : decode cX10_write 45 = .ok (.ireturn, 1) := by decide +kernel
theorem dX10_write_34 : decode cX10_write 34 = .ok (.iload_n 2, 1) := by decide +kernel
theorem dX10_write_35 : decode cX10_write 35 = .ok (.aload 5, 2) := by decide +kernel
theorem dX10_write_37 : decode cX10_write 37 = .ok (.getfield 194, 3) := by decide +kernel
theorem dX10_write_40 : decode cX10_write 40 = .ok (.if_icmp .lt 6, 3) := by decide +kernel
theorem dX10_write_46 : decode cX10_write 46 = .ok (.aload 5, 2) := by decide +kernel
theorem dX10_write_48 : decode cX10_write 48 = .ok (.getfield 357, 3) := by decide +kernel
theorem dX10_write_51 : decode cX10_write 51 = .ok (.iload_n 2, 1) := by decide +kernel
theorem dX10_write_52 : decode cX10_write 52 = .ok (.aload 5, 2) := by decide +kernel
theorem dX10_write_54 : decode cX10_write 54 = .ok (.lload_n 3, 1) := by decide +kernel
theorem dX10_write_55 : decode cX10_write 55 = .ok (.invokevirtual 361, 3) := by decide +kernel
theorem dX10_write_58 : decode cX10_write 58 = .ok (.lastore, 1) := by decide +kernel
theorem dX10_write_59 : decode cX10_write 59 = .ok (.iconst 0, 1) := by decide +kernel
theorem dX10_write_60 : decode cX10_write 60 = .ok (.ireturn, 1) := by decide +kernel
theorem dX10_write_27 : decode cX10_write 27 = .ok (.bipush (-6), 2) := by decide +kernel
theorem dX10_write_29 : decode cX10_write 29 = .ok (.ireturn, 1) := by decide +kernel
theorem dX10_write_8 : decode cX10_write 8 = .ok (.bipush (-2), 2) := by decide +kernel
theorem dX10_write_10 : decode cX10_write 10 = .ok (.ireturn, 1) := by decide +kernel
theorem dX10_paste_0 : decode cX10_paste 0 = .ok (.aload_n 0, 1) := by decide +kernel
theorem dX10_paste_1 : decode cX10_paste 1 = .ok (.iload_n 1, 1) := by decide +kernel
theorem dX10_paste_2 : decode cX10_paste 2 = .ok (.invokevirtual 348, 3) := by decide +kernel
theorem dX10_paste_5 : decode cX10_paste 5 = .ok (.ifCond .eq 11, 3) := by decide +kernel
theorem dX10_paste_16 : decode cX10_paste 16 = .ok (.bipush (-2), 2) := by decide +kernel
theorem dX10_paste_18 : decode cX10_paste 18 = .ok (.ireturn, 1) := by decide +kernel
theorem dX10_paste_8 : decode cX10_paste 8 = .ok (.aload_n 0, 1) := by decide +kernel
theorem dX10_paste_9 : decode cX10_paste 9 = .ok (.iload_n 3, 1) := by decide +kernel
theorem dX10_paste_10 : decode cX10_paste 10 = .ok (.invokevirtual 348, 3) := by decide +kernel
theorem dX10_paste_13 : decode cX10_paste 13 = .ok (.ifCond .ne 6, 3) := by decide +kernel
theorem dX10_paste_19 : decode cX10_paste 19 = .ok (.aload_n 0, 1) := by decide +kernel
theorem dX10_paste_20 : decode cX10_paste 20 = .ok (.getfield 41, 3) := by decide +kernel
theorem dX10_paste_23 : decode cX10_paste 23 = .ok (.iload_n 1, 1) := by decide +kernel
theorem dX10_paste_24 : decode cX10_paste 24 = .ok (.aaload, 1) := by decide +kernel
theorem dX10_paste_25 : decode cX10_paste 25 = .ok (.astore 6, 2) := by decide +kernel
theorem dX10_paste_27 : decode cX10_paste 27 = .ok (.aload_n 0, 1) := by decide +kernel
theorem dX10_paste_28 : decode cX10_paste 28 = .ok (.getfield 41, 3) := by decide +kernel
theorem dX10_paste_31 : decode cX10_paste 31 = .ok (.iload_n 3, 1) := by decide +kernel
theorem dX10_paste_32 : decode cX10_paste 32 = .ok (.aaload, 1) := by decide +kernel
theorem dX10_paste_33 : decode cX10_paste 33 = .ok (.astore 7, 2) := by decide +kernel
theorem dX10_paste_35 : decode cX10_paste 35 = .ok (.aload 6, 2) := by decide +kernel
theorem dX10_paste_37 : decode cX10_paste 37 = .ok (.getfield 354, 3) := by decide +kernel
theorem dX10_paste_40 : decode cX10_paste 40 = .ok (.ifCond .eq 11, 3) := by decide +kernel
theorem dX10_paste_51 : decode cX10_paste 51 = .ok (.bipush (-6), 2) := by decide +kernel
theorem dX10_paste_53 : decode cX10_paste 53 = .ok (.ireturn, 1) := by decide +kernel
theorem dX10_paste_43 : decode cX10_paste 43 = .ok (.aload 7, 2) := by decide +kernel
theorem dX10_paste_45 : decode cX10_paste 45 = .ok (.getfield 354, 3) := by decide +kernel
theorem dX10_paste_48 : decode cX10_paste 48 = .ok (.ifCond .ne 6, 3) := by decide +kernel
theorem dX10_paste_54 : decode cX10_paste 54 = .ok (.aload 6, 2) := by decide +kernel
theorem dX10_paste_56 : decode cX10_paste 56 = .ok (.getfield 365, 3) := by decide +kernel
theorem dX10_paste_59 : decode cX10_paste 59 = .ok (.aload 7, 2) := by decide +kernel
theorem dX10_paste_61 : decode cX10_paste 61 = .ok (.getfield 365, 3) := by decide +kernel
theorem dX10_paste_64 : decode cX10_paste 64 = .ok (.if_icmp .eq 6, 3) := by decide +kernel
theorem dX10_paste_70 : decode cX10_paste 70 = .ok (.aload 6, 2) := by decide +kernel
theorem dX10_paste_72 : decode cX10_paste 72 = .ok (.iload_n 2, 1) := by decide +kernel
theorem dX10_paste_73 : decode cX10_paste 73 = .ok (.iload 5, 2) := by decide +kernel
theorem dX10_paste_75 : decode cX10_paste 75 = .ok (.invokevirtual 368, 3) := by decide +kernel
theorem dX10_paste_78 : decode cX10_paste 78 = .ok (.ifCond .eq 15, 3) := by decide +kernel
theorem dX10_paste_93 : decode cX10_paste 93 = .ok (.bipush (-7), 2) := by decide +kernel
theorem dX10_paste_95 : decode cX10_paste 95 = .ok (.ireturn, 1) := by decide +kernel
theorem dX10_paste_81 : decode cX10_paste 81 = .ok (.aload 7, 2) := by decide +kernel
theorem dX10_paste_83 : decode cX10_paste 83 = .ok (.iload 4, 2) := by decide +kernel
theorem dX10_paste_85 : decode cX10_paste 85 = .ok (.iload 5, 2) := by decide +kernel
theorem dX10_paste_87 : decode cX10_paste 87 = .ok (.invokevirtual 368, 3) := by decide +kernel
theorem dX10_paste_90 : decode cX10_paste 90 = .ok (.ifCond .ne 6, 3) := by decide +kernel
theorem dX10_paste_96 : decode cX10_paste 96 = .ok (.aload 6, 2) := by decide +kernel
theorem dX10_paste_98 : decode cX10_paste 98 = .ok (.getfield 357, 3) := by decide +kernel
theorem dX10_paste_101 : decode cX10_paste 101 = .ok (.iload_n 2, 1) := by decide +kernel
theorem dX10_paste_102 : decode cX10_paste 102 = .ok (.aload 7, 2) := by decide +kernel
theorem dX10_paste_104 : decode cX10_paste 104 = .ok (.getfield 357, 3) := by decide +kernel
theorem dX10_paste_107 : decode cX10_paste 107 = .ok (.iload 4, 2) := by decide +kernel
theorem dX10_paste_109 : decode cX10_paste 109 = .ok (.iload 5, 2) := by decide +kernel
theorem dX10_paste_111 : decode cX10_paste 111 = .ok (.invokestatic 371, 3) := by decide +kernel
theorem dX10_paste_114 : decode cX10_paste 114 = .ok (.iconst 0, 1) := by decide +kernel
theorem dX10_paste_115 : decode cX10_paste 115 = .ok (.ireturn, 1) := by decide +kernel
theorem dX10_paste_67 : decode cX10_paste 67 = .ok (.bipush (-8), 2) := by decide +kernel
theorem dX10_paste_69 : decode cX10_paste 69 = .ok (.ireturn, 1) := by decide +kernel
