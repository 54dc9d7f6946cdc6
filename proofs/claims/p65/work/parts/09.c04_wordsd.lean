theorem dX10_quietly_9 : decode cX10_quietly 9 = .ok (.invokevirtual 205, 3) := by decide +kernel
theorem dX10_quietly_12 : decode cX10_quietly 12 = .ok (.ifCond .ne 6, 3) := by decide +kernel
theorem dX10_quietly_18 : decode cX10_quietly 18 = .ok (.aload_n 0, 1) := by decide +kernel
theorem dX10_quietly_19 : decode cX10_quietly 19 = .ok (.iload_n 1, 1) := by decide +kernel
theorem dX10_quietly_20 : decode cX10_quietly 20 = .ok (.invokevirtual 244, 3) := by decide +kernel
theorem dX10_quietly_23 : decode cX10_quietly 23 = .ok (.ireturn, 1) := by decide +kernel
theorem dX10_card_0 : decode cX10_card 0 = .ok (.aload_n 0, 1) := by decide +kernel
theorem dX10_card_1 : decode cX10_card 1 = .ok (.iload_n 1, 1) := by decide +kernel
theorem dX10_card_2 : decode cX10_card 2 = .ok (.invokevirtual 120, 3) := by decide +kernel
theorem dX10_card_5 : decode cX10_card 5 = .ok (.ifCond .eq 14, 3) := by decide +kernel
theorem dX10_card_19 : decode cX10_card 19 = .ok (.bipush (-2), 2) := by decide +kernel
theorem dX10_card_21 : decode cX10_card 21 = .ok (.ireturn, 1) := by decide +kernel
theorem dX10_card_8 : decode cX10_card 8 = .ok (.iload_n 2, 1) := by decide +kernel
theorem dX10_card_9 : decode cX10_card 9 = .ok (.ifCond .lt 10, 3) := by decide +kernel
theorem dX10_card_12 : decode cX10_card 12 = .ok (.iload_n 2, 1) := by decide +kernel
theorem dX10_card_13 : decode cX10_card 13 = .ok (.sipush 200, 3) := by decide +kernel
theorem dX10_card_16 : decode cX10_card 16 = .ok (.if_icmp .le 6, 3) := by decide +kernel
theorem dX10_card_22 : decode cX10_card 22 = .ok (.aload_n 0, 1) := by decide +kernel
theorem dX10_card_23 : decode cX10_card 23 = .ok (.iload_n 1, 1) := by decide +kernel
theorem dX10_card_24 : decode cX10_card 24 = .ok (.iload_n 2, 1) := by decide +kernel
theorem dX10_card_25 : decode cX10_card 25 = .ok (.invokevirtual 250, 3) := by decide +kernel
theorem dX10_card_28 : decode cX10_card 28 = .ok (.ireturn, 1) := by decide +kernel
theorem dX10_desk_0 : decode cX10_desk 0 = .ok (.aload_n 0, 1) := by decide +kernel
theorem dX10_desk_1 : decode cX10_desk 1 = .ok (.getfield 31, 3) := by decide +kernel
theorem dX10_desk_4 : decode cX10_desk 4 = .ok (.getfield 98, 3) := by decide +kernel
theorem dX10_desk_7 : decode cX10_desk 7 = .ok (.getfield 159, 3) := by decide +kernel
theorem dX10_desk_10 : decode cX10_desk 10 = .ok (.iconst 1, 1) := by decide +kernel
theorem dX10_desk_11 : decode cX10_desk 11 = .ok (.if_icmp .lt 14, 3) := by decide +kernel
theorem dX10_desk_25 : decode cX10_desk 25 = .ok (.bipush (-2), 2) := by decide +kernel
theorem dX10_desk_27 : decode cX10_desk 27 = .ok (.ireturn, 1) := by decide +kernel
theorem dX10_desk_14 : decode cX10_desk 14 = .ok (.iload_n 1, 1) := by decide +kernel
theorem dX10_desk_15 : decode cX10_desk 15 = .ok (.ifCond .lt 10, 3) := by decide +kernel
theorem dX10_desk_18 : decode cX10_desk 18 = .ok (.iload_n 1, 1) := by decide +kernel
theorem dX10_desk_19 : decode cX10_desk 19 = .ok (.sipush 200, 3) := by decide +kernel
theorem dX10_desk_22 : decode cX10_desk 22 = .ok (.if_icmp .le 6, 3) := by decide +kernel
theorem dX10_desk_28 : decode cX10_desk 28 = .ok (.iconst 0, 1) := by decide +kernel
theorem dX10_desk_29 : decode cX10_desk 29 = .ok (.istore_n 2, 1) := by decide +kernel
theorem dX10_desk_30 : decode cX10_desk 30 = .ok (.iconst (-1), 1) := by decide +kernel
theorem dX10_desk_31 : decode cX10_desk 31 = .ok (.istore_n 3, 1) := by decide +kernel
theorem dX10_desk_32 : decode cX10_desk 32 = .ok (.iconst 0, 1) := by decide +kernel
theorem dX10_desk_33 : decode cX10_desk 33 = .ok (.istore 4, 2) := by decide +kernel
theorem dX10_desk_35 : decode cX10_desk 35 = .ok (.iload 4, 2) := by decide +kernel
theorem dX10_desk_37 : decode cX10_desk 37 = .ok (.aload_n 0, 1) := by decide +kernel
theorem dX10_desk_38 : decode cX10_desk 38 = .ok (.getfield 31, 3) := by decide +kernel
theorem dX10_desk_41 : decode cX10_desk 41 = .ok (.getfield 98, 3) := by decide +kernel
theorem dX10_desk_44 : decode cX10_desk 44 = .ok (.getfield 159, 3) := by decide +kernel
theorem dX10_desk_47 : decode cX10_desk 47 = .ok (.if_icmp .ge 30, 3) := by decide +kernel
theorem dX10_desk_77 : decode cX10_desk 77 = .ok (.iload_n 2, 1) := by decide +kernel
theorem dX10_desk_78 : decode cX10_desk 78 = .ok (.ireturn, 1) := by decide +kernel
theorem dX10_desk_50 : decode cX10_desk 50 = .ok (.aload_n 0, 1) := by decide +kernel
theorem dX10_desk_51 : decode cX10_desk 51 = .ok (.iload 4, 2) := by decide +kernel
theorem dX10_desk_53 : decode cX10_desk 53 = .ok (.iload_n 1, 1) := by decide +kernel
theorem dX10_desk_54 : decode cX10_desk 54 = .ok (.invokevirtual 250, 3) := by decide +kernel
theorem dX10_desk_57 : decode cX10_desk 57 = .ok (.istore 5, 2) := by decide +kernel
theorem dX10_desk_59 : decode cX10_desk 59 = .ok (.iload 5, 2) := by decide +kernel
theorem dX10_desk_61 : decode cX10_desk 61 = .ok (.iload_n 3, 1) := by decide +kernel
theorem dX10_desk_71 : decode cX10_desk 71 = .ok (.iinc 4 1, 3) := by decide +kernel
theorem dX10_desk_74 : decode cX10_desk 74 = .ok (.goto (-39), 3) := by decide +kernel
theorem dX10_desk_62 : decode cX10_desk 62 = .ok (.if_icmp .le 9, 3) := by decide +kernel
theorem dX10_desk_65 : decode cX10_desk 65 = .ok (.iload 5, 2) := by decide +kernel
theorem dX10_desk_67 : decode cX10_desk 67 = .ok (.istore_n 3, 1) := by decide +kernel
theorem dX10_desk_68 : decode cX10_desk 68 = .ok (.iload 4, 2) := by decide +kernel
theorem dX10_desk_70 : decode cX10_desk 70 = .ok (.istore_n 2, 1) := by decide +kernel
theorem dX10_one_0 : decode cX10_one 0 = .ok (.aload_n 0, 1) := by decide +kernel
theorem dX10_one_1 : decode cX10_one 1 = .ok (.iload_n 1, 1) := by decide +kernel
theorem dX10_one_2 : decode cX10_one 2 = .ok (.invokevirtual 120, 3) := by decide +kernel
theorem dX10_one_5 : decode cX10_one 5 = .ok (.ifCond .ne 6, 3) := by decide +kernel
theorem dX10_one_11 : decode cX10_one 11 = .ok (.aload_n 0, 1) := by decide +kernel
theorem dX10_one_12 : decode cX10_one 12 = .ok (.getfield 65, 3) := by decide +kernel
theorem dX10_one_15 : decode cX10_one 15 = .ok (.aload_n 0, 1) := by decide +kernel
theorem dX10_one_16 : decode cX10_one 16 = .ok (.getfield 31, 3) := by decide +kernel
theorem dX10_one_19 : decode cX10_one 19 = .ok (.getfield 98, 3) := by decide +kernel
theorem dX10_one_22 : decode cX10_one 22 = .ok (.iload_n 1, 1) := by decide +kernel
theorem dX10_one_23 : decode cX10_one 23 = .ok (.iload_n 1, 1) := by decide +kernel
theorem dX10_one_24 : decode cX10_one 24 = .ok (.iconst 1, 1) := by decide +kernel
theorem dX10_one_25 : decode cX10_one 25 = .ok (.invokevirtual 253, 3) := by decide +kernel
theorem dX10_one_28 : decode cX10_one 28 = .ok (.pop, 1) := by decide +kernel
theorem dX10_one_29 : decode cX10_one 29 = .ok (.aload_n 0, 1) := by decide +kernel
theorem dX10_one_30 : decode cX10_one 30 = .ok (.getfield 65, 3) := by decide +kernel
theorem dX10_one_33 : decode cX10_one 33 = .ok (.invokevirtual 257, 3) := by decide +kernel
theorem dX10_one_36 : decode cX10_one 36 = .ok (.ireturn, 1) := by decide +kernel
theorem dX10_one_8 : decode cX10_one 8 = .ok (.bipush (-2), 2) := by decide +kernel
theorem dX10_one_10 : decode cX10_one 10 = .ok (.ireturn, 1) := by decide +kernel
theorem dX10_two_0 : decode cX10_two 0 = .ok (.aload_n 0, 1) := by decide +kernel
theorem dX10_two_1 : decode cX10_two 1 = .ok (.iload_n 1, 1) := by decide +kernel
theorem dX10_two_2 : decode cX10_two 2 = .ok (.invokevirtual 120, 3) := by decide +kernel
theorem dX10_two_5 : decode cX10_two 5 = .ok (.ifCond .eq 11, 3) := by decide +kernel
theorem dX10_two_16 : decode cX10_two 16 = .ok (.bipush (-2), 2) := by decide +kernel
theorem dX10_two_18 : decode cX10_two 18 = .ok (.ireturn, 1) := by decide +kernel
theorem dX10_two_8 : decode cX10_two 8 = .ok (.aload_n 0, 1) := by decide +kernel
theorem dX10_two_9 : decode cX10_two 9 = .ok (.iload_n 2, 1) := by decide +kernel
theorem dX10_two_10 : decode cX10_two 10 = .ok (.invokevirtual 120, 3) := by decide +kernel
theorem dX10_two_13 : decode cX10_two 13 = .ok (.ifCond .ne 6, 3) := by decide +kernel
theorem dX10_two_19 : decode cX10_two 19 = .ok (.aload_n 0, 1) := by decide +kernel
theorem dX10_two_20 : decode cX10_two 20 = .ok (.getfield 65, 3) := by decide +kernel
theorem dX10_two_23 : decode cX10_two 23 = .ok (.aload_n 0, 1) := by decide +kernel
theorem dX10_two_24 : decode cX10_two 24 = .ok (.getfield 31, 3) := by decide +kernel
theorem dX10_two_27 : decode cX10_two 27 = .ok (.getfield 98, 3) := by decide +kernel
theorem dX10_two_30 : decode cX10_two 30 = .ok (.iload_n 1, 1) := by decide +kernel
theorem dX10_two_31 : decode cX10_two 31 = .ok (.iload_n 2, 1) := by decide +kernel
theorem dX10_two_32 : decode cX10_two 32 = .ok (.iconst 0, 1) := by decide +kernel
theorem dX10_two_33 : decode cX10_two 33 = .ok (.invokevirtual 253, 3) := by decide +kernel
theorem dX10_two_36 : decode cX10_two 36 = .ok (.pop, 1) := by decide +kernel
theorem dX10_two_37 : decode cX10_two 37 = .ok (.aload_n 0, 1) := by decide +kernel
theorem dX10_two_38 : decode cX10_two 38 = .ok (.getfield 65, 3) := by decide +kernel
theorem dX10_two_41 : decode cX10_two 41 = .ok (.invokevirtual 257, 3) := by decide +kernel
theorem dX10_two_44 : decode cX10_two 44 = .ok (.ireturn, 1) := by decide +kernel
theorem dX10_way_0 : decode cX10_way 0 = .ok (.aload_n 0, 1) := by decide +kernel
theorem dX10_way_1 : decode cX10_way 1 = .ok (.iload_n 1, 1) := by decide +kernel
theorem dX10_way_2 : decode cX10_way 2 = .ok (.invokevirtual 120, 3) := by decide +kernel
theorem dX10_way_5 : decode cX10_way 5 = .ok (.ifCond .eq 20, 3) := by decide +kernel
theorem dX10_way_25 : decode cX10_way 25 = .ok (.bipush (-2), 2) := by decide +kernel
theorem dX10_way_27 : decode cX10_way 27 = .ok (.ireturn, 1) := by decide +kernel
theorem dX10_way_8 : decode cX10_way 8 = .ok (.aload_n 0, 1) := by decide +kernel
theorem dX10_way_9 : decode cX10_way 9 = .ok (.iload_n 2, 1) := by decide +kernel
theorem dX10_way_10 : decode cX10_way 10 = .ok (.invokevirtual 120, 3) := by decide +kernel
theorem dX10_way_13 : decode cX10_way 13 = .ok (.ifCond .eq 12, 3) := by decide +kernel
theorem dX10_way_16 : decode cX10_way 16 = .ok (.iload_n 3, 1) := by decide +kernel
theorem dX10_way_17 : decode cX10_way 17 = .ok (.ifCond .lt 8, 3) := by decide +kernel
theorem dX10_way_20 : decode cX10_way 20 = .ok (.iload_n 3, 1) := by decide +kernel
theorem dX10_way_21 : decode cX10_way 21 = .ok (.iconst 1, 1) := by decide +kernel
theorem dX10_way_22 : decode cX10_way 22 = .ok (.if_icmp .le 6, 3) := by decide +kernel
theorem dX10_way_28 : decode cX10_way 28 = .ok (.aload_n 0, 1) := by decide +kernel
theorem dX10_way_29 : decode cX10_way 29 = .ok (.getfield 65, 3) := by decide +kernel
theorem dX10_way_32 : decode cX10_way 32 = .ok (.aload_n 0, 1) := by decide +kernel
theorem dX10_way_33 : decode cX10_way 33 = .ok (.getfield 31, 3) := by decide +kernel
theorem dX10_way_36 : decode cX10_way 36 = .ok (.getfield 98, 3) := by decide +kernel
theorem dX10_way_39 : decode cX10_way 39 = .ok (.iload_n 1, 1) := by decide +kernel
theorem dX10_way_40 : decode cX10_way 40 = .ok (.iload_n 2, 1) := by decide +kernel
theorem dX10_way_41 : decode cX10_way 41 = .ok (.iconst 0, 1) := by decide +kernel
theorem dX10_way_42 : decode cX10_way 42 = .ok (.invokevirtual 253, 3) := by decide +kernel
theorem dX10_way_45 : decode cX10_way 45 = .ok (.pop, 1) := by decide +kernel
theorem dX10_way_46 : decode cX10_way 46 = .ok (.aload_n 0, 1) := by decide +kernel
theorem dX10_way_47 : decode cX10_way 47 = .ok (.getfield 65, 3) := by decide +kernel
theorem dX10_way_50 : decode cX10_way 50 = .ok (.iload_n 3, 1) := by decide +kernel
theorem dX10_way_51 : decode cX10_way 51 = .ok (.iload 4, 2) := by decide +kernel
theorem dX10_way_53 : decode cX10_way 53 = .ok (.invokevirtual 260, 3) := by decide +kernel
theorem dX10_way_56 : decode cX10_way 56 = .ok (.ireturn, 1) := by decide +kernel
theorem dX10_boys_0 : decode cX10_boys 0 = .ok (.aload_n 0, 1) := by decide +kernel
theorem dX10_boys_1 : decode cX10_boys 1 = .ok (.getfield 31, 3) := by decide +kernel
theorem dX10_boys_4 : decode cX10_boys 4 = .ok (.getfield 98, 3) := by decide +kernel
theorem dX10_boys_7 : decode cX10_boys 7 = .ok (.getfield 159, 3) := by decide +kernel
theorem dX10_boys_10 : decode cX10_boys 10 = .ok (.iconst 1, 1) := by decide +kernel
theorem dX10_boys_11 : decode cX10_boys 11 = .ok (.if_icmp .ge 6, 3) := by decide +kernel
theorem dX10_boys_17 : decode cX10_boys 17 = .ok (.iconst 0, 1) := by decide +kernel
theorem dX10_boys_18 : decode cX10_boys 18 = .ok (.istore_n 1, 1) := by decide +kernel
theorem dX10_boys_19 : decode cX10_boys 19 = .ok (.iload_n 1, 1) := by decide +kernel
theorem dX10_boys_20 : decode cX10_boys 20 = .ok (.aload_n 0, 1) := by decide +kernel
theorem dX10_boys_21 : decode cX10_boys 21 = .ok (.getfield 31, 3) := by decide +kernel
theorem dX10_boys_24 : decode cX10_boys 24 = .ok (.getfield 98, 3) := by decide +kernel
theorem dX10_boys_27 : decode cX10_boys 27 = .ok (.getfield 159, 3) := by decide +kernel
theorem dX10_boys_30 : decode cX10_boys 30 = .ok (.if_icmp .ge 31, 3) := by decide +kernel
theorem dX10_boys_61 : decode cX10_boys 61 = .ok (.aload_n 0, 1) := by decide +kernel
theorem dX10_boys_62 : decode cX10_boys 62 = .ok (.getfield 65, 3) := by decide +kernel
theorem dX10_boys_65 : decode cX10_boys 65 = .ok (.aload_n 0, 1) := by decide +kernel
theorem dX10_boys_66 : decode cX10_boys 66 = .ok (.getfield 31, 3) := by decide +kernel
theorem dX10_boys_69 : decode cX10_boys 69 = .ok (.getfield 98, 3) := by decide +kernel
theorem dX10_boys_72 : decode cX10_boys 72 = .ok (.invokevirtual 263, 3) := by decide +kernel
theorem dX10_boys_75 : decode cX10_boys 75 = .ok (.ifCond .le 7, 3) := by decide +kernel
theorem dX10_boys_82 : decode cX10_boys 82 = .ok (.iconst 3, 1) := by decide +kernel
theorem dX10_boys_83 : decode cX10_boys 83 = .ok (.ireturn, 1) := by decide +kernel
theorem dX10_boys_78 : decode cX10_boys 78 = .ok (.iconst 2, 1) := by decide +kernel
theorem dX10_boys_79 : decode cX10_boys 79 = .ok (.goto 4, 3) := by decide +kernel
theorem dX10_boys_33 : decode cX10_boys 33 = .ok (.aload_n 0, 1) := by decide +kernel
theorem dX10_boys_34 : decode cX10_boys 34 = .ok (.getfield 65, 3) := by decide +kernel
theorem dX10_boys_37 : decode cX10_boys 37 = .ok (.aload_n 0, 1) := by decide +kernel
theorem dX10_boys_38 : decode cX10_boys 38 = .ok (.getfield 31, 3) := by decide +kernel
theorem dX10_boys_41 : decode cX10_boys 41 = .ok (.getfield 98, 3) := by decide +kernel
theorem dX10_boys_44 : decode cX10_boys 44 = .ok (.iload_n 1, 1) := by decide +kernel
theorem dX10_boys_45 : decode cX10_boys 45 = .ok (.iload_n 1, 1) := by decide +kernel
theorem dX10_boys_46 : decode cX10_boys 46 = .ok (.iconst 1, 1) := by decide +kernel
theorem dX10_boys_47 : decode cX10_boys 47 = .ok (.invokevirtual 253, 3) := by decide +kernel
theorem dX10_boys_50 : decode cX10_boys 50 = .ok (.ifCond .eq 5, 3) := by decide +kernel
theorem dX10_boys_55 : decode cX10_boys 55 = .ok (.iinc 1 1, 3) := by decide +kernel
theorem dX10_boys_58 : decode cX10_boys 58 = .ok (.goto (-39), 3) := by decide +kernel
theorem dX10_boys_53 : decode cX10_boys 53 = .ok (.iconst 1, 1) := by decide +kernel
theorem dX10_boys_54 : decode cX10_boys 54 = .ok (.ireturn, 1) := by decide +kernel
theorem dX10_boys_14 : decode cX10_boys 14 = .ok (.bipush (-2), 2) := by decide +kernel
theorem dX10_boys_16 : decode cX10_boys 16 = .ok (.ireturn, 1) := by decide +kernel
theorem dX10_pairs_0 : decode cX10_pairs 0 = .ok (.aload_n 0, 1) := by decide +kernel
theorem dX10_pairs_1 : decode cX10_pairs 1 = .ok (.getfield 31, 3) := by decide +kernel
theorem dX10_pairs_4 : decode cX10_pairs 4 = .ok (.getfield 98, 3) := by decide +kernel
theorem dX10_pairs_7 : decode cX10_pairs 7 = .ok (.getfield 159, 3) := by decide +kernel
theorem dX10_pairs_10 : decode cX10_pairs 10 = .ok (.iconst 1, 1) := by decide +kernel
theorem dX10_pairs_11 : decode cX10_pairs 11 = .ok (.if_icmp .ge 8, 3) := by decide +kernel
theorem dX10_pairs_19 : decode cX10_pairs 19 = .ok (.aload_n 0, 1) := by decide +kernel
theorem dX10_pairs_20 : decode cX10_pairs 20 = .ok (.getfield 65, 3) := by decide +kernel
theorem dX10_pairs_23 : decode cX10_pairs 23 = .ok (.aload_n 0, 1) := by decide +kernel
theorem dX10_pairs_24 : decode cX10_pairs 24 = .ok (.getfield 31, 3) := by decide +kernel
theorem dX10_pairs_27 : decode cX10_pairs 27 = .ok (.getfield 98, 3) := by decide +kernel
theorem dX10_pairs_30 : decode cX10_pairs 30 = .ok (.invokevirtual 263, 3) := by decide +kernel
theorem dX10_pairs_33 : decode cX10_pairs 33 = .ok (.ireturn, 1) := by decide +kernel
theorem dX10_pairs_14 : decode cX10_pairs 14 = .ok (.bipush (-2), 2) := by decide +kernel
theorem dX10_pairs_16 : decode cX10_pairs 16 = .ok (.goto 17, 3) := by decide +kernel
theorem dX10_which_0 : decode cX10_which 0 = .ok (.aload_n 0, 1) := by decide +kernel
theorem dX10_which_1 : decode cX10_which 1 = .ok (.iload_n 1, 1) := by decide +kernel
theorem dX10_which_2 : decode cX10_which 2 = .ok (.invokevirtual 267, 3) := by decide +kernel
theorem dX10_which_5 : decode cX10_which 5 = .ok (.ifCond .eq 21, 3) := by decide +kernel
theorem dX10_which_26 : decode cX10_which 26 = .ok (.bipush (-2), 2) := by decide +kernel
theorem dX10_which_28 : decode cX10_which 28 = .ok (.ireturn, 1) := by decide +kernel
theorem dX10_which_8 : decode cX10_which 8 = .ok (.aload_n 0, 1) := by decide +kernel
theorem dX10_which_9 : decode cX10_which 9 = .ok (.getfield 72, 3) := by decide +kernel
theorem dX10_which_12 : decode cX10_which 12 = .ok (.aload_n 0, 1) := by decide +kernel
theorem dX10_which_13 : decode cX10_which 13 = .ok (.getfield 31, 3) := by decide +kernel
theorem dX10_which_16 : decode cX10_which 16 = .ok (.getfield 98, 3) := by decide +kernel
theorem dX10_which_19 : decode cX10_which 19 = .ok (.iload_n 1, 1) := by decide +kernel
theorem dX10_which_20 : decode cX10_which 20 = .ok (.invokevirtual 270, 3) := by decide +kernel
theorem dX10_which_23 : decode cX10_which 23 = .ok (.goto 5, 3) := by decide +kernel
theorem dX10_question_0 : decode cX10_question 0 = .ok (.aload_n 0, 1) := by decide +kernel
theorem dX10_question_1 : decode cX10_question 1 = .ok (.iload_n 1, 1) := by decide +kernel
theorem dX10_question_2 : decode cX10_question 2 = .ok (.invokevirtual 267, 3) := by decide +kernel
theorem dX10_question_5 : decode cX10_question 5 = .ok (.ifCond .eq 21, 3) := by decide +kernel
theorem dX10_question_26 : decode cX10_question 26 = .ok (.bipush (-2), 2) := by decide +kernel
theorem dX10_question_28 : decode cX10_question 28 = .ok (.ireturn, 1) := by decide +kernel
theorem dX10_question_8 : decode cX10_question 8 = .ok (.aload_n 0, 1) := by decide +kernel
theorem dX10_question_9 : decode cX10_question 9 = .ok (.getfield 72, 3) := by decide +kernel
theorem dX10_question_12 : decode cX10_question 12 = .ok (.aload_n 0, 1) := by decide +kernel
theorem dX10_question_13 : decode cX10_question 13 = .ok (.getfield 31, 3) := by decide +kernel
theorem dX10_question_16 : decode cX10_question 16 = .ok (.getfield 98, 3) := by decide +kernel
theorem dX10_question_19 : decode cX10_question 19 = .ok (.iload_n 1, 1) := by decide +kernel
theorem dX10_question_20 : decode cX10_question 20 = .ok (.invokevirtual 274, 3) := by decide +kernel
theorem dX10_question_23 : decode cX10_question 23 = .ok (.goto 5, 3) := by decide +kernel
theorem dX10_yes_0 : decode cX10_yes 0 = .ok (.aload_n 0, 1) := by decide +kernel
theorem dX10_yes_1 : decode cX10_yes 1 = .ok (.iload_n 1, 1) := by decide +kernel
theorem dX10_yes_2 : decode cX10_yes 2 = .ok (.invokevirtual 267, 3) := by decide +kernel
theorem dX10_yes_5 : decode cX10_yes 5 = .ok (.ifCond .eq 13, 3) := by decide +kernel
theorem dX10_yes_18 : decode cX10_yes 18 = .ok (.bipush (-2), 2) := by decide +kernel
theorem dX10_yes_20 : decode cX10_yes 20 = .ok (.ireturn, 1) := by decide +kernel
theorem dX10_yes_8 : decode cX10_yes 8 = .ok (.iload_n 2, 1) := by decide +kernel
theorem dX10_yes_9 : decode cX10_yes 9 = .ok (.ifCond .lt 9, 3) := by decide +kernel
theorem dX10_yes_12 : decode cX10_yes 12 = .ok (.iload_n 2, 1) := by decide +kernel
theorem dX10_yes_13 : decode cX10_yes 13 = .ok (.bipush 6, 2) := by decide +kernel
theorem dX10_yes_15 : decode cX10_yes 15 = .ok (.if_icmp .lt 6, 3) := by decide +kernel
theorem dX10_yes_21 : decode cX10_yes 21 = .ok (.aload_n 0, 1) := by decide +kernel
theorem dX10_yes_22 : decode cX10_yes 22 = .ok (.getfield 31, 3) := by decide +kernel
theorem dX10_yes_25 : decode cX10_yes 25 = .ok (.getfield 98, 3) := by decide +kernel
theorem dX10_yes_28 : decode cX10_yes 28 = .ok (.iload_n 1, 1) := by decide +kernel
theorem dX10_yes_29 : decode cX10_yes 29 = .ok (.iload_n 2, 1) := by decide +kernel
theorem dX10_yes_30 : decode cX10_yes 30 = .ok (.invokevirtual 277, 3) := by decide +kernel
theorem dX10_yes_33 : decode cX10_yes 33 = .ok (.ireturn, 1) := by decide +kernel
theorem dX10_list_0 : decode cX10_list 0 = .ok (.aload_n 0, 1) := by decide +kernel
theorem dX10_list_1 : decode cX10_list 1 = .ok (.iload_n 1, 1) := by decide +kernel
theorem dX10_list_2 : decode cX10_list 2 = .ok (.invokevirtual 267, 3) := by decide +kernel
theorem dX10_list_5 : decode cX10_list 5 = .ok (.ifCond .eq 21, 3) := by decide +kernel
theorem dX10_list_26 : decode cX10_list 26 = .ok (.bipush (-2), 2) := by decide +kernel
theorem dX10_list_28 : decode cX10_list 28 = .ok (.ireturn, 1) := by decide +kernel
theorem dX10_list_8 : decode cX10_list 8 = .ok (.aload_n 0, 1) := by decide +kernel
theorem dX10_list_9 : decode cX10_list 9 = .ok (.getfield 72, 3) := by decide +kernel
theorem dX10_list_12 : decode cX10_list 12 = .ok (.aload_n 0, 1) := by decide +kernel
theorem dX10_list_13 : decode cX10_list 13 = .ok (.getfield 31, 3) := by decide +kernel
theorem dX10_list_16 : decode cX10_list 16 = .ok (.getfield 98, 3) := by decide +kernel
theorem dX10_list_19 : decode cX10_list 19 = .ok (.iload_n 1, 1) := by decide +kernel
theorem dX10_list_20 : decode cX10_list 20 = .ok (.invokevirtual 280, 3) := by decide +kernel
theorem dX10_list_23 : decode cX10_list 23 = .ok (.goto 5, 3) := by decide +kernel
theorem dX10_meant_0 : decode cX10_meant 0 = .ok (.aload_n 0, 1) := by decide +kernel
theorem dX10_meant_1 : decode cX10_meant 1 = .ok (.iload_n 1, 1) := by decide +kernel
theorem dX10_meant_2 : decode cX10_meant 2 = .ok (.invokevirtual 267, 3) := by decide +kernel
theorem dX10_meant_5 : decode cX10_meant 5 = .ok (.ifCond .eq 28, 3) := by decide +kernel
theorem dX10_meant_33 : decode cX10_meant 33 = .ok (.bipush (-2), 2) := by decide +kernel
theorem dX10_meant_35 : decode cX10_meant 35 = .ok (.ireturn, 1) := by decide +kernel
theorem dX10_meant_8 : decode cX10_meant 8 = .ok (.aload_n 0, 1) := by decide +kernel
theorem dX10_meant_9 : decode cX10_meant 9 = .ok (.iload_n 2, 1) := by decide +kernel
theorem dX10_meant_10 : decode cX10_meant 10 = .ok (.invokevirtual 128, 3) := by decide +kernel
theorem dX10_meant_13 : decode cX10_meant 13 = .ok (.ifCond .eq 20, 3) := by decide +kernel
theorem dX10_meant_16 : decode cX10_meant 16 = .ok (.iload_n 1, 1) := by decide +kernel
theorem dX10_meant_17 : decode cX10_meant 17 = .ok (.iload_n 2, 1) := by decide +kernel
theorem dX10_meant_18 : decode cX10_meant 18 = .ok (.ishr, 1) := by decide +kernel
theorem dX10_meant_19 : decode cX10_meant 19 = .ok (.iconst 1, 1) := by decide +kernel
theorem dX10_meant_20 : decode cX10_meant 20 = .ok (.iand, 1) := by decide +kernel
theorem dX10_meant_21 : decode cX10_meant 21 = .ok (.ifCond .eq 12, 3) := by decide +kernel
theorem dX10_meant_24 : decode cX10_meant 24 = .ok (.iload_n 3, 1) := by decide +kernel
theorem dX10_meant_25 : decode cX10_meant 25 = .ok (.ifCond .lt 8, 3) := by decide +kernel
theorem dX10_meant_28 : decode cX10_meant 28 = .ok (.iload_n 3, 1) := by decide +kernel
theorem dX10_meant_29 : decode cX10_meant 29 = .ok (.iconst 1, 1) := by decide +kernel
theorem dX10_meant_30 : decode cX10_meant 30 = .ok (.if_icmp .le 6, 3) := by decide +kernel
theorem dX10_meant_36 : decode cX10_meant 36 = .ok (.iconst 0, 1) := by decide +kernel
theorem dX10_meant_37 : decode cX10_meant 37 = .ok (.istore 4, 2) := by decide +kernel
theorem dX10_meant_39 : decode cX10_meant 39 = .ok (.iconst 0, 1) := by decide +kernel
theorem dX10_meant_40 : decode cX10_meant 40 = .ok (.istore 5, 2) := by decide +kernel
theorem dX10_meant_42 : decode cX10_meant 42 = .ok (.iload 5, 2) := by decide +kernel
theorem dX10_meant_44 : decode cX10_meant 44 = .ok (.aload_n 0, 1) := by decide +kernel
theorem dX10_meant_45 : decode cX10_meant 45 = .ok (.getfield 31, 3) := by decide +kernel
theorem dX10_meant_48 : decode cX10_meant 48 = .ok (.getfield 98, 3) := by decide +kernel
theorem dX10_meant_51 : decode cX10_meant 51 = .ok (.getfield 283, 3) := by decide +kernel
theorem dX10_meant_54 : decode cX10_meant 54 = .ok (.if_icmp .ge 36, 3) := by decide +kernel
theorem dX10_meant_90 : decode cX10_meant 90 = .ok (.aload_n 0, 1) := by decide +kernel
theorem dX10_meant_91 : decode cX10_meant 91 = .ok (.getfield 72, 3) := by decide +kernel
theorem dX10_meant_94 : decode cX10_meant 94 = .ok (.aload_n 0, 1) := by decide +kernel
theorem dX10_meant_95 : decode cX10_meant 95 = .ok (.getfield 31, 3) := by decide +kernel
theorem dX10_meant_98 : decode cX10_meant 98 = .ok (.getfield 98, 3) := by decide +kernel
theorem dX10_meant_101 : decode cX10_meant 101 = .ok (.getfield 131, 3) := by decide +kernel
theorem dX10_meant_104 : decode cX10_meant 104 = .ok (.iload_n 2, 1) := by decide +kernel
theorem dX10_meant_105 : decode cX10_meant 105 = .ok (.iaload, 1) := by decide +kernel
theorem dX10_meant_106 : decode cX10_meant 106 = .ok (.i2l, 1) := by decide +kernel
theorem dX10_meant_107 : decode cX10_meant 107 = .ok (.iload 4, 2) := by decide +kernel
theorem dX10_meant_109 : decode cX10_meant 109 = .ok (.i2l, 1) := by decide +kernel
theorem dX10_meant_110 : decode cX10_meant 110 = .ok (.iload_n 3, 1) := by decide +kernel
theorem dX10_meant_111 : decode cX10_meant 111 = .ok (.invokevirtual 285, 3) := by decide +kernel
theorem dX10_meant_114 : decode cX10_meant 114 = .ok (.l2i, 1) := by decide +kernel
theorem dX10_meant_115 : decode cX10_meant 115 = .ok (.ireturn, 1) := by decide +kernel
theorem dX10_meant_57 : decode cX10_meant 57 = .ok (.iload_n 1, 1) := by decide +kernel
theorem dX10_meant_58 : decode cX10_meant 58 = .ok (.iload 5, 2) := by decide +kernel
theorem dX10_meant_60 : decode cX10_meant 60 = .ok (.ishr, 1) := by decide +kernel
theorem dX10_meant_61 : decode cX10_meant 61 = .ok (.iconst 1, 1) := by decide +kernel
theorem dX10_meant_62 : decode cX10_meant 62 = .ok (.iand, 1) := by decide +kernel
theorem dX10_meant_84 : decode cX10_meant 84 = .ok (.iinc 5 1, 3) := by decide +kernel
theorem dX10_meant_87 : decode cX10_meant 87 = .ok (.goto (-45), 3) := by decide +kernel
theorem dX10_meant_63 : decode cX10_meant 63 = .ok (.ifCond .eq 21, 3) := by decide +kernel
theorem dX10_meant_66 : decode cX10_meant 66 = .ok (.iload 4, 2) := by decide +kernel
theorem dX10_meant_68 : decode cX10_meant 68 = .ok (.aload_n 0, 1) := by decide +kernel
theorem dX10_meant_69 : decode cX10_meant 69 = .ok (.getfield 31, 3) := by decide +kernel
theorem dX10_meant_72 : decode cX10_meant 72 = .ok (.getfield 98, 3) := by decide +kernel
theorem dX10_meant_75 : decode cX10_meant 75 = .ok (.getfield 131, 3) := by decide +kernel
theorem dX10_meant_78 : decode cX10_meant 78 = .ok (.iload 5, 2) := by decide +kernel
theorem dX10_meant_80 : decode cX10_meant 80 = .ok (.iaload, 1) := by decide +kernel
theorem dX10_meant_81 : decode cX10_meant 81 = .ok (.iadd, 1) := by decide +kernel
theorem dX10_meant_82 : decode cX10_meant 82 = .ok (.istore 4, 2) := by decide +kernel
theorem dX10_read_0 : decode cX10_read 0 = .ok (.aload_n 0, 1) := by decide +kernel
theorem dX10_read_1 : decode cX10_read 1 = .ok (.iload_n 1, 1) := by decide +kernel
theorem dX10_read_2 : decode cX10_read 2 = .ok (.invokevirtual 128, 3) := by decide +kernel
theorem dX10_read_5 : decode cX10_read 5 = .ok (.ifCond .eq 20, 3) := by decide +kernel
theorem dX10_read_25 : decode cX10_read 25 = .ok (.ldc2_w 289, 3) := by decide +kernel
theorem dX10_read_28 : decode cX10_read 28 = .ok (.lreturn, 1) := by decide +kernel
theorem dX10_read_8 : decode cX10_read 8 = .ok (.aload_n 0, 1) := by decide +kernel
theorem dX10_read_9 : decode cX10_read 9 = .ok (.iload_n 2, 1) := by decide +kernel
theorem dX10_read_10 : decode cX10_read 10 = .ok (.invokevirtual 128, 3) := by decide +kernel
theorem dX10_read_13 : decode cX10_read 13 = .ok (.ifCond .eq 12, 3) := by decide +kernel
theorem dX10_read_16 : decode cX10_read 16 = .ok (.iload_n 3, 1) := by decide +kernel
theorem dX10_read_17 : decode cX10_read 17 = .ok (.ifCond .lt 8, 3) := by decide +kernel
theorem dX10_read_20 : decode cX10_read 20 = .ok (.iload_n 3, 1) := by decide +kernel
theorem dX10_read_21 : decode cX10_read 21 = .ok (.iconst 1, 1) := by decide +kernel
theorem dX10_read_22 : decode cX10_read 22 = .ok (.if_icmp .le 7, 3) := by decide +kernel
theorem dX10_read_29 : decode cX10_read 29 = .ok (.aload_n 0, 1) := by decide +kernel
theorem dX10_read_30 : decode cX10_read 30 = .ok (.getfield 72, 3) := by decide +kernel
theorem dX10_read_33 : decode cX10_read 33 = .ok (.aload_n 0, 1) := by decide +kernel
theorem dX10_read_34 : decode cX10_read 34 = .ok (.getfield 72, 3) := by decide +kernel
theorem dX10_read_37 : decode cX10_read 37 = .ok (.aload_n 0, 1) := by decide +kernel
theorem dX10_read_38 : decode cX10_read 38 = .ok (.getfield 31, 3) := by decide +kernel
theorem dX10_read_41 : decode cX10_read 41 = .ok (.getfield 98, 3) := by decide +kernel
theorem dX10_read_44 : decode cX10_read 44 = .ok (.iload_n 1, 1) := by decide +kernel
theorem dX10_read_45 : decode cX10_read 45 = .ok (.iload_n 2, 1) := by decide +kernel
theorem dX10_read_46 : decode cX10_read 46 = .ok (.invokevirtual 291, 3) := by decide +kernel
theorem dX10_read_49 : decode cX10_read 49 = .ok (.aload_n 0, 1) := by decide +kernel
theorem dX10_read_50 : decode cX10_read 50 = .ok (.getfield 72, 3) := by decide +kernel
theorem dX10_read_53 : decode cX10_read 53 = .ok (.aload_n 0, 1) := by decide +kernel
theorem dX10_read_54 : decode cX10_read 54 = .ok (.getfield 31, 3) := by decide +kernel
theorem dX10_read_57 : decode cX10_read 57 = .ok (.getfield 98, 3) := by decide +kernel
theorem dX10_read_60 : decode cX10_read 60 = .ok (.iload_n 2, 1) := by decide +kernel
theorem dX10_read_61 : decode cX10_read 61 = .ok (.invokevirtual 295, 3) := by decide +kernel
theorem dX10_read_64 : decode cX10_read 64 = .ok (.iload_n 3, 1) := by decide +kernel
theorem dX10_read_65 : decode cX10_read 65 = .ok (.invokevirtual 285, 3) := by decide +kernel
theorem dX10_read_68 : decode cX10_read 68 = .ok (.lreturn, 1) := by decide +kernel
theorem dX10_guess_0 : decode cX10_guess 0 = .ok (.aload_n 0, 1) := by decide +kernel
theorem dX10_guess_1 : decode cX10_guess 1 = .ok (.iload_n 1, 1) := by decide +kernel
theorem dX10_guess_2 : decode cX10_guess 2 = .ok (.invokevirtual 128, 3) := by decide +kernel
theorem dX10_guess_5 : decode cX10_guess 5 = .ok (.ifCond .ne 6, 3) := by decide +kernel
theorem dX10_guess_11 : decode cX10_guess 11 = .ok (.iconst (-1), 1) := by decide +kernel
theorem dX10_guess_12 : decode cX10_guess 12 = .ok (.istore_n 2, 1) := by decide +kernel
theorem dX10_guess_13 : decode cX10_guess 13 = .ok (.lconst 0, 1) := by decide +kernel
theorem dX10_guess_14 : decode cX10_guess 14 = .ok (.lstore_n 3, 1) := by decide +kernel
theorem dX10_guess_15 : decode cX10_guess 15 = .ok (.iconst 0, 1) := by decide +kernel
theorem dX10_guess_16 : decode cX10_guess 16 = .ok (.istore 5, 2) := by decide +kernel
theorem dX10_guess_18 : decode cX10_guess 18 = .ok (.iload 5, 2) := by decide +kernel
theorem dX10_guess_20 : decode cX10_guess 20 = .ok (.aload_n 0, 1) := by decide +kernel
theorem dX10_guess_21 : decode cX10_guess 21 = .ok (.getfield 31, 3) := by decide +kernel
theorem dX10_guess_24 : decode cX10_guess 24 = .ok (.getfield 98, 3) := by decide +kernel
theorem dX10_guess_27 : decode cX10_guess 27 = .ok (.getfield 283, 3) := by decide +kernel
theorem dX10_guess_30 : decode cX10_guess 30 = .ok (.if_icmp .ge 41, 3) := by decide +kernel
theorem dX10_guess_71 : decode cX10_guess 71 = .ok (.iload_n 2, 1) := by decide +kernel
theorem dX10_guess_72 : decode cX10_guess 72 = .ok (.ireturn, 1) := by decide +kernel
theorem dX10_guess_33 : decode cX10_guess 33 = .ok (.aload_n 0, 1) := by decide +kernel
theorem dX10_guess_34 : decode cX10_guess 34 = .ok (.getfield 72, 3) := by decide +kernel
theorem dX10_guess_37 : decode cX10_guess 37 = .ok (.aload_n 0, 1) := by decide +kernel
theorem dX10_guess_38 : decode cX10_guess 38 = .ok (.getfield 31, 3) := by decide +kernel
theorem dX10_guess_41 : decode cX10_guess 41 = .ok (.getfield 98, 3) := by decide +kernel
theorem dX10_guess_44 : decode cX10_guess 44 = .ok (.iload 5, 2) := by decide +kernel
theorem dX10_guess_46 : decode cX10_guess 46 = .ok (.iload_n 1, 1) := by decide +kernel
theorem dX10_guess_47 : decode cX10_guess 47 = .ok (.invokevirtual 291, 3) := by decide +kernel
theorem dX10_guess_50 : decode cX10_guess 50 = .ok (.lstore 6, 2) := by decide +kernel
theorem dX10_guess_52 : decode cX10_guess 52 = .ok (.lload 6, 2) := by decide +kernel
theorem dX10_guess_54 : decode cX10_guess 54 = .ok (.lload_n 3, 1) := by decide +kernel
theorem dX10_guess_55 : decode cX10_guess 55 = .ok (.lcmp, 1) := by decide +kernel
theorem dX10_guess_65 : decode cX10_guess 65 = .ok (.iinc 5 1, 3) := by decide +kernel
theorem dX10_guess_68 : decode cX10_guess 68 = .ok (.goto (-50), 3) := by decide +kernel
theorem dX10_guess_56 : decode cX10_guess 56 = .ok (.ifCond .le 9, 3) := by decide +kernel
theorem dX10_guess_59 : decode cX10_guess 59 = .ok (.lload 6, 2) := by decide +kernel
theorem dX10_guess_61 : decode cX10_guess 61 = .ok (.lstore_n 3, 1) := by decide +kernel
theorem dX10_guess_62 : decode cX10_guess 62 = .ok (.iload 5, 2) := by decide +kernel
theorem dX10_guess_64 : decode cX10_guess 64 = .ok (.istore_n 2, 1) := by decide +kernel
theorem dX10_guess_8 : decode cX10_guess 8 = .ok (.bipush (-2), 2) := by decide +kernel
theorem dX10_guess_10 : decode cX10_guess 10 = .ok (.ireturn, 1) := by decide +kernel
theorem dX10_right_0 : decode cX10_right 0 = .ok (.aload_n 0, 1) := by decide +kernel
theorem dX10_right_1 : decode cX10_right 1 = .ok (.getfield 31, 3) := by decide +kernel
theorem dX10_right_4 : decode cX10_right 4 = .ok (.getfield 98, 3) := by decide +kernel
theorem dX10_right_7 : decode cX10_right 7 = .ok (.getfield 283, 3) := by decide +kernel
theorem dX10_right_10 : decode cX10_right 10 = .ok (.iconst 1, 1) := by decide +kernel
theorem dX10_right_11 : decode cX10_right 11 = .ok (.if_icmp .lt 12, 3) := by decide +kernel
theorem dX10_right_23 : decode cX10_right 23 = .ok (.ldc2_w 289, 3) := by decide +kernel
theorem dX10_right_26 : decode cX10_right 26 = .ok (.lreturn, 1) := by decide +kernel
theorem dX10_right_14 : decode cX10_right 14 = .ok (.iload_n 1, 1) := by decide +kernel
theorem dX10_right_15 : decode cX10_right 15 = .ok (.ifCond .lt 8, 3) := by decide +kernel
theorem dX10_right_18 : decode cX10_right 18 = .ok (.iload_n 1, 1) := by decide +kernel
theorem dX10_right_19 : decode cX10_right 19 = .ok (.iconst 1, 1) := by decide +kernel
theorem dX10_right_20 : decode cX10_right 20 = .ok (.if_icmp .le 7, 3) := by decide +kernel
theorem dX10_right_27 : decode cX10_right 27 = .ok (.lconst 0, 1) := by decide +kernel
theorem dX10_right_28 : decode cX10_right 28 = .ok (.lstore_n 2, 1) := by decide +kernel
theorem dX10_right_29 : decode cX10_right 29 = .ok (.lconst 0, 1) := by decide +kernel
theorem dX10_right_30 : decode cX10_right 30 = .ok (.lstore 4, 2) := by decide +kernel
theorem dX10_right_32 : decode cX10_right 32 = .ok (.iconst 0, 1) := by decide +kernel
theorem dX10_right_33 : decode cX10_right 33 = .ok (.istore 6, 2) := by decide +kernel
theorem dX10_right_35 : decode cX10_right 35 = .ok (.iload 6, 2) := by decide +kernel
theorem dX10_right_37 : decode cX10_right 37 = .ok (.aload_n 0, 1) := by decide +kernel
theorem dX10_right_38 : decode cX10_right 38 = .ok (.getfield 31, 3) := by decide +kernel
theorem dX10_right_41 : decode cX10_right 41 = .ok (.getfield 98, 3) := by decide +kernel
theorem dX10_right_44 : decode cX10_right 44 = .ok (.getfield 283, 3) := by decide +kernel
theorem dX10_right_47 : decode cX10_right 47 = .ok (.if_icmp .ge 51, 3) := by decide +kernel
theorem dX10_right_98 : decode cX10_right 98 = .ok (.aload_n 0, 1) := by decide +kernel
theorem dX10_right_99 : decode cX10_right 99 = .ok (.getfield 72, 3) := by decide +kernel
theorem dX10_right_102 : decode cX10_right 102 = .ok (.lload_n 2, 1) := by decide +kernel
theorem dX10_right_103 : decode cX10_right 103 = .ok (.lload 4, 2) := by decide +kernel
theorem dX10_right_105 : decode cX10_right 105 = .ok (.iload_n 1, 1) := by decide +kernel
theorem dX10_right_106 : decode cX10_right 106 = .ok (.invokevirtual 285, 3) := by decide +kernel
theorem dX10_right_109 : decode cX10_right 109 = .ok (.lreturn, 1) := by decide +kernel
theorem dX10_right_50 : decode cX10_right 50 = .ok (.lload_n 2, 1) := by decide +kernel
theorem dX10_right_51 : decode cX10_right 51 = .ok (.aload_n 0, 1) := by decide +kernel
theorem dX10_right_52 : decode cX10_right 52 = .ok (.getfield 72, 3) := by decide +kernel
theorem dX10_right_55 : decode cX10_right 55 = .ok (.aload_n 0, 1) := by decide +kernel
theorem dX10_right_56 : decode cX10_right 56 = .ok (.getfield 31, 3) := by decide +kernel
theorem dX10_right_59 : decode cX10_right 59 = .ok (.getfield 98, 3) := by decide +kernel
theorem dX10_right_62 : decode cX10_right 62 = .ok (.iload 6, 2) := by decide +kernel
theorem dX10_right_64 : decode cX10_right 64 = .ok (.iload 6, 2) := by decide +kernel
theorem dX10_right_66 : decode cX10_right 66 = .ok (.invokevirtual 291, 3) := by decide +kernel
theorem dX10_right_69 : decode cX10_right 69 = .ok (.ladd, 1) := by decide +kernel
theorem dX10_right_70 : decode cX10_right 70 = .ok (.lstore_n 2, 1) := by decide +kernel
theorem dX10_right_71 : decode cX10_right 71 = .ok (.lload 4, 2) := by decide +kernel
theorem dX10_right_73 : decode cX10_right 73 = .ok (.aload_n 0, 1) := by decide +kernel
theorem dX10_right_74 : decode cX10_right 74 = .ok (.getfield 72, 3) := by decide +kernel
theorem dX10_right_77 : decode cX10_right 77 = .ok (.aload_n 0, 1) := by decide +kernel
theorem dX10_right_78 : decode cX10_right 78 = .ok (.getfield 31, 3) := by decide +kernel
theorem dX10_right_81 : decode cX10_right 81 = .ok (.getfield 98, 3) := by decide +kernel
theorem dX10_right_84 : decode cX10_right 84 = .ok (.iload 6, 2) := by decide +kernel
theorem dX10_right_86 : decode cX10_right 86 = .ok (.invokevirtual 295, 3) := by decide +kernel
theorem dX10_right_89 : decode cX10_right 89 = .ok (.ladd, 1) := by decide +kernel
theorem dX10_right_90 : decode cX10_right 90 = .ok (.lstore 4, 2) := by decide +kernel
theorem dX10_right_92 : decode cX10_right 92 = .ok (.iinc 6 1, 3) := by decide +kernel
theorem dX10_right_95 : decode cX10_right 95 = .ok (.goto (-60), 3) := by decide +kernel
theorem dX10_tell_0 : decode cX10_tell 0 = .ok (.aload_n 0, 1) := by decide +kernel
theorem dX10_tell_1 : decode cX10_tell 1 = .ok (.iload_n 1, 1) := by decide +kernel
theorem dX10_tell_2 : decode cX10_tell 2 = .ok (.invokevirtual 120, 3) := by decide +kernel
theorem dX10_tell_5 : decode cX10_tell 5 = .ok (.ifCond .eq 24, 3) := by decide +kernel
theorem dX10_tell_29 : decode cX10_tell 29 = .ok (.bipush (-2), 2) := by decide +kernel
theorem dX10_tell_31 : decode cX10_tell 31 = .ok (.ireturn, 1) := by decide +kernel
theorem dX10_tell_8 : decode cX10_tell 8 = .ok (.iload_n 2, 1) := by decide +kernel
theorem dX10_tell_9 : decode cX10_tell 9 = .ok (.ifCond .lt 20, 3) := by decide +kernel
theorem dX10_tell_12 : decode cX10_tell 12 = .ok (.iload_n 2, 1) := by decide +kernel
theorem dX10_tell_13 : decode cX10_tell 13 = .ok (.iconst 2, 1) := by decide +kernel
theorem dX10_tell_14 : decode cX10_tell 14 = .ok (.if_icmp .gt 15, 3) := by decide +kernel
theorem dX10_tell_17 : decode cX10_tell 17 = .ok (.iload_n 3, 1) := by decide +kernel
theorem dX10_tell_18 : decode cX10_tell 18 = .ok (.ifCond .lt 11, 3) := by decide +kernel
theorem dX10_tell_21 : decode cX10_tell 21 = .ok (.iload_n 3, 1) := by decide +kernel
theorem dX10_tell_22 : decode cX10_tell 22 = .ok (.iload_n 2, 1) := by decide +kernel
theorem dX10_tell_23 : decode cX10_tell 23 = .ok (.invokestatic 321, 3) := by decide +kernel
theorem dX10_tell_26 : decode cX10_tell 26 = .ok (.if_icmp .le 6, 3) := by decide +kernel
theorem dX10_tell_32 : decode cX10_tell 32 = .ok (.aload_n 0, 1) := by decide +kernel
theorem dX10_tell_33 : decode cX10_tell 33 = .ok (.getfield 31, 3) := by decide +kernel
theorem dX10_tell_36 : decode cX10_tell 36 = .ok (.getfield 105, 3) := by decide +kernel
theorem dX10_tell_39 : decode cX10_tell 39 = .ok (.ifCond .le 6, 3) := by decide +kernel
theorem dX10_tell_45 : decode cX10_tell 45 = .ok (.aload_n 0, 1) := by decide +kernel
theorem dX10_tell_46 : decode cX10_tell 46 = .ok (.getfield 31, 3) := by decide +kernel
theorem dX10_tell_49 : decode cX10_tell 49 = .ok (.getfield 98, 3) := by decide +kernel
theorem dX10_tell_52 : decode cX10_tell 52 = .ok (.iload_n 2, 1) := by decide +kernel
theorem dX10_tell_53 : decode cX10_tell 53 = .ok (.invokevirtual 124, 3) := by decide +kernel
theorem dX10_tell_56 : decode cX10_tell 56 = .ok (.astore 4, 2) := by decide +kernel
theorem dX10_tell_58 : decode cX10_tell 58 = .ok (.aload 4, 2) := by decide +kernel
theorem dX10_tell_60 : decode cX10_tell 60 = .ok (.iload_n 1, 1) := by decide +kernel
theorem dX10_tell_61 : decode cX10_tell 61 = .ok (.iaload, 1) := by decide +kernel
theorem dX10_tell_62 : decode cX10_tell 62 = .ok (.istore 5, 2) := by decide +kernel
theorem dX10_tell_64 : decode cX10_tell 64 = .ok (.aload 4, 2) := by decide +kernel
theorem dX10_tell_66 : decode cX10_tell 66 = .ok (.iload_n 1, 1) := by decide +kernel
theorem dX10_tell_67 : decode cX10_tell 67 = .ok (.iload_n 3, 1) := by decide +kernel
theorem dX10_tell_68 : decode cX10_tell 68 = .ok (.iastore, 1) := by decide +kernel
theorem dX10_tell_69 : decode cX10_tell 69 = .ok (.aload_n 0, 1) := by decide +kernel
theorem dX10_tell_70 : decode cX10_tell 70 = .ok (.invokevirtual 108, 3) := by decide +kernel
theorem dX10_tell_73 : decode cX10_tell 73 = .ok (.iload 5, 2) := by decide +kernel
theorem dX10_tell_75 : decode cX10_tell 75 = .ok (.ireturn, 1) := by decide +kernel
theorem dX10_tell_42 : decode cX10_tell 42 = .ok (.bipush (-5), 2) := by decide +kernel
theorem dX10_tell_44 : decode cX10_tell 44 = .ok (.ireturn, 1) := by decide +kernel
theorem dX10_shut_0 : decode cX10_shut 0 = .ok (.aload_n 0, 1) := by decide +kernel
theorem dX10_shut_1 : decode cX10_shut 1 = .ok (.iload_n 1, 1) := by decide +kernel
theorem dX10_shut_2 : decode cX10_shut 2 = .ok (.invokevirtual 120, 3) := by decide +kernel
theorem dX10_shut_5 : decode cX10_shut 5 = .ok (.ifCond .eq 25, 3) := by decide +kernel
theorem dX10_shut_30 : decode cX10_shut 30 = .ok (.bipush (-2), 2) := by decide +kernel
theorem dX10_shut_32 : decode cX10_shut 32 = .ok (.ireturn, 1) := by decide +kernel
theorem dX10_shut_8 : decode cX10_shut 8 = .ok (.aload_n 0, 1) := by decide +kernel
theorem dX10_shut_9 : decode cX10_shut 9 = .ok (.iload_n 2, 1) := by decide +kernel
theorem dX10_shut_10 : decode cX10_shut 10 = .ok (.invokevirtual 120, 3) := by decide +kernel
theorem dX10_shut_13 : decode cX10_shut 13 = .ok (.ifCond .eq 17, 3) := by decide +kernel
theorem dX10_shut_16 : decode cX10_shut 16 = .ok (.iload_n 1, 1) := by decide +kernel
theorem dX10_shut_17 : decode cX10_shut 17 = .ok (.iload_n 2, 1) := by decide +kernel
theorem dX10_shut_18 : decode cX10_shut 18 = .ok (.if_icmp .eq 12, 3) := by decide +kernel
theorem dX10_shut_21 : decode cX10_shut 21 = .ok (.iload_n 3, 1) := by decide +kernel
theorem dX10_shut_22 : decode cX10_shut 22 = .ok (.ifCond .lt 8, 3) := by decide +kernel
theorem dX10_shut_25 : decode cX10_shut 25 = .ok (.iload_n 3, 1) := by decide +kernel
theorem dX10_shut_26 : decode cX10_shut 26 = .ok (.iconst 1, 1) := by decide +kernel
theorem dX10_shut_27 : decode cX10_shut 27 = .ok (.if_icmp .le 6, 3) := by decide +kernel
theorem dX10_shut_33 : decode cX10_shut 33 = .ok (.aload_n 0, 1) := by decide +kernel
theorem dX10_shut_34 : decode cX10_shut 34 = .ok (.getfield 31, 3) := by decide +kernel
theorem dX10_shut_37 : decode cX10_shut 37 = .ok (.getfield 105, 3) := by decide +kernel
theorem dX10_shut_40 : decode cX10_shut 40 = .ok (.ifCond .le 6, 3) := by decide +kernel
theorem dX10_shut_46 : decode cX10_shut 46 = .ok (.aload_n 0, 1) := by decide +kernel
theorem dX10_shut_47 : decode cX10_shut 47 = .ok (.getfield 31, 3) := by decide +kernel
theorem dX10_shut_50 : decode cX10_shut 50 = .ok (.getfield 98, 3) := by decide +kernel
theorem dX10_shut_53 : decode cX10_shut 53 = .ok (.iload_n 1, 1) := by decide +kernel
theorem dX10_shut_54 : decode cX10_shut 54 = .ok (.iload_n 2, 1) := by decide +kernel
theorem dX10_shut_55 : decode cX10_shut 55 = .ok (.invokevirtual 324, 3) := by decide +kernel
theorem dX10_shut_58 : decode cX10_shut 58 = .ok (.istore 4, 2) := by decide +kernel
theorem dX10_shut_60 : decode cX10_shut 60 = .ok (.iload_n 3, 1) := by decide +kernel
theorem dX10_shut_61 : decode cX10_shut 61 = .ok (.iconst 1, 1) := by decide +kernel
theorem dX10_shut_92 : decode cX10_shut 92 = .ok (.iload 4, 2) := by decide +kernel
theorem dX10_shut_94 : decode cX10_shut 94 = .ok (.ifCond .eq 7, 3) := by decide +kernel
theorem dX10_shut_101 : decode cX10_shut 101 = .ok (.iconst 0, 1) := by decide +kernel
theorem dX10_shut_102 : decode cX10_shut 102 = .ok (.ireturn, 1) := by decide +kernel
theorem dX10_shut_97 : decode cX10_shut 97 = .ok (.iconst 1, 1) := by decide +kernel
theorem dX10_shut_98 : decode cX10_shut 98 = .ok (.goto 4, 3) := by decide +kernel
theorem dX10_shut_62 : decode cX10_shut 62 = .ok (.if_icmp .ne 18, 3) := by decide +kernel
theorem dX10_shut_80 : decode cX10_shut 80 = .ok (.aload_n 0, 1) := by decide +kernel
theorem dX10_shut_81 : decode cX10_shut 81 = .ok (.getfield 31, 3) := by decide +kernel
theorem dX10_shut_84 : decode cX10_shut 84 = .ok (.getfield 98, 3) := by decide +kernel
theorem dX10_shut_87 : decode cX10_shut 87 = .ok (.iload_n 1, 1) := by decide +kernel
theorem dX10_shut_88 : decode cX10_shut 88 = .ok (.iload_n 2, 1) := by decide +kernel
theorem dX10_shut_89 : decode cX10_shut 89 = .ok (.invokevirtual 332, 3) := by decide +kernel
theorem dX10_shut_65 : decode cX10_shut 65 = .ok (.aload_n 0, 1) := by decide +kernel
theorem dX10_shut_66 : decode cX10_shut 66 = .ok (.getfield 31, 3) := by decide +kernel
theorem dX10_shut_69 : decode cX10_shut 69 = .ok (.getfield 98, 3) := by decide +kernel
theorem dX10_shut_72 : decode cX10_shut 72 = .ok (.iload_n 1, 1) := by decide +kernel
theorem dX10_shut_73 : decode cX10_shut 73 = .ok (.iload_n 2, 1) := by decide +kernel
theorem dX10_shut_74 : decode cX10_shut 74 = .ok (.invokevirtual 328, 3) := by decide +kernel
theorem dX10_shut_77 : decode cX10_shut 77 = .ok (.goto 15, 3) := by decide +kernel
theorem dX10_shut_43 : decode cX10_shut 43 = .ok (.bipush (-5), 2) := by decide +kernel
theorem dX10_shut_45 : decode cX10_shut 45 = .ok (.ireturn, 1) := by decide +kernel
theorem dX10_count_0 : decode cX10_count 0 = .ok (.iload_n 1, 1) := by decide +kernel
theorem dX10_count_1 : decode cX10_count 1 = .ok (.tableswitch 127 0 7 #[47, 58, 69, 80, 95, 106, 114, 122], 47) := by decide +kernel
theorem dX10_count_128 : decode cX10_count 128 = .ok (.iconst (-1), 1) := by decide +kernel
theorem dX10_count_129 : decode cX10_count 129 = .ok (.ireturn, 1) := by decide +kernel
theorem dX10_count_48 : decode cX10_count 48 = .ok (.aload_n 0, 1) := by decide +kernel
theorem dX10_count_49 : decode cX10_count 49 = .ok (.getfield 31, 3) := by decide +kernel
theorem dX10_count_52 : decode cX10_count 52 = .ok (.getfield 98, 3) := by decide +kernel
theorem dX10_count_55 : decode cX10_count 55 = .ok (.getfield 159, 3) := by decide +kernel
theorem dX10_count_58 : decode cX10_count 58 = .ok (.ireturn, 1) := by decide +kernel
theorem dX10_count_59 : decode cX10_count 59 = .ok (.aload_n 0, 1) := by decide +kernel
theorem dX10_count_60 : decode cX10_count 60 = .ok (.getfield 31, 3) := by decide +kernel
theorem dX10_count_63 : decode cX10_count 63 = .ok (.getfield 98, 3) := by decide +kernel
theorem dX10_count_66 : decode cX10_count 66 = .ok (.invokevirtual 335, 3) := by decide +kernel
theorem dX10_count_69 : decode cX10_count 69 = .ok (.ireturn, 1) := by decide +kernel
theorem dX10_count_70 : decode cX10_count 70 = .ok (.aload_n 0, 1) := by decide +kernel
theorem dX10_count_71 : decode cX10_count 71 = .ok (.getfield 31, 3) := by decide +kernel
theorem dX10_count_74 : decode cX10_count 74 = .ok (.getfield 98, 3) := by decide +kernel
theorem dX10_count_77 : decode cX10_count 77 = .ok (.getfield 283, 3) := by decide +kernel
theorem dX10_count_80 : decode cX10_count 80 = .ok (.ireturn, 1) := by decide +kernel
theorem dX10_count_81 : decode cX10_count 81 = .ok (.aload_n 0, 1) := by decide +kernel
theorem dX10_count_82 : decode cX10_count 82 = .ok (.aload_n 0, 1) := by decide +kernel
theorem dX10_count_83 : decode cX10_count 83 = .ok (.getfield 31, 3) := by decide +kernel
theorem dX10_count_86 : decode cX10_count 86 = .ok (.getfield 98, 3) := by decide +kernel
theorem dX10_count_89 : decode cX10_count 89 = .ok (.invokevirtual 238, 3) := by decide +kernel
theorem dX10_count_92 : decode cX10_count 92 = .ok (.invokevirtual 247, 3) := by decide +kernel
theorem dX10_count_95 : decode cX10_count 95 = .ok (.ireturn, 1) := by decide +kernel
theorem dX10_count_96 : decode cX10_count 96 = .ok (.aload_n 0, 1) := by decide +kernel
theorem dX10_count_97 : decode cX10_count 97 = .ok (.getfield 31, 3) := by decide +kernel
theorem dX10_count_100 : decode cX10_count 100 = .ok (.getfield 98, 3) := by decide +kernel
theorem dX10_count_103 : decode cX10_count 103 = .ok (.getfield 111, 3) := by decide +kernel
theorem dX10_count_106 : decode cX10_count 106 = .ok (.ireturn, 1) := by decide +kernel
theorem dX10_count_107 : decode cX10_count 107 = .ok (.aload_n 0, 1) := by decide +kernel
theorem dX10_count_108 : decode cX10_count 108 = .ok (.getfield 20, 3) := by decide +kernel
theorem dX10_count_111 : decode cX10_count 111 = .ok (.getfield 84, 3) := by decide +kernel
theorem dX10_count_114 : decode cX10_count 114 = .ok (.ireturn, 1) := by decide +kernel
theorem dX10_count_115 : decode cX10_count 115 = .ok (.aload_n 0, 1) := by decide +kernel
theorem dX10_count_116 : decode cX10_count 116 = .ok (.getfield 31, 3) := by decide +kernel
theorem dX10_count_119 : decode cX10_count 119 = .ok (.getfield 105, 3) := by decide +kernel
theorem dX10_count_122 : decode cX10_count 122 = .ok (.ireturn, 1) := by decide +kernel
theorem dX10_count_123 : decode cX10_count 123 = .ok (.aload_n 0, 1) := by decide +kernel
theorem dX10_count_124 : decode cX10_count 124 = .ok (.invokevirtual 338, 3) := by decide +kernel
theorem dX10_count_127 : decode cX10_count 127 = .ok (.ireturn, 1) := by decide +kernel
theorem dX10_image_0 : decode cX10_image 0 = .ok (.iload_n 1, 1) := by decide +kernel
theorem dX10_image_1 : decode cX10_image 1 = .ok (.ifCond .lt 8, 3) := by decide +kernel
theorem dX10_image_4 : decode cX10_image 4 = .ok (.iload_n 1, 1) := by decide +kernel
theorem dX10_image_5 : decode cX10_image 5 = .ok (.iconst 3, 1) := by decide +kernel
theorem dX10_image_6 : decode cX10_image 6 = .ok (.if_icmp .lt 6, 3) := by decide +kernel
theorem dX10_image_12 : decode cX10_image 12 = .ok (.aload_n 0, 1) := by decide +kernel
theorem dX10_image_13 : decode cX10_image 13 = .ok (.getfield 35, 3) := by decide +kernel
theorem dX10_image_16 : decode cX10_image 16 = .ok (.iload_n 1, 1) := by decide +kernel
theorem dX10_image_17 : decode cX10_image 17 = .ok (.aaload, 1) := by decide +kernel
theorem dX10_image_18 : decode cX10_image 18 = .ok (.aload_n 0, 1) := by decide +kernel
theorem dX10_image_19 : decode cX10_image 19 = .ok (.getfield 31, 3) := by decide +kernel
theorem dX10_image_22 : decode cX10_image 22 = .ok (.invokevirtual 341, 3) := by decide +kernel
theorem dX10_image_25 : decode cX10_image 25 = .ok (.aload_n 0, 1) := by decide +kernel
theorem dX10_image_26 : decode cX10_image 26 = .ok (.getfield 35, 3) := by decide +kernel
theorem dX10_image_29 : decode cX10_image 29 = .ok (.iload_n 1, 1) := by decide +kernel
theorem dX10_image_30 : decode cX10_image 30 = .ok (.aaload, 1) := by decide +kernel
theorem dX10_image_31 : decode cX10_image 31 = .ok (.iconst 1, 1) := by decide +kernel
theorem dX10_image_32 : decode cX10_image 32 = .ok (.putfield 344, 3) := by decide +kernel
theorem dX10_image_35 : decode cX10_image 35 = .ok (.iconst 0, 1) := by decide +kernel
theorem dX10_image_36 : decode cX10_image 36 = .ok (.ireturn, 1) := by decide +kernel
theorem dX10_back_0 : decode cX10_back 0 = .ok (.iload_n 1, 1) := by decide +kernel
theorem dX10_back_1 : decode cX10_back 1 = .ok (.ifCond .lt 8, 3) := by decide +kernel
theorem dX10_back_4 : decode cX10_back 4 = .ok (.iload_n 1, 1) := by decide +kernel
theorem dX10_back_5 : decode cX10_back 5 = .ok (.iconst 3, 1) := by decide +kernel
theorem dX10_back_6 : decode cX10_back 6 = .ok (.if_icmp .lt 6, 3) := by decide +kernel
theorem dX10_back_12 : decode cX10_back 12 = .ok (.aload_n 0, 1) := by decide +kernel
theorem dX10_back_13 : decode cX10_back 13 = .ok (.getfield 35, 3) := by decide +kernel
theorem dX10_back_16 : decode cX10_back 16 = .ok (.iload_n 1, 1) := by decide +kernel
theorem dX10_back_17 : decode cX10_back 17 = .ok (.aaload, 1) := by decide +kernel
theorem dX10_back_18 : decode cX10_back 18 = .ok (.getfield 344, 3) := by decide +kernel
theorem dX10_back_21 : decode cX10_back 21 = .ok (.ifCond .ne 6, 3) := by decide +kernel
theorem dX10_back_27 : decode cX10_back 27 = .ok (.aload_n 0, 1) := by decide +kernel
theorem dX10_back_28 : decode cX10_back 28 = .ok (.getfield 31, 3) := by decide +kernel
theorem dX10_back_31 : decode cX10_back 31 = .ok (.aload_n 0, 1) := by decide +kernel
theorem dX10_back_32 : decode cX10_back 32 = .ok (.getfield 35, 3) := by decide +kernel
theorem dX10_back_35 : decode cX10_back 35 = .ok (.iload_n 1, 1) := by decide +kernel
theorem dX10_back_36 : decode cX10_back 36 = .ok (.aaload, 1) := by decide +kernel
theorem dX10_back_37 : decode cX10_back 37 = .ok (.invokevirtual 341, 3) := by decide +kernel
theorem dX10_back_40 : decode cX10_back 40 = .ok (.aload_n 0, 1) := by decide +kernel
theorem dX10_back_41 : decode cX10_back 41 = .ok (.invokevirtual 108, 3) := by decide +kernel
theorem dX10_back_44 : decode cX10_back 44 = .ok (.iconst 0, 1) := by decide +kernel
theorem dX10_back_45 : decode cX10_back 45 = .ok (.ireturn, 1) := by decide +kernel
theorem dX10_back_24 : decode cX10_back 24 = .ok (.bipush (-6), 2) := by decide +kernel
theorem dX10_back_26 : decode cX10_back 26 = .ok (.ireturn, 1) := by decide +kernel
theorem dX10_image_9 : decode cX10_image 9 = .ok (.bipush (-2), 2) := by decide +kernel
theorem dX10_image_11 : decode cX10_image 11 = .ok (.ireturn, 1) := by decide +kernel
theorem dX10_back_9 : decode cX10_back 9 = .ok (.bipush (-2), 2) := by decide +kernel
theorem dX10_back_11 : decode cX10_back 11 = .ok (.ireturn, 1) := by decide +kernel
theorem dX10_row_0 : decode cX10_row 0 = .ok (.aload_n 0, 1) := by decide +kernel
theorem dX10_row_1 : decode cX10_row 1 = .ok (.iload_n 1, 1) := by decide +kernel
theorem dX10_row_2 : decode cX10_row 2 = .ok (.invokevirtual 348, 3) := by decide +kernel
theorem dX10_row_5 : decode cX10_row 5 = .ok (.ifCond .eq 18, 3) := by decide +kernel
theorem dX10_row_23 : decode cX10_row 23 = .ok (.bipush (-2), 2) := by decide +kernel
theorem dX10_row_25 : decode cX10_row 25 = .ok (.ireturn, 1) := by decide +kernel
theorem dX10_row_8 : decode cX10_row 8 = .ok (.iload_n 2, 1) := by decide +kernel
theorem dX10_row_9 : decode cX10_row 9 = .ok (.ifCond .lt 14, 3) := by decide +kernel
theorem dX10_row_12 : decode cX10_row 12 = .ok (.iload_n 2, 1) := by decide +kernel
theorem dX10_row_13 : decode cX10_row 13 = .ok (.iconst 3, 1) := by decide +kernel
theorem dX10_row_14 : decode cX10_row 14 = .ok (.if_icmp .gt 9, 3) := by decide +kernel
theorem dX10_row_17 : decode cX10_row 17 = .ok (.iload_n 3, 1) := by decide +kernel
theorem dX10_row_18 : decode cX10_row 18 = .ok (.bipush 60, 2) := by decide +kernel
theorem dX10_row_20 : decode cX10_row 20 = .ok (.if_icmp .le 6, 3) := by decide +kernel
theorem dX10_row_26 : decode cX10_row 26 = .ok (.iload_n 3, 1) := by decide +kernel
theorem dX10_row_27 : decode cX10_row 27 = .ok (.ifCond .ge 6, 3) := by decide +kernel
theorem dX10_row_33 : decode cX10_row 33 = .ok (.aload_n 0, 1) := by decide +kernel
theorem dX10_row_34 : decode cX10_row 34 = .ok (.getfield 41, 3) := by decide +kernel
theorem dX10_row_37 : decode cX10_row 37 = .ok (.iload_n 1, 1) := by decide +kernel
theorem dX10_row_38 : decode cX10_row 38 = .ok (.aaload, 1) := by decide +kernel
theorem dX10_row_39 : decode cX10_row 39 = .ok (.iload_n 2, 1) := by decide +kernel
theorem dX10_row_40 : decode cX10_row 40 = .ok (.iload_n 3, 1) := by decide +kernel
theorem dX10_row_41 : decode cX10_row 41 = .ok (.invokevirtual 351, 3) := by decide +kernel
theorem dX10_row_44 : decode cX10_row 44 = .ok (.iconst 0, 1) := by decide +kernel
theorem dX10_row_45 : decode cX10_row 45 = .ok (.ireturn, 1) := by decide +kernel
theorem dX10_row_30 : decode cX10_row 30 = .ok (.bipush (-3), 2) := by decide +kernel
theorem dX10_row_32 : decode cX10_row 32 = .ok (.ireturn, 1) := by decide +kernel
theorem dX10_write_0 : decode cX10_write 0 = .ok (.aload_n 0, 1) := by decide +kernel
theorem dX10_write_1 : decode cX10_write 1 = .ok (.iload_n 1, 1) := by decide +kernel
theorem dX10_write_2 : decode cX10_write 2 = .ok (.invokevirtual 348, 3) := by decide +kernel
theorem dX10_write_5 : decode cX10_write 5 = .ok (.ifCond .ne 6, 3) := by decide +kernel
theorem dX10_write_11 : decode cX10_write 11 = .ok (.aload_n 0, 1) := by decide +kernel
theorem dX10_write_12 : decode cX10_write 12 = .ok (.getfield 41, 3) := by decide +kernel
theorem dX10_write_15 : decode cX10_write 15 = .ok (.iload_n 1, 1) := by decide +kernel
theorem dX10_write_16 : decode cX10_write 16 = .ok (.aaload, 1) := by decide +kernel
theorem dX10_write_17 : decode cX10_write 17 = .ok (.astore 5, 2) := by decide +kernel
theorem dX10_write_19 : decode cX10_write 19 = .ok (.aload 5, 2) := by decide +kernel
theorem dX10_write_21 : decode cX10_write 21 = .ok (.getfield 354, 3) := by decide +kernel
theorem dX10_write_24 : decode cX10_write 24 = .ok (.ifCond .ne 6, 3) := by decide +kernel
theorem dX10_write_30 : decode cX10_write 30 = .ok (.iload_n 2, 1) := by decide +kernel
theorem dX10_write_31 : decode cX10_write 31 = .ok (.ifCond .lt 12, 3) := by decide +kernel
theorem dX10_write_43 : decode cX10_write 43 = .ok (.bipush (-7), 2) := by decide +kernel
theorem dX10_write_45 : decode cX10_write 45 = .ok (.ireturn, 1) := by decide +kernel
theorem dX10_write_34 : decode cX10_write 34 = .ok (.iload_n 2, 1) := by decide +kernel
theorem dX10_write_35 : decode cX10_write 35 = .ok (.aload 5, 2) := by decide +kernel
theorem dX10_write_37 : decode cX10_write 37 = .ok (.getfield 194, 3) := by decide +kernel
theorem dX10_write_40 : decode cX10_write 40 = .ok (.if_icmp .lt 6, 3) := by decide +kernel
theorem dX10_write_46 : decode cX10_write 46 = .ok (.aload 5, 2) := by decide +kernel
theorem dX10_write_48 : decode cX10_write 48 = .ok (.getfield 357, 3) := by decide +kernel
theorem dX10_write_51 : decode cX10_write 51 = .ok (.iload_n 2, 1) := by decide +kernel
theorem dX10_write_52 : decode cX10_write 52 = .ok (.aload 5, 2) := by decide +kernel
theorem dX10_write_54 : decode cX10_write 54 = .ok (.lload_n 3, 1) := by decide +kernel
theorem dX10_write_55 : decode cX10_write 55 = .ok (.invokevirtual 361, 3) := by decide +kernel
theorem dX10_write_58 : decode cX10_write 58 = .ok (.lastore, 1) := by decide +kernel
theorem dX10_write_59 : decode cX10_write 59 = .ok (.iconst 0, 1) := by decide +kernel
theorem dX10_write_60 : decode cX10_write 60 = .ok (.ireturn, 1) := by decide +kernel
theorem dX10_write_27 : decode cX10_write 27 = .ok (.bipush (-6), 2) := by decide +kernel
theorem dX10_write_29 : decode cX10_write 29 = .ok (.ireturn, 1) := by decide +kernel
theorem dX10_write_8 : decode cX10_write 8 = .ok (.bipush (-2), 2) := by decide +kernel
theorem dX10_write_10 : decode cX10_write 10 = .ok (.ireturn, 1) := by decide +kernel
theorem dX10_paste_0 : decode cX10_paste 0 = .ok (.aload_n 0, 1) := by decide +kernel
theorem dX10_paste_1 : decode cX10_paste 1 = .ok (.iload_n 1, 1) := by decide +kernel
theorem dX10_paste_2 : decode cX10_paste 2 = .ok (.invokevirtual 348, 3) := by decide +kernel
theorem dX10_paste_5 : decode cX10_paste 5 = .ok (.ifCond .eq 11, 3) := by decide +kernel
theorem dX10_paste_16 : decode cX10_paste 16 = .ok (.bipush (-2), 2) := by decide +kernel
theorem dX10_paste_18 : decode cX10_paste 18 = .ok (.ireturn, 1) := by decide +kernel
theorem dX10_paste_8 : decode cX10_paste 8 = .ok (.aload_n 0, 1) := by decide +kernel
theorem dX10_paste_9 : decode cX10_paste 9 = .ok (.iload_n 3, 1) := by decide +kernel
theorem dX10_paste_10 : decode cX10_paste 10 = .ok (.invokevirtual 348, 3) := by decide +kernel
theorem dX10_paste_13 : decode cX10_paste 13 = .ok (.ifCond .ne 6, 3) := by decide +kernel
theorem dX10_paste_19 : decode cX10_paste 19 = .ok (.aload_n 0, 1) := by decide +kernel
theorem dX10_paste_20 : decode cX10_paste 20 = .ok (.getfield 41, 3) := by decide +kernel
theorem dX10_paste_23 : decode cX10_paste 23 = .ok (.iload_n 1, 1) := by decide +kernel
theorem dX10_paste_24 : decode cX10_paste 24 = .ok (.aaload, 1) := by decide +kernel
theorem dX10_paste_25 : decode cX10_paste 25 = .ok (.astore 6, 2) := by decide +kernel
theorem dX10_paste_27 : decode cX10_paste 27 = .ok (.aload_n 0, 1) := by decide +kernel
theorem dX10_paste_28 : decode cX10_paste 28 = .ok (.getfield 41, 3) := by decide +kernel
theorem dX10_paste_31 : decode cX10_paste 31 = .ok (.iload_n 3, 1) := by decide +kernel
theorem dX10_paste_32 : decode cX10_paste 32 = .ok (.aaload, 1) := by decide +kernel
theorem dX10_paste_33 : decode cX10_paste 33 = .ok (.astore 7, 2) := by decide +kernel
theorem dX10_paste_35 : decode cX10_paste 35 = .ok (.aload 6, 2) := by decide +kernel
theorem dX10_paste_37 : decode cX10_paste 37 = .ok (.getfield 354, 3) := by decide +kernel
theorem dX10_paste_40 : decode cX10_paste 40 = .ok (.ifCond .eq 11, 3) := by decide +kernel
theorem dX10_paste_51 : decode cX10_paste 51 = .ok (.bipush (-6), 2) := by decide +kernel
theorem dX10_paste_53 : decode cX10_paste 53 = .ok (.ireturn, 1) := by decide +kernel
theorem dX10_paste_43 : decode cX10_paste 43 = .ok (.aload 7, 2) := by decide +kernel
theorem dX10_paste_45 : decode cX10_paste 45 = .ok (.getfield 354, 3) := by decide +kernel
theorem dX10_paste_48 : decode cX10_paste 48 = .ok (.ifCond .ne 6, 3) := by decide +kernel
theorem dX10_paste_54 : decode cX10_paste 54 = .ok (.aload 6, 2) := by decide +kernel
theorem dX10_paste_56 : decode cX10_paste 56 = .ok (.getfield 365, 3) := by decide +kernel
theorem dX10_paste_59 : decode cX10_paste 59 = .ok (.aload 7, 2) := by decide +kernel
theorem dX10_paste_61 : decode cX10_paste 61 = .ok (.getfield 365, 3) := by decide +kernel
theorem dX10_paste_64 : decode cX10_paste 64 = .ok (.if_icmp .eq 6, 3) := by decide +kernel
theorem dX10_paste_70 : decode cX10_paste 70 = .ok (.aload 6, 2) := by decide +kernel
theorem dX10_paste_72 : decode cX10_paste 72 = .ok (.iload_n 2, 1) := by decide +kernel
theorem dX10_paste_73 : decode cX10_paste 73 = .ok (.iload 5, 2) := by decide +kernel
theorem dX10_paste_75 : decode cX10_paste 75 = .ok (.invokevirtual 368, 3) := by decide +kernel
theorem dX10_paste_78 : decode cX10_paste 78 = .ok (.ifCond .eq 15, 3) := by decide +kernel
theorem dX10_paste_93 : decode cX10_paste 93 = .ok (.bipush (-7), 2) := by decide +kernel
theorem dX10_paste_95 : decode cX10_paste 95 = .ok (.ireturn, 1) := by decide +kernel
theorem dX10_paste_81 : decode cX10_paste 81 = .ok (.aload 7, 2) := by decide +kernel
theorem dX10_paste_83 : decode cX10_paste 83 = .ok (.iload 4, 2) := by decide +kernel
theorem dX10_paste_85 : decode cX10_paste 85 = .ok (.iload 5, 2) := by decide +kernel
theorem dX10_paste_87 : decode cX10_paste 87 = .ok (.invokevirtual 368, 3) := by decide +kernel
theorem dX10_paste_90 : decode cX10_paste 90 = .ok (.ifCond .ne 6, 3) := by decide +kernel
theorem dX10_paste_96 : decode cX10_paste 96 = .ok (.aload 6, 2) := by decide +kernel
theorem dX10_paste_98 : decode cX10_paste 98 = .ok (.getfield 357, 3) := by decide +kernel
theorem dX10_paste_101 : decode cX10_paste 101 = .ok (.iload_n 2, 1) := by decide +kernel
theorem dX10_paste_102 : decode cX10_paste 102 = .ok (.aload 7, 2) := by decide +kernel
theorem dX10_paste_104 : decode cX10_paste 104 = .ok (.getfield 357, 3) := by decide +kernel
theorem dX10_paste_107 : decode cX10_paste 107 = .ok (.iload 4, 2) := by decide +kernel
theorem dX10_paste_109 : decode cX10_paste 109 = .ok (.iload 5, 2) := by decide +kernel
theorem dX10_paste_111 : decode cX10_paste 111 = .ok (.invokestatic 371, 3) := by decide +kernel
theorem dX10_paste_114 : decode cX10_paste 114 = .ok (.iconst 0, 1) := by decide +kernel
theorem dX10_paste_115 : decode cX10_paste 115 = .ok (.ireturn, 1) := by decide +kernel
theorem dX10_paste_67 : decode cX10_paste 67 = .ok (.bipush (-8), 2) := by decide +kernel
theorem dX10_paste_69 : decode cX10_paste 69 = .ok (.ireturn, 1) := by decide +kernel
theorem dJ7_fill_d0a16_0 : decode cJ7_fill_d0a16 0 = .ok (.iconst 0, 1) := by decide +kernel
theorem dJ7_fill_d0a16_1 : decode cJ7_fill_d0a16 1 = .ok (.istore_n 3, 1) := by decide +kernel
theorem dJ7_fill_d0a16_2 : decode cJ7_fill_d0a16 2 = .ok (.aload_n 0, 1) := by decide +kernel
theorem dJ7_fill_d0a16_3 : decode cJ7_fill_d0a16 3 = .ok (.arraylength, 1) := by decide +kernel
theorem dJ7_fill_d0a16_4 : decode cJ7_fill_d0a16 4 = .ok (.istore 4, 2) := by decide +kernel
theorem dJ7_fill_d0a16_6 : decode cJ7_fill_d0a16 6 = .ok (.iload_n 3, 1) := by decide +kernel
theorem dJ7_fill_d0a16_7 : decode cJ7_fill_d0a16 7 = .ok (.iload 4, 2) := by decide +kernel
theorem dJ7_fill_d0a16_9 : decode cJ7_fill_d0a16 9 = .ok (.if_icmp .ge 13, 3) := by decide +kernel
theorem dJ7_fill_d0a16_12 : decode cJ7_fill_d0a16 12 = .ok (.aload_n 0, 1) := by decide +kernel
theorem dJ7_fill_d0a16_13 : decode cJ7_fill_d0a16 13 = .ok (.iload_n 3, 1) := by decide +kernel
theorem dJ7_fill_d0a16_14 : decode cJ7_fill_d0a16 14 = .ok (.lload_n 1, 1) := by decide +kernel
theorem dJ7_fill_d0a16_15 : decode cJ7_fill_d0a16 15 = .ok (.lastore, 1) := by decide +kernel
theorem dJ7_fill_d0a16_16 : decode cJ7_fill_d0a16 16 = .ok (.iinc 3 1, 3) := by decide +kernel
theorem dJ7_fill_d0a16_19 : decode cJ7_fill_d0a16 19 = .ok (.goto (-13), 3) := by decide +kernel
theorem dJ7_fill_d0a16_22 : decode cJ7_fill_d0a16 22 = .ok (.return_, 1) := by decide +kernel
theorem dJ7_fill_53178_0 : decode cJ7_fill_53178 0 = .ok (.iconst 0, 1) := by decide +kernel
theorem dJ7_fill_53178_1 : decode cJ7_fill_53178 1 = .ok (.istore_n 2, 1) := by decide +kernel
theorem dJ7_fill_53178_2 : decode cJ7_fill_53178 2 = .ok (.aload_n 0, 1) := by decide +kernel
theorem dJ7_fill_53178_3 : decode cJ7_fill_53178 3 = .ok (.arraylength, 1) := by decide +kernel
theorem dJ7_fill_53178_4 : decode cJ7_fill_53178 4 = .ok (.istore_n 3, 1) := by decide +kernel
theorem dJ7_fill_53178_5 : decode cJ7_fill_53178 5 = .ok (.iload_n 2, 1) := by decide +kernel
theorem dJ7_fill_53178_6 : decode cJ7_fill_53178 6 = .ok (.iload_n 3, 1) := by decide +kernel
theorem dJ7_fill_53178_7 : decode cJ7_fill_53178 7 = .ok (.if_icmp .ge 13, 3) := by decide +kernel
theorem dJ7_fill_53178_10 : decode cJ7_fill_53178 10 = .ok (.aload_n 0, 1) := by decide +kernel
theorem dJ7_fill_53178_11 : decode cJ7_fill_53178 11 = .ok (.iload_n 2, 1) := by decide +kernel
theorem dJ7_fill_53178_12 : decode cJ7_fill_53178 12 = .ok (.iload_n 1, 1) := by decide +kernel
theorem dJ7_fill_53178_13 : decode cJ7_fill_53178 13 = .ok (.iastore, 1) := by decide +kernel
theorem dJ7_fill_53178_14 : decode cJ7_fill_53178 14 = .ok (.iinc 2 1, 3) := by decide +kernel
theorem dJ7_fill_53178_17 : decode cJ7_fill_53178 17 = .ok (.goto (-12), 3) := by decide +kernel
theorem dJ7_fill_53178_20 : decode cJ7_fill_53178 20 = .ok (.return_, 1) := by decide +kernel
theorem dX11_in_0 : decode cX11_in 0 = .ok (.lload_n 0, 1) := by decide +kernel
theorem dX11_in_1 : decode cX11_in 1 = .ok (.lload_n 2, 1) := by decide +kernel
theorem dX11_in_2 : decode cX11_in 2 = .ok (.lcmp, 1) := by decide +kernel
theorem dX11_in_3 : decode cX11_in 3 = .ok (.ifCond .lt 14, 3) := by decide +kernel
theorem dX11_in_17 : decode cX11_in 17 = .ok (.iconst 0, 1) := by decide +kernel
theorem dX11_in_18 : decode cX11_in 18 = .ok (.ireturn, 1) := by decide +kernel
theorem dX11_in_6 : decode cX11_in 6 = .ok (.lload_n 0, 1) := by decide +kernel
theorem dX11_in_7 : decode cX11_in 7 = .ok (.lload 4, 2) := by decide +kernel
theorem dX11_in_9 : decode cX11_in 9 = .ok (.lcmp, 1) := by decide +kernel
theorem dX11_in_10 : decode cX11_in 10 = .ok (.ifCond .gt 7, 3) := by decide +kernel
theorem dX11_in_13 : decode cX11_in 13 = .ok (.iconst 1, 1) := by decide +kernel
theorem dX11_in_14 : decode cX11_in 14 = .ok (.goto 4, 3) := by decide +kernel
theorem dX11_bits_0 : decode cX11_bits 0 = .ok (.iconst 0, 1) := by decide +kernel
theorem dX11_bits_1 : decode cX11_bits 1 = .ok (.istore_n 1, 1) := by decide +kernel
theorem dX11_bits_2 : decode cX11_bits 2 = .ok (.iconst 0, 1) := by decide +kernel
theorem dX11_bits_3 : decode cX11_bits 3 = .ok (.istore_n 2, 1) := by decide +kernel
theorem dX11_bits_4 : decode cX11_bits 4 = .ok (.iload_n 2, 1) := by decide +kernel
theorem dX11_bits_5 : decode cX11_bits 5 = .ok (.bipush 8, 2) := by decide +kernel
theorem dX11_bits_7 : decode cX11_bits 7 = .ok (.if_icmp .ge 17, 3) := by decide +kernel
theorem dX11_bits_24 : decode cX11_bits 24 = .ok (.iload_n 1, 1) := by decide +kernel
theorem dX11_bits_25 : decode cX11_bits 25 = .ok (.ireturn, 1) := by decide +kernel
theorem dX11_bits_10 : decode cX11_bits 10 = .ok (.iload_n 1, 1) := by decide +kernel
theorem dX11_bits_11 : decode cX11_bits 11 = .ok (.iload_n 0, 1) := by decide +kernel
theorem dX11_bits_12 : decode cX11_bits 12 = .ok (.iload_n 2, 1) := by decide +kernel
theorem dX11_bits_13 : decode cX11_bits 13 = .ok (.ishr, 1) := by decide +kernel
theorem dX11_bits_14 : decode cX11_bits 14 = .ok (.iconst 1, 1) := by decide +kernel
theorem dX11_bits_15 : decode cX11_bits 15 = .ok (.iand, 1) := by decide +kernel
theorem dX11_bits_16 : decode cX11_bits 16 = .ok (.iadd, 1) := by decide +kernel
theorem dX11_bits_17 : decode cX11_bits 17 = .ok (.istore_n 1, 1) := by decide +kernel
theorem dX11_bits_18 : decode cX11_bits 18 = .ok (.iinc 2 1, 3) := by decide +kernel
theorem dX11_bits_21 : decode cX11_bits 21 = .ok (.goto (-17), 3) := by decide +kernel
theorem dX11_bit_0 : decode cX11_bit 0 = .ok (.iload_n 0, 1) := by decide +kernel
theorem dX11_bit_1 : decode cX11_bit 1 = .ok (.iload_n 1, 1) := by decide +kernel
theorem dX11_bit_2 : decode cX11_bit 2 = .ok (.ishr, 1) := by decide +kernel
theorem dX11_bit_3 : decode cX11_bit 3 = .ok (.iconst 1, 1) := by decide +kernel
theorem dX11_bit_4 : decode cX11_bit 4 = .ok (.iand, 1) := by decide +kernel
theorem dX11_bit_5 : decode cX11_bit 5 = .ok (.ireturn, 1) := by decide +kernel
theorem dX11_image_0 : decode cX11_image 0 = .ok (.iload_n 1, 1) := by decide +kernel
theorem dX11_image_1 : decode cX11_image 1 = .ok (.i2l, 1) := by decide +kernel
theorem dX11_image_2 : decode cX11_image 2 = .ok (.lconst 0, 1) := by decide +kernel
theorem dX11_image_3 : decode cX11_image 3 = .ok (.ldc2_w 77, 3) := by decide +kernel
theorem dX11_image_6 : decode cX11_image 6 = .ok (.invokestatic 79, 3) := by decide +kernel
theorem dX11_image_9 : decode cX11_image 9 = .ok (.ifCond .ne 6, 3) := by decide +kernel
theorem dX11_image_15 : decode cX11_image 15 = .ok (.iconst 0, 1) := by decide +kernel
theorem dX11_image_16 : decode cX11_image 16 = .ok (.istore_n 2, 1) := by decide +kernel
theorem dX11_image_17 : decode cX11_image 17 = .ok (.iload_n 2, 1) := by decide +kernel
theorem dX11_image_18 : decode cX11_image 18 = .ok (.sipush 144, 3) := by decide +kernel
theorem dX11_image_21 : decode cX11_image 21 = .ok (.if_icmp .ge 27, 3) := by decide +kernel
theorem dX11_image_48 : decode cX11_image 48 = .ok (.aload_n 0, 1) := by decide +kernel
theorem dX11_image_49 : decode cX11_image 49 = .ok (.getfield 16, 3) := by decide +kernel
theorem dX11_image_52 : decode cX11_image 52 = .ok (.iload_n 1, 1) := by decide +kernel
theorem dX11_image_53 : decode cX11_image 53 = .ok (.iconst 1, 1) := by decide +kernel
theorem dX11_image_54 : decode cX11_image 54 = .ok (.bastore, 1) := by decide +kernel
theorem dX11_image_55 : decode cX11_image 55 = .ok (.iconst 0, 1) := by decide +kernel
theorem dX11_image_56 : decode cX11_image 56 = .ok (.ireturn, 1) := by decide +kernel
theorem dX11_image_24 : decode cX11_image 24 = .ok (.aload_n 0, 1) := by decide +kernel
theorem dX11_image_25 : decode cX11_image 25 = .ok (.getfield 13, 3) := by decide +kernel
theorem dX11_image_28 : decode cX11_image 28 = .ok (.sipush 144, 3) := by decide +kernel
theorem dX11_image_31 : decode cX11_image 31 = .ok (.iload_n 1, 1) := by decide +kernel
theorem dX11_image_32 : decode cX11_image 32 = .ok (.imul, 1) := by decide +kernel
theorem dX11_image_33 : decode cX11_image 33 = .ok (.iload_n 2, 1) := by decide +kernel
theorem dX11_image_34 : decode cX11_image 34 = .ok (.iadd, 1) := by decide +kernel
theorem dX11_image_35 : decode cX11_image 35 = .ok (.aload_n 0, 1) := by decide +kernel
theorem dX11_image_36 : decode cX11_image 36 = .ok (.getfield 9, 3) := by decide +kernel
theorem dX11_image_39 : decode cX11_image 39 = .ok (.iload_n 2, 1) := by decide +kernel
theorem dX11_image_40 : decode cX11_image 40 = .ok (.iaload, 1) := by decide +kernel
theorem dX11_image_41 : decode cX11_image 41 = .ok (.iastore, 1) := by decide +kernel
theorem dX11_image_42 : decode cX11_image 42 = .ok (.iinc 2 1, 3) := by decide +kernel
theorem dX11_image_45 : decode cX11_image 45 = .ok (.goto (-28), 3) := by decide +kernel
theorem dX11_image_12 : decode cX11_image 12 = .ok (.bipush (-2), 2) := by decide +kernel
theorem dX11_image_14 : decode cX11_image 14 = .ok (.ireturn, 1) := by decide +kernel
theorem dX11_back_0 : decode cX11_back 0 = .ok (.iload_n 1, 1) := by decide +kernel
theorem dX11_back_1 : decode cX11_back 1 = .ok (.i2l, 1) := by decide +kernel
theorem dX11_back_2 : decode cX11_back 2 = .ok (.lconst 0, 1) := by decide +kernel
theorem dX11_back_3 : decode cX11_back 3 = .ok (.ldc2_w 77, 3) := by decide +kernel
theorem dX11_back_6 : decode cX11_back 6 = .ok (.invokestatic 79, 3) := by decide +kernel
theorem dX11_back_9 : decode cX11_back 9 = .ok (.ifCond .ne 6, 3) := by decide +kernel
theorem dX11_back_15 : decode cX11_back 15 = .ok (.aload_n 0, 1) := by decide +kernel
theorem dX11_back_16 : decode cX11_back 16 = .ok (.getfield 16, 3) := by decide +kernel
theorem dX11_back_19 : decode cX11_back 19 = .ok (.iload_n 1, 1) := by decide +kernel
theorem dX11_back_20 : decode cX11_back 20 = .ok (.baload, 1) := by decide +kernel
theorem dX11_back_21 : decode cX11_back 21 = .ok (.ifCond .ne 6, 3) := by decide +kernel
theorem dX11_back_27 : decode cX11_back 27 = .ok (.iconst 0, 1) := by decide +kernel
theorem dX11_back_28 : decode cX11_back 28 = .ok (.istore_n 2, 1) := by decide +kernel
theorem dX11_back_29 : decode cX11_back 29 = .ok (.iload_n 2, 1) := by decide +kernel
theorem dX11_back_30 : decode cX11_back 30 = .ok (.sipush 144, 3) := by decide +kernel
theorem dX11_back_33 : decode cX11_back 33 = .ok (.if_icmp .ge 27, 3) := by decide +kernel
theorem dX11_back_60 : decode cX11_back 60 = .ok (.iconst 0, 1) := by decide +kernel
theorem dX11_back_61 : decode cX11_back 61 = .ok (.ireturn, 1) := by decide +kernel
theorem dX11_back_36 : decode cX11_back 36 = .ok (.aload_n 0, 1) := by decide +kernel
theorem dX11_back_37 : decode cX11_back 37 = .ok (.getfield 9, 3) := by decide +kernel
theorem dX11_back_40 : decode cX11_back 40 = .ok (.iload_n 2, 1) := by decide +kernel
theorem dX11_back_41 : decode cX11_back 41 = .ok (.aload_n 0, 1) := by decide +kernel
theorem dX11_back_42 : decode cX11_back 42 = .ok (.getfield 13, 3) := by decide +kernel
theorem dX11_back_45 : decode cX11_back 45 = .ok (.sipush 144, 3) := by decide +kernel
theorem dX11_back_48 : decode cX11_back 48 = .ok (.iload_n 1, 1) := by decide +kernel
theorem dX11_back_49 : decode cX11_back 49 = .ok (.imul, 1) := by decide +kernel
theorem dX11_back_50 : decode cX11_back 50 = .ok (.iload_n 2, 1) := by decide +kernel
theorem dX11_back_51 : decode cX11_back 51 = .ok (.iadd, 1) := by decide +kernel
theorem dX11_back_52 : decode cX11_back 52 = .ok (.iaload, 1) := by decide +kernel
theorem dX11_back_53 : decode cX11_back 53 = .ok (.iastore, 1) := by decide +kernel
theorem dX11_back_54 : decode cX11_back 54 = .ok (.iinc 2 1, 3) := by decide +kernel
theorem dX11_back_57 : decode cX11_back 57 = .ok (.goto (-28), 3) := by decide +kernel
theorem dX11_back_24 : decode cX11_back 24 = .ok (.bipush (-6), 2) := by decide +kernel
theorem dX11_back_26 : decode cX11_back 26 = .ok (.ireturn, 1) := by decide +kernel
theorem dX11_back_12 : decode cX11_back 12 = .ok (.bipush (-2), 2) := by decide +kernel
theorem dX11_back_14 : decode cX11_back 14 = .ok (.ireturn, 1) := by decide +kernel
theorem dX11_isHouse_0 : decode cX11_isHouse 0 = .ok (.aload_n 0, 1) := by decide +kernel
theorem dX11_isHouse_1 : decode cX11_isHouse 1 = .ok (.getfield 9, 3) := by decide +kernel
theorem dX11_isHouse_4 : decode cX11_isHouse 4 = .ok (.bipush 6, 2) := by decide +kernel
theorem dX11_isHouse_6 : decode cX11_isHouse 6 = .ok (.iaload, 1) := by decide +kernel
theorem dX11_isHouse_7 : decode cX11_isHouse 7 = .ok (.ifCond .le 7, 3) := by decide +kernel
theorem dX11_isHouse_14 : decode cX11_isHouse 14 = .ok (.iconst 0, 1) := by decide +kernel
theorem dX11_isHouse_15 : decode cX11_isHouse 15 = .ok (.ireturn, 1) := by decide +kernel
theorem dX11_isHouse_10 : decode cX11_isHouse 10 = .ok (.iconst 1, 1) := by decide +kernel
theorem dX11_isHouse_11 : decode cX11_isHouse 11 = .ok (.goto 4, 3) := by decide +kernel
theorem dX11_isRoom_0 : decode cX11_isRoom 0 = .ok (.lload_n 1, 1) := by decide +kernel
theorem dX11_isRoom_1 : decode cX11_isRoom 1 = .ok (.lconst 0, 1) := by decide +kernel
theorem dX11_isRoom_2 : decode cX11_isRoom 2 = .ok (.aload_n 0, 1) := by decide +kernel
theorem dX11_isRoom_3 : decode cX11_isRoom 3 = .ok (.getfield 9, 3) := by decide +kernel
theorem dX11_isRoom_6 : decode cX11_isRoom 6 = .ok (.iconst 4, 1) := by decide +kernel
theorem dX11_isRoom_7 : decode cX11_isRoom 7 = .ok (.iaload, 1) := by decide +kernel
theorem dX11_isRoom_8 : decode cX11_isRoom 8 = .ok (.iconst 1, 1) := by decide +kernel
theorem dX11_isRoom_9 : decode cX11_isRoom 9 = .ok (.isub, 1) := by decide +kernel
theorem dX11_isRoom_10 : decode cX11_isRoom 10 = .ok (.i2l, 1) := by decide +kernel
theorem dX11_isRoom_11 : decode cX11_isRoom 11 = .ok (.invokestatic 79, 3) := by decide +kernel
theorem dX11_isRoom_14 : decode cX11_isRoom 14 = .ok (.ireturn, 1) := by decide +kernel
theorem dX11_isRoomOrNone_0 : decode cX11_isRoomOrNone 0 = .ok (.aload_n 0, 1) := by decide +kernel
theorem dX11_isRoomOrNone_1 : decode cX11_isRoomOrNone 1 = .ok (.invokevirtual 83, 3) := by decide +kernel
theorem dX11_isRoomOrNone_15 : decode cX11_isRoomOrNone 15 = .ok (.aload_n 0, 1) := by decide +kernel
theorem dX11_isRoomOrNone_16 : decode cX11_isRoomOrNone 16 = .ok (.lload_n 1, 1) := by decide +kernel
theorem dX11_isRoomOrNone_17 : decode cX11_isRoomOrNone 17 = .ok (.invokevirtual 89, 3) := by decide +kernel
theorem dX11_isRoomOrNone_20 : decode cX11_isRoomOrNone 20 = .ok (.ifCond .eq 7, 3) := by decide +kernel
theorem dX11_isRoomOrNone_27 : decode cX11_isRoomOrNone 27 = .ok (.iconst 0, 1) := by decide +kernel
theorem dX11_isRoomOrNone_28 : decode cX11_isRoomOrNone 28 = .ok (.ireturn, 1) := by decide +kernel
theorem dX11_isRoomOrNone_23 : decode cX11_isRoomOrNone 23 = .ok (.iconst 1, 1) := by decide +kernel
theorem dX11_isRoomOrNone_24 : decode cX11_isRoomOrNone 24 = .ok (.goto 4, 3) := by decide +kernel
theorem dX11_isRoomOrNone_4 : decode cX11_isRoomOrNone 4 = .ok (.ifCond .eq 11, 3) := by decide +kernel
theorem dX11_isRoomOrNone_7 : decode cX11_isRoomOrNone 7 = .ok (.lload_n 1, 1) := by decide +kernel
theorem dX11_isRoomOrNone_8 : decode cX11_isRoomOrNone 8 = .ok (.ldc2_w 87, 3) := by decide +kernel
theorem dX11_isRoomOrNone_11 : decode cX11_isRoomOrNone 11 = .ok (.lcmp, 1) := by decide +kernel
theorem dX11_isRoomOrNone_12 : decode cX11_isRoomOrNone 12 = .ok (.ifCond .eq 11, 3) := by decide +kernel
theorem dX11_isMan_0 : decode cX11_isMan 0 = .ok (.iload_n 1, 1) := by decide +kernel
theorem dX11_isMan_1 : decode cX11_isMan 1 = .ok (.i2l, 1) := by decide +kernel
theorem dX11_isMan_2 : decode cX11_isMan 2 = .ok (.lconst 0, 1) := by decide +kernel
theorem dX11_isMan_3 : decode cX11_isMan 3 = .ok (.aload_n 0, 1) := by decide +kernel
theorem dX11_isMan_4 : decode cX11_isMan 4 = .ok (.getfield 9, 3) := by decide +kernel
theorem dX11_isMan_7 : decode cX11_isMan 7 = .ok (.iconst 5, 1) := by decide +kernel
theorem dX11_isMan_8 : decode cX11_isMan 8 = .ok (.iaload, 1) := by decide +kernel
theorem dX11_isMan_9 : decode cX11_isMan 9 = .ok (.iconst 1, 1) := by decide +kernel
theorem dX11_isMan_10 : decode cX11_isMan 10 = .ok (.isub, 1) := by decide +kernel
theorem dX11_isMan_11 : decode cX11_isMan 11 = .ok (.i2l, 1) := by decide +kernel
theorem dX11_isMan_12 : decode cX11_isMan 12 = .ok (.invokestatic 79, 3) := by decide +kernel
theorem dX11_isMan_15 : decode cX11_isMan 15 = .ok (.ireturn, 1) := by decide +kernel
theorem dX11_areMen_0 : decode cX11_areMen 0 = .ok (.aload_n 0, 1) := by decide +kernel
theorem dX11_areMen_1 : decode cX11_areMen 1 = .ok (.invokevirtual 83, 3) := by decide +kernel
theorem dX11_areMen_4 : decode cX11_areMen 4 = .ok (.ifCond .eq 27, 3) := by decide +kernel
theorem dX11_areMen_31 : decode cX11_areMen 31 = .ok (.iconst 0, 1) := by decide +kernel
theorem dX11_areMen_32 : decode cX11_areMen 32 = .ok (.ireturn, 1) := by decide +kernel
theorem dX11_areMen_7 : decode cX11_areMen 7 = .ok (.iload_n 1, 1) := by decide +kernel
theorem dX11_areMen_8 : decode cX11_areMen 8 = .ok (.i2l, 1) := by decide +kernel
theorem dX11_areMen_9 : decode cX11_areMen 9 = .ok (.lconst 1, 1) := by decide +kernel
theorem dX11_areMen_10 : decode cX11_areMen 10 = .ok (.iconst 1, 1) := by decide +kernel
theorem dX11_areMen_11 : decode cX11_areMen 11 = .ok (.aload_n 0, 1) := by decide +kernel
theorem dX11_areMen_12 : decode cX11_areMen 12 = .ok (.getfield 9, 3) := by decide +kernel
theorem dX11_areMen_15 : decode cX11_areMen 15 = .ok (.iconst 5, 1) := by decide +kernel
theorem dX11_areMen_16 : decode cX11_areMen 16 = .ok (.iaload, 1) := by decide +kernel
theorem dX11_areMen_17 : decode cX11_areMen 17 = .ok (.ishl, 1) := by decide +kernel
theorem dX11_areMen_18 : decode cX11_areMen 18 = .ok (.iconst 1, 1) := by decide +kernel
theorem dX11_areMen_19 : decode cX11_areMen 19 = .ok (.isub, 1) := by decide +kernel
theorem dX11_areMen_20 : decode cX11_areMen 20 = .ok (.i2l, 1) := by decide +kernel
theorem dX11_areMen_21 : decode cX11_areMen 21 = .ok (.invokestatic 79, 3) := by decide +kernel
theorem dX11_areMen_24 : decode cX11_areMen 24 = .ok (.ifCond .eq 7, 3) := by decide +kernel
theorem dX11_areMen_27 : decode cX11_areMen 27 = .ok (.iconst 1, 1) := by decide +kernel
theorem dX11_areMen_28 : decode cX11_areMen 28 = .ok (.goto 4, 3) := by decide +kernel
theorem dX11_of_0 : decode cX11_of 0 = .ok (.aload_n 0, 1) := by decide +kernel
theorem dX11_of_1 : decode cX11_of 1 = .ok (.getfield 9, 3) := by decide +kernel
theorem dX11_of_4 : decode cX11_of 4 = .ok (.bipush 8, 2) := by decide +kernel
theorem dX11_of_6 : decode cX11_of 6 = .ok (.iconst 4, 1) := by decide +kernel
theorem dX11_of_7 : decode cX11_of 7 = .ok (.iload_n 1, 1) := by decide +kernel
theorem dX11_of_8 : decode cX11_of 8 = .ok (.imul, 1) := by decide +kernel
theorem dX11_of_9 : decode cX11_of 9 = .ok (.iadd, 1) := by decide +kernel
theorem dX11_of_10 : decode cX11_of 10 = .ok (.iload_n 2, 1) := by decide +kernel
theorem dX11_of_11 : decode cX11_of 11 = .ok (.iadd, 1) := by decide +kernel
theorem dX11_of_12 : decode cX11_of 12 = .ok (.iaload, 1) := by decide +kernel
theorem dX11_of_13 : decode cX11_of 13 = .ok (.ireturn, 1) := by decide +kernel
theorem dX11_ofMan_0 : decode cX11_ofMan 0 = .ok (.aload_n 0, 1) := by decide +kernel
theorem dX11_ofMan_1 : decode cX11_ofMan 1 = .ok (.getfield 9, 3) := by decide +kernel
theorem dX11_ofMan_4 : decode cX11_ofMan 4 = .ok (.bipush 36, 2) := by decide +kernel
theorem dX11_ofMan_6 : decode cX11_ofMan 6 = .ok (.bipush 8, 2) := by decide +kernel
theorem dX11_ofMan_8 : decode cX11_ofMan 8 = .ok (.iload_n 1, 1) := by decide +kernel
theorem dX11_ofMan_9 : decode cX11_ofMan 9 = .ok (.imul, 1) := by decide +kernel
theorem dX11_ofMan_10 : decode cX11_ofMan 10 = .ok (.iadd, 1) := by decide +kernel
theorem dX11_ofMan_11 : decode cX11_ofMan 11 = .ok (.iload_n 2, 1) := by decide +kernel
theorem dX11_ofMan_12 : decode cX11_ofMan 12 = .ok (.iadd, 1) := by decide +kernel
theorem dX11_ofMan_13 : decode cX11_ofMan 13 = .ok (.iaload, 1) := by decide +kernel
theorem dX11_ofMan_14 : decode cX11_ofMan 14 = .ok (.ireturn, 1) := by decide +kernel
theorem dX11_allRooms_0 : decode cX11_allRooms 0 = .ok (.iconst 1, 1) := by decide +kernel
theorem dX11_allRooms_1 : decode cX11_allRooms 1 = .ok (.aload_n 0, 1) := by decide +kernel
theorem dX11_allRooms_2 : decode cX11_allRooms 2 = .ok (.getfield 9, 3) := by decide +kernel
theorem dX11_allRooms_5 : decode cX11_allRooms 5 = .ok (.iconst 4, 1) := by decide +kernel
theorem dX11_allRooms_6 : decode cX11_allRooms 6 = .ok (.iaload, 1) := by decide +kernel
theorem dX11_allRooms_7 : decode cX11_allRooms 7 = .ok (.ishl, 1) := by decide +kernel
theorem dX11_allRooms_8 : decode cX11_allRooms 8 = .ok (.iconst 1, 1) := by decide +kernel
theorem dX11_allRooms_9 : decode cX11_allRooms 9 = .ok (.isub, 1) := by decide +kernel
theorem dX11_allRooms_10 : decode cX11_allRooms 10 = .ok (.ireturn, 1) := by decide +kernel
theorem dX11_feed_0 : decode cX11_feed 0 = .ok (.aload_n 0, 1) := by decide +kernel
theorem dX11_feed_1 : decode cX11_feed 1 = .ok (.getfield 93, 3) := by decide +kernel
theorem dX11_feed_4 : decode cX11_feed 4 = .ok (.bipush 20, 2) := by decide +kernel
theorem dX11_feed_6 : decode cX11_feed 6 = .ok (.iadd, 1) := by decide +kernel
theorem dX11_feed_7 : decode cX11_feed 7 = .ok (.sipush 900, 3) := by decide +kernel
theorem dX11_feed_10 : decode cX11_feed 10 = .ok (.if_icmp .le 5, 3) := by decide +kernel
theorem dX11_feed_15 : decode cX11_feed 15 = .ok (.aload_n 0, 1) := by decide +kernel
theorem dX11_feed_16 : decode cX11_feed 16 = .ok (.getfield 24, 3) := by decide +kernel
theorem dX11_feed_19 : decode cX11_feed 19 = .ok (.iconst 0, 1) := by decide +kernel
theorem dX11_feed_20 : decode cX11_feed 20 = .ok (.iload_n 1, 1) := by decide +kernel
theorem dX11_feed_21 : decode cX11_feed 21 = .ok (.iastore, 1) := by decide +kernel
theorem dX11_feed_22 : decode cX11_feed 22 = .ok (.aload_n 0, 1) := by decide +kernel
theorem dX11_feed_23 : decode cX11_feed 23 = .ok (.getfield 24, 3) := by decide +kernel
theorem dX11_feed_26 : decode cX11_feed 26 = .ok (.iconst 1, 1) := by decide +kernel
theorem dX11_feed_27 : decode cX11_feed 27 = .ok (.iload_n 2, 1) := by decide +kernel
theorem dX11_feed_28 : decode cX11_feed 28 = .ok (.iastore, 1) := by decide +kernel
theorem dX11_feed_29 : decode cX11_feed 29 = .ok (.aload_n 0, 1) := by decide +kernel
theorem dX11_feed_30 : decode cX11_feed 30 = .ok (.getfield 24, 3) := by decide +kernel
theorem dX11_feed_33 : decode cX11_feed 33 = .ok (.iconst 2, 1) := by decide +kernel
theorem dX11_feed_34 : decode cX11_feed 34 = .ok (.iload_n 3, 1) := by decide +kernel
theorem dX11_feed_35 : decode cX11_feed 35 = .ok (.iastore, 1) := by decide +kernel
theorem dX11_feed_36 : decode cX11_feed 36 = .ok (.aload_n 0, 1) := by decide +kernel
theorem dX11_feed_37 : decode cX11_feed 37 = .ok (.getfield 24, 3) := by decide +kernel
theorem dX11_feed_40 : decode cX11_feed 40 = .ok (.iconst 3, 1) := by decide +kernel
theorem dX11_feed_41 : decode cX11_feed 41 = .ok (.iload 4, 2) := by decide +kernel
theorem dX11_feed_43 : decode cX11_feed 43 = .ok (.iastore, 1) := by decide +kernel
theorem dX11_feed_44 : decode cX11_feed 44 = .ok (.aload_n 0, 1) := by decide +kernel
theorem dX11_feed_45 : decode cX11_feed 45 = .ok (.getfield 24, 3) := by decide +kernel
theorem dX11_feed_48 : decode cX11_feed 48 = .ok (.iconst 4, 1) := by decide +kernel
theorem dX11_feed_49 : decode cX11_feed 49 = .ok (.iload 5, 2) := by decide +kernel
theorem dX11_feed_51 : decode cX11_feed 51 = .ok (.iastore, 1) := by decide +kernel
theorem dX11_feed_52 : decode cX11_feed 52 = .ok (.iconst 0, 1) := by decide +kernel
theorem dX11_feed_53 : decode cX11_feed 53 = .ok (.istore 6, 2) := by decide +kernel
theorem dX11_feed_55 : decode cX11_feed 55 = .ok (.iload 6, 2) := by decide +kernel
theorem dX11_feed_57 : decode cX11_feed 57 = .ok (.bipush 20, 2) := by decide +kernel
theorem dX11_feed_59 : decode cX11_feed 59 = .ok (.if_icmp .ge 42, 3) := by decide +kernel
theorem dX11_feed_101 : decode cX11_feed 101 = .ok (.aload_n 0, 1) := by decide +kernel
theorem dX11_feed_102 : decode cX11_feed 102 = .ok (.dup, 1) := by decide +kernel
theorem dX11_feed_103 : decode cX11_feed 103 = .ok (.getfield 93, 3) := by decide +kernel
theorem dX11_feed_106 : decode cX11_feed 106 = .ok (.bipush 20, 2) := by decide +kernel
theorem dX11_feed_108 : decode cX11_feed 108 = .ok (.iadd, 1) := by decide +kernel
theorem dX11_feed_109 : decode cX11_feed 109 = .ok (.putfield 93, 3) := by decide +kernel
theorem dX11_feed_112 : decode cX11_feed 112 = .ok (.aload_n 0, 1) := by decide +kernel
theorem dX11_feed_113 : decode cX11_feed 113 = .ok (.getfield 93, 3) := by decide +kernel
theorem dX11_feed_116 : decode cX11_feed 116 = .ok (.ireturn, 1) := by decide +kernel
theorem dX11_feed_62 : decode cX11_feed 62 = .ok (.aload_n 0, 1) := by decide +kernel
theorem dX11_feed_63 : decode cX11_feed 63 = .ok (.getfield 20, 3) := by decide +kernel
theorem dX11_feed_66 : decode cX11_feed 66 = .ok (.aload_n 0, 1) := by decide +kernel
theorem dX11_feed_67 : decode cX11_feed 67 = .ok (.getfield 93, 3) := by decide +kernel
theorem dX11_feed_70 : decode cX11_feed 70 = .ok (.iload 6, 2) := by decide +kernel
theorem dX11_feed_72 : decode cX11_feed 72 = .ok (.iadd, 1) := by decide +kernel
theorem dX11_feed_73 : decode cX11_feed 73 = .ok (.aload_n 0, 1) := by decide +kernel
theorem dX11_feed_74 : decode cX11_feed 74 = .ok (.getfield 24, 3) := by decide +kernel
theorem dX11_feed_77 : decode cX11_feed 77 = .ok (.iload 6, 2) := by decide +kernel
theorem dX11_feed_79 : decode cX11_feed 79 = .ok (.iconst 4, 1) := by decide +kernel
theorem dX11_feed_80 : decode cX11_feed 80 = .ok (.idiv, 1) := by decide +kernel
theorem dX11_feed_81 : decode cX11_feed 81 = .ok (.iaload, 1) := by decide +kernel
theorem dX11_feed_82 : decode cX11_feed 82 = .ok (.bipush 24, 2) := by decide +kernel
theorem dX11_feed_84 : decode cX11_feed 84 = .ok (.bipush 8, 2) := by decide +kernel
theorem dX11_feed_86 : decode cX11_feed 86 = .ok (.iload 6, 2) := by decide +kernel
theorem dX11_feed_88 : decode cX11_feed 88 = .ok (.iconst 4, 1) := by decide +kernel
theorem dX11_feed_89 : decode cX11_feed 89 = .ok (.irem, 1) := by decide +kernel
theorem dX11_feed_90 : decode cX11_feed 90 = .ok (.imul, 1) := by decide +kernel
theorem dX11_feed_91 : decode cX11_feed 91 = .ok (.isub, 1) := by decide +kernel
theorem dX11_feed_92 : decode cX11_feed 92 = .ok (.ishr, 1) := by decide +kernel
theorem dX11_feed_93 : decode cX11_feed 93 = .ok (.i2b, 1) := by decide +kernel
theorem dX11_feed_94 : decode cX11_feed 94 = .ok (.bastore, 1) := by decide +kernel
theorem dX11_feed_95 : decode cX11_feed 95 = .ok (.iinc 6 1, 3) := by decide +kernel
theorem dX11_feed_98 : decode cX11_feed 98 = .ok (.goto (-43), 3) := by decide +kernel
theorem dX11_feed_13 : decode cX11_feed 13 = .ok (.iconst (-1), 1) := by decide +kernel
theorem dX11_feed_14 : decode cX11_feed 14 = .ok (.ireturn, 1) := by decide +kernel
theorem dX11_end_0 : decode cX11_end 0 = .ok (.iload_n 1, 1) := by decide +kernel
theorem dX11_end_1 : decode cX11_end 1 = .ok (.i2l, 1) := by decide +kernel
theorem dX11_end_2 : decode cX11_end 2 = .ok (.lconst 0, 1) := by decide +kernel
theorem dX11_end_3 : decode cX11_end 3 = .ok (.aload_n 0, 1) := by decide +kernel
theorem dX11_end_4 : decode cX11_end 4 = .ok (.getfield 93, 3) := by decide +kernel
theorem dX11_end_7 : decode cX11_end 7 = .ok (.i2l, 1) := by decide +kernel
theorem dX11_end_8 : decode cX11_end 8 = .ok (.invokestatic 79, 3) := by decide +kernel
theorem dX11_end_11 : decode cX11_end 11 = .ok (.ifCond .ne 5, 3) := by decide +kernel
theorem dX11_end_16 : decode cX11_end 16 = .ok (.aload_n 0, 1) := by decide +kernel
theorem dX11_end_17 : decode cX11_end 17 = .ok (.iload_n 1, 1) := by decide +kernel
theorem dX11_end_18 : decode cX11_end 18 = .ok (.putfield 93, 3) := by decide +kernel
theorem dX11_end_21 : decode cX11_end 21 = .ok (.iload_n 1, 1) := by decide +kernel
theorem dX11_end_22 : decode cX11_end 22 = .ok (.ireturn, 1) := by decide +kernel
theorem dX11_end_14 : decode cX11_end 14 = .ok (.iconst (-1), 1) := by decide +kernel
theorem dX11_end_15 : decode cX11_end 15 = .ok (.ireturn, 1) := by decide +kernel
theorem dX11_see_0 : decode cX11_see 0 = .ok (.iload_n 1, 1) := by decide +kernel
theorem dX11_see_1 : decode cX11_see 1 = .ok (.aload_n 0, 1) := by decide +kernel
theorem dX11_see_2 : decode cX11_see 2 = .ok (.getfield 96, 3) := by decide +kernel
theorem dX11_see_5 : decode cX11_see 5 = .ok (.if_icmp .ge 16, 3) := by decide +kernel
theorem dX11_see_21 : decode cX11_see 21 = .ok (.iconst (-1), 1) := by decide +kernel
theorem dX11_see_22 : decode cX11_see 22 = .ok (.ireturn, 1) := by decide +kernel
theorem dX11_see_8 : decode cX11_see 8 = .ok (.aload_n 0, 1) := by decide +kernel
theorem dX11_see_9 : decode cX11_see 9 = .ok (.getfield 20, 3) := by decide +kernel
theorem dX11_see_12 : decode cX11_see 12 = .ok (.iload_n 1, 1) := by decide +kernel
theorem dX11_see_13 : decode cX11_see 13 = .ok (.baload, 1) := by decide +kernel
theorem dX11_see_14 : decode cX11_see 14 = .ok (.sipush 255, 3) := by decide +kernel
theorem dX11_see_17 : decode cX11_see 17 = .ok (.iand, 1) := by decide +kernel
theorem dX11_see_18 : decode cX11_see 18 = .ok (.goto 4, 3) := by decide +kernel
theorem dX11_good_0 : decode cX11_good 0 = .ok (.aload_n 0, 1) := by decide +kernel
theorem dX11_good_1 : decode cX11_good 1 = .ok (.getfield 130, 3) := by decide +kernel
theorem dX11_good_4 : decode cX11_good 4 = .ok (.ifCond .ne 7, 3) := by decide +kernel
theorem dX11_good_11 : decode cX11_good 11 = .ok (.iconst 0, 1) := by decide +kernel
theorem dX11_good_12 : decode cX11_good 12 = .ok (.ireturn, 1) := by decide +kernel
theorem dX11_good_7 : decode cX11_good 7 = .ok (.iconst 1, 1) := by decide +kernel
theorem dX11_good_8 : decode cX11_good 8 = .ok (.goto 4, 3) := by decide +kernel
theorem dX11_errs_0 : decode cX11_errs 0 = .ok (.aload_n 0, 1) := by decide +kernel
theorem dX11_errs_1 : decode cX11_errs 1 = .ok (.invokevirtual 133, 3) := by decide +kernel
theorem dX11_errs_4 : decode cX11_errs 4 = .ok (.ifCond .ne 4, 3) := by decide +kernel
theorem dX11_errs_8 : decode cX11_errs 8 = .ok (.aload_n 0, 1) := by decide +kernel
theorem dX11_errs_9 : decode cX11_errs 9 = .ok (.iload_n 1, 1) := by decide +kernel
theorem dX11_errs_10 : decode cX11_errs 10 = .ok (.putfield 130, 3) := by decide +kernel
theorem dX11_errs_13 : decode cX11_errs 13 = .ok (.aload_n 0, 1) := by decide +kernel
theorem dX11_errs_14 : decode cX11_errs 14 = .ok (.aload_n 0, 1) := by decide +kernel
theorem dX11_errs_15 : decode cX11_errs 15 = .ok (.getfield 106, 3) := by decide +kernel
theorem dX11_errs_18 : decode cX11_errs 18 = .ok (.putfield 27, 3) := by decide +kernel
theorem dX11_errs_21 : decode cX11_errs 21 = .ok (.return_, 1) := by decide +kernel
theorem dX11_errs_7 : decode cX11_errs 7 = .ok (.return_, 1) := by decide +kernel
theorem dX11_fault_0 : decode cX11_fault 0 = .ok (.iload_n 1, 1) := by decide +kernel
theorem dX11_fault_1 : decode cX11_fault 1 = .ok (.ifCond .ne 10, 3) := by decide +kernel
theorem dX11_fault_11 : decode cX11_fault 11 = .ok (.iload_n 1, 1) := by decide +kernel
theorem dX11_fault_12 : decode cX11_fault 12 = .ok (.iconst 1, 1) := by decide +kernel
theorem dX11_fault_13 : decode cX11_fault 13 = .ok (.if_icmp .ne 10, 3) := by decide +kernel
theorem dX11_fault_23 : decode cX11_fault 23 = .ok (.iconst (-1), 1) := by decide +kernel
theorem dX11_fault_24 : decode cX11_fault 24 = .ok (.ireturn, 1) := by decide +kernel
theorem dX11_fault_16 : decode cX11_fault 16 = .ok (.aload_n 0, 1) := by decide +kernel
theorem dX11_fault_17 : decode cX11_fault 17 = .ok (.getfield 27, 3) := by decide +kernel
theorem dX11_fault_20 : decode cX11_fault 20 = .ok (.goto 4, 3) := by decide +kernel
theorem dX11_fault_4 : decode cX11_fault 4 = .ok (.aload_n 0, 1) := by decide +kernel
theorem dX11_fault_5 : decode cX11_fault 5 = .ok (.getfield 130, 3) := by decide +kernel
theorem dX11_fault_8 : decode cX11_fault 8 = .ok (.goto 16, 3) := by decide +kernel
theorem dX11_room_0 : decode cX11_room 0 = .ok (.aload_n 0, 1) := by decide +kernel
theorem dX11_room_1 : decode cX11_room 1 = .ok (.iload_n 1, 1) := by decide +kernel
theorem dX11_room_2 : decode cX11_room 2 = .ok (.i2l, 1) := by decide +kernel
theorem dX11_room_3 : decode cX11_room 3 = .ok (.invokevirtual 89, 3) := by decide +kernel
theorem dX11_room_6 : decode cX11_room 6 = .ok (.ifCond .eq 24, 3) := by decide +kernel
theorem dX11_room_30 : decode cX11_room 30 = .ok (.bipush (-2), 2) := by decide +kernel
theorem dX11_room_32 : decode cX11_room 32 = .ok (.ireturn, 1) := by decide +kernel
theorem dX11_room_9 : decode cX11_room 9 = .ok (.iload_n 2, 1) := by decide +kernel
theorem dX11_room_10 : decode cX11_room 10 = .ok (.i2l, 1) := by decide +kernel
theorem dX11_room_11 : decode cX11_room 11 = .ok (.lconst 0, 1) := by decide +kernel
theorem dX11_room_12 : decode cX11_room 12 = .ok (.ldc2_w 225, 3) := by decide +kernel
theorem dX11_room_15 : decode cX11_room 15 = .ok (.invokestatic 79, 3) := by decide +kernel
theorem dX11_room_18 : decode cX11_room 18 = .ok (.ifCond .eq 12, 3) := by decide +kernel
theorem dX11_room_21 : decode cX11_room 21 = .ok (.aload_n 0, 1) := by decide +kernel
theorem dX11_room_22 : decode cX11_room 22 = .ok (.iload_n 1, 1) := by decide +kernel
theorem dX11_room_23 : decode cX11_room 23 = .ok (.iload_n 2, 1) := by decide +kernel
theorem dX11_room_24 : decode cX11_room 24 = .ok (.invokevirtual 227, 3) := by decide +kernel
theorem dX11_room_27 : decode cX11_room 27 = .ok (.goto 5, 3) := by decide +kernel
theorem dX11_man_0 : decode cX11_man 0 = .ok (.aload_n 0, 1) := by decide +kernel
theorem dX11_man_1 : decode cX11_man 1 = .ok (.iload_n 1, 1) := by decide +kernel
theorem dX11_man_2 : decode cX11_man 2 = .ok (.invokevirtual 230, 3) := by decide +kernel
theorem dX11_man_5 : decode cX11_man 5 = .ok (.ifCond .eq 22, 3) := by decide +kernel
theorem dX11_man_27 : decode cX11_man 27 = .ok (.bipush (-2), 2) := by decide +kernel
theorem dX11_man_29 : decode cX11_man 29 = .ok (.ireturn, 1) := by decide +kernel
theorem dX11_man_8 : decode cX11_man 8 = .ok (.iload_n 2, 1) := by decide +kernel
theorem dX11_man_9 : decode cX11_man 9 = .ok (.i2l, 1) := by decide +kernel
theorem dX11_man_10 : decode cX11_man 10 = .ok (.lconst 0, 1) := by decide +kernel
theorem dX11_man_11 : decode cX11_man 11 = .ok (.lconst 1, 1) := by decide +kernel
theorem dX11_man_12 : decode cX11_man 12 = .ok (.invokestatic 79, 3) := by decide +kernel
theorem dX11_man_15 : decode cX11_man 15 = .ok (.ifCond .eq 12, 3) := by decide +kernel
theorem dX11_man_18 : decode cX11_man 18 = .ok (.aload_n 0, 1) := by decide +kernel
theorem dX11_man_19 : decode cX11_man 19 = .ok (.iload_n 1, 1) := by decide +kernel
theorem dX11_man_20 : decode cX11_man 20 = .ok (.iload_n 2, 1) := by decide +kernel
theorem dX11_man_21 : decode cX11_man 21 = .ok (.invokevirtual 234, 3) := by decide +kernel
theorem dX11_man_24 : decode cX11_man 24 = .ok (.goto 5, 3) := by decide +kernel
theorem dX11_slate_0 : decode cX11_slate 0 = .ok (.aload_n 0, 1) := by decide +kernel
theorem dX11_slate_1 : decode cX11_slate 1 = .ok (.iload_n 1, 1) := by decide +kernel
theorem dX11_slate_2 : decode cX11_slate 2 = .ok (.invokevirtual 230, 3) := by decide +kernel
theorem dX11_slate_5 : decode cX11_slate 5 = .ok (.ifCond .eq 22, 3) := by decide +kernel
theorem dX11_slate_27 : decode cX11_slate 27 = .ok (.bipush (-2), 2) := by decide +kernel
theorem dX11_slate_29 : decode cX11_slate 29 = .ok (.ireturn, 1) := by decide +kernel
theorem dX11_slate_8 : decode cX11_slate 8 = .ok (.aload_n 0, 1) := by decide +kernel
theorem dX11_slate_9 : decode cX11_slate 9 = .ok (.iload_n 2, 1) := by decide +kernel
theorem dX11_slate_10 : decode cX11_slate 10 = .ok (.invokevirtual 230, 3) := by decide +kernel
theorem dX11_slate_13 : decode cX11_slate 13 = .ok (.ifCond .eq 14, 3) := by decide +kernel
theorem dX11_slate_16 : decode cX11_slate 16 = .ok (.aload_n 0, 1) := by decide +kernel
theorem dX11_slate_17 : decode cX11_slate 17 = .ok (.iload_n 1, 1) := by decide +kernel
theorem dX11_slate_18 : decode cX11_slate 18 = .ok (.iconst 2, 1) := by decide +kernel
theorem dX11_slate_19 : decode cX11_slate 19 = .ok (.iload_n 2, 1) := by decide +kernel
theorem dX11_slate_20 : decode cX11_slate 20 = .ok (.iadd, 1) := by decide +kernel
theorem dX11_slate_21 : decode cX11_slate 21 = .ok (.invokevirtual 234, 3) := by decide +kernel
theorem dX11_slate_24 : decode cX11_slate 24 = .ok (.goto 5, 3) := by decide +kernel
theorem dX11_hearsBy_0 : decode cX11_hearsBy 0 = .ok (.bipush 100, 2) := by decide +kernel
theorem dX11_hearsBy_2 : decode cX11_hearsBy 2 = .ok (.bipush 100, 2) := by decide +kernel
theorem dX11_hearsBy_4 : decode cX11_hearsBy 4 = .ok (.aload_n 0, 1) := by decide +kernel
theorem dX11_hearsBy_5 : decode cX11_hearsBy 5 = .ok (.iload_n 1, 1) := by decide +kernel
theorem dX11_hearsBy_6 : decode cX11_hearsBy 6 = .ok (.iconst 1, 1) := by decide +kernel
theorem dX11_hearsBy_7 : decode cX11_hearsBy 7 = .ok (.invokevirtual 227, 3) := by decide +kernel
theorem dX11_hearsBy_10 : decode cX11_hearsBy 10 = .ok (.isub, 1) := by decide +kernel
theorem dX11_hearsBy_11 : decode cX11_hearsBy 11 = .ok (.iload_n 2, 1) := by decide +kernel
theorem dX11_hearsBy_12 : decode cX11_hearsBy 12 = .ok (.iconst 1, 1) := by decide +kernel
theorem dX11_hearsBy_13 : decode cX11_hearsBy 13 = .ok (.iadd, 1) := by decide +kernel
theorem dX11_hearsBy_14 : decode cX11_hearsBy 14 = .ok (.idiv, 1) := by decide +kernel
theorem dX11_hearsBy_15 : decode cX11_hearsBy 15 = .ok (.isub, 1) := by decide +kernel
theorem dX11_hearsBy_16 : decode cX11_hearsBy 16 = .ok (.ireturn, 1) := by decide +kernel
theorem dX11_hears_0 : decode cX11_hears 0 = .ok (.aload_n 0, 1) := by decide +kernel
theorem dX11_hears_1 : decode cX11_hears 1 = .ok (.iload_n 1, 1) := by decide +kernel
theorem dX11_hears_2 : decode cX11_hears 2 = .ok (.i2l, 1) := by decide +kernel
theorem dX11_hears_3 : decode cX11_hears 3 = .ok (.invokevirtual 89, 3) := by decide +kernel
theorem dX11_hears_6 : decode cX11_hears 6 = .ok (.ifCond .eq 24, 3) := by decide +kernel
theorem dX11_hears_30 : decode cX11_hears 30 = .ok (.bipush (-2), 2) := by decide +kernel
theorem dX11_hears_32 : decode cX11_hears 32 = .ok (.ireturn, 1) := by decide +kernel
theorem dX11_hears_9 : decode cX11_hears 9 = .ok (.iload_n 2, 1) := by decide +kernel
theorem dX11_hears_10 : decode cX11_hears 10 = .ok (.i2l, 1) := by decide +kernel
theorem dX11_hears_11 : decode cX11_hears 11 = .ok (.lconst 0, 1) := by decide +kernel
theorem dX11_hears_12 : decode cX11_hears 12 = .ok (.ldc2_w 237, 3) := by decide +kernel
theorem dX11_hears_15 : decode cX11_hears 15 = .ok (.invokestatic 79, 3) := by decide +kernel
theorem dX11_hears_18 : decode cX11_hears 18 = .ok (.ifCond .eq 12, 3) := by decide +kernel
theorem dX11_hears_21 : decode cX11_hears 21 = .ok (.aload_n 0, 1) := by decide +kernel
theorem dX11_hears_22 : decode cX11_hears 22 = .ok (.iload_n 1, 1) := by decide +kernel
theorem dX11_hears_23 : decode cX11_hears 23 = .ok (.iload_n 2, 1) := by decide +kernel
theorem dX11_hears_24 : decode cX11_hears 24 = .ok (.invokevirtual 239, 3) := by decide +kernel
theorem dX11_hears_27 : decode cX11_hears 27 = .ok (.goto 5, 3) := by decide +kernel
theorem dX11_allSits_0 : decode cX11_allSits 0 = .ok (.iconst 0, 1) := by decide +kernel
theorem dX11_allSits_1 : decode cX11_allSits 1 = .ok (.istore_n 1, 1) := by decide +kernel
theorem dX11_allSits_2 : decode cX11_allSits 2 = .ok (.iconst 0, 1) := by decide +kernel
