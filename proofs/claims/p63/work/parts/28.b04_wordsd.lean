theorem dX11_slips_3 : decode cX11_slips 3 = .ok (.iload_n 2, 1) := by decide +kernel
theorem dX11_slips_4 : decode cX11_slips 4 = .ok (.i2l, 1) := by decide +kernel
theorem dX11_slips_5 : decode cX11_slips 5 = .ok (.invokevirtual 89, 3) := by decide +kernel
theorem dX11_slips_8 : decode cX11_slips 8 = .ok (.invokevirtual 303, 3) := by decide +kernel
theorem dX11_slips_11 : decode cX11_slips 11 = .ok (.istore_n 3, 1) := by decide +kernel
theorem dX11_slips_12 : decode cX11_slips 12 = .ok (.iload_n 3, 1) := by decide +kernel
theorem dX11_slips_13 : decode cX11_slips 13 = .ok (.ifCond .ge 5, 3) := by decide +kernel
theorem dX11_slips_18 : decode cX11_slips 18 = .ok (.aload_n 0, 1) := by decide +kernel
theorem dX11_slips_19 : decode cX11_slips 19 = .ok (.iload_n 1, 1) := by decide +kernel
theorem dX11_slips_20 : decode cX11_slips 20 = .ok (.iload_n 2, 1) := by decide +kernel
theorem dX11_slips_21 : decode cX11_slips 21 = .ok (.invokevirtual 316, 3) := by decide +kernel
theorem dX11_slips_24 : decode cX11_slips 24 = .ok (.ifCond .ne 6, 3) := by decide +kernel
theorem dX11_slips_30 : decode cX11_slips 30 = .ok (.aload_n 0, 1) := by decide +kernel
theorem dX11_slips_31 : decode cX11_slips 31 = .ok (.invokevirtual 337, 3) := by decide +kernel
theorem dX11_slips_34 : decode cX11_slips 34 = .ok (.iconst 1, 1) := by decide +kernel
theorem dX11_slips_35 : decode cX11_slips 35 = .ok (.iload_n 2, 1) := by decide +kernel
theorem dX11_slips_36 : decode cX11_slips 36 = .ok (.ishl, 1) := by decide +kernel
theorem dX11_slips_37 : decode cX11_slips 37 = .ok (.iconst (-1), 1) := by decide +kernel
theorem dX11_slips_38 : decode cX11_slips 38 = .ok (.ixor, 1) := by decide +kernel
theorem dX11_slips_39 : decode cX11_slips 39 = .ok (.iand, 1) := by decide +kernel
theorem dX11_slips_40 : decode cX11_slips 40 = .ok (.istore 4, 2) := by decide +kernel
theorem dX11_slips_42 : decode cX11_slips 42 = .ok (.iload_n 2, 1) := by decide +kernel
theorem dX11_slips_43 : decode cX11_slips 43 = .ok (.istore 5, 2) := by decide +kernel
theorem dX11_slips_45 : decode cX11_slips 45 = .ok (.iconst 0, 1) := by decide +kernel
theorem dX11_slips_46 : decode cX11_slips 46 = .ok (.istore 6, 2) := by decide +kernel
theorem dX11_slips_48 : decode cX11_slips 48 = .ok (.iload 6, 2) := by decide +kernel
theorem dX11_slips_50 : decode cX11_slips 50 = .ok (.aload_n 0, 1) := by decide +kernel
theorem dX11_slips_51 : decode cX11_slips 51 = .ok (.getfield 61, 3) := by decide +kernel
theorem dX11_slips_54 : decode cX11_slips 54 = .ok (.iload_n 1, 1) := by decide +kernel
theorem dX11_slips_55 : decode cX11_slips 55 = .ok (.iaload, 1) := by decide +kernel
theorem dX11_slips_56 : decode cX11_slips 56 = .ok (.if_icmp .ge 49, 3) := by decide +kernel
theorem dX11_slips_105 : decode cX11_slips 105 = .ok (.iload 4, 2) := by decide +kernel
theorem dX11_slips_107 : decode cX11_slips 107 = .ok (.ireturn, 1) := by decide +kernel
theorem dX11_slips_59 : decode cX11_slips 59 = .ok (.aload_n 0, 1) := by decide +kernel
theorem dX11_slips_60 : decode cX11_slips 60 = .ok (.iload_n 1, 1) := by decide +kernel
theorem dX11_slips_61 : decode cX11_slips 61 = .ok (.iload 6, 2) := by decide +kernel
theorem dX11_slips_63 : decode cX11_slips 63 = .ok (.invokevirtual 293, 3) := by decide +kernel
theorem dX11_slips_66 : decode cX11_slips 66 = .ok (.iconst (-1), 1) := by decide +kernel
theorem dX11_slips_82 : decode cX11_slips 82 = .ok (.istore 5, 2) := by decide +kernel
theorem dX11_slips_84 : decode cX11_slips 84 = .ok (.aload_n 0, 1) := by decide +kernel
theorem dX11_slips_85 : decode cX11_slips 85 = .ok (.iload 4, 2) := by decide +kernel
theorem dX11_slips_87 : decode cX11_slips 87 = .ok (.invokevirtual 330, 3) := by decide +kernel
theorem dX11_slips_90 : decode cX11_slips 90 = .ok (.iconst 1, 1) := by decide +kernel
theorem dX11_slips_91 : decode cX11_slips 91 = .ok (.iload 5, 2) := by decide +kernel
theorem dX11_slips_93 : decode cX11_slips 93 = .ok (.ishl, 1) := by decide +kernel
theorem dX11_slips_94 : decode cX11_slips 94 = .ok (.iconst (-1), 1) := by decide +kernel
theorem dX11_slips_95 : decode cX11_slips 95 = .ok (.ixor, 1) := by decide +kernel
theorem dX11_slips_96 : decode cX11_slips 96 = .ok (.iand, 1) := by decide +kernel
theorem dX11_slips_97 : decode cX11_slips 97 = .ok (.istore 4, 2) := by decide +kernel
theorem dX11_slips_99 : decode cX11_slips 99 = .ok (.iinc 6 1, 3) := by decide +kernel
theorem dX11_slips_102 : decode cX11_slips 102 = .ok (.goto (-54), 3) := by decide +kernel
theorem dX11_slips_67 : decode cX11_slips 67 = .ok (.if_icmp .ne 8, 3) := by decide +kernel
theorem dX11_slips_75 : decode cX11_slips 75 = .ok (.aload_n 0, 1) := by decide +kernel
theorem dX11_slips_76 : decode cX11_slips 76 = .ok (.iload_n 1, 1) := by decide +kernel
theorem dX11_slips_77 : decode cX11_slips 77 = .ok (.iload 6, 2) := by decide +kernel
theorem dX11_slips_79 : decode cX11_slips 79 = .ok (.invokevirtual 293, 3) := by decide +kernel
theorem dX11_slips_70 : decode cX11_slips 70 = .ok (.iload 5, 2) := by decide +kernel
theorem dX11_slips_72 : decode cX11_slips 72 = .ok (.goto 10, 3) := by decide +kernel
theorem dX11_slips_27 : decode cX11_slips 27 = .ok (.bipush (-5), 2) := by decide +kernel
theorem dX11_slips_29 : decode cX11_slips 29 = .ok (.ireturn, 1) := by decide +kernel
theorem dX11_slips_16 : decode cX11_slips 16 = .ok (.iload_n 3, 1) := by decide +kernel
theorem dX11_slips_17 : decode cX11_slips 17 = .ok (.ireturn, 1) := by decide +kernel
theorem dX11_boys_0 : decode cX11_boys 0 = .ok (.aload_n 0, 1) := by decide +kernel
theorem dX11_boys_1 : decode cX11_boys 1 = .ok (.getfield 9, 3) := by decide +kernel
theorem dX11_boys_4 : decode cX11_boys 4 = .ok (.iconst 4, 1) := by decide +kernel
theorem dX11_boys_5 : decode cX11_boys 5 = .ok (.iaload, 1) := by decide +kernel
theorem dX11_boys_6 : decode cX11_boys 6 = .ok (.ifCond .ne 6, 3) := by decide +kernel
theorem dX11_boys_12 : decode cX11_boys 12 = .ok (.iconst 0, 1) := by decide +kernel
theorem dX11_boys_13 : decode cX11_boys 13 = .ok (.istore_n 1, 1) := by decide +kernel
theorem dX11_boys_14 : decode cX11_boys 14 = .ok (.iload_n 1, 1) := by decide +kernel
theorem dX11_boys_15 : decode cX11_boys 15 = .ok (.aload_n 0, 1) := by decide +kernel
theorem dX11_boys_16 : decode cX11_boys 16 = .ok (.getfield 9, 3) := by decide +kernel
theorem dX11_boys_19 : decode cX11_boys 19 = .ok (.iconst 4, 1) := by decide +kernel
theorem dX11_boys_20 : decode cX11_boys 20 = .ok (.iaload, 1) := by decide +kernel
theorem dX11_boys_21 : decode cX11_boys 21 = .ok (.if_icmp .ge 22, 3) := by decide +kernel
theorem dX11_boys_43 : decode cX11_boys 43 = .ok (.aload_n 0, 1) := by decide +kernel
theorem dX11_boys_44 : decode cX11_boys 44 = .ok (.invokevirtual 363, 3) := by decide +kernel
theorem dX11_boys_47 : decode cX11_boys 47 = .ok (.ifCond .le 7, 3) := by decide +kernel
theorem dX11_boys_54 : decode cX11_boys 54 = .ok (.iconst 3, 1) := by decide +kernel
theorem dX11_boys_55 : decode cX11_boys 55 = .ok (.ireturn, 1) := by decide +kernel
theorem dX11_boys_50 : decode cX11_boys 50 = .ok (.iconst 2, 1) := by decide +kernel
theorem dX11_boys_51 : decode cX11_boys 51 = .ok (.goto 4, 3) := by decide +kernel
theorem dX11_boys_24 : decode cX11_boys 24 = .ok (.aload_n 0, 1) := by decide +kernel
theorem dX11_boys_25 : decode cX11_boys 25 = .ok (.iload_n 1, 1) := by decide +kernel
theorem dX11_boys_26 : decode cX11_boys 26 = .ok (.iload_n 1, 1) := by decide +kernel
theorem dX11_boys_27 : decode cX11_boys 27 = .ok (.iconst 1, 1) := by decide +kernel
theorem dX11_boys_28 : decode cX11_boys 28 = .ok (.invokevirtual 356, 3) := by decide +kernel
theorem dX11_boys_31 : decode cX11_boys 31 = .ok (.iconst (-1), 1) := by decide +kernel
theorem dX11_boys_32 : decode cX11_boys 32 = .ok (.if_icmp .eq 5, 3) := by decide +kernel
theorem dX11_boys_37 : decode cX11_boys 37 = .ok (.iinc 1 1, 3) := by decide +kernel
theorem dX11_boys_40 : decode cX11_boys 40 = .ok (.goto (-26), 3) := by decide +kernel
theorem dX11_boys_35 : decode cX11_boys 35 = .ok (.iconst 1, 1) := by decide +kernel
theorem dX11_boys_36 : decode cX11_boys 36 = .ok (.ireturn, 1) := by decide +kernel
theorem dX11_boys_9 : decode cX11_boys 9 = .ok (.bipush (-2), 2) := by decide +kernel
theorem dX11_boys_11 : decode cX11_boys 11 = .ok (.ireturn, 1) := by decide +kernel
theorem dX11_asksHabit_0 : decode cX11_asksHabit 0 = .ok (.iload_n 1, 1) := by decide +kernel
theorem dX11_asksHabit_1 : decode cX11_asksHabit 1 = .ok (.invokestatic 290, 3) := by decide +kernel
theorem dX11_asksHabit_4 : decode cX11_asksHabit 4 = .ok (.ifCond .eq 14, 3) := by decide +kernel
theorem dX11_asksHabit_18 : decode cX11_asksHabit 18 = .ok (.bipush (-2), 2) := by decide +kernel
theorem dX11_asksHabit_20 : decode cX11_asksHabit 20 = .ok (.ireturn, 1) := by decide +kernel
theorem dX11_asksHabit_7 : decode cX11_asksHabit 7 = .ok (.aload_n 0, 1) := by decide +kernel
theorem dX11_asksHabit_8 : decode cX11_asksHabit 8 = .ok (.invokevirtual 83, 3) := by decide +kernel
theorem dX11_asksHabit_11 : decode cX11_asksHabit 11 = .ok (.ifCond .eq 7, 3) := by decide +kernel
theorem dX11_asksHabit_14 : decode cX11_asksHabit 14 = .ok (.iload_n 2, 1) := by decide +kernel
theorem dX11_asksHabit_15 : decode cX11_asksHabit 15 = .ok (.ifCond .ne 6, 3) := by decide +kernel
theorem dX11_asksHabit_21 : decode cX11_asksHabit 21 = .ok (.aload_n 0, 1) := by decide +kernel
theorem dX11_asksHabit_22 : decode cX11_asksHabit 22 = .ok (.getfield 61, 3) := by decide +kernel
theorem dX11_asksHabit_25 : decode cX11_asksHabit 25 = .ok (.iload_n 1, 1) := by decide +kernel
theorem dX11_asksHabit_26 : decode cX11_asksHabit 26 = .ok (.iaload, 1) := by decide +kernel
theorem dX11_asksHabit_27 : decode cX11_asksHabit 27 = .ok (.iconst (-1), 1) := by decide +kernel
theorem dX11_asksHabit_28 : decode cX11_asksHabit 28 = .ok (.if_icmp .ne 6, 3) := by decide +kernel
theorem dX11_asksHabit_34 : decode cX11_asksHabit 34 = .ok (.iconst 0, 1) := by decide +kernel
theorem dX11_asksHabit_35 : decode cX11_asksHabit 35 = .ok (.istore_n 3, 1) := by decide +kernel
theorem dX11_asksHabit_36 : decode cX11_asksHabit 36 = .ok (.iload_n 3, 1) := by decide +kernel
theorem dX11_asksHabit_37 : decode cX11_asksHabit 37 = .ok (.aload_n 0, 1) := by decide +kernel
theorem dX11_asksHabit_38 : decode cX11_asksHabit 38 = .ok (.getfield 61, 3) := by decide +kernel
theorem dX11_asksHabit_41 : decode cX11_asksHabit 41 = .ok (.iload_n 1, 1) := by decide +kernel
theorem dX11_asksHabit_42 : decode cX11_asksHabit 42 = .ok (.iaload, 1) := by decide +kernel
theorem dX11_asksHabit_43 : decode cX11_asksHabit 43 = .ok (.if_icmp .ge 25, 3) := by decide +kernel
theorem dX11_asksHabit_68 : decode cX11_asksHabit 68 = .ok (.iconst 0, 1) := by decide +kernel
theorem dX11_asksHabit_69 : decode cX11_asksHabit 69 = .ok (.ireturn, 1) := by decide +kernel
theorem dX11_asksHabit_46 : decode cX11_asksHabit 46 = .ok (.aload_n 0, 1) := by decide +kernel
theorem dX11_asksHabit_47 : decode cX11_asksHabit 47 = .ok (.aload_n 0, 1) := by decide +kernel
theorem dX11_asksHabit_48 : decode cX11_asksHabit 48 = .ok (.iload_n 1, 1) := by decide +kernel
theorem dX11_asksHabit_49 : decode cX11_asksHabit 49 = .ok (.iload_n 3, 1) := by decide +kernel
theorem dX11_asksHabit_50 : decode cX11_asksHabit 50 = .ok (.invokevirtual 286, 3) := by decide +kernel
theorem dX11_asksHabit_53 : decode cX11_asksHabit 53 = .ok (.invokevirtual 89, 3) := by decide +kernel
theorem dX11_asksHabit_56 : decode cX11_asksHabit 56 = .ok (.ifCond .ne 6, 3) := by decide +kernel
theorem dX11_asksHabit_62 : decode cX11_asksHabit 62 = .ok (.iinc 3 1, 3) := by decide +kernel
theorem dX11_asksHabit_65 : decode cX11_asksHabit 65 = .ok (.goto (-29), 3) := by decide +kernel
theorem dX11_asksHabit_59 : decode cX11_asksHabit 59 = .ok (.bipush (-2), 2) := by decide +kernel
theorem dX11_asksHabit_61 : decode cX11_asksHabit 61 = .ok (.ireturn, 1) := by decide +kernel
theorem dX11_asksHabit_31 : decode cX11_asksHabit 31 = .ok (.bipush (-6), 2) := by decide +kernel
theorem dX11_asksHabit_33 : decode cX11_asksHabit 33 = .ok (.ireturn, 1) := by decide +kernel
theorem dX11_habit_0 : decode cX11_habit 0 = .ok (.aload_n 0, 1) := by decide +kernel
theorem dX11_habit_1 : decode cX11_habit 1 = .ok (.iload_n 1, 1) := by decide +kernel
theorem dX11_habit_2 : decode cX11_habit 2 = .ok (.iconst 1, 1) := by decide +kernel
theorem dX11_habit_3 : decode cX11_habit 3 = .ok (.invokevirtual 406, 3) := by decide +kernel
theorem dX11_habit_6 : decode cX11_habit 6 = .ok (.istore_n 2, 1) := by decide +kernel
theorem dX11_habit_7 : decode cX11_habit 7 = .ok (.iload_n 2, 1) := by decide +kernel
theorem dX11_habit_8 : decode cX11_habit 8 = .ok (.ifCond .ge 7, 3) := by decide +kernel
theorem dX11_habit_15 : decode cX11_habit 15 = .ok (.aload_n 0, 1) := by decide +kernel
theorem dX11_habit_16 : decode cX11_habit 16 = .ok (.iload_n 1, 1) := by decide +kernel
theorem dX11_habit_17 : decode cX11_habit 17 = .ok (.iconst (-1), 1) := by decide +kernel
theorem dX11_habit_18 : decode cX11_habit 18 = .ok (.invokevirtual 409, 3) := by decide +kernel
theorem dX11_habit_21 : decode cX11_habit 21 = .ok (.ireturn, 1) := by decide +kernel
theorem dX11_habit_11 : decode cX11_habit 11 = .ok (.iload_n 2, 1) := by decide +kernel
theorem dX11_habit_12 : decode cX11_habit 12 = .ok (.goto 9, 3) := by decide +kernel
theorem dX11_follows_0 : decode cX11_follows 0 = .ok (.aload_n 0, 1) := by decide +kernel
theorem dX11_follows_1 : decode cX11_follows 1 = .ok (.iload_n 1, 1) := by decide +kernel
theorem dX11_follows_2 : decode cX11_follows 2 = .ok (.aload_n 0, 1) := by decide +kernel
theorem dX11_follows_3 : decode cX11_follows 3 = .ok (.iload_n 2, 1) := by decide +kernel
theorem dX11_follows_4 : decode cX11_follows 4 = .ok (.i2l, 1) := by decide +kernel
theorem dX11_follows_5 : decode cX11_follows 5 = .ok (.invokevirtual 89, 3) := by decide +kernel
theorem dX11_follows_8 : decode cX11_follows 8 = .ok (.invokevirtual 406, 3) := by decide +kernel
theorem dX11_follows_11 : decode cX11_follows 11 = .ok (.istore_n 3, 1) := by decide +kernel
theorem dX11_follows_12 : decode cX11_follows 12 = .ok (.iload_n 3, 1) := by decide +kernel
theorem dX11_follows_13 : decode cX11_follows 13 = .ok (.ifCond .ge 7, 3) := by decide +kernel
theorem dX11_follows_20 : decode cX11_follows 20 = .ok (.aload_n 0, 1) := by decide +kernel
theorem dX11_follows_21 : decode cX11_follows 21 = .ok (.iload_n 1, 1) := by decide +kernel
theorem dX11_follows_22 : decode cX11_follows 22 = .ok (.iload_n 2, 1) := by decide +kernel
theorem dX11_follows_23 : decode cX11_follows 23 = .ok (.invokevirtual 409, 3) := by decide +kernel
theorem dX11_follows_26 : decode cX11_follows 26 = .ok (.ireturn, 1) := by decide +kernel
theorem dX11_follows_16 : decode cX11_follows 16 = .ok (.iload_n 3, 1) := by decide +kernel
theorem dX11_follows_17 : decode cX11_follows 17 = .ok (.goto 9, 3) := by decide +kernel
theorem dX11_period_0 : decode cX11_period 0 = .ok (.aload_n 0, 1) := by decide +kernel
theorem dX11_period_1 : decode cX11_period 1 = .ok (.iload_n 1, 1) := by decide +kernel
theorem dX11_period_2 : decode cX11_period 2 = .ok (.iconst 1, 1) := by decide +kernel
theorem dX11_period_3 : decode cX11_period 3 = .ok (.invokevirtual 406, 3) := by decide +kernel
theorem dX11_period_6 : decode cX11_period 6 = .ok (.istore_n 2, 1) := by decide +kernel
theorem dX11_period_7 : decode cX11_period 7 = .ok (.iload_n 2, 1) := by decide +kernel
theorem dX11_period_8 : decode cX11_period 8 = .ok (.ifCond .ge 5, 3) := by decide +kernel
theorem dX11_period_13 : decode cX11_period 13 = .ok (.iconst 1, 1) := by decide +kernel
theorem dX11_period_14 : decode cX11_period 14 = .ok (.istore_n 3, 1) := by decide +kernel
theorem dX11_period_15 : decode cX11_period 15 = .ok (.iload_n 3, 1) := by decide +kernel
theorem dX11_period_16 : decode cX11_period 16 = .ok (.aload_n 0, 1) := by decide +kernel
theorem dX11_period_17 : decode cX11_period 17 = .ok (.getfield 61, 3) := by decide +kernel
theorem dX11_period_20 : decode cX11_period 20 = .ok (.iload_n 1, 1) := by decide +kernel
theorem dX11_period_21 : decode cX11_period 21 = .ok (.iaload, 1) := by decide +kernel
theorem dX11_period_22 : decode cX11_period 22 = .ok (.if_icmp .gt 70, 3) := by decide +kernel
theorem dX11_period_92 : decode cX11_period 92 = .ok (.iconst (-1), 1) := by decide +kernel
theorem dX11_period_93 : decode cX11_period 93 = .ok (.ireturn, 1) := by decide +kernel
theorem dX11_period_25 : decode cX11_period 25 = .ok (.iconst 1, 1) := by decide +kernel
theorem dX11_period_26 : decode cX11_period 26 = .ok (.istore 4, 2) := by decide +kernel
theorem dX11_period_28 : decode cX11_period 28 = .ok (.iload_n 3, 1) := by decide +kernel
theorem dX11_period_29 : decode cX11_period 29 = .ok (.istore 5, 2) := by decide +kernel
theorem dX11_period_31 : decode cX11_period 31 = .ok (.iload 5, 2) := by decide +kernel
theorem dX11_period_33 : decode cX11_period 33 = .ok (.aload_n 0, 1) := by decide +kernel
theorem dX11_period_34 : decode cX11_period 34 = .ok (.getfield 61, 3) := by decide +kernel
theorem dX11_period_37 : decode cX11_period 37 = .ok (.iload_n 1, 1) := by decide +kernel
theorem dX11_period_38 : decode cX11_period 38 = .ok (.iaload, 1) := by decide +kernel
theorem dX11_period_79 : decode cX11_period 79 = .ok (.iload 4, 2) := by decide +kernel
theorem dX11_period_81 : decode cX11_period 81 = .ok (.ifCond .eq 5, 3) := by decide +kernel
theorem dX11_period_86 : decode cX11_period 86 = .ok (.iinc 3 1, 3) := by decide +kernel
theorem dX11_period_89 : decode cX11_period 89 = .ok (.goto (-74), 3) := by decide +kernel
theorem dX11_period_84 : decode cX11_period 84 = .ok (.iload_n 3, 1) := by decide +kernel
theorem dX11_period_85 : decode cX11_period 85 = .ok (.ireturn, 1) := by decide +kernel
theorem dX11_period_39 : decode cX11_period 39 = .ok (.if_icmp .ge 40, 3) := by decide +kernel
theorem dX11_period_42 : decode cX11_period 42 = .ok (.iload 4, 2) := by decide +kernel
theorem dX11_period_44 : decode cX11_period 44 = .ok (.ifCond .eq 35, 3) := by decide +kernel
theorem dX11_period_47 : decode cX11_period 47 = .ok (.aload_n 0, 1) := by decide +kernel
theorem dX11_period_48 : decode cX11_period 48 = .ok (.iload_n 1, 1) := by decide +kernel
theorem dX11_period_49 : decode cX11_period 49 = .ok (.iload 5, 2) := by decide +kernel
theorem dX11_period_51 : decode cX11_period 51 = .ok (.invokevirtual 293, 3) := by decide +kernel
theorem dX11_period_54 : decode cX11_period 54 = .ok (.aload_n 0, 1) := by decide +kernel
theorem dX11_period_55 : decode cX11_period 55 = .ok (.iload_n 1, 1) := by decide +kernel
theorem dX11_period_56 : decode cX11_period 56 = .ok (.iload 5, 2) := by decide +kernel
theorem dX11_period_58 : decode cX11_period 58 = .ok (.iload_n 3, 1) := by decide +kernel
theorem dX11_period_59 : decode cX11_period 59 = .ok (.isub, 1) := by decide +kernel
theorem dX11_period_60 : decode cX11_period 60 = .ok (.invokevirtual 293, 3) := by decide +kernel
theorem dX11_period_71 : decode cX11_period 71 = .ok (.istore 4, 2) := by decide +kernel
theorem dX11_period_73 : decode cX11_period 73 = .ok (.iinc 5 1, 3) := by decide +kernel
theorem dX11_period_76 : decode cX11_period 76 = .ok (.goto (-45), 3) := by decide +kernel
theorem dX11_period_63 : decode cX11_period 63 = .ok (.if_icmp .ne 7, 3) := by decide +kernel
theorem dX11_period_70 : decode cX11_period 70 = .ok (.iconst 0, 1) := by decide +kernel
theorem dX11_period_66 : decode cX11_period 66 = .ok (.iconst 1, 1) := by decide +kernel
theorem dX11_period_67 : decode cX11_period 67 = .ok (.goto 4, 3) := by decide +kernel
theorem dX11_period_11 : decode cX11_period 11 = .ok (.iload_n 2, 1) := by decide +kernel
theorem dX11_period_12 : decode cX11_period 12 = .ok (.ireturn, 1) := by decide +kernel
theorem dX11_drawn_0 : decode cX11_drawn 0 = .ok (.aload_n 0, 1) := by decide +kernel
theorem dX11_drawn_1 : decode cX11_drawn 1 = .ok (.iload_n 2, 1) := by decide +kernel
theorem dX11_drawn_2 : decode cX11_drawn 2 = .ok (.iload_n 1, 1) := by decide +kernel
theorem dX11_drawn_3 : decode cX11_drawn 3 = .ok (.invokestatic 441, 3) := by decide +kernel
theorem dX11_drawn_24 : decode cX11_drawn 24 = .ok (.invokevirtual 303, 3) := by decide +kernel
theorem dX11_drawn_27 : decode cX11_drawn 27 = .ok (.istore 4, 2) := by decide +kernel
theorem dX11_drawn_29 : decode cX11_drawn 29 = .ok (.iload 4, 2) := by decide +kernel
theorem dX11_drawn_31 : decode cX11_drawn 31 = .ok (.ifCond .ge 6, 3) := by decide +kernel
theorem dX11_drawn_37 : decode cX11_drawn 37 = .ok (.aload_n 0, 1) := by decide +kernel
theorem dX11_drawn_38 : decode cX11_drawn 38 = .ok (.iload_n 1, 1) := by decide +kernel
theorem dX11_drawn_39 : decode cX11_drawn 39 = .ok (.i2l, 1) := by decide +kernel
theorem dX11_drawn_40 : decode cX11_drawn 40 = .ok (.iload_n 2, 1) := by decide +kernel
theorem dX11_drawn_41 : decode cX11_drawn 41 = .ok (.invokevirtual 444, 3) := by decide +kernel
theorem dX11_drawn_44 : decode cX11_drawn 44 = .ok (.iload_n 3, 1) := by decide +kernel
theorem dX11_drawn_45 : decode cX11_drawn 45 = .ok (.ifCond .ne 10, 3) := by decide +kernel
theorem dX11_drawn_55 : decode cX11_drawn 55 = .ok (.aload_n 0, 1) := by decide +kernel
theorem dX11_drawn_56 : decode cX11_drawn 56 = .ok (.getfield 433, 3) := by decide +kernel
theorem dX11_drawn_59 : decode cX11_drawn 59 = .ok (.ireturn, 1) := by decide +kernel
theorem dX11_drawn_48 : decode cX11_drawn 48 = .ok (.aload_n 0, 1) := by decide +kernel
theorem dX11_drawn_49 : decode cX11_drawn 49 = .ok (.getfield 427, 3) := by decide +kernel
theorem dX11_drawn_52 : decode cX11_drawn 52 = .ok (.goto 7, 3) := by decide +kernel
theorem dX11_drawn_34 : decode cX11_drawn 34 = .ok (.iload 4, 2) := by decide +kernel
theorem dX11_drawn_36 : decode cX11_drawn 36 = .ok (.ireturn, 1) := by decide +kernel
theorem dX11_drawn_23 : decode cX11_drawn 23 = .ok (.iconst 0, 1) := by decide +kernel
theorem dX11_drawn_6 : decode cX11_drawn 6 = .ok (.ifCond .eq 17, 3) := by decide +kernel
theorem dX11_drawn_9 : decode cX11_drawn 9 = .ok (.iload_n 3, 1) := by decide +kernel
theorem dX11_drawn_10 : decode cX11_drawn 10 = .ok (.i2l, 1) := by decide +kernel
theorem dX11_drawn_11 : decode cX11_drawn 11 = .ok (.lconst 0, 1) := by decide +kernel
theorem dX11_drawn_12 : decode cX11_drawn 12 = .ok (.lconst 1, 1) := by decide +kernel
theorem dX11_drawn_13 : decode cX11_drawn 13 = .ok (.invokestatic 79, 3) := by decide +kernel
theorem dX11_drawn_16 : decode cX11_drawn 16 = .ok (.ifCond .eq 7, 3) := by decide +kernel
theorem dX11_drawn_19 : decode cX11_drawn 19 = .ok (.iconst 1, 1) := by decide +kernel
theorem dX11_drawn_20 : decode cX11_drawn 20 = .ok (.goto 4, 3) := by decide +kernel
theorem dX11_lot_0 : decode cX11_lot 0 = .ok (.aload_n 0, 1) := by decide +kernel
theorem dX11_lot_1 : decode cX11_lot 1 = .ok (.iload_n 2, 1) := by decide +kernel
theorem dX11_lot_2 : decode cX11_lot 2 = .ok (.iload_n 1, 1) := by decide +kernel
theorem dX11_lot_3 : decode cX11_lot 3 = .ok (.invokestatic 441, 3) := by decide +kernel
theorem dX11_lot_26 : decode cX11_lot 26 = .ok (.invokevirtual 303, 3) := by decide +kernel
theorem dX11_lot_29 : decode cX11_lot 29 = .ok (.istore 4, 2) := by decide +kernel
theorem dX11_lot_31 : decode cX11_lot 31 = .ok (.iload 4, 2) := by decide +kernel
theorem dX11_lot_33 : decode cX11_lot 33 = .ok (.ifCond .ge 6, 3) := by decide +kernel
theorem dX11_lot_39 : decode cX11_lot 39 = .ok (.iconst 0, 1) := by decide +kernel
theorem dX11_lot_40 : decode cX11_lot 40 = .ok (.istore 5, 2) := by decide +kernel
theorem dX11_lot_42 : decode cX11_lot 42 = .ok (.iconst 0, 1) := by decide +kernel
theorem dX11_lot_43 : decode cX11_lot 43 = .ok (.istore 6, 2) := by decide +kernel
theorem dX11_lot_45 : decode cX11_lot 45 = .ok (.iload 6, 2) := by decide +kernel
theorem dX11_lot_47 : decode cX11_lot 47 = .ok (.iload_n 3, 1) := by decide +kernel
theorem dX11_lot_48 : decode cX11_lot 48 = .ok (.if_icmp .ge 38, 3) := by decide +kernel
theorem dX11_lot_86 : decode cX11_lot 86 = .ok (.iload 5, 2) := by decide +kernel
theorem dX11_lot_88 : decode cX11_lot 88 = .ok (.ireturn, 1) := by decide +kernel
theorem dX11_lot_51 : decode cX11_lot 51 = .ok (.aload_n 0, 1) := by decide +kernel
theorem dX11_lot_52 : decode cX11_lot 52 = .ok (.iload_n 1, 1) := by decide +kernel
theorem dX11_lot_53 : decode cX11_lot 53 = .ok (.i2l, 1) := by decide +kernel
theorem dX11_lot_54 : decode cX11_lot 54 = .ok (.iload 6, 2) := by decide +kernel
theorem dX11_lot_56 : decode cX11_lot 56 = .ok (.i2l, 1) := by decide +kernel
theorem dX11_lot_57 : decode cX11_lot 57 = .ok (.ladd, 1) := by decide +kernel
theorem dX11_lot_58 : decode cX11_lot 58 = .ok (.iload_n 2, 1) := by decide +kernel
theorem dX11_lot_59 : decode cX11_lot 59 = .ok (.invokevirtual 444, 3) := by decide +kernel
theorem dX11_lot_62 : decode cX11_lot 62 = .ok (.iload 5, 2) := by decide +kernel
theorem dX11_lot_64 : decode cX11_lot 64 = .ok (.aload_n 0, 1) := by decide +kernel
theorem dX11_lot_65 : decode cX11_lot 65 = .ok (.getfield 427, 3) := by decide +kernel
theorem dX11_lot_68 : decode cX11_lot 68 = .ok (.iconst (-1), 1) := by decide +kernel
theorem dX11_lot_77 : decode cX11_lot 77 = .ok (.iadd, 1) := by decide +kernel
theorem dX11_lot_78 : decode cX11_lot 78 = .ok (.istore 5, 2) := by decide +kernel
theorem dX11_lot_80 : decode cX11_lot 80 = .ok (.iinc 6 1, 3) := by decide +kernel
theorem dX11_lot_83 : decode cX11_lot 83 = .ok (.goto (-38), 3) := by decide +kernel
theorem dX11_lot_69 : decode cX11_lot 69 = .ok (.if_icmp .ne 7, 3) := by decide +kernel
theorem dX11_lot_76 : decode cX11_lot 76 = .ok (.iconst 1, 1) := by decide +kernel
theorem dX11_lot_72 : decode cX11_lot 72 = .ok (.iconst 0, 1) := by decide +kernel
theorem dX11_lot_73 : decode cX11_lot 73 = .ok (.goto 4, 3) := by decide +kernel
theorem dX11_lot_36 : decode cX11_lot 36 = .ok (.iload 4, 2) := by decide +kernel
theorem dX11_lot_38 : decode cX11_lot 38 = .ok (.ireturn, 1) := by decide +kernel
theorem dX11_lot_25 : decode cX11_lot 25 = .ok (.iconst 0, 1) := by decide +kernel
theorem dX11_lot_6 : decode cX11_lot 6 = .ok (.ifCond .eq 19, 3) := by decide +kernel
theorem dX11_lot_9 : decode cX11_lot 9 = .ok (.iload_n 3, 1) := by decide +kernel
theorem dX11_lot_10 : decode cX11_lot 10 = .ok (.i2l, 1) := by decide +kernel
theorem dX11_lot_11 : decode cX11_lot 11 = .ok (.lconst 1, 1) := by decide +kernel
theorem dX11_lot_12 : decode cX11_lot 12 = .ok (.ldc2_w 448, 3) := by decide +kernel
theorem dX11_lot_15 : decode cX11_lot 15 = .ok (.invokestatic 79, 3) := by decide +kernel
theorem dX11_lot_18 : decode cX11_lot 18 = .ok (.ifCond .eq 7, 3) := by decide +kernel
theorem dX11_lot_21 : decode cX11_lot 21 = .ok (.iconst 1, 1) := by decide +kernel
theorem dX11_lot_22 : decode cX11_lot 22 = .ok (.goto 4, 3) := by decide +kernel
theorem dX11_advance_0 : decode cX11_advance 0 = .ok (.aload_n 0, 1) := by decide +kernel
theorem dX11_advance_1 : decode cX11_advance 1 = .ok (.aload_n 0, 1) := by decide +kernel
theorem dX11_advance_2 : decode cX11_advance 2 = .ok (.getfield 99, 3) := by decide +kernel
theorem dX11_advance_5 : decode cX11_advance 5 = .ok (.invokevirtual 102, 3) := by decide +kernel
theorem dX11_advance_8 : decode cX11_advance 8 = .ok (.bipush 32, 2) := by decide +kernel
theorem dX11_advance_26 : decode cX11_advance 26 = .ok (.aload_n 0, 1) := by decide +kernel
theorem dX11_advance_27 : decode cX11_advance 27 = .ok (.dup, 1) := by decide +kernel
theorem dX11_advance_28 : decode cX11_advance 28 = .ok (.getfield 99, 3) := by decide +kernel
theorem dX11_advance_31 : decode cX11_advance 31 = .ok (.iconst 1, 1) := by decide +kernel
theorem dX11_advance_32 : decode cX11_advance 32 = .ok (.iadd, 1) := by decide +kernel
theorem dX11_advance_33 : decode cX11_advance 33 = .ok (.putfield 99, 3) := by decide +kernel
theorem dX11_advance_36 : decode cX11_advance 36 = .ok (.goto (-36), 3) := by decide +kernel
theorem dX11_advance_10 : decode cX11_advance 10 = .ok (.if_icmp .eq 16, 3) := by decide +kernel
theorem dX11_advance_13 : decode cX11_advance 13 = .ok (.aload_n 0, 1) := by decide +kernel
theorem dX11_advance_14 : decode cX11_advance 14 = .ok (.aload_n 0, 1) := by decide +kernel
theorem dX11_advance_15 : decode cX11_advance 15 = .ok (.getfield 99, 3) := by decide +kernel
theorem dX11_advance_18 : decode cX11_advance 18 = .ok (.invokevirtual 102, 3) := by decide +kernel
theorem dX11_advance_21 : decode cX11_advance 21 = .ok (.bipush 10, 2) := by decide +kernel
theorem dX11_advance_23 : decode cX11_advance 23 = .ok (.if_icmp .ne 16, 3) := by decide +kernel
theorem dX11_advance_39 : decode cX11_advance 39 = .ok (.aload_n 0, 1) := by decide +kernel
theorem dX11_advance_40 : decode cX11_advance 40 = .ok (.aload_n 0, 1) := by decide +kernel
theorem dX11_advance_41 : decode cX11_advance 41 = .ok (.getfield 99, 3) := by decide +kernel
theorem dX11_advance_44 : decode cX11_advance 44 = .ok (.putfield 106, 3) := by decide +kernel
theorem dX11_advance_47 : decode cX11_advance 47 = .ok (.aload_n 0, 1) := by decide +kernel
theorem dX11_advance_48 : decode cX11_advance 48 = .ok (.aload_n 0, 1) := by decide +kernel
theorem dX11_advance_49 : decode cX11_advance 49 = .ok (.getfield 99, 3) := by decide +kernel
theorem dX11_advance_52 : decode cX11_advance 52 = .ok (.invokevirtual 102, 3) := by decide +kernel
theorem dX11_advance_55 : decode cX11_advance 55 = .ok (.istore_n 1, 1) := by decide +kernel
theorem dX11_advance_56 : decode cX11_advance 56 = .ok (.iload_n 1, 1) := by decide +kernel
theorem dX11_advance_57 : decode cX11_advance 57 = .ok (.iconst (-1), 1) := by decide +kernel
theorem dX11_advance_58 : decode cX11_advance 58 = .ok (.if_icmp .ne 11, 3) := by decide +kernel
theorem dX11_advance_69 : decode cX11_advance 69 = .ok (.iload_n 1, 1) := by decide +kernel
theorem dX11_advance_70 : decode cX11_advance 70 = .ok (.i2l, 1) := by decide +kernel
theorem dX11_advance_71 : decode cX11_advance 71 = .ok (.ldc2_w 112, 3) := by decide +kernel
theorem dX11_advance_74 : decode cX11_advance 74 = .ok (.ldc2_w 114, 3) := by decide +kernel
theorem dX11_advance_77 : decode cX11_advance 77 = .ok (.invokestatic 79, 3) := by decide +kernel
theorem dX11_advance_80 : decode cX11_advance 80 = .ok (.ifCond .eq 45, 3) := by decide +kernel
theorem dX11_advance_125 : decode cX11_advance 125 = .ok (.iload_n 1, 1) := by decide +kernel
theorem dX11_advance_126 : decode cX11_advance 126 = .ok (.i2l, 1) := by decide +kernel
theorem dX11_advance_127 : decode cX11_advance 127 = .ok (.ldc2_w 116, 3) := by decide +kernel
theorem dX11_advance_130 : decode cX11_advance 130 = .ok (.ldc2_w 118, 3) := by decide +kernel
theorem dX11_advance_133 : decode cX11_advance 133 = .ok (.invokestatic 79, 3) := by decide +kernel
theorem dX11_advance_136 : decode cX11_advance 136 = .ok (.ifCond .eq 78, 3) := by decide +kernel
theorem dX11_advance_214 : decode cX11_advance 214 = .ok (.aload_n 0, 1) := by decide +kernel
theorem dX11_advance_215 : decode cX11_advance 215 = .ok (.iload_n 1, 1) := by decide +kernel
theorem dX11_advance_216 : decode cX11_advance 216 = .ok (.bipush 59, 2) := by decide +kernel
theorem dX11_advance_226 : decode cX11_advance 226 = .ok (.putfield 109, 3) := by decide +kernel
theorem dX11_advance_229 : decode cX11_advance 229 = .ok (.aload_n 0, 1) := by decide +kernel
theorem dX11_advance_230 : decode cX11_advance 230 = .ok (.dup, 1) := by decide +kernel
theorem dX11_advance_231 : decode cX11_advance 231 = .ok (.getfield 99, 3) := by decide +kernel
theorem dX11_advance_234 : decode cX11_advance 234 = .ok (.iconst 1, 1) := by decide +kernel
theorem dX11_advance_235 : decode cX11_advance 235 = .ok (.iadd, 1) := by decide +kernel
theorem dX11_advance_236 : decode cX11_advance 236 = .ok (.putfield 99, 3) := by decide +kernel
theorem dX11_advance_239 : decode cX11_advance 239 = .ok (.return_, 1) := by decide +kernel
theorem dX11_advance_218 : decode cX11_advance 218 = .ok (.if_icmp .ne 7, 3) := by decide +kernel
theorem dX11_advance_225 : decode cX11_advance 225 = .ok (.iconst 4, 1) := by decide +kernel
theorem dX11_advance_221 : decode cX11_advance 221 = .ok (.iconst 3, 1) := by decide +kernel
theorem dX11_advance_222 : decode cX11_advance 222 = .ok (.goto 4, 3) := by decide +kernel
theorem dX11_advance_139 : decode cX11_advance 139 = .ok (.aload_n 0, 1) := by decide +kernel
theorem dX11_advance_140 : decode cX11_advance 140 = .ok (.iconst 0, 1) := by decide +kernel
theorem dX11_advance_141 : decode cX11_advance 141 = .ok (.putfield 120, 3) := by decide +kernel
theorem dX11_advance_144 : decode cX11_advance 144 = .ok (.aload_n 0, 1) := by decide +kernel
theorem dX11_advance_145 : decode cX11_advance 145 = .ok (.aload_n 0, 1) := by decide +kernel
theorem dX11_advance_146 : decode cX11_advance 146 = .ok (.getfield 99, 3) := by decide +kernel
theorem dX11_advance_149 : decode cX11_advance 149 = .ok (.invokevirtual 102, 3) := by decide +kernel
theorem dX11_advance_152 : decode cX11_advance 152 = .ok (.i2l, 1) := by decide +kernel
theorem dX11_advance_153 : decode cX11_advance 153 = .ok (.ldc2_w 116, 3) := by decide +kernel
theorem dX11_advance_156 : decode cX11_advance 156 = .ok (.ldc2_w 118, 3) := by decide +kernel
theorem dX11_advance_159 : decode cX11_advance 159 = .ok (.invokestatic 79, 3) := by decide +kernel
theorem dX11_advance_162 : decode cX11_advance 162 = .ok (.ifCond .eq 44, 3) := by decide +kernel
theorem dX11_advance_206 : decode cX11_advance 206 = .ok (.aload_n 0, 1) := by decide +kernel
theorem dX11_advance_207 : decode cX11_advance 207 = .ok (.iconst 2, 1) := by decide +kernel
theorem dX11_advance_208 : decode cX11_advance 208 = .ok (.putfield 109, 3) := by decide +kernel
theorem dX11_advance_211 : decode cX11_advance 211 = .ok (.goto 28, 3) := by decide +kernel
theorem dX11_advance_165 : decode cX11_advance 165 = .ok (.aload_n 0, 1) := by decide +kernel
theorem dX11_advance_166 : decode cX11_advance 166 = .ok (.ldc 123, 2) := by decide +kernel
theorem dX11_advance_168 : decode cX11_advance 168 = .ok (.bipush 10, 2) := by decide +kernel
theorem dX11_advance_170 : decode cX11_advance 170 = .ok (.aload_n 0, 1) := by decide +kernel
theorem dX11_advance_171 : decode cX11_advance 171 = .ok (.getfield 120, 3) := by decide +kernel
theorem dX11_advance_174 : decode cX11_advance 174 = .ok (.imul, 1) := by decide +kernel
theorem dX11_advance_175 : decode cX11_advance 175 = .ok (.aload_n 0, 1) := by decide +kernel
theorem dX11_advance_176 : decode cX11_advance 176 = .ok (.aload_n 0, 1) := by decide +kernel
theorem dX11_advance_177 : decode cX11_advance 177 = .ok (.getfield 99, 3) := by decide +kernel
theorem dX11_advance_180 : decode cX11_advance 180 = .ok (.invokevirtual 102, 3) := by decide +kernel
theorem dX11_advance_183 : decode cX11_advance 183 = .ok (.iadd, 1) := by decide +kernel
theorem dX11_advance_184 : decode cX11_advance 184 = .ok (.bipush 48, 2) := by decide +kernel
theorem dX11_advance_186 : decode cX11_advance 186 = .ok (.isub, 1) := by decide +kernel
theorem dX11_advance_187 : decode cX11_advance 187 = .ok (.invokestatic 124, 3) := by decide +kernel
theorem dX11_advance_190 : decode cX11_advance 190 = .ok (.putfield 120, 3) := by decide +kernel
theorem dX11_advance_193 : decode cX11_advance 193 = .ok (.aload_n 0, 1) := by decide +kernel
theorem dX11_advance_194 : decode cX11_advance 194 = .ok (.dup, 1) := by decide +kernel
theorem dX11_advance_195 : decode cX11_advance 195 = .ok (.getfield 99, 3) := by decide +kernel
theorem dX11_advance_198 : decode cX11_advance 198 = .ok (.iconst 1, 1) := by decide +kernel
theorem dX11_advance_199 : decode cX11_advance 199 = .ok (.iadd, 1) := by decide +kernel
theorem dX11_advance_200 : decode cX11_advance 200 = .ok (.putfield 99, 3) := by decide +kernel
theorem dX11_advance_203 : decode cX11_advance 203 = .ok (.goto (-59), 3) := by decide +kernel
theorem dX11_advance_83 : decode cX11_advance 83 = .ok (.aload_n 0, 1) := by decide +kernel
theorem dX11_advance_84 : decode cX11_advance 84 = .ok (.aload_n 0, 1) := by decide +kernel
theorem dX11_advance_85 : decode cX11_advance 85 = .ok (.getfield 99, 3) := by decide +kernel
theorem dX11_advance_88 : decode cX11_advance 88 = .ok (.invokevirtual 102, 3) := by decide +kernel
theorem dX11_advance_91 : decode cX11_advance 91 = .ok (.i2l, 1) := by decide +kernel
theorem dX11_advance_92 : decode cX11_advance 92 = .ok (.ldc2_w 112, 3) := by decide +kernel
theorem dX11_advance_95 : decode cX11_advance 95 = .ok (.ldc2_w 114, 3) := by decide +kernel
theorem dX11_advance_98 : decode cX11_advance 98 = .ok (.invokestatic 79, 3) := by decide +kernel
theorem dX11_advance_101 : decode cX11_advance 101 = .ok (.ifCond .eq 16, 3) := by decide +kernel
theorem dX11_advance_117 : decode cX11_advance 117 = .ok (.aload_n 0, 1) := by decide +kernel
theorem dX11_advance_118 : decode cX11_advance 118 = .ok (.iconst 1, 1) := by decide +kernel
theorem dX11_advance_119 : decode cX11_advance 119 = .ok (.putfield 109, 3) := by decide +kernel
theorem dX11_advance_122 : decode cX11_advance 122 = .ok (.goto 117, 3) := by decide +kernel
theorem dX11_advance_104 : decode cX11_advance 104 = .ok (.aload_n 0, 1) := by decide +kernel
theorem dX11_advance_105 : decode cX11_advance 105 = .ok (.dup, 1) := by decide +kernel
theorem dX11_advance_106 : decode cX11_advance 106 = .ok (.getfield 99, 3) := by decide +kernel
theorem dX11_advance_109 : decode cX11_advance 109 = .ok (.iconst 1, 1) := by decide +kernel
theorem dX11_advance_110 : decode cX11_advance 110 = .ok (.iadd, 1) := by decide +kernel
theorem dX11_advance_111 : decode cX11_advance 111 = .ok (.putfield 99, 3) := by decide +kernel
theorem dX11_advance_114 : decode cX11_advance 114 = .ok (.goto (-31), 3) := by decide +kernel
theorem dX11_advance_61 : decode cX11_advance 61 = .ok (.aload_n 0, 1) := by decide +kernel
theorem dX11_advance_62 : decode cX11_advance 62 = .ok (.iconst 0, 1) := by decide +kernel
theorem dX11_advance_63 : decode cX11_advance 63 = .ok (.putfield 109, 3) := by decide +kernel
theorem dX11_advance_66 : decode cX11_advance 66 = .ok (.goto 173, 3) := by decide +kernel
theorem dX11_is_0 : decode cX11_is 0 = .ok (.aload_n 0, 1) := by decide +kernel
theorem dX11_is_1 : decode cX11_is 1 = .ok (.invokevirtual 133, 3) := by decide +kernel
theorem dX11_is_36 : decode cX11_is 36 = .ok (.istore_n 2, 1) := by decide +kernel
theorem dX11_is_37 : decode cX11_is 37 = .ok (.iconst 0, 1) := by decide +kernel
theorem dX11_is_38 : decode cX11_is 38 = .ok (.istore_n 3, 1) := by decide +kernel
theorem dX11_is_39 : decode cX11_is 39 = .ok (.iload_n 3, 1) := by decide +kernel
theorem dX11_is_40 : decode cX11_is 40 = .ok (.aload_n 1, 1) := by decide +kernel
theorem dX11_is_41 : decode cX11_is 41 = .ok (.invokevirtual 136, 3) := by decide +kernel
theorem dX11_is_44 : decode cX11_is 44 = .ok (.if_icmp .ge 38, 3) := by decide +kernel
theorem dX11_is_82 : decode cX11_is 82 = .ok (.iload_n 2, 1) := by decide +kernel
theorem dX11_is_83 : decode cX11_is 83 = .ok (.ireturn, 1) := by decide +kernel
theorem dX11_is_47 : decode cX11_is 47 = .ok (.iload_n 2, 1) := by decide +kernel
theorem dX11_is_48 : decode cX11_is 48 = .ok (.ifCond .eq 34, 3) := by decide +kernel
theorem dX11_is_51 : decode cX11_is 51 = .ok (.aload_n 0, 1) := by decide +kernel
theorem dX11_is_52 : decode cX11_is 52 = .ok (.getfield 20, 3) := by decide +kernel
theorem dX11_is_55 : decode cX11_is 55 = .ok (.aload_n 0, 1) := by decide +kernel
theorem dX11_is_56 : decode cX11_is 56 = .ok (.getfield 106, 3) := by decide +kernel
theorem dX11_is_59 : decode cX11_is 59 = .ok (.iload_n 3, 1) := by decide +kernel
theorem dX11_is_60 : decode cX11_is 60 = .ok (.iadd, 1) := by decide +kernel
theorem dX11_is_61 : decode cX11_is 61 = .ok (.baload, 1) := by decide +kernel
theorem dX11_is_62 : decode cX11_is 62 = .ok (.aload_n 1, 1) := by decide +kernel
theorem dX11_is_63 : decode cX11_is 63 = .ok (.iload_n 3, 1) := by decide +kernel
theorem dX11_is_64 : decode cX11_is 64 = .ok (.invokevirtual 142, 3) := by decide +kernel
theorem dX11_is_75 : decode cX11_is 75 = .ok (.istore_n 2, 1) := by decide +kernel
theorem dX11_is_76 : decode cX11_is 76 = .ok (.iinc 3 1, 3) := by decide +kernel
theorem dX11_is_79 : decode cX11_is 79 = .ok (.goto (-40), 3) := by decide +kernel
theorem dX11_is_67 : decode cX11_is 67 = .ok (.if_icmp .ne 7, 3) := by decide +kernel
theorem dX11_is_74 : decode cX11_is 74 = .ok (.iconst 0, 1) := by decide +kernel
theorem dX11_is_70 : decode cX11_is 70 = .ok (.iconst 1, 1) := by decide +kernel
theorem dX11_is_71 : decode cX11_is 71 = .ok (.goto 4, 3) := by decide +kernel
theorem dX11_is_35 : decode cX11_is 35 = .ok (.iconst 0, 1) := by decide +kernel
theorem dX11_is_4 : decode cX11_is 4 = .ok (.ifCond .eq 31, 3) := by decide +kernel
theorem dX11_is_7 : decode cX11_is 7 = .ok (.aload_n 0, 1) := by decide +kernel
theorem dX11_is_8 : decode cX11_is 8 = .ok (.getfield 109, 3) := by decide +kernel
theorem dX11_is_11 : decode cX11_is 11 = .ok (.iconst 1, 1) := by decide +kernel
theorem dX11_is_12 : decode cX11_is 12 = .ok (.if_icmp .ne 23, 3) := by decide +kernel
theorem dX11_is_15 : decode cX11_is 15 = .ok (.aload_n 0, 1) := by decide +kernel
theorem dX11_is_16 : decode cX11_is 16 = .ok (.getfield 99, 3) := by decide +kernel
theorem dX11_is_19 : decode cX11_is 19 = .ok (.aload_n 0, 1) := by decide +kernel
theorem dX11_is_20 : decode cX11_is 20 = .ok (.getfield 106, 3) := by decide +kernel
theorem dX11_is_23 : decode cX11_is 23 = .ok (.isub, 1) := by decide +kernel
theorem dX11_is_24 : decode cX11_is 24 = .ok (.aload_n 1, 1) := by decide +kernel
theorem dX11_is_25 : decode cX11_is 25 = .ok (.invokevirtual 136, 3) := by decide +kernel
theorem dX11_is_28 : decode cX11_is 28 = .ok (.if_icmp .ne 7, 3) := by decide +kernel
theorem dX11_is_31 : decode cX11_is 31 = .ok (.iconst 1, 1) := by decide +kernel
theorem dX11_is_32 : decode cX11_is 32 = .ok (.goto 4, 3) := by decide +kernel
theorem dX11_takes_0 : decode cX11_takes 0 = .ok (.aload_n 0, 1) := by decide +kernel
theorem dX11_takes_1 : decode cX11_takes 1 = .ok (.aload_n 1, 1) := by decide +kernel
theorem dX11_takes_2 : decode cX11_takes 2 = .ok (.invokevirtual 146, 3) := by decide +kernel
theorem dX11_takes_5 : decode cX11_takes 5 = .ok (.istore_n 2, 1) := by decide +kernel
theorem dX11_takes_6 : decode cX11_takes 6 = .ok (.iload_n 2, 1) := by decide +kernel
theorem dX11_takes_7 : decode cX11_takes 7 = .ok (.ifCond .eq 7, 3) := by decide +kernel
theorem dX11_takes_14 : decode cX11_takes 14 = .ok (.iload_n 2, 1) := by decide +kernel
theorem dX11_takes_15 : decode cX11_takes 15 = .ok (.ireturn, 1) := by decide +kernel
theorem dX11_takes_10 : decode cX11_takes 10 = .ok (.aload_n 0, 1) := by decide +kernel
theorem dX11_takes_11 : decode cX11_takes 11 = .ok (.invokevirtual 150, 3) := by decide +kernel
theorem dX11_needs_0 : decode cX11_needs 0 = .ok (.aload_n 0, 1) := by decide +kernel
theorem dX11_needs_1 : decode cX11_needs 1 = .ok (.aload_n 1, 1) := by decide +kernel
theorem dX11_needs_2 : decode cX11_needs 2 = .ok (.invokevirtual 153, 3) := by decide +kernel
theorem dX11_needs_5 : decode cX11_needs 5 = .ok (.ifCond .ne 8, 3) := by decide +kernel
theorem dX11_needs_13 : decode cX11_needs 13 = .ok (.return_, 1) := by decide +kernel
theorem dX11_needs_8 : decode cX11_needs 8 = .ok (.aload_n 0, 1) := by decide +kernel
theorem dX11_needs_9 : decode cX11_needs 9 = .ok (.iconst 1, 1) := by decide +kernel
theorem dX11_needs_10 : decode cX11_needs 10 = .ok (.invokevirtual 156, 3) := by decide +kernel
theorem dX11_number_0 : decode cX11_number 0 = .ok (.aload_n 0, 1) := by decide +kernel
theorem dX11_number_1 : decode cX11_number 1 = .ok (.invokevirtual 133, 3) := by decide +kernel
theorem dX11_number_20 : decode cX11_number 20 = .ok (.aload_n 0, 1) := by decide +kernel
theorem dX11_number_21 : decode cX11_number 21 = .ok (.invokevirtual 133, 3) := by decide +kernel
theorem dX11_number_47 : decode cX11_number 47 = .ok (.aload_n 0, 1) := by decide +kernel
theorem dX11_number_48 : decode cX11_number 48 = .ok (.invokevirtual 133, 3) := by decide +kernel
theorem dX11_number_51 : decode cX11_number 51 = .ok (.ifCond .ne 5, 3) := by decide +kernel
theorem dX11_number_56 : decode cX11_number 56 = .ok (.aload_n 0, 1) := by decide +kernel
theorem dX11_number_57 : decode cX11_number 57 = .ok (.getfield 120, 3) := by decide +kernel
theorem dX11_number_60 : decode cX11_number 60 = .ok (.istore_n 3, 1) := by decide +kernel
theorem dX11_number_61 : decode cX11_number 61 = .ok (.aload_n 0, 1) := by decide +kernel
theorem dX11_number_62 : decode cX11_number 62 = .ok (.invokevirtual 150, 3) := by decide +kernel
theorem dX11_number_65 : decode cX11_number 65 = .ok (.iload_n 3, 1) := by decide +kernel
theorem dX11_number_66 : decode cX11_number 66 = .ok (.ireturn, 1) := by decide +kernel
theorem dX11_number_54 : decode cX11_number 54 = .ok (.iconst 0, 1) := by decide +kernel
theorem dX11_number_55 : decode cX11_number 55 = .ok (.ireturn, 1) := by decide +kernel
theorem dX11_number_24 : decode cX11_number 24 = .ok (.ifCond .eq 23, 3) := by decide +kernel
theorem dX11_number_27 : decode cX11_number 27 = .ok (.aload_n 0, 1) := by decide +kernel
theorem dX11_number_28 : decode cX11_number 28 = .ok (.getfield 120, 3) := by decide +kernel
theorem dX11_number_31 : decode cX11_number 31 = .ok (.i2l, 1) := by decide +kernel
theorem dX11_number_32 : decode cX11_number 32 = .ok (.iload_n 1, 1) := by decide +kernel
theorem dX11_number_33 : decode cX11_number 33 = .ok (.i2l, 1) := by decide +kernel
theorem dX11_number_34 : decode cX11_number 34 = .ok (.iload_n 2, 1) := by decide +kernel
theorem dX11_number_35 : decode cX11_number 35 = .ok (.i2l, 1) := by decide +kernel
theorem dX11_number_36 : decode cX11_number 36 = .ok (.invokestatic 79, 3) := by decide +kernel
theorem dX11_number_39 : decode cX11_number 39 = .ok (.ifCond .ne 8, 3) := by decide +kernel
theorem dX11_number_42 : decode cX11_number 42 = .ok (.aload_n 0, 1) := by decide +kernel
theorem dX11_number_43 : decode cX11_number 43 = .ok (.iconst 2, 1) := by decide +kernel
theorem dX11_number_44 : decode cX11_number 44 = .ok (.invokevirtual 156, 3) := by decide +kernel
theorem dX11_number_4 : decode cX11_number 4 = .ok (.ifCond .eq 16, 3) := by decide +kernel
theorem dX11_number_7 : decode cX11_number 7 = .ok (.aload_n 0, 1) := by decide +kernel
theorem dX11_number_8 : decode cX11_number 8 = .ok (.getfield 109, 3) := by decide +kernel
theorem dX11_number_11 : decode cX11_number 11 = .ok (.iconst 2, 1) := by decide +kernel
theorem dX11_number_12 : decode cX11_number 12 = .ok (.if_icmp .eq 8, 3) := by decide +kernel
theorem dX11_number_15 : decode cX11_number 15 = .ok (.aload_n 0, 1) := by decide +kernel
theorem dX11_number_16 : decode cX11_number 16 = .ok (.iconst 1, 1) := by decide +kernel
theorem dX11_number_17 : decode cX11_number 17 = .ok (.invokevirtual 156, 3) := by decide +kernel
theorem dX11_told_0 : decode cX11_told 0 = .ok (.aload_n 0, 1) := by decide +kernel
theorem dX11_told_1 : decode cX11_told 1 = .ok (.aload_n 1, 1) := by decide +kernel
theorem dX11_told_2 : decode cX11_told 2 = .ok (.invokevirtual 160, 3) := by decide +kernel
theorem dX11_told_5 : decode cX11_told 5 = .ok (.aload_n 0, 1) := by decide +kernel
theorem dX11_told_6 : decode cX11_told 6 = .ok (.iload_n 2, 1) := by decide +kernel
theorem dX11_told_7 : decode cX11_told 7 = .ok (.iload_n 3, 1) := by decide +kernel
theorem dX11_told_8 : decode cX11_told 8 = .ok (.invokevirtual 164, 3) := by decide +kernel
theorem dX11_told_11 : decode cX11_told 11 = .ok (.ireturn, 1) := by decide +kernel
theorem dX11_freshRoom_0 : decode cX11_freshRoom 0 = .ok (.aload_n 0, 1) := by decide +kernel
theorem dX11_freshRoom_1 : decode cX11_freshRoom 1 = .ok (.iconst 0, 1) := by decide +kernel
theorem dX11_freshRoom_2 : decode cX11_freshRoom 2 = .ok (.aload_n 0, 1) := by decide +kernel
theorem dX11_freshRoom_3 : decode cX11_freshRoom 3 = .ok (.getfield 31, 3) := by decide +kernel
theorem dX11_freshRoom_6 : decode cX11_freshRoom 6 = .ok (.iconst 4, 1) := by decide +kernel
theorem dX11_freshRoom_7 : decode cX11_freshRoom 7 = .ok (.iaload, 1) := by decide +kernel
theorem dX11_freshRoom_8 : decode cX11_freshRoom 8 = .ok (.iconst 1, 1) := by decide +kernel
theorem dX11_freshRoom_9 : decode cX11_freshRoom 9 = .ok (.isub, 1) := by decide +kernel
theorem dX11_freshRoom_10 : decode cX11_freshRoom 10 = .ok (.invokevirtual 164, 3) := by decide +kernel
theorem dX11_freshRoom_13 : decode cX11_freshRoom 13 = .ok (.ireturn, 1) := by decide +kernel
theorem dX11_freshMan_0 : decode cX11_freshMan 0 = .ok (.aload_n 0, 1) := by decide +kernel
theorem dX11_freshMan_1 : decode cX11_freshMan 1 = .ok (.iconst 0, 1) := by decide +kernel
theorem dX11_freshMan_2 : decode cX11_freshMan 2 = .ok (.aload_n 0, 1) := by decide +kernel
theorem dX11_freshMan_3 : decode cX11_freshMan 3 = .ok (.getfield 31, 3) := by decide +kernel
theorem dX11_freshMan_6 : decode cX11_freshMan 6 = .ok (.iconst 5, 1) := by decide +kernel
theorem dX11_freshMan_7 : decode cX11_freshMan 7 = .ok (.iaload, 1) := by decide +kernel
theorem dX11_freshMan_8 : decode cX11_freshMan 8 = .ok (.iconst 1, 1) := by decide +kernel
theorem dX11_freshMan_9 : decode cX11_freshMan 9 = .ok (.isub, 1) := by decide +kernel
theorem dX11_freshMan_10 : decode cX11_freshMan 10 = .ok (.invokevirtual 164, 3) := by decide +kernel
theorem dX11_freshMan_13 : decode cX11_freshMan 13 = .ok (.ireturn, 1) := by decide +kernel
theorem dX11_readRoom_0 : decode cX11_readRoom 0 = .ok (.bipush 8, 2) := by decide +kernel
theorem dX11_readRoom_2 : decode cX11_readRoom 2 = .ok (.iconst 4, 1) := by decide +kernel
theorem dX11_readRoom_3 : decode cX11_readRoom 3 = .ok (.aload_n 0, 1) := by decide +kernel
theorem dX11_readRoom_4 : decode cX11_readRoom 4 = .ok (.getfield 31, 3) := by decide +kernel
theorem dX11_readRoom_7 : decode cX11_readRoom 7 = .ok (.iconst 4, 1) := by decide +kernel
theorem dX11_readRoom_8 : decode cX11_readRoom 8 = .ok (.iaload, 1) := by decide +kernel
theorem dX11_readRoom_9 : decode cX11_readRoom 9 = .ok (.imul, 1) := by decide +kernel
theorem dX11_readRoom_10 : decode cX11_readRoom 10 = .ok (.iadd, 1) := by decide +kernel
theorem dX11_readRoom_11 : decode cX11_readRoom 11 = .ok (.istore_n 1, 1) := by decide +kernel
theorem dX11_readRoom_12 : decode cX11_readRoom 12 = .ok (.aload_n 0, 1) := by decide +kernel
theorem dX11_readRoom_13 : decode cX11_readRoom 13 = .ok (.getfield 31, 3) := by decide +kernel
theorem dX11_readRoom_16 : decode cX11_readRoom 16 = .ok (.iload_n 1, 1) := by decide +kernel
theorem dX11_readRoom_17 : decode cX11_readRoom 17 = .ok (.iconst 0, 1) := by decide +kernel
theorem dX11_readRoom_18 : decode cX11_readRoom 18 = .ok (.iadd, 1) := by decide +kernel
theorem dX11_readRoom_19 : decode cX11_readRoom 19 = .ok (.aload_n 0, 1) := by decide +kernel
theorem dX11_readRoom_20 : decode cX11_readRoom 20 = .ok (.ldc 167, 2) := by decide +kernel
theorem dX11_readRoom_22 : decode cX11_readRoom 22 = .ok (.iconst 0, 1) := by decide +kernel
theorem dX11_readRoom_23 : decode cX11_readRoom 23 = .ok (.sipush 999, 3) := by decide +kernel
theorem dX11_readRoom_26 : decode cX11_readRoom 26 = .ok (.invokevirtual 169, 3) := by decide +kernel
theorem dX11_readRoom_29 : decode cX11_readRoom 29 = .ok (.iastore, 1) := by decide +kernel
theorem dX11_readRoom_30 : decode cX11_readRoom 30 = .ok (.aload_n 0, 1) := by decide +kernel
theorem dX11_readRoom_31 : decode cX11_readRoom 31 = .ok (.getfield 31, 3) := by decide +kernel
theorem dX11_readRoom_34 : decode cX11_readRoom 34 = .ok (.iload_n 1, 1) := by decide +kernel
theorem dX11_readRoom_35 : decode cX11_readRoom 35 = .ok (.iconst 1, 1) := by decide +kernel
theorem dX11_readRoom_36 : decode cX11_readRoom 36 = .ok (.iadd, 1) := by decide +kernel
theorem dX11_readRoom_37 : decode cX11_readRoom 37 = .ok (.aload_n 0, 1) := by decide +kernel
theorem dX11_readRoom_38 : decode cX11_readRoom 38 = .ok (.ldc 173, 2) := by decide +kernel
theorem dX11_readRoom_40 : decode cX11_readRoom 40 = .ok (.iconst 0, 1) := by decide +kernel
theorem dX11_readRoom_41 : decode cX11_readRoom 41 = .ok (.bipush 100, 2) := by decide +kernel
theorem dX11_readRoom_43 : decode cX11_readRoom 43 = .ok (.invokevirtual 169, 3) := by decide +kernel
theorem dX11_readRoom_46 : decode cX11_readRoom 46 = .ok (.iastore, 1) := by decide +kernel
theorem dX11_readRoom_47 : decode cX11_readRoom 47 = .ok (.aload_n 0, 1) := by decide +kernel
theorem dX11_readRoom_48 : decode cX11_readRoom 48 = .ok (.getfield 31, 3) := by decide +kernel
theorem dX11_readRoom_51 : decode cX11_readRoom 51 = .ok (.iload_n 1, 1) := by decide +kernel
theorem dX11_readRoom_52 : decode cX11_readRoom 52 = .ok (.iconst 2, 1) := by decide +kernel
theorem dX11_readRoom_53 : decode cX11_readRoom 53 = .ok (.iadd, 1) := by decide +kernel
theorem dX11_readRoom_54 : decode cX11_readRoom 54 = .ok (.aload_n 0, 1) := by decide +kernel
theorem dX11_readRoom_55 : decode cX11_readRoom 55 = .ok (.ldc 175, 2) := by decide +kernel
theorem dX11_readRoom_57 : decode cX11_readRoom 57 = .ok (.iconst 0, 1) := by decide +kernel
theorem dX11_readRoom_58 : decode cX11_readRoom 58 = .ok (.bipush 99, 2) := by decide +kernel
theorem dX11_readRoom_60 : decode cX11_readRoom 60 = .ok (.invokevirtual 169, 3) := by decide +kernel
theorem dX11_readRoom_63 : decode cX11_readRoom 63 = .ok (.iastore, 1) := by decide +kernel
theorem dX11_readRoom_64 : decode cX11_readRoom 64 = .ok (.aload_n 0, 1) := by decide +kernel
theorem dX11_readRoom_65 : decode cX11_readRoom 65 = .ok (.getfield 31, 3) := by decide +kernel
theorem dX11_readRoom_68 : decode cX11_readRoom 68 = .ok (.iconst 4, 1) := by decide +kernel
theorem dX11_readRoom_69 : decode cX11_readRoom 69 = .ok (.dup2, 1) := by decide +kernel
theorem dX11_readRoom_70 : decode cX11_readRoom 70 = .ok (.iaload, 1) := by decide +kernel
theorem dX11_readRoom_71 : decode cX11_readRoom 71 = .ok (.iconst 1, 1) := by decide +kernel
theorem dX11_readRoom_72 : decode cX11_readRoom 72 = .ok (.iadd, 1) := by decide +kernel
theorem dX11_readRoom_73 : decode cX11_readRoom 73 = .ok (.iastore, 1) := by decide +kernel
theorem dX11_readRoom_74 : decode cX11_readRoom 74 = .ok (.return_, 1) := by decide +kernel
theorem dX11_readDoor_0 : decode cX11_readDoor 0 = .ok (.aload_n 0, 1) := by decide +kernel
theorem dX11_readDoor_1 : decode cX11_readDoor 1 = .ok (.invokevirtual 177, 3) := by decide +kernel
theorem dX11_readDoor_4 : decode cX11_readDoor 4 = .ok (.istore_n 1, 1) := by decide +kernel
theorem dX11_readDoor_5 : decode cX11_readDoor 5 = .ok (.aload_n 0, 1) := by decide +kernel
theorem dX11_readDoor_6 : decode cX11_readDoor 6 = .ok (.invokevirtual 133, 3) := by decide +kernel
theorem dX11_readDoor_33 : decode cX11_readDoor 33 = .ok (.aload_n 0, 1) := by decide +kernel
theorem dX11_readDoor_34 : decode cX11_readDoor 34 = .ok (.invokevirtual 177, 3) := by decide +kernel
theorem dX11_readDoor_37 : decode cX11_readDoor 37 = .ok (.istore_n 2, 1) := by decide +kernel
theorem dX11_readDoor_38 : decode cX11_readDoor 38 = .ok (.aload_n 0, 1) := by decide +kernel
theorem dX11_readDoor_39 : decode cX11_readDoor 39 = .ok (.invokevirtual 133, 3) := by decide +kernel
theorem dX11_readDoor_42 : decode cX11_readDoor 42 = .ok (.ifCond .ne 4, 3) := by decide +kernel
theorem dX11_readDoor_46 : decode cX11_readDoor 46 = .ok (.aload_n 0, 1) := by decide +kernel
theorem dX11_readDoor_47 : decode cX11_readDoor 47 = .ok (.getfield 31, 3) := by decide +kernel
theorem dX11_readDoor_50 : decode cX11_readDoor 50 = .ok (.bipush 8, 2) := by decide +kernel
theorem dX11_readDoor_52 : decode cX11_readDoor 52 = .ok (.iconst 4, 1) := by decide +kernel
theorem dX11_readDoor_53 : decode cX11_readDoor 53 = .ok (.iload_n 1, 1) := by decide +kernel
theorem dX11_readDoor_54 : decode cX11_readDoor 54 = .ok (.imul, 1) := by decide +kernel
theorem dX11_readDoor_55 : decode cX11_readDoor 55 = .ok (.iadd, 1) := by decide +kernel
theorem dX11_readDoor_56 : decode cX11_readDoor 56 = .ok (.iconst 3, 1) := by decide +kernel
theorem dX11_readDoor_57 : decode cX11_readDoor 57 = .ok (.iadd, 1) := by decide +kernel
theorem dX11_readDoor_58 : decode cX11_readDoor 58 = .ok (.dup2, 1) := by decide +kernel
theorem dX11_readDoor_59 : decode cX11_readDoor 59 = .ok (.iaload, 1) := by decide +kernel
theorem dX11_readDoor_60 : decode cX11_readDoor 60 = .ok (.iconst 1, 1) := by decide +kernel
theorem dX11_readDoor_61 : decode cX11_readDoor 61 = .ok (.iload_n 2, 1) := by decide +kernel
theorem dX11_readDoor_62 : decode cX11_readDoor 62 = .ok (.ishl, 1) := by decide +kernel
theorem dX11_readDoor_63 : decode cX11_readDoor 63 = .ok (.ior, 1) := by decide +kernel
theorem dX11_readDoor_64 : decode cX11_readDoor 64 = .ok (.iastore, 1) := by decide +kernel
theorem dX11_readDoor_65 : decode cX11_readDoor 65 = .ok (.aload_n 0, 1) := by decide +kernel
theorem dX11_readDoor_66 : decode cX11_readDoor 66 = .ok (.getfield 31, 3) := by decide +kernel
theorem dX11_readDoor_69 : decode cX11_readDoor 69 = .ok (.bipush 8, 2) := by decide +kernel
theorem dX11_readDoor_71 : decode cX11_readDoor 71 = .ok (.iconst 4, 1) := by decide +kernel
theorem dX11_readDoor_72 : decode cX11_readDoor 72 = .ok (.iload_n 2, 1) := by decide +kernel
theorem dX11_readDoor_73 : decode cX11_readDoor 73 = .ok (.imul, 1) := by decide +kernel
theorem dX11_readDoor_74 : decode cX11_readDoor 74 = .ok (.iadd, 1) := by decide +kernel
theorem dX11_readDoor_75 : decode cX11_readDoor 75 = .ok (.iconst 3, 1) := by decide +kernel
theorem dX11_readDoor_76 : decode cX11_readDoor 76 = .ok (.iadd, 1) := by decide +kernel
theorem dX11_readDoor_77 : decode cX11_readDoor 77 = .ok (.dup2, 1) := by decide +kernel
theorem dX11_readDoor_78 : decode cX11_readDoor 78 = .ok (.iaload, 1) := by decide +kernel
theorem dX11_readDoor_79 : decode cX11_readDoor 79 = .ok (.iconst 1, 1) := by decide +kernel
theorem dX11_readDoor_80 : decode cX11_readDoor 80 = .ok (.iload_n 1, 1) := by decide +kernel
theorem dX11_readDoor_81 : decode cX11_readDoor 81 = .ok (.ishl, 1) := by decide +kernel
theorem dX11_readDoor_82 : decode cX11_readDoor 82 = .ok (.ior, 1) := by decide +kernel
theorem dX11_readDoor_83 : decode cX11_readDoor 83 = .ok (.iastore, 1) := by decide +kernel
theorem dX11_readDoor_84 : decode cX11_readDoor 84 = .ok (.return_, 1) := by decide +kernel
theorem dX11_readDoor_45 : decode cX11_readDoor 45 = .ok (.return_, 1) := by decide +kernel
theorem dX11_readDoor_9 : decode cX11_readDoor 9 = .ok (.ifCond .eq 24, 3) := by decide +kernel
theorem dX11_readDoor_12 : decode cX11_readDoor 12 = .ok (.aload_n 0, 1) := by decide +kernel
theorem dX11_readDoor_13 : decode cX11_readDoor 13 = .ok (.getfield 109, 3) := by decide +kernel
theorem dX11_readDoor_16 : decode cX11_readDoor 16 = .ok (.iconst 2, 1) := by decide +kernel
theorem dX11_readDoor_17 : decode cX11_readDoor 17 = .ok (.if_icmp .ne 16, 3) := by decide +kernel
theorem dX11_readDoor_20 : decode cX11_readDoor 20 = .ok (.aload_n 0, 1) := by decide +kernel
theorem dX11_readDoor_21 : decode cX11_readDoor 21 = .ok (.getfield 120, 3) := by decide +kernel
theorem dX11_readDoor_24 : decode cX11_readDoor 24 = .ok (.iload_n 1, 1) := by decide +kernel
theorem dX11_readDoor_25 : decode cX11_readDoor 25 = .ok (.if_icmp .ne 8, 3) := by decide +kernel
theorem dX11_readDoor_28 : decode cX11_readDoor 28 = .ok (.aload_n 0, 1) := by decide +kernel
theorem dX11_readDoor_29 : decode cX11_readDoor 29 = .ok (.iconst 2, 1) := by decide +kernel
theorem dX11_readDoor_30 : decode cX11_readDoor 30 = .ok (.invokevirtual 156, 3) := by decide +kernel
theorem dX11_readMan_0 : decode cX11_readMan 0 = .ok (.aload_n 0, 1) := by decide +kernel
theorem dX11_readMan_1 : decode cX11_readMan 1 = .ok (.getfield 31, 3) := by decide +kernel
theorem dX11_readMan_4 : decode cX11_readMan 4 = .ok (.iconst 5, 1) := by decide +kernel
theorem dX11_readMan_5 : decode cX11_readMan 5 = .ok (.iaload, 1) := by decide +kernel
theorem dX11_readMan_6 : decode cX11_readMan 6 = .ok (.istore_n 1, 1) := by decide +kernel
theorem dX11_readMan_7 : decode cX11_readMan 7 = .ok (.bipush 36, 2) := by decide +kernel
theorem dX11_readMan_9 : decode cX11_readMan 9 = .ok (.bipush 8, 2) := by decide +kernel
theorem dX11_readMan_11 : decode cX11_readMan 11 = .ok (.iload_n 1, 1) := by decide +kernel
theorem dX11_readMan_12 : decode cX11_readMan 12 = .ok (.imul, 1) := by decide +kernel
theorem dX11_readMan_13 : decode cX11_readMan 13 = .ok (.iadd, 1) := by decide +kernel
theorem dX11_readMan_14 : decode cX11_readMan 14 = .ok (.istore_n 2, 1) := by decide +kernel
theorem dX11_readMan_15 : decode cX11_readMan 15 = .ok (.aload_n 0, 1) := by decide +kernel
theorem dX11_readMan_16 : decode cX11_readMan 16 = .ok (.getfield 31, 3) := by decide +kernel
theorem dX11_readMan_19 : decode cX11_readMan 19 = .ok (.iload_n 2, 1) := by decide +kernel
theorem dX11_readMan_20 : decode cX11_readMan 20 = .ok (.iconst 0, 1) := by decide +kernel
theorem dX11_readMan_21 : decode cX11_readMan 21 = .ok (.iadd, 1) := by decide +kernel
theorem dX11_readMan_22 : decode cX11_readMan 22 = .ok (.aload_n 0, 1) := by decide +kernel
theorem dX11_readMan_23 : decode cX11_readMan 23 = .ok (.ldc 180, 2) := by decide +kernel
theorem dX11_readMan_25 : decode cX11_readMan 25 = .ok (.iconst 1, 1) := by decide +kernel
theorem dX11_readMan_26 : decode cX11_readMan 26 = .ok (.bipush 99, 2) := by decide +kernel
theorem dX11_readMan_28 : decode cX11_readMan 28 = .ok (.invokevirtual 169, 3) := by decide +kernel
theorem dX11_readMan_31 : decode cX11_readMan 31 = .ok (.iastore, 1) := by decide +kernel
theorem dX11_readMan_32 : decode cX11_readMan 32 = .ok (.iconst 0, 1) := by decide +kernel
theorem dX11_readMan_33 : decode cX11_readMan 33 = .ok (.istore_n 3, 1) := by decide +kernel
theorem dX11_readMan_34 : decode cX11_readMan 34 = .ok (.aload_n 0, 1) := by decide +kernel
theorem dX11_readMan_35 : decode cX11_readMan 35 = .ok (.ldc 182, 2) := by decide +kernel
theorem dX11_readMan_37 : decode cX11_readMan 37 = .ok (.invokevirtual 153, 3) := by decide +kernel
theorem dX11_readMan_74 : decode cX11_readMan 74 = .ok (.aload_n 0, 1) := by decide +kernel
theorem dX11_readMan_75 : decode cX11_readMan 75 = .ok (.getfield 31, 3) := by decide +kernel
theorem dX11_readMan_78 : decode cX11_readMan 78 = .ok (.iload_n 2, 1) := by decide +kernel
theorem dX11_readMan_79 : decode cX11_readMan 79 = .ok (.iconst 1, 1) := by decide +kernel
theorem dX11_readMan_80 : decode cX11_readMan 80 = .ok (.iadd, 1) := by decide +kernel
theorem dX11_readMan_81 : decode cX11_readMan 81 = .ok (.iload_n 3, 1) := by decide +kernel
theorem dX11_readMan_82 : decode cX11_readMan 82 = .ok (.iastore, 1) := by decide +kernel
theorem dX11_readMan_83 : decode cX11_readMan 83 = .ok (.iconst 0, 1) := by decide +kernel
theorem dX11_readMan_84 : decode cX11_readMan 84 = .ok (.istore 4, 2) := by decide +kernel
theorem dX11_readMan_86 : decode cX11_readMan 86 = .ok (.iload 4, 2) := by decide +kernel
theorem dX11_readMan_88 : decode cX11_readMan 88 = .ok (.bipush 6, 2) := by decide +kernel
theorem dX11_readMan_90 : decode cX11_readMan 90 = .ok (.if_icmp .ge 31, 3) := by decide +kernel
theorem dX11_readMan_121 : decode cX11_readMan 121 = .ok (.aload_n 0, 1) := by decide +kernel
theorem dX11_readMan_122 : decode cX11_readMan 122 = .ok (.getfield 31, 3) := by decide +kernel
theorem dX11_readMan_125 : decode cX11_readMan 125 = .ok (.iconst 5, 1) := by decide +kernel
theorem dX11_readMan_126 : decode cX11_readMan 126 = .ok (.dup2, 1) := by decide +kernel
theorem dX11_readMan_127 : decode cX11_readMan 127 = .ok (.iaload, 1) := by decide +kernel
theorem dX11_readMan_128 : decode cX11_readMan 128 = .ok (.iconst 1, 1) := by decide +kernel
theorem dX11_readMan_129 : decode cX11_readMan 129 = .ok (.iadd, 1) := by decide +kernel
theorem dX11_readMan_130 : decode cX11_readMan 130 = .ok (.iastore, 1) := by decide +kernel
theorem dX11_readMan_131 : decode cX11_readMan 131 = .ok (.return_, 1) := by decide +kernel
theorem dX11_readMan_93 : decode cX11_readMan 93 = .ok (.aload_n 0, 1) := by decide +kernel
theorem dX11_readMan_94 : decode cX11_readMan 94 = .ok (.getfield 31, 3) := by decide +kernel
theorem dX11_readMan_97 : decode cX11_readMan 97 = .ok (.iload_n 2, 1) := by decide +kernel
theorem dX11_readMan_98 : decode cX11_readMan 98 = .ok (.iconst 2, 1) := by decide +kernel
theorem dX11_readMan_99 : decode cX11_readMan 99 = .ok (.iadd, 1) := by decide +kernel
theorem dX11_readMan_100 : decode cX11_readMan 100 = .ok (.iload 4, 2) := by decide +kernel
theorem dX11_readMan_102 : decode cX11_readMan 102 = .ok (.iadd, 1) := by decide +kernel
theorem dX11_readMan_103 : decode cX11_readMan 103 = .ok (.iload 4, 2) := by decide +kernel
theorem dX11_readMan_105 : decode cX11_readMan 105 = .ok (.iload_n 1, 1) := by decide +kernel
theorem dX11_readMan_114 : decode cX11_readMan 114 = .ok (.iastore, 1) := by decide +kernel
theorem dX11_readMan_115 : decode cX11_readMan 115 = .ok (.iinc 4 1, 3) := by decide +kernel
theorem dX11_readMan_118 : decode cX11_readMan 118 = .ok (.goto (-32), 3) := by decide +kernel
theorem dX11_readMan_106 : decode cX11_readMan 106 = .ok (.if_icmp .ne 7, 3) := by decide +kernel
theorem dX11_readMan_113 : decode cX11_readMan 113 = .ok (.iconst 0, 1) := by decide +kernel
theorem dX11_readMan_109 : decode cX11_readMan 109 = .ok (.iconst 1, 1) := by decide +kernel
theorem dX11_readMan_110 : decode cX11_readMan 110 = .ok (.goto 4, 3) := by decide +kernel
theorem dX11_readMan_40 : decode cX11_readMan 40 = .ok (.ifCond .eq 34, 3) := by decide +kernel
theorem dX11_readMan_43 : decode cX11_readMan 43 = .ok (.aload_n 0, 1) := by decide +kernel
theorem dX11_readMan_44 : decode cX11_readMan 44 = .ok (.iconst 0, 1) := by decide +kernel
theorem dX11_readMan_45 : decode cX11_readMan 45 = .ok (.iconst 5, 1) := by decide +kernel
theorem dX11_readMan_46 : decode cX11_readMan 46 = .ok (.invokevirtual 164, 3) := by decide +kernel
theorem dX11_readMan_49 : decode cX11_readMan 49 = .ok (.istore 4, 2) := by decide +kernel
theorem dX11_readMan_51 : decode cX11_readMan 51 = .ok (.aload_n 0, 1) := by decide +kernel
theorem dX11_readMan_52 : decode cX11_readMan 52 = .ok (.invokevirtual 133, 3) := by decide +kernel
theorem dX11_readMan_55 : decode cX11_readMan 55 = .ok (.ifCond .ne 4, 3) := by decide +kernel
theorem dX11_readMan_59 : decode cX11_readMan 59 = .ok (.iload_n 3, 1) := by decide +kernel
theorem dX11_readMan_60 : decode cX11_readMan 60 = .ok (.iconst 1, 1) := by decide +kernel
theorem dX11_readMan_61 : decode cX11_readMan 61 = .ok (.iload 4, 2) := by decide +kernel
theorem dX11_readMan_63 : decode cX11_readMan 63 = .ok (.ishl, 1) := by decide +kernel
theorem dX11_readMan_64 : decode cX11_readMan 64 = .ok (.ior, 1) := by decide +kernel
theorem dX11_readMan_65 : decode cX11_readMan 65 = .ok (.istore_n 3, 1) := by decide +kernel
theorem dX11_readMan_66 : decode cX11_readMan 66 = .ok (.aload_n 0, 1) := by decide +kernel
theorem dX11_readMan_67 : decode cX11_readMan 67 = .ok (.getfield 109, 3) := by decide +kernel
theorem dX11_readMan_70 : decode cX11_readMan 70 = .ok (.iconst 3, 1) := by decide +kernel
theorem dX11_readMan_71 : decode cX11_readMan 71 = .ok (.if_icmp .ne (-28), 3) := by decide +kernel
theorem dX11_readMan_58 : decode cX11_readMan 58 = .ok (.return_, 1) := by decide +kernel
theorem dX11_readSlate_0 : decode cX11_readSlate 0 = .ok (.aload_n 0, 1) := by decide +kernel
theorem dX11_readSlate_1 : decode cX11_readSlate 1 = .ok (.invokevirtual 184, 3) := by decide +kernel
theorem dX11_readSlate_4 : decode cX11_readSlate 4 = .ok (.istore_n 1, 1) := by decide +kernel
theorem dX11_readSlate_5 : decode cX11_readSlate 5 = .ok (.aload_n 0, 1) := by decide +kernel
theorem dX11_readSlate_6 : decode cX11_readSlate 6 = .ok (.ldc 187, 2) := by decide +kernel
theorem dX11_readSlate_8 : decode cX11_readSlate 8 = .ok (.invokevirtual 160, 3) := by decide +kernel
theorem dX11_readSlate_11 : decode cX11_readSlate 11 = .ok (.aload_n 0, 1) := by decide +kernel
theorem dX11_readSlate_12 : decode cX11_readSlate 12 = .ok (.invokevirtual 184, 3) := by decide +kernel
theorem dX11_readSlate_15 : decode cX11_readSlate 15 = .ok (.istore_n 2, 1) := by decide +kernel
theorem dX11_readSlate_16 : decode cX11_readSlate 16 = .ok (.aload_n 0, 1) := by decide +kernel
theorem dX11_readSlate_17 : decode cX11_readSlate 17 = .ok (.iconst 0, 1) := by decide +kernel
theorem dX11_readSlate_18 : decode cX11_readSlate 18 = .ok (.bipush 9, 2) := by decide +kernel
theorem dX11_readSlate_20 : decode cX11_readSlate 20 = .ok (.invokevirtual 164, 3) := by decide +kernel
theorem dX11_readSlate_23 : decode cX11_readSlate 23 = .ok (.istore_n 3, 1) := by decide +kernel
theorem dX11_readSlate_24 : decode cX11_readSlate 24 = .ok (.aload_n 0, 1) := by decide +kernel
theorem dX11_readSlate_25 : decode cX11_readSlate 25 = .ok (.invokevirtual 133, 3) := by decide +kernel
theorem dX11_readSlate_28 : decode cX11_readSlate 28 = .ok (.ifCond .eq 20, 3) := by decide +kernel
theorem dX11_readSlate_48 : decode cX11_readSlate 48 = .ok (.return_, 1) := by decide +kernel
theorem dX11_readSlate_31 : decode cX11_readSlate 31 = .ok (.aload_n 0, 1) := by decide +kernel
theorem dX11_readSlate_32 : decode cX11_readSlate 32 = .ok (.getfield 31, 3) := by decide +kernel
theorem dX11_readSlate_35 : decode cX11_readSlate 35 = .ok (.bipush 36, 2) := by decide +kernel
theorem dX11_readSlate_37 : decode cX11_readSlate 37 = .ok (.bipush 8, 2) := by decide +kernel
theorem dX11_readSlate_39 : decode cX11_readSlate 39 = .ok (.iload_n 1, 1) := by decide +kernel
theorem dX11_readSlate_40 : decode cX11_readSlate 40 = .ok (.imul, 1) := by decide +kernel
theorem dX11_readSlate_41 : decode cX11_readSlate 41 = .ok (.iadd, 1) := by decide +kernel
theorem dX11_readSlate_42 : decode cX11_readSlate 42 = .ok (.iconst 2, 1) := by decide +kernel
theorem dX11_readSlate_43 : decode cX11_readSlate 43 = .ok (.iadd, 1) := by decide +kernel
theorem dX11_readSlate_44 : decode cX11_readSlate 44 = .ok (.iload_n 2, 1) := by decide +kernel
theorem dX11_readSlate_45 : decode cX11_readSlate 45 = .ok (.iadd, 1) := by decide +kernel
theorem dX11_readSlate_46 : decode cX11_readSlate 46 = .ok (.iload_n 3, 1) := by decide +kernel
theorem dX11_readSlate_47 : decode cX11_readSlate 47 = .ok (.iastore, 1) := by decide +kernel
theorem dX11_readNext_0 : decode cX11_readNext 0 = .ok (.aload_n 0, 1) := by decide +kernel
theorem dX11_readNext_1 : decode cX11_readNext 1 = .ok (.ldc 189, 2) := by decide +kernel
theorem dX11_readNext_3 : decode cX11_readNext 3 = .ok (.invokevirtual 146, 3) := by decide +kernel
theorem dX11_readNext_41 : decode cX11_readNext 41 = .ok (.istore_n 1, 1) := by decide +kernel
theorem dX11_readNext_42 : decode cX11_readNext 42 = .ok (.iload_n 1, 1) := by decide +kernel
theorem dX11_readNext_51 : decode cX11_readNext 51 = .ok (.aload_n 0, 1) := by decide +kernel
theorem dX11_readNext_52 : decode cX11_readNext 52 = .ok (.ldc 189, 2) := by decide +kernel
theorem dX11_readNext_54 : decode cX11_readNext 54 = .ok (.invokevirtual 146, 3) := by decide +kernel
theorem dX11_readNext_96 : decode cX11_readNext 96 = .ok (.aload_n 0, 1) := by decide +kernel
theorem dX11_readNext_97 : decode cX11_readNext 97 = .ok (.invokevirtual 133, 3) := by decide +kernel
theorem dX11_readNext_100 : decode cX11_readNext 100 = .ok (.ifCond .ne 4, 3) := by decide +kernel
theorem dX11_readNext_104 : decode cX11_readNext 104 = .ok (.aload_n 0, 1) := by decide +kernel
theorem dX11_readNext_105 : decode cX11_readNext 105 = .ok (.ldc 189, 2) := by decide +kernel
theorem dX11_readNext_107 : decode cX11_readNext 107 = .ok (.invokevirtual 153, 3) := by decide +kernel
theorem dX11_readNext_110 : decode cX11_readNext 110 = .ok (.ifCond .eq 10, 3) := by decide +kernel
theorem dX11_readNext_120 : decode cX11_readNext 120 = .ok (.aload_n 0, 1) := by decide +kernel
theorem dX11_readNext_121 : decode cX11_readNext 121 = .ok (.ldc 191, 2) := by decide +kernel
theorem dX11_readNext_123 : decode cX11_readNext 123 = .ok (.invokevirtual 153, 3) := by decide +kernel
theorem dX11_readNext_126 : decode cX11_readNext 126 = .ok (.ifCond .eq 10, 3) := by decide +kernel
theorem dX11_readNext_136 : decode cX11_readNext 136 = .ok (.aload_n 0, 1) := by decide +kernel
theorem dX11_readNext_137 : decode cX11_readNext 137 = .ok (.ldc 193, 2) := by decide +kernel
theorem dX11_readNext_139 : decode cX11_readNext 139 = .ok (.invokevirtual 153, 3) := by decide +kernel
theorem dX11_readNext_142 : decode cX11_readNext 142 = .ok (.ifCond .eq 10, 3) := by decide +kernel
theorem dX11_readNext_152 : decode cX11_readNext 152 = .ok (.aload_n 0, 1) := by decide +kernel
theorem dX11_readNext_153 : decode cX11_readNext 153 = .ok (.invokevirtual 150, 3) := by decide +kernel
theorem dX11_readNext_156 : decode cX11_readNext 156 = .ok (.aload_n 0, 1) := by decide +kernel
theorem dX11_readNext_157 : decode cX11_readNext 157 = .ok (.invokevirtual 206, 3) := by decide +kernel
theorem dX11_readNext_160 : decode cX11_readNext 160 = .ok (.return_, 1) := by decide +kernel
theorem dX11_readNext_145 : decode cX11_readNext 145 = .ok (.aload_n 0, 1) := by decide +kernel
theorem dX11_readNext_146 : decode cX11_readNext 146 = .ok (.invokevirtual 203, 3) := by decide +kernel
theorem dX11_readNext_149 : decode cX11_readNext 149 = .ok (.goto 11, 3) := by decide +kernel
theorem dX11_readNext_129 : decode cX11_readNext 129 = .ok (.aload_n 0, 1) := by decide +kernel
theorem dX11_readNext_130 : decode cX11_readNext 130 = .ok (.invokevirtual 200, 3) := by decide +kernel
theorem dX11_readNext_133 : decode cX11_readNext 133 = .ok (.goto 27, 3) := by decide +kernel
theorem dX11_readNext_113 : decode cX11_readNext 113 = .ok (.aload_n 0, 1) := by decide +kernel
theorem dX11_readNext_114 : decode cX11_readNext 114 = .ok (.invokevirtual 197, 3) := by decide +kernel
theorem dX11_readNext_117 : decode cX11_readNext 117 = .ok (.goto 43, 3) := by decide +kernel
theorem dX11_readNext_103 : decode cX11_readNext 103 = .ok (.return_, 1) := by decide +kernel
theorem dX11_readNext_91 : decode cX11_readNext 91 = .ok (.aload_n 0, 1) := by decide +kernel
theorem dX11_readNext_92 : decode cX11_readNext 92 = .ok (.iconst 3, 1) := by decide +kernel
theorem dX11_readNext_93 : decode cX11_readNext 93 = .ok (.invokevirtual 156, 3) := by decide +kernel
theorem dX11_readNext_71 : decode cX11_readNext 71 = .ok (.aload_n 0, 1) := by decide +kernel
theorem dX11_readNext_72 : decode cX11_readNext 72 = .ok (.ldc 193, 2) := by decide +kernel
theorem dX11_readNext_74 : decode cX11_readNext 74 = .ok (.invokevirtual 146, 3) := by decide +kernel
theorem dX11_readNext_77 : decode cX11_readNext 77 = .ok (.ifCond .eq 19, 3) := by decide +kernel
theorem dX11_readNext_80 : decode cX11_readNext 80 = .ok (.aload_n 0, 1) := by decide +kernel
theorem dX11_readNext_81 : decode cX11_readNext 81 = .ok (.getfield 31, 3) := by decide +kernel
theorem dX11_readNext_84 : decode cX11_readNext 84 = .ok (.iconst 5, 1) := by decide +kernel
theorem dX11_readNext_85 : decode cX11_readNext 85 = .ok (.iaload, 1) := by decide +kernel
theorem dX11_readNext_86 : decode cX11_readNext 86 = .ok (.bipush 6, 2) := by decide +kernel
theorem dX11_readNext_88 : decode cX11_readNext 88 = .ok (.if_icmp .ne 8, 3) := by decide +kernel
theorem dX11_readNext_57 : decode cX11_readNext 57 = .ok (.ifCond .eq 14, 3) := by decide +kernel
theorem dX11_readNext_60 : decode cX11_readNext 60 = .ok (.aload_n 0, 1) := by decide +kernel
theorem dX11_readNext_61 : decode cX11_readNext 61 = .ok (.getfield 31, 3) := by decide +kernel
theorem dX11_readNext_64 : decode cX11_readNext 64 = .ok (.iconst 4, 1) := by decide +kernel
theorem dX11_readNext_65 : decode cX11_readNext 65 = .ok (.iaload, 1) := by decide +kernel
theorem dX11_readNext_66 : decode cX11_readNext 66 = .ok (.bipush 7, 2) := by decide +kernel
theorem dX11_readNext_68 : decode cX11_readNext 68 = .ok (.if_icmp .eq 23, 3) := by decide +kernel
theorem dX11_readNext_43 : decode cX11_readNext 43 = .ok (.ifCond .ne 8, 3) := by decide +kernel
theorem dX11_readNext_46 : decode cX11_readNext 46 = .ok (.aload_n 0, 1) := by decide +kernel
theorem dX11_readNext_47 : decode cX11_readNext 47 = .ok (.iconst 1, 1) := by decide +kernel
theorem dX11_readNext_48 : decode cX11_readNext 48 = .ok (.invokevirtual 156, 3) := by decide +kernel
theorem dX11_readNext_36 : decode cX11_readNext 36 = .ok (.iconst 1, 1) := by decide +kernel
theorem dX11_readNext_37 : decode cX11_readNext 37 = .ok (.goto 4, 3) := by decide +kernel
theorem dX11_readNext_6 : decode cX11_readNext 6 = .ok (.ifCond .ne 30, 3) := by decide +kernel
theorem dX11_readNext_9 : decode cX11_readNext 9 = .ok (.aload_n 0, 1) := by decide +kernel
theorem dX11_readNext_10 : decode cX11_readNext 10 = .ok (.ldc 191, 2) := by decide +kernel
theorem dX11_readNext_12 : decode cX11_readNext 12 = .ok (.invokevirtual 146, 3) := by decide +kernel
theorem dX11_readNext_15 : decode cX11_readNext 15 = .ok (.ifCond .ne 21, 3) := by decide +kernel
theorem dX11_readNext_18 : decode cX11_readNext 18 = .ok (.aload_n 0, 1) := by decide +kernel
theorem dX11_readNext_19 : decode cX11_readNext 19 = .ok (.ldc 193, 2) := by decide +kernel
theorem dX11_readNext_21 : decode cX11_readNext 21 = .ok (.invokevirtual 146, 3) := by decide +kernel
theorem dX11_readNext_24 : decode cX11_readNext 24 = .ok (.ifCond .ne 12, 3) := by decide +kernel
theorem dX11_readNext_27 : decode cX11_readNext 27 = .ok (.aload_n 0, 1) := by decide +kernel
theorem dX11_readNext_28 : decode cX11_readNext 28 = .ok (.ldc 195, 2) := by decide +kernel
theorem dX11_readNext_30 : decode cX11_readNext 30 = .ok (.invokevirtual 146, 3) := by decide +kernel
theorem dX11_readNext_33 : decode cX11_readNext 33 = .ok (.ifCond .eq 7, 3) := by decide +kernel
theorem dX11_readNext_40 : decode cX11_readNext 40 = .ok (.iconst 0, 1) := by decide +kernel
theorem dX11_readLine_0 : decode cX11_readLine 0 = .ok (.aload_n 0, 1) := by decide +kernel
theorem dX11_readLine_1 : decode cX11_readLine 1 = .ok (.getfield 31, 3) := by decide +kernel
theorem dX11_readLine_4 : decode cX11_readLine 4 = .ok (.bipush 6, 2) := by decide +kernel
theorem dX11_readLine_6 : decode cX11_readLine 6 = .ok (.iaload, 1) := by decide +kernel
theorem dX11_readLine_85 : decode cX11_readLine 85 = .ok (.aload_n 0, 1) := by decide +kernel
theorem dX11_readLine_86 : decode cX11_readLine 86 = .ok (.invokevirtual 133, 3) := by decide +kernel
theorem dX11_readLine_105 : decode cX11_readLine 105 = .ok (.aload_n 0, 1) := by decide +kernel
theorem dX11_readLine_106 : decode cX11_readLine 106 = .ok (.invokevirtual 133, 3) := by decide +kernel
theorem dX11_readLine_116 : decode cX11_readLine 116 = .ok (.aload_n 0, 1) := by decide +kernel
theorem dX11_readLine_117 : decode cX11_readLine 117 = .ok (.getfield 31, 3) := by decide +kernel
theorem dX11_readLine_120 : decode cX11_readLine 120 = .ok (.bipush 6, 2) := by decide +kernel
theorem dX11_readLine_122 : decode cX11_readLine 122 = .ok (.dup2, 1) := by decide +kernel
theorem dX11_readLine_123 : decode cX11_readLine 123 = .ok (.iaload, 1) := by decide +kernel
theorem dX11_readLine_124 : decode cX11_readLine 124 = .ok (.iconst 1, 1) := by decide +kernel
theorem dX11_readLine_125 : decode cX11_readLine 125 = .ok (.iadd, 1) := by decide +kernel
theorem dX11_readLine_126 : decode cX11_readLine 126 = .ok (.iastore, 1) := by decide +kernel
theorem dX11_readLine_127 : decode cX11_readLine 127 = .ok (.return_, 1) := by decide +kernel
theorem dX11_readLine_109 : decode cX11_readLine 109 = .ok (.ifCond .eq 7, 3) := by decide +kernel
theorem dX11_readLine_112 : decode cX11_readLine 112 = .ok (.aload_n 0, 1) := by decide +kernel
theorem dX11_readLine_113 : decode cX11_readLine 113 = .ok (.invokevirtual 150, 3) := by decide +kernel
theorem dX11_readLine_89 : decode cX11_readLine 89 = .ok (.ifCond .eq 16, 3) := by decide +kernel
theorem dX11_readLine_92 : decode cX11_readLine 92 = .ok (.aload_n 0, 1) := by decide +kernel
theorem dX11_readLine_93 : decode cX11_readLine 93 = .ok (.getfield 109, 3) := by decide +kernel
theorem dX11_readLine_96 : decode cX11_readLine 96 = .ok (.iconst 3, 1) := by decide +kernel
theorem dX11_readLine_97 : decode cX11_readLine 97 = .ok (.if_icmp .eq 8, 3) := by decide +kernel
theorem dX11_readLine_100 : decode cX11_readLine 100 = .ok (.aload_n 0, 1) := by decide +kernel
theorem dX11_readLine_101 : decode cX11_readLine 101 = .ok (.iconst 1, 1) := by decide +kernel
theorem dX11_readLine_102 : decode cX11_readLine 102 = .ok (.invokevirtual 156, 3) := by decide +kernel
theorem dX11_readLine_7 : decode cX11_readLine 7 = .ok (.ifCond .ne 74, 3) := by decide +kernel
theorem dX11_readLine_81 : decode cX11_readLine 81 = .ok (.aload_n 0, 1) := by decide +kernel
theorem dX11_readLine_82 : decode cX11_readLine 82 = .ok (.invokevirtual 219, 3) := by decide +kernel
theorem dX11_readLine_10 : decode cX11_readLine 10 = .ok (.aload_n 0, 1) := by decide +kernel
theorem dX11_readLine_11 : decode cX11_readLine 11 = .ok (.ldc 209, 2) := by decide +kernel
theorem dX11_readLine_13 : decode cX11_readLine 13 = .ok (.invokevirtual 160, 3) := by decide +kernel
theorem dX11_readLine_16 : decode cX11_readLine 16 = .ok (.aload_n 0, 1) := by decide +kernel
theorem dX11_readLine_17 : decode cX11_readLine 17 = .ok (.getfield 31, 3) := by decide +kernel
theorem dX11_readLine_20 : decode cX11_readLine 20 = .ok (.iconst 0, 1) := by decide +kernel
theorem dX11_readLine_21 : decode cX11_readLine 21 = .ok (.aload_n 0, 1) := by decide +kernel
theorem dX11_readLine_22 : decode cX11_readLine 22 = .ok (.ldc 211, 2) := by decide +kernel
theorem dX11_readLine_24 : decode cX11_readLine 24 = .ok (.iconst 0, 1) := by decide +kernel
theorem dX11_readLine_25 : decode cX11_readLine 25 = .ok (.bipush 100, 2) := by decide +kernel
theorem dX11_readLine_27 : decode cX11_readLine 27 = .ok (.invokevirtual 169, 3) := by decide +kernel
theorem dX11_readLine_30 : decode cX11_readLine 30 = .ok (.iastore, 1) := by decide +kernel
theorem dX11_readLine_31 : decode cX11_readLine 31 = .ok (.aload_n 0, 1) := by decide +kernel
theorem dX11_readLine_32 : decode cX11_readLine 32 = .ok (.getfield 31, 3) := by decide +kernel
theorem dX11_readLine_35 : decode cX11_readLine 35 = .ok (.iconst 1, 1) := by decide +kernel
theorem dX11_readLine_36 : decode cX11_readLine 36 = .ok (.aload_n 0, 1) := by decide +kernel
theorem dX11_readLine_37 : decode cX11_readLine 37 = .ok (.ldc 213, 2) := by decide +kernel
theorem dX11_readLine_39 : decode cX11_readLine 39 = .ok (.iconst 0, 1) := by decide +kernel
