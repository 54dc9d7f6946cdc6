theorem dX5_copyFrom_15 : decode cX5_copyFrom 15 = .ok (.aload_n 0, 1) := by decide +kernel
theorem dX5_copyFrom_16 : decode cX5_copyFrom 16 = .ok (.aload_n 1, 1) := by decide +kernel
theorem dX5_copyFrom_17 : decode cX5_copyFrom 17 = .ok (.getfield 41, 3) := by decide +kernel
theorem dX5_copyFrom_20 : decode cX5_copyFrom 20 = .ok (.putfield 41, 3) := by decide +kernel
theorem dX5_copyFrom_23 : decode cX5_copyFrom 23 = .ok (.aload_n 0, 1) := by decide +kernel
theorem dX5_copyFrom_24 : decode cX5_copyFrom 24 = .ok (.aload_n 1, 1) := by decide +kernel
theorem dX5_copyFrom_25 : decode cX5_copyFrom 25 = .ok (.getfield 44, 3) := by decide +kernel
theorem dX5_copyFrom_28 : decode cX5_copyFrom 28 = .ok (.putfield 44, 3) := by decide +kernel
theorem dX5_copyFrom_31 : decode cX5_copyFrom 31 = .ok (.return_, 1) := by decide +kernel
theorem dX5_begin_0 : decode cX5_begin 0 = .ok (.aload_n 1, 1) := by decide +kernel
theorem dX5_begin_1 : decode cX5_begin 1 = .ok (.invokevirtual 18, 3) := by decide +kernel
theorem dX5_begin_4 : decode cX5_begin 4 = .ok (.istore_n 2, 1) := by decide +kernel
theorem dX5_begin_5 : decode cX5_begin 5 = .ok (.ldc 24, 2) := by decide +kernel
theorem dX5_begin_7 : decode cX5_begin 7 = .ok (.istore_n 3, 1) := by decide +kernel
theorem dX5_begin_8 : decode cX5_begin 8 = .ok (.aload_n 0, 1) := by decide +kernel
theorem dX5_begin_9 : decode cX5_begin 9 = .ok (.getfield 9, 3) := by decide +kernel
theorem dX5_begin_12 : decode cX5_begin 12 = .ok (.iconst 0, 1) := by decide +kernel
theorem dX5_begin_13 : decode cX5_begin 13 = .ok (.invokestatic 25, 3) := by decide +kernel
theorem dX5_begin_16 : decode cX5_begin 16 = .ok (.iconst 0, 1) := by decide +kernel
theorem dX5_begin_17 : decode cX5_begin 17 = .ok (.istore 4, 2) := by decide +kernel
theorem dX5_begin_19 : decode cX5_begin 19 = .ok (.iload 4, 2) := by decide +kernel
theorem dX5_begin_21 : decode cX5_begin 21 = .ok (.aload_n 1, 1) := by decide +kernel
theorem dX5_begin_22 : decode cX5_begin 22 = .ok (.getfield 31, 3) := by decide +kernel
theorem dX5_begin_25 : decode cX5_begin 25 = .ok (.if_icmp .ge 52, 3) := by decide +kernel
theorem dX5_begin_77 : decode cX5_begin 77 = .ok (.aload_n 0, 1) := by decide +kernel
theorem dX5_begin_78 : decode cX5_begin 78 = .ok (.iload_n 3, 1) := by decide +kernel
theorem dX5_begin_79 : decode cX5_begin 79 = .ok (.putfield 41, 3) := by decide +kernel
theorem dX5_begin_82 : decode cX5_begin 82 = .ok (.aload_n 0, 1) := by decide +kernel
theorem dX5_begin_83 : decode cX5_begin 83 = .ok (.iconst 0, 1) := by decide +kernel
theorem dX5_begin_84 : decode cX5_begin 84 = .ok (.putfield 44, 3) := by decide +kernel
theorem dX5_begin_87 : decode cX5_begin 87 = .ok (.return_, 1) := by decide +kernel
theorem dX5_begin_28 : decode cX5_begin 28 = .ok (.aload_n 0, 1) := by decide +kernel
theorem dX5_begin_29 : decode cX5_begin 29 = .ok (.getfield 9, 3) := by decide +kernel
theorem dX5_begin_32 : decode cX5_begin 32 = .ok (.iload 4, 2) := by decide +kernel
theorem dX5_begin_34 : decode cX5_begin 34 = .ok (.iload_n 2, 1) := by decide +kernel
theorem dX5_begin_60 : decode cX5_begin 60 = .ok (.iastore, 1) := by decide +kernel
theorem dX5_begin_61 : decode cX5_begin 61 = .ok (.iload_n 3, 1) := by decide +kernel
theorem dX5_begin_62 : decode cX5_begin 62 = .ok (.aload_n 0, 1) := by decide +kernel
theorem dX5_begin_63 : decode cX5_begin 63 = .ok (.getfield 9, 3) := by decide +kernel
theorem dX5_begin_66 : decode cX5_begin 66 = .ok (.iload 4, 2) := by decide +kernel
theorem dX5_begin_68 : decode cX5_begin 68 = .ok (.iaload, 1) := by decide +kernel
theorem dX5_begin_69 : decode cX5_begin 69 = .ok (.isub, 1) := by decide +kernel
theorem dX5_begin_70 : decode cX5_begin 70 = .ok (.istore_n 3, 1) := by decide +kernel
theorem dX5_begin_71 : decode cX5_begin 71 = .ok (.iinc 4 1, 3) := by decide +kernel
theorem dX5_begin_74 : decode cX5_begin 74 = .ok (.goto (-55), 3) := by decide +kernel
theorem dX5_begin_35 : decode cX5_begin 35 = .ok (.ifCond .ne 7, 3) := by decide +kernel
theorem dX5_begin_42 : decode cX5_begin 42 = .ok (.aload_n 1, 1) := by decide +kernel
theorem dX5_begin_43 : decode cX5_begin 43 = .ok (.getfield 35, 3) := by decide +kernel
theorem dX5_begin_46 : decode cX5_begin 46 = .ok (.sipush 10000, 3) := by decide +kernel
theorem dX5_begin_49 : decode cX5_begin 49 = .ok (.imul, 1) := by decide +kernel
theorem dX5_begin_50 : decode cX5_begin 50 = .ok (.aload_n 1, 1) := by decide +kernel
theorem dX5_begin_51 : decode cX5_begin 51 = .ok (.getfield 38, 3) := by decide +kernel
theorem dX5_begin_54 : decode cX5_begin 54 = .ok (.iload 4, 2) := by decide +kernel
theorem dX5_begin_56 : decode cX5_begin 56 = .ok (.iaload, 1) := by decide +kernel
theorem dX5_begin_57 : decode cX5_begin 57 = .ok (.imul, 1) := by decide +kernel
theorem dX5_begin_58 : decode cX5_begin 58 = .ok (.iload_n 2, 1) := by decide +kernel
theorem dX5_begin_59 : decode cX5_begin 59 = .ok (.idiv, 1) := by decide +kernel
theorem dX5_begin_38 : decode cX5_begin 38 = .ok (.iconst 0, 1) := by decide +kernel
theorem dX5_begin_39 : decode cX5_begin 39 = .ok (.goto 21, 3) := by decide +kernel
theorem dX5_leave_0 : decode cX5_leave 0 = .ok (.aload_n 1, 1) := by decide +kernel
theorem dX5_leave_1 : decode cX5_leave 1 = .ok (.getfield 75, 3) := by decide +kernel
theorem dX5_leave_4 : decode cX5_leave 4 = .ok (.iload_n 2, 1) := by decide +kernel
theorem dX5_leave_5 : decode cX5_leave 5 = .ok (.iaload, 1) := by decide +kernel
theorem dX5_leave_6 : decode cX5_leave 6 = .ok (.istore_n 3, 1) := by decide +kernel
theorem dX5_leave_7 : decode cX5_leave 7 = .ok (.iload_n 3, 1) := by decide +kernel
theorem dX5_leave_8 : decode cX5_leave 8 = .ok (.invokestatic 78, 3) := by decide +kernel
theorem dX5_leave_11 : decode cX5_leave 11 = .ok (.istore 4, 2) := by decide +kernel
theorem dX5_leave_13 : decode cX5_leave 13 = .ok (.iload 4, 2) := by decide +kernel
theorem dX5_leave_39 : decode cX5_leave 39 = .ok (.istore 5, 2) := by decide +kernel
theorem dX5_leave_41 : decode cX5_leave 41 = .ok (.iload 5, 2) := by decide +kernel
theorem dX5_leave_43 : decode cX5_leave 43 = .ok (.ifCond .ne 4, 3) := by decide +kernel
theorem dX5_leave_47 : decode cX5_leave 47 = .ok (.iconst 0, 1) := by decide +kernel
theorem dX5_leave_48 : decode cX5_leave 48 = .ok (.istore 6, 2) := by decide +kernel
theorem dX5_leave_50 : decode cX5_leave 50 = .ok (.iload 6, 2) := by decide +kernel
theorem dX5_leave_52 : decode cX5_leave 52 = .ok (.aload_n 1, 1) := by decide +kernel
theorem dX5_leave_53 : decode cX5_leave 53 = .ok (.getfield 31, 3) := by decide +kernel
theorem dX5_leave_56 : decode cX5_leave 56 = .ok (.if_icmp .ge 30, 3) := by decide +kernel
theorem dX5_leave_86 : decode cX5_leave 86 = .ok (.aload_n 0, 1) := by decide +kernel
theorem dX5_leave_87 : decode cX5_leave 87 = .ok (.getfield 15, 3) := by decide +kernel
theorem dX5_leave_90 : decode cX5_leave 90 = .ok (.iload_n 2, 1) := by decide +kernel
theorem dX5_leave_91 : decode cX5_leave 91 = .ok (.dup2, 1) := by decide +kernel
theorem dX5_leave_92 : decode cX5_leave 92 = .ok (.iaload, 1) := by decide +kernel
theorem dX5_leave_93 : decode cX5_leave 93 = .ok (.iload 5, 2) := by decide +kernel
theorem dX5_leave_95 : decode cX5_leave 95 = .ok (.iload 4, 2) := by decide +kernel
theorem dX5_leave_97 : decode cX5_leave 97 = .ok (.imul, 1) := by decide +kernel
theorem dX5_leave_98 : decode cX5_leave 98 = .ok (.isub, 1) := by decide +kernel
theorem dX5_leave_99 : decode cX5_leave 99 = .ok (.iastore, 1) := by decide +kernel
theorem dX5_leave_100 : decode cX5_leave 100 = .ok (.return_, 1) := by decide +kernel
theorem dX5_leave_59 : decode cX5_leave 59 = .ok (.iload_n 3, 1) := by decide +kernel
theorem dX5_leave_60 : decode cX5_leave 60 = .ok (.iload 6, 2) := by decide +kernel
theorem dX5_leave_62 : decode cX5_leave 62 = .ok (.ishr, 1) := by decide +kernel
theorem dX5_leave_63 : decode cX5_leave 63 = .ok (.iconst 1, 1) := by decide +kernel
theorem dX5_leave_64 : decode cX5_leave 64 = .ok (.iand, 1) := by decide +kernel
theorem dX5_leave_80 : decode cX5_leave 80 = .ok (.iinc 6 1, 3) := by decide +kernel
theorem dX5_leave_83 : decode cX5_leave 83 = .ok (.goto (-33), 3) := by decide +kernel
theorem dX5_leave_65 : decode cX5_leave 65 = .ok (.ifCond .eq 15, 3) := by decide +kernel
theorem dX5_leave_68 : decode cX5_leave 68 = .ok (.aload_n 0, 1) := by decide +kernel
theorem dX5_leave_69 : decode cX5_leave 69 = .ok (.getfield 15, 3) := by decide +kernel
theorem dX5_leave_72 : decode cX5_leave 72 = .ok (.iload 6, 2) := by decide +kernel
theorem dX5_leave_74 : decode cX5_leave 74 = .ok (.dup2, 1) := by decide +kernel
theorem dX5_leave_75 : decode cX5_leave 75 = .ok (.iaload, 1) := by decide +kernel
theorem dX5_leave_76 : decode cX5_leave 76 = .ok (.iload 5, 2) := by decide +kernel
theorem dX5_leave_78 : decode cX5_leave 78 = .ok (.iadd, 1) := by decide +kernel
theorem dX5_leave_79 : decode cX5_leave 79 = .ok (.iastore, 1) := by decide +kernel
theorem dX5_leave_46 : decode cX5_leave 46 = .ok (.return_, 1) := by decide +kernel
theorem dX5_leave_15 : decode cX5_leave 15 = .ok (.ifCond .ne 7, 3) := by decide +kernel
theorem dX5_leave_22 : decode cX5_leave 22 = .ok (.aload_n 0, 1) := by decide +kernel
theorem dX5_leave_23 : decode cX5_leave 23 = .ok (.getfield 9, 3) := by decide +kernel
theorem dX5_leave_26 : decode cX5_leave 26 = .ok (.iload_n 2, 1) := by decide +kernel
theorem dX5_leave_27 : decode cX5_leave 27 = .ok (.iaload, 1) := by decide +kernel
theorem dX5_leave_28 : decode cX5_leave 28 = .ok (.aload_n 1, 1) := by decide +kernel
theorem dX5_leave_29 : decode cX5_leave 29 = .ok (.getfield 83, 3) := by decide +kernel
theorem dX5_leave_32 : decode cX5_leave 32 = .ok (.imul, 1) := by decide +kernel
theorem dX5_leave_33 : decode cX5_leave 33 = .ok (.bipush 100, 2) := by decide +kernel
theorem dX5_leave_35 : decode cX5_leave 35 = .ok (.idiv, 1) := by decide +kernel
theorem dX5_leave_36 : decode cX5_leave 36 = .ok (.iload 4, 2) := by decide +kernel
theorem dX5_leave_38 : decode cX5_leave 38 = .ok (.idiv, 1) := by decide +kernel
theorem dX5_leave_18 : decode cX5_leave 18 = .ok (.iconst 0, 1) := by decide +kernel
theorem dX5_leave_19 : decode cX5_leave 19 = .ok (.goto 20, 3) := by decide +kernel
theorem dX5_pass_0 : decode cX5_pass 0 = .ok (.aload_n 0, 1) := by decide +kernel
theorem dX5_pass_1 : decode cX5_pass 1 = .ok (.getfield 15, 3) := by decide +kernel
theorem dX5_pass_4 : decode cX5_pass 4 = .ok (.iconst 0, 1) := by decide +kernel
theorem dX5_pass_5 : decode cX5_pass 5 = .ok (.invokestatic 25, 3) := by decide +kernel
theorem dX5_pass_8 : decode cX5_pass 8 = .ok (.iconst 0, 1) := by decide +kernel
theorem dX5_pass_9 : decode cX5_pass 9 = .ok (.istore_n 3, 1) := by decide +kernel
theorem dX5_pass_10 : decode cX5_pass 10 = .ok (.iload_n 3, 1) := by decide +kernel
theorem dX5_pass_11 : decode cX5_pass 11 = .ok (.aload_n 1, 1) := by decide +kernel
theorem dX5_pass_12 : decode cX5_pass 12 = .ok (.getfield 31, 3) := by decide +kernel
theorem dX5_pass_15 : decode cX5_pass 15 = .ok (.if_icmp .ge 20, 3) := by decide +kernel
theorem dX5_pass_35 : decode cX5_pass 35 = .ok (.iconst 0, 1) := by decide +kernel
theorem dX5_pass_36 : decode cX5_pass 36 = .ok (.istore_n 3, 1) := by decide +kernel
theorem dX5_pass_37 : decode cX5_pass 37 = .ok (.iconst 0, 1) := by decide +kernel
theorem dX5_pass_38 : decode cX5_pass 38 = .ok (.istore 4, 2) := by decide +kernel
theorem dX5_pass_40 : decode cX5_pass 40 = .ok (.iload 4, 2) := by decide +kernel
theorem dX5_pass_42 : decode cX5_pass 42 = .ok (.aload_n 1, 1) := by decide +kernel
theorem dX5_pass_43 : decode cX5_pass 43 = .ok (.getfield 31, 3) := by decide +kernel
theorem dX5_pass_46 : decode cX5_pass 46 = .ok (.if_icmp .ge 46, 3) := by decide +kernel
theorem dX5_pass_92 : decode cX5_pass 92 = .ok (.iload_n 3, 1) := by decide +kernel
theorem dX5_pass_93 : decode cX5_pass 93 = .ok (.ireturn, 1) := by decide +kernel
theorem dX5_pass_49 : decode cX5_pass 49 = .ok (.aload_n 0, 1) := by decide +kernel
theorem dX5_pass_50 : decode cX5_pass 50 = .ok (.getfield 9, 3) := by decide +kernel
theorem dX5_pass_53 : decode cX5_pass 53 = .ok (.iload 4, 2) := by decide +kernel
theorem dX5_pass_55 : decode cX5_pass 55 = .ok (.dup2, 1) := by decide +kernel
theorem dX5_pass_56 : decode cX5_pass 56 = .ok (.iaload, 1) := by decide +kernel
theorem dX5_pass_57 : decode cX5_pass 57 = .ok (.aload_n 0, 1) := by decide +kernel
theorem dX5_pass_58 : decode cX5_pass 58 = .ok (.getfield 15, 3) := by decide +kernel
theorem dX5_pass_61 : decode cX5_pass 61 = .ok (.iload 4, 2) := by decide +kernel
theorem dX5_pass_63 : decode cX5_pass 63 = .ok (.iaload, 1) := by decide +kernel
theorem dX5_pass_64 : decode cX5_pass 64 = .ok (.iadd, 1) := by decide +kernel
theorem dX5_pass_65 : decode cX5_pass 65 = .ok (.iastore, 1) := by decide +kernel
theorem dX5_pass_66 : decode cX5_pass 66 = .ok (.iload_n 3, 1) := by decide +kernel
theorem dX5_pass_85 : decode cX5_pass 85 = .ok (.istore_n 3, 1) := by decide +kernel
theorem dX5_pass_86 : decode cX5_pass 86 = .ok (.iinc 4 1, 3) := by decide +kernel
theorem dX5_pass_89 : decode cX5_pass 89 = .ok (.goto (-49), 3) := by decide +kernel
theorem dX5_pass_80 : decode cX5_pass 80 = .ok (.iconst 1, 1) := by decide +kernel
theorem dX5_pass_81 : decode cX5_pass 81 = .ok (.goto 4, 3) := by decide +kernel
theorem dX5_pass_67 : decode cX5_pass 67 = .ok (.ifCond .ne 13, 3) := by decide +kernel
theorem dX5_pass_70 : decode cX5_pass 70 = .ok (.aload_n 0, 1) := by decide +kernel
theorem dX5_pass_71 : decode cX5_pass 71 = .ok (.getfield 15, 3) := by decide +kernel
theorem dX5_pass_74 : decode cX5_pass 74 = .ok (.iload 4, 2) := by decide +kernel
theorem dX5_pass_76 : decode cX5_pass 76 = .ok (.iaload, 1) := by decide +kernel
theorem dX5_pass_77 : decode cX5_pass 77 = .ok (.ifCond .eq 7, 3) := by decide +kernel
theorem dX5_pass_84 : decode cX5_pass 84 = .ok (.iconst 0, 1) := by decide +kernel
theorem dX5_pass_18 : decode cX5_pass 18 = .ok (.iload_n 3, 1) := by decide +kernel
theorem dX5_pass_19 : decode cX5_pass 19 = .ok (.iload_n 2, 1) := by decide +kernel
theorem dX5_pass_29 : decode cX5_pass 29 = .ok (.iinc 3 1, 3) := by decide +kernel
theorem dX5_pass_32 : decode cX5_pass 32 = .ok (.goto (-22), 3) := by decide +kernel
theorem dX5_pass_20 : decode cX5_pass 20 = .ok (.if_icmp .eq 9, 3) := by decide +kernel
theorem dX5_pass_23 : decode cX5_pass 23 = .ok (.aload_n 0, 1) := by decide +kernel
theorem dX5_pass_24 : decode cX5_pass 24 = .ok (.aload_n 1, 1) := by decide +kernel
theorem dX5_pass_25 : decode cX5_pass 25 = .ok (.iload_n 3, 1) := by decide +kernel
theorem dX5_pass_26 : decode cX5_pass 26 = .ok (.invokevirtual 71, 3) := by decide +kernel
theorem dX5_live_0 : decode cX5_live 0 = .ok (.aload_n 0, 1) := by decide +kernel
theorem dX5_live_1 : decode cX5_live 1 = .ok (.aload_n 1, 1) := by decide +kernel
theorem dX5_live_2 : decode cX5_live 2 = .ok (.iload_n 2, 1) := by decide +kernel
theorem dX5_live_3 : decode cX5_live 3 = .ok (.iload_n 3, 1) := by decide +kernel
theorem dX5_live_4 : decode cX5_live 4 = .ok (.invokevirtual 63, 3) := by decide +kernel
theorem dX5_live_7 : decode cX5_live 7 = .ok (.istore 4, 2) := by decide +kernel
theorem dX5_live_9 : decode cX5_live 9 = .ok (.iload 4, 2) := by decide +kernel
theorem dX5_live_36 : decode cX5_live 36 = .ok (.aload_n 0, 1) := by decide +kernel
theorem dX5_live_37 : decode cX5_live 37 = .ok (.aload_n 1, 1) := by decide +kernel
theorem dX5_live_38 : decode cX5_live 38 = .ok (.iconst (-1), 1) := by decide +kernel
theorem dX5_live_39 : decode cX5_live 39 = .ok (.invokevirtual 67, 3) := by decide +kernel
theorem dX5_live_42 : decode cX5_live 42 = .ok (.pop, 1) := by decide +kernel
theorem dX5_live_43 : decode cX5_live 43 = .ok (.iload 4, 2) := by decide +kernel
theorem dX5_live_45 : decode cX5_live 45 = .ok (.ireturn, 1) := by decide +kernel
theorem dX5_live_11 : decode cX5_live 11 = .ok (.ifCond .le 25, 3) := by decide +kernel
theorem dX5_live_14 : decode cX5_live 14 = .ok (.aload_n 0, 1) := by decide +kernel
theorem dX5_live_15 : decode cX5_live 15 = .ok (.getfield 9, 3) := by decide +kernel
theorem dX5_live_18 : decode cX5_live 18 = .ok (.iload_n 2, 1) := by decide +kernel
theorem dX5_live_19 : decode cX5_live 19 = .ok (.dup2, 1) := by decide +kernel
theorem dX5_live_20 : decode cX5_live 20 = .ok (.iaload, 1) := by decide +kernel
theorem dX5_live_21 : decode cX5_live 21 = .ok (.iload 4, 2) := by decide +kernel
theorem dX5_live_23 : decode cX5_live 23 = .ok (.isub, 1) := by decide +kernel
theorem dX5_live_24 : decode cX5_live 24 = .ok (.iastore, 1) := by decide +kernel
theorem dX5_live_25 : decode cX5_live 25 = .ok (.aload_n 0, 1) := by decide +kernel
theorem dX5_live_26 : decode cX5_live 26 = .ok (.dup, 1) := by decide +kernel
theorem dX5_live_27 : decode cX5_live 27 = .ok (.getfield 44, 3) := by decide +kernel
theorem dX5_live_30 : decode cX5_live 30 = .ok (.iload 4, 2) := by decide +kernel
theorem dX5_live_32 : decode cX5_live 32 = .ok (.iadd, 1) := by decide +kernel
theorem dX5_live_33 : decode cX5_live 33 = .ok (.putfield 44, 3) := by decide +kernel
theorem dX9_push_0 : decode cX9_push 0 = .ok (.bipush 24, 2) := by decide +kernel
theorem dX9_push_2 : decode cX9_push 2 = .ok (.istore_n 2, 1) := by decide +kernel
theorem dX9_push_3 : decode cX9_push 3 = .ok (.iload_n 2, 1) := by decide +kernel
theorem dX9_push_4 : decode cX9_push 4 = .ok (.ifCond .lt 42, 3) := by decide +kernel
theorem dX9_push_46 : decode cX9_push 46 = .ok (.return_, 1) := by decide +kernel
theorem dX9_push_7 : decode cX9_push 7 = .ok (.aload_n 0, 1) := by decide +kernel
theorem dX9_push_8 : decode cX9_push 8 = .ok (.getfield 15, 3) := by decide +kernel
theorem dX9_push_11 : decode cX9_push 11 = .ok (.sipush 900, 3) := by decide +kernel
theorem dX9_push_14 : decode cX9_push 14 = .ok (.if_icmp .ge 32, 3) := by decide +kernel
theorem dX9_push_17 : decode cX9_push 17 = .ok (.aload_n 0, 1) := by decide +kernel
theorem dX9_push_18 : decode cX9_push 18 = .ok (.getfield 9, 3) := by decide +kernel
theorem dX9_push_21 : decode cX9_push 21 = .ok (.aload_n 0, 1) := by decide +kernel
theorem dX9_push_22 : decode cX9_push 22 = .ok (.getfield 15, 3) := by decide +kernel
theorem dX9_push_25 : decode cX9_push 25 = .ok (.iload_n 1, 1) := by decide +kernel
theorem dX9_push_26 : decode cX9_push 26 = .ok (.iload_n 2, 1) := by decide +kernel
theorem dX9_push_27 : decode cX9_push 27 = .ok (.ishr, 1) := by decide +kernel
theorem dX9_push_28 : decode cX9_push 28 = .ok (.i2b, 1) := by decide +kernel
theorem dX9_push_29 : decode cX9_push 29 = .ok (.bastore, 1) := by decide +kernel
theorem dX9_push_30 : decode cX9_push 30 = .ok (.aload_n 0, 1) := by decide +kernel
theorem dX9_push_31 : decode cX9_push 31 = .ok (.dup, 1) := by decide +kernel
theorem dX9_push_32 : decode cX9_push 32 = .ok (.getfield 15, 3) := by decide +kernel
theorem dX9_push_35 : decode cX9_push 35 = .ok (.iconst 1, 1) := by decide +kernel
theorem dX9_push_36 : decode cX9_push 36 = .ok (.iadd, 1) := by decide +kernel
theorem dX9_push_37 : decode cX9_push 37 = .ok (.putfield 15, 3) := by decide +kernel
theorem dX9_push_40 : decode cX9_push 40 = .ok (.iinc 2 (-8), 3) := by decide +kernel
theorem dX9_push_43 : decode cX9_push 43 = .ok (.goto (-40), 3) := by decide +kernel
theorem dX9_at_0 : decode cX9_at 0 = .ok (.iload_n 1, 1) := by decide +kernel
theorem dX9_at_1 : decode cX9_at 1 = .ok (.ifCond .lt 24, 3) := by decide +kernel
theorem dX9_at_25 : decode cX9_at 25 = .ok (.iconst 0, 1) := by decide +kernel
theorem dX9_at_26 : decode cX9_at 26 = .ok (.ireturn, 1) := by decide +kernel
theorem dX9_at_4 : decode cX9_at 4 = .ok (.iload_n 1, 1) := by decide +kernel
theorem dX9_at_5 : decode cX9_at 5 = .ok (.aload_n 0, 1) := by decide +kernel
theorem dX9_at_6 : decode cX9_at 6 = .ok (.getfield 15, 3) := by decide +kernel
theorem dX9_at_9 : decode cX9_at 9 = .ok (.if_icmp .ge 16, 3) := by decide +kernel
theorem dX9_at_12 : decode cX9_at 12 = .ok (.aload_n 0, 1) := by decide +kernel
theorem dX9_at_13 : decode cX9_at 13 = .ok (.getfield 9, 3) := by decide +kernel
theorem dX9_at_16 : decode cX9_at 16 = .ok (.iload_n 1, 1) := by decide +kernel
theorem dX9_at_17 : decode cX9_at 17 = .ok (.baload, 1) := by decide +kernel
theorem dX9_at_18 : decode cX9_at 18 = .ok (.sipush 255, 3) := by decide +kernel
theorem dX9_at_21 : decode cX9_at 21 = .ok (.iand, 1) := by decide +kernel
theorem dX9_at_22 : decode cX9_at 22 = .ok (.goto 4, 3) := by decide +kernel
theorem dX6_isBlank_0 : decode cX6_isBlank 0 = .ok (.iload_n 1, 1) := by decide +kernel
theorem dX6_isBlank_1 : decode cX6_isBlank 1 = .ok (.bipush 32, 2) := by decide +kernel
theorem dX6_isBlank_3 : decode cX6_isBlank 3 = .ok (.if_icmp .eq 9, 3) := by decide +kernel
theorem dX6_isBlank_12 : decode cX6_isBlank 12 = .ok (.iconst 1, 1) := by decide +kernel
theorem dX6_isBlank_13 : decode cX6_isBlank 13 = .ok (.goto 4, 3) := by decide +kernel
theorem dX6_isBlank_17 : decode cX6_isBlank 17 = .ok (.ireturn, 1) := by decide +kernel
theorem dX6_isBlank_6 : decode cX6_isBlank 6 = .ok (.iload_n 1, 1) := by decide +kernel
theorem dX6_isBlank_7 : decode cX6_isBlank 7 = .ok (.bipush 10, 2) := by decide +kernel
theorem dX6_isBlank_9 : decode cX6_isBlank 9 = .ok (.if_icmp .ne 7, 3) := by decide +kernel
theorem dX6_isBlank_16 : decode cX6_isBlank 16 = .ok (.iconst 0, 1) := by decide +kernel
theorem dX6_kindOf_0 : decode cX6_kindOf 0 = .ok (.iload_n 1, 1) := by decide +kernel
theorem dX6_kindOf_1 : decode cX6_kindOf 1 = .ok (.bipush 97, 2) := by decide +kernel
theorem dX6_kindOf_14 : decode cX6_kindOf 14 = .ok (.iload_n 1, 1) := by decide +kernel
theorem dX6_kindOf_15 : decode cX6_kindOf 15 = .ok (.bipush 48, 2) := by decide +kernel
theorem dX6_kindOf_28 : decode cX6_kindOf 28 = .ok (.iload_n 1, 1) := by decide +kernel
theorem dX6_kindOf_29 : decode cX6_kindOf 29 = .ok (.bipush 59, 2) := by decide +kernel
theorem dX6_kindOf_31 : decode cX6_kindOf 31 = .ok (.if_icmp .ne 7, 3) := by decide +kernel
theorem dX6_kindOf_38 : decode cX6_kindOf 38 = .ok (.iconst 4, 1) := by decide +kernel
theorem dX6_kindOf_39 : decode cX6_kindOf 39 = .ok (.ireturn, 1) := by decide +kernel
theorem dX6_kindOf_34 : decode cX6_kindOf 34 = .ok (.iconst 3, 1) := by decide +kernel
theorem dX6_kindOf_35 : decode cX6_kindOf 35 = .ok (.goto 4, 3) := by decide +kernel
theorem dX6_kindOf_17 : decode cX6_kindOf 17 = .ok (.if_icmp .lt 11, 3) := by decide +kernel
theorem dX6_kindOf_20 : decode cX6_kindOf 20 = .ok (.iload_n 1, 1) := by decide +kernel
theorem dX6_kindOf_21 : decode cX6_kindOf 21 = .ok (.bipush 57, 2) := by decide +kernel
theorem dX6_kindOf_23 : decode cX6_kindOf 23 = .ok (.if_icmp .gt 5, 3) := by decide +kernel
theorem dX6_kindOf_26 : decode cX6_kindOf 26 = .ok (.iconst 2, 1) := by decide +kernel
theorem dX6_kindOf_27 : decode cX6_kindOf 27 = .ok (.ireturn, 1) := by decide +kernel
theorem dX6_kindOf_3 : decode cX6_kindOf 3 = .ok (.if_icmp .lt 11, 3) := by decide +kernel
theorem dX6_kindOf_6 : decode cX6_kindOf 6 = .ok (.iload_n 1, 1) := by decide +kernel
theorem dX6_kindOf_7 : decode cX6_kindOf 7 = .ok (.bipush 122, 2) := by decide +kernel
theorem dX6_kindOf_9 : decode cX6_kindOf 9 = .ok (.if_icmp .gt 5, 3) := by decide +kernel
theorem dX6_kindOf_12 : decode cX6_kindOf 12 = .ok (.iconst 1, 1) := by decide +kernel
theorem dX6_kindOf_13 : decode cX6_kindOf 13 = .ok (.ireturn, 1) := by decide +kernel
theorem dX6_advance_0 : decode cX6_advance 0 = .ok (.aload_n 0, 1) := by decide +kernel
theorem dX6_advance_1 : decode cX6_advance 1 = .ok (.getfield 30, 3) := by decide +kernel
theorem dX6_advance_4 : decode cX6_advance 4 = .ok (.aload_n 0, 1) := by decide +kernel
theorem dX6_advance_5 : decode cX6_advance 5 = .ok (.getfield 12, 3) := by decide +kernel
theorem dX6_advance_8 : decode cX6_advance 8 = .ok (.getfield 165, 3) := by decide +kernel
theorem dX6_advance_45 : decode cX6_advance 45 = .ok (.aload_n 0, 1) := by decide +kernel
theorem dX6_advance_46 : decode cX6_advance 46 = .ok (.aload_n 0, 1) := by decide +kernel
theorem dX6_advance_47 : decode cX6_advance 47 = .ok (.getfield 30, 3) := by decide +kernel
theorem dX6_advance_50 : decode cX6_advance 50 = .ok (.putfield 150, 3) := by decide +kernel
theorem dX6_advance_53 : decode cX6_advance 53 = .ok (.aload_n 0, 1) := by decide +kernel
theorem dX6_advance_54 : decode cX6_advance 54 = .ok (.iconst 0, 1) := by decide +kernel
theorem dX6_advance_55 : decode cX6_advance 55 = .ok (.putfield 147, 3) := by decide +kernel
theorem dX6_advance_58 : decode cX6_advance 58 = .ok (.aload_n 0, 1) := by decide +kernel
theorem dX6_advance_59 : decode cX6_advance 59 = .ok (.aload_n 0, 1) := by decide +kernel
theorem dX6_advance_60 : decode cX6_advance 60 = .ok (.getfield 30, 3) := by decide +kernel
theorem dX6_advance_63 : decode cX6_advance 63 = .ok (.aload_n 0, 1) := by decide +kernel
theorem dX6_advance_64 : decode cX6_advance 64 = .ok (.getfield 12, 3) := by decide +kernel
theorem dX6_advance_67 : decode cX6_advance 67 = .ok (.getfield 165, 3) := by decide +kernel
theorem dX6_advance_92 : decode cX6_advance 92 = .ok (.putfield 36, 3) := by decide +kernel
theorem dX6_advance_95 : decode cX6_advance 95 = .ok (.aload_n 0, 1) := by decide +kernel
theorem dX6_advance_96 : decode cX6_advance 96 = .ok (.getfield 36, 3) := by decide +kernel
theorem dX6_advance_99 : decode cX6_advance 99 = .ok (.iconst 3, 1) := by decide +kernel
theorem dX6_advance_111 : decode cX6_advance 111 = .ok (.aload_n 0, 1) := by decide +kernel
theorem dX6_advance_112 : decode cX6_advance 112 = .ok (.dup, 1) := by decide +kernel
theorem dX6_advance_113 : decode cX6_advance 113 = .ok (.getfield 30, 3) := by decide +kernel
theorem dX6_advance_116 : decode cX6_advance 116 = .ok (.iconst 1, 1) := by decide +kernel
theorem dX6_advance_117 : decode cX6_advance 117 = .ok (.iadd, 1) := by decide +kernel
theorem dX6_advance_118 : decode cX6_advance 118 = .ok (.putfield 30, 3) := by decide +kernel
theorem dX6_advance_121 : decode cX6_advance 121 = .ok (.return_, 1) := by decide +kernel
theorem dX6_advance_100 : decode cX6_advance 100 = .ok (.if_icmp .eq 11, 3) := by decide +kernel
theorem dX6_advance_103 : decode cX6_advance 103 = .ok (.aload_n 0, 1) := by decide +kernel
theorem dX6_advance_104 : decode cX6_advance 104 = .ok (.getfield 36, 3) := by decide +kernel
theorem dX6_advance_107 : decode cX6_advance 107 = .ok (.iconst 4, 1) := by decide +kernel
theorem dX6_advance_108 : decode cX6_advance 108 = .ok (.if_icmp .ne 14, 3) := by decide +kernel
theorem dX6_advance_122 : decode cX6_advance 122 = .ok (.aload_n 0, 1) := by decide +kernel
theorem dX6_advance_123 : decode cX6_advance 123 = .ok (.getfield 30, 3) := by decide +kernel
theorem dX6_advance_126 : decode cX6_advance 126 = .ok (.aload_n 0, 1) := by decide +kernel
theorem dX6_advance_127 : decode cX6_advance 127 = .ok (.getfield 12, 3) := by decide +kernel
theorem dX6_advance_130 : decode cX6_advance 130 = .ok (.getfield 165, 3) := by decide +kernel
theorem dX6_advance_133 : decode cX6_advance 133 = .ok (.if_icmp .ge 81, 3) := by decide +kernel
theorem dX6_advance_214 : decode cX6_advance 214 = .ok (.return_, 1) := by decide +kernel
theorem dX6_advance_136 : decode cX6_advance 136 = .ok (.aload_n 0, 1) := by decide +kernel
theorem dX6_advance_137 : decode cX6_advance 137 = .ok (.aload_n 0, 1) := by decide +kernel
theorem dX6_advance_138 : decode cX6_advance 138 = .ok (.getfield 12, 3) := by decide +kernel
theorem dX6_advance_141 : decode cX6_advance 141 = .ok (.aload_n 0, 1) := by decide +kernel
theorem dX6_advance_142 : decode cX6_advance 142 = .ok (.getfield 30, 3) := by decide +kernel
theorem dX6_advance_145 : decode cX6_advance 145 = .ok (.invokevirtual 158, 3) := by decide +kernel
theorem dX6_advance_148 : decode cX6_advance 148 = .ok (.invokevirtual 171, 3) := by decide +kernel
theorem dX6_advance_151 : decode cX6_advance 151 = .ok (.aload_n 0, 1) := by decide +kernel
theorem dX6_advance_152 : decode cX6_advance 152 = .ok (.getfield 36, 3) := by decide +kernel
theorem dX6_advance_155 : decode cX6_advance 155 = .ok (.if_icmp .ne 59, 3) := by decide +kernel
theorem dX6_advance_158 : decode cX6_advance 158 = .ok (.aload_n 0, 1) := by decide +kernel
theorem dX6_advance_159 : decode cX6_advance 159 = .ok (.getfield 36, 3) := by decide +kernel
theorem dX6_advance_162 : decode cX6_advance 162 = .ok (.iconst 2, 1) := by decide +kernel
theorem dX6_advance_201 : decode cX6_advance 201 = .ok (.aload_n 0, 1) := by decide +kernel
theorem dX6_advance_202 : decode cX6_advance 202 = .ok (.dup, 1) := by decide +kernel
theorem dX6_advance_203 : decode cX6_advance 203 = .ok (.getfield 30, 3) := by decide +kernel
theorem dX6_advance_206 : decode cX6_advance 206 = .ok (.iconst 1, 1) := by decide +kernel
theorem dX6_advance_207 : decode cX6_advance 207 = .ok (.iadd, 1) := by decide +kernel
theorem dX6_advance_208 : decode cX6_advance 208 = .ok (.putfield 30, 3) := by decide +kernel
theorem dX6_advance_211 : decode cX6_advance 211 = .ok (.goto (-89), 3) := by decide +kernel
theorem dX6_advance_163 : decode cX6_advance 163 = .ok (.if_icmp .ne 38, 3) := by decide +kernel
theorem dX6_advance_166 : decode cX6_advance 166 = .ok (.aload_n 0, 1) := by decide +kernel
theorem dX6_advance_167 : decode cX6_advance 167 = .ok (.getfield 147, 3) := by decide +kernel
theorem dX6_advance_170 : decode cX6_advance 170 = .ok (.ldc 174, 2) := by decide +kernel
theorem dX6_advance_172 : decode cX6_advance 172 = .ok (.if_icmp .ge 29, 3) := by decide +kernel
theorem dX6_advance_175 : decode cX6_advance 175 = .ok (.aload_n 0, 1) := by decide +kernel
theorem dX6_advance_176 : decode cX6_advance 176 = .ok (.aload_n 0, 1) := by decide +kernel
theorem dX6_advance_177 : decode cX6_advance 177 = .ok (.getfield 147, 3) := by decide +kernel
theorem dX6_advance_180 : decode cX6_advance 180 = .ok (.bipush 10, 2) := by decide +kernel
theorem dX6_advance_182 : decode cX6_advance 182 = .ok (.imul, 1) := by decide +kernel
theorem dX6_advance_183 : decode cX6_advance 183 = .ok (.aload_n 0, 1) := by decide +kernel
theorem dX6_advance_184 : decode cX6_advance 184 = .ok (.getfield 12, 3) := by decide +kernel
theorem dX6_advance_187 : decode cX6_advance 187 = .ok (.aload_n 0, 1) := by decide +kernel
theorem dX6_advance_188 : decode cX6_advance 188 = .ok (.getfield 30, 3) := by decide +kernel
theorem dX6_advance_191 : decode cX6_advance 191 = .ok (.invokevirtual 158, 3) := by decide +kernel
theorem dX6_advance_194 : decode cX6_advance 194 = .ok (.iadd, 1) := by decide +kernel
theorem dX6_advance_195 : decode cX6_advance 195 = .ok (.bipush 48, 2) := by decide +kernel
theorem dX6_advance_197 : decode cX6_advance 197 = .ok (.isub, 1) := by decide +kernel
theorem dX6_advance_198 : decode cX6_advance 198 = .ok (.putfield 147, 3) := by decide +kernel
theorem dX6_advance_70 : decode cX6_advance 70 = .ok (.if_icmp .ge 21, 3) := by decide +kernel
theorem dX6_advance_91 : decode cX6_advance 91 = .ok (.iconst 0, 1) := by decide +kernel
theorem dX6_advance_73 : decode cX6_advance 73 = .ok (.aload_n 0, 1) := by decide +kernel
theorem dX6_advance_74 : decode cX6_advance 74 = .ok (.aload_n 0, 1) := by decide +kernel
theorem dX6_advance_75 : decode cX6_advance 75 = .ok (.getfield 12, 3) := by decide +kernel
theorem dX6_advance_78 : decode cX6_advance 78 = .ok (.aload_n 0, 1) := by decide +kernel
theorem dX6_advance_79 : decode cX6_advance 79 = .ok (.getfield 30, 3) := by decide +kernel
theorem dX6_advance_82 : decode cX6_advance 82 = .ok (.invokevirtual 158, 3) := by decide +kernel
theorem dX6_advance_85 : decode cX6_advance 85 = .ok (.invokevirtual 171, 3) := by decide +kernel
theorem dX6_advance_88 : decode cX6_advance 88 = .ok (.goto 4, 3) := by decide +kernel
theorem dX6_advance_11 : decode cX6_advance 11 = .ok (.if_icmp .ge 34, 3) := by decide +kernel
theorem dX6_advance_14 : decode cX6_advance 14 = .ok (.aload_n 0, 1) := by decide +kernel
theorem dX6_advance_15 : decode cX6_advance 15 = .ok (.aload_n 0, 1) := by decide +kernel
theorem dX6_advance_16 : decode cX6_advance 16 = .ok (.getfield 12, 3) := by decide +kernel
theorem dX6_advance_19 : decode cX6_advance 19 = .ok (.aload_n 0, 1) := by decide +kernel
theorem dX6_advance_20 : decode cX6_advance 20 = .ok (.getfield 30, 3) := by decide +kernel
theorem dX6_advance_23 : decode cX6_advance 23 = .ok (.invokevirtual 158, 3) := by decide +kernel
theorem dX6_advance_26 : decode cX6_advance 26 = .ok (.invokevirtual 168, 3) := by decide +kernel
theorem dX6_advance_29 : decode cX6_advance 29 = .ok (.ifCond .eq 16, 3) := by decide +kernel
theorem dX6_advance_32 : decode cX6_advance 32 = .ok (.aload_n 0, 1) := by decide +kernel
theorem dX6_advance_33 : decode cX6_advance 33 = .ok (.dup, 1) := by decide +kernel
theorem dX6_advance_34 : decode cX6_advance 34 = .ok (.getfield 30, 3) := by decide +kernel
theorem dX6_advance_37 : decode cX6_advance 37 = .ok (.iconst 1, 1) := by decide +kernel
theorem dX6_advance_38 : decode cX6_advance 38 = .ok (.iadd, 1) := by decide +kernel
theorem dX6_advance_39 : decode cX6_advance 39 = .ok (.putfield 30, 3) := by decide +kernel
theorem dX6_advance_42 : decode cX6_advance 42 = .ok (.goto (-42), 3) := by decide +kernel
theorem dX6_fail_0 : decode cX6_fail 0 = .ok (.aload_n 0, 1) := by decide +kernel
theorem dX6_fail_1 : decode cX6_fail 1 = .ok (.iload_n 1, 1) := by decide +kernel
theorem dX6_fail_2 : decode cX6_fail 2 = .ok (.putfield 27, 3) := by decide +kernel
theorem dX6_fail_5 : decode cX6_fail 5 = .ok (.aload_n 0, 1) := by decide +kernel
theorem dX6_fail_6 : decode cX6_fail 6 = .ok (.aload_n 0, 1) := by decide +kernel
theorem dX6_fail_7 : decode cX6_fail 7 = .ok (.getfield 150, 3) := by decide +kernel
theorem dX6_fail_10 : decode cX6_fail 10 = .ok (.putfield 18, 3) := by decide +kernel
theorem dX6_fail_13 : decode cX6_fail 13 = .ok (.iconst 0, 1) := by decide +kernel
theorem dX6_fail_14 : decode cX6_fail 14 = .ok (.ireturn, 1) := by decide +kernel
theorem dX6_isWord_0 : decode cX6_isWord 0 = .ok (.aload_n 0, 1) := by decide +kernel
theorem dX6_isWord_1 : decode cX6_isWord 1 = .ok (.getfield 36, 3) := by decide +kernel
theorem dX6_isWord_4 : decode cX6_isWord 4 = .ok (.iconst 1, 1) := by decide +kernel
theorem dX6_isWord_5 : decode cX6_isWord 5 = .ok (.if_icmp .ne 19, 3) := by decide +kernel
theorem dX6_isWord_24 : decode cX6_isWord 24 = .ok (.iconst 0, 1) := by decide +kernel
theorem dX6_isWord_25 : decode cX6_isWord 25 = .ok (.ireturn, 1) := by decide +kernel
theorem dX6_isWord_8 : decode cX6_isWord 8 = .ok (.aload_n 0, 1) := by decide +kernel
theorem dX6_isWord_9 : decode cX6_isWord 9 = .ok (.getfield 30, 3) := by decide +kernel
theorem dX6_isWord_12 : decode cX6_isWord 12 = .ok (.aload_n 0, 1) := by decide +kernel
theorem dX6_isWord_13 : decode cX6_isWord 13 = .ok (.getfield 150, 3) := by decide +kernel
theorem dX6_isWord_16 : decode cX6_isWord 16 = .ok (.isub, 1) := by decide +kernel
theorem dX6_isWord_17 : decode cX6_isWord 17 = .ok (.aload_n 1, 1) := by decide +kernel
theorem dX6_isWord_18 : decode cX6_isWord 18 = .ok (.invokevirtual 153, 3) := by decide +kernel
theorem dX6_isWord_21 : decode cX6_isWord 21 = .ok (.if_icmp .eq 5, 3) := by decide +kernel
theorem dX6_isWord_26 : decode cX6_isWord 26 = .ok (.iconst 0, 1) := by decide +kernel
theorem dX6_isWord_27 : decode cX6_isWord 27 = .ok (.istore_n 2, 1) := by decide +kernel
theorem dX6_isWord_28 : decode cX6_isWord 28 = .ok (.iload_n 2, 1) := by decide +kernel
theorem dX6_isWord_29 : decode cX6_isWord 29 = .ok (.aload_n 1, 1) := by decide +kernel
theorem dX6_isWord_30 : decode cX6_isWord 30 = .ok (.invokevirtual 153, 3) := by decide +kernel
theorem dX6_isWord_33 : decode cX6_isWord 33 = .ok (.if_icmp .ge 32, 3) := by decide +kernel
theorem dX6_isWord_65 : decode cX6_isWord 65 = .ok (.iconst 1, 1) := by decide +kernel
theorem dX6_isWord_66 : decode cX6_isWord 66 = .ok (.ireturn, 1) := by decide +kernel
theorem dX6_isWord_36 : decode cX6_isWord 36 = .ok (.aload_n 0, 1) := by decide +kernel
theorem dX6_isWord_37 : decode cX6_isWord 37 = .ok (.getfield 12, 3) := by decide +kernel
theorem dX6_isWord_40 : decode cX6_isWord 40 = .ok (.aload_n 0, 1) := by decide +kernel
theorem dX6_isWord_41 : decode cX6_isWord 41 = .ok (.getfield 150, 3) := by decide +kernel
theorem dX6_isWord_44 : decode cX6_isWord 44 = .ok (.iload_n 2, 1) := by decide +kernel
theorem dX6_isWord_45 : decode cX6_isWord 45 = .ok (.iadd, 1) := by decide +kernel
theorem dX6_isWord_46 : decode cX6_isWord 46 = .ok (.invokevirtual 158, 3) := by decide +kernel
theorem dX6_isWord_49 : decode cX6_isWord 49 = .ok (.aload_n 1, 1) := by decide +kernel
theorem dX6_isWord_50 : decode cX6_isWord 50 = .ok (.iload_n 2, 1) := by decide +kernel
theorem dX6_isWord_51 : decode cX6_isWord 51 = .ok (.invokevirtual 161, 3) := by decide +kernel
theorem dX6_isWord_54 : decode cX6_isWord 54 = .ok (.if_icmp .eq 5, 3) := by decide +kernel
theorem dX6_isWord_59 : decode cX6_isWord 59 = .ok (.iinc 2 1, 3) := by decide +kernel
theorem dX6_isWord_62 : decode cX6_isWord 62 = .ok (.goto (-34), 3) := by decide +kernel
theorem dX6_isWord_57 : decode cX6_isWord 57 = .ok (.iconst 0, 1) := by decide +kernel
theorem dX6_isWord_58 : decode cX6_isWord 58 = .ok (.ireturn, 1) := by decide +kernel
theorem dX6_takeNumber_0 : decode cX6_takeNumber 0 = .ok (.aload_n 0, 1) := by decide +kernel
theorem dX6_takeNumber_1 : decode cX6_takeNumber 1 = .ok (.getfield 36, 3) := by decide +kernel
theorem dX6_takeNumber_4 : decode cX6_takeNumber 4 = .ok (.iconst 2, 1) := by decide +kernel
theorem dX6_takeNumber_5 : decode cX6_takeNumber 5 = .ok (.if_icmp .eq 11, 3) := by decide +kernel
theorem dX6_takeNumber_16 : decode cX6_takeNumber 16 = .ok (.aload_n 0, 1) := by decide +kernel
theorem dX6_takeNumber_17 : decode cX6_takeNumber 17 = .ok (.getfield 147, 3) := by decide +kernel
theorem dX6_takeNumber_20 : decode cX6_takeNumber 20 = .ok (.iload_n 1, 1) := by decide +kernel
theorem dX6_takeNumber_21 : decode cX6_takeNumber 21 = .ok (.if_icmp .lt 19, 3) := by decide +kernel
theorem dX6_takeNumber_40 : decode cX6_takeNumber 40 = .ok (.aload_n 0, 1) := by decide +kernel
theorem dX6_takeNumber_41 : decode cX6_takeNumber 41 = .ok (.iconst 2, 1) := by decide +kernel
theorem dX6_takeNumber_42 : decode cX6_takeNumber 42 = .ok (.invokevirtual 52, 3) := by decide +kernel
theorem dX6_takeNumber_45 : decode cX6_takeNumber 45 = .ok (.pop, 1) := by decide +kernel
theorem dX6_takeNumber_46 : decode cX6_takeNumber 46 = .ok (.iconst (-1), 1) := by decide +kernel
theorem dX6_takeNumber_47 : decode cX6_takeNumber 47 = .ok (.ireturn, 1) := by decide +kernel
theorem dX6_takeNumber_24 : decode cX6_takeNumber 24 = .ok (.aload_n 0, 1) := by decide +kernel
theorem dX6_takeNumber_25 : decode cX6_takeNumber 25 = .ok (.getfield 147, 3) := by decide +kernel
theorem dX6_takeNumber_28 : decode cX6_takeNumber 28 = .ok (.iload_n 2, 1) := by decide +kernel
theorem dX6_takeNumber_29 : decode cX6_takeNumber 29 = .ok (.if_icmp .gt 11, 3) := by decide +kernel
theorem dX6_takeNumber_32 : decode cX6_takeNumber 32 = .ok (.aload_n 0, 1) := by decide +kernel
theorem dX6_takeNumber_33 : decode cX6_takeNumber 33 = .ok (.getfield 147, 3) := by decide +kernel
theorem dX6_takeNumber_36 : decode cX6_takeNumber 36 = .ok (.iload_n 3, 1) := by decide +kernel
theorem dX6_takeNumber_37 : decode cX6_takeNumber 37 = .ok (.if_icmp .ne 11, 3) := by decide +kernel
theorem dX6_takeNumber_48 : decode cX6_takeNumber 48 = .ok (.aload_n 0, 1) := by decide +kernel
theorem dX6_takeNumber_49 : decode cX6_takeNumber 49 = .ok (.getfield 147, 3) := by decide +kernel
theorem dX6_takeNumber_52 : decode cX6_takeNumber 52 = .ok (.istore 4, 2) := by decide +kernel
theorem dX6_takeNumber_54 : decode cX6_takeNumber 54 = .ok (.aload_n 0, 1) := by decide +kernel
theorem dX6_takeNumber_55 : decode cX6_takeNumber 55 = .ok (.invokevirtual 33, 3) := by decide +kernel
theorem dX6_takeNumber_58 : decode cX6_takeNumber 58 = .ok (.iload 4, 2) := by decide +kernel
theorem dX6_takeNumber_60 : decode cX6_takeNumber 60 = .ok (.ireturn, 1) := by decide +kernel
theorem dX6_takeNumber_8 : decode cX6_takeNumber 8 = .ok (.aload_n 0, 1) := by decide +kernel
theorem dX6_takeNumber_9 : decode cX6_takeNumber 9 = .ok (.iconst 1, 1) := by decide +kernel
theorem dX6_takeNumber_10 : decode cX6_takeNumber 10 = .ok (.invokevirtual 52, 3) := by decide +kernel
theorem dX6_takeNumber_13 : decode cX6_takeNumber 13 = .ok (.pop, 1) := by decide +kernel
theorem dX6_takeNumber_14 : decode cX6_takeNumber 14 = .ok (.iconst (-1), 1) := by decide +kernel
theorem dX6_takeNumber_15 : decode cX6_takeNumber 15 = .ok (.ireturn, 1) := by decide +kernel
theorem dX6_takeNamed_0 : decode cX6_takeNamed 0 = .ok (.aload_n 0, 1) := by decide +kernel
theorem dX6_takeNamed_1 : decode cX6_takeNamed 1 = .ok (.aload_n 1, 1) := by decide +kernel
theorem dX6_takeNamed_2 : decode cX6_takeNamed 2 = .ok (.invokevirtual 48, 3) := by decide +kernel
theorem dX6_takeNamed_5 : decode cX6_takeNamed 5 = .ok (.ifCond .ne 11, 3) := by decide +kernel
theorem dX6_takeNamed_16 : decode cX6_takeNamed 16 = .ok (.aload_n 0, 1) := by decide +kernel
theorem dX6_takeNamed_17 : decode cX6_takeNamed 17 = .ok (.invokevirtual 33, 3) := by decide +kernel
theorem dX6_takeNamed_20 : decode cX6_takeNamed 20 = .ok (.aload_n 0, 1) := by decide +kernel
theorem dX6_takeNamed_21 : decode cX6_takeNamed 21 = .ok (.iload_n 2, 1) := by decide +kernel
theorem dX6_takeNamed_22 : decode cX6_takeNamed 22 = .ok (.iload_n 3, 1) := by decide +kernel
theorem dX6_takeNamed_23 : decode cX6_takeNamed 23 = .ok (.iconst (-1), 1) := by decide +kernel
theorem dX6_takeNamed_24 : decode cX6_takeNamed 24 = .ok (.invokevirtual 120, 3) := by decide +kernel
theorem dX6_takeNamed_27 : decode cX6_takeNamed 27 = .ok (.ireturn, 1) := by decide +kernel
theorem dX6_takeNamed_8 : decode cX6_takeNamed 8 = .ok (.aload_n 0, 1) := by decide +kernel
theorem dX6_takeNamed_9 : decode cX6_takeNamed 9 = .ok (.iconst 1, 1) := by decide +kernel
theorem dX6_takeNamed_10 : decode cX6_takeNamed 10 = .ok (.invokevirtual 52, 3) := by decide +kernel
theorem dX6_takeNamed_13 : decode cX6_takeNamed 13 = .ok (.pop, 1) := by decide +kernel
theorem dX6_takeNamed_14 : decode cX6_takeNamed 14 = .ok (.iconst (-1), 1) := by decide +kernel
theorem dX6_takeNamed_15 : decode cX6_takeNamed 15 = .ok (.ireturn, 1) := by decide +kernel
theorem dX6_takeSign_0 : decode cX6_takeSign 0 = .ok (.aload_n 0, 1) := by decide +kernel
theorem dX6_takeSign_1 : decode cX6_takeSign 1 = .ok (.getfield 36, 3) := by decide +kernel
theorem dX6_takeSign_4 : decode cX6_takeSign 4 = .ok (.iconst 3, 1) := by decide +kernel
theorem dX6_takeSign_5 : decode cX6_takeSign 5 = .ok (.if_icmp .eq 9, 3) := by decide +kernel
theorem dX6_takeSign_14 : decode cX6_takeSign 14 = .ok (.aload_n 0, 1) := by decide +kernel
theorem dX6_takeSign_15 : decode cX6_takeSign 15 = .ok (.invokevirtual 33, 3) := by decide +kernel
theorem dX6_takeSign_18 : decode cX6_takeSign 18 = .ok (.iconst 1, 1) := by decide +kernel
theorem dX6_takeSign_19 : decode cX6_takeSign 19 = .ok (.ireturn, 1) := by decide +kernel
theorem dX6_takeSign_8 : decode cX6_takeSign 8 = .ok (.aload_n 0, 1) := by decide +kernel
theorem dX6_takeSign_9 : decode cX6_takeSign 9 = .ok (.iconst 1, 1) := by decide +kernel
theorem dX6_takeSign_10 : decode cX6_takeSign 10 = .ok (.invokevirtual 52, 3) := by decide +kernel
theorem dX6_takeSign_13 : decode cX6_takeSign 13 = .ok (.ireturn, 1) := by decide +kernel
theorem dX6_takeQuestions_0 : decode cX6_takeQuestions 0 = .ok (.iconst 0, 1) := by decide +kernel
theorem dX6_takeQuestions_1 : decode cX6_takeQuestions 1 = .ok (.istore_n 1, 1) := by decide +kernel
theorem dX6_takeQuestions_2 : decode cX6_takeQuestions 2 = .ok (.iconst 0, 1) := by decide +kernel
theorem dX6_takeQuestions_3 : decode cX6_takeQuestions 3 = .ok (.istore_n 2, 1) := by decide +kernel
theorem dX6_takeQuestions_4 : decode cX6_takeQuestions 4 = .ok (.iload_n 2, 1) := by decide +kernel
theorem dX6_takeQuestions_5 : decode cX6_takeQuestions 5 = .ok (.sipush 900, 3) := by decide +kernel
theorem dX6_takeQuestions_8 : decode cX6_takeQuestions 8 = .ok (.if_icmp .gt 42, 3) := by decide +kernel
theorem dX6_takeQuestions_50 : decode cX6_takeQuestions 50 = .ok (.iload_n 1, 1) := by decide +kernel
theorem dX6_takeQuestions_51 : decode cX6_takeQuestions 51 = .ok (.ireturn, 1) := by decide +kernel
theorem dX6_takeQuestions_11 : decode cX6_takeQuestions 11 = .ok (.iload_n 2, 1) := by decide +kernel
theorem dX6_takeQuestions_23 : decode cX6_takeQuestions 23 = .ok (.aload_n 0, 1) := by decide +kernel
theorem dX6_takeQuestions_24 : decode cX6_takeQuestions 24 = .ok (.iconst 0, 1) := by decide +kernel
theorem dX6_takeQuestions_25 : decode cX6_takeQuestions 25 = .ok (.iconst 5, 1) := by decide +kernel
theorem dX6_takeQuestions_26 : decode cX6_takeQuestions 26 = .ok (.iconst (-1), 1) := by decide +kernel
theorem dX6_takeQuestions_27 : decode cX6_takeQuestions 27 = .ok (.invokevirtual 120, 3) := by decide +kernel
theorem dX6_takeQuestions_30 : decode cX6_takeQuestions 30 = .ok (.istore_n 3, 1) := by decide +kernel
theorem dX6_takeQuestions_31 : decode cX6_takeQuestions 31 = .ok (.iload_n 3, 1) := by decide +kernel
theorem dX6_takeQuestions_32 : decode cX6_takeQuestions 32 = .ok (.iconst (-1), 1) := by decide +kernel
theorem dX6_takeQuestions_33 : decode cX6_takeQuestions 33 = .ok (.if_icmp .ne 5, 3) := by decide +kernel
theorem dX6_takeQuestions_38 : decode cX6_takeQuestions 38 = .ok (.iload_n 1, 1) := by decide +kernel
theorem dX6_takeQuestions_39 : decode cX6_takeQuestions 39 = .ok (.iconst 1, 1) := by decide +kernel
theorem dX6_takeQuestions_40 : decode cX6_takeQuestions 40 = .ok (.iload_n 3, 1) := by decide +kernel
theorem dX6_takeQuestions_41 : decode cX6_takeQuestions 41 = .ok (.ishl, 1) := by decide +kernel
theorem dX6_takeQuestions_42 : decode cX6_takeQuestions 42 = .ok (.ior, 1) := by decide +kernel
theorem dX6_takeQuestions_43 : decode cX6_takeQuestions 43 = .ok (.istore_n 1, 1) := by decide +kernel
theorem dX6_takeQuestions_44 : decode cX6_takeQuestions 44 = .ok (.iinc 2 1, 3) := by decide +kernel
theorem dX6_takeQuestions_47 : decode cX6_takeQuestions 47 = .ok (.goto (-43), 3) := by decide +kernel
theorem dX6_takeQuestions_36 : decode cX6_takeQuestions 36 = .ok (.iconst 0, 1) := by decide +kernel
theorem dX6_takeQuestions_37 : decode cX6_takeQuestions 37 = .ok (.ireturn, 1) := by decide +kernel
theorem dX6_takeQuestions_12 : decode cX6_takeQuestions 12 = .ok (.ifCond .eq 11, 3) := by decide +kernel
theorem dX6_takeQuestions_15 : decode cX6_takeQuestions 15 = .ok (.aload_n 0, 1) := by decide +kernel
theorem dX6_takeQuestions_16 : decode cX6_takeQuestions 16 = .ok (.getfield 36, 3) := by decide +kernel
theorem dX6_takeQuestions_19 : decode cX6_takeQuestions 19 = .ok (.iconst 2, 1) := by decide +kernel
theorem dX6_takeQuestions_20 : decode cX6_takeQuestions 20 = .ok (.if_icmp .ne 30, 3) := by decide +kernel
theorem dX6_readFirst_0 : decode cX6_readFirst 0 = .ok (.aload_n 0, 1) := by decide +kernel
theorem dX6_readFirst_1 : decode cX6_readFirst 1 = .ok (.invokevirtual 33, 3) := by decide +kernel
theorem dX6_readFirst_4 : decode cX6_readFirst 4 = .ok (.aload_n 1, 1) := by decide +kernel
theorem dX6_readFirst_5 : decode cX6_readFirst 5 = .ok (.aload_n 0, 1) := by decide +kernel
theorem dX6_readFirst_6 : decode cX6_readFirst 6 = .ok (.ldc 83, 2) := by decide +kernel
theorem dX6_readFirst_8 : decode cX6_readFirst 8 = .ok (.iconst 0, 1) := by decide +kernel
theorem dX6_readFirst_9 : decode cX6_readFirst 9 = .ok (.bipush 100, 2) := by decide +kernel
theorem dX6_readFirst_11 : decode cX6_readFirst 11 = .ok (.invokevirtual 85, 3) := by decide +kernel
theorem dX6_readFirst_14 : decode cX6_readFirst 14 = .ok (.putfield 89, 3) := by decide +kernel
theorem dX6_readFirst_17 : decode cX6_readFirst 17 = .ok (.aload_n 1, 1) := by decide +kernel
theorem dX6_readFirst_18 : decode cX6_readFirst 18 = .ok (.aload_n 0, 1) := by decide +kernel
theorem dX6_readFirst_19 : decode cX6_readFirst 19 = .ok (.getfield 27, 3) := by decide +kernel
theorem dX6_readFirst_38 : decode cX6_readFirst 38 = .ok (.putfield 93, 3) := by decide +kernel
theorem dX6_readFirst_41 : decode cX6_readFirst 41 = .ok (.aload_n 1, 1) := by decide +kernel
theorem dX6_readFirst_42 : decode cX6_readFirst 42 = .ok (.aload_n 0, 1) := by decide +kernel
theorem dX6_readFirst_43 : decode cX6_readFirst 43 = .ok (.getfield 27, 3) := by decide +kernel
theorem dX6_readFirst_63 : decode cX6_readFirst 63 = .ok (.putfield 97, 3) := by decide +kernel
theorem dX6_readFirst_66 : decode cX6_readFirst 66 = .ok (.aload_n 1, 1) := by decide +kernel
theorem dX6_readFirst_67 : decode cX6_readFirst 67 = .ok (.aload_n 0, 1) := by decide +kernel
theorem dX6_readFirst_68 : decode cX6_readFirst 68 = .ok (.getfield 27, 3) := by decide +kernel
theorem dX6_readFirst_88 : decode cX6_readFirst 88 = .ok (.putfield 101, 3) := by decide +kernel
theorem dX6_readFirst_91 : decode cX6_readFirst 91 = .ok (.aload_n 0, 1) := by decide +kernel
theorem dX6_readFirst_92 : decode cX6_readFirst 92 = .ok (.getfield 27, 3) := by decide +kernel
theorem dX6_readFirst_95 : decode cX6_readFirst 95 = .ok (.ifCond .ne 7, 3) := by decide +kernel
theorem dX6_readFirst_102 : decode cX6_readFirst 102 = .ok (.iconst 0, 1) := by decide +kernel
theorem dX6_readFirst_103 : decode cX6_readFirst 103 = .ok (.ireturn, 1) := by decide +kernel
theorem dX6_readFirst_98 : decode cX6_readFirst 98 = .ok (.iconst 1, 1) := by decide +kernel
theorem dX6_readFirst_99 : decode cX6_readFirst 99 = .ok (.goto 4, 3) := by decide +kernel
theorem dX6_readFirst_71 : decode cX6_readFirst 71 = .ok (.ifCond .ne 16, 3) := by decide +kernel
theorem dX6_readFirst_87 : decode cX6_readFirst 87 = .ok (.iconst (-1), 1) := by decide +kernel
theorem dX6_readFirst_74 : decode cX6_readFirst 74 = .ok (.aload_n 0, 1) := by decide +kernel
theorem dX6_readFirst_75 : decode cX6_readFirst 75 = .ok (.ldc 99, 2) := by decide +kernel
theorem dX6_readFirst_77 : decode cX6_readFirst 77 = .ok (.iconst 0, 1) := by decide +kernel
theorem dX6_readFirst_78 : decode cX6_readFirst 78 = .ok (.sipush 999, 3) := by decide +kernel
theorem dX6_readFirst_81 : decode cX6_readFirst 81 = .ok (.invokevirtual 85, 3) := by decide +kernel
theorem dX6_readFirst_84 : decode cX6_readFirst 84 = .ok (.goto 4, 3) := by decide +kernel
theorem dX6_readFirst_46 : decode cX6_readFirst 46 = .ok (.ifCond .ne 16, 3) := by decide +kernel
theorem dX6_readFirst_62 : decode cX6_readFirst 62 = .ok (.iconst (-1), 1) := by decide +kernel
theorem dX6_readFirst_49 : decode cX6_readFirst 49 = .ok (.aload_n 0, 1) := by decide +kernel
theorem dX6_readFirst_50 : decode cX6_readFirst 50 = .ok (.ldc 95, 2) := by decide +kernel
theorem dX6_readFirst_52 : decode cX6_readFirst 52 = .ok (.iconst 0, 1) := by decide +kernel
theorem dX6_readFirst_53 : decode cX6_readFirst 53 = .ok (.sipush 999, 3) := by decide +kernel
theorem dX6_readFirst_56 : decode cX6_readFirst 56 = .ok (.invokevirtual 85, 3) := by decide +kernel
theorem dX6_readFirst_59 : decode cX6_readFirst 59 = .ok (.goto 4, 3) := by decide +kernel
theorem dX6_readFirst_22 : decode cX6_readFirst 22 = .ok (.ifCond .ne 15, 3) := by decide +kernel
theorem dX6_readFirst_37 : decode cX6_readFirst 37 = .ok (.iconst (-1), 1) := by decide +kernel
theorem dX6_readFirst_25 : decode cX6_readFirst 25 = .ok (.aload_n 0, 1) := by decide +kernel
theorem dX6_readFirst_26 : decode cX6_readFirst 26 = .ok (.ldc 91, 2) := by decide +kernel
theorem dX6_readFirst_28 : decode cX6_readFirst 28 = .ok (.iconst 0, 1) := by decide +kernel
theorem dX6_readFirst_29 : decode cX6_readFirst 29 = .ok (.bipush 100, 2) := by decide +kernel
theorem dX6_readFirst_31 : decode cX6_readFirst 31 = .ok (.invokevirtual 85, 3) := by decide +kernel
theorem dX6_readFirst_34 : decode cX6_readFirst 34 = .ok (.goto 4, 3) := by decide +kernel
theorem dX6_readRoom_0 : decode cX6_readRoom 0 = .ok (.aload_n 1, 1) := by decide +kernel
theorem dX6_readRoom_1 : decode cX6_readRoom 1 = .ok (.getfield 103, 3) := by decide +kernel
theorem dX6_readRoom_4 : decode cX6_readRoom 4 = .ok (.bipush 7, 2) := by decide +kernel
theorem dX6_readRoom_6 : decode cX6_readRoom 6 = .ok (.if_icmp .lt 9, 3) := by decide +kernel
theorem dX6_readRoom_15 : decode cX6_readRoom 15 = .ok (.aload_n 0, 1) := by decide +kernel
theorem dX6_readRoom_16 : decode cX6_readRoom 16 = .ok (.invokevirtual 33, 3) := by decide +kernel
theorem dX6_readRoom_19 : decode cX6_readRoom 19 = .ok (.aload_n 0, 1) := by decide +kernel
theorem dX6_readRoom_20 : decode cX6_readRoom 20 = .ok (.ldc 106, 2) := by decide +kernel
theorem dX6_readRoom_22 : decode cX6_readRoom 22 = .ok (.iconst 0, 1) := by decide +kernel
theorem dX6_readRoom_23 : decode cX6_readRoom 23 = .ok (.iconst 0, 1) := by decide +kernel
theorem dX6_readRoom_24 : decode cX6_readRoom 24 = .ok (.invokestatic 108, 3) := by decide +kernel
theorem dX6_readRoom_27 : decode cX6_readRoom 27 = .ok (.invokevirtual 85, 3) := by decide +kernel
theorem dX6_readRoom_30 : decode cX6_readRoom 30 = .ok (.istore_n 2, 1) := by decide +kernel
theorem dX6_readRoom_31 : decode cX6_readRoom 31 = .ok (.aload_n 0, 1) := by decide +kernel
theorem dX6_readRoom_32 : decode cX6_readRoom 32 = .ok (.getfield 27, 3) := by decide +kernel
theorem dX6_readRoom_53 : decode cX6_readRoom 53 = .ok (.istore_n 3, 1) := by decide +kernel
theorem dX6_readRoom_54 : decode cX6_readRoom 54 = .ok (.aload_n 0, 1) := by decide +kernel
theorem dX6_readRoom_55 : decode cX6_readRoom 55 = .ok (.getfield 27, 3) := by decide +kernel
theorem dX6_readRoom_76 : decode cX6_readRoom 76 = .ok (.istore 4, 2) := by decide +kernel
theorem dX6_readRoom_78 : decode cX6_readRoom 78 = .ok (.aload_n 0, 1) := by decide +kernel
theorem dX6_readRoom_79 : decode cX6_readRoom 79 = .ok (.getfield 27, 3) := by decide +kernel
theorem dX6_readRoom_82 : decode cX6_readRoom 82 = .ok (.ifCond .eq 5, 3) := by decide +kernel
theorem dX6_readRoom_87 : decode cX6_readRoom 87 = .ok (.aload_n 1, 1) := by decide +kernel
theorem dX6_readRoom_88 : decode cX6_readRoom 88 = .ok (.iload_n 2, 1) := by decide +kernel
theorem dX6_readRoom_89 : decode cX6_readRoom 89 = .ok (.iload_n 3, 1) := by decide +kernel
theorem dX6_readRoom_90 : decode cX6_readRoom 90 = .ok (.iload 4, 2) := by decide +kernel
theorem dX6_readRoom_92 : decode cX6_readRoom 92 = .ok (.invokevirtual 116, 3) := by decide +kernel
theorem dX6_readRoom_95 : decode cX6_readRoom 95 = .ok (.iconst 1, 1) := by decide +kernel
theorem dX6_readRoom_96 : decode cX6_readRoom 96 = .ok (.ireturn, 1) := by decide +kernel
theorem dX6_readRoom_85 : decode cX6_readRoom 85 = .ok (.iconst 0, 1) := by decide +kernel
theorem dX6_readRoom_86 : decode cX6_readRoom 86 = .ok (.ireturn, 1) := by decide +kernel
theorem dX6_readRoom_58 : decode cX6_readRoom 58 = .ok (.ifCond .ne 17, 3) := by decide +kernel
theorem dX6_readRoom_75 : decode cX6_readRoom 75 = .ok (.iconst (-1), 1) := by decide +kernel
theorem dX6_readRoom_61 : decode cX6_readRoom 61 = .ok (.aload_n 0, 1) := by decide +kernel
theorem dX6_readRoom_62 : decode cX6_readRoom 62 = .ok (.ldc 114, 2) := by decide +kernel
theorem dX6_readRoom_64 : decode cX6_readRoom 64 = .ok (.iconst 0, 1) := by decide +kernel
theorem dX6_readRoom_65 : decode cX6_readRoom 65 = .ok (.iconst 2, 1) := by decide +kernel
theorem dX6_readRoom_66 : decode cX6_readRoom 66 = .ok (.invokestatic 108, 3) := by decide +kernel
theorem dX6_readRoom_69 : decode cX6_readRoom 69 = .ok (.invokevirtual 85, 3) := by decide +kernel
theorem dX6_readRoom_72 : decode cX6_readRoom 72 = .ok (.goto 4, 3) := by decide +kernel
theorem dX6_readRoom_35 : decode cX6_readRoom 35 = .ok (.ifCond .ne 17, 3) := by decide +kernel
theorem dX6_readRoom_52 : decode cX6_readRoom 52 = .ok (.iconst (-1), 1) := by decide +kernel
theorem dX6_readRoom_38 : decode cX6_readRoom 38 = .ok (.aload_n 0, 1) := by decide +kernel
theorem dX6_readRoom_39 : decode cX6_readRoom 39 = .ok (.ldc 112, 2) := by decide +kernel
theorem dX6_readRoom_41 : decode cX6_readRoom 41 = .ok (.iconst 0, 1) := by decide +kernel
theorem dX6_readRoom_42 : decode cX6_readRoom 42 = .ok (.iconst 1, 1) := by decide +kernel
theorem dX6_readRoom_43 : decode cX6_readRoom 43 = .ok (.invokestatic 108, 3) := by decide +kernel
theorem dX6_readRoom_46 : decode cX6_readRoom 46 = .ok (.invokevirtual 85, 3) := by decide +kernel
theorem dX6_readRoom_49 : decode cX6_readRoom 49 = .ok (.goto 4, 3) := by decide +kernel
theorem dX6_readRoom_9 : decode cX6_readRoom 9 = .ok (.aload_n 0, 1) := by decide +kernel
theorem dX6_readRoom_10 : decode cX6_readRoom 10 = .ok (.iconst 3, 1) := by decide +kernel
theorem dX6_readRoom_11 : decode cX6_readRoom 11 = .ok (.invokevirtual 52, 3) := by decide +kernel
theorem dX6_readRoom_14 : decode cX6_readRoom 14 = .ok (.ireturn, 1) := by decide +kernel
theorem dX6_readDoor_0 : decode cX6_readDoor 0 = .ok (.aload_n 0, 1) := by decide +kernel
theorem dX6_readDoor_1 : decode cX6_readDoor 1 = .ok (.invokevirtual 33, 3) := by decide +kernel
theorem dX6_readDoor_4 : decode cX6_readDoor 4 = .ok (.aload_n 0, 1) := by decide +kernel
theorem dX6_readDoor_5 : decode cX6_readDoor 5 = .ok (.iconst 0, 1) := by decide +kernel
theorem dX6_readDoor_6 : decode cX6_readDoor 6 = .ok (.aload_n 1, 1) := by decide +kernel
theorem dX6_readDoor_7 : decode cX6_readDoor 7 = .ok (.getfield 103, 3) := by decide +kernel
theorem dX6_readDoor_10 : decode cX6_readDoor 10 = .ok (.iconst 1, 1) := by decide +kernel
theorem dX6_readDoor_11 : decode cX6_readDoor 11 = .ok (.isub, 1) := by decide +kernel
theorem dX6_readDoor_12 : decode cX6_readDoor 12 = .ok (.iconst (-1), 1) := by decide +kernel
theorem dX6_readDoor_13 : decode cX6_readDoor 13 = .ok (.invokevirtual 120, 3) := by decide +kernel
theorem dX6_readDoor_16 : decode cX6_readDoor 16 = .ok (.istore_n 2, 1) := by decide +kernel
theorem dX6_readDoor_17 : decode cX6_readDoor 17 = .ok (.aload_n 0, 1) := by decide +kernel
theorem dX6_readDoor_18 : decode cX6_readDoor 18 = .ok (.getfield 27, 3) := by decide +kernel
theorem dX6_readDoor_40 : decode cX6_readDoor 40 = .ok (.istore_n 3, 1) := by decide +kernel
theorem dX6_readDoor_41 : decode cX6_readDoor 41 = .ok (.aload_n 0, 1) := by decide +kernel
theorem dX6_readDoor_42 : decode cX6_readDoor 42 = .ok (.getfield 27, 3) := by decide +kernel
theorem dX6_readDoor_45 : decode cX6_readDoor 45 = .ok (.ifCond .eq 5, 3) := by decide +kernel
theorem dX6_readDoor_50 : decode cX6_readDoor 50 = .ok (.aload_n 1, 1) := by decide +kernel
theorem dX6_readDoor_51 : decode cX6_readDoor 51 = .ok (.iload_n 2, 1) := by decide +kernel
theorem dX6_readDoor_52 : decode cX6_readDoor 52 = .ok (.iload_n 3, 1) := by decide +kernel
theorem dX6_readDoor_53 : decode cX6_readDoor 53 = .ok (.invokevirtual 124, 3) := by decide +kernel
theorem dX6_readDoor_56 : decode cX6_readDoor 56 = .ok (.iconst 1, 1) := by decide +kernel
theorem dX6_readDoor_57 : decode cX6_readDoor 57 = .ok (.ireturn, 1) := by decide +kernel
theorem dX6_readDoor_48 : decode cX6_readDoor 48 = .ok (.iconst 0, 1) := by decide +kernel
theorem dX6_readDoor_49 : decode cX6_readDoor 49 = .ok (.ireturn, 1) := by decide +kernel
theorem dX6_readDoor_21 : decode cX6_readDoor 21 = .ok (.ifCond .ne 18, 3) := by decide +kernel
theorem dX6_readDoor_39 : decode cX6_readDoor 39 = .ok (.iconst (-1), 1) := by decide +kernel
theorem dX6_readDoor_24 : decode cX6_readDoor 24 = .ok (.aload_n 0, 1) := by decide +kernel
theorem dX6_readDoor_25 : decode cX6_readDoor 25 = .ok (.iconst 0, 1) := by decide +kernel
theorem dX6_readDoor_26 : decode cX6_readDoor 26 = .ok (.aload_n 1, 1) := by decide +kernel
theorem dX6_readDoor_27 : decode cX6_readDoor 27 = .ok (.getfield 103, 3) := by decide +kernel
theorem dX6_readDoor_30 : decode cX6_readDoor 30 = .ok (.iconst 1, 1) := by decide +kernel
theorem dX6_readDoor_31 : decode cX6_readDoor 31 = .ok (.isub, 1) := by decide +kernel
theorem dX6_readDoor_32 : decode cX6_readDoor 32 = .ok (.iload_n 2, 1) := by decide +kernel
theorem dX6_readDoor_33 : decode cX6_readDoor 33 = .ok (.invokevirtual 120, 3) := by decide +kernel
theorem dX6_readDoor_36 : decode cX6_readDoor 36 = .ok (.goto 4, 3) := by decide +kernel
theorem dX6_readMan_0 : decode cX6_readMan 0 = .ok (.aload_n 1, 1) := by decide +kernel
theorem dX6_readMan_1 : decode cX6_readMan 1 = .ok (.getfield 128, 3) := by decide +kernel
theorem dX6_readMan_4 : decode cX6_readMan 4 = .ok (.bipush 6, 2) := by decide +kernel
theorem dX6_readMan_6 : decode cX6_readMan 6 = .ok (.if_icmp .lt 9, 3) := by decide +kernel
theorem dX6_readMan_15 : decode cX6_readMan 15 = .ok (.aload_n 0, 1) := by decide +kernel
theorem dX6_readMan_16 : decode cX6_readMan 16 = .ok (.invokevirtual 33, 3) := by decide +kernel
theorem dX6_readMan_19 : decode cX6_readMan 19 = .ok (.aload_n 0, 1) := by decide +kernel
theorem dX6_readMan_20 : decode cX6_readMan 20 = .ok (.ldc 131, 2) := by decide +kernel
theorem dX6_readMan_22 : decode cX6_readMan 22 = .ok (.iconst 1, 1) := by decide +kernel
theorem dX6_readMan_23 : decode cX6_readMan 23 = .ok (.bipush 99, 2) := by decide +kernel
theorem dX6_readMan_25 : decode cX6_readMan 25 = .ok (.invokevirtual 85, 3) := by decide +kernel
theorem dX6_readMan_28 : decode cX6_readMan 28 = .ok (.istore_n 2, 1) := by decide +kernel
theorem dX6_readMan_29 : decode cX6_readMan 29 = .ok (.iconst 0, 1) := by decide +kernel
theorem dX6_readMan_30 : decode cX6_readMan 30 = .ok (.istore_n 3, 1) := by decide +kernel
theorem dX6_readMan_31 : decode cX6_readMan 31 = .ok (.aload_n 0, 1) := by decide +kernel
theorem dX6_readMan_32 : decode cX6_readMan 32 = .ok (.getfield 27, 3) := by decide +kernel
theorem dX6_readMan_56 : decode cX6_readMan 56 = .ok (.aload_n 0, 1) := by decide +kernel
theorem dX6_readMan_57 : decode cX6_readMan 57 = .ok (.getfield 27, 3) := by decide +kernel
theorem dX6_readMan_60 : decode cX6_readMan 60 = .ok (.ifCond .eq 5, 3) := by decide +kernel
theorem dX6_readMan_65 : decode cX6_readMan 65 = .ok (.aload_n 1, 1) := by decide +kernel
theorem dX6_readMan_66 : decode cX6_readMan 66 = .ok (.iload_n 2, 1) := by decide +kernel
theorem dX6_readMan_67 : decode cX6_readMan 67 = .ok (.iload_n 3, 1) := by decide +kernel
theorem dX6_readMan_68 : decode cX6_readMan 68 = .ok (.invokevirtual 139, 3) := by decide +kernel
theorem dX6_readMan_71 : decode cX6_readMan 71 = .ok (.iconst 1, 1) := by decide +kernel
theorem dX6_readMan_72 : decode cX6_readMan 72 = .ok (.ireturn, 1) := by decide +kernel
theorem dX6_readMan_63 : decode cX6_readMan 63 = .ok (.iconst 0, 1) := by decide +kernel
theorem dX6_readMan_64 : decode cX6_readMan 64 = .ok (.ireturn, 1) := by decide +kernel
theorem dX6_readMan_35 : decode cX6_readMan 35 = .ok (.ifCond .ne 21, 3) := by decide +kernel
theorem dX6_readMan_38 : decode cX6_readMan 38 = .ok (.aload_n 0, 1) := by decide +kernel
theorem dX6_readMan_39 : decode cX6_readMan 39 = .ok (.ldc 133, 2) := by decide +kernel
theorem dX6_readMan_41 : decode cX6_readMan 41 = .ok (.invokevirtual 48, 3) := by decide +kernel
theorem dX6_readMan_44 : decode cX6_readMan 44 = .ok (.ifCond .eq 12, 3) := by decide +kernel
theorem dX6_readMan_47 : decode cX6_readMan 47 = .ok (.aload_n 0, 1) := by decide +kernel
theorem dX6_readMan_48 : decode cX6_readMan 48 = .ok (.invokevirtual 33, 3) := by decide +kernel
theorem dX6_readMan_51 : decode cX6_readMan 51 = .ok (.aload_n 0, 1) := by decide +kernel
theorem dX6_readMan_52 : decode cX6_readMan 52 = .ok (.invokevirtual 135, 3) := by decide +kernel
theorem dX6_readMan_55 : decode cX6_readMan 55 = .ok (.istore_n 3, 1) := by decide +kernel
theorem dX6_readMan_9 : decode cX6_readMan 9 = .ok (.aload_n 0, 1) := by decide +kernel
theorem dX6_readMan_10 : decode cX6_readMan 10 = .ok (.iconst 3, 1) := by decide +kernel
theorem dX6_readMan_11 : decode cX6_readMan 11 = .ok (.invokevirtual 52, 3) := by decide +kernel
theorem dX6_readMan_14 : decode cX6_readMan 14 = .ok (.ireturn, 1) := by decide +kernel
theorem dX6_readSlate_0 : decode cX6_readSlate 0 = .ok (.aload_n 0, 1) := by decide +kernel
theorem dX6_readSlate_1 : decode cX6_readSlate 1 = .ok (.invokevirtual 33, 3) := by decide +kernel
theorem dX6_readSlate_4 : decode cX6_readSlate 4 = .ok (.aload_n 0, 1) := by decide +kernel
theorem dX6_readSlate_5 : decode cX6_readSlate 5 = .ok (.iconst 0, 1) := by decide +kernel
theorem dX6_readSlate_6 : decode cX6_readSlate 6 = .ok (.aload_n 1, 1) := by decide +kernel
theorem dX6_readSlate_7 : decode cX6_readSlate 7 = .ok (.getfield 128, 3) := by decide +kernel
theorem dX6_readSlate_10 : decode cX6_readSlate 10 = .ok (.iconst 1, 1) := by decide +kernel
theorem dX6_readSlate_11 : decode cX6_readSlate 11 = .ok (.isub, 1) := by decide +kernel
theorem dX6_readSlate_12 : decode cX6_readSlate 12 = .ok (.iconst (-1), 1) := by decide +kernel
theorem dX6_readSlate_13 : decode cX6_readSlate 13 = .ok (.invokevirtual 120, 3) := by decide +kernel
theorem dX6_readSlate_16 : decode cX6_readSlate 16 = .ok (.istore_n 2, 1) := by decide +kernel
theorem dX6_readSlate_17 : decode cX6_readSlate 17 = .ok (.aload_n 0, 1) := by decide +kernel
theorem dX6_readSlate_18 : decode cX6_readSlate 18 = .ok (.getfield 27, 3) := by decide +kernel
theorem dX6_readSlate_41 : decode cX6_readSlate 41 = .ok (.istore_n 3, 1) := by decide +kernel
theorem dX6_readSlate_42 : decode cX6_readSlate 42 = .ok (.aload_n 0, 1) := by decide +kernel
theorem dX6_readSlate_43 : decode cX6_readSlate 43 = .ok (.getfield 27, 3) := by decide +kernel
theorem dX6_readSlate_61 : decode cX6_readSlate 61 = .ok (.istore 4, 2) := by decide +kernel
theorem dX6_readSlate_63 : decode cX6_readSlate 63 = .ok (.aload_n 0, 1) := by decide +kernel
theorem dX6_readSlate_64 : decode cX6_readSlate 64 = .ok (.getfield 27, 3) := by decide +kernel
theorem dX6_readSlate_67 : decode cX6_readSlate 67 = .ok (.ifCond .eq 5, 3) := by decide +kernel
theorem dX6_readSlate_72 : decode cX6_readSlate 72 = .ok (.aload_n 1, 1) := by decide +kernel
theorem dX6_readSlate_73 : decode cX6_readSlate 73 = .ok (.iload_n 2, 1) := by decide +kernel
theorem dX6_readSlate_74 : decode cX6_readSlate 74 = .ok (.iload_n 3, 1) := by decide +kernel
theorem dX6_readSlate_75 : decode cX6_readSlate 75 = .ok (.iload 4, 2) := by decide +kernel
theorem dX6_readSlate_77 : decode cX6_readSlate 77 = .ok (.invokevirtual 144, 3) := by decide +kernel
theorem dX6_readSlate_80 : decode cX6_readSlate 80 = .ok (.iconst 1, 1) := by decide +kernel
theorem dX6_readSlate_81 : decode cX6_readSlate 81 = .ok (.ireturn, 1) := by decide +kernel
theorem dX6_readSlate_70 : decode cX6_readSlate 70 = .ok (.iconst 0, 1) := by decide +kernel
theorem dX6_readSlate_71 : decode cX6_readSlate 71 = .ok (.ireturn, 1) := by decide +kernel
theorem dX6_readSlate_46 : decode cX6_readSlate 46 = .ok (.ifCond .ne 14, 3) := by decide +kernel
theorem dX6_readSlate_60 : decode cX6_readSlate 60 = .ok (.iconst (-1), 1) := by decide +kernel
theorem dX6_readSlate_49 : decode cX6_readSlate 49 = .ok (.aload_n 0, 1) := by decide +kernel
theorem dX6_readSlate_50 : decode cX6_readSlate 50 = .ok (.iconst 0, 1) := by decide +kernel
theorem dX6_readSlate_51 : decode cX6_readSlate 51 = .ok (.bipush 9, 2) := by decide +kernel
theorem dX6_readSlate_53 : decode cX6_readSlate 53 = .ok (.iconst (-1), 1) := by decide +kernel
theorem dX6_readSlate_54 : decode cX6_readSlate 54 = .ok (.invokevirtual 120, 3) := by decide +kernel
theorem dX6_readSlate_57 : decode cX6_readSlate 57 = .ok (.goto 4, 3) := by decide +kernel
theorem dX6_readSlate_21 : decode cX6_readSlate 21 = .ok (.ifCond .ne 19, 3) := by decide +kernel
theorem dX6_readSlate_40 : decode cX6_readSlate 40 = .ok (.iconst (-1), 1) := by decide +kernel
theorem dX6_readSlate_24 : decode cX6_readSlate 24 = .ok (.aload_n 0, 1) := by decide +kernel
theorem dX6_readSlate_25 : decode cX6_readSlate 25 = .ok (.ldc 142, 2) := by decide +kernel
theorem dX6_readSlate_27 : decode cX6_readSlate 27 = .ok (.iconst 0, 1) := by decide +kernel
theorem dX6_readSlate_28 : decode cX6_readSlate 28 = .ok (.aload_n 1, 1) := by decide +kernel
theorem dX6_readSlate_29 : decode cX6_readSlate 29 = .ok (.getfield 128, 3) := by decide +kernel
theorem dX6_readSlate_32 : decode cX6_readSlate 32 = .ok (.iconst 1, 1) := by decide +kernel
theorem dX6_readSlate_33 : decode cX6_readSlate 33 = .ok (.isub, 1) := by decide +kernel
theorem dX6_readSlate_34 : decode cX6_readSlate 34 = .ok (.invokevirtual 85, 3) := by decide +kernel
theorem dX6_readSlate_37 : decode cX6_readSlate 37 = .ok (.goto 4, 3) := by decide +kernel
theorem dX6_readLine_0 : decode cX6_readLine 0 = .ok (.aload_n 1, 1) := by decide +kernel
theorem dX6_readLine_1 : decode cX6_readLine 1 = .ok (.getfield 43, 3) := by decide +kernel
theorem dX6_readLine_12 : decode cX6_readLine 12 = .ok (.istore_n 2, 1) := by decide +kernel
theorem dX6_readLine_13 : decode cX6_readLine 13 = .ok (.iload_n 2, 1) := by decide +kernel
theorem dX6_readLine_14 : decode cX6_readLine 14 = .ok (.aload_n 0, 1) := by decide +kernel
theorem dX6_readLine_15 : decode cX6_readLine 15 = .ok (.ldc 46, 2) := by decide +kernel
theorem dX6_readLine_17 : decode cX6_readLine 17 = .ok (.invokevirtual 48, 3) := by decide +kernel
theorem dX6_readLine_123 : decode cX6_readLine 123 = .ok (.iload_n 3, 1) := by decide +kernel
theorem dX6_readLine_124 : decode cX6_readLine 124 = .ok (.ifCond .eq 10, 3) := by decide +kernel
theorem dX6_readLine_134 : decode cX6_readLine 134 = .ok (.iconst 0, 1) := by decide +kernel
theorem dX6_readLine_135 : decode cX6_readLine 135 = .ok (.ireturn, 1) := by decide +kernel
theorem dX6_readLine_127 : decode cX6_readLine 127 = .ok (.aload_n 0, 1) := by decide +kernel
theorem dX6_readLine_128 : decode cX6_readLine 128 = .ok (.invokevirtual 79, 3) := by decide +kernel
theorem dX6_readLine_131 : decode cX6_readLine 131 = .ok (.ifCond .ne 5, 3) := by decide +kernel
theorem dX6_readLine_136 : decode cX6_readLine 136 = .ok (.aload_n 1, 1) := by decide +kernel
theorem dX6_readLine_137 : decode cX6_readLine 137 = .ok (.dup, 1) := by decide +kernel
theorem dX6_readLine_138 : decode cX6_readLine 138 = .ok (.getfield 43, 3) := by decide +kernel
theorem dX6_readLine_141 : decode cX6_readLine 141 = .ok (.iconst 1, 1) := by decide +kernel
theorem dX6_readLine_142 : decode cX6_readLine 142 = .ok (.iadd, 1) := by decide +kernel
theorem dX6_readLine_143 : decode cX6_readLine 143 = .ok (.putfield 43, 3) := by decide +kernel
theorem dX6_readLine_146 : decode cX6_readLine 146 = .ok (.iconst 1, 1) := by decide +kernel
theorem dX6_readLine_147 : decode cX6_readLine 147 = .ok (.ireturn, 1) := by decide +kernel
theorem dX6_readLine_20 : decode cX6_readLine 20 = .ok (.if_icmp .eq 12, 3) := by decide +kernel
theorem dX6_readLine_32 : decode cX6_readLine 32 = .ok (.iload_n 2, 1) := by decide +kernel
theorem dX6_readLine_33 : decode cX6_readLine 33 = .ok (.ifCond .eq 12, 3) := by decide +kernel
theorem dX6_readLine_45 : decode cX6_readLine 45 = .ok (.aload_n 0, 1) := by decide +kernel
theorem dX6_readLine_46 : decode cX6_readLine 46 = .ok (.ldc 59, 2) := by decide +kernel
theorem dX6_readLine_48 : decode cX6_readLine 48 = .ok (.invokevirtual 48, 3) := by decide +kernel
theorem dX6_readLine_51 : decode cX6_readLine 51 = .ok (.ifCond .eq 12, 3) := by decide +kernel
theorem dX6_readLine_63 : decode cX6_readLine 63 = .ok (.aload_n 0, 1) := by decide +kernel
theorem dX6_readLine_64 : decode cX6_readLine 64 = .ok (.ldc 64, 2) := by decide +kernel
theorem dX6_readLine_66 : decode cX6_readLine 66 = .ok (.invokevirtual 48, 3) := by decide +kernel
theorem dX6_readLine_69 : decode cX6_readLine 69 = .ok (.ifCond .eq 12, 3) := by decide +kernel
theorem dX6_readLine_81 : decode cX6_readLine 81 = .ok (.aload_n 0, 1) := by decide +kernel
theorem dX6_readLine_82 : decode cX6_readLine 82 = .ok (.ldc 69, 2) := by decide +kernel
theorem dX6_readLine_84 : decode cX6_readLine 84 = .ok (.invokevirtual 48, 3) := by decide +kernel
theorem dX6_readLine_87 : decode cX6_readLine 87 = .ok (.ifCond .eq 12, 3) := by decide +kernel
theorem dX6_readLine_99 : decode cX6_readLine 99 = .ok (.aload_n 0, 1) := by decide +kernel
theorem dX6_readLine_100 : decode cX6_readLine 100 = .ok (.ldc 74, 2) := by decide +kernel
theorem dX6_readLine_102 : decode cX6_readLine 102 = .ok (.invokevirtual 48, 3) := by decide +kernel
theorem dX6_readLine_105 : decode cX6_readLine 105 = .ok (.ifCond .eq 12, 3) := by decide +kernel
theorem dX6_readLine_117 : decode cX6_readLine 117 = .ok (.aload_n 0, 1) := by decide +kernel
theorem dX6_readLine_118 : decode cX6_readLine 118 = .ok (.iconst 1, 1) := by decide +kernel
theorem dX6_readLine_119 : decode cX6_readLine 119 = .ok (.invokevirtual 52, 3) := by decide +kernel
theorem dX6_readLine_122 : decode cX6_readLine 122 = .ok (.istore_n 3, 1) := by decide +kernel
theorem dX6_readLine_108 : decode cX6_readLine 108 = .ok (.aload_n 0, 1) := by decide +kernel
theorem dX6_readLine_109 : decode cX6_readLine 109 = .ok (.aload_n 1, 1) := by decide +kernel
theorem dX6_readLine_110 : decode cX6_readLine 110 = .ok (.invokevirtual 76, 3) := by decide +kernel
theorem dX6_readLine_113 : decode cX6_readLine 113 = .ok (.istore_n 3, 1) := by decide +kernel
theorem dX6_readLine_114 : decode cX6_readLine 114 = .ok (.goto 9, 3) := by decide +kernel
theorem dX6_readLine_90 : decode cX6_readLine 90 = .ok (.aload_n 0, 1) := by decide +kernel
theorem dX6_readLine_91 : decode cX6_readLine 91 = .ok (.aload_n 1, 1) := by decide +kernel
theorem dX6_readLine_92 : decode cX6_readLine 92 = .ok (.invokevirtual 71, 3) := by decide +kernel
theorem dX6_readLine_95 : decode cX6_readLine 95 = .ok (.istore_n 3, 1) := by decide +kernel
theorem dX6_readLine_96 : decode cX6_readLine 96 = .ok (.goto 27, 3) := by decide +kernel
theorem dX6_readLine_72 : decode cX6_readLine 72 = .ok (.aload_n 0, 1) := by decide +kernel
theorem dX6_readLine_73 : decode cX6_readLine 73 = .ok (.aload_n 1, 1) := by decide +kernel
theorem dX6_readLine_74 : decode cX6_readLine 74 = .ok (.invokevirtual 66, 3) := by decide +kernel
theorem dX6_readLine_77 : decode cX6_readLine 77 = .ok (.istore_n 3, 1) := by decide +kernel
theorem dX6_readLine_78 : decode cX6_readLine 78 = .ok (.goto 45, 3) := by decide +kernel
theorem dX6_readLine_54 : decode cX6_readLine 54 = .ok (.aload_n 0, 1) := by decide +kernel
theorem dX6_readLine_55 : decode cX6_readLine 55 = .ok (.aload_n 1, 1) := by decide +kernel
theorem dX6_readLine_56 : decode cX6_readLine 56 = .ok (.invokevirtual 61, 3) := by decide +kernel
theorem dX6_readLine_59 : decode cX6_readLine 59 = .ok (.istore_n 3, 1) := by decide +kernel
theorem dX6_readLine_60 : decode cX6_readLine 60 = .ok (.goto 63, 3) := by decide +kernel
theorem dX6_readLine_36 : decode cX6_readLine 36 = .ok (.aload_n 0, 1) := by decide +kernel
theorem dX6_readLine_37 : decode cX6_readLine 37 = .ok (.aload_n 1, 1) := by decide +kernel
theorem dX6_readLine_38 : decode cX6_readLine 38 = .ok (.invokevirtual 56, 3) := by decide +kernel
theorem dX6_readLine_41 : decode cX6_readLine 41 = .ok (.istore_n 3, 1) := by decide +kernel
theorem dX6_readLine_42 : decode cX6_readLine 42 = .ok (.goto 81, 3) := by decide +kernel
theorem dX6_readLine_23 : decode cX6_readLine 23 = .ok (.aload_n 0, 1) := by decide +kernel
theorem dX6_readLine_24 : decode cX6_readLine 24 = .ok (.iconst 1, 1) := by decide +kernel
theorem dX6_readLine_25 : decode cX6_readLine 25 = .ok (.invokevirtual 52, 3) := by decide +kernel
theorem dX6_readLine_28 : decode cX6_readLine 28 = .ok (.istore_n 3, 1) := by decide +kernel
theorem dX6_readLine_29 : decode cX6_readLine 29 = .ok (.goto 94, 3) := by decide +kernel
theorem dX6_readLine_4 : decode cX6_readLine 4 = .ok (.ifCond .ne 7, 3) := by decide +kernel
theorem dX6_readLine_11 : decode cX6_readLine 11 = .ok (.iconst 0, 1) := by decide +kernel
theorem dX6_readLine_7 : decode cX6_readLine 7 = .ok (.iconst 1, 1) := by decide +kernel
theorem dX6_readLine_8 : decode cX6_readLine 8 = .ok (.goto 4, 3) := by decide +kernel
theorem dX6_readHouse_0 : decode cX6_readHouse 0 = .ok (.aload_n 1, 1) := by decide +kernel
theorem dX6_readHouse_1 : decode cX6_readHouse 1 = .ok (.invokevirtual 22, 3) := by decide +kernel
theorem dX6_readHouse_4 : decode cX6_readHouse 4 = .ok (.aload_n 0, 1) := by decide +kernel
theorem dX6_readHouse_5 : decode cX6_readHouse 5 = .ok (.iconst 0, 1) := by decide +kernel
theorem dX6_readHouse_6 : decode cX6_readHouse 6 = .ok (.putfield 27, 3) := by decide +kernel
theorem dX6_readHouse_9 : decode cX6_readHouse 9 = .ok (.aload_n 0, 1) := by decide +kernel
theorem dX6_readHouse_10 : decode cX6_readHouse 10 = .ok (.iconst (-1), 1) := by decide +kernel
theorem dX6_readHouse_11 : decode cX6_readHouse 11 = .ok (.putfield 18, 3) := by decide +kernel
theorem dX6_readHouse_14 : decode cX6_readHouse 14 = .ok (.aload_n 0, 1) := by decide +kernel
theorem dX6_readHouse_15 : decode cX6_readHouse 15 = .ok (.iconst 0, 1) := by decide +kernel
theorem dX6_readHouse_16 : decode cX6_readHouse 16 = .ok (.putfield 30, 3) := by decide +kernel
theorem dX6_readHouse_19 : decode cX6_readHouse 19 = .ok (.aload_n 0, 1) := by decide +kernel
theorem dX6_readHouse_20 : decode cX6_readHouse 20 = .ok (.invokevirtual 33, 3) := by decide +kernel
theorem dX6_readHouse_23 : decode cX6_readHouse 23 = .ok (.iconst 0, 1) := by decide +kernel
theorem dX6_readHouse_24 : decode cX6_readHouse 24 = .ok (.istore_n 2, 1) := by decide +kernel
theorem dX6_readHouse_25 : decode cX6_readHouse 25 = .ok (.iload_n 2, 1) := by decide +kernel
theorem dX6_readHouse_26 : decode cX6_readHouse 26 = .ok (.sipush 900, 3) := by decide +kernel
theorem dX6_readHouse_29 : decode cX6_readHouse 29 = .ok (.if_icmp .gt 26, 3) := by decide +kernel
theorem dX6_readHouse_55 : decode cX6_readHouse 55 = .ok (.iconst 1, 1) := by decide +kernel
theorem dX6_readHouse_56 : decode cX6_readHouse 56 = .ok (.ireturn, 1) := by decide +kernel
theorem dX6_readHouse_32 : decode cX6_readHouse 32 = .ok (.aload_n 0, 1) := by decide +kernel
theorem dX6_readHouse_33 : decode cX6_readHouse 33 = .ok (.getfield 36, 3) := by decide +kernel
theorem dX6_readHouse_36 : decode cX6_readHouse 36 = .ok (.ifCond .eq 19, 3) := by decide +kernel
theorem dX6_readHouse_39 : decode cX6_readHouse 39 = .ok (.aload_n 0, 1) := by decide +kernel
theorem dX6_readHouse_40 : decode cX6_readHouse 40 = .ok (.aload_n 1, 1) := by decide +kernel
theorem dX6_readHouse_41 : decode cX6_readHouse 41 = .ok (.invokevirtual 39, 3) := by decide +kernel
theorem dX6_readHouse_44 : decode cX6_readHouse 44 = .ok (.ifCond .ne 5, 3) := by decide +kernel
theorem dX6_readHouse_49 : decode cX6_readHouse 49 = .ok (.iinc 2 1, 3) := by decide +kernel
theorem dX6_readHouse_52 : decode cX6_readHouse 52 = .ok (.goto (-27), 3) := by decide +kernel
theorem dX6_readHouse_47 : decode cX6_readHouse 47 = .ok (.iconst 0, 1) := by decide +kernel
theorem dX6_readHouse_48 : decode cX6_readHouse 48 = .ok (.ireturn, 1) := by decide +kernel
theorem dX2_next_0 : decode cX2_next 0 = .ok (.aload_n 0, 1) := by decide +kernel
theorem dX2_next_1 : decode cX2_next 1 = .ok (.ldc2_w 72, 3) := by decide +kernel
theorem dX2_next_4 : decode cX2_next 4 = .ok (.aload_n 0, 1) := by decide +kernel
theorem dX2_next_5 : decode cX2_next 5 = .ok (.getfield 9, 3) := by decide +kernel
theorem dX2_next_8 : decode cX2_next 8 = .ok (.lmul, 1) := by decide +kernel
theorem dX2_next_9 : decode cX2_next 9 = .ok (.ldc2_w 74, 3) := by decide +kernel
theorem dX2_next_12 : decode cX2_next 12 = .ok (.ladd, 1) := by decide +kernel
theorem dX2_next_13 : decode cX2_next 13 = .ok (.ldc2_w 76, 3) := by decide +kernel
theorem dX2_next_16 : decode cX2_next 16 = .ok (.lrem, 1) := by decide +kernel
theorem dX2_next_17 : decode cX2_next 17 = .ok (.putfield 9, 3) := by decide +kernel
theorem dX2_next_20 : decode cX2_next 20 = .ok (.iload_n 1, 1) := by decide +kernel
theorem dX2_next_21 : decode cX2_next 21 = .ok (.iconst 1, 1) := by decide +kernel
theorem dX2_next_22 : decode cX2_next 22 = .ok (.if_icmp .ge 7, 3) := by decide +kernel
theorem dX2_next_29 : decode cX2_next 29 = .ok (.aload_n 0, 1) := by decide +kernel
theorem dX2_next_30 : decode cX2_next 30 = .ok (.getfield 9, 3) := by decide +kernel
theorem dX2_next_33 : decode cX2_next 33 = .ok (.ldc2_w 78, 3) := by decide +kernel
theorem dX2_next_36 : decode cX2_next 36 = .ok (.ldiv, 1) := by decide +kernel
theorem dX2_next_37 : decode cX2_next 37 = .ok (.iload_n 1, 1) := by decide +kernel
theorem dX2_next_38 : decode cX2_next 38 = .ok (.i2l, 1) := by decide +kernel
theorem dX2_next_39 : decode cX2_next 39 = .ok (.lrem, 1) := by decide +kernel
theorem dX2_next_40 : decode cX2_next 40 = .ok (.l2i, 1) := by decide +kernel
theorem dX2_next_41 : decode cX2_next 41 = .ok (.ireturn, 1) := by decide +kernel
theorem dX2_next_25 : decode cX2_next 25 = .ok (.iconst 0, 1) := by decide +kernel
theorem dX2_next_26 : decode cX2_next 26 = .ok (.goto 15, 3) := by decide +kernel
theorem dX2_takeSeat_0 : decode cX2_takeSeat 0 = .ok (.aload_n 0, 1) := by decide +kernel
theorem dX2_takeSeat_1 : decode cX2_takeSeat 1 = .ok (.bipush 100, 2) := by decide +kernel
theorem dX2_takeSeat_3 : decode cX2_takeSeat 3 = .ok (.invokevirtual 35, 3) := by decide +kernel
theorem dX2_takeSeat_6 : decode cX2_takeSeat 6 = .ok (.aload_n 1, 1) := by decide +kernel
theorem dX2_takeSeat_7 : decode cX2_takeSeat 7 = .ok (.getfield 48, 3) := by decide +kernel
theorem dX2_takeSeat_10 : decode cX2_takeSeat 10 = .ok (.if_icmp .lt 5, 3) := by decide +kernel
theorem dX2_takeSeat_15 : decode cX2_takeSeat 15 = .ok (.aload_n 1, 1) := by decide +kernel
theorem dX2_takeSeat_16 : decode cX2_takeSeat 16 = .ok (.invokevirtual 51, 3) := by decide +kernel
theorem dX2_takeSeat_19 : decode cX2_takeSeat 19 = .ok (.istore_n 2, 1) := by decide +kernel
theorem dX2_takeSeat_20 : decode cX2_takeSeat 20 = .ok (.iload_n 2, 1) := by decide +kernel
theorem dX2_takeSeat_21 : decode cX2_takeSeat 21 = .ok (.ifCond .ne 5, 3) := by decide +kernel
theorem dX2_takeSeat_26 : decode cX2_takeSeat 26 = .ok (.aload_n 0, 1) := by decide +kernel
theorem dX2_takeSeat_27 : decode cX2_takeSeat 27 = .ok (.iload_n 2, 1) := by decide +kernel
theorem dX2_takeSeat_28 : decode cX2_takeSeat 28 = .ok (.invokevirtual 35, 3) := by decide +kernel
theorem dX2_takeSeat_31 : decode cX2_takeSeat 31 = .ok (.istore_n 3, 1) := by decide +kernel
theorem dX2_takeSeat_32 : decode cX2_takeSeat 32 = .ok (.iconst 0, 1) := by decide +kernel
theorem dX2_takeSeat_33 : decode cX2_takeSeat 33 = .ok (.istore 4, 2) := by decide +kernel
theorem dX2_takeSeat_35 : decode cX2_takeSeat 35 = .ok (.iconst 0, 1) := by decide +kernel
theorem dX2_takeSeat_36 : decode cX2_takeSeat 36 = .ok (.istore 5, 2) := by decide +kernel
theorem dX2_takeSeat_38 : decode cX2_takeSeat 38 = .ok (.iload 5, 2) := by decide +kernel
theorem dX2_takeSeat_40 : decode cX2_takeSeat 40 = .ok (.aload_n 1, 1) := by decide +kernel
theorem dX2_takeSeat_41 : decode cX2_takeSeat 41 = .ok (.getfield 55, 3) := by decide +kernel
theorem dX2_takeSeat_44 : decode cX2_takeSeat 44 = .ok (.if_icmp .ge 30, 3) := by decide +kernel
theorem dX2_takeSeat_74 : decode cX2_takeSeat 74 = .ok (.iconst (-1), 1) := by decide +kernel
theorem dX2_takeSeat_75 : decode cX2_takeSeat 75 = .ok (.ireturn, 1) := by decide +kernel
theorem dX2_takeSeat_47 : decode cX2_takeSeat 47 = .ok (.iload 4, 2) := by decide +kernel
theorem dX2_takeSeat_49 : decode cX2_takeSeat 49 = .ok (.aload_n 1, 1) := by decide +kernel
theorem dX2_takeSeat_50 : decode cX2_takeSeat 50 = .ok (.getfield 58, 3) := by decide +kernel
theorem dX2_takeSeat_53 : decode cX2_takeSeat 53 = .ok (.iload 5, 2) := by decide +kernel
theorem dX2_takeSeat_55 : decode cX2_takeSeat 55 = .ok (.iaload, 1) := by decide +kernel
theorem dX2_takeSeat_56 : decode cX2_takeSeat 56 = .ok (.iadd, 1) := by decide +kernel
theorem dX2_takeSeat_57 : decode cX2_takeSeat 57 = .ok (.istore 4, 2) := by decide +kernel
theorem dX2_takeSeat_59 : decode cX2_takeSeat 59 = .ok (.iload 4, 2) := by decide +kernel
theorem dX2_takeSeat_61 : decode cX2_takeSeat 61 = .ok (.iload_n 3, 1) := by decide +kernel
theorem dX2_takeSeat_62 : decode cX2_takeSeat 62 = .ok (.if_icmp .le 6, 3) := by decide +kernel
theorem dX2_takeSeat_68 : decode cX2_takeSeat 68 = .ok (.iinc 5 1, 3) := by decide +kernel
theorem dX2_takeSeat_71 : decode cX2_takeSeat 71 = .ok (.goto (-33), 3) := by decide +kernel
theorem dX2_takeSeat_65 : decode cX2_takeSeat 65 = .ok (.iload 5, 2) := by decide +kernel
theorem dX2_takeSeat_67 : decode cX2_takeSeat 67 = .ok (.ireturn, 1) := by decide +kernel
theorem dX2_takeSeat_24 : decode cX2_takeSeat 24 = .ok (.iconst (-1), 1) := by decide +kernel
theorem dX2_takeSeat_25 : decode cX2_takeSeat 25 = .ok (.ireturn, 1) := by decide +kernel
theorem dX2_takeSeat_13 : decode cX2_takeSeat 13 = .ok (.iconst (-1), 1) := by decide +kernel
theorem dX2_takeSeat_14 : decode cX2_takeSeat 14 = .ok (.ireturn, 1) := by decide +kernel
theorem dX2_move_0 : decode cX2_move 0 = .ok (.aload_n 1, 1) := by decide +kernel
theorem dX2_move_1 : decode cX2_move 1 = .ok (.getfield 61, 3) := by decide +kernel
theorem dX2_move_4 : decode cX2_move 4 = .ok (.aload_n 0, 1) := by decide +kernel
theorem dX2_move_5 : decode cX2_move 5 = .ok (.getfield 23, 3) := by decide +kernel
theorem dX2_move_8 : decode cX2_move 8 = .ok (.iaload, 1) := by decide +kernel
theorem dX2_move_9 : decode cX2_move 9 = .ok (.istore_n 2, 1) := by decide +kernel
theorem dX2_move_10 : decode cX2_move 10 = .ok (.iload_n 2, 1) := by decide +kernel
theorem dX2_move_11 : decode cX2_move 11 = .ok (.ifCond .eq 16, 3) := by decide +kernel
theorem dX2_move_27 : decode cX2_move 27 = .ok (.return_, 1) := by decide +kernel
theorem dX2_move_14 : decode cX2_move 14 = .ok (.aload_n 0, 1) := by decide +kernel
theorem dX2_move_15 : decode cX2_move 15 = .ok (.bipush 100, 2) := by decide +kernel
theorem dX2_move_17 : decode cX2_move 17 = .ok (.invokevirtual 35, 3) := by decide +kernel
theorem dX2_move_20 : decode cX2_move 20 = .ok (.aload_n 1, 1) := by decide +kernel
theorem dX2_move_21 : decode cX2_move 21 = .ok (.getfield 64, 3) := by decide +kernel
theorem dX2_move_24 : decode cX2_move 24 = .ok (.if_icmp .lt 4, 3) := by decide +kernel
theorem dX2_move_28 : decode cX2_move 28 = .ok (.aload_n 0, 1) := by decide +kernel
theorem dX2_move_29 : decode cX2_move 29 = .ok (.iload_n 2, 1) := by decide +kernel
theorem dX2_move_30 : decode cX2_move 30 = .ok (.invokestatic 67, 3) := by decide +kernel
theorem dX2_move_33 : decode cX2_move 33 = .ok (.invokevirtual 35, 3) := by decide +kernel
theorem dX2_move_36 : decode cX2_move 36 = .ok (.istore_n 3, 1) := by decide +kernel
theorem dX2_move_37 : decode cX2_move 37 = .ok (.iconst 0, 1) := by decide +kernel
theorem dX2_move_38 : decode cX2_move 38 = .ok (.istore 4, 2) := by decide +kernel
theorem dX2_move_40 : decode cX2_move 40 = .ok (.iload 4, 2) := by decide +kernel
theorem dX2_move_42 : decode cX2_move 42 = .ok (.aload_n 1, 1) := by decide +kernel
theorem dX2_move_43 : decode cX2_move 43 = .ok (.getfield 55, 3) := by decide +kernel
theorem dX2_move_46 : decode cX2_move 46 = .ok (.if_icmp .ge 32, 3) := by decide +kernel
theorem dX2_move_78 : decode cX2_move 78 = .ok (.return_, 1) := by decide +kernel
theorem dX2_move_49 : decode cX2_move 49 = .ok (.iload_n 2, 1) := by decide +kernel
theorem dX2_move_50 : decode cX2_move 50 = .ok (.iload 4, 2) := by decide +kernel
theorem dX2_move_52 : decode cX2_move 52 = .ok (.ishr, 1) := by decide +kernel
theorem dX2_move_53 : decode cX2_move 53 = .ok (.iconst 1, 1) := by decide +kernel
theorem dX2_move_54 : decode cX2_move 54 = .ok (.iand, 1) := by decide +kernel
theorem dX2_move_72 : decode cX2_move 72 = .ok (.iinc 4 1, 3) := by decide +kernel
theorem dX2_move_75 : decode cX2_move 75 = .ok (.goto (-35), 3) := by decide +kernel
theorem dX2_move_55 : decode cX2_move 55 = .ok (.ifCond .eq 17, 3) := by decide +kernel
theorem dX2_move_58 : decode cX2_move 58 = .ok (.iload_n 3, 1) := by decide +kernel
theorem dX2_move_59 : decode cX2_move 59 = .ok (.ifCond .ne 10, 3) := by decide +kernel
theorem dX2_move_69 : decode cX2_move 69 = .ok (.iinc 3 (-1), 3) := by decide +kernel
theorem dX2_move_62 : decode cX2_move 62 = .ok (.aload_n 0, 1) := by decide +kernel
theorem dX2_move_63 : decode cX2_move 63 = .ok (.iload 4, 2) := by decide +kernel
theorem dX2_move_65 : decode cX2_move 65 = .ok (.putfield 23, 3) := by decide +kernel
theorem dX2_move_68 : decode cX2_move 68 = .ok (.return_, 1) := by decide +kernel
theorem dX2_draw_0 : decode cX2_draw 0 = .ok (.aload_n 0, 1) := by decide +kernel
theorem dX2_draw_1 : decode cX2_draw 1 = .ok (.lload_n 3, 1) := by decide +kernel
theorem dX2_draw_2 : decode cX2_draw 2 = .ok (.putfield 9, 3) := by decide +kernel
theorem dX2_draw_5 : decode cX2_draw 5 = .ok (.aload_n 0, 1) := by decide +kernel
theorem dX2_draw_6 : decode cX2_draw 6 = .ok (.iconst (-1), 1) := by decide +kernel
theorem dX2_draw_7 : decode cX2_draw 7 = .ok (.putfield 15, 3) := by decide +kernel
theorem dX2_draw_10 : decode cX2_draw 10 = .ok (.aload_n 0, 1) := by decide +kernel
theorem dX2_draw_11 : decode cX2_draw 11 = .ok (.aload_n 0, 1) := by decide +kernel
theorem dX2_draw_12 : decode cX2_draw 12 = .ok (.aload_n 1, 1) := by decide +kernel
theorem dX2_draw_13 : decode cX2_draw 13 = .ok (.invokevirtual 19, 3) := by decide +kernel
theorem dX2_draw_16 : decode cX2_draw 16 = .ok (.putfield 23, 3) := by decide +kernel
theorem dX2_draw_19 : decode cX2_draw 19 = .ok (.iconst 0, 1) := by decide +kernel
theorem dX2_draw_20 : decode cX2_draw 20 = .ok (.istore 5, 2) := by decide +kernel
theorem dX2_draw_22 : decode cX2_draw 22 = .ok (.iload 5, 2) := by decide +kernel
theorem dX2_draw_24 : decode cX2_draw 24 = .ok (.aload_n 2, 1) := by decide +kernel
theorem dX2_draw_25 : decode cX2_draw 25 = .ok (.getfield 26, 3) := by decide +kernel
theorem dX2_draw_28 : decode cX2_draw 28 = .ok (.if_icmp .ge 70, 3) := by decide +kernel
theorem dX2_draw_98 : decode cX2_draw 98 = .ok (.return_, 1) := by decide +kernel
theorem dX2_draw_31 : decode cX2_draw 31 = .ok (.aload_n 0, 1) := by decide +kernel
theorem dX2_draw_32 : decode cX2_draw 32 = .ok (.getfield 23, 3) := by decide +kernel
theorem dX2_draw_35 : decode cX2_draw 35 = .ok (.iconst (-1), 1) := by decide +kernel
theorem dX2_draw_36 : decode cX2_draw 36 = .ok (.if_icmp .eq 62, 3) := by decide +kernel
theorem dX2_draw_39 : decode cX2_draw 39 = .ok (.aload_n 0, 1) := by decide +kernel
theorem dX2_draw_40 : decode cX2_draw 40 = .ok (.getfield 15, 3) := by decide +kernel
theorem dX2_draw_43 : decode cX2_draw 43 = .ok (.iconst (-1), 1) := by decide +kernel
theorem dX2_draw_44 : decode cX2_draw 44 = .ok (.if_icmp .ne 54, 3) := by decide +kernel
theorem dX2_draw_47 : decode cX2_draw 47 = .ok (.aload_n 2, 1) := by decide +kernel
theorem dX2_draw_48 : decode cX2_draw 48 = .ok (.iload 5, 2) := by decide +kernel
theorem dX2_draw_50 : decode cX2_draw 50 = .ok (.invokevirtual 31, 3) := by decide +kernel
theorem dX2_draw_53 : decode cX2_draw 53 = .ok (.aload_n 0, 1) := by decide +kernel
theorem dX2_draw_54 : decode cX2_draw 54 = .ok (.getfield 23, 3) := by decide +kernel
theorem dX2_draw_92 : decode cX2_draw 92 = .ok (.iinc 5 1, 3) := by decide +kernel
theorem dX2_draw_95 : decode cX2_draw 95 = .ok (.goto (-73), 3) := by decide +kernel
theorem dX2_draw_87 : decode cX2_draw 87 = .ok (.aload_n 0, 1) := by decide +kernel
theorem dX2_draw_88 : decode cX2_draw 88 = .ok (.aload_n 1, 1) := by decide +kernel
theorem dX2_draw_89 : decode cX2_draw 89 = .ok (.invokevirtual 44, 3) := by decide +kernel
theorem dX2_draw_57 : decode cX2_draw 57 = .ok (.if_icmp .ne 30, 3) := by decide +kernel
theorem dX2_draw_60 : decode cX2_draw 60 = .ok (.aload_n 0, 1) := by decide +kernel
theorem dX2_draw_61 : decode cX2_draw 61 = .ok (.bipush 100, 2) := by decide +kernel
theorem dX2_draw_63 : decode cX2_draw 63 = .ok (.invokevirtual 35, 3) := by decide +kernel
theorem dX2_draw_66 : decode cX2_draw 66 = .ok (.aload_n 1, 1) := by decide +kernel
theorem dX2_draw_67 : decode cX2_draw 67 = .ok (.getfield 38, 3) := by decide +kernel
theorem dX2_draw_70 : decode cX2_draw 70 = .ok (.aload_n 0, 1) := by decide +kernel
theorem dX2_draw_71 : decode cX2_draw 71 = .ok (.getfield 23, 3) := by decide +kernel
theorem dX2_draw_74 : decode cX2_draw 74 = .ok (.iaload, 1) := by decide +kernel
theorem dX2_draw_75 : decode cX2_draw 75 = .ok (.if_icmp .ge 12, 3) := by decide +kernel
theorem dX2_draw_78 : decode cX2_draw 78 = .ok (.aload_n 0, 1) := by decide +kernel
theorem dX2_draw_79 : decode cX2_draw 79 = .ok (.iload 5, 2) := by decide +kernel
theorem dX2_draw_81 : decode cX2_draw 81 = .ok (.putfield 15, 3) := by decide +kernel
theorem dX2_draw_84 : decode cX2_draw 84 = .ok (.goto 8, 3) := by decide +kernel
theorem dX4_askedFirst_0 : decode cX4_askedFirst 0 = .ok (.aload_n 1, 1) := by decide +kernel
theorem dX4_askedFirst_1 : decode cX4_askedFirst 1 = .ok (.iload_n 2, 1) := by decide +kernel
theorem dX4_askedFirst_2 : decode cX4_askedFirst 2 = .ok (.iload_n 3, 1) := by decide +kernel
theorem dX4_askedFirst_3 : decode cX4_askedFirst 3 = .ok (.invokevirtual 32, 3) := by decide +kernel
theorem dX4_askedFirst_6 : decode cX4_askedFirst 6 = .ok (.istore 4, 2) := by decide +kernel
theorem dX4_askedFirst_8 : decode cX4_askedFirst 8 = .ok (.iload_n 2, 1) := by decide +kernel
theorem dX4_askedFirst_9 : decode cX4_askedFirst 9 = .ok (.iload 4, 2) := by decide +kernel
theorem dX4_askedFirst_11 : decode cX4_askedFirst 11 = .ok (.iconst (-1), 1) := by decide +kernel
theorem dX4_askedFirst_12 : decode cX4_askedFirst 12 = .ok (.ixor, 1) := by decide +kernel
theorem dX4_askedFirst_13 : decode cX4_askedFirst 13 = .ok (.iand, 1) := by decide +kernel
theorem dX4_askedFirst_14 : decode cX4_askedFirst 14 = .ok (.istore 5, 2) := by decide +kernel
theorem dX4_askedFirst_16 : decode cX4_askedFirst 16 = .ok (.iload 4, 2) := by decide +kernel
theorem dX4_askedFirst_18 : decode cX4_askedFirst 18 = .ok (.ifCond .eq 30, 3) := by decide +kernel
theorem dX4_askedFirst_48 : decode cX4_askedFirst 48 = .ok (.iconst (-1), 1) := by decide +kernel
theorem dX4_askedFirst_49 : decode cX4_askedFirst 49 = .ok (.ireturn, 1) := by decide +kernel
theorem dX4_askedFirst_21 : decode cX4_askedFirst 21 = .ok (.iload 5, 2) := by decide +kernel
theorem dX4_askedFirst_23 : decode cX4_askedFirst 23 = .ok (.ifCond .eq 25, 3) := by decide +kernel
theorem dX4_askedFirst_26 : decode cX4_askedFirst 26 = .ok (.aload_n 0, 1) := by decide +kernel
theorem dX4_askedFirst_27 : decode cX4_askedFirst 27 = .ok (.getfield 11, 3) := by decide +kernel
theorem dX4_askedFirst_30 : decode cX4_askedFirst 30 = .ok (.iload 4, 2) := by decide +kernel
theorem dX4_askedFirst_32 : decode cX4_askedFirst 32 = .ok (.iaload, 1) := by decide +kernel
theorem dX4_askedFirst_33 : decode cX4_askedFirst 33 = .ok (.iconst (-1), 1) := by decide +kernel
theorem dX4_askedFirst_34 : decode cX4_askedFirst 34 = .ok (.if_icmp .eq 14, 3) := by decide +kernel
theorem dX4_askedFirst_37 : decode cX4_askedFirst 37 = .ok (.aload_n 0, 1) := by decide +kernel
theorem dX4_askedFirst_38 : decode cX4_askedFirst 38 = .ok (.getfield 11, 3) := by decide +kernel
theorem dX4_askedFirst_41 : decode cX4_askedFirst 41 = .ok (.iload 5, 2) := by decide +kernel
theorem dX4_askedFirst_43 : decode cX4_askedFirst 43 = .ok (.iaload, 1) := by decide +kernel
theorem dX4_askedFirst_44 : decode cX4_askedFirst 44 = .ok (.iconst (-1), 1) := by decide +kernel
theorem dX4_askedFirst_45 : decode cX4_askedFirst 45 = .ok (.if_icmp .ne 5, 3) := by decide +kernel
theorem dX4_askedFirst_50 : decode cX4_askedFirst 50 = .ok (.iconst 1, 1) := by decide +kernel
theorem dX4_askedFirst_51 : decode cX4_askedFirst 51 = .ok (.aload_n 0, 1) := by decide +kernel
theorem dX4_askedFirst_52 : decode cX4_askedFirst 52 = .ok (.getfield 11, 3) := by decide +kernel
theorem dX4_askedFirst_55 : decode cX4_askedFirst 55 = .ok (.iload 4, 2) := by decide +kernel
theorem dX4_askedFirst_57 : decode cX4_askedFirst 57 = .ok (.iaload, 1) := by decide +kernel
theorem dX4_askedFirst_58 : decode cX4_askedFirst 58 = .ok (.aload_n 0, 1) := by decide +kernel
theorem dX4_askedFirst_59 : decode cX4_askedFirst 59 = .ok (.getfield 11, 3) := by decide +kernel
theorem dX4_askedFirst_62 : decode cX4_askedFirst 62 = .ok (.iload 5, 2) := by decide +kernel
theorem dX4_askedFirst_64 : decode cX4_askedFirst 64 = .ok (.iaload, 1) := by decide +kernel
theorem dX4_askedFirst_65 : decode cX4_askedFirst 65 = .ok (.invokestatic 38, 3) := by decide +kernel
theorem dX4_askedFirst_68 : decode cX4_askedFirst 68 = .ok (.iadd, 1) := by decide +kernel
theorem dX4_askedFirst_69 : decode cX4_askedFirst 69 = .ok (.ireturn, 1) := by decide +kernel
theorem dX4_fewestOf_0 : decode cX4_fewestOf 0 = .ok (.iload_n 2, 1) := by decide +kernel
theorem dX4_fewestOf_1 : decode cX4_fewestOf 1 = .ok (.invokestatic 26, 3) := by decide +kernel
theorem dX4_fewestOf_4 : decode cX4_fewestOf 4 = .ok (.iconst 1, 1) := by decide +kernel
theorem dX4_fewestOf_5 : decode cX4_fewestOf 5 = .ok (.if_icmp .ne 5, 3) := by decide +kernel
theorem dX4_fewestOf_10 : decode cX4_fewestOf 10 = .ok (.iconst (-1), 1) := by decide +kernel
theorem dX4_fewestOf_11 : decode cX4_fewestOf 11 = .ok (.istore_n 3, 1) := by decide +kernel
theorem dX4_fewestOf_12 : decode cX4_fewestOf 12 = .ok (.iconst 0, 1) := by decide +kernel
theorem dX4_fewestOf_13 : decode cX4_fewestOf 13 = .ok (.istore 4, 2) := by decide +kernel
theorem dX4_fewestOf_15 : decode cX4_fewestOf 15 = .ok (.iload 4, 2) := by decide +kernel
theorem dX4_fewestOf_17 : decode cX4_fewestOf 17 = .ok (.bipush 6, 2) := by decide +kernel
theorem dX4_fewestOf_19 : decode cX4_fewestOf 19 = .ok (.if_icmp .ge 39, 3) := by decide +kernel
theorem dX4_fewestOf_58 : decode cX4_fewestOf 58 = .ok (.iload_n 3, 1) := by decide +kernel
theorem dX4_fewestOf_59 : decode cX4_fewestOf 59 = .ok (.ireturn, 1) := by decide +kernel
theorem dX4_fewestOf_22 : decode cX4_fewestOf 22 = .ok (.aload_n 0, 1) := by decide +kernel
theorem dX4_fewestOf_23 : decode cX4_fewestOf 23 = .ok (.aload_n 1, 1) := by decide +kernel
theorem dX4_fewestOf_24 : decode cX4_fewestOf 24 = .ok (.iload_n 2, 1) := by decide +kernel
theorem dX4_fewestOf_25 : decode cX4_fewestOf 25 = .ok (.iload 4, 2) := by decide +kernel
theorem dX4_fewestOf_27 : decode cX4_fewestOf 27 = .ok (.invokevirtual 22, 3) := by decide +kernel
theorem dX4_fewestOf_30 : decode cX4_fewestOf 30 = .ok (.istore 5, 2) := by decide +kernel
theorem dX4_fewestOf_32 : decode cX4_fewestOf 32 = .ok (.iload 5, 2) := by decide +kernel
theorem dX4_fewestOf_34 : decode cX4_fewestOf 34 = .ok (.iconst (-1), 1) := by decide +kernel
theorem dX4_fewestOf_52 : decode cX4_fewestOf 52 = .ok (.iinc 4 1, 3) := by decide +kernel
theorem dX4_fewestOf_55 : decode cX4_fewestOf 55 = .ok (.goto (-40), 3) := by decide +kernel
theorem dX4_fewestOf_35 : decode cX4_fewestOf 35 = .ok (.if_icmp .eq 17, 3) := by decide +kernel
theorem dX4_fewestOf_38 : decode cX4_fewestOf 38 = .ok (.iload_n 3, 1) := by decide +kernel
theorem dX4_fewestOf_39 : decode cX4_fewestOf 39 = .ok (.iconst (-1), 1) := by decide +kernel
theorem dX4_fewestOf_49 : decode cX4_fewestOf 49 = .ok (.iload 5, 2) := by decide +kernel
theorem dX4_fewestOf_51 : decode cX4_fewestOf 51 = .ok (.istore_n 3, 1) := by decide +kernel
theorem dX4_fewestOf_40 : decode cX4_fewestOf 40 = .ok (.if_icmp .eq 9, 3) := by decide +kernel
theorem dX4_fewestOf_43 : decode cX4_fewestOf 43 = .ok (.iload 5, 2) := by decide +kernel
theorem dX4_fewestOf_45 : decode cX4_fewestOf 45 = .ok (.iload_n 3, 1) := by decide +kernel
theorem dX4_fewestOf_46 : decode cX4_fewestOf 46 = .ok (.if_icmp .ge 6, 3) := by decide +kernel
theorem dX4_fewestOf_8 : decode cX4_fewestOf 8 = .ok (.iconst 0, 1) := by decide +kernel
theorem dX4_fewestOf_9 : decode cX4_fewestOf 9 = .ok (.ireturn, 1) := by decide +kernel
theorem dX4_fewestFor_0 : decode cX4_fewestFor 0 = .ok (.iconst 1, 1) := by decide +kernel
theorem dX4_fewestFor_1 : decode cX4_fewestFor 1 = .ok (.istore_n 3, 1) := by decide +kernel
theorem dX4_fewestFor_2 : decode cX4_fewestFor 2 = .ok (.iload_n 3, 1) := by decide +kernel
theorem dX4_fewestFor_3 : decode cX4_fewestFor 3 = .ok (.iload_n 2, 1) := by decide +kernel
theorem dX4_fewestFor_31 : decode cX4_fewestFor 31 = .ok (.iload_n 2, 1) := by decide +kernel
theorem dX4_fewestFor_32 : decode cX4_fewestFor 32 = .ok (.iconst 1, 1) := by decide +kernel
theorem dX4_fewestFor_33 : decode cX4_fewestFor 33 = .ok (.if_icmp .lt 18, 3) := by decide +kernel
theorem dX4_fewestFor_36 : decode cX4_fewestFor 36 = .ok (.iload_n 2, 1) := by decide +kernel
theorem dX4_fewestFor_37 : decode cX4_fewestFor 37 = .ok (.bipush 64, 2) := by decide +kernel
theorem dX4_fewestFor_39 : decode cX4_fewestFor 39 = .ok (.if_icmp .ge 12, 3) := by decide +kernel
theorem dX4_fewestFor_42 : decode cX4_fewestFor 42 = .ok (.aload_n 0, 1) := by decide +kernel
theorem dX4_fewestFor_43 : decode cX4_fewestFor 43 = .ok (.getfield 11, 3) := by decide +kernel
theorem dX4_fewestFor_46 : decode cX4_fewestFor 46 = .ok (.iload_n 2, 1) := by decide +kernel
theorem dX4_fewestFor_47 : decode cX4_fewestFor 47 = .ok (.iaload, 1) := by decide +kernel
theorem dX4_fewestFor_48 : decode cX4_fewestFor 48 = .ok (.goto 4, 3) := by decide +kernel
theorem dX4_fewestFor_52 : decode cX4_fewestFor 52 = .ok (.ireturn, 1) := by decide +kernel
theorem dX4_fewestFor_4 : decode cX4_fewestFor 4 = .ok (.if_icmp .gt 27, 3) := by decide +kernel
theorem dX4_fewestFor_7 : decode cX4_fewestFor 7 = .ok (.iload_n 3, 1) := by decide +kernel
theorem dX4_fewestFor_8 : decode cX4_fewestFor 8 = .ok (.bipush 64, 2) := by decide +kernel
theorem dX4_fewestFor_10 : decode cX4_fewestFor 10 = .ok (.if_icmp .ge 21, 3) := by decide +kernel
theorem dX4_fewestFor_13 : decode cX4_fewestFor 13 = .ok (.aload_n 0, 1) := by decide +kernel
theorem dX4_fewestFor_14 : decode cX4_fewestFor 14 = .ok (.getfield 11, 3) := by decide +kernel
theorem dX4_fewestFor_17 : decode cX4_fewestFor 17 = .ok (.iload_n 3, 1) := by decide +kernel
theorem dX4_fewestFor_18 : decode cX4_fewestFor 18 = .ok (.aload_n 0, 1) := by decide +kernel
theorem dX4_fewestFor_19 : decode cX4_fewestFor 19 = .ok (.aload_n 1, 1) := by decide +kernel
theorem dX4_fewestFor_20 : decode cX4_fewestFor 20 = .ok (.iload_n 3, 1) := by decide +kernel
theorem dX4_fewestFor_21 : decode cX4_fewestFor 21 = .ok (.invokevirtual 15, 3) := by decide +kernel
theorem dX4_fewestFor_24 : decode cX4_fewestFor 24 = .ok (.iastore, 1) := by decide +kernel
theorem dX4_fewestFor_25 : decode cX4_fewestFor 25 = .ok (.iinc 3 1, 3) := by decide +kernel
theorem dX4_fewestFor_28 : decode cX4_fewestFor 28 = .ok (.goto (-26), 3) := by decide +kernel
theorem dX4_firstFor_0 : decode cX4_firstFor 0 = .ok (.aload_n 0, 1) := by decide +kernel
theorem dX4_firstFor_1 : decode cX4_firstFor 1 = .ok (.aload_n 1, 1) := by decide +kernel
theorem dX4_firstFor_2 : decode cX4_firstFor 2 = .ok (.iload_n 2, 1) := by decide +kernel
theorem dX4_firstFor_3 : decode cX4_firstFor 3 = .ok (.invokevirtual 19, 3) := by decide +kernel
theorem dX4_firstFor_6 : decode cX4_firstFor 6 = .ok (.istore_n 3, 1) := by decide +kernel
theorem dX4_firstFor_7 : decode cX4_firstFor 7 = .ok (.iload_n 3, 1) := by decide +kernel
theorem dX4_firstFor_8 : decode cX4_firstFor 8 = .ok (.iconst 1, 1) := by decide +kernel
theorem dX4_firstFor_9 : decode cX4_firstFor 9 = .ok (.if_icmp .ge 5, 3) := by decide +kernel
theorem dX4_firstFor_14 : decode cX4_firstFor 14 = .ok (.iconst 0, 1) := by decide +kernel
theorem dX4_firstFor_15 : decode cX4_firstFor 15 = .ok (.istore 4, 2) := by decide +kernel
theorem dX4_firstFor_17 : decode cX4_firstFor 17 = .ok (.iload 4, 2) := by decide +kernel
theorem dX4_firstFor_19 : decode cX4_firstFor 19 = .ok (.bipush 6, 2) := by decide +kernel
theorem dX4_firstFor_21 : decode cX4_firstFor 21 = .ok (.if_icmp .ge 24, 3) := by decide +kernel
theorem dX4_firstFor_45 : decode cX4_firstFor 45 = .ok (.iconst (-1), 1) := by decide +kernel
theorem dX4_firstFor_46 : decode cX4_firstFor 46 = .ok (.ireturn, 1) := by decide +kernel
theorem dX4_firstFor_24 : decode cX4_firstFor 24 = .ok (.aload_n 0, 1) := by decide +kernel
theorem dX4_firstFor_25 : decode cX4_firstFor 25 = .ok (.aload_n 1, 1) := by decide +kernel
theorem dX4_firstFor_26 : decode cX4_firstFor 26 = .ok (.iload_n 2, 1) := by decide +kernel
theorem dX4_firstFor_27 : decode cX4_firstFor 27 = .ok (.iload 4, 2) := by decide +kernel
theorem dX4_firstFor_29 : decode cX4_firstFor 29 = .ok (.invokevirtual 22, 3) := by decide +kernel
theorem dX4_firstFor_32 : decode cX4_firstFor 32 = .ok (.iload_n 3, 1) := by decide +kernel
theorem dX4_firstFor_33 : decode cX4_firstFor 33 = .ok (.if_icmp .ne 6, 3) := by decide +kernel
theorem dX4_firstFor_39 : decode cX4_firstFor 39 = .ok (.iinc 4 1, 3) := by decide +kernel
theorem dX4_firstFor_42 : decode cX4_firstFor 42 = .ok (.goto (-25), 3) := by decide +kernel
theorem dX4_firstFor_36 : decode cX4_firstFor 36 = .ok (.iload 4, 2) := by decide +kernel
theorem dX4_firstFor_38 : decode cX4_firstFor 38 = .ok (.ireturn, 1) := by decide +kernel
theorem dX4_firstFor_12 : decode cX4_firstFor 12 = .ok (.iconst (-1), 1) := by decide +kernel
theorem dX4_firstFor_13 : decode cX4_firstFor 13 = .ok (.ireturn, 1) := by decide +kernel
theorem dX4_areApart_0 : decode cX4_areApart 0 = .ok (.iconst 0, 1) := by decide +kernel
theorem dX4_areApart_1 : decode cX4_areApart 1 = .ok (.istore 4, 2) := by decide +kernel
theorem dX4_areApart_3 : decode cX4_areApart 3 = .ok (.iload 4, 2) := by decide +kernel
theorem dX4_areApart_5 : decode cX4_areApart 5 = .ok (.aload_n 1, 1) := by decide +kernel
theorem dX4_areApart_6 : decode cX4_areApart 6 = .ok (.getfield 47, 3) := by decide +kernel
theorem dX4_areApart_9 : decode cX4_areApart 9 = .ok (.if_icmp .ge 77, 3) := by decide +kernel
theorem dX4_areApart_86 : decode cX4_areApart 86 = .ok (.iconst 1, 1) := by decide +kernel
theorem dX4_areApart_87 : decode cX4_areApart 87 = .ok (.ireturn, 1) := by decide +kernel
theorem dX4_areApart_12 : decode cX4_areApart 12 = .ok (.iconst 0, 1) := by decide +kernel
theorem dX4_areApart_13 : decode cX4_areApart 13 = .ok (.istore 5, 2) := by decide +kernel
theorem dX4_areApart_15 : decode cX4_areApart 15 = .ok (.iload 5, 2) := by decide +kernel
theorem dX4_areApart_17 : decode cX4_areApart 17 = .ok (.iload 4, 2) := by decide +kernel
theorem dX4_areApart_19 : decode cX4_areApart 19 = .ok (.if_icmp .ge 61, 3) := by decide +kernel
theorem dX4_areApart_80 : decode cX4_areApart 80 = .ok (.iinc 4 1, 3) := by decide +kernel
theorem dX4_areApart_83 : decode cX4_areApart 83 = .ok (.goto (-80), 3) := by decide +kernel
theorem dX4_areApart_22 : decode cX4_areApart 22 = .ok (.iload_n 2, 1) := by decide +kernel
theorem dX4_areApart_23 : decode cX4_areApart 23 = .ok (.iload 4, 2) := by decide +kernel
theorem dX4_areApart_25 : decode cX4_areApart 25 = .ok (.ishr, 1) := by decide +kernel
theorem dX4_areApart_26 : decode cX4_areApart 26 = .ok (.iconst 1, 1) := by decide +kernel
theorem dX4_areApart_27 : decode cX4_areApart 27 = .ok (.iand, 1) := by decide +kernel
theorem dX4_areApart_45 : decode cX4_areApart 45 = .ok (.istore 6, 2) := by decide +kernel
theorem dX4_areApart_47 : decode cX4_areApart 47 = .ok (.iload 6, 2) := by decide +kernel
theorem dX4_areApart_74 : decode cX4_areApart 74 = .ok (.iinc 5 1, 3) := by decide +kernel
theorem dX4_areApart_77 : decode cX4_areApart 77 = .ok (.goto (-62), 3) := by decide +kernel
theorem dX4_areApart_49 : decode cX4_areApart 49 = .ok (.ifCond .eq 25, 3) := by decide +kernel
theorem dX4_areApart_52 : decode cX4_areApart 52 = .ok (.aload_n 1, 1) := by decide +kernel
theorem dX4_areApart_53 : decode cX4_areApart 53 = .ok (.getfield 51, 3) := by decide +kernel
theorem dX4_areApart_56 : decode cX4_areApart 56 = .ok (.iload 4, 2) := by decide +kernel
theorem dX4_areApart_58 : decode cX4_areApart 58 = .ok (.iaload, 1) := by decide +kernel
theorem dX4_areApart_59 : decode cX4_areApart 59 = .ok (.aload_n 1, 1) := by decide +kernel
theorem dX4_areApart_60 : decode cX4_areApart 60 = .ok (.getfield 51, 3) := by decide +kernel
theorem dX4_areApart_63 : decode cX4_areApart 63 = .ok (.iload 5, 2) := by decide +kernel
theorem dX4_areApart_65 : decode cX4_areApart 65 = .ok (.iaload, 1) := by decide +kernel
theorem dX4_areApart_66 : decode cX4_areApart 66 = .ok (.ixor, 1) := by decide +kernel
theorem dX4_areApart_67 : decode cX4_areApart 67 = .ok (.iload_n 3, 1) := by decide +kernel
theorem dX4_areApart_68 : decode cX4_areApart 68 = .ok (.iand, 1) := by decide +kernel
theorem dX4_areApart_69 : decode cX4_areApart 69 = .ok (.ifCond .ne 5, 3) := by decide +kernel
theorem dX4_areApart_72 : decode cX4_areApart 72 = .ok (.iconst 0, 1) := by decide +kernel
theorem dX4_areApart_73 : decode cX4_areApart 73 = .ok (.ireturn, 1) := by decide +kernel
theorem dX4_areApart_44 : decode cX4_areApart 44 = .ok (.iconst 0, 1) := by decide +kernel
theorem dX4_areApart_28 : decode cX4_areApart 28 = .ok (.ifCond .eq 16, 3) := by decide +kernel
theorem dX4_areApart_31 : decode cX4_areApart 31 = .ok (.iload_n 2, 1) := by decide +kernel
