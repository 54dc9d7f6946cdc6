theorem db476 : (decode cX11_undo 0 = .ok (.aload_n 0, 1)) ∧ (decode cX11_undo 1 = .ok (.invokevirtual 83, 3)) ∧ (decode cX11_undo 4 = .ok (.ifCond .ne 6, 3)) ∧ (decode cX11_undo 10 = .ok (.aload_n 0, 1)) ∧ (decode cX11_undo 11 = .ok (.getfield 9, 3)) ∧ (decode cX11_undo 14 = .ok (.bipush 7, 2)) ∧ (decode cX11_undo 16 = .ok (.iaload, 1)) ∧ (decode cX11_undo 17 = .ok (.ifCond .ne 6, 3)) ∧ (decode cX11_undo 23 = .ok (.aload_n 0, 1)) ∧ (decode cX11_undo 24 = .ok (.getfield 9, 3)) ∧ (decode cX11_undo 27 = .ok (.bipush 7, 2)) ∧ (decode cX11_undo 29 = .ok (.dup2, 1)) ∧ (decode cX11_undo 30 = .ok (.iaload, 1)) ∧ (decode cX11_undo 31 = .ok (.iconst 1, 1)) ∧ (decode cX11_undo 32 = .ok (.isub, 1)) ∧ (decode cX11_undo 33 = .ok (.iastore, 1)) ∧ (decode cX11_undo 34 = .ok (.aload_n 0, 1)) ∧ (decode cX11_undo 35 = .ok (.getfield 9, 3)) ∧ (decode cX11_undo 38 = .ok (.bipush 7, 2)) ∧ (decode cX11_undo 40 = .ok (.iaload, 1)) ∧ (decode cX11_undo 41 = .ok (.ireturn, 1)) ∧ (decode cX11_undo 20 = .ok (.bipush (-5), 2)) ∧ (decode cX11_undo 22 = .ok (.ireturn, 1)) ∧ (decode cX11_undo 7 = .ok (.bipush (-2), 2)) := by decide +kernel
theorem dX11_undo_0 : decode cX11_undo 0 = .ok (.aload_n 0, 1) := db476.1
theorem dX11_undo_1 : decode cX11_undo 1 = .ok (.invokevirtual 83, 3) := db476.2.1
theorem dX11_undo_4 : decode cX11_undo 4 = .ok (.ifCond .ne 6, 3) := db476.2.2.1
theorem dX11_undo_10 : decode cX11_undo 10 = .ok (.aload_n 0, 1) := db476.2.2.2.1
theorem dX11_undo_11 : decode cX11_undo 11 = .ok (.getfield 9, 3) := db476.2.2.2.2.1
theorem dX11_undo_14 : decode cX11_undo 14 = .ok (.bipush 7, 2) := db476.2.2.2.2.2.1
theorem dX11_undo_16 : decode cX11_undo 16 = .ok (.iaload, 1) := db476.2.2.2.2.2.2.1
theorem dX11_undo_17 : decode cX11_undo 17 = .ok (.ifCond .ne 6, 3) := db476.2.2.2.2.2.2.2.1
theorem dX11_undo_23 : decode cX11_undo 23 = .ok (.aload_n 0, 1) := db476.2.2.2.2.2.2.2.2.1
theorem dX11_undo_24 : decode cX11_undo 24 = .ok (.getfield 9, 3) := db476.2.2.2.2.2.2.2.2.2.1
theorem dX11_undo_27 : decode cX11_undo 27 = .ok (.bipush 7, 2) := db476.2.2.2.2.2.2.2.2.2.2.1
theorem dX11_undo_29 : decode cX11_undo 29 = .ok (.dup2, 1) := db476.2.2.2.2.2.2.2.2.2.2.2.1
theorem dX11_undo_30 : decode cX11_undo 30 = .ok (.iaload, 1) := db476.2.2.2.2.2.2.2.2.2.2.2.2.1
theorem dX11_undo_31 : decode cX11_undo 31 = .ok (.iconst 1, 1) := db476.2.2.2.2.2.2.2.2.2.2.2.2.2.1
theorem dX11_undo_32 : decode cX11_undo 32 = .ok (.isub, 1) := db476.2.2.2.2.2.2.2.2.2.2.2.2.2.2.1
theorem dX11_undo_33 : decode cX11_undo 33 = .ok (.iastore, 1) := db476.2.2.2.2.2.2.2.2.2.2.2.2.2.2.2.1
theorem dX11_undo_34 : decode cX11_undo 34 = .ok (.aload_n 0, 1) := db476.2.2.2.2.2.2.2.2.2.2.2.2.2.2.2.2.1
theorem dX11_undo_35 : decode cX11_undo 35 = .ok (.getfield 9, 3) := db476.2.2.2.2.2.2.2.2.2.2.2.2.2.2.2.2.2.1
theorem dX11_undo_38 : decode cX11_undo 38 = .ok (.bipush 7, 2) := db476.2.2.2.2.2.2.2.2.2.2.2.2.2.2.2.2.2.2.1
theorem dX11_undo_40 : decode cX11_undo 40 = .ok (.iaload, 1) := db476.2.2.2.2.2.2.2.2.2.2.2.2.2.2.2.2.2.2.2.1
theorem dX11_undo_41 : decode cX11_undo 41 = .ok (.ireturn, 1) := db476.2.2.2.2.2.2.2.2.2.2.2.2.2.2.2.2.2.2.2.2.1
theorem dX11_undo_20 : decode cX11_undo 20 = .ok (.bipush (-5), 2) := db476.2.2.2.2.2.2.2.2.2.2.2.2.2.2.2.2.2.2.2.2.2.1
theorem dX11_undo_22 : decode cX11_undo 22 = .ok (.ireturn, 1) := db476.2.2.2.2.2.2.2.2.2.2.2.2.2.2.2.2.2.2.2.2.2.2.1
theorem dX11_undo_7 : decode cX11_undo 7 = .ok (.bipush (-2), 2) := db476.2.2.2.2.2.2.2.2.2.2.2.2.2.2.2.2.2.2.2.2.2.2.2
theorem dX11_undo_9 : decode cX11_undo 9 = .ok (.ireturn, 1) := by decide +kernel
theorem db477 : (decode cX11_walks 0 = .ok (.aload_n 0, 1)) ∧ (decode cX11_walks 1 = .ok (.iload_n 1, 1)) ∧ (decode cX11_walks 2 = .ok (.aload_n 0, 1)) ∧ (decode cX11_walks 3 = .ok (.iload_n 2, 1)) ∧ (decode cX11_walks 4 = .ok (.i2l, 1)) ∧ (decode cX11_walks 5 = .ok (.invokevirtual 89, 3)) ∧ (decode cX11_walks 8 = .ok (.invokevirtual 303, 3)) ∧ (decode cX11_walks 11 = .ok (.istore_n 3, 1)) ∧ (decode cX11_walks 12 = .ok (.iload_n 3, 1)) ∧ (decode cX11_walks 13 = .ok (.ifCond .ge 7, 3)) ∧ (decode cX11_walks 20 = .ok (.aload_n 0, 1)) ∧ (decode cX11_walks 21 = .ok (.iload_n 1, 1)) ∧ (decode cX11_walks 22 = .ok (.iload_n 2, 1)) ∧ (decode cX11_walks 23 = .ok (.invokevirtual 316, 3)) ∧ (decode cX11_walks 26 = .ok (.ifCond .eq 7, 3)) ∧ (decode cX11_walks 33 = .ok (.iconst 0, 1)) ∧ (decode cX11_walks 34 = .ok (.ireturn, 1)) ∧ (decode cX11_walks 29 = .ok (.iconst 1, 1)) ∧ (decode cX11_walks 30 = .ok (.goto 4, 3)) ∧ (decode cX11_walks 16 = .ok (.iload_n 3, 1)) ∧ (decode cX11_walks 17 = .ok (.goto 17, 3)) := by decide +kernel
theorem dX11_walks_0 : decode cX11_walks 0 = .ok (.aload_n 0, 1) := db477.1
theorem dX11_walks_1 : decode cX11_walks 1 = .ok (.iload_n 1, 1) := db477.2.1
theorem dX11_walks_2 : decode cX11_walks 2 = .ok (.aload_n 0, 1) := db477.2.2.1
theorem dX11_walks_3 : decode cX11_walks 3 = .ok (.iload_n 2, 1) := db477.2.2.2.1
theorem dX11_walks_4 : decode cX11_walks 4 = .ok (.i2l, 1) := db477.2.2.2.2.1
theorem dX11_walks_5 : decode cX11_walks 5 = .ok (.invokevirtual 89, 3) := db477.2.2.2.2.2.1
theorem dX11_walks_8 : decode cX11_walks 8 = .ok (.invokevirtual 303, 3) := db477.2.2.2.2.2.2.1
theorem dX11_walks_11 : decode cX11_walks 11 = .ok (.istore_n 3, 1) := db477.2.2.2.2.2.2.2.1
theorem dX11_walks_12 : decode cX11_walks 12 = .ok (.iload_n 3, 1) := db477.2.2.2.2.2.2.2.2.1
theorem dX11_walks_13 : decode cX11_walks 13 = .ok (.ifCond .ge 7, 3) := db477.2.2.2.2.2.2.2.2.2.1
theorem dX11_walks_20 : decode cX11_walks 20 = .ok (.aload_n 0, 1) := db477.2.2.2.2.2.2.2.2.2.2.1
theorem dX11_walks_21 : decode cX11_walks 21 = .ok (.iload_n 1, 1) := db477.2.2.2.2.2.2.2.2.2.2.2.1
theorem dX11_walks_22 : decode cX11_walks 22 = .ok (.iload_n 2, 1) := db477.2.2.2.2.2.2.2.2.2.2.2.2.1
theorem dX11_walks_23 : decode cX11_walks 23 = .ok (.invokevirtual 316, 3) := db477.2.2.2.2.2.2.2.2.2.2.2.2.2.1
theorem dX11_walks_26 : decode cX11_walks 26 = .ok (.ifCond .eq 7, 3) := db477.2.2.2.2.2.2.2.2.2.2.2.2.2.2.1
theorem dX11_walks_33 : decode cX11_walks 33 = .ok (.iconst 0, 1) := db477.2.2.2.2.2.2.2.2.2.2.2.2.2.2.2.1
theorem dX11_walks_34 : decode cX11_walks 34 = .ok (.ireturn, 1) := db477.2.2.2.2.2.2.2.2.2.2.2.2.2.2.2.2.1
theorem dX11_walks_29 : decode cX11_walks 29 = .ok (.iconst 1, 1) := db477.2.2.2.2.2.2.2.2.2.2.2.2.2.2.2.2.2.1
theorem dX11_walks_30 : decode cX11_walks 30 = .ok (.goto 4, 3) := db477.2.2.2.2.2.2.2.2.2.2.2.2.2.2.2.2.2.2.1
theorem dX11_walks_16 : decode cX11_walks 16 = .ok (.iload_n 3, 1) := db477.2.2.2.2.2.2.2.2.2.2.2.2.2.2.2.2.2.2.2.1
theorem dX11_walks_17 : decode cX11_walks 17 = .ok (.goto 17, 3) := db477.2.2.2.2.2.2.2.2.2.2.2.2.2.2.2.2.2.2.2.2
theorem db478 : (decode cX11_way 0 = .ok (.aload_n 0, 1)) ∧ (decode cX11_way 1 = .ok (.iload_n 1, 1)) ∧ (decode cX11_way 2 = .ok (.i2l, 1)) ∧ (decode cX11_way 3 = .ok (.invokevirtual 89, 3)) ∧ (decode cX11_way 6 = .ok (.ifCond .eq 22, 3)) ∧ (decode cX11_way 28 = .ok (.bipush (-2), 2)) ∧ (decode cX11_way 30 = .ok (.ireturn, 1)) ∧ (decode cX11_way 9 = .ok (.aload_n 0, 1)) ∧ (decode cX11_way 10 = .ok (.iload_n 2, 1)) ∧ (decode cX11_way 11 = .ok (.i2l, 1)) ∧ (decode cX11_way 12 = .ok (.invokevirtual 89, 3)) ∧ (decode cX11_way 15 = .ok (.ifCond .eq 13, 3)) ∧ (decode cX11_way 18 = .ok (.iload_n 3, 1)) ∧ (decode cX11_way 19 = .ok (.i2l, 1)) ∧ (decode cX11_way 20 = .ok (.lconst 0, 1)) ∧ (decode cX11_way 21 = .ok (.lconst 1, 1)) ∧ (decode cX11_way 22 = .ok (.invokestatic 79, 3)) ∧ (decode cX11_way 25 = .ok (.ifCond .ne 6, 3)) ∧ (decode cX11_way 31 = .ok (.aload_n 0, 1)) ∧ (decode cX11_way 32 = .ok (.iload_n 1, 1)) ∧ (decode cX11_way 33 = .ok (.iload_n 2, 1)) ∧ (decode cX11_way 34 = .ok (.iconst 0, 1)) ∧ (decode cX11_way 35 = .ok (.invokevirtual 356, 3)) ∧ (decode cX11_way 38 = .ok (.istore 5, 2)) := by decide +kernel
theorem dX11_way_0 : decode cX11_way 0 = .ok (.aload_n 0, 1) := db478.1
theorem dX11_way_1 : decode cX11_way 1 = .ok (.iload_n 1, 1) := db478.2.1
theorem dX11_way_2 : decode cX11_way 2 = .ok (.i2l, 1) := db478.2.2.1
theorem dX11_way_3 : decode cX11_way 3 = .ok (.invokevirtual 89, 3) := db478.2.2.2.1
theorem dX11_way_6 : decode cX11_way 6 = .ok (.ifCond .eq 22, 3) := db478.2.2.2.2.1
theorem dX11_way_28 : decode cX11_way 28 = .ok (.bipush (-2), 2) := db478.2.2.2.2.2.1
theorem dX11_way_30 : decode cX11_way 30 = .ok (.ireturn, 1) := db478.2.2.2.2.2.2.1
theorem dX11_way_9 : decode cX11_way 9 = .ok (.aload_n 0, 1) := db478.2.2.2.2.2.2.2.1
theorem dX11_way_10 : decode cX11_way 10 = .ok (.iload_n 2, 1) := db478.2.2.2.2.2.2.2.2.1
theorem dX11_way_11 : decode cX11_way 11 = .ok (.i2l, 1) := db478.2.2.2.2.2.2.2.2.2.1
theorem dX11_way_12 : decode cX11_way 12 = .ok (.invokevirtual 89, 3) := db478.2.2.2.2.2.2.2.2.2.2.1
theorem dX11_way_15 : decode cX11_way 15 = .ok (.ifCond .eq 13, 3) := db478.2.2.2.2.2.2.2.2.2.2.2.1
theorem dX11_way_18 : decode cX11_way 18 = .ok (.iload_n 3, 1) := db478.2.2.2.2.2.2.2.2.2.2.2.2.1
theorem dX11_way_19 : decode cX11_way 19 = .ok (.i2l, 1) := db478.2.2.2.2.2.2.2.2.2.2.2.2.2.1
theorem dX11_way_20 : decode cX11_way 20 = .ok (.lconst 0, 1) := db478.2.2.2.2.2.2.2.2.2.2.2.2.2.2.1
theorem dX11_way_21 : decode cX11_way 21 = .ok (.lconst 1, 1) := db478.2.2.2.2.2.2.2.2.2.2.2.2.2.2.2.1
theorem dX11_way_22 : decode cX11_way 22 = .ok (.invokestatic 79, 3) := db478.2.2.2.2.2.2.2.2.2.2.2.2.2.2.2.2.1
theorem dX11_way_25 : decode cX11_way 25 = .ok (.ifCond .ne 6, 3) := db478.2.2.2.2.2.2.2.2.2.2.2.2.2.2.2.2.2.1
theorem dX11_way_31 : decode cX11_way 31 = .ok (.aload_n 0, 1) := db478.2.2.2.2.2.2.2.2.2.2.2.2.2.2.2.2.2.2.1
theorem dX11_way_32 : decode cX11_way 32 = .ok (.iload_n 1, 1) := db478.2.2.2.2.2.2.2.2.2.2.2.2.2.2.2.2.2.2.2.1
theorem dX11_way_33 : decode cX11_way 33 = .ok (.iload_n 2, 1) := db478.2.2.2.2.2.2.2.2.2.2.2.2.2.2.2.2.2.2.2.2.1
theorem dX11_way_34 : decode cX11_way 34 = .ok (.iconst 0, 1) := db478.2.2.2.2.2.2.2.2.2.2.2.2.2.2.2.2.2.2.2.2.2.1
theorem dX11_way_35 : decode cX11_way 35 = .ok (.invokevirtual 356, 3) := db478.2.2.2.2.2.2.2.2.2.2.2.2.2.2.2.2.2.2.2.2.2.2.1
theorem dX11_way_38 : decode cX11_way 38 = .ok (.istore 5, 2) := db478.2.2.2.2.2.2.2.2.2.2.2.2.2.2.2.2.2.2.2.2.2.2.2
theorem db479 : (decode cX11_way 40 = .ok (.iload 5, 2)) ∧ (decode cX11_way 42 = .ok (.iconst (-1), 1)) ∧ (decode cX11_way 43 = .ok (.if_icmp .eq 23, 3)) ∧ (decode cX11_way 66 = .ok (.iconst (-1), 1)) ∧ (decode cX11_way 67 = .ok (.ireturn, 1)) ∧ (decode cX11_way 46 = .ok (.iload 4, 2)) ∧ (decode cX11_way 48 = .ok (.i2l, 1)) ∧ (decode cX11_way 49 = .ok (.lconst 0, 1)) ∧ (decode cX11_way 50 = .ok (.aload_n 0, 1)) ∧ (decode cX11_way 51 = .ok (.getfield 52, 3)) ∧ (decode cX11_way 54 = .ok (.iload 5, 2)) ∧ (decode cX11_way 56 = .ok (.iaload, 1)) ∧ (decode cX11_way 57 = .ok (.iconst 1, 1)) ∧ (decode cX11_way 58 = .ok (.isub, 1)) ∧ (decode cX11_way 59 = .ok (.i2l, 1)) ∧ (decode cX11_way 60 = .ok (.invokestatic 79, 3)) ∧ (decode cX11_way 63 = .ok (.ifCond .ne 5, 3)) ∧ (decode cX11_way 68 = .ok (.aload_n 0, 1)) ∧ (decode cX11_way 69 = .ok (.getfield 52, 3)) ∧ (decode cX11_way 72 = .ok (.iload 5, 2)) ∧ (decode cX11_way 74 = .ok (.iaload, 1)) ∧ (decode cX11_way 75 = .ok (.iload 4, 2)) ∧ (decode cX11_way 77 = .ok (.iconst 1, 1)) ∧ (decode cX11_way 78 = .ok (.iadd, 1)) := by decide +kernel
theorem dX11_way_40 : decode cX11_way 40 = .ok (.iload 5, 2) := db479.1
theorem dX11_way_42 : decode cX11_way 42 = .ok (.iconst (-1), 1) := db479.2.1
theorem dX11_way_43 : decode cX11_way 43 = .ok (.if_icmp .eq 23, 3) := db479.2.2.1
theorem dX11_way_66 : decode cX11_way 66 = .ok (.iconst (-1), 1) := db479.2.2.2.1
theorem dX11_way_67 : decode cX11_way 67 = .ok (.ireturn, 1) := db479.2.2.2.2.1
theorem dX11_way_46 : decode cX11_way 46 = .ok (.iload 4, 2) := db479.2.2.2.2.2.1
theorem dX11_way_48 : decode cX11_way 48 = .ok (.i2l, 1) := db479.2.2.2.2.2.2.1
theorem dX11_way_49 : decode cX11_way 49 = .ok (.lconst 0, 1) := db479.2.2.2.2.2.2.2.1
theorem dX11_way_50 : decode cX11_way 50 = .ok (.aload_n 0, 1) := db479.2.2.2.2.2.2.2.2.1
theorem dX11_way_51 : decode cX11_way 51 = .ok (.getfield 52, 3) := db479.2.2.2.2.2.2.2.2.2.1
theorem dX11_way_54 : decode cX11_way 54 = .ok (.iload 5, 2) := db479.2.2.2.2.2.2.2.2.2.2.1
theorem dX11_way_56 : decode cX11_way 56 = .ok (.iaload, 1) := db479.2.2.2.2.2.2.2.2.2.2.2.1
theorem dX11_way_57 : decode cX11_way 57 = .ok (.iconst 1, 1) := db479.2.2.2.2.2.2.2.2.2.2.2.2.1
theorem dX11_way_58 : decode cX11_way 58 = .ok (.isub, 1) := db479.2.2.2.2.2.2.2.2.2.2.2.2.2.1
theorem dX11_way_59 : decode cX11_way 59 = .ok (.i2l, 1) := db479.2.2.2.2.2.2.2.2.2.2.2.2.2.2.1
theorem dX11_way_60 : decode cX11_way 60 = .ok (.invokestatic 79, 3) := db479.2.2.2.2.2.2.2.2.2.2.2.2.2.2.2.1
theorem dX11_way_63 : decode cX11_way 63 = .ok (.ifCond .ne 5, 3) := db479.2.2.2.2.2.2.2.2.2.2.2.2.2.2.2.2.1
theorem dX11_way_68 : decode cX11_way 68 = .ok (.aload_n 0, 1) := db479.2.2.2.2.2.2.2.2.2.2.2.2.2.2.2.2.2.1
theorem dX11_way_69 : decode cX11_way 69 = .ok (.getfield 52, 3) := db479.2.2.2.2.2.2.2.2.2.2.2.2.2.2.2.2.2.2.1
theorem dX11_way_72 : decode cX11_way 72 = .ok (.iload 5, 2) := db479.2.2.2.2.2.2.2.2.2.2.2.2.2.2.2.2.2.2.2.1
theorem dX11_way_74 : decode cX11_way 74 = .ok (.iaload, 1) := db479.2.2.2.2.2.2.2.2.2.2.2.2.2.2.2.2.2.2.2.2.1
theorem dX11_way_75 : decode cX11_way 75 = .ok (.iload 4, 2) := db479.2.2.2.2.2.2.2.2.2.2.2.2.2.2.2.2.2.2.2.2.2.1
theorem dX11_way_77 : decode cX11_way 77 = .ok (.iconst 1, 1) := db479.2.2.2.2.2.2.2.2.2.2.2.2.2.2.2.2.2.2.2.2.2.2.1
theorem dX11_way_78 : decode cX11_way 78 = .ok (.iadd, 1) := db479.2.2.2.2.2.2.2.2.2.2.2.2.2.2.2.2.2.2.2.2.2.2.2
theorem db480 : (decode cX11_way 79 = .ok (.if_icmp .le 15, 3)) ∧ (decode cX11_way 94 = .ok (.iload_n 3, 1)) ∧ (decode cX11_way 95 = .ok (.ifCond .ne 15, 3)) ∧ (decode cX11_way 110 = .ok (.iload 5, 2)) ∧ (decode cX11_way 112 = .ok (.sipush 128, 3)) ∧ (decode cX11_way 115 = .ok (.idiv, 1)) ∧ (decode cX11_way 116 = .ok (.bipush 7, 2)) ∧ (decode cX11_way 118 = .ok (.irem, 1)) ∧ (decode cX11_way 119 = .ok (.ireturn, 1)) ∧ (decode cX11_way 98 = .ok (.iload 5, 2)) ∧ (decode cX11_way 100 = .ok (.sipush 128, 3)) ∧ (decode cX11_way 103 = .ok (.idiv, 1)) ∧ (decode cX11_way 104 = .ok (.bipush 7, 2)) ∧ (decode cX11_way 106 = .ok (.idiv, 1)) ∧ (decode cX11_way 107 = .ok (.goto 12, 3)) ∧ (decode cX11_way 82 = .ok (.aload_n 0, 1)) ∧ (decode cX11_way 83 = .ok (.getfield 55, 3)) ∧ (decode cX11_way 86 = .ok (.iload 5, 2)) ∧ (decode cX11_way 88 = .ok (.iaload, 1)) ∧ (decode cX11_way 89 = .ok (.istore 5, 2)) ∧ (decode cX11_way 91 = .ok (.goto (-23), 3)) := by decide +kernel
theorem dX11_way_79 : decode cX11_way 79 = .ok (.if_icmp .le 15, 3) := db480.1
theorem dX11_way_94 : decode cX11_way 94 = .ok (.iload_n 3, 1) := db480.2.1
theorem dX11_way_95 : decode cX11_way 95 = .ok (.ifCond .ne 15, 3) := db480.2.2.1
theorem dX11_way_110 : decode cX11_way 110 = .ok (.iload 5, 2) := db480.2.2.2.1
theorem dX11_way_112 : decode cX11_way 112 = .ok (.sipush 128, 3) := db480.2.2.2.2.1
theorem dX11_way_115 : decode cX11_way 115 = .ok (.idiv, 1) := db480.2.2.2.2.2.1
theorem dX11_way_116 : decode cX11_way 116 = .ok (.bipush 7, 2) := db480.2.2.2.2.2.2.1
theorem dX11_way_118 : decode cX11_way 118 = .ok (.irem, 1) := db480.2.2.2.2.2.2.2.1
theorem dX11_way_119 : decode cX11_way 119 = .ok (.ireturn, 1) := db480.2.2.2.2.2.2.2.2.1
theorem dX11_way_98 : decode cX11_way 98 = .ok (.iload 5, 2) := db480.2.2.2.2.2.2.2.2.2.1
theorem dX11_way_100 : decode cX11_way 100 = .ok (.sipush 128, 3) := db480.2.2.2.2.2.2.2.2.2.2.1
theorem dX11_way_103 : decode cX11_way 103 = .ok (.idiv, 1) := db480.2.2.2.2.2.2.2.2.2.2.2.1
theorem dX11_way_104 : decode cX11_way 104 = .ok (.bipush 7, 2) := db480.2.2.2.2.2.2.2.2.2.2.2.2.1
theorem dX11_way_106 : decode cX11_way 106 = .ok (.idiv, 1) := db480.2.2.2.2.2.2.2.2.2.2.2.2.2.1
theorem dX11_way_107 : decode cX11_way 107 = .ok (.goto 12, 3) := db480.2.2.2.2.2.2.2.2.2.2.2.2.2.2.1
theorem dX11_way_82 : decode cX11_way 82 = .ok (.aload_n 0, 1) := db480.2.2.2.2.2.2.2.2.2.2.2.2.2.2.2.1
theorem dX11_way_83 : decode cX11_way 83 = .ok (.getfield 55, 3) := db480.2.2.2.2.2.2.2.2.2.2.2.2.2.2.2.2.1
theorem dX11_way_86 : decode cX11_way 86 = .ok (.iload 5, 2) := db480.2.2.2.2.2.2.2.2.2.2.2.2.2.2.2.2.2.1
theorem dX11_way_88 : decode cX11_way 88 = .ok (.iaload, 1) := db480.2.2.2.2.2.2.2.2.2.2.2.2.2.2.2.2.2.2.1
theorem dX11_way_89 : decode cX11_way 89 = .ok (.istore 5, 2) := db480.2.2.2.2.2.2.2.2.2.2.2.2.2.2.2.2.2.2.2.1
theorem dX11_way_91 : decode cX11_way 91 = .ok (.goto (-23), 3) := db480.2.2.2.2.2.2.2.2.2.2.2.2.2.2.2.2.2.2.2.2
theorem db481 : (decode cX11_which 0 = .ok (.aload_n 0, 1)) ∧ (decode cX11_which 1 = .ok (.iload_n 1, 1)) ∧ (decode cX11_which 2 = .ok (.invokevirtual 375, 3)) ∧ (decode cX11_which 5 = .ok (.ifCond .ne 6, 3)) ∧ (decode cX11_which 11 = .ok (.aload_n 0, 1)) ∧ (decode cX11_which 12 = .ok (.invokevirtual 378, 3)) ∧ (decode cX11_which 15 = .ok (.aload_n 0, 1)) ∧ (decode cX11_which 16 = .ok (.getfield 58, 3)) ∧ (decode cX11_which 19 = .ok (.iload_n 1, 1)) ∧ (decode cX11_which 20 = .ok (.iaload, 1)) ∧ (decode cX11_which 21 = .ok (.ldc_w 333, 3)) ∧ (decode cX11_which 24 = .ok (.if_icmp .lt 7, 3)) ∧ (decode cX11_which 31 = .ok (.aload_n 0, 1)) ∧ (decode cX11_which 32 = .ok (.getfield 58, 3)) ∧ (decode cX11_which 35 = .ok (.iload_n 1, 1)) ∧ (decode cX11_which 36 = .ok (.iaload, 1)) ∧ (decode cX11_which 37 = .ok (.ireturn, 1)) ∧ (decode cX11_which 27 = .ok (.iconst (-1), 1)) ∧ (decode cX11_which 28 = .ok (.goto 9, 3)) ∧ (decode cX11_which 8 = .ok (.bipush (-2), 2)) ∧ (decode cX11_which 10 = .ok (.ireturn, 1)) := by decide +kernel
theorem dX11_which_0 : decode cX11_which 0 = .ok (.aload_n 0, 1) := db481.1
theorem dX11_which_1 : decode cX11_which 1 = .ok (.iload_n 1, 1) := db481.2.1
theorem dX11_which_2 : decode cX11_which 2 = .ok (.invokevirtual 375, 3) := db481.2.2.1
theorem dX11_which_5 : decode cX11_which 5 = .ok (.ifCond .ne 6, 3) := db481.2.2.2.1
theorem dX11_which_11 : decode cX11_which 11 = .ok (.aload_n 0, 1) := db481.2.2.2.2.1
theorem dX11_which_12 : decode cX11_which 12 = .ok (.invokevirtual 378, 3) := db481.2.2.2.2.2.1
theorem dX11_which_15 : decode cX11_which 15 = .ok (.aload_n 0, 1) := db481.2.2.2.2.2.2.1
theorem dX11_which_16 : decode cX11_which 16 = .ok (.getfield 58, 3) := db481.2.2.2.2.2.2.2.1
theorem dX11_which_19 : decode cX11_which 19 = .ok (.iload_n 1, 1) := db481.2.2.2.2.2.2.2.2.1
theorem dX11_which_20 : decode cX11_which 20 = .ok (.iaload, 1) := db481.2.2.2.2.2.2.2.2.2.1
theorem dX11_which_21 : decode cX11_which 21 = .ok (.ldc_w 333, 3) := db481.2.2.2.2.2.2.2.2.2.2.1
theorem dX11_which_24 : decode cX11_which 24 = .ok (.if_icmp .lt 7, 3) := db481.2.2.2.2.2.2.2.2.2.2.2.1
theorem dX11_which_31 : decode cX11_which 31 = .ok (.aload_n 0, 1) := db481.2.2.2.2.2.2.2.2.2.2.2.2.1
theorem dX11_which_32 : decode cX11_which 32 = .ok (.getfield 58, 3) := db481.2.2.2.2.2.2.2.2.2.2.2.2.2.1
theorem dX11_which_35 : decode cX11_which 35 = .ok (.iload_n 1, 1) := db481.2.2.2.2.2.2.2.2.2.2.2.2.2.2.1
theorem dX11_which_36 : decode cX11_which 36 = .ok (.iaload, 1) := db481.2.2.2.2.2.2.2.2.2.2.2.2.2.2.2.1
theorem dX11_which_37 : decode cX11_which 37 = .ok (.ireturn, 1) := db481.2.2.2.2.2.2.2.2.2.2.2.2.2.2.2.2.1
theorem dX11_which_27 : decode cX11_which 27 = .ok (.iconst (-1), 1) := db481.2.2.2.2.2.2.2.2.2.2.2.2.2.2.2.2.2.1
theorem dX11_which_28 : decode cX11_which 28 = .ok (.goto 9, 3) := db481.2.2.2.2.2.2.2.2.2.2.2.2.2.2.2.2.2.2.1
theorem dX11_which_8 : decode cX11_which 8 = .ok (.bipush (-2), 2) := db481.2.2.2.2.2.2.2.2.2.2.2.2.2.2.2.2.2.2.2.1
theorem dX11_which_10 : decode cX11_which 10 = .ok (.ireturn, 1) := db481.2.2.2.2.2.2.2.2.2.2.2.2.2.2.2.2.2.2.2.2
theorem db482 : (decode cX11_wider 0 = .ok (.iload_n 1, 1)) ∧ (decode cX11_wider 1 = .ok (.istore_n 2, 1)) ∧ (decode cX11_wider 2 = .ok (.iconst 0, 1)) ∧ (decode cX11_wider 3 = .ok (.istore_n 3, 1)) ∧ (decode cX11_wider 4 = .ok (.iload_n 3, 1)) ∧ (decode cX11_wider 5 = .ok (.aload_n 0, 1)) ∧ (decode cX11_wider 6 = .ok (.getfield 9, 3)) ∧ (decode cX11_wider 9 = .ok (.iconst 4, 1)) ∧ (decode cX11_wider 10 = .ok (.iaload, 1)) ∧ (decode cX11_wider 11 = .ok (.if_icmp .ge 31, 3)) ∧ (decode cX11_wider 42 = .ok (.iload_n 2, 1)) ∧ (decode cX11_wider 43 = .ok (.ireturn, 1)) ∧ (decode cX11_wider 14 = .ok (.iload_n 2, 1)) ∧ (decode cX11_wider 15 = .ok (.iload_n 1, 1)) ∧ (decode cX11_wider 16 = .ok (.iload_n 3, 1)) ∧ (decode cX11_wider 17 = .ok (.invokestatic 258, 3)) ∧ (decode cX11_wider 20 = .ok (.iconst 1, 1)) ∧ (decode cX11_wider 34 = .ok (.ior, 1)) ∧ (decode cX11_wider 35 = .ok (.istore_n 2, 1)) ∧ (decode cX11_wider 36 = .ok (.iinc 3 1, 3)) ∧ (decode cX11_wider 39 = .ok (.goto (-35), 3)) ∧ (decode cX11_wider 21 = .ok (.if_icmp .ne 12, 3)) ∧ (decode cX11_wider 33 = .ok (.iconst 0, 1)) ∧ (decode cX11_wider 24 = .ok (.aload_n 0, 1)) := by decide +kernel
theorem dX11_wider_0 : decode cX11_wider 0 = .ok (.iload_n 1, 1) := db482.1
theorem dX11_wider_1 : decode cX11_wider 1 = .ok (.istore_n 2, 1) := db482.2.1
theorem dX11_wider_2 : decode cX11_wider 2 = .ok (.iconst 0, 1) := db482.2.2.1
theorem dX11_wider_3 : decode cX11_wider 3 = .ok (.istore_n 3, 1) := db482.2.2.2.1
theorem dX11_wider_4 : decode cX11_wider 4 = .ok (.iload_n 3, 1) := db482.2.2.2.2.1
theorem dX11_wider_5 : decode cX11_wider 5 = .ok (.aload_n 0, 1) := db482.2.2.2.2.2.1
theorem dX11_wider_6 : decode cX11_wider 6 = .ok (.getfield 9, 3) := db482.2.2.2.2.2.2.1
theorem dX11_wider_9 : decode cX11_wider 9 = .ok (.iconst 4, 1) := db482.2.2.2.2.2.2.2.1
theorem dX11_wider_10 : decode cX11_wider 10 = .ok (.iaload, 1) := db482.2.2.2.2.2.2.2.2.1
theorem dX11_wider_11 : decode cX11_wider 11 = .ok (.if_icmp .ge 31, 3) := db482.2.2.2.2.2.2.2.2.2.1
theorem dX11_wider_42 : decode cX11_wider 42 = .ok (.iload_n 2, 1) := db482.2.2.2.2.2.2.2.2.2.2.1
theorem dX11_wider_43 : decode cX11_wider 43 = .ok (.ireturn, 1) := db482.2.2.2.2.2.2.2.2.2.2.2.1
theorem dX11_wider_14 : decode cX11_wider 14 = .ok (.iload_n 2, 1) := db482.2.2.2.2.2.2.2.2.2.2.2.2.1
theorem dX11_wider_15 : decode cX11_wider 15 = .ok (.iload_n 1, 1) := db482.2.2.2.2.2.2.2.2.2.2.2.2.2.1
theorem dX11_wider_16 : decode cX11_wider 16 = .ok (.iload_n 3, 1) := db482.2.2.2.2.2.2.2.2.2.2.2.2.2.2.1
theorem dX11_wider_17 : decode cX11_wider 17 = .ok (.invokestatic 258, 3) := db482.2.2.2.2.2.2.2.2.2.2.2.2.2.2.2.1
theorem dX11_wider_20 : decode cX11_wider 20 = .ok (.iconst 1, 1) := db482.2.2.2.2.2.2.2.2.2.2.2.2.2.2.2.2.1
theorem dX11_wider_34 : decode cX11_wider 34 = .ok (.ior, 1) := db482.2.2.2.2.2.2.2.2.2.2.2.2.2.2.2.2.2.1
theorem dX11_wider_35 : decode cX11_wider 35 = .ok (.istore_n 2, 1) := db482.2.2.2.2.2.2.2.2.2.2.2.2.2.2.2.2.2.2.1
theorem dX11_wider_36 : decode cX11_wider 36 = .ok (.iinc 3 1, 3) := db482.2.2.2.2.2.2.2.2.2.2.2.2.2.2.2.2.2.2.2.1
theorem dX11_wider_39 : decode cX11_wider 39 = .ok (.goto (-35), 3) := db482.2.2.2.2.2.2.2.2.2.2.2.2.2.2.2.2.2.2.2.2.1
theorem dX11_wider_21 : decode cX11_wider 21 = .ok (.if_icmp .ne 12, 3) := db482.2.2.2.2.2.2.2.2.2.2.2.2.2.2.2.2.2.2.2.2.2.1
theorem dX11_wider_33 : decode cX11_wider 33 = .ok (.iconst 0, 1) := db482.2.2.2.2.2.2.2.2.2.2.2.2.2.2.2.2.2.2.2.2.2.2.1
theorem dX11_wider_24 : decode cX11_wider 24 = .ok (.aload_n 0, 1) := db482.2.2.2.2.2.2.2.2.2.2.2.2.2.2.2.2.2.2.2.2.2.2.2
theorem db483 : (decode cX11_wider 25 = .ok (.iload_n 3, 1)) ∧ (decode cX11_wider 26 = .ok (.iconst 3, 1)) ∧ (decode cX11_wider 27 = .ok (.invokevirtual 227, 3)) ∧ (decode cX11_wider 30 = .ok (.goto 4, 3)) := by decide +kernel
theorem dX11_wider_25 : decode cX11_wider 25 = .ok (.iload_n 3, 1) := db483.1
theorem dX11_wider_26 : decode cX11_wider 26 = .ok (.iconst 3, 1) := db483.2.1
theorem dX11_wider_27 : decode cX11_wider 27 = .ok (.invokevirtual 227, 3) := db483.2.2.1
theorem dX11_wider_30 : decode cX11_wider 30 = .ok (.goto 4, 3) := db483.2.2.2
theorem db484 : (decode cX11_worthOf 0 = .ok (.aload_n 0, 1)) ∧ (decode cX11_worthOf 1 = .ok (.getfield 9, 3)) ∧ (decode cX11_worthOf 4 = .ok (.iconst 2, 1)) ∧ (decode cX11_worthOf 5 = .ok (.iaload, 1)) ∧ (decode cX11_worthOf 6 = .ok (.i2l, 1)) ∧ (decode cX11_worthOf 7 = .ok (.iload_n 1, 1)) ∧ (decode cX11_worthOf 8 = .ok (.i2l, 1)) ∧ (decode cX11_worthOf 9 = .ok (.lmul, 1)) ∧ (decode cX11_worthOf 10 = .ok (.ldc2_w 273, 3)) ∧ (decode cX11_worthOf 13 = .ok (.ldiv, 1)) ∧ (decode cX11_worthOf 14 = .ok (.l2i, 1)) ∧ (decode cX11_worthOf 15 = .ok (.ireturn, 1)) := by decide +kernel
theorem dX11_worthOf_0 : decode cX11_worthOf 0 = .ok (.aload_n 0, 1) := db484.1
theorem dX11_worthOf_1 : decode cX11_worthOf 1 = .ok (.getfield 9, 3) := db484.2.1
theorem dX11_worthOf_4 : decode cX11_worthOf 4 = .ok (.iconst 2, 1) := db484.2.2.1
theorem dX11_worthOf_5 : decode cX11_worthOf 5 = .ok (.iaload, 1) := db484.2.2.2.1
theorem dX11_worthOf_6 : decode cX11_worthOf 6 = .ok (.i2l, 1) := db484.2.2.2.2.1
theorem dX11_worthOf_7 : decode cX11_worthOf 7 = .ok (.iload_n 1, 1) := db484.2.2.2.2.2.1
theorem dX11_worthOf_8 : decode cX11_worthOf 8 = .ok (.i2l, 1) := db484.2.2.2.2.2.2.1
theorem dX11_worthOf_9 : decode cX11_worthOf 9 = .ok (.lmul, 1) := db484.2.2.2.2.2.2.2.1
theorem dX11_worthOf_10 : decode cX11_worthOf 10 = .ok (.ldc2_w 273, 3) := db484.2.2.2.2.2.2.2.2.1
theorem dX11_worthOf_13 : decode cX11_worthOf 13 = .ok (.ldiv, 1) := db484.2.2.2.2.2.2.2.2.2.1
theorem dX11_worthOf_14 : decode cX11_worthOf 14 = .ok (.l2i, 1) := db484.2.2.2.2.2.2.2.2.2.2.1
theorem dX11_worthOf_15 : decode cX11_worthOf 15 = .ok (.ireturn, 1) := db484.2.2.2.2.2.2.2.2.2.2.2
theorem db485 : (decode cX11_wouldFind 0 = .ok (.aload_n 0, 1)) ∧ (decode cX11_wouldFind 1 = .ok (.getfield 34, 3)) ∧ (decode cX11_wouldFind 4 = .ok (.iload_n 1, 1)) ∧ (decode cX11_wouldFind 5 = .ok (.iaload, 1)) ∧ (decode cX11_wouldFind 6 = .ok (.aload_n 0, 1)) ∧ (decode cX11_wouldFind 7 = .ok (.iload_n 1, 1)) ∧ (decode cX11_wouldFind 8 = .ok (.iload_n 2, 1)) ∧ (decode cX11_wouldFind 9 = .ok (.invokevirtual 239, 3)) ∧ (decode cX11_wouldFind 12 = .ok (.imul, 1)) ∧ (decode cX11_wouldFind 13 = .ok (.bipush 100, 2)) ∧ (decode cX11_wouldFind 15 = .ok (.idiv, 1)) ∧ (decode cX11_wouldFind 16 = .ok (.ireturn, 1)) := by decide +kernel
theorem dX11_wouldFind_0 : decode cX11_wouldFind 0 = .ok (.aload_n 0, 1) := db485.1
theorem dX11_wouldFind_1 : decode cX11_wouldFind 1 = .ok (.getfield 34, 3) := db485.2.1
theorem dX11_wouldFind_4 : decode cX11_wouldFind 4 = .ok (.iload_n 1, 1) := db485.2.2.1
theorem dX11_wouldFind_5 : decode cX11_wouldFind 5 = .ok (.iaload, 1) := db485.2.2.2.1
theorem dX11_wouldFind_6 : decode cX11_wouldFind 6 = .ok (.aload_n 0, 1) := db485.2.2.2.2.1
theorem dX11_wouldFind_7 : decode cX11_wouldFind 7 = .ok (.iload_n 1, 1) := db485.2.2.2.2.2.1
theorem dX11_wouldFind_8 : decode cX11_wouldFind 8 = .ok (.iload_n 2, 1) := db485.2.2.2.2.2.2.1
theorem dX11_wouldFind_9 : decode cX11_wouldFind 9 = .ok (.invokevirtual 239, 3) := db485.2.2.2.2.2.2.2.1
theorem dX11_wouldFind_12 : decode cX11_wouldFind 12 = .ok (.imul, 1) := db485.2.2.2.2.2.2.2.2.1
theorem dX11_wouldFind_13 : decode cX11_wouldFind 13 = .ok (.bipush 100, 2) := db485.2.2.2.2.2.2.2.2.2.1
theorem dX11_wouldFind_15 : decode cX11_wouldFind 15 = .ok (.idiv, 1) := db485.2.2.2.2.2.2.2.2.2.2.1
theorem dX11_wouldFind_16 : decode cX11_wouldFind 16 = .ok (.ireturn, 1) := db485.2.2.2.2.2.2.2.2.2.2.2
theorem db486 : (decode cX11_write 0 = .ok (.iload_n 1, 1)) ∧ (decode cX11_write 1 = .ok (.invokestatic 290, 3)) ∧ (decode cX11_write 4 = .ok (.ifCond .ne 6, 3)) ∧ (decode cX11_write 10 = .ok (.aload_n 0, 1)) ∧ (decode cX11_write 11 = .ok (.getfield 61, 3)) ∧ (decode cX11_write 14 = .ok (.iload_n 1, 1)) ∧ (decode cX11_write 15 = .ok (.iaload, 1)) ∧ (decode cX11_write 16 = .ok (.iconst (-1), 1)) ∧ (decode cX11_write 17 = .ok (.if_icmp .ne 6, 3)) ∧ (decode cX11_write 23 = .ok (.iload_n 2, 1)) ∧ (decode cX11_write 24 = .ok (.i2l, 1)) ∧ (decode cX11_write 25 = .ok (.lconst 0, 1)) ∧ (decode cX11_write 26 = .ok (.aload_n 0, 1)) ∧ (decode cX11_write 27 = .ok (.getfield 61, 3)) ∧ (decode cX11_write 30 = .ok (.iload_n 1, 1)) ∧ (decode cX11_write 31 = .ok (.iaload, 1)) ∧ (decode cX11_write 32 = .ok (.iconst 1, 1)) ∧ (decode cX11_write 33 = .ok (.isub, 1)) ∧ (decode cX11_write 34 = .ok (.i2l, 1)) ∧ (decode cX11_write 35 = .ok (.invokestatic 79, 3)) ∧ (decode cX11_write 38 = .ok (.ifCond .ne 6, 3)) ∧ (decode cX11_write 44 = .ok (.aload_n 0, 1)) ∧ (decode cX11_write 45 = .ok (.getfield 67, 3)) ∧ (decode cX11_write 48 = .ok (.bipush 60, 2)) := by decide +kernel
theorem dX11_write_0 : decode cX11_write 0 = .ok (.iload_n 1, 1) := db486.1
theorem dX11_write_1 : decode cX11_write 1 = .ok (.invokestatic 290, 3) := db486.2.1
theorem dX11_write_4 : decode cX11_write 4 = .ok (.ifCond .ne 6, 3) := db486.2.2.1
theorem dX11_write_10 : decode cX11_write 10 = .ok (.aload_n 0, 1) := db486.2.2.2.1
theorem dX11_write_11 : decode cX11_write 11 = .ok (.getfield 61, 3) := db486.2.2.2.2.1
theorem dX11_write_14 : decode cX11_write 14 = .ok (.iload_n 1, 1) := db486.2.2.2.2.2.1
theorem dX11_write_15 : decode cX11_write 15 = .ok (.iaload, 1) := db486.2.2.2.2.2.2.1
theorem dX11_write_16 : decode cX11_write 16 = .ok (.iconst (-1), 1) := db486.2.2.2.2.2.2.2.1
theorem dX11_write_17 : decode cX11_write 17 = .ok (.if_icmp .ne 6, 3) := db486.2.2.2.2.2.2.2.2.1
theorem dX11_write_23 : decode cX11_write 23 = .ok (.iload_n 2, 1) := db486.2.2.2.2.2.2.2.2.2.1
theorem dX11_write_24 : decode cX11_write 24 = .ok (.i2l, 1) := db486.2.2.2.2.2.2.2.2.2.2.1
theorem dX11_write_25 : decode cX11_write 25 = .ok (.lconst 0, 1) := db486.2.2.2.2.2.2.2.2.2.2.2.1
theorem dX11_write_26 : decode cX11_write 26 = .ok (.aload_n 0, 1) := db486.2.2.2.2.2.2.2.2.2.2.2.2.1
theorem dX11_write_27 : decode cX11_write 27 = .ok (.getfield 61, 3) := db486.2.2.2.2.2.2.2.2.2.2.2.2.2.1
theorem dX11_write_30 : decode cX11_write 30 = .ok (.iload_n 1, 1) := db486.2.2.2.2.2.2.2.2.2.2.2.2.2.2.1
theorem dX11_write_31 : decode cX11_write 31 = .ok (.iaload, 1) := db486.2.2.2.2.2.2.2.2.2.2.2.2.2.2.2.1
theorem dX11_write_32 : decode cX11_write 32 = .ok (.iconst 1, 1) := db486.2.2.2.2.2.2.2.2.2.2.2.2.2.2.2.2.1
theorem dX11_write_33 : decode cX11_write 33 = .ok (.isub, 1) := db486.2.2.2.2.2.2.2.2.2.2.2.2.2.2.2.2.2.1
theorem dX11_write_34 : decode cX11_write 34 = .ok (.i2l, 1) := db486.2.2.2.2.2.2.2.2.2.2.2.2.2.2.2.2.2.2.1
theorem dX11_write_35 : decode cX11_write 35 = .ok (.invokestatic 79, 3) := db486.2.2.2.2.2.2.2.2.2.2.2.2.2.2.2.2.2.2.2.1
theorem dX11_write_38 : decode cX11_write 38 = .ok (.ifCond .ne 6, 3) := db486.2.2.2.2.2.2.2.2.2.2.2.2.2.2.2.2.2.2.2.2.1
theorem dX11_write_44 : decode cX11_write 44 = .ok (.aload_n 0, 1) := db486.2.2.2.2.2.2.2.2.2.2.2.2.2.2.2.2.2.2.2.2.2.1
theorem dX11_write_45 : decode cX11_write 45 = .ok (.getfield 67, 3) := db486.2.2.2.2.2.2.2.2.2.2.2.2.2.2.2.2.2.2.2.2.2.2.1
theorem dX11_write_48 : decode cX11_write 48 = .ok (.bipush 60, 2) := db486.2.2.2.2.2.2.2.2.2.2.2.2.2.2.2.2.2.2.2.2.2.2.2
theorem db487 : (decode cX11_write 50 = .ok (.iload_n 1, 1)) ∧ (decode cX11_write 51 = .ok (.imul, 1)) ∧ (decode cX11_write 52 = .ok (.iload_n 2, 1)) ∧ (decode cX11_write 53 = .ok (.iadd, 1)) ∧ (decode cX11_write 54 = .ok (.lload_n 3, 1)) ∧ (decode cX11_write 55 = .ok (.aload_n 0, 1)) ∧ (decode cX11_write 56 = .ok (.getfield 64, 3)) ∧ (decode cX11_write 59 = .ok (.iload_n 1, 1)) ∧ (decode cX11_write 60 = .ok (.iaload, 1)) ∧ (decode cX11_write 61 = .ok (.invokestatic 458, 3)) ∧ (decode cX11_write 64 = .ok (.lastore, 1)) ∧ (decode cX11_write 65 = .ok (.iconst 0, 1)) ∧ (decode cX11_write 66 = .ok (.ireturn, 1)) ∧ (decode cX11_write 41 = .ok (.bipush (-7), 2)) ∧ (decode cX11_write 43 = .ok (.ireturn, 1)) ∧ (decode cX11_write 20 = .ok (.bipush (-6), 2)) ∧ (decode cX11_write 22 = .ok (.ireturn, 1)) ∧ (decode cX11_write 7 = .ok (.bipush (-2), 2)) ∧ (decode cX11_write 9 = .ok (.ireturn, 1)) := by decide +kernel
theorem dX11_write_50 : decode cX11_write 50 = .ok (.iload_n 1, 1) := db487.1
theorem dX11_write_51 : decode cX11_write 51 = .ok (.imul, 1) := db487.2.1
theorem dX11_write_52 : decode cX11_write 52 = .ok (.iload_n 2, 1) := db487.2.2.1
theorem dX11_write_53 : decode cX11_write 53 = .ok (.iadd, 1) := db487.2.2.2.1
theorem dX11_write_54 : decode cX11_write 54 = .ok (.lload_n 3, 1) := db487.2.2.2.2.1
theorem dX11_write_55 : decode cX11_write 55 = .ok (.aload_n 0, 1) := db487.2.2.2.2.2.1
theorem dX11_write_56 : decode cX11_write 56 = .ok (.getfield 64, 3) := db487.2.2.2.2.2.2.1
theorem dX11_write_59 : decode cX11_write 59 = .ok (.iload_n 1, 1) := db487.2.2.2.2.2.2.2.1
theorem dX11_write_60 : decode cX11_write 60 = .ok (.iaload, 1) := db487.2.2.2.2.2.2.2.2.1
theorem dX11_write_61 : decode cX11_write 61 = .ok (.invokestatic 458, 3) := db487.2.2.2.2.2.2.2.2.2.1
theorem dX11_write_64 : decode cX11_write 64 = .ok (.lastore, 1) := db487.2.2.2.2.2.2.2.2.2.2.1
theorem dX11_write_65 : decode cX11_write 65 = .ok (.iconst 0, 1) := db487.2.2.2.2.2.2.2.2.2.2.2.1
theorem dX11_write_66 : decode cX11_write 66 = .ok (.ireturn, 1) := db487.2.2.2.2.2.2.2.2.2.2.2.2.1
theorem dX11_write_41 : decode cX11_write 41 = .ok (.bipush (-7), 2) := db487.2.2.2.2.2.2.2.2.2.2.2.2.2.1
theorem dX11_write_43 : decode cX11_write 43 = .ok (.ireturn, 1) := db487.2.2.2.2.2.2.2.2.2.2.2.2.2.2.1
theorem dX11_write_20 : decode cX11_write 20 = .ok (.bipush (-6), 2) := db487.2.2.2.2.2.2.2.2.2.2.2.2.2.2.2.1
theorem dX11_write_22 : decode cX11_write 22 = .ok (.ireturn, 1) := db487.2.2.2.2.2.2.2.2.2.2.2.2.2.2.2.2.1
theorem dX11_write_7 : decode cX11_write 7 = .ok (.bipush (-2), 2) := db487.2.2.2.2.2.2.2.2.2.2.2.2.2.2.2.2.2.1
theorem dX11_write_9 : decode cX11_write 9 = .ok (.ireturn, 1) := db487.2.2.2.2.2.2.2.2.2.2.2.2.2.2.2.2.2.2
theorem db488 : (decode cX11_yes 0 = .ok (.aload_n 0, 1)) ∧ (decode cX11_yes 1 = .ok (.iload_n 1, 1)) ∧ (decode cX11_yes 2 = .ok (.invokevirtual 375, 3)) ∧ (decode cX11_yes 5 = .ok (.ifCond .eq 24, 3)) ∧ (decode cX11_yes 29 = .ok (.bipush (-2), 2)) ∧ (decode cX11_yes 31 = .ok (.ireturn, 1)) ∧ (decode cX11_yes 8 = .ok (.iload_n 2, 1)) ∧ (decode cX11_yes 9 = .ok (.i2l, 1)) ∧ (decode cX11_yes 10 = .ok (.lconst 0, 1)) ∧ (decode cX11_yes 11 = .ok (.ldc2_w 325, 3)) ∧ (decode cX11_yes 14 = .ok (.invokestatic 79, 3)) ∧ (decode cX11_yes 17 = .ok (.ifCond .eq 12, 3)) ∧ (decode cX11_yes 20 = .ok (.aload_n 0, 1)) ∧ (decode cX11_yes 21 = .ok (.iload_n 1, 1)) ∧ (decode cX11_yes 22 = .ok (.iload_n 2, 1)) ∧ (decode cX11_yes 23 = .ok (.invokevirtual 366, 3)) ∧ (decode cX11_yes 26 = .ok (.goto 5, 3)) := by decide +kernel
theorem dX11_yes_0 : decode cX11_yes 0 = .ok (.aload_n 0, 1) := db488.1
theorem dX11_yes_1 : decode cX11_yes 1 = .ok (.iload_n 1, 1) := db488.2.1
theorem dX11_yes_2 : decode cX11_yes 2 = .ok (.invokevirtual 375, 3) := db488.2.2.1
theorem dX11_yes_5 : decode cX11_yes 5 = .ok (.ifCond .eq 24, 3) := db488.2.2.2.1
theorem dX11_yes_29 : decode cX11_yes 29 = .ok (.bipush (-2), 2) := db488.2.2.2.2.1
theorem dX11_yes_31 : decode cX11_yes 31 = .ok (.ireturn, 1) := db488.2.2.2.2.2.1
theorem dX11_yes_8 : decode cX11_yes 8 = .ok (.iload_n 2, 1) := db488.2.2.2.2.2.2.1
theorem dX11_yes_9 : decode cX11_yes 9 = .ok (.i2l, 1) := db488.2.2.2.2.2.2.2.1
theorem dX11_yes_10 : decode cX11_yes 10 = .ok (.lconst 0, 1) := db488.2.2.2.2.2.2.2.2.1
theorem dX11_yes_11 : decode cX11_yes 11 = .ok (.ldc2_w 325, 3) := db488.2.2.2.2.2.2.2.2.2.1
theorem dX11_yes_14 : decode cX11_yes 14 = .ok (.invokestatic 79, 3) := db488.2.2.2.2.2.2.2.2.2.2.1
theorem dX11_yes_17 : decode cX11_yes 17 = .ok (.ifCond .eq 12, 3) := db488.2.2.2.2.2.2.2.2.2.2.2.1
theorem dX11_yes_20 : decode cX11_yes 20 = .ok (.aload_n 0, 1) := db488.2.2.2.2.2.2.2.2.2.2.2.2.1
theorem dX11_yes_21 : decode cX11_yes 21 = .ok (.iload_n 1, 1) := db488.2.2.2.2.2.2.2.2.2.2.2.2.2.1
theorem dX11_yes_22 : decode cX11_yes 22 = .ok (.iload_n 2, 1) := db488.2.2.2.2.2.2.2.2.2.2.2.2.2.2.1
theorem dX11_yes_23 : decode cX11_yes 23 = .ok (.invokevirtual 366, 3) := db488.2.2.2.2.2.2.2.2.2.2.2.2.2.2.2.1
theorem dX11_yes_26 : decode cX11_yes 26 = .ok (.goto 5, 3) := db488.2.2.2.2.2.2.2.2.2.2.2.2.2.2.2.2
theorem db489 : (decode cX1_findLeaders 0 = .ok (.iconst 0, 1)) ∧ (decode cX1_findLeaders 1 = .ok (.istore_n 2, 1)) ∧ (decode cX1_findLeaders 2 = .ok (.iload_n 2, 1)) ∧ (decode cX1_findLeaders 3 = .ok (.aload_n 1, 1)) ∧ (decode cX1_findLeaders 4 = .ok (.getfield 65, 3)) ∧ (decode cX1_findLeaders 7 = .ok (.if_icmp .ge 45, 3)) ∧ (decode cX1_findLeaders 52 = .ok (.return_, 1)) ∧ (decode cX1_findLeaders 10 = .ok (.iconst 1, 1)) ∧ (decode cX1_findLeaders 11 = .ok (.iload_n 2, 1)) ∧ (decode cX1_findLeaders 12 = .ok (.ishl, 1)) ∧ (decode cX1_findLeaders 13 = .ok (.istore_n 3, 1)) ∧ (decode cX1_findLeaders 14 = .ok (.iconst 0, 1)) ∧ (decode cX1_findLeaders 15 = .ok (.istore 4, 2)) ∧ (decode cX1_findLeaders 17 = .ok (.iload 4, 2)) ∧ (decode cX1_findLeaders 19 = .ok (.bipush 7, 2)) ∧ (decode cX1_findLeaders 21 = .ok (.if_icmp .ge 15, 3)) ∧ (decode cX1_findLeaders 36 = .ok (.aload_n 0, 1)) ∧ (decode cX1_findLeaders 37 = .ok (.getfield 22, 3)) ∧ (decode cX1_findLeaders 40 = .ok (.iload_n 2, 1)) ∧ (decode cX1_findLeaders 41 = .ok (.iload_n 3, 1)) ∧ (decode cX1_findLeaders 42 = .ok (.invokestatic 76, 3)) ∧ (decode cX1_findLeaders 45 = .ok (.iastore, 1)) ∧ (decode cX1_findLeaders 46 = .ok (.iinc 2 1, 3)) ∧ (decode cX1_findLeaders 49 = .ok (.goto (-47), 3)) := by decide +kernel
theorem dX1_findLeaders_0 : decode cX1_findLeaders 0 = .ok (.iconst 0, 1) := db489.1
theorem dX1_findLeaders_1 : decode cX1_findLeaders 1 = .ok (.istore_n 2, 1) := db489.2.1
theorem dX1_findLeaders_2 : decode cX1_findLeaders 2 = .ok (.iload_n 2, 1) := db489.2.2.1
theorem dX1_findLeaders_3 : decode cX1_findLeaders 3 = .ok (.aload_n 1, 1) := db489.2.2.2.1
theorem dX1_findLeaders_4 : decode cX1_findLeaders 4 = .ok (.getfield 65, 3) := db489.2.2.2.2.1
theorem dX1_findLeaders_7 : decode cX1_findLeaders 7 = .ok (.if_icmp .ge 45, 3) := db489.2.2.2.2.2.1
theorem dX1_findLeaders_52 : decode cX1_findLeaders 52 = .ok (.return_, 1) := db489.2.2.2.2.2.2.1
theorem dX1_findLeaders_10 : decode cX1_findLeaders 10 = .ok (.iconst 1, 1) := db489.2.2.2.2.2.2.2.1
theorem dX1_findLeaders_11 : decode cX1_findLeaders 11 = .ok (.iload_n 2, 1) := db489.2.2.2.2.2.2.2.2.1
theorem dX1_findLeaders_12 : decode cX1_findLeaders 12 = .ok (.ishl, 1) := db489.2.2.2.2.2.2.2.2.2.1
theorem dX1_findLeaders_13 : decode cX1_findLeaders 13 = .ok (.istore_n 3, 1) := db489.2.2.2.2.2.2.2.2.2.2.1
theorem dX1_findLeaders_14 : decode cX1_findLeaders 14 = .ok (.iconst 0, 1) := db489.2.2.2.2.2.2.2.2.2.2.2.1
theorem dX1_findLeaders_15 : decode cX1_findLeaders 15 = .ok (.istore 4, 2) := db489.2.2.2.2.2.2.2.2.2.2.2.2.1
theorem dX1_findLeaders_17 : decode cX1_findLeaders 17 = .ok (.iload 4, 2) := db489.2.2.2.2.2.2.2.2.2.2.2.2.2.1
theorem dX1_findLeaders_19 : decode cX1_findLeaders 19 = .ok (.bipush 7, 2) := db489.2.2.2.2.2.2.2.2.2.2.2.2.2.2.1
theorem dX1_findLeaders_21 : decode cX1_findLeaders 21 = .ok (.if_icmp .ge 15, 3) := db489.2.2.2.2.2.2.2.2.2.2.2.2.2.2.2.1
theorem dX1_findLeaders_36 : decode cX1_findLeaders 36 = .ok (.aload_n 0, 1) := db489.2.2.2.2.2.2.2.2.2.2.2.2.2.2.2.2.1
theorem dX1_findLeaders_37 : decode cX1_findLeaders 37 = .ok (.getfield 22, 3) := db489.2.2.2.2.2.2.2.2.2.2.2.2.2.2.2.2.2.1
theorem dX1_findLeaders_40 : decode cX1_findLeaders 40 = .ok (.iload_n 2, 1) := db489.2.2.2.2.2.2.2.2.2.2.2.2.2.2.2.2.2.2.1
theorem dX1_findLeaders_41 : decode cX1_findLeaders 41 = .ok (.iload_n 3, 1) := db489.2.2.2.2.2.2.2.2.2.2.2.2.2.2.2.2.2.2.2.1
theorem dX1_findLeaders_42 : decode cX1_findLeaders 42 = .ok (.invokestatic 76, 3) := db489.2.2.2.2.2.2.2.2.2.2.2.2.2.2.2.2.2.2.2.2.1
theorem dX1_findLeaders_45 : decode cX1_findLeaders 45 = .ok (.iastore, 1) := db489.2.2.2.2.2.2.2.2.2.2.2.2.2.2.2.2.2.2.2.2.2.1
theorem dX1_findLeaders_46 : decode cX1_findLeaders 46 = .ok (.iinc 2 1, 3) := db489.2.2.2.2.2.2.2.2.2.2.2.2.2.2.2.2.2.2.2.2.2.2.1
theorem dX1_findLeaders_49 : decode cX1_findLeaders 49 = .ok (.goto (-47), 3) := db489.2.2.2.2.2.2.2.2.2.2.2.2.2.2.2.2.2.2.2.2.2.2.2
theorem db490 : (decode cX1_findLeaders 24 = .ok (.aload_n 1, 1)) ∧ (decode cX1_findLeaders 25 = .ok (.iload_n 3, 1)) ∧ (decode cX1_findLeaders 26 = .ok (.invokevirtual 72, 3)) ∧ (decode cX1_findLeaders 29 = .ok (.istore_n 3, 1)) ∧ (decode cX1_findLeaders 30 = .ok (.iinc 4 1, 3)) ∧ (decode cX1_findLeaders 33 = .ok (.goto (-16), 3)) := by decide +kernel
theorem dX1_findLeaders_24 : decode cX1_findLeaders 24 = .ok (.aload_n 1, 1) := db490.1
theorem dX1_findLeaders_25 : decode cX1_findLeaders 25 = .ok (.iload_n 3, 1) := db490.2.1
theorem dX1_findLeaders_26 : decode cX1_findLeaders 26 = .ok (.invokevirtual 72, 3) := db490.2.2.1
theorem dX1_findLeaders_29 : decode cX1_findLeaders 29 = .ok (.istore_n 3, 1) := db490.2.2.2.1
theorem dX1_findLeaders_30 : decode cX1_findLeaders 30 = .ok (.iinc 4 1, 3) := db490.2.2.2.2.1
theorem dX1_findLeaders_33 : decode cX1_findLeaders 33 = .ok (.goto (-16), 3) := db490.2.2.2.2.2
theorem db491 : (decode cX1_goOn 0 = .ok (.aload_n 0, 1)) ∧ (decode cX1_goOn 1 = .ok (.getfield 15, 3)) ∧ (decode cX1_goOn 4 = .ok (.iload_n 2, 1)) ∧ (decode cX1_goOn 5 = .ok (.iaload, 1)) ∧ (decode cX1_goOn 6 = .ok (.sipush 128, 3)) ∧ (decode cX1_goOn 9 = .ok (.idiv, 1)) ∧ (decode cX1_goOn 10 = .ok (.istore 4, 2)) ∧ (decode cX1_goOn 12 = .ok (.aload_n 1, 1)) ∧ (decode cX1_goOn 13 = .ok (.aload_n 0, 1)) ∧ (decode cX1_goOn 14 = .ok (.getfield 15, 3)) ∧ (decode cX1_goOn 17 = .ok (.iload_n 2, 1)) ∧ (decode cX1_goOn 18 = .ok (.iaload, 1)) ∧ (decode cX1_goOn 19 = .ok (.sipush 128, 3)) ∧ (decode cX1_goOn 22 = .ok (.irem, 1)) ∧ (decode cX1_goOn 23 = .ok (.invokevirtual 72, 3)) ∧ (decode cX1_goOn 26 = .ok (.istore 5, 2)) ∧ (decode cX1_goOn 28 = .ok (.iload 4, 2)) ∧ (decode cX1_goOn 30 = .ok (.bipush 7, 2)) ∧ (decode cX1_goOn 32 = .ok (.idiv, 1)) ∧ (decode cX1_goOn 33 = .ok (.istore 6, 2)) ∧ (decode cX1_goOn 35 = .ok (.iload 4, 2)) ∧ (decode cX1_goOn 37 = .ok (.bipush 7, 2)) ∧ (decode cX1_goOn 39 = .ok (.irem, 1)) ∧ (decode cX1_goOn 40 = .ok (.istore 7, 2)) := by decide +kernel
theorem dX1_goOn_0 : decode cX1_goOn 0 = .ok (.aload_n 0, 1) := db491.1
theorem dX1_goOn_1 : decode cX1_goOn 1 = .ok (.getfield 15, 3) := db491.2.1
theorem dX1_goOn_4 : decode cX1_goOn 4 = .ok (.iload_n 2, 1) := db491.2.2.1
theorem dX1_goOn_5 : decode cX1_goOn 5 = .ok (.iaload, 1) := db491.2.2.2.1
theorem dX1_goOn_6 : decode cX1_goOn 6 = .ok (.sipush 128, 3) := db491.2.2.2.2.1
theorem dX1_goOn_9 : decode cX1_goOn 9 = .ok (.idiv, 1) := db491.2.2.2.2.2.1
theorem dX1_goOn_10 : decode cX1_goOn 10 = .ok (.istore 4, 2) := db491.2.2.2.2.2.2.1
theorem dX1_goOn_12 : decode cX1_goOn 12 = .ok (.aload_n 1, 1) := db491.2.2.2.2.2.2.2.1
theorem dX1_goOn_13 : decode cX1_goOn 13 = .ok (.aload_n 0, 1) := db491.2.2.2.2.2.2.2.2.1
theorem dX1_goOn_14 : decode cX1_goOn 14 = .ok (.getfield 15, 3) := db491.2.2.2.2.2.2.2.2.2.1
theorem dX1_goOn_17 : decode cX1_goOn 17 = .ok (.iload_n 2, 1) := db491.2.2.2.2.2.2.2.2.2.2.1
theorem dX1_goOn_18 : decode cX1_goOn 18 = .ok (.iaload, 1) := db491.2.2.2.2.2.2.2.2.2.2.2.1
theorem dX1_goOn_19 : decode cX1_goOn 19 = .ok (.sipush 128, 3) := db491.2.2.2.2.2.2.2.2.2.2.2.2.1
theorem dX1_goOn_22 : decode cX1_goOn 22 = .ok (.irem, 1) := db491.2.2.2.2.2.2.2.2.2.2.2.2.2.1
theorem dX1_goOn_23 : decode cX1_goOn 23 = .ok (.invokevirtual 72, 3) := db491.2.2.2.2.2.2.2.2.2.2.2.2.2.2.1
theorem dX1_goOn_26 : decode cX1_goOn 26 = .ok (.istore 5, 2) := db491.2.2.2.2.2.2.2.2.2.2.2.2.2.2.2.1
theorem dX1_goOn_28 : decode cX1_goOn 28 = .ok (.iload 4, 2) := db491.2.2.2.2.2.2.2.2.2.2.2.2.2.2.2.2.1
theorem dX1_goOn_30 : decode cX1_goOn 30 = .ok (.bipush 7, 2) := db491.2.2.2.2.2.2.2.2.2.2.2.2.2.2.2.2.2.1
theorem dX1_goOn_32 : decode cX1_goOn 32 = .ok (.idiv, 1) := db491.2.2.2.2.2.2.2.2.2.2.2.2.2.2.2.2.2.2.1
theorem dX1_goOn_33 : decode cX1_goOn 33 = .ok (.istore 6, 2) := db491.2.2.2.2.2.2.2.2.2.2.2.2.2.2.2.2.2.2.2.1
theorem dX1_goOn_35 : decode cX1_goOn 35 = .ok (.iload 4, 2) := db491.2.2.2.2.2.2.2.2.2.2.2.2.2.2.2.2.2.2.2.2.1
theorem dX1_goOn_37 : decode cX1_goOn 37 = .ok (.bipush 7, 2) := db491.2.2.2.2.2.2.2.2.2.2.2.2.2.2.2.2.2.2.2.2.2.1
theorem dX1_goOn_39 : decode cX1_goOn 39 = .ok (.irem, 1) := db491.2.2.2.2.2.2.2.2.2.2.2.2.2.2.2.2.2.2.2.2.2.2.1
theorem dX1_goOn_40 : decode cX1_goOn 40 = .ok (.istore 7, 2) := db491.2.2.2.2.2.2.2.2.2.2.2.2.2.2.2.2.2.2.2.2.2.2.2
theorem db492 : (decode cX1_goOn 42 = .ok (.iconst 0, 1)) ∧ (decode cX1_goOn 43 = .ok (.istore 8, 2)) ∧ (decode cX1_goOn 45 = .ok (.iload 8, 2)) ∧ (decode cX1_goOn 47 = .ok (.aload_n 1, 1)) ∧ (decode cX1_goOn 48 = .ok (.getfield 65, 3)) ∧ (decode cX1_goOn 51 = .ok (.if_icmp .ge 77, 3)) ∧ (decode cX1_goOn 128 = .ok (.return_, 1)) ∧ (decode cX1_goOn 54 = .ok (.aload_n 1, 1)) ∧ (decode cX1_goOn 55 = .ok (.iload 6, 2)) ∧ (decode cX1_goOn 57 = .ok (.iload 8, 2)) ∧ (decode cX1_goOn 59 = .ok (.invokevirtual 81, 3)) ∧ (decode cX1_goOn 122 = .ok (.iinc 8 1, 3)) ∧ (decode cX1_goOn 125 = .ok (.goto (-80), 3)) ∧ (decode cX1_goOn 62 = .ok (.ifCond .ne 6, 3)) ∧ (decode cX1_goOn 68 = .ok (.iconst 0, 1)) ∧ (decode cX1_goOn 69 = .ok (.istore 9, 2)) ∧ (decode cX1_goOn 71 = .ok (.iload 9, 2)) ∧ (decode cX1_goOn 73 = .ok (.aload_n 1, 1)) ∧ (decode cX1_goOn 74 = .ok (.getfield 65, 3)) ∧ (decode cX1_goOn 77 = .ok (.if_icmp .ge 45, 3)) ∧ (decode cX1_goOn 80 = .ok (.iload_n 3, 1)) ∧ (decode cX1_goOn 116 = .ok (.iinc 9 1, 3)) ∧ (decode cX1_goOn 119 = .ok (.goto (-48), 3)) ∧ (decode cX1_goOn 105 = .ok (.aload_n 0, 1)) := by decide +kernel
theorem dX1_goOn_42 : decode cX1_goOn 42 = .ok (.iconst 0, 1) := db492.1
theorem dX1_goOn_43 : decode cX1_goOn 43 = .ok (.istore 8, 2) := db492.2.1
theorem dX1_goOn_45 : decode cX1_goOn 45 = .ok (.iload 8, 2) := db492.2.2.1
theorem dX1_goOn_47 : decode cX1_goOn 47 = .ok (.aload_n 1, 1) := db492.2.2.2.1
theorem dX1_goOn_48 : decode cX1_goOn 48 = .ok (.getfield 65, 3) := db492.2.2.2.2.1
theorem dX1_goOn_51 : decode cX1_goOn 51 = .ok (.if_icmp .ge 77, 3) := db492.2.2.2.2.2.1
theorem dX1_goOn_128 : decode cX1_goOn 128 = .ok (.return_, 1) := db492.2.2.2.2.2.2.1
theorem dX1_goOn_54 : decode cX1_goOn 54 = .ok (.aload_n 1, 1) := db492.2.2.2.2.2.2.2.1
theorem dX1_goOn_55 : decode cX1_goOn 55 = .ok (.iload 6, 2) := db492.2.2.2.2.2.2.2.2.1
theorem dX1_goOn_57 : decode cX1_goOn 57 = .ok (.iload 8, 2) := db492.2.2.2.2.2.2.2.2.2.1
theorem dX1_goOn_59 : decode cX1_goOn 59 = .ok (.invokevirtual 81, 3) := db492.2.2.2.2.2.2.2.2.2.2.1
theorem dX1_goOn_122 : decode cX1_goOn 122 = .ok (.iinc 8 1, 3) := db492.2.2.2.2.2.2.2.2.2.2.2.1
theorem dX1_goOn_125 : decode cX1_goOn 125 = .ok (.goto (-80), 3) := db492.2.2.2.2.2.2.2.2.2.2.2.2.1
theorem dX1_goOn_62 : decode cX1_goOn 62 = .ok (.ifCond .ne 6, 3) := db492.2.2.2.2.2.2.2.2.2.2.2.2.2.1
theorem dX1_goOn_68 : decode cX1_goOn 68 = .ok (.iconst 0, 1) := db492.2.2.2.2.2.2.2.2.2.2.2.2.2.2.1
theorem dX1_goOn_69 : decode cX1_goOn 69 = .ok (.istore 9, 2) := db492.2.2.2.2.2.2.2.2.2.2.2.2.2.2.2.1
theorem dX1_goOn_71 : decode cX1_goOn 71 = .ok (.iload 9, 2) := db492.2.2.2.2.2.2.2.2.2.2.2.2.2.2.2.2.1
theorem dX1_goOn_73 : decode cX1_goOn 73 = .ok (.aload_n 1, 1) := db492.2.2.2.2.2.2.2.2.2.2.2.2.2.2.2.2.2.1
theorem dX1_goOn_74 : decode cX1_goOn 74 = .ok (.getfield 65, 3) := db492.2.2.2.2.2.2.2.2.2.2.2.2.2.2.2.2.2.2.1
theorem dX1_goOn_77 : decode cX1_goOn 77 = .ok (.if_icmp .ge 45, 3) := db492.2.2.2.2.2.2.2.2.2.2.2.2.2.2.2.2.2.2.2.1
theorem dX1_goOn_80 : decode cX1_goOn 80 = .ok (.iload_n 3, 1) := db492.2.2.2.2.2.2.2.2.2.2.2.2.2.2.2.2.2.2.2.2.1
theorem dX1_goOn_116 : decode cX1_goOn 116 = .ok (.iinc 9 1, 3) := db492.2.2.2.2.2.2.2.2.2.2.2.2.2.2.2.2.2.2.2.2.2.1
theorem dX1_goOn_119 : decode cX1_goOn 119 = .ok (.goto (-48), 3) := db492.2.2.2.2.2.2.2.2.2.2.2.2.2.2.2.2.2.2.2.2.2.2.1
theorem dX1_goOn_105 : decode cX1_goOn 105 = .ok (.aload_n 0, 1) := db492.2.2.2.2.2.2.2.2.2.2.2.2.2.2.2.2.2.2.2.2.2.2.2
theorem db493 : (decode cX1_goOn 106 = .ok (.iload 8, 2)) ∧ (decode cX1_goOn 108 = .ok (.iload 9, 2)) ∧ (decode cX1_goOn 110 = .ok (.iload 5, 2)) ∧ (decode cX1_goOn 112 = .ok (.iload_n 2, 1)) ∧ (decode cX1_goOn 113 = .ok (.invokevirtual 47, 3)) ∧ (decode cX1_goOn 81 = .ok (.ifCond .eq 13, 3)) ∧ (decode cX1_goOn 94 = .ok (.aload_n 1, 1)) ∧ (decode cX1_goOn 95 = .ok (.iload 7, 2)) ∧ (decode cX1_goOn 97 = .ok (.iload 9, 2)) ∧ (decode cX1_goOn 99 = .ok (.invokevirtual 81, 3)) ∧ (decode cX1_goOn 102 = .ok (.ifCond .eq 14, 3)) ∧ (decode cX1_goOn 84 = .ok (.iload 9, 2)) ∧ (decode cX1_goOn 86 = .ok (.iload 8, 2)) ∧ (decode cX1_goOn 88 = .ok (.if_icmp .ne 28, 3)) ∧ (decode cX1_goOn 91 = .ok (.goto 14, 3)) ∧ (decode cX1_goOn 65 = .ok (.goto 57, 3)) := by decide +kernel
theorem dX1_goOn_106 : decode cX1_goOn 106 = .ok (.iload 8, 2) := db493.1
theorem dX1_goOn_108 : decode cX1_goOn 108 = .ok (.iload 9, 2) := db493.2.1
theorem dX1_goOn_110 : decode cX1_goOn 110 = .ok (.iload 5, 2) := db493.2.2.1
theorem dX1_goOn_112 : decode cX1_goOn 112 = .ok (.iload_n 2, 1) := db493.2.2.2.1
theorem dX1_goOn_113 : decode cX1_goOn 113 = .ok (.invokevirtual 47, 3) := db493.2.2.2.2.1
theorem dX1_goOn_81 : decode cX1_goOn 81 = .ok (.ifCond .eq 13, 3) := db493.2.2.2.2.2.1
theorem dX1_goOn_94 : decode cX1_goOn 94 = .ok (.aload_n 1, 1) := db493.2.2.2.2.2.2.1
theorem dX1_goOn_95 : decode cX1_goOn 95 = .ok (.iload 7, 2) := db493.2.2.2.2.2.2.2.1
theorem dX1_goOn_97 : decode cX1_goOn 97 = .ok (.iload 9, 2) := db493.2.2.2.2.2.2.2.2.1
theorem dX1_goOn_99 : decode cX1_goOn 99 = .ok (.invokevirtual 81, 3) := db493.2.2.2.2.2.2.2.2.2.1
theorem dX1_goOn_102 : decode cX1_goOn 102 = .ok (.ifCond .eq 14, 3) := db493.2.2.2.2.2.2.2.2.2.2.1
theorem dX1_goOn_84 : decode cX1_goOn 84 = .ok (.iload 9, 2) := db493.2.2.2.2.2.2.2.2.2.2.2.1
theorem dX1_goOn_86 : decode cX1_goOn 86 = .ok (.iload 8, 2) := db493.2.2.2.2.2.2.2.2.2.2.2.2.1
theorem dX1_goOn_88 : decode cX1_goOn 88 = .ok (.if_icmp .ne 28, 3) := db493.2.2.2.2.2.2.2.2.2.2.2.2.2.1
theorem dX1_goOn_91 : decode cX1_goOn 91 = .ok (.goto 14, 3) := db493.2.2.2.2.2.2.2.2.2.2.2.2.2.2.1
theorem dX1_goOn_65 : decode cX1_goOn 65 = .ok (.goto 57, 3) := db493.2.2.2.2.2.2.2.2.2.2.2.2.2.2.2
theorem db494 : (decode cX1_hunt 0 = .ok (.aload_n 0, 1)) ∧ (decode cX1_hunt 1 = .ok (.getfield 11, 3)) ∧ (decode cX1_hunt 4 = .ok (.lconst 0, 1)) ∧ (decode cX1_hunt 5 = .ok (.invokestatic 32, 3)) ∧ (decode cX1_hunt 8 = .ok (.aload_n 0, 1)) ∧ (decode cX1_hunt 9 = .ok (.iconst 0, 1)) ∧ (decode cX1_hunt 10 = .ok (.putfield 38, 3)) ∧ (decode cX1_hunt 13 = .ok (.aload_n 0, 1)) ∧ (decode cX1_hunt 14 = .ok (.iconst (-1), 1)) ∧ (decode cX1_hunt 15 = .ok (.putfield 28, 3)) ∧ (decode cX1_hunt 18 = .ok (.aload_n 0, 1)) ∧ (decode cX1_hunt 19 = .ok (.iload_n 2, 1)) ∧ (decode cX1_hunt 20 = .ok (.iload_n 3, 1)) ∧ (decode cX1_hunt 21 = .ok (.aload_n 1, 1)) ∧ (decode cX1_hunt 22 = .ok (.invokevirtual 41, 3)) ∧ (decode cX1_hunt 25 = .ok (.iconst (-1), 1)) ∧ (decode cX1_hunt 26 = .ok (.invokevirtual 47, 3)) ∧ (decode cX1_hunt 29 = .ok (.iconst 0, 1)) ∧ (decode cX1_hunt 30 = .ok (.istore 5, 2)) ∧ (decode cX1_hunt 32 = .ok (.iload 5, 2)) ∧ (decode cX1_hunt 34 = .ok (.aload_n 0, 1)) ∧ (decode cX1_hunt 35 = .ok (.getfield 38, 3)) ∧ (decode cX1_hunt 72 = .ok (.aload_n 0, 1)) ∧ (decode cX1_hunt 73 = .ok (.getfield 28, 3)) := by decide +kernel
theorem dX1_hunt_0 : decode cX1_hunt 0 = .ok (.aload_n 0, 1) := db494.1
theorem dX1_hunt_1 : decode cX1_hunt 1 = .ok (.getfield 11, 3) := db494.2.1
theorem dX1_hunt_4 : decode cX1_hunt 4 = .ok (.lconst 0, 1) := db494.2.2.1
theorem dX1_hunt_5 : decode cX1_hunt 5 = .ok (.invokestatic 32, 3) := db494.2.2.2.1
theorem dX1_hunt_8 : decode cX1_hunt 8 = .ok (.aload_n 0, 1) := db494.2.2.2.2.1
theorem dX1_hunt_9 : decode cX1_hunt 9 = .ok (.iconst 0, 1) := db494.2.2.2.2.2.1
theorem dX1_hunt_10 : decode cX1_hunt 10 = .ok (.putfield 38, 3) := db494.2.2.2.2.2.2.1
theorem dX1_hunt_13 : decode cX1_hunt 13 = .ok (.aload_n 0, 1) := db494.2.2.2.2.2.2.2.1
theorem dX1_hunt_14 : decode cX1_hunt 14 = .ok (.iconst (-1), 1) := db494.2.2.2.2.2.2.2.2.1
theorem dX1_hunt_15 : decode cX1_hunt 15 = .ok (.putfield 28, 3) := db494.2.2.2.2.2.2.2.2.2.1
theorem dX1_hunt_18 : decode cX1_hunt 18 = .ok (.aload_n 0, 1) := db494.2.2.2.2.2.2.2.2.2.2.1
theorem dX1_hunt_19 : decode cX1_hunt 19 = .ok (.iload_n 2, 1) := db494.2.2.2.2.2.2.2.2.2.2.2.1
theorem dX1_hunt_20 : decode cX1_hunt 20 = .ok (.iload_n 3, 1) := db494.2.2.2.2.2.2.2.2.2.2.2.2.1
theorem dX1_hunt_21 : decode cX1_hunt 21 = .ok (.aload_n 1, 1) := db494.2.2.2.2.2.2.2.2.2.2.2.2.2.1
theorem dX1_hunt_22 : decode cX1_hunt 22 = .ok (.invokevirtual 41, 3) := db494.2.2.2.2.2.2.2.2.2.2.2.2.2.2.1
theorem dX1_hunt_25 : decode cX1_hunt 25 = .ok (.iconst (-1), 1) := db494.2.2.2.2.2.2.2.2.2.2.2.2.2.2.2.1
theorem dX1_hunt_26 : decode cX1_hunt 26 = .ok (.invokevirtual 47, 3) := db494.2.2.2.2.2.2.2.2.2.2.2.2.2.2.2.2.1
theorem dX1_hunt_29 : decode cX1_hunt 29 = .ok (.iconst 0, 1) := db494.2.2.2.2.2.2.2.2.2.2.2.2.2.2.2.2.2.1
theorem dX1_hunt_30 : decode cX1_hunt 30 = .ok (.istore 5, 2) := db494.2.2.2.2.2.2.2.2.2.2.2.2.2.2.2.2.2.2.1
theorem dX1_hunt_32 : decode cX1_hunt 32 = .ok (.iload 5, 2) := db494.2.2.2.2.2.2.2.2.2.2.2.2.2.2.2.2.2.2.2.1
theorem dX1_hunt_34 : decode cX1_hunt 34 = .ok (.aload_n 0, 1) := db494.2.2.2.2.2.2.2.2.2.2.2.2.2.2.2.2.2.2.2.2.1
theorem dX1_hunt_35 : decode cX1_hunt 35 = .ok (.getfield 38, 3) := db494.2.2.2.2.2.2.2.2.2.2.2.2.2.2.2.2.2.2.2.2.2.1
theorem dX1_hunt_72 : decode cX1_hunt 72 = .ok (.aload_n 0, 1) := db494.2.2.2.2.2.2.2.2.2.2.2.2.2.2.2.2.2.2.2.2.2.2.1
theorem dX1_hunt_73 : decode cX1_hunt 73 = .ok (.getfield 28, 3) := db494.2.2.2.2.2.2.2.2.2.2.2.2.2.2.2.2.2.2.2.2.2.2.2
theorem db495 : (decode cX1_hunt 76 = .ok (.iconst (-1), 1)) ∧ (decode cX1_hunt 77 = .ok (.if_icmp .eq 7, 3)) ∧ (decode cX1_hunt 84 = .ok (.iconst 0, 1)) ∧ (decode cX1_hunt 85 = .ok (.ireturn, 1)) ∧ (decode cX1_hunt 80 = .ok (.iconst 1, 1)) ∧ (decode cX1_hunt 81 = .ok (.goto 4, 3)) ∧ (decode cX1_hunt 38 = .ok (.if_icmp .ge 34, 3)) ∧ (decode cX1_hunt 41 = .ok (.iload 5, 2)) ∧ (decode cX1_hunt 43 = .ok (.sipush 1792, 3)) ∧ (decode cX1_hunt 46 = .ok (.if_icmp .ge 26, 3)) ∧ (decode cX1_hunt 49 = .ok (.aload_n 0, 1)) ∧ (decode cX1_hunt 50 = .ok (.getfield 28, 3)) ∧ (decode cX1_hunt 53 = .ok (.iconst (-1), 1)) ∧ (decode cX1_hunt 54 = .ok (.if_icmp .ne 18, 3)) ∧ (decode cX1_hunt 57 = .ok (.aload_n 0, 1)) ∧ (decode cX1_hunt 58 = .ok (.aload_n 1, 1)) ∧ (decode cX1_hunt 59 = .ok (.iload 5, 2)) ∧ (decode cX1_hunt 61 = .ok (.iload 4, 2)) ∧ (decode cX1_hunt 63 = .ok (.invokevirtual 51, 3)) ∧ (decode cX1_hunt 66 = .ok (.iinc 5 1, 3)) ∧ (decode cX1_hunt 69 = .ok (.goto (-37), 3)) := by decide +kernel
theorem dX1_hunt_76 : decode cX1_hunt 76 = .ok (.iconst (-1), 1) := db495.1
theorem dX1_hunt_77 : decode cX1_hunt 77 = .ok (.if_icmp .eq 7, 3) := db495.2.1
theorem dX1_hunt_84 : decode cX1_hunt 84 = .ok (.iconst 0, 1) := db495.2.2.1
theorem dX1_hunt_85 : decode cX1_hunt 85 = .ok (.ireturn, 1) := db495.2.2.2.1
theorem dX1_hunt_80 : decode cX1_hunt 80 = .ok (.iconst 1, 1) := db495.2.2.2.2.1
theorem dX1_hunt_81 : decode cX1_hunt 81 = .ok (.goto 4, 3) := db495.2.2.2.2.2.1
theorem dX1_hunt_38 : decode cX1_hunt 38 = .ok (.if_icmp .ge 34, 3) := db495.2.2.2.2.2.2.1
theorem dX1_hunt_41 : decode cX1_hunt 41 = .ok (.iload 5, 2) := db495.2.2.2.2.2.2.2.1
theorem dX1_hunt_43 : decode cX1_hunt 43 = .ok (.sipush 1792, 3) := db495.2.2.2.2.2.2.2.2.1
theorem dX1_hunt_46 : decode cX1_hunt 46 = .ok (.if_icmp .ge 26, 3) := db495.2.2.2.2.2.2.2.2.2.1
theorem dX1_hunt_49 : decode cX1_hunt 49 = .ok (.aload_n 0, 1) := db495.2.2.2.2.2.2.2.2.2.2.1
theorem dX1_hunt_50 : decode cX1_hunt 50 = .ok (.getfield 28, 3) := db495.2.2.2.2.2.2.2.2.2.2.2.1
theorem dX1_hunt_53 : decode cX1_hunt 53 = .ok (.iconst (-1), 1) := db495.2.2.2.2.2.2.2.2.2.2.2.2.1
theorem dX1_hunt_54 : decode cX1_hunt 54 = .ok (.if_icmp .ne 18, 3) := db495.2.2.2.2.2.2.2.2.2.2.2.2.2.1
theorem dX1_hunt_57 : decode cX1_hunt 57 = .ok (.aload_n 0, 1) := db495.2.2.2.2.2.2.2.2.2.2.2.2.2.2.1
theorem dX1_hunt_58 : decode cX1_hunt 58 = .ok (.aload_n 1, 1) := db495.2.2.2.2.2.2.2.2.2.2.2.2.2.2.2.1
theorem dX1_hunt_59 : decode cX1_hunt 59 = .ok (.iload 5, 2) := db495.2.2.2.2.2.2.2.2.2.2.2.2.2.2.2.2.1
theorem dX1_hunt_61 : decode cX1_hunt 61 = .ok (.iload 4, 2) := db495.2.2.2.2.2.2.2.2.2.2.2.2.2.2.2.2.2.1
theorem dX1_hunt_63 : decode cX1_hunt 63 = .ok (.invokevirtual 51, 3) := db495.2.2.2.2.2.2.2.2.2.2.2.2.2.2.2.2.2.2.1
theorem dX1_hunt_66 : decode cX1_hunt 66 = .ok (.iinc 5 1, 3) := db495.2.2.2.2.2.2.2.2.2.2.2.2.2.2.2.2.2.2.2.1
theorem dX1_hunt_69 : decode cX1_hunt 69 = .ok (.goto (-37), 3) := db495.2.2.2.2.2.2.2.2.2.2.2.2.2.2.2.2.2.2.2.2
theorem db496 : (decode cX1_init 0 = .ok (.aload_n 0, 1)) ∧ (decode cX1_init 1 = .ok (.invokespecial 3, 3)) ∧ (decode cX1_init 4 = .ok (.aload_n 0, 1)) ∧ (decode cX1_init 5 = .ok (.bipush 98, 2)) ∧ (decode cX1_init 7 = .ok (.newarray .long, 2)) ∧ (decode cX1_init 9 = .ok (.putfield 11, 3)) ∧ (decode cX1_init 12 = .ok (.aload_n 0, 1)) ∧ (decode cX1_init 13 = .ok (.sipush 1792, 3)) ∧ (decode cX1_init 16 = .ok (.newarray .int, 2)) ∧ (decode cX1_init 18 = .ok (.putfield 15, 3)) ∧ (decode cX1_init 21 = .ok (.aload_n 0, 1)) ∧ (decode cX1_init 22 = .ok (.sipush 1792, 3)) ∧ (decode cX1_init 25 = .ok (.newarray .int, 2)) ∧ (decode cX1_init 27 = .ok (.putfield 19, 3)) ∧ (decode cX1_init 30 = .ok (.aload_n 0, 1)) ∧ (decode cX1_init 31 = .ok (.bipush 7, 2)) ∧ (decode cX1_init 33 = .ok (.newarray .int, 2)) ∧ (decode cX1_init 35 = .ok (.putfield 22, 3)) ∧ (decode cX1_init 38 = .ok (.aload_n 0, 1)) ∧ (decode cX1_init 39 = .ok (.bipush 49, 2)) ∧ (decode cX1_init 41 = .ok (.newarray .int, 2)) ∧ (decode cX1_init 43 = .ok (.putfield 25, 3)) ∧ (decode cX1_init 46 = .ok (.aload_n 0, 1)) ∧ (decode cX1_init 47 = .ok (.iconst (-1), 1)) := by decide +kernel
theorem dX1_init_0 : decode cX1_init 0 = .ok (.aload_n 0, 1) := db496.1
theorem dX1_init_1 : decode cX1_init 1 = .ok (.invokespecial 3, 3) := db496.2.1
theorem dX1_init_4 : decode cX1_init 4 = .ok (.aload_n 0, 1) := db496.2.2.1
theorem dX1_init_5 : decode cX1_init 5 = .ok (.bipush 98, 2) := db496.2.2.2.1
theorem dX1_init_7 : decode cX1_init 7 = .ok (.newarray .long, 2) := db496.2.2.2.2.1
theorem dX1_init_9 : decode cX1_init 9 = .ok (.putfield 11, 3) := db496.2.2.2.2.2.1
theorem dX1_init_12 : decode cX1_init 12 = .ok (.aload_n 0, 1) := db496.2.2.2.2.2.2.1
theorem dX1_init_13 : decode cX1_init 13 = .ok (.sipush 1792, 3) := db496.2.2.2.2.2.2.2.1
theorem dX1_init_16 : decode cX1_init 16 = .ok (.newarray .int, 2) := db496.2.2.2.2.2.2.2.2.1
theorem dX1_init_18 : decode cX1_init 18 = .ok (.putfield 15, 3) := db496.2.2.2.2.2.2.2.2.2.1
theorem dX1_init_21 : decode cX1_init 21 = .ok (.aload_n 0, 1) := db496.2.2.2.2.2.2.2.2.2.2.1
theorem dX1_init_22 : decode cX1_init 22 = .ok (.sipush 1792, 3) := db496.2.2.2.2.2.2.2.2.2.2.2.1
theorem dX1_init_25 : decode cX1_init 25 = .ok (.newarray .int, 2) := db496.2.2.2.2.2.2.2.2.2.2.2.2.1
theorem dX1_init_27 : decode cX1_init 27 = .ok (.putfield 19, 3) := db496.2.2.2.2.2.2.2.2.2.2.2.2.2.1
theorem dX1_init_30 : decode cX1_init 30 = .ok (.aload_n 0, 1) := db496.2.2.2.2.2.2.2.2.2.2.2.2.2.2.1
theorem dX1_init_31 : decode cX1_init 31 = .ok (.bipush 7, 2) := db496.2.2.2.2.2.2.2.2.2.2.2.2.2.2.2.1
theorem dX1_init_33 : decode cX1_init 33 = .ok (.newarray .int, 2) := db496.2.2.2.2.2.2.2.2.2.2.2.2.2.2.2.2.1
theorem dX1_init_35 : decode cX1_init 35 = .ok (.putfield 22, 3) := db496.2.2.2.2.2.2.2.2.2.2.2.2.2.2.2.2.2.1
theorem dX1_init_38 : decode cX1_init 38 = .ok (.aload_n 0, 1) := db496.2.2.2.2.2.2.2.2.2.2.2.2.2.2.2.2.2.2.1
theorem dX1_init_39 : decode cX1_init 39 = .ok (.bipush 49, 2) := db496.2.2.2.2.2.2.2.2.2.2.2.2.2.2.2.2.2.2.2.1
theorem dX1_init_41 : decode cX1_init 41 = .ok (.newarray .int, 2) := db496.2.2.2.2.2.2.2.2.2.2.2.2.2.2.2.2.2.2.2.2.1
theorem dX1_init_43 : decode cX1_init 43 = .ok (.putfield 25, 3) := db496.2.2.2.2.2.2.2.2.2.2.2.2.2.2.2.2.2.2.2.2.2.1
theorem dX1_init_46 : decode cX1_init 46 = .ok (.aload_n 0, 1) := db496.2.2.2.2.2.2.2.2.2.2.2.2.2.2.2.2.2.2.2.2.2.2.1
theorem dX1_init_47 : decode cX1_init 47 = .ok (.iconst (-1), 1) := db496.2.2.2.2.2.2.2.2.2.2.2.2.2.2.2.2.2.2.2.2.2.2.2
theorem db497 : (decode cX1_init 48 = .ok (.putfield 28, 3)) ∧ (decode cX1_init 51 = .ok (.return_, 1)) := by decide +kernel
theorem dX1_init_48 : decode cX1_init 48 = .ok (.putfield 28, 3) := db497.1
theorem dX1_init_51 : decode cX1_init 51 = .ok (.return_, 1) := db497.2
theorem db498 : (decode cX1_minutesToClear 0 = .ok (.aload_n 0, 1)) ∧ (decode cX1_minutesToClear 1 = .ok (.getfield 28, 3)) ∧ (decode cX1_minutesToClear 4 = .ok (.iconst (-1), 1)) ∧ (decode cX1_minutesToClear 5 = .ok (.if_icmp .ne 5, 3)) ∧ (decode cX1_minutesToClear 10 = .ok (.iconst 0, 1)) ∧ (decode cX1_minutesToClear 11 = .ok (.istore_n 1, 1)) ∧ (decode cX1_minutesToClear 12 = .ok (.aload_n 0, 1)) ∧ (decode cX1_minutesToClear 13 = .ok (.getfield 19, 3)) ∧ (decode cX1_minutesToClear 16 = .ok (.aload_n 0, 1)) ∧ (decode cX1_minutesToClear 17 = .ok (.getfield 28, 3)) ∧ (decode cX1_minutesToClear 20 = .ok (.iaload, 1)) ∧ (decode cX1_minutesToClear 21 = .ok (.istore_n 2, 1)) ∧ (decode cX1_minutesToClear 22 = .ok (.iconst 0, 1)) ∧ (decode cX1_minutesToClear 23 = .ok (.istore_n 3, 1)) ∧ (decode cX1_minutesToClear 24 = .ok (.iload_n 3, 1)) ∧ (decode cX1_minutesToClear 25 = .ok (.sipush 1792, 3)) ∧ (decode cX1_minutesToClear 28 = .ok (.if_icmp .ge 24, 3)) ∧ (decode cX1_minutesToClear 52 = .ok (.iload_n 1, 1)) ∧ (decode cX1_minutesToClear 53 = .ok (.ireturn, 1)) ∧ (decode cX1_minutesToClear 31 = .ok (.iload_n 2, 1)) ∧ (decode cX1_minutesToClear 32 = .ok (.iconst (-1), 1)) ∧ (decode cX1_minutesToClear 33 = .ok (.if_icmp .eq 19, 3)) ∧ (decode cX1_minutesToClear 36 = .ok (.iinc 1 1, 3)) ∧ (decode cX1_minutesToClear 39 = .ok (.aload_n 0, 1)) := by decide +kernel
theorem dX1_minutesToClear_0 : decode cX1_minutesToClear 0 = .ok (.aload_n 0, 1) := db498.1
theorem dX1_minutesToClear_1 : decode cX1_minutesToClear 1 = .ok (.getfield 28, 3) := db498.2.1
theorem dX1_minutesToClear_4 : decode cX1_minutesToClear 4 = .ok (.iconst (-1), 1) := db498.2.2.1
theorem dX1_minutesToClear_5 : decode cX1_minutesToClear 5 = .ok (.if_icmp .ne 5, 3) := db498.2.2.2.1
theorem dX1_minutesToClear_10 : decode cX1_minutesToClear 10 = .ok (.iconst 0, 1) := db498.2.2.2.2.1
theorem dX1_minutesToClear_11 : decode cX1_minutesToClear 11 = .ok (.istore_n 1, 1) := db498.2.2.2.2.2.1
theorem dX1_minutesToClear_12 : decode cX1_minutesToClear 12 = .ok (.aload_n 0, 1) := db498.2.2.2.2.2.2.1
theorem dX1_minutesToClear_13 : decode cX1_minutesToClear 13 = .ok (.getfield 19, 3) := db498.2.2.2.2.2.2.2.1
theorem dX1_minutesToClear_16 : decode cX1_minutesToClear 16 = .ok (.aload_n 0, 1) := db498.2.2.2.2.2.2.2.2.1
theorem dX1_minutesToClear_17 : decode cX1_minutesToClear 17 = .ok (.getfield 28, 3) := db498.2.2.2.2.2.2.2.2.2.1
theorem dX1_minutesToClear_20 : decode cX1_minutesToClear 20 = .ok (.iaload, 1) := db498.2.2.2.2.2.2.2.2.2.2.1
theorem dX1_minutesToClear_21 : decode cX1_minutesToClear 21 = .ok (.istore_n 2, 1) := db498.2.2.2.2.2.2.2.2.2.2.2.1
theorem dX1_minutesToClear_22 : decode cX1_minutesToClear 22 = .ok (.iconst 0, 1) := db498.2.2.2.2.2.2.2.2.2.2.2.2.1
theorem dX1_minutesToClear_23 : decode cX1_minutesToClear 23 = .ok (.istore_n 3, 1) := db498.2.2.2.2.2.2.2.2.2.2.2.2.2.1
theorem dX1_minutesToClear_24 : decode cX1_minutesToClear 24 = .ok (.iload_n 3, 1) := db498.2.2.2.2.2.2.2.2.2.2.2.2.2.2.1
theorem dX1_minutesToClear_25 : decode cX1_minutesToClear 25 = .ok (.sipush 1792, 3) := db498.2.2.2.2.2.2.2.2.2.2.2.2.2.2.2.1
theorem dX1_minutesToClear_28 : decode cX1_minutesToClear 28 = .ok (.if_icmp .ge 24, 3) := db498.2.2.2.2.2.2.2.2.2.2.2.2.2.2.2.2.1
theorem dX1_minutesToClear_52 : decode cX1_minutesToClear 52 = .ok (.iload_n 1, 1) := db498.2.2.2.2.2.2.2.2.2.2.2.2.2.2.2.2.2.1
theorem dX1_minutesToClear_53 : decode cX1_minutesToClear 53 = .ok (.ireturn, 1) := db498.2.2.2.2.2.2.2.2.2.2.2.2.2.2.2.2.2.2.1
theorem dX1_minutesToClear_31 : decode cX1_minutesToClear 31 = .ok (.iload_n 2, 1) := db498.2.2.2.2.2.2.2.2.2.2.2.2.2.2.2.2.2.2.2.1
theorem dX1_minutesToClear_32 : decode cX1_minutesToClear 32 = .ok (.iconst (-1), 1) := db498.2.2.2.2.2.2.2.2.2.2.2.2.2.2.2.2.2.2.2.2.1
theorem dX1_minutesToClear_33 : decode cX1_minutesToClear 33 = .ok (.if_icmp .eq 19, 3) := db498.2.2.2.2.2.2.2.2.2.2.2.2.2.2.2.2.2.2.2.2.2.1
theorem dX1_minutesToClear_36 : decode cX1_minutesToClear 36 = .ok (.iinc 1 1, 3) := db498.2.2.2.2.2.2.2.2.2.2.2.2.2.2.2.2.2.2.2.2.2.2.1
theorem dX1_minutesToClear_39 : decode cX1_minutesToClear 39 = .ok (.aload_n 0, 1) := db498.2.2.2.2.2.2.2.2.2.2.2.2.2.2.2.2.2.2.2.2.2.2.2
theorem db499 : (decode cX1_minutesToClear 40 = .ok (.getfield 19, 3)) ∧ (decode cX1_minutesToClear 43 = .ok (.iload_n 2, 1)) ∧ (decode cX1_minutesToClear 44 = .ok (.iaload, 1)) ∧ (decode cX1_minutesToClear 45 = .ok (.istore_n 2, 1)) ∧ (decode cX1_minutesToClear 46 = .ok (.iinc 3 1, 3)) ∧ (decode cX1_minutesToClear 49 = .ok (.goto (-25), 3)) ∧ (decode cX1_minutesToClear 8 = .ok (.iconst (-1), 1)) ∧ (decode cX1_minutesToClear 9 = .ok (.ireturn, 1)) := by decide +kernel
theorem dX1_minutesToClear_40 : decode cX1_minutesToClear 40 = .ok (.getfield 19, 3) := db499.1
theorem dX1_minutesToClear_43 : decode cX1_minutesToClear 43 = .ok (.iload_n 2, 1) := db499.2.1
theorem dX1_minutesToClear_44 : decode cX1_minutesToClear 44 = .ok (.iaload, 1) := db499.2.2.1
theorem dX1_minutesToClear_45 : decode cX1_minutesToClear 45 = .ok (.istore_n 2, 1) := db499.2.2.2.1
theorem dX1_minutesToClear_46 : decode cX1_minutesToClear 46 = .ok (.iinc 3 1, 3) := db499.2.2.2.2.1
theorem dX1_minutesToClear_49 : decode cX1_minutesToClear 49 = .ok (.goto (-25), 3) := db499.2.2.2.2.2.1
theorem dX1_minutesToClear_8 : decode cX1_minutesToClear 8 = .ok (.iconst (-1), 1) := db499.2.2.2.2.2.2.1
theorem dX1_minutesToClear_9 : decode cX1_minutesToClear 9 = .ok (.ireturn, 1) := db499.2.2.2.2.2.2.2
theorem db500 : (decode cX1_pairsThatCan 0 = .ok (.aload_n 0, 1)) ∧ (decode cX1_pairsThatCan 1 = .ok (.getfield 25, 3)) ∧ (decode cX1_pairsThatCan 4 = .ok (.iconst (-1), 1)) ∧ (decode cX1_pairsThatCan 5 = .ok (.invokestatic 58, 3)) ∧ (decode cX1_pairsThatCan 8 = .ok (.aload_n 0, 1)) ∧ (decode cX1_pairsThatCan 9 = .ok (.aload_n 1, 1)) ∧ (decode cX1_pairsThatCan 10 = .ok (.invokevirtual 61, 3)) ∧ (decode cX1_pairsThatCan 13 = .ok (.iconst 0, 1)) ∧ (decode cX1_pairsThatCan 14 = .ok (.istore_n 2, 1)) ∧ (decode cX1_pairsThatCan 15 = .ok (.iconst 0, 1)) ∧ (decode cX1_pairsThatCan 16 = .ok (.istore_n 3, 1)) ∧ (decode cX1_pairsThatCan 17 = .ok (.iload_n 3, 1)) ∧ (decode cX1_pairsThatCan 18 = .ok (.aload_n 1, 1)) ∧ (decode cX1_pairsThatCan 19 = .ok (.getfield 65, 3)) ∧ (decode cX1_pairsThatCan 22 = .ok (.if_icmp .ge 101, 3)) ∧ (decode cX1_pairsThatCan 123 = .ok (.iload_n 2, 1)) ∧ (decode cX1_pairsThatCan 124 = .ok (.ireturn, 1)) ∧ (decode cX1_pairsThatCan 25 = .ok (.iload_n 3, 1)) ∧ (decode cX1_pairsThatCan 26 = .ok (.istore 4, 2)) ∧ (decode cX1_pairsThatCan 28 = .ok (.iload 4, 2)) ∧ (decode cX1_pairsThatCan 30 = .ok (.aload_n 1, 1)) ∧ (decode cX1_pairsThatCan 31 = .ok (.getfield 65, 3)) ∧ (decode cX1_pairsThatCan 34 = .ok (.if_icmp .ge 83, 3)) ∧ (decode cX1_pairsThatCan 117 = .ok (.iinc 3 1, 3)) := by decide +kernel
theorem dX1_pairsThatCan_0 : decode cX1_pairsThatCan 0 = .ok (.aload_n 0, 1) := db500.1
theorem dX1_pairsThatCan_1 : decode cX1_pairsThatCan 1 = .ok (.getfield 25, 3) := db500.2.1
theorem dX1_pairsThatCan_4 : decode cX1_pairsThatCan 4 = .ok (.iconst (-1), 1) := db500.2.2.1
theorem dX1_pairsThatCan_5 : decode cX1_pairsThatCan 5 = .ok (.invokestatic 58, 3) := db500.2.2.2.1
theorem dX1_pairsThatCan_8 : decode cX1_pairsThatCan 8 = .ok (.aload_n 0, 1) := db500.2.2.2.2.1
theorem dX1_pairsThatCan_9 : decode cX1_pairsThatCan 9 = .ok (.aload_n 1, 1) := db500.2.2.2.2.2.1
theorem dX1_pairsThatCan_10 : decode cX1_pairsThatCan 10 = .ok (.invokevirtual 61, 3) := db500.2.2.2.2.2.2.1
theorem dX1_pairsThatCan_13 : decode cX1_pairsThatCan 13 = .ok (.iconst 0, 1) := db500.2.2.2.2.2.2.2.1
theorem dX1_pairsThatCan_14 : decode cX1_pairsThatCan 14 = .ok (.istore_n 2, 1) := db500.2.2.2.2.2.2.2.2.1
theorem dX1_pairsThatCan_15 : decode cX1_pairsThatCan 15 = .ok (.iconst 0, 1) := db500.2.2.2.2.2.2.2.2.2.1
theorem dX1_pairsThatCan_16 : decode cX1_pairsThatCan 16 = .ok (.istore_n 3, 1) := db500.2.2.2.2.2.2.2.2.2.2.1
theorem dX1_pairsThatCan_17 : decode cX1_pairsThatCan 17 = .ok (.iload_n 3, 1) := db500.2.2.2.2.2.2.2.2.2.2.2.1
theorem dX1_pairsThatCan_18 : decode cX1_pairsThatCan 18 = .ok (.aload_n 1, 1) := db500.2.2.2.2.2.2.2.2.2.2.2.2.1
theorem dX1_pairsThatCan_19 : decode cX1_pairsThatCan 19 = .ok (.getfield 65, 3) := db500.2.2.2.2.2.2.2.2.2.2.2.2.2.1
theorem dX1_pairsThatCan_22 : decode cX1_pairsThatCan 22 = .ok (.if_icmp .ge 101, 3) := db500.2.2.2.2.2.2.2.2.2.2.2.2.2.2.1
theorem dX1_pairsThatCan_123 : decode cX1_pairsThatCan 123 = .ok (.iload_n 2, 1) := db500.2.2.2.2.2.2.2.2.2.2.2.2.2.2.2.1
theorem dX1_pairsThatCan_124 : decode cX1_pairsThatCan 124 = .ok (.ireturn, 1) := db500.2.2.2.2.2.2.2.2.2.2.2.2.2.2.2.2.1
theorem dX1_pairsThatCan_25 : decode cX1_pairsThatCan 25 = .ok (.iload_n 3, 1) := db500.2.2.2.2.2.2.2.2.2.2.2.2.2.2.2.2.2.1
theorem dX1_pairsThatCan_26 : decode cX1_pairsThatCan 26 = .ok (.istore 4, 2) := db500.2.2.2.2.2.2.2.2.2.2.2.2.2.2.2.2.2.2.1
theorem dX1_pairsThatCan_28 : decode cX1_pairsThatCan 28 = .ok (.iload 4, 2) := db500.2.2.2.2.2.2.2.2.2.2.2.2.2.2.2.2.2.2.2.1
theorem dX1_pairsThatCan_30 : decode cX1_pairsThatCan 30 = .ok (.aload_n 1, 1) := db500.2.2.2.2.2.2.2.2.2.2.2.2.2.2.2.2.2.2.2.2.1
theorem dX1_pairsThatCan_31 : decode cX1_pairsThatCan 31 = .ok (.getfield 65, 3) := db500.2.2.2.2.2.2.2.2.2.2.2.2.2.2.2.2.2.2.2.2.2.1
theorem dX1_pairsThatCan_34 : decode cX1_pairsThatCan 34 = .ok (.if_icmp .ge 83, 3) := db500.2.2.2.2.2.2.2.2.2.2.2.2.2.2.2.2.2.2.2.2.2.2.1
theorem dX1_pairsThatCan_117 : decode cX1_pairsThatCan 117 = .ok (.iinc 3 1, 3) := db500.2.2.2.2.2.2.2.2.2.2.2.2.2.2.2.2.2.2.2.2.2.2.2
theorem db501 : (decode cX1_pairsThatCan 120 = .ok (.goto (-103), 3)) ∧ (decode cX1_pairsThatCan 37 = .ok (.aload_n 0, 1)) ∧ (decode cX1_pairsThatCan 38 = .ok (.getfield 22, 3)) ∧ (decode cX1_pairsThatCan 41 = .ok (.iload_n 3, 1)) ∧ (decode cX1_pairsThatCan 42 = .ok (.iaload, 1)) ∧ (decode cX1_pairsThatCan 43 = .ok (.bipush 7, 2)) ∧ (decode cX1_pairsThatCan 45 = .ok (.imul, 1)) ∧ (decode cX1_pairsThatCan 46 = .ok (.aload_n 0, 1)) ∧ (decode cX1_pairsThatCan 47 = .ok (.getfield 22, 3)) ∧ (decode cX1_pairsThatCan 50 = .ok (.iload 4, 2)) ∧ (decode cX1_pairsThatCan 52 = .ok (.iaload, 1)) ∧ (decode cX1_pairsThatCan 53 = .ok (.iadd, 1)) ∧ (decode cX1_pairsThatCan 54 = .ok (.istore 5, 2)) ∧ (decode cX1_pairsThatCan 56 = .ok (.aload_n 0, 1)) ∧ (decode cX1_pairsThatCan 57 = .ok (.getfield 25, 3)) ∧ (decode cX1_pairsThatCan 60 = .ok (.iload 5, 2)) ∧ (decode cX1_pairsThatCan 62 = .ok (.iaload, 1)) ∧ (decode cX1_pairsThatCan 63 = .ok (.iconst (-1), 1)) ∧ (decode cX1_pairsThatCan 101 = .ok (.iload_n 2, 1)) ∧ (decode cX1_pairsThatCan 102 = .ok (.aload_n 0, 1)) ∧ (decode cX1_pairsThatCan 103 = .ok (.getfield 25, 3)) ∧ (decode cX1_pairsThatCan 106 = .ok (.iload 5, 2)) ∧ (decode cX1_pairsThatCan 108 = .ok (.iaload, 1)) ∧ (decode cX1_pairsThatCan 109 = .ok (.iadd, 1)) := by decide +kernel
theorem dX1_pairsThatCan_120 : decode cX1_pairsThatCan 120 = .ok (.goto (-103), 3) := db501.1
theorem dX1_pairsThatCan_37 : decode cX1_pairsThatCan 37 = .ok (.aload_n 0, 1) := db501.2.1
theorem dX1_pairsThatCan_38 : decode cX1_pairsThatCan 38 = .ok (.getfield 22, 3) := db501.2.2.1
theorem dX1_pairsThatCan_41 : decode cX1_pairsThatCan 41 = .ok (.iload_n 3, 1) := db501.2.2.2.1
theorem dX1_pairsThatCan_42 : decode cX1_pairsThatCan 42 = .ok (.iaload, 1) := db501.2.2.2.2.1
theorem dX1_pairsThatCan_43 : decode cX1_pairsThatCan 43 = .ok (.bipush 7, 2) := db501.2.2.2.2.2.1
theorem dX1_pairsThatCan_45 : decode cX1_pairsThatCan 45 = .ok (.imul, 1) := db501.2.2.2.2.2.2.1
theorem dX1_pairsThatCan_46 : decode cX1_pairsThatCan 46 = .ok (.aload_n 0, 1) := db501.2.2.2.2.2.2.2.1
theorem dX1_pairsThatCan_47 : decode cX1_pairsThatCan 47 = .ok (.getfield 22, 3) := db501.2.2.2.2.2.2.2.2.1
theorem dX1_pairsThatCan_50 : decode cX1_pairsThatCan 50 = .ok (.iload 4, 2) := db501.2.2.2.2.2.2.2.2.2.1
theorem dX1_pairsThatCan_52 : decode cX1_pairsThatCan 52 = .ok (.iaload, 1) := db501.2.2.2.2.2.2.2.2.2.2.1
theorem dX1_pairsThatCan_53 : decode cX1_pairsThatCan 53 = .ok (.iadd, 1) := db501.2.2.2.2.2.2.2.2.2.2.2.1
theorem dX1_pairsThatCan_54 : decode cX1_pairsThatCan 54 = .ok (.istore 5, 2) := db501.2.2.2.2.2.2.2.2.2.2.2.2.1
theorem dX1_pairsThatCan_56 : decode cX1_pairsThatCan 56 = .ok (.aload_n 0, 1) := db501.2.2.2.2.2.2.2.2.2.2.2.2.2.1
theorem dX1_pairsThatCan_57 : decode cX1_pairsThatCan 57 = .ok (.getfield 25, 3) := db501.2.2.2.2.2.2.2.2.2.2.2.2.2.2.1
theorem dX1_pairsThatCan_60 : decode cX1_pairsThatCan 60 = .ok (.iload 5, 2) := db501.2.2.2.2.2.2.2.2.2.2.2.2.2.2.2.1
theorem dX1_pairsThatCan_62 : decode cX1_pairsThatCan 62 = .ok (.iaload, 1) := db501.2.2.2.2.2.2.2.2.2.2.2.2.2.2.2.2.1
theorem dX1_pairsThatCan_63 : decode cX1_pairsThatCan 63 = .ok (.iconst (-1), 1) := db501.2.2.2.2.2.2.2.2.2.2.2.2.2.2.2.2.2.1
theorem dX1_pairsThatCan_101 : decode cX1_pairsThatCan 101 = .ok (.iload_n 2, 1) := db501.2.2.2.2.2.2.2.2.2.2.2.2.2.2.2.2.2.2.1
theorem dX1_pairsThatCan_102 : decode cX1_pairsThatCan 102 = .ok (.aload_n 0, 1) := db501.2.2.2.2.2.2.2.2.2.2.2.2.2.2.2.2.2.2.2.1
theorem dX1_pairsThatCan_103 : decode cX1_pairsThatCan 103 = .ok (.getfield 25, 3) := db501.2.2.2.2.2.2.2.2.2.2.2.2.2.2.2.2.2.2.2.2.1
theorem dX1_pairsThatCan_106 : decode cX1_pairsThatCan 106 = .ok (.iload 5, 2) := db501.2.2.2.2.2.2.2.2.2.2.2.2.2.2.2.2.2.2.2.2.2.1
theorem dX1_pairsThatCan_108 : decode cX1_pairsThatCan 108 = .ok (.iaload, 1) := db501.2.2.2.2.2.2.2.2.2.2.2.2.2.2.2.2.2.2.2.2.2.2.1
theorem dX1_pairsThatCan_109 : decode cX1_pairsThatCan 109 = .ok (.iadd, 1) := db501.2.2.2.2.2.2.2.2.2.2.2.2.2.2.2.2.2.2.2.2.2.2.2
theorem db502 : (decode cX1_pairsThatCan 110 = .ok (.istore_n 2, 1)) ∧ (decode cX1_pairsThatCan 111 = .ok (.iinc 4 1, 3)) ∧ (decode cX1_pairsThatCan 114 = .ok (.goto (-86), 3)) ∧ (decode cX1_pairsThatCan 64 = .ok (.if_icmp .ne 37, 3)) ∧ (decode cX1_pairsThatCan 67 = .ok (.aload_n 0, 1)) ∧ (decode cX1_pairsThatCan 68 = .ok (.getfield 25, 3)) ∧ (decode cX1_pairsThatCan 71 = .ok (.iload 5, 2)) ∧ (decode cX1_pairsThatCan 73 = .ok (.aload_n 0, 1)) ∧ (decode cX1_pairsThatCan 74 = .ok (.aload_n 1, 1)) ∧ (decode cX1_pairsThatCan 75 = .ok (.aload_n 0, 1)) ∧ (decode cX1_pairsThatCan 76 = .ok (.getfield 22, 3)) ∧ (decode cX1_pairsThatCan 79 = .ok (.iload_n 3, 1)) ∧ (decode cX1_pairsThatCan 80 = .ok (.iaload, 1)) ∧ (decode cX1_pairsThatCan 81 = .ok (.aload_n 0, 1)) ∧ (decode cX1_pairsThatCan 82 = .ok (.getfield 22, 3)) ∧ (decode cX1_pairsThatCan 85 = .ok (.iload 4, 2)) ∧ (decode cX1_pairsThatCan 87 = .ok (.iaload, 1)) ∧ (decode cX1_pairsThatCan 88 = .ok (.iconst 0, 1)) ∧ (decode cX1_pairsThatCan 89 = .ok (.invokevirtual 68, 3)) ∧ (decode cX1_pairsThatCan 100 = .ok (.iastore, 1)) ∧ (decode cX1_pairsThatCan 92 = .ok (.ifCond .eq 7, 3)) ∧ (decode cX1_pairsThatCan 99 = .ok (.iconst 0, 1)) ∧ (decode cX1_pairsThatCan 95 = .ok (.iconst 1, 1)) ∧ (decode cX1_pairsThatCan 96 = .ok (.goto 4, 3)) := by decide +kernel
theorem dX1_pairsThatCan_110 : decode cX1_pairsThatCan 110 = .ok (.istore_n 2, 1) := db502.1
theorem dX1_pairsThatCan_111 : decode cX1_pairsThatCan 111 = .ok (.iinc 4 1, 3) := db502.2.1
theorem dX1_pairsThatCan_114 : decode cX1_pairsThatCan 114 = .ok (.goto (-86), 3) := db502.2.2.1
theorem dX1_pairsThatCan_64 : decode cX1_pairsThatCan 64 = .ok (.if_icmp .ne 37, 3) := db502.2.2.2.1
theorem dX1_pairsThatCan_67 : decode cX1_pairsThatCan 67 = .ok (.aload_n 0, 1) := db502.2.2.2.2.1
theorem dX1_pairsThatCan_68 : decode cX1_pairsThatCan 68 = .ok (.getfield 25, 3) := db502.2.2.2.2.2.1
theorem dX1_pairsThatCan_71 : decode cX1_pairsThatCan 71 = .ok (.iload 5, 2) := db502.2.2.2.2.2.2.1
theorem dX1_pairsThatCan_73 : decode cX1_pairsThatCan 73 = .ok (.aload_n 0, 1) := db502.2.2.2.2.2.2.2.1
theorem dX1_pairsThatCan_74 : decode cX1_pairsThatCan 74 = .ok (.aload_n 1, 1) := db502.2.2.2.2.2.2.2.2.1
theorem dX1_pairsThatCan_75 : decode cX1_pairsThatCan 75 = .ok (.aload_n 0, 1) := db502.2.2.2.2.2.2.2.2.2.1
theorem dX1_pairsThatCan_76 : decode cX1_pairsThatCan 76 = .ok (.getfield 22, 3) := db502.2.2.2.2.2.2.2.2.2.2.1
theorem dX1_pairsThatCan_79 : decode cX1_pairsThatCan 79 = .ok (.iload_n 3, 1) := db502.2.2.2.2.2.2.2.2.2.2.2.1
theorem dX1_pairsThatCan_80 : decode cX1_pairsThatCan 80 = .ok (.iaload, 1) := db502.2.2.2.2.2.2.2.2.2.2.2.2.1
theorem dX1_pairsThatCan_81 : decode cX1_pairsThatCan 81 = .ok (.aload_n 0, 1) := db502.2.2.2.2.2.2.2.2.2.2.2.2.2.1
theorem dX1_pairsThatCan_82 : decode cX1_pairsThatCan 82 = .ok (.getfield 22, 3) := db502.2.2.2.2.2.2.2.2.2.2.2.2.2.2.1
theorem dX1_pairsThatCan_85 : decode cX1_pairsThatCan 85 = .ok (.iload 4, 2) := db502.2.2.2.2.2.2.2.2.2.2.2.2.2.2.2.1
theorem dX1_pairsThatCan_87 : decode cX1_pairsThatCan 87 = .ok (.iaload, 1) := db502.2.2.2.2.2.2.2.2.2.2.2.2.2.2.2.2.1
theorem dX1_pairsThatCan_88 : decode cX1_pairsThatCan 88 = .ok (.iconst 0, 1) := db502.2.2.2.2.2.2.2.2.2.2.2.2.2.2.2.2.2.1
theorem dX1_pairsThatCan_89 : decode cX1_pairsThatCan 89 = .ok (.invokevirtual 68, 3) := db502.2.2.2.2.2.2.2.2.2.2.2.2.2.2.2.2.2.2.1
theorem dX1_pairsThatCan_100 : decode cX1_pairsThatCan 100 = .ok (.iastore, 1) := db502.2.2.2.2.2.2.2.2.2.2.2.2.2.2.2.2.2.2.2.1
theorem dX1_pairsThatCan_92 : decode cX1_pairsThatCan 92 = .ok (.ifCond .eq 7, 3) := db502.2.2.2.2.2.2.2.2.2.2.2.2.2.2.2.2.2.2.2.2.1
theorem dX1_pairsThatCan_99 : decode cX1_pairsThatCan 99 = .ok (.iconst 0, 1) := db502.2.2.2.2.2.2.2.2.2.2.2.2.2.2.2.2.2.2.2.2.2.1
theorem dX1_pairsThatCan_95 : decode cX1_pairsThatCan 95 = .ok (.iconst 1, 1) := db502.2.2.2.2.2.2.2.2.2.2.2.2.2.2.2.2.2.2.2.2.2.2.1
theorem dX1_pairsThatCan_96 : decode cX1_pairsThatCan 96 = .ok (.goto 4, 3) := db502.2.2.2.2.2.2.2.2.2.2.2.2.2.2.2.2.2.2.2.2.2.2.2
theorem db503 : (decode cX1_placeOf 0 = .ok (.aload_n 0, 1)) ∧ (decode cX1_placeOf 1 = .ok (.invokevirtual 55, 3)) ∧ (decode cX1_placeOf 4 = .ok (.istore_n 3, 1)) ∧ (decode cX1_placeOf 5 = .ok (.iload_n 2, 1)) ∧ (decode cX1_placeOf 6 = .ok (.ifCond .lt 8, 3)) ∧ (decode cX1_placeOf 14 = .ok (.iconst (-1), 1)) ∧ (decode cX1_placeOf 15 = .ok (.ireturn, 1)) ∧ (decode cX1_placeOf 9 = .ok (.iload_n 2, 1)) ∧ (decode cX1_placeOf 10 = .ok (.iload_n 3, 1)) ∧ (decode cX1_placeOf 11 = .ok (.if_icmp .lt 5, 3)) ∧ (decode cX1_placeOf 16 = .ok (.aload_n 0, 1)) ∧ (decode cX1_placeOf 17 = .ok (.getfield 28, 3)) ∧ (decode cX1_placeOf 20 = .ok (.istore 4, 2)) ∧ (decode cX1_placeOf 22 = .ok (.iload_n 3, 1)) ∧ (decode cX1_placeOf 23 = .ok (.iconst 1, 1)) ∧ (decode cX1_placeOf 24 = .ok (.isub, 1)) ∧ (decode cX1_placeOf 25 = .ok (.istore 5, 2)) ∧ (decode cX1_placeOf 27 = .ok (.iload 5, 2)) ∧ (decode cX1_placeOf 29 = .ok (.iload_n 2, 1)) ∧ (decode cX1_placeOf 59 = .ok (.aload_n 0, 1)) ∧ (decode cX1_placeOf 60 = .ok (.getfield 15, 3)) ∧ (decode cX1_placeOf 63 = .ok (.iload 4, 2)) ∧ (decode cX1_placeOf 65 = .ok (.iaload, 1)) ∧ (decode cX1_placeOf 66 = .ok (.sipush 128, 3)) := by decide +kernel
theorem dX1_placeOf_0 : decode cX1_placeOf 0 = .ok (.aload_n 0, 1) := db503.1
theorem dX1_placeOf_1 : decode cX1_placeOf 1 = .ok (.invokevirtual 55, 3) := db503.2.1
theorem dX1_placeOf_4 : decode cX1_placeOf 4 = .ok (.istore_n 3, 1) := db503.2.2.1
theorem dX1_placeOf_5 : decode cX1_placeOf 5 = .ok (.iload_n 2, 1) := db503.2.2.2.1
theorem dX1_placeOf_6 : decode cX1_placeOf 6 = .ok (.ifCond .lt 8, 3) := db503.2.2.2.2.1
theorem dX1_placeOf_14 : decode cX1_placeOf 14 = .ok (.iconst (-1), 1) := db503.2.2.2.2.2.1
theorem dX1_placeOf_15 : decode cX1_placeOf 15 = .ok (.ireturn, 1) := db503.2.2.2.2.2.2.1
theorem dX1_placeOf_9 : decode cX1_placeOf 9 = .ok (.iload_n 2, 1) := db503.2.2.2.2.2.2.2.1
theorem dX1_placeOf_10 : decode cX1_placeOf 10 = .ok (.iload_n 3, 1) := db503.2.2.2.2.2.2.2.2.1
theorem dX1_placeOf_11 : decode cX1_placeOf 11 = .ok (.if_icmp .lt 5, 3) := db503.2.2.2.2.2.2.2.2.2.1
theorem dX1_placeOf_16 : decode cX1_placeOf 16 = .ok (.aload_n 0, 1) := db503.2.2.2.2.2.2.2.2.2.2.1
theorem dX1_placeOf_17 : decode cX1_placeOf 17 = .ok (.getfield 28, 3) := db503.2.2.2.2.2.2.2.2.2.2.2.1
theorem dX1_placeOf_20 : decode cX1_placeOf 20 = .ok (.istore 4, 2) := db503.2.2.2.2.2.2.2.2.2.2.2.2.1
theorem dX1_placeOf_22 : decode cX1_placeOf 22 = .ok (.iload_n 3, 1) := db503.2.2.2.2.2.2.2.2.2.2.2.2.2.1
theorem dX1_placeOf_23 : decode cX1_placeOf 23 = .ok (.iconst 1, 1) := db503.2.2.2.2.2.2.2.2.2.2.2.2.2.2.1
theorem dX1_placeOf_24 : decode cX1_placeOf 24 = .ok (.isub, 1) := db503.2.2.2.2.2.2.2.2.2.2.2.2.2.2.2.1
theorem dX1_placeOf_25 : decode cX1_placeOf 25 = .ok (.istore 5, 2) := db503.2.2.2.2.2.2.2.2.2.2.2.2.2.2.2.2.1
theorem dX1_placeOf_27 : decode cX1_placeOf 27 = .ok (.iload 5, 2) := db503.2.2.2.2.2.2.2.2.2.2.2.2.2.2.2.2.2.1
theorem dX1_placeOf_29 : decode cX1_placeOf 29 = .ok (.iload_n 2, 1) := db503.2.2.2.2.2.2.2.2.2.2.2.2.2.2.2.2.2.2.1
theorem dX1_placeOf_59 : decode cX1_placeOf 59 = .ok (.aload_n 0, 1) := db503.2.2.2.2.2.2.2.2.2.2.2.2.2.2.2.2.2.2.2.1
theorem dX1_placeOf_60 : decode cX1_placeOf 60 = .ok (.getfield 15, 3) := db503.2.2.2.2.2.2.2.2.2.2.2.2.2.2.2.2.2.2.2.2.1
theorem dX1_placeOf_63 : decode cX1_placeOf 63 = .ok (.iload 4, 2) := db503.2.2.2.2.2.2.2.2.2.2.2.2.2.2.2.2.2.2.2.2.2.1
theorem dX1_placeOf_65 : decode cX1_placeOf 65 = .ok (.iaload, 1) := db503.2.2.2.2.2.2.2.2.2.2.2.2.2.2.2.2.2.2.2.2.2.2.1
theorem dX1_placeOf_66 : decode cX1_placeOf 66 = .ok (.sipush 128, 3) := db503.2.2.2.2.2.2.2.2.2.2.2.2.2.2.2.2.2.2.2.2.2.2.2
theorem db504 : (decode cX1_placeOf 69 = .ok (.idiv, 1)) ∧ (decode cX1_placeOf 70 = .ok (.istore 5, 2)) ∧ (decode cX1_placeOf 72 = .ok (.iload_n 1, 1)) ∧ (decode cX1_placeOf 73 = .ok (.ifCond .ne 11, 3)) ∧ (decode cX1_placeOf 84 = .ok (.iload 5, 2)) ∧ (decode cX1_placeOf 86 = .ok (.bipush 7, 2)) ∧ (decode cX1_placeOf 88 = .ok (.irem, 1)) ∧ (decode cX1_placeOf 89 = .ok (.ireturn, 1)) ∧ (decode cX1_placeOf 76 = .ok (.iload 5, 2)) ∧ (decode cX1_placeOf 78 = .ok (.bipush 7, 2)) ∧ (decode cX1_placeOf 80 = .ok (.idiv, 1)) ∧ (decode cX1_placeOf 81 = .ok (.goto 8, 3)) ∧ (decode cX1_placeOf 30 = .ok (.if_icmp .le 29, 3)) ∧ (decode cX1_placeOf 33 = .ok (.aload_n 0, 1)) ∧ (decode cX1_placeOf 34 = .ok (.getfield 19, 3)) ∧ (decode cX1_placeOf 37 = .ok (.iload 4, 2)) ∧ (decode cX1_placeOf 39 = .ok (.iaload, 1)) ∧ (decode cX1_placeOf 40 = .ok (.iconst (-1), 1)) ∧ (decode cX1_placeOf 41 = .ok (.if_icmp .eq 18, 3)) ∧ (decode cX1_placeOf 44 = .ok (.aload_n 0, 1)) ∧ (decode cX1_placeOf 45 = .ok (.getfield 19, 3)) ∧ (decode cX1_placeOf 48 = .ok (.iload 4, 2)) ∧ (decode cX1_placeOf 50 = .ok (.iaload, 1)) ∧ (decode cX1_placeOf 51 = .ok (.istore 4, 2)) := by decide +kernel
theorem dX1_placeOf_69 : decode cX1_placeOf 69 = .ok (.idiv, 1) := db504.1
theorem dX1_placeOf_70 : decode cX1_placeOf 70 = .ok (.istore 5, 2) := db504.2.1
theorem dX1_placeOf_72 : decode cX1_placeOf 72 = .ok (.iload_n 1, 1) := db504.2.2.1
theorem dX1_placeOf_73 : decode cX1_placeOf 73 = .ok (.ifCond .ne 11, 3) := db504.2.2.2.1
theorem dX1_placeOf_84 : decode cX1_placeOf 84 = .ok (.iload 5, 2) := db504.2.2.2.2.1
theorem dX1_placeOf_86 : decode cX1_placeOf 86 = .ok (.bipush 7, 2) := db504.2.2.2.2.2.1
theorem dX1_placeOf_88 : decode cX1_placeOf 88 = .ok (.irem, 1) := db504.2.2.2.2.2.2.1
theorem dX1_placeOf_89 : decode cX1_placeOf 89 = .ok (.ireturn, 1) := db504.2.2.2.2.2.2.2.1
theorem dX1_placeOf_76 : decode cX1_placeOf 76 = .ok (.iload 5, 2) := db504.2.2.2.2.2.2.2.2.1
theorem dX1_placeOf_78 : decode cX1_placeOf 78 = .ok (.bipush 7, 2) := db504.2.2.2.2.2.2.2.2.2.1
theorem dX1_placeOf_80 : decode cX1_placeOf 80 = .ok (.idiv, 1) := db504.2.2.2.2.2.2.2.2.2.2.1
theorem dX1_placeOf_81 : decode cX1_placeOf 81 = .ok (.goto 8, 3) := db504.2.2.2.2.2.2.2.2.2.2.2.1
theorem dX1_placeOf_30 : decode cX1_placeOf 30 = .ok (.if_icmp .le 29, 3) := db504.2.2.2.2.2.2.2.2.2.2.2.2.1
theorem dX1_placeOf_33 : decode cX1_placeOf 33 = .ok (.aload_n 0, 1) := db504.2.2.2.2.2.2.2.2.2.2.2.2.2.1
theorem dX1_placeOf_34 : decode cX1_placeOf 34 = .ok (.getfield 19, 3) := db504.2.2.2.2.2.2.2.2.2.2.2.2.2.2.1
theorem dX1_placeOf_37 : decode cX1_placeOf 37 = .ok (.iload 4, 2) := db504.2.2.2.2.2.2.2.2.2.2.2.2.2.2.2.1
theorem dX1_placeOf_39 : decode cX1_placeOf 39 = .ok (.iaload, 1) := db504.2.2.2.2.2.2.2.2.2.2.2.2.2.2.2.2.1
theorem dX1_placeOf_40 : decode cX1_placeOf 40 = .ok (.iconst (-1), 1) := db504.2.2.2.2.2.2.2.2.2.2.2.2.2.2.2.2.2.1
theorem dX1_placeOf_41 : decode cX1_placeOf 41 = .ok (.if_icmp .eq 18, 3) := db504.2.2.2.2.2.2.2.2.2.2.2.2.2.2.2.2.2.2.1
theorem dX1_placeOf_44 : decode cX1_placeOf 44 = .ok (.aload_n 0, 1) := db504.2.2.2.2.2.2.2.2.2.2.2.2.2.2.2.2.2.2.2.1
theorem dX1_placeOf_45 : decode cX1_placeOf 45 = .ok (.getfield 19, 3) := db504.2.2.2.2.2.2.2.2.2.2.2.2.2.2.2.2.2.2.2.2.1
theorem dX1_placeOf_48 : decode cX1_placeOf 48 = .ok (.iload 4, 2) := db504.2.2.2.2.2.2.2.2.2.2.2.2.2.2.2.2.2.2.2.2.2.1
theorem dX1_placeOf_50 : decode cX1_placeOf 50 = .ok (.iaload, 1) := db504.2.2.2.2.2.2.2.2.2.2.2.2.2.2.2.2.2.2.2.2.2.2.1
theorem dX1_placeOf_51 : decode cX1_placeOf 51 = .ok (.istore 4, 2) := db504.2.2.2.2.2.2.2.2.2.2.2.2.2.2.2.2.2.2.2.2.2.2.2
theorem db505 : (decode cX1_placeOf 53 = .ok (.iinc 5 (-1), 3)) ∧ (decode cX1_placeOf 56 = .ok (.goto (-29), 3)) := by decide +kernel
theorem dX1_placeOf_53 : decode cX1_placeOf 53 = .ok (.iinc 5 (-1), 3) := db505.1
theorem dX1_placeOf_56 : decode cX1_placeOf 56 = .ok (.goto (-29), 3) := db505.2
theorem db506 : (decode cX1_reach 0 = .ok (.iload_n 3, 1)) ∧ (decode cX1_reach 1 = .ok (.iconst 1, 1)) ∧ (decode cX1_reach 2 = .ok (.iload_n 1, 1)) ∧ (decode cX1_reach 3 = .ok (.ishl, 1)) ∧ (decode cX1_reach 4 = .ok (.iconst 1, 1)) ∧ (decode cX1_reach 5 = .ok (.iload_n 2, 1)) ∧ (decode cX1_reach 6 = .ok (.ishl, 1)) ∧ (decode cX1_reach 7 = .ok (.ior, 1)) ∧ (decode cX1_reach 8 = .ok (.iconst (-1), 1)) ∧ (decode cX1_reach 9 = .ok (.ixor, 1)) ∧ (decode cX1_reach 10 = .ok (.iand, 1)) ∧ (decode cX1_reach 11 = .ok (.istore 5, 2)) ∧ (decode cX1_reach 13 = .ok (.iload_n 1, 1)) ∧ (decode cX1_reach 14 = .ok (.bipush 7, 2)) ∧ (decode cX1_reach 16 = .ok (.imul, 1)) ∧ (decode cX1_reach 17 = .ok (.iload_n 2, 1)) ∧ (decode cX1_reach 18 = .ok (.iadd, 1)) ∧ (decode cX1_reach 19 = .ok (.istore 6, 2)) ∧ (decode cX1_reach 21 = .ok (.lconst 1, 1)) ∧ (decode cX1_reach 22 = .ok (.iload 5, 2)) ∧ (decode cX1_reach 24 = .ok (.bipush 63, 2)) ∧ (decode cX1_reach 26 = .ok (.iand, 1)) ∧ (decode cX1_reach 27 = .ok (.lshl, 1)) ∧ (decode cX1_reach 28 = .ok (.lstore 7, 2)) := by decide +kernel
theorem dX1_reach_0 : decode cX1_reach 0 = .ok (.iload_n 3, 1) := db506.1
theorem dX1_reach_1 : decode cX1_reach 1 = .ok (.iconst 1, 1) := db506.2.1
theorem dX1_reach_2 : decode cX1_reach 2 = .ok (.iload_n 1, 1) := db506.2.2.1
theorem dX1_reach_3 : decode cX1_reach 3 = .ok (.ishl, 1) := db506.2.2.2.1
theorem dX1_reach_4 : decode cX1_reach 4 = .ok (.iconst 1, 1) := db506.2.2.2.2.1
theorem dX1_reach_5 : decode cX1_reach 5 = .ok (.iload_n 2, 1) := db506.2.2.2.2.2.1
theorem dX1_reach_6 : decode cX1_reach 6 = .ok (.ishl, 1) := db506.2.2.2.2.2.2.1
theorem dX1_reach_7 : decode cX1_reach 7 = .ok (.ior, 1) := db506.2.2.2.2.2.2.2.1
theorem dX1_reach_8 : decode cX1_reach 8 = .ok (.iconst (-1), 1) := db506.2.2.2.2.2.2.2.2.1
theorem dX1_reach_9 : decode cX1_reach 9 = .ok (.ixor, 1) := db506.2.2.2.2.2.2.2.2.2.1
theorem dX1_reach_10 : decode cX1_reach 10 = .ok (.iand, 1) := db506.2.2.2.2.2.2.2.2.2.2.1
theorem dX1_reach_11 : decode cX1_reach 11 = .ok (.istore 5, 2) := db506.2.2.2.2.2.2.2.2.2.2.2.1
theorem dX1_reach_13 : decode cX1_reach 13 = .ok (.iload_n 1, 1) := db506.2.2.2.2.2.2.2.2.2.2.2.2.1
theorem dX1_reach_14 : decode cX1_reach 14 = .ok (.bipush 7, 2) := db506.2.2.2.2.2.2.2.2.2.2.2.2.2.1
theorem dX1_reach_16 : decode cX1_reach 16 = .ok (.imul, 1) := db506.2.2.2.2.2.2.2.2.2.2.2.2.2.2.1
theorem dX1_reach_17 : decode cX1_reach 17 = .ok (.iload_n 2, 1) := db506.2.2.2.2.2.2.2.2.2.2.2.2.2.2.2.1
theorem dX1_reach_18 : decode cX1_reach 18 = .ok (.iadd, 1) := db506.2.2.2.2.2.2.2.2.2.2.2.2.2.2.2.2.1
theorem dX1_reach_19 : decode cX1_reach 19 = .ok (.istore 6, 2) := db506.2.2.2.2.2.2.2.2.2.2.2.2.2.2.2.2.2.1
theorem dX1_reach_21 : decode cX1_reach 21 = .ok (.lconst 1, 1) := db506.2.2.2.2.2.2.2.2.2.2.2.2.2.2.2.2.2.2.1
theorem dX1_reach_22 : decode cX1_reach 22 = .ok (.iload 5, 2) := db506.2.2.2.2.2.2.2.2.2.2.2.2.2.2.2.2.2.2.2.1
theorem dX1_reach_24 : decode cX1_reach 24 = .ok (.bipush 63, 2) := db506.2.2.2.2.2.2.2.2.2.2.2.2.2.2.2.2.2.2.2.2.1
theorem dX1_reach_26 : decode cX1_reach 26 = .ok (.iand, 1) := db506.2.2.2.2.2.2.2.2.2.2.2.2.2.2.2.2.2.2.2.2.2.1
theorem dX1_reach_27 : decode cX1_reach 27 = .ok (.lshl, 1) := db506.2.2.2.2.2.2.2.2.2.2.2.2.2.2.2.2.2.2.2.2.2.2.1
theorem dX1_reach_28 : decode cX1_reach 28 = .ok (.lstore 7, 2) := db506.2.2.2.2.2.2.2.2.2.2.2.2.2.2.2.2.2.2.2.2.2.2.2
theorem db507 : (decode cX1_reach 30 = .ok (.iconst 2, 1)) ∧ (decode cX1_reach 31 = .ok (.iload 6, 2)) ∧ (decode cX1_reach 33 = .ok (.imul, 1)) ∧ (decode cX1_reach 34 = .ok (.iload 5, 2)) ∧ (decode cX1_reach 36 = .ok (.bipush 6, 2)) ∧ (decode cX1_reach 38 = .ok (.ishr, 1)) ∧ (decode cX1_reach 39 = .ok (.iadd, 1)) ∧ (decode cX1_reach 40 = .ok (.istore 9, 2)) ∧ (decode cX1_reach 42 = .ok (.aload_n 0, 1)) ∧ (decode cX1_reach 43 = .ok (.getfield 38, 3)) ∧ (decode cX1_reach 46 = .ok (.sipush 1792, 3)) ∧ (decode cX1_reach 49 = .ok (.if_icmp .ge 18, 3)) ∧ (decode cX1_reach 67 = .ok (.return_, 1)) ∧ (decode cX1_reach 52 = .ok (.aload_n 0, 1)) ∧ (decode cX1_reach 53 = .ok (.getfield 11, 3)) ∧ (decode cX1_reach 56 = .ok (.iload 9, 2)) ∧ (decode cX1_reach 58 = .ok (.laload, 1)) ∧ (decode cX1_reach 59 = .ok (.lload 7, 2)) ∧ (decode cX1_reach 61 = .ok (.land, 1)) ∧ (decode cX1_reach 62 = .ok (.lconst 0, 1)) ∧ (decode cX1_reach 63 = .ok (.lcmp, 1)) ∧ (decode cX1_reach 64 = .ok (.ifCond .eq 4, 3)) ∧ (decode cX1_reach 68 = .ok (.aload_n 0, 1)) ∧ (decode cX1_reach 69 = .ok (.getfield 11, 3)) := by decide +kernel
theorem dX1_reach_30 : decode cX1_reach 30 = .ok (.iconst 2, 1) := db507.1
theorem dX1_reach_31 : decode cX1_reach 31 = .ok (.iload 6, 2) := db507.2.1
theorem dX1_reach_33 : decode cX1_reach 33 = .ok (.imul, 1) := db507.2.2.1
theorem dX1_reach_34 : decode cX1_reach 34 = .ok (.iload 5, 2) := db507.2.2.2.1
theorem dX1_reach_36 : decode cX1_reach 36 = .ok (.bipush 6, 2) := db507.2.2.2.2.1
theorem dX1_reach_38 : decode cX1_reach 38 = .ok (.ishr, 1) := db507.2.2.2.2.2.1
theorem dX1_reach_39 : decode cX1_reach 39 = .ok (.iadd, 1) := db507.2.2.2.2.2.2.1
theorem dX1_reach_40 : decode cX1_reach 40 = .ok (.istore 9, 2) := db507.2.2.2.2.2.2.2.1
theorem dX1_reach_42 : decode cX1_reach 42 = .ok (.aload_n 0, 1) := db507.2.2.2.2.2.2.2.2.1
theorem dX1_reach_43 : decode cX1_reach 43 = .ok (.getfield 38, 3) := db507.2.2.2.2.2.2.2.2.2.1
theorem dX1_reach_46 : decode cX1_reach 46 = .ok (.sipush 1792, 3) := db507.2.2.2.2.2.2.2.2.2.2.1
theorem dX1_reach_49 : decode cX1_reach 49 = .ok (.if_icmp .ge 18, 3) := db507.2.2.2.2.2.2.2.2.2.2.2.1
theorem dX1_reach_67 : decode cX1_reach 67 = .ok (.return_, 1) := db507.2.2.2.2.2.2.2.2.2.2.2.2.1
theorem dX1_reach_52 : decode cX1_reach 52 = .ok (.aload_n 0, 1) := db507.2.2.2.2.2.2.2.2.2.2.2.2.2.1
theorem dX1_reach_53 : decode cX1_reach 53 = .ok (.getfield 11, 3) := db507.2.2.2.2.2.2.2.2.2.2.2.2.2.2.1
theorem dX1_reach_56 : decode cX1_reach 56 = .ok (.iload 9, 2) := db507.2.2.2.2.2.2.2.2.2.2.2.2.2.2.2.1
theorem dX1_reach_58 : decode cX1_reach 58 = .ok (.laload, 1) := db507.2.2.2.2.2.2.2.2.2.2.2.2.2.2.2.2.1
theorem dX1_reach_59 : decode cX1_reach 59 = .ok (.lload 7, 2) := db507.2.2.2.2.2.2.2.2.2.2.2.2.2.2.2.2.2.1
theorem dX1_reach_61 : decode cX1_reach 61 = .ok (.land, 1) := db507.2.2.2.2.2.2.2.2.2.2.2.2.2.2.2.2.2.2.1
theorem dX1_reach_62 : decode cX1_reach 62 = .ok (.lconst 0, 1) := db507.2.2.2.2.2.2.2.2.2.2.2.2.2.2.2.2.2.2.2.1
theorem dX1_reach_63 : decode cX1_reach 63 = .ok (.lcmp, 1) := db507.2.2.2.2.2.2.2.2.2.2.2.2.2.2.2.2.2.2.2.2.1
theorem dX1_reach_64 : decode cX1_reach 64 = .ok (.ifCond .eq 4, 3) := db507.2.2.2.2.2.2.2.2.2.2.2.2.2.2.2.2.2.2.2.2.2.1
theorem dX1_reach_68 : decode cX1_reach 68 = .ok (.aload_n 0, 1) := db507.2.2.2.2.2.2.2.2.2.2.2.2.2.2.2.2.2.2.2.2.2.2.1
theorem dX1_reach_69 : decode cX1_reach 69 = .ok (.getfield 11, 3) := db507.2.2.2.2.2.2.2.2.2.2.2.2.2.2.2.2.2.2.2.2.2.2.2
theorem db508 : (decode cX1_reach 72 = .ok (.iload 9, 2)) ∧ (decode cX1_reach 74 = .ok (.dup2, 1)) ∧ (decode cX1_reach 75 = .ok (.laload, 1)) ∧ (decode cX1_reach 76 = .ok (.lload 7, 2)) ∧ (decode cX1_reach 78 = .ok (.lor, 1)) ∧ (decode cX1_reach 79 = .ok (.lastore, 1)) ∧ (decode cX1_reach 80 = .ok (.aload_n 0, 1)) ∧ (decode cX1_reach 81 = .ok (.getfield 15, 3)) ∧ (decode cX1_reach 84 = .ok (.aload_n 0, 1)) ∧ (decode cX1_reach 85 = .ok (.getfield 38, 3)) ∧ (decode cX1_reach 88 = .ok (.iload 6, 2)) ∧ (decode cX1_reach 90 = .ok (.sipush 128, 3)) ∧ (decode cX1_reach 93 = .ok (.imul, 1)) ∧ (decode cX1_reach 94 = .ok (.iload 5, 2)) ∧ (decode cX1_reach 96 = .ok (.iadd, 1)) ∧ (decode cX1_reach 97 = .ok (.iastore, 1)) ∧ (decode cX1_reach 98 = .ok (.aload_n 0, 1)) ∧ (decode cX1_reach 99 = .ok (.getfield 19, 3)) ∧ (decode cX1_reach 102 = .ok (.aload_n 0, 1)) ∧ (decode cX1_reach 103 = .ok (.getfield 38, 3)) ∧ (decode cX1_reach 106 = .ok (.iload 4, 2)) ∧ (decode cX1_reach 108 = .ok (.iastore, 1)) ∧ (decode cX1_reach 109 = .ok (.iload 5, 2)) ∧ (decode cX1_reach 130 = .ok (.aload_n 0, 1)) := by decide +kernel
theorem dX1_reach_72 : decode cX1_reach 72 = .ok (.iload 9, 2) := db508.1
theorem dX1_reach_74 : decode cX1_reach 74 = .ok (.dup2, 1) := db508.2.1
theorem dX1_reach_75 : decode cX1_reach 75 = .ok (.laload, 1) := db508.2.2.1
theorem dX1_reach_76 : decode cX1_reach 76 = .ok (.lload 7, 2) := db508.2.2.2.1
theorem dX1_reach_78 : decode cX1_reach 78 = .ok (.lor, 1) := db508.2.2.2.2.1
theorem dX1_reach_79 : decode cX1_reach 79 = .ok (.lastore, 1) := db508.2.2.2.2.2.1
theorem dX1_reach_80 : decode cX1_reach 80 = .ok (.aload_n 0, 1) := db508.2.2.2.2.2.2.1
theorem dX1_reach_81 : decode cX1_reach 81 = .ok (.getfield 15, 3) := db508.2.2.2.2.2.2.2.1
theorem dX1_reach_84 : decode cX1_reach 84 = .ok (.aload_n 0, 1) := db508.2.2.2.2.2.2.2.2.1
theorem dX1_reach_85 : decode cX1_reach 85 = .ok (.getfield 38, 3) := db508.2.2.2.2.2.2.2.2.2.1
theorem dX1_reach_88 : decode cX1_reach 88 = .ok (.iload 6, 2) := db508.2.2.2.2.2.2.2.2.2.2.1
theorem dX1_reach_90 : decode cX1_reach 90 = .ok (.sipush 128, 3) := db508.2.2.2.2.2.2.2.2.2.2.2.1
theorem dX1_reach_93 : decode cX1_reach 93 = .ok (.imul, 1) := db508.2.2.2.2.2.2.2.2.2.2.2.2.1
theorem dX1_reach_94 : decode cX1_reach 94 = .ok (.iload 5, 2) := db508.2.2.2.2.2.2.2.2.2.2.2.2.2.1
theorem dX1_reach_96 : decode cX1_reach 96 = .ok (.iadd, 1) := db508.2.2.2.2.2.2.2.2.2.2.2.2.2.2.1
theorem dX1_reach_97 : decode cX1_reach 97 = .ok (.iastore, 1) := db508.2.2.2.2.2.2.2.2.2.2.2.2.2.2.2.1
theorem dX1_reach_98 : decode cX1_reach 98 = .ok (.aload_n 0, 1) := db508.2.2.2.2.2.2.2.2.2.2.2.2.2.2.2.2.1
theorem dX1_reach_99 : decode cX1_reach 99 = .ok (.getfield 19, 3) := db508.2.2.2.2.2.2.2.2.2.2.2.2.2.2.2.2.2.1
theorem dX1_reach_102 : decode cX1_reach 102 = .ok (.aload_n 0, 1) := db508.2.2.2.2.2.2.2.2.2.2.2.2.2.2.2.2.2.2.1
theorem dX1_reach_103 : decode cX1_reach 103 = .ok (.getfield 38, 3) := db508.2.2.2.2.2.2.2.2.2.2.2.2.2.2.2.2.2.2.2.1
theorem dX1_reach_106 : decode cX1_reach 106 = .ok (.iload 4, 2) := db508.2.2.2.2.2.2.2.2.2.2.2.2.2.2.2.2.2.2.2.2.1
theorem dX1_reach_108 : decode cX1_reach 108 = .ok (.iastore, 1) := db508.2.2.2.2.2.2.2.2.2.2.2.2.2.2.2.2.2.2.2.2.2.1
theorem dX1_reach_109 : decode cX1_reach 109 = .ok (.iload 5, 2) := db508.2.2.2.2.2.2.2.2.2.2.2.2.2.2.2.2.2.2.2.2.2.2.1
theorem dX1_reach_130 : decode cX1_reach 130 = .ok (.aload_n 0, 1) := db508.2.2.2.2.2.2.2.2.2.2.2.2.2.2.2.2.2.2.2.2.2.2.2
theorem db509 : (decode cX1_reach 131 = .ok (.dup, 1)) ∧ (decode cX1_reach 132 = .ok (.getfield 38, 3)) ∧ (decode cX1_reach 135 = .ok (.iconst 1, 1)) ∧ (decode cX1_reach 136 = .ok (.iadd, 1)) ∧ (decode cX1_reach 137 = .ok (.putfield 38, 3)) ∧ (decode cX1_reach 140 = .ok (.return_, 1)) ∧ (decode cX1_reach 111 = .ok (.ifCond .ne 19, 3)) ∧ (decode cX1_reach 114 = .ok (.aload_n 0, 1)) ∧ (decode cX1_reach 115 = .ok (.getfield 28, 3)) ∧ (decode cX1_reach 118 = .ok (.iconst (-1), 1)) ∧ (decode cX1_reach 119 = .ok (.if_icmp .ne 11, 3)) ∧ (decode cX1_reach 122 = .ok (.aload_n 0, 1)) ∧ (decode cX1_reach 123 = .ok (.aload_n 0, 1)) ∧ (decode cX1_reach 124 = .ok (.getfield 38, 3)) ∧ (decode cX1_reach 127 = .ok (.putfield 28, 3)) := by decide +kernel
theorem dX1_reach_131 : decode cX1_reach 131 = .ok (.dup, 1) := db509.1
theorem dX1_reach_132 : decode cX1_reach 132 = .ok (.getfield 38, 3) := db509.2.1
theorem dX1_reach_135 : decode cX1_reach 135 = .ok (.iconst 1, 1) := db509.2.2.1
theorem dX1_reach_136 : decode cX1_reach 136 = .ok (.iadd, 1) := db509.2.2.2.1
theorem dX1_reach_137 : decode cX1_reach 137 = .ok (.putfield 38, 3) := db509.2.2.2.2.1
theorem dX1_reach_140 : decode cX1_reach 140 = .ok (.return_, 1) := db509.2.2.2.2.2.1
theorem dX1_reach_111 : decode cX1_reach 111 = .ok (.ifCond .ne 19, 3) := db509.2.2.2.2.2.2.1
theorem dX1_reach_114 : decode cX1_reach 114 = .ok (.aload_n 0, 1) := db509.2.2.2.2.2.2.2.1
theorem dX1_reach_115 : decode cX1_reach 115 = .ok (.getfield 28, 3) := db509.2.2.2.2.2.2.2.2.1
theorem dX1_reach_118 : decode cX1_reach 118 = .ok (.iconst (-1), 1) := db509.2.2.2.2.2.2.2.2.2.1
theorem dX1_reach_119 : decode cX1_reach 119 = .ok (.if_icmp .ne 11, 3) := db509.2.2.2.2.2.2.2.2.2.2.1
theorem dX1_reach_122 : decode cX1_reach 122 = .ok (.aload_n 0, 1) := db509.2.2.2.2.2.2.2.2.2.2.2.1
theorem dX1_reach_123 : decode cX1_reach 123 = .ok (.aload_n 0, 1) := db509.2.2.2.2.2.2.2.2.2.2.2.2.1
theorem dX1_reach_124 : decode cX1_reach 124 = .ok (.getfield 38, 3) := db509.2.2.2.2.2.2.2.2.2.2.2.2.2.1
theorem dX1_reach_127 : decode cX1_reach 127 = .ok (.putfield 28, 3) := db509.2.2.2.2.2.2.2.2.2.2.2.2.2.2
theorem db510 : (decode cX2_draw 0 = .ok (.aload_n 0, 1)) ∧ (decode cX2_draw 1 = .ok (.lload_n 3, 1)) ∧ (decode cX2_draw 2 = .ok (.putfield 9, 3)) ∧ (decode cX2_draw 5 = .ok (.aload_n 0, 1)) ∧ (decode cX2_draw 6 = .ok (.iconst (-1), 1)) ∧ (decode cX2_draw 7 = .ok (.putfield 15, 3)) ∧ (decode cX2_draw 10 = .ok (.aload_n 0, 1)) ∧ (decode cX2_draw 11 = .ok (.aload_n 0, 1)) ∧ (decode cX2_draw 12 = .ok (.aload_n 1, 1)) ∧ (decode cX2_draw 13 = .ok (.invokevirtual 19, 3)) ∧ (decode cX2_draw 16 = .ok (.putfield 23, 3)) ∧ (decode cX2_draw 19 = .ok (.iconst 0, 1)) ∧ (decode cX2_draw 20 = .ok (.istore 5, 2)) ∧ (decode cX2_draw 22 = .ok (.iload 5, 2)) ∧ (decode cX2_draw 24 = .ok (.aload_n 2, 1)) ∧ (decode cX2_draw 25 = .ok (.getfield 26, 3)) ∧ (decode cX2_draw 28 = .ok (.if_icmp .ge 70, 3)) ∧ (decode cX2_draw 98 = .ok (.return_, 1)) ∧ (decode cX2_draw 31 = .ok (.aload_n 0, 1)) ∧ (decode cX2_draw 32 = .ok (.getfield 23, 3)) ∧ (decode cX2_draw 35 = .ok (.iconst (-1), 1)) ∧ (decode cX2_draw 36 = .ok (.if_icmp .eq 62, 3)) ∧ (decode cX2_draw 39 = .ok (.aload_n 0, 1)) ∧ (decode cX2_draw 40 = .ok (.getfield 15, 3)) := by decide +kernel
theorem dX2_draw_0 : decode cX2_draw 0 = .ok (.aload_n 0, 1) := db510.1
theorem dX2_draw_1 : decode cX2_draw 1 = .ok (.lload_n 3, 1) := db510.2.1
theorem dX2_draw_2 : decode cX2_draw 2 = .ok (.putfield 9, 3) := db510.2.2.1
theorem dX2_draw_5 : decode cX2_draw 5 = .ok (.aload_n 0, 1) := db510.2.2.2.1
theorem dX2_draw_6 : decode cX2_draw 6 = .ok (.iconst (-1), 1) := db510.2.2.2.2.1
theorem dX2_draw_7 : decode cX2_draw 7 = .ok (.putfield 15, 3) := db510.2.2.2.2.2.1
theorem dX2_draw_10 : decode cX2_draw 10 = .ok (.aload_n 0, 1) := db510.2.2.2.2.2.2.1
theorem dX2_draw_11 : decode cX2_draw 11 = .ok (.aload_n 0, 1) := db510.2.2.2.2.2.2.2.1
theorem dX2_draw_12 : decode cX2_draw 12 = .ok (.aload_n 1, 1) := db510.2.2.2.2.2.2.2.2.1
theorem dX2_draw_13 : decode cX2_draw 13 = .ok (.invokevirtual 19, 3) := db510.2.2.2.2.2.2.2.2.2.1
theorem dX2_draw_16 : decode cX2_draw 16 = .ok (.putfield 23, 3) := db510.2.2.2.2.2.2.2.2.2.2.1
theorem dX2_draw_19 : decode cX2_draw 19 = .ok (.iconst 0, 1) := db510.2.2.2.2.2.2.2.2.2.2.2.1
theorem dX2_draw_20 : decode cX2_draw 20 = .ok (.istore 5, 2) := db510.2.2.2.2.2.2.2.2.2.2.2.2.1
theorem dX2_draw_22 : decode cX2_draw 22 = .ok (.iload 5, 2) := db510.2.2.2.2.2.2.2.2.2.2.2.2.2.1
theorem dX2_draw_24 : decode cX2_draw 24 = .ok (.aload_n 2, 1) := db510.2.2.2.2.2.2.2.2.2.2.2.2.2.2.1
theorem dX2_draw_25 : decode cX2_draw 25 = .ok (.getfield 26, 3) := db510.2.2.2.2.2.2.2.2.2.2.2.2.2.2.2.1
theorem dX2_draw_28 : decode cX2_draw 28 = .ok (.if_icmp .ge 70, 3) := db510.2.2.2.2.2.2.2.2.2.2.2.2.2.2.2.2.1
theorem dX2_draw_98 : decode cX2_draw 98 = .ok (.return_, 1) := db510.2.2.2.2.2.2.2.2.2.2.2.2.2.2.2.2.2.1
theorem dX2_draw_31 : decode cX2_draw 31 = .ok (.aload_n 0, 1) := db510.2.2.2.2.2.2.2.2.2.2.2.2.2.2.2.2.2.2.1
theorem dX2_draw_32 : decode cX2_draw 32 = .ok (.getfield 23, 3) := db510.2.2.2.2.2.2.2.2.2.2.2.2.2.2.2.2.2.2.2.1
theorem dX2_draw_35 : decode cX2_draw 35 = .ok (.iconst (-1), 1) := db510.2.2.2.2.2.2.2.2.2.2.2.2.2.2.2.2.2.2.2.2.1
theorem dX2_draw_36 : decode cX2_draw 36 = .ok (.if_icmp .eq 62, 3) := db510.2.2.2.2.2.2.2.2.2.2.2.2.2.2.2.2.2.2.2.2.2.1
theorem dX2_draw_39 : decode cX2_draw 39 = .ok (.aload_n 0, 1) := db510.2.2.2.2.2.2.2.2.2.2.2.2.2.2.2.2.2.2.2.2.2.2.1
theorem dX2_draw_40 : decode cX2_draw 40 = .ok (.getfield 15, 3) := db510.2.2.2.2.2.2.2.2.2.2.2.2.2.2.2.2.2.2.2.2.2.2.2
theorem db511 : (decode cX2_draw 43 = .ok (.iconst (-1), 1)) ∧ (decode cX2_draw 44 = .ok (.if_icmp .ne 54, 3)) ∧ (decode cX2_draw 47 = .ok (.aload_n 2, 1)) ∧ (decode cX2_draw 48 = .ok (.iload 5, 2)) ∧ (decode cX2_draw 50 = .ok (.invokevirtual 31, 3)) ∧ (decode cX2_draw 53 = .ok (.aload_n 0, 1)) ∧ (decode cX2_draw 54 = .ok (.getfield 23, 3)) ∧ (decode cX2_draw 92 = .ok (.iinc 5 1, 3)) ∧ (decode cX2_draw 95 = .ok (.goto (-73), 3)) ∧ (decode cX2_draw 87 = .ok (.aload_n 0, 1)) ∧ (decode cX2_draw 88 = .ok (.aload_n 1, 1)) ∧ (decode cX2_draw 89 = .ok (.invokevirtual 44, 3)) ∧ (decode cX2_draw 57 = .ok (.if_icmp .ne 30, 3)) ∧ (decode cX2_draw 60 = .ok (.aload_n 0, 1)) ∧ (decode cX2_draw 61 = .ok (.bipush 100, 2)) ∧ (decode cX2_draw 63 = .ok (.invokevirtual 35, 3)) ∧ (decode cX2_draw 66 = .ok (.aload_n 1, 1)) ∧ (decode cX2_draw 67 = .ok (.getfield 38, 3)) ∧ (decode cX2_draw 70 = .ok (.aload_n 0, 1)) ∧ (decode cX2_draw 71 = .ok (.getfield 23, 3)) ∧ (decode cX2_draw 74 = .ok (.iaload, 1)) ∧ (decode cX2_draw 75 = .ok (.if_icmp .ge 12, 3)) ∧ (decode cX2_draw 78 = .ok (.aload_n 0, 1)) ∧ (decode cX2_draw 79 = .ok (.iload 5, 2)) := by decide +kernel
theorem dX2_draw_43 : decode cX2_draw 43 = .ok (.iconst (-1), 1) := db511.1
theorem dX2_draw_44 : decode cX2_draw 44 = .ok (.if_icmp .ne 54, 3) := db511.2.1
theorem dX2_draw_47 : decode cX2_draw 47 = .ok (.aload_n 2, 1) := db511.2.2.1
theorem dX2_draw_48 : decode cX2_draw 48 = .ok (.iload 5, 2) := db511.2.2.2.1
theorem dX2_draw_50 : decode cX2_draw 50 = .ok (.invokevirtual 31, 3) := db511.2.2.2.2.1
theorem dX2_draw_53 : decode cX2_draw 53 = .ok (.aload_n 0, 1) := db511.2.2.2.2.2.1
theorem dX2_draw_54 : decode cX2_draw 54 = .ok (.getfield 23, 3) := db511.2.2.2.2.2.2.1
theorem dX2_draw_92 : decode cX2_draw 92 = .ok (.iinc 5 1, 3) := db511.2.2.2.2.2.2.2.1
theorem dX2_draw_95 : decode cX2_draw 95 = .ok (.goto (-73), 3) := db511.2.2.2.2.2.2.2.2.1
theorem dX2_draw_87 : decode cX2_draw 87 = .ok (.aload_n 0, 1) := db511.2.2.2.2.2.2.2.2.2.1
theorem dX2_draw_88 : decode cX2_draw 88 = .ok (.aload_n 1, 1) := db511.2.2.2.2.2.2.2.2.2.2.1
theorem dX2_draw_89 : decode cX2_draw 89 = .ok (.invokevirtual 44, 3) := db511.2.2.2.2.2.2.2.2.2.2.2.1
theorem dX2_draw_57 : decode cX2_draw 57 = .ok (.if_icmp .ne 30, 3) := db511.2.2.2.2.2.2.2.2.2.2.2.2.1
theorem dX2_draw_60 : decode cX2_draw 60 = .ok (.aload_n 0, 1) := db511.2.2.2.2.2.2.2.2.2.2.2.2.2.1
theorem dX2_draw_61 : decode cX2_draw 61 = .ok (.bipush 100, 2) := db511.2.2.2.2.2.2.2.2.2.2.2.2.2.2.1
theorem dX2_draw_63 : decode cX2_draw 63 = .ok (.invokevirtual 35, 3) := db511.2.2.2.2.2.2.2.2.2.2.2.2.2.2.2.1
theorem dX2_draw_66 : decode cX2_draw 66 = .ok (.aload_n 1, 1) := db511.2.2.2.2.2.2.2.2.2.2.2.2.2.2.2.2.1
theorem dX2_draw_67 : decode cX2_draw 67 = .ok (.getfield 38, 3) := db511.2.2.2.2.2.2.2.2.2.2.2.2.2.2.2.2.2.1
theorem dX2_draw_70 : decode cX2_draw 70 = .ok (.aload_n 0, 1) := db511.2.2.2.2.2.2.2.2.2.2.2.2.2.2.2.2.2.2.1
theorem dX2_draw_71 : decode cX2_draw 71 = .ok (.getfield 23, 3) := db511.2.2.2.2.2.2.2.2.2.2.2.2.2.2.2.2.2.2.2.1
theorem dX2_draw_74 : decode cX2_draw 74 = .ok (.iaload, 1) := db511.2.2.2.2.2.2.2.2.2.2.2.2.2.2.2.2.2.2.2.2.1
theorem dX2_draw_75 : decode cX2_draw 75 = .ok (.if_icmp .ge 12, 3) := db511.2.2.2.2.2.2.2.2.2.2.2.2.2.2.2.2.2.2.2.2.2.1
theorem dX2_draw_78 : decode cX2_draw 78 = .ok (.aload_n 0, 1) := db511.2.2.2.2.2.2.2.2.2.2.2.2.2.2.2.2.2.2.2.2.2.2.1
theorem dX2_draw_79 : decode cX2_draw 79 = .ok (.iload 5, 2) := db511.2.2.2.2.2.2.2.2.2.2.2.2.2.2.2.2.2.2.2.2.2.2.2
theorem db512 : (decode cX2_draw 81 = .ok (.putfield 15, 3)) ∧ (decode cX2_draw 84 = .ok (.goto 8, 3)) := by decide +kernel
theorem dX2_draw_81 : decode cX2_draw 81 = .ok (.putfield 15, 3) := db512.1
theorem dX2_draw_84 : decode cX2_draw 84 = .ok (.goto 8, 3) := db512.2
theorem db513 : (decode cX2_init 0 = .ok (.aload_n 0, 1)) ∧ (decode cX2_init 1 = .ok (.invokespecial 3, 3)) ∧ (decode cX2_init 4 = .ok (.return_, 1)) := by decide +kernel
theorem dX2_init_0 : decode cX2_init 0 = .ok (.aload_n 0, 1) := db513.1
theorem dX2_init_1 : decode cX2_init 1 = .ok (.invokespecial 3, 3) := db513.2.1
theorem dX2_init_4 : decode cX2_init 4 = .ok (.return_, 1) := db513.2.2
theorem db514 : (decode cX2_move 0 = .ok (.aload_n 1, 1)) ∧ (decode cX2_move 1 = .ok (.getfield 61, 3)) ∧ (decode cX2_move 4 = .ok (.aload_n 0, 1)) ∧ (decode cX2_move 5 = .ok (.getfield 23, 3)) ∧ (decode cX2_move 8 = .ok (.iaload, 1)) ∧ (decode cX2_move 9 = .ok (.istore_n 2, 1)) ∧ (decode cX2_move 10 = .ok (.iload_n 2, 1)) ∧ (decode cX2_move 11 = .ok (.ifCond .eq 16, 3)) ∧ (decode cX2_move 27 = .ok (.return_, 1)) ∧ (decode cX2_move 14 = .ok (.aload_n 0, 1)) ∧ (decode cX2_move 15 = .ok (.bipush 100, 2)) ∧ (decode cX2_move 17 = .ok (.invokevirtual 35, 3)) ∧ (decode cX2_move 20 = .ok (.aload_n 1, 1)) ∧ (decode cX2_move 21 = .ok (.getfield 64, 3)) ∧ (decode cX2_move 24 = .ok (.if_icmp .lt 4, 3)) ∧ (decode cX2_move 28 = .ok (.aload_n 0, 1)) ∧ (decode cX2_move 29 = .ok (.iload_n 2, 1)) ∧ (decode cX2_move 30 = .ok (.invokestatic 67, 3)) ∧ (decode cX2_move 33 = .ok (.invokevirtual 35, 3)) ∧ (decode cX2_move 36 = .ok (.istore_n 3, 1)) ∧ (decode cX2_move 37 = .ok (.iconst 0, 1)) ∧ (decode cX2_move 38 = .ok (.istore 4, 2)) ∧ (decode cX2_move 40 = .ok (.iload 4, 2)) ∧ (decode cX2_move 42 = .ok (.aload_n 1, 1)) := by decide +kernel
theorem dX2_move_0 : decode cX2_move 0 = .ok (.aload_n 1, 1) := db514.1
theorem dX2_move_1 : decode cX2_move 1 = .ok (.getfield 61, 3) := db514.2.1
theorem dX2_move_4 : decode cX2_move 4 = .ok (.aload_n 0, 1) := db514.2.2.1
theorem dX2_move_5 : decode cX2_move 5 = .ok (.getfield 23, 3) := db514.2.2.2.1
theorem dX2_move_8 : decode cX2_move 8 = .ok (.iaload, 1) := db514.2.2.2.2.1
theorem dX2_move_9 : decode cX2_move 9 = .ok (.istore_n 2, 1) := db514.2.2.2.2.2.1
theorem dX2_move_10 : decode cX2_move 10 = .ok (.iload_n 2, 1) := db514.2.2.2.2.2.2.1
theorem dX2_move_11 : decode cX2_move 11 = .ok (.ifCond .eq 16, 3) := db514.2.2.2.2.2.2.2.1
theorem dX2_move_27 : decode cX2_move 27 = .ok (.return_, 1) := db514.2.2.2.2.2.2.2.2.1
theorem dX2_move_14 : decode cX2_move 14 = .ok (.aload_n 0, 1) := db514.2.2.2.2.2.2.2.2.2.1
theorem dX2_move_15 : decode cX2_move 15 = .ok (.bipush 100, 2) := db514.2.2.2.2.2.2.2.2.2.2.1
theorem dX2_move_17 : decode cX2_move 17 = .ok (.invokevirtual 35, 3) := db514.2.2.2.2.2.2.2.2.2.2.2.1
theorem dX2_move_20 : decode cX2_move 20 = .ok (.aload_n 1, 1) := db514.2.2.2.2.2.2.2.2.2.2.2.2.1
theorem dX2_move_21 : decode cX2_move 21 = .ok (.getfield 64, 3) := db514.2.2.2.2.2.2.2.2.2.2.2.2.2.1
theorem dX2_move_24 : decode cX2_move 24 = .ok (.if_icmp .lt 4, 3) := db514.2.2.2.2.2.2.2.2.2.2.2.2.2.2.1
theorem dX2_move_28 : decode cX2_move 28 = .ok (.aload_n 0, 1) := db514.2.2.2.2.2.2.2.2.2.2.2.2.2.2.2.1
theorem dX2_move_29 : decode cX2_move 29 = .ok (.iload_n 2, 1) := db514.2.2.2.2.2.2.2.2.2.2.2.2.2.2.2.2.1
theorem dX2_move_30 : decode cX2_move 30 = .ok (.invokestatic 67, 3) := db514.2.2.2.2.2.2.2.2.2.2.2.2.2.2.2.2.2.1
theorem dX2_move_33 : decode cX2_move 33 = .ok (.invokevirtual 35, 3) := db514.2.2.2.2.2.2.2.2.2.2.2.2.2.2.2.2.2.2.1
theorem dX2_move_36 : decode cX2_move 36 = .ok (.istore_n 3, 1) := db514.2.2.2.2.2.2.2.2.2.2.2.2.2.2.2.2.2.2.2.1
theorem dX2_move_37 : decode cX2_move 37 = .ok (.iconst 0, 1) := db514.2.2.2.2.2.2.2.2.2.2.2.2.2.2.2.2.2.2.2.2.1
theorem dX2_move_38 : decode cX2_move 38 = .ok (.istore 4, 2) := db514.2.2.2.2.2.2.2.2.2.2.2.2.2.2.2.2.2.2.2.2.2.1
theorem dX2_move_40 : decode cX2_move 40 = .ok (.iload 4, 2) := db514.2.2.2.2.2.2.2.2.2.2.2.2.2.2.2.2.2.2.2.2.2.2.1
theorem dX2_move_42 : decode cX2_move 42 = .ok (.aload_n 1, 1) := db514.2.2.2.2.2.2.2.2.2.2.2.2.2.2.2.2.2.2.2.2.2.2.2
theorem db515 : (decode cX2_move 43 = .ok (.getfield 55, 3)) ∧ (decode cX2_move 46 = .ok (.if_icmp .ge 32, 3)) ∧ (decode cX2_move 78 = .ok (.return_, 1)) ∧ (decode cX2_move 49 = .ok (.iload_n 2, 1)) ∧ (decode cX2_move 50 = .ok (.iload 4, 2)) ∧ (decode cX2_move 52 = .ok (.ishr, 1)) ∧ (decode cX2_move 53 = .ok (.iconst 1, 1)) ∧ (decode cX2_move 54 = .ok (.iand, 1)) ∧ (decode cX2_move 72 = .ok (.iinc 4 1, 3)) ∧ (decode cX2_move 75 = .ok (.goto (-35), 3)) ∧ (decode cX2_move 55 = .ok (.ifCond .eq 17, 3)) ∧ (decode cX2_move 58 = .ok (.iload_n 3, 1)) ∧ (decode cX2_move 59 = .ok (.ifCond .ne 10, 3)) ∧ (decode cX2_move 69 = .ok (.iinc 3 (-1), 3)) ∧ (decode cX2_move 62 = .ok (.aload_n 0, 1)) ∧ (decode cX2_move 63 = .ok (.iload 4, 2)) ∧ (decode cX2_move 65 = .ok (.putfield 23, 3)) ∧ (decode cX2_move 68 = .ok (.return_, 1)) := by decide +kernel
theorem dX2_move_43 : decode cX2_move 43 = .ok (.getfield 55, 3) := db515.1
theorem dX2_move_46 : decode cX2_move 46 = .ok (.if_icmp .ge 32, 3) := db515.2.1
theorem dX2_move_78 : decode cX2_move 78 = .ok (.return_, 1) := db515.2.2.1
theorem dX2_move_49 : decode cX2_move 49 = .ok (.iload_n 2, 1) := db515.2.2.2.1
theorem dX2_move_50 : decode cX2_move 50 = .ok (.iload 4, 2) := db515.2.2.2.2.1
theorem dX2_move_52 : decode cX2_move 52 = .ok (.ishr, 1) := db515.2.2.2.2.2.1
theorem dX2_move_53 : decode cX2_move 53 = .ok (.iconst 1, 1) := db515.2.2.2.2.2.2.1
theorem dX2_move_54 : decode cX2_move 54 = .ok (.iand, 1) := db515.2.2.2.2.2.2.2.1
theorem dX2_move_72 : decode cX2_move 72 = .ok (.iinc 4 1, 3) := db515.2.2.2.2.2.2.2.2.1
theorem dX2_move_75 : decode cX2_move 75 = .ok (.goto (-35), 3) := db515.2.2.2.2.2.2.2.2.2.1
theorem dX2_move_55 : decode cX2_move 55 = .ok (.ifCond .eq 17, 3) := db515.2.2.2.2.2.2.2.2.2.2.1
theorem dX2_move_58 : decode cX2_move 58 = .ok (.iload_n 3, 1) := db515.2.2.2.2.2.2.2.2.2.2.2.1
theorem dX2_move_59 : decode cX2_move 59 = .ok (.ifCond .ne 10, 3) := db515.2.2.2.2.2.2.2.2.2.2.2.2.1
theorem dX2_move_69 : decode cX2_move 69 = .ok (.iinc 3 (-1), 3) := db515.2.2.2.2.2.2.2.2.2.2.2.2.2.1
theorem dX2_move_62 : decode cX2_move 62 = .ok (.aload_n 0, 1) := db515.2.2.2.2.2.2.2.2.2.2.2.2.2.2.1
theorem dX2_move_63 : decode cX2_move 63 = .ok (.iload 4, 2) := db515.2.2.2.2.2.2.2.2.2.2.2.2.2.2.2.1
theorem dX2_move_65 : decode cX2_move 65 = .ok (.putfield 23, 3) := db515.2.2.2.2.2.2.2.2.2.2.2.2.2.2.2.2.1
theorem dX2_move_68 : decode cX2_move 68 = .ok (.return_, 1) := db515.2.2.2.2.2.2.2.2.2.2.2.2.2.2.2.2.2
theorem db516 : (decode cX2_next 0 = .ok (.aload_n 0, 1)) ∧ (decode cX2_next 1 = .ok (.ldc2_w 72, 3)) ∧ (decode cX2_next 4 = .ok (.aload_n 0, 1)) ∧ (decode cX2_next 5 = .ok (.getfield 9, 3)) ∧ (decode cX2_next 8 = .ok (.lmul, 1)) ∧ (decode cX2_next 9 = .ok (.ldc2_w 74, 3)) ∧ (decode cX2_next 12 = .ok (.ladd, 1)) ∧ (decode cX2_next 13 = .ok (.ldc2_w 76, 3)) ∧ (decode cX2_next 16 = .ok (.lrem, 1)) ∧ (decode cX2_next 17 = .ok (.putfield 9, 3)) ∧ (decode cX2_next 20 = .ok (.iload_n 1, 1)) ∧ (decode cX2_next 21 = .ok (.iconst 1, 1)) ∧ (decode cX2_next 22 = .ok (.if_icmp .ge 7, 3)) ∧ (decode cX2_next 29 = .ok (.aload_n 0, 1)) ∧ (decode cX2_next 30 = .ok (.getfield 9, 3)) ∧ (decode cX2_next 33 = .ok (.ldc2_w 78, 3)) ∧ (decode cX2_next 36 = .ok (.ldiv, 1)) ∧ (decode cX2_next 37 = .ok (.iload_n 1, 1)) ∧ (decode cX2_next 38 = .ok (.i2l, 1)) ∧ (decode cX2_next 39 = .ok (.lrem, 1)) ∧ (decode cX2_next 40 = .ok (.l2i, 1)) ∧ (decode cX2_next 41 = .ok (.ireturn, 1)) ∧ (decode cX2_next 25 = .ok (.iconst 0, 1)) ∧ (decode cX2_next 26 = .ok (.goto 15, 3)) := by decide +kernel
theorem dX2_next_0 : decode cX2_next 0 = .ok (.aload_n 0, 1) := db516.1
theorem dX2_next_1 : decode cX2_next 1 = .ok (.ldc2_w 72, 3) := db516.2.1
theorem dX2_next_4 : decode cX2_next 4 = .ok (.aload_n 0, 1) := db516.2.2.1
theorem dX2_next_5 : decode cX2_next 5 = .ok (.getfield 9, 3) := db516.2.2.2.1
theorem dX2_next_8 : decode cX2_next 8 = .ok (.lmul, 1) := db516.2.2.2.2.1
theorem dX2_next_9 : decode cX2_next 9 = .ok (.ldc2_w 74, 3) := db516.2.2.2.2.2.1
theorem dX2_next_12 : decode cX2_next 12 = .ok (.ladd, 1) := db516.2.2.2.2.2.2.1
theorem dX2_next_13 : decode cX2_next 13 = .ok (.ldc2_w 76, 3) := db516.2.2.2.2.2.2.2.1
theorem dX2_next_16 : decode cX2_next 16 = .ok (.lrem, 1) := db516.2.2.2.2.2.2.2.2.1
theorem dX2_next_17 : decode cX2_next 17 = .ok (.putfield 9, 3) := db516.2.2.2.2.2.2.2.2.2.1
theorem dX2_next_20 : decode cX2_next 20 = .ok (.iload_n 1, 1) := db516.2.2.2.2.2.2.2.2.2.2.1
theorem dX2_next_21 : decode cX2_next 21 = .ok (.iconst 1, 1) := db516.2.2.2.2.2.2.2.2.2.2.2.1
theorem dX2_next_22 : decode cX2_next 22 = .ok (.if_icmp .ge 7, 3) := db516.2.2.2.2.2.2.2.2.2.2.2.2.1
theorem dX2_next_29 : decode cX2_next 29 = .ok (.aload_n 0, 1) := db516.2.2.2.2.2.2.2.2.2.2.2.2.2.1
theorem dX2_next_30 : decode cX2_next 30 = .ok (.getfield 9, 3) := db516.2.2.2.2.2.2.2.2.2.2.2.2.2.2.1
theorem dX2_next_33 : decode cX2_next 33 = .ok (.ldc2_w 78, 3) := db516.2.2.2.2.2.2.2.2.2.2.2.2.2.2.2.1
theorem dX2_next_36 : decode cX2_next 36 = .ok (.ldiv, 1) := db516.2.2.2.2.2.2.2.2.2.2.2.2.2.2.2.2.1
theorem dX2_next_37 : decode cX2_next 37 = .ok (.iload_n 1, 1) := db516.2.2.2.2.2.2.2.2.2.2.2.2.2.2.2.2.2.1
theorem dX2_next_38 : decode cX2_next 38 = .ok (.i2l, 1) := db516.2.2.2.2.2.2.2.2.2.2.2.2.2.2.2.2.2.2.1
theorem dX2_next_39 : decode cX2_next 39 = .ok (.lrem, 1) := db516.2.2.2.2.2.2.2.2.2.2.2.2.2.2.2.2.2.2.2.1
theorem dX2_next_40 : decode cX2_next 40 = .ok (.l2i, 1) := db516.2.2.2.2.2.2.2.2.2.2.2.2.2.2.2.2.2.2.2.2.1
theorem dX2_next_41 : decode cX2_next 41 = .ok (.ireturn, 1) := db516.2.2.2.2.2.2.2.2.2.2.2.2.2.2.2.2.2.2.2.2.2.1
theorem dX2_next_25 : decode cX2_next 25 = .ok (.iconst 0, 1) := db516.2.2.2.2.2.2.2.2.2.2.2.2.2.2.2.2.2.2.2.2.2.2.1
theorem dX2_next_26 : decode cX2_next 26 = .ok (.goto 15, 3) := db516.2.2.2.2.2.2.2.2.2.2.2.2.2.2.2.2.2.2.2.2.2.2.2
theorem db517 : (decode cX2_takeSeat 0 = .ok (.aload_n 0, 1)) ∧ (decode cX2_takeSeat 1 = .ok (.bipush 100, 2)) ∧ (decode cX2_takeSeat 3 = .ok (.invokevirtual 35, 3)) ∧ (decode cX2_takeSeat 6 = .ok (.aload_n 1, 1)) ∧ (decode cX2_takeSeat 7 = .ok (.getfield 48, 3)) ∧ (decode cX2_takeSeat 10 = .ok (.if_icmp .lt 5, 3)) ∧ (decode cX2_takeSeat 15 = .ok (.aload_n 1, 1)) ∧ (decode cX2_takeSeat 16 = .ok (.invokevirtual 51, 3)) ∧ (decode cX2_takeSeat 19 = .ok (.istore_n 2, 1)) ∧ (decode cX2_takeSeat 20 = .ok (.iload_n 2, 1)) ∧ (decode cX2_takeSeat 21 = .ok (.ifCond .ne 5, 3)) ∧ (decode cX2_takeSeat 26 = .ok (.aload_n 0, 1)) ∧ (decode cX2_takeSeat 27 = .ok (.iload_n 2, 1)) ∧ (decode cX2_takeSeat 28 = .ok (.invokevirtual 35, 3)) ∧ (decode cX2_takeSeat 31 = .ok (.istore_n 3, 1)) ∧ (decode cX2_takeSeat 32 = .ok (.iconst 0, 1)) ∧ (decode cX2_takeSeat 33 = .ok (.istore 4, 2)) ∧ (decode cX2_takeSeat 35 = .ok (.iconst 0, 1)) ∧ (decode cX2_takeSeat 36 = .ok (.istore 5, 2)) ∧ (decode cX2_takeSeat 38 = .ok (.iload 5, 2)) ∧ (decode cX2_takeSeat 40 = .ok (.aload_n 1, 1)) ∧ (decode cX2_takeSeat 41 = .ok (.getfield 55, 3)) ∧ (decode cX2_takeSeat 44 = .ok (.if_icmp .ge 30, 3)) ∧ (decode cX2_takeSeat 74 = .ok (.iconst (-1), 1)) := by decide +kernel
theorem dX2_takeSeat_0 : decode cX2_takeSeat 0 = .ok (.aload_n 0, 1) := db517.1
theorem dX2_takeSeat_1 : decode cX2_takeSeat 1 = .ok (.bipush 100, 2) := db517.2.1
theorem dX2_takeSeat_3 : decode cX2_takeSeat 3 = .ok (.invokevirtual 35, 3) := db517.2.2.1
theorem dX2_takeSeat_6 : decode cX2_takeSeat 6 = .ok (.aload_n 1, 1) := db517.2.2.2.1
theorem dX2_takeSeat_7 : decode cX2_takeSeat 7 = .ok (.getfield 48, 3) := db517.2.2.2.2.1
theorem dX2_takeSeat_10 : decode cX2_takeSeat 10 = .ok (.if_icmp .lt 5, 3) := db517.2.2.2.2.2.1
theorem dX2_takeSeat_15 : decode cX2_takeSeat 15 = .ok (.aload_n 1, 1) := db517.2.2.2.2.2.2.1
theorem dX2_takeSeat_16 : decode cX2_takeSeat 16 = .ok (.invokevirtual 51, 3) := db517.2.2.2.2.2.2.2.1
theorem dX2_takeSeat_19 : decode cX2_takeSeat 19 = .ok (.istore_n 2, 1) := db517.2.2.2.2.2.2.2.2.1
theorem dX2_takeSeat_20 : decode cX2_takeSeat 20 = .ok (.iload_n 2, 1) := db517.2.2.2.2.2.2.2.2.2.1
theorem dX2_takeSeat_21 : decode cX2_takeSeat 21 = .ok (.ifCond .ne 5, 3) := db517.2.2.2.2.2.2.2.2.2.2.1
theorem dX2_takeSeat_26 : decode cX2_takeSeat 26 = .ok (.aload_n 0, 1) := db517.2.2.2.2.2.2.2.2.2.2.2.1
theorem dX2_takeSeat_27 : decode cX2_takeSeat 27 = .ok (.iload_n 2, 1) := db517.2.2.2.2.2.2.2.2.2.2.2.2.1
theorem dX2_takeSeat_28 : decode cX2_takeSeat 28 = .ok (.invokevirtual 35, 3) := db517.2.2.2.2.2.2.2.2.2.2.2.2.2.1
theorem dX2_takeSeat_31 : decode cX2_takeSeat 31 = .ok (.istore_n 3, 1) := db517.2.2.2.2.2.2.2.2.2.2.2.2.2.2.1
theorem dX2_takeSeat_32 : decode cX2_takeSeat 32 = .ok (.iconst 0, 1) := db517.2.2.2.2.2.2.2.2.2.2.2.2.2.2.2.1
theorem dX2_takeSeat_33 : decode cX2_takeSeat 33 = .ok (.istore 4, 2) := db517.2.2.2.2.2.2.2.2.2.2.2.2.2.2.2.2.1
theorem dX2_takeSeat_35 : decode cX2_takeSeat 35 = .ok (.iconst 0, 1) := db517.2.2.2.2.2.2.2.2.2.2.2.2.2.2.2.2.2.1
theorem dX2_takeSeat_36 : decode cX2_takeSeat 36 = .ok (.istore 5, 2) := db517.2.2.2.2.2.2.2.2.2.2.2.2.2.2.2.2.2.2.1
theorem dX2_takeSeat_38 : decode cX2_takeSeat 38 = .ok (.iload 5, 2) := db517.2.2.2.2.2.2.2.2.2.2.2.2.2.2.2.2.2.2.2.1
theorem dX2_takeSeat_40 : decode cX2_takeSeat 40 = .ok (.aload_n 1, 1) := db517.2.2.2.2.2.2.2.2.2.2.2.2.2.2.2.2.2.2.2.2.1
theorem dX2_takeSeat_41 : decode cX2_takeSeat 41 = .ok (.getfield 55, 3) := db517.2.2.2.2.2.2.2.2.2.2.2.2.2.2.2.2.2.2.2.2.2.1
theorem dX2_takeSeat_44 : decode cX2_takeSeat 44 = .ok (.if_icmp .ge 30, 3) := db517.2.2.2.2.2.2.2.2.2.2.2.2.2.2.2.2.2.2.2.2.2.2.1
theorem dX2_takeSeat_74 : decode cX2_takeSeat 74 = .ok (.iconst (-1), 1) := db517.2.2.2.2.2.2.2.2.2.2.2.2.2.2.2.2.2.2.2.2.2.2.2
theorem db518 : (decode cX2_takeSeat 75 = .ok (.ireturn, 1)) ∧ (decode cX2_takeSeat 47 = .ok (.iload 4, 2)) ∧ (decode cX2_takeSeat 49 = .ok (.aload_n 1, 1)) ∧ (decode cX2_takeSeat 50 = .ok (.getfield 58, 3)) ∧ (decode cX2_takeSeat 53 = .ok (.iload 5, 2)) ∧ (decode cX2_takeSeat 55 = .ok (.iaload, 1)) ∧ (decode cX2_takeSeat 56 = .ok (.iadd, 1)) ∧ (decode cX2_takeSeat 57 = .ok (.istore 4, 2)) ∧ (decode cX2_takeSeat 59 = .ok (.iload 4, 2)) ∧ (decode cX2_takeSeat 61 = .ok (.iload_n 3, 1)) ∧ (decode cX2_takeSeat 62 = .ok (.if_icmp .le 6, 3)) ∧ (decode cX2_takeSeat 68 = .ok (.iinc 5 1, 3)) ∧ (decode cX2_takeSeat 71 = .ok (.goto (-33), 3)) ∧ (decode cX2_takeSeat 65 = .ok (.iload 5, 2)) ∧ (decode cX2_takeSeat 67 = .ok (.ireturn, 1)) ∧ (decode cX2_takeSeat 24 = .ok (.iconst (-1), 1)) ∧ (decode cX2_takeSeat 25 = .ok (.ireturn, 1)) ∧ (decode cX2_takeSeat 13 = .ok (.iconst (-1), 1)) ∧ (decode cX2_takeSeat 14 = .ok (.ireturn, 1)) := by decide +kernel
theorem dX2_takeSeat_75 : decode cX2_takeSeat 75 = .ok (.ireturn, 1) := db518.1
theorem dX2_takeSeat_47 : decode cX2_takeSeat 47 = .ok (.iload 4, 2) := db518.2.1
theorem dX2_takeSeat_49 : decode cX2_takeSeat 49 = .ok (.aload_n 1, 1) := db518.2.2.1
theorem dX2_takeSeat_50 : decode cX2_takeSeat 50 = .ok (.getfield 58, 3) := db518.2.2.2.1
theorem dX2_takeSeat_53 : decode cX2_takeSeat 53 = .ok (.iload 5, 2) := db518.2.2.2.2.1
theorem dX2_takeSeat_55 : decode cX2_takeSeat 55 = .ok (.iaload, 1) := db518.2.2.2.2.2.1
theorem dX2_takeSeat_56 : decode cX2_takeSeat 56 = .ok (.iadd, 1) := db518.2.2.2.2.2.2.1
theorem dX2_takeSeat_57 : decode cX2_takeSeat 57 = .ok (.istore 4, 2) := db518.2.2.2.2.2.2.2.1
theorem dX2_takeSeat_59 : decode cX2_takeSeat 59 = .ok (.iload 4, 2) := db518.2.2.2.2.2.2.2.2.1
theorem dX2_takeSeat_61 : decode cX2_takeSeat 61 = .ok (.iload_n 3, 1) := db518.2.2.2.2.2.2.2.2.2.1
theorem dX2_takeSeat_62 : decode cX2_takeSeat 62 = .ok (.if_icmp .le 6, 3) := db518.2.2.2.2.2.2.2.2.2.2.1
theorem dX2_takeSeat_68 : decode cX2_takeSeat 68 = .ok (.iinc 5 1, 3) := db518.2.2.2.2.2.2.2.2.2.2.2.1
theorem dX2_takeSeat_71 : decode cX2_takeSeat 71 = .ok (.goto (-33), 3) := db518.2.2.2.2.2.2.2.2.2.2.2.2.1
theorem dX2_takeSeat_65 : decode cX2_takeSeat 65 = .ok (.iload 5, 2) := db518.2.2.2.2.2.2.2.2.2.2.2.2.2.1
theorem dX2_takeSeat_67 : decode cX2_takeSeat 67 = .ok (.ireturn, 1) := db518.2.2.2.2.2.2.2.2.2.2.2.2.2.2.1
theorem dX2_takeSeat_24 : decode cX2_takeSeat 24 = .ok (.iconst (-1), 1) := db518.2.2.2.2.2.2.2.2.2.2.2.2.2.2.2.1
theorem dX2_takeSeat_25 : decode cX2_takeSeat 25 = .ok (.ireturn, 1) := db518.2.2.2.2.2.2.2.2.2.2.2.2.2.2.2.2.1
theorem dX2_takeSeat_13 : decode cX2_takeSeat 13 = .ok (.iconst (-1), 1) := db518.2.2.2.2.2.2.2.2.2.2.2.2.2.2.2.2.2.1
theorem dX2_takeSeat_14 : decode cX2_takeSeat 14 = .ok (.ireturn, 1) := db518.2.2.2.2.2.2.2.2.2.2.2.2.2.2.2.2.2.2
theorem db519 : (decode cX3_addMan 0 = .ok (.aload_n 0, 1)) ∧ (decode cX3_addMan 1 = .ok (.getfield 52, 3)) ∧ (decode cX3_addMan 4 = .ok (.bipush 6, 2)) ∧ (decode cX3_addMan 6 = .ok (.if_icmp .ge 97, 3)) ∧ (decode cX3_addMan 103 = .ok (.return_, 1)) ∧ (decode cX3_addMan 9 = .ok (.aload_n 0, 1)) ∧ (decode cX3_addMan 10 = .ok (.getfield 24, 3)) ∧ (decode cX3_addMan 13 = .ok (.aload_n 0, 1)) ∧ (decode cX3_addMan 14 = .ok (.getfield 52, 3)) ∧ (decode cX3_addMan 17 = .ok (.iload_n 1, 1)) ∧ (decode cX3_addMan 18 = .ok (.iastore, 1)) ∧ (decode cX3_addMan 19 = .ok (.aload_n 0, 1)) ∧ (decode cX3_addMan 20 = .ok (.getfield 27, 3)) ∧ (decode cX3_addMan 23 = .ok (.aload_n 0, 1)) ∧ (decode cX3_addMan 24 = .ok (.getfield 52, 3)) ∧ (decode cX3_addMan 27 = .ok (.iload_n 2, 1)) ∧ (decode cX3_addMan 28 = .ok (.iastore, 1)) ∧ (decode cX3_addMan 29 = .ok (.iconst 0, 1)) ∧ (decode cX3_addMan 30 = .ok (.istore_n 3, 1)) ∧ (decode cX3_addMan 31 = .ok (.iload_n 3, 1)) ∧ (decode cX3_addMan 32 = .ok (.aload_n 0, 1)) ∧ (decode cX3_addMan 33 = .ok (.getfield 52, 3)) ∧ (decode cX3_addMan 36 = .ok (.if_icmp .gt 39, 3)) ∧ (decode cX3_addMan 75 = .ok (.aload_n 0, 1)) := by decide +kernel
theorem dX3_addMan_0 : decode cX3_addMan 0 = .ok (.aload_n 0, 1) := db519.1
theorem dX3_addMan_1 : decode cX3_addMan 1 = .ok (.getfield 52, 3) := db519.2.1
theorem dX3_addMan_4 : decode cX3_addMan 4 = .ok (.bipush 6, 2) := db519.2.2.1
theorem dX3_addMan_6 : decode cX3_addMan 6 = .ok (.if_icmp .ge 97, 3) := db519.2.2.2.1
theorem dX3_addMan_103 : decode cX3_addMan 103 = .ok (.return_, 1) := db519.2.2.2.2.1
theorem dX3_addMan_9 : decode cX3_addMan 9 = .ok (.aload_n 0, 1) := db519.2.2.2.2.2.1
theorem dX3_addMan_10 : decode cX3_addMan 10 = .ok (.getfield 24, 3) := db519.2.2.2.2.2.2.1
theorem dX3_addMan_13 : decode cX3_addMan 13 = .ok (.aload_n 0, 1) := db519.2.2.2.2.2.2.2.1
theorem dX3_addMan_14 : decode cX3_addMan 14 = .ok (.getfield 52, 3) := db519.2.2.2.2.2.2.2.2.1
theorem dX3_addMan_17 : decode cX3_addMan 17 = .ok (.iload_n 1, 1) := db519.2.2.2.2.2.2.2.2.2.1
theorem dX3_addMan_18 : decode cX3_addMan 18 = .ok (.iastore, 1) := db519.2.2.2.2.2.2.2.2.2.2.1
theorem dX3_addMan_19 : decode cX3_addMan 19 = .ok (.aload_n 0, 1) := db519.2.2.2.2.2.2.2.2.2.2.2.1
theorem dX3_addMan_20 : decode cX3_addMan 20 = .ok (.getfield 27, 3) := db519.2.2.2.2.2.2.2.2.2.2.2.2.1
theorem dX3_addMan_23 : decode cX3_addMan 23 = .ok (.aload_n 0, 1) := db519.2.2.2.2.2.2.2.2.2.2.2.2.2.1
theorem dX3_addMan_24 : decode cX3_addMan 24 = .ok (.getfield 52, 3) := db519.2.2.2.2.2.2.2.2.2.2.2.2.2.2.1
theorem dX3_addMan_27 : decode cX3_addMan 27 = .ok (.iload_n 2, 1) := db519.2.2.2.2.2.2.2.2.2.2.2.2.2.2.2.1
theorem dX3_addMan_28 : decode cX3_addMan 28 = .ok (.iastore, 1) := db519.2.2.2.2.2.2.2.2.2.2.2.2.2.2.2.2.1
theorem dX3_addMan_29 : decode cX3_addMan 29 = .ok (.iconst 0, 1) := db519.2.2.2.2.2.2.2.2.2.2.2.2.2.2.2.2.2.1
theorem dX3_addMan_30 : decode cX3_addMan 30 = .ok (.istore_n 3, 1) := db519.2.2.2.2.2.2.2.2.2.2.2.2.2.2.2.2.2.2.1
theorem dX3_addMan_31 : decode cX3_addMan 31 = .ok (.iload_n 3, 1) := db519.2.2.2.2.2.2.2.2.2.2.2.2.2.2.2.2.2.2.2.1
theorem dX3_addMan_32 : decode cX3_addMan 32 = .ok (.aload_n 0, 1) := db519.2.2.2.2.2.2.2.2.2.2.2.2.2.2.2.2.2.2.2.2.1
theorem dX3_addMan_33 : decode cX3_addMan 33 = .ok (.getfield 52, 3) := db519.2.2.2.2.2.2.2.2.2.2.2.2.2.2.2.2.2.2.2.2.2.1
theorem dX3_addMan_36 : decode cX3_addMan 36 = .ok (.if_icmp .gt 39, 3) := db519.2.2.2.2.2.2.2.2.2.2.2.2.2.2.2.2.2.2.2.2.2.2.1
theorem dX3_addMan_75 : decode cX3_addMan 75 = .ok (.aload_n 0, 1) := db519.2.2.2.2.2.2.2.2.2.2.2.2.2.2.2.2.2.2.2.2.2.2.2
theorem db520 : (decode cX3_addMan 76 = .ok (.getfield 30, 3)) ∧ (decode cX3_addMan 79 = .ok (.aload_n 0, 1)) ∧ (decode cX3_addMan 80 = .ok (.getfield 52, 3)) ∧ (decode cX3_addMan 83 = .ok (.bipush 6, 2)) ∧ (decode cX3_addMan 85 = .ok (.imul, 1)) ∧ (decode cX3_addMan 86 = .ok (.aload_n 0, 1)) ∧ (decode cX3_addMan 87 = .ok (.getfield 52, 3)) ∧ (decode cX3_addMan 90 = .ok (.iadd, 1)) ∧ (decode cX3_addMan 91 = .ok (.iconst 1, 1)) ∧ (decode cX3_addMan 92 = .ok (.iastore, 1)) ∧ (decode cX3_addMan 93 = .ok (.aload_n 0, 1)) ∧ (decode cX3_addMan 94 = .ok (.dup, 1)) ∧ (decode cX3_addMan 95 = .ok (.getfield 52, 3)) ∧ (decode cX3_addMan 98 = .ok (.iconst 1, 1)) ∧ (decode cX3_addMan 99 = .ok (.iadd, 1)) ∧ (decode cX3_addMan 100 = .ok (.putfield 52, 3)) ∧ (decode cX3_addMan 39 = .ok (.aload_n 0, 1)) ∧ (decode cX3_addMan 40 = .ok (.getfield 30, 3)) ∧ (decode cX3_addMan 43 = .ok (.aload_n 0, 1)) ∧ (decode cX3_addMan 44 = .ok (.getfield 52, 3)) ∧ (decode cX3_addMan 47 = .ok (.bipush 6, 2)) ∧ (decode cX3_addMan 49 = .ok (.imul, 1)) ∧ (decode cX3_addMan 50 = .ok (.iload_n 3, 1)) ∧ (decode cX3_addMan 51 = .ok (.iadd, 1)) := by decide +kernel
theorem dX3_addMan_76 : decode cX3_addMan 76 = .ok (.getfield 30, 3) := db520.1
theorem dX3_addMan_79 : decode cX3_addMan 79 = .ok (.aload_n 0, 1) := db520.2.1
theorem dX3_addMan_80 : decode cX3_addMan 80 = .ok (.getfield 52, 3) := db520.2.2.1
theorem dX3_addMan_83 : decode cX3_addMan 83 = .ok (.bipush 6, 2) := db520.2.2.2.1
theorem dX3_addMan_85 : decode cX3_addMan 85 = .ok (.imul, 1) := db520.2.2.2.2.1
theorem dX3_addMan_86 : decode cX3_addMan 86 = .ok (.aload_n 0, 1) := db520.2.2.2.2.2.1
theorem dX3_addMan_87 : decode cX3_addMan 87 = .ok (.getfield 52, 3) := db520.2.2.2.2.2.2.1
theorem dX3_addMan_90 : decode cX3_addMan 90 = .ok (.iadd, 1) := db520.2.2.2.2.2.2.2.1
theorem dX3_addMan_91 : decode cX3_addMan 91 = .ok (.iconst 1, 1) := db520.2.2.2.2.2.2.2.2.1
theorem dX3_addMan_92 : decode cX3_addMan 92 = .ok (.iastore, 1) := db520.2.2.2.2.2.2.2.2.2.1
theorem dX3_addMan_93 : decode cX3_addMan 93 = .ok (.aload_n 0, 1) := db520.2.2.2.2.2.2.2.2.2.2.1
theorem dX3_addMan_94 : decode cX3_addMan 94 = .ok (.dup, 1) := db520.2.2.2.2.2.2.2.2.2.2.2.1
theorem dX3_addMan_95 : decode cX3_addMan 95 = .ok (.getfield 52, 3) := db520.2.2.2.2.2.2.2.2.2.2.2.2.1
theorem dX3_addMan_98 : decode cX3_addMan 98 = .ok (.iconst 1, 1) := db520.2.2.2.2.2.2.2.2.2.2.2.2.2.1
theorem dX3_addMan_99 : decode cX3_addMan 99 = .ok (.iadd, 1) := db520.2.2.2.2.2.2.2.2.2.2.2.2.2.2.1
theorem dX3_addMan_100 : decode cX3_addMan 100 = .ok (.putfield 52, 3) := db520.2.2.2.2.2.2.2.2.2.2.2.2.2.2.2.1
theorem dX3_addMan_39 : decode cX3_addMan 39 = .ok (.aload_n 0, 1) := db520.2.2.2.2.2.2.2.2.2.2.2.2.2.2.2.2.1
theorem dX3_addMan_40 : decode cX3_addMan 40 = .ok (.getfield 30, 3) := db520.2.2.2.2.2.2.2.2.2.2.2.2.2.2.2.2.2.1
theorem dX3_addMan_43 : decode cX3_addMan 43 = .ok (.aload_n 0, 1) := db520.2.2.2.2.2.2.2.2.2.2.2.2.2.2.2.2.2.2.1
theorem dX3_addMan_44 : decode cX3_addMan 44 = .ok (.getfield 52, 3) := db520.2.2.2.2.2.2.2.2.2.2.2.2.2.2.2.2.2.2.2.1
theorem dX3_addMan_47 : decode cX3_addMan 47 = .ok (.bipush 6, 2) := db520.2.2.2.2.2.2.2.2.2.2.2.2.2.2.2.2.2.2.2.2.1
theorem dX3_addMan_49 : decode cX3_addMan 49 = .ok (.imul, 1) := db520.2.2.2.2.2.2.2.2.2.2.2.2.2.2.2.2.2.2.2.2.2.1
theorem dX3_addMan_50 : decode cX3_addMan 50 = .ok (.iload_n 3, 1) := db520.2.2.2.2.2.2.2.2.2.2.2.2.2.2.2.2.2.2.2.2.2.2.1
theorem dX3_addMan_51 : decode cX3_addMan 51 = .ok (.iadd, 1) := db520.2.2.2.2.2.2.2.2.2.2.2.2.2.2.2.2.2.2.2.2.2.2.2
theorem db521 : (decode cX3_addMan 52 = .ok (.iconst 0, 1)) ∧ (decode cX3_addMan 53 = .ok (.iastore, 1)) ∧ (decode cX3_addMan 54 = .ok (.aload_n 0, 1)) ∧ (decode cX3_addMan 55 = .ok (.getfield 30, 3)) ∧ (decode cX3_addMan 58 = .ok (.iload_n 3, 1)) ∧ (decode cX3_addMan 59 = .ok (.bipush 6, 2)) ∧ (decode cX3_addMan 61 = .ok (.imul, 1)) ∧ (decode cX3_addMan 62 = .ok (.aload_n 0, 1)) ∧ (decode cX3_addMan 63 = .ok (.getfield 52, 3)) ∧ (decode cX3_addMan 66 = .ok (.iadd, 1)) ∧ (decode cX3_addMan 67 = .ok (.iconst 0, 1)) ∧ (decode cX3_addMan 68 = .ok (.iastore, 1)) ∧ (decode cX3_addMan 69 = .ok (.iinc 3 1, 3)) ∧ (decode cX3_addMan 72 = .ok (.goto (-41), 3)) := by decide +kernel
theorem dX3_addMan_52 : decode cX3_addMan 52 = .ok (.iconst 0, 1) := db521.1
theorem dX3_addMan_53 : decode cX3_addMan 53 = .ok (.iastore, 1) := db521.2.1
theorem dX3_addMan_54 : decode cX3_addMan 54 = .ok (.aload_n 0, 1) := db521.2.2.1
theorem dX3_addMan_55 : decode cX3_addMan 55 = .ok (.getfield 30, 3) := db521.2.2.2.1
theorem dX3_addMan_58 : decode cX3_addMan 58 = .ok (.iload_n 3, 1) := db521.2.2.2.2.1
theorem dX3_addMan_59 : decode cX3_addMan 59 = .ok (.bipush 6, 2) := db521.2.2.2.2.2.1
theorem dX3_addMan_61 : decode cX3_addMan 61 = .ok (.imul, 1) := db521.2.2.2.2.2.2.1
theorem dX3_addMan_62 : decode cX3_addMan 62 = .ok (.aload_n 0, 1) := db521.2.2.2.2.2.2.2.1
theorem dX3_addMan_63 : decode cX3_addMan 63 = .ok (.getfield 52, 3) := db521.2.2.2.2.2.2.2.2.1
theorem dX3_addMan_66 : decode cX3_addMan 66 = .ok (.iadd, 1) := db521.2.2.2.2.2.2.2.2.2.1
theorem dX3_addMan_67 : decode cX3_addMan 67 = .ok (.iconst 0, 1) := db521.2.2.2.2.2.2.2.2.2.2.1
theorem dX3_addMan_68 : decode cX3_addMan 68 = .ok (.iastore, 1) := db521.2.2.2.2.2.2.2.2.2.2.2.1
theorem dX3_addMan_69 : decode cX3_addMan 69 = .ok (.iinc 3 1, 3) := db521.2.2.2.2.2.2.2.2.2.2.2.2.1
theorem dX3_addMan_72 : decode cX3_addMan 72 = .ok (.goto (-41), 3) := db521.2.2.2.2.2.2.2.2.2.2.2.2.2
theorem db522 : (decode cX3_addRoom 0 = .ok (.aload_n 0, 1)) ∧ (decode cX3_addRoom 1 = .ok (.getfield 49, 3)) ∧ (decode cX3_addRoom 4 = .ok (.bipush 7, 2)) ∧ (decode cX3_addRoom 6 = .ok (.if_icmp .ge 53, 3)) ∧ (decode cX3_addRoom 59 = .ok (.return_, 1)) ∧ (decode cX3_addRoom 9 = .ok (.aload_n 0, 1)) ∧ (decode cX3_addRoom 10 = .ok (.getfield 9, 3)) ∧ (decode cX3_addRoom 13 = .ok (.aload_n 0, 1)) ∧ (decode cX3_addRoom 14 = .ok (.getfield 49, 3)) ∧ (decode cX3_addRoom 17 = .ok (.iload_n 1, 1)) ∧ (decode cX3_addRoom 18 = .ok (.iastore, 1)) ∧ (decode cX3_addRoom 19 = .ok (.aload_n 0, 1)) ∧ (decode cX3_addRoom 20 = .ok (.getfield 15, 3)) ∧ (decode cX3_addRoom 23 = .ok (.aload_n 0, 1)) ∧ (decode cX3_addRoom 24 = .ok (.getfield 49, 3)) ∧ (decode cX3_addRoom 27 = .ok (.iload_n 2, 1)) ∧ (decode cX3_addRoom 28 = .ok (.iastore, 1)) ∧ (decode cX3_addRoom 29 = .ok (.aload_n 0, 1)) ∧ (decode cX3_addRoom 30 = .ok (.getfield 18, 3)) ∧ (decode cX3_addRoom 33 = .ok (.aload_n 0, 1)) ∧ (decode cX3_addRoom 34 = .ok (.getfield 49, 3)) ∧ (decode cX3_addRoom 37 = .ok (.iload_n 3, 1)) ∧ (decode cX3_addRoom 38 = .ok (.iastore, 1)) ∧ (decode cX3_addRoom 39 = .ok (.aload_n 0, 1)) := by decide +kernel
theorem dX3_addRoom_0 : decode cX3_addRoom 0 = .ok (.aload_n 0, 1) := db522.1
theorem dX3_addRoom_1 : decode cX3_addRoom 1 = .ok (.getfield 49, 3) := db522.2.1
theorem dX3_addRoom_4 : decode cX3_addRoom 4 = .ok (.bipush 7, 2) := db522.2.2.1
theorem dX3_addRoom_6 : decode cX3_addRoom 6 = .ok (.if_icmp .ge 53, 3) := db522.2.2.2.1
theorem dX3_addRoom_59 : decode cX3_addRoom 59 = .ok (.return_, 1) := db522.2.2.2.2.1
theorem dX3_addRoom_9 : decode cX3_addRoom 9 = .ok (.aload_n 0, 1) := db522.2.2.2.2.2.1
theorem dX3_addRoom_10 : decode cX3_addRoom 10 = .ok (.getfield 9, 3) := db522.2.2.2.2.2.2.1
theorem dX3_addRoom_13 : decode cX3_addRoom 13 = .ok (.aload_n 0, 1) := db522.2.2.2.2.2.2.2.1
theorem dX3_addRoom_14 : decode cX3_addRoom 14 = .ok (.getfield 49, 3) := db522.2.2.2.2.2.2.2.2.1
theorem dX3_addRoom_17 : decode cX3_addRoom 17 = .ok (.iload_n 1, 1) := db522.2.2.2.2.2.2.2.2.2.1
theorem dX3_addRoom_18 : decode cX3_addRoom 18 = .ok (.iastore, 1) := db522.2.2.2.2.2.2.2.2.2.2.1
theorem dX3_addRoom_19 : decode cX3_addRoom 19 = .ok (.aload_n 0, 1) := db522.2.2.2.2.2.2.2.2.2.2.2.1
theorem dX3_addRoom_20 : decode cX3_addRoom 20 = .ok (.getfield 15, 3) := db522.2.2.2.2.2.2.2.2.2.2.2.2.1
theorem dX3_addRoom_23 : decode cX3_addRoom 23 = .ok (.aload_n 0, 1) := db522.2.2.2.2.2.2.2.2.2.2.2.2.2.1
theorem dX3_addRoom_24 : decode cX3_addRoom 24 = .ok (.getfield 49, 3) := db522.2.2.2.2.2.2.2.2.2.2.2.2.2.2.1
theorem dX3_addRoom_27 : decode cX3_addRoom 27 = .ok (.iload_n 2, 1) := db522.2.2.2.2.2.2.2.2.2.2.2.2.2.2.2.1
theorem dX3_addRoom_28 : decode cX3_addRoom 28 = .ok (.iastore, 1) := db522.2.2.2.2.2.2.2.2.2.2.2.2.2.2.2.2.1
theorem dX3_addRoom_29 : decode cX3_addRoom 29 = .ok (.aload_n 0, 1) := db522.2.2.2.2.2.2.2.2.2.2.2.2.2.2.2.2.2.1
theorem dX3_addRoom_30 : decode cX3_addRoom 30 = .ok (.getfield 18, 3) := db522.2.2.2.2.2.2.2.2.2.2.2.2.2.2.2.2.2.2.1
theorem dX3_addRoom_33 : decode cX3_addRoom 33 = .ok (.aload_n 0, 1) := db522.2.2.2.2.2.2.2.2.2.2.2.2.2.2.2.2.2.2.2.1
theorem dX3_addRoom_34 : decode cX3_addRoom 34 = .ok (.getfield 49, 3) := db522.2.2.2.2.2.2.2.2.2.2.2.2.2.2.2.2.2.2.2.2.1
theorem dX3_addRoom_37 : decode cX3_addRoom 37 = .ok (.iload_n 3, 1) := db522.2.2.2.2.2.2.2.2.2.2.2.2.2.2.2.2.2.2.2.2.2.1
theorem dX3_addRoom_38 : decode cX3_addRoom 38 = .ok (.iastore, 1) := db522.2.2.2.2.2.2.2.2.2.2.2.2.2.2.2.2.2.2.2.2.2.2.1
theorem dX3_addRoom_39 : decode cX3_addRoom 39 = .ok (.aload_n 0, 1) := db522.2.2.2.2.2.2.2.2.2.2.2.2.2.2.2.2.2.2.2.2.2.2.2
theorem db523 : (decode cX3_addRoom 40 = .ok (.getfield 21, 3)) ∧ (decode cX3_addRoom 43 = .ok (.aload_n 0, 1)) ∧ (decode cX3_addRoom 44 = .ok (.getfield 49, 3)) ∧ (decode cX3_addRoom 47 = .ok (.iconst 0, 1)) ∧ (decode cX3_addRoom 48 = .ok (.iastore, 1)) ∧ (decode cX3_addRoom 49 = .ok (.aload_n 0, 1)) ∧ (decode cX3_addRoom 50 = .ok (.dup, 1)) ∧ (decode cX3_addRoom 51 = .ok (.getfield 49, 3)) ∧ (decode cX3_addRoom 54 = .ok (.iconst 1, 1)) ∧ (decode cX3_addRoom 55 = .ok (.iadd, 1)) ∧ (decode cX3_addRoom 56 = .ok (.putfield 49, 3)) := by decide +kernel
theorem dX3_addRoom_40 : decode cX3_addRoom 40 = .ok (.getfield 21, 3) := db523.1
theorem dX3_addRoom_43 : decode cX3_addRoom 43 = .ok (.aload_n 0, 1) := db523.2.1
theorem dX3_addRoom_44 : decode cX3_addRoom 44 = .ok (.getfield 49, 3) := db523.2.2.1
theorem dX3_addRoom_47 : decode cX3_addRoom 47 = .ok (.iconst 0, 1) := db523.2.2.2.1
theorem dX3_addRoom_48 : decode cX3_addRoom 48 = .ok (.iastore, 1) := db523.2.2.2.2.1
theorem dX3_addRoom_49 : decode cX3_addRoom 49 = .ok (.aload_n 0, 1) := db523.2.2.2.2.2.1
theorem dX3_addRoom_50 : decode cX3_addRoom 50 = .ok (.dup, 1) := db523.2.2.2.2.2.2.1
theorem dX3_addRoom_51 : decode cX3_addRoom 51 = .ok (.getfield 49, 3) := db523.2.2.2.2.2.2.2.1
theorem dX3_addRoom_54 : decode cX3_addRoom 54 = .ok (.iconst 1, 1) := db523.2.2.2.2.2.2.2.2.1
theorem dX3_addRoom_55 : decode cX3_addRoom 55 = .ok (.iadd, 1) := db523.2.2.2.2.2.2.2.2.2.1
theorem dX3_addRoom_56 : decode cX3_addRoom 56 = .ok (.putfield 49, 3) := db523.2.2.2.2.2.2.2.2.2.2
theorem db524 : (decode cX3_allRooms 0 = .ok (.iconst 1, 1)) ∧ (decode cX3_allRooms 1 = .ok (.aload_n 0, 1)) ∧ (decode cX3_allRooms 2 = .ok (.getfield 49, 3)) ∧ (decode cX3_allRooms 5 = .ok (.ishl, 1)) ∧ (decode cX3_allRooms 6 = .ok (.iconst 1, 1)) ∧ (decode cX3_allRooms 7 = .ok (.isub, 1)) ∧ (decode cX3_allRooms 8 = .ok (.ireturn, 1)) := by decide +kernel
theorem dX3_allRooms_0 : decode cX3_allRooms 0 = .ok (.iconst 1, 1) := db524.1
theorem dX3_allRooms_1 : decode cX3_allRooms 1 = .ok (.aload_n 0, 1) := db524.2.1
theorem dX3_allRooms_2 : decode cX3_allRooms 2 = .ok (.getfield 49, 3) := db524.2.2.1
theorem dX3_allRooms_5 : decode cX3_allRooms 5 = .ok (.ishl, 1) := db524.2.2.2.1
theorem dX3_allRooms_6 : decode cX3_allRooms 6 = .ok (.iconst 1, 1) := db524.2.2.2.2.1
theorem dX3_allRooms_7 : decode cX3_allRooms 7 = .ok (.isub, 1) := db524.2.2.2.2.2.1
theorem dX3_allRooms_8 : decode cX3_allRooms 8 = .ok (.ireturn, 1) := db524.2.2.2.2.2.2
theorem db525 : (decode cX3_allSits 0 = .ok (.iconst 0, 1)) ∧ (decode cX3_allSits 1 = .ok (.istore_n 1, 1)) ∧ (decode cX3_allSits 2 = .ok (.iconst 0, 1)) ∧ (decode cX3_allSits 3 = .ok (.istore_n 2, 1)) ∧ (decode cX3_allSits 4 = .ok (.iload_n 2, 1)) ∧ (decode cX3_allSits 5 = .ok (.aload_n 0, 1)) ∧ (decode cX3_allSits 6 = .ok (.getfield 49, 3)) ∧ (decode cX3_allSits 9 = .ok (.if_icmp .ge 18, 3)) ∧ (decode cX3_allSits 27 = .ok (.iload_n 1, 1)) ∧ (decode cX3_allSits 28 = .ok (.ireturn, 1)) ∧ (decode cX3_allSits 12 = .ok (.iload_n 1, 1)) ∧ (decode cX3_allSits 13 = .ok (.aload_n 0, 1)) ∧ (decode cX3_allSits 14 = .ok (.getfield 18, 3)) ∧ (decode cX3_allSits 17 = .ok (.iload_n 2, 1)) ∧ (decode cX3_allSits 18 = .ok (.iaload, 1)) ∧ (decode cX3_allSits 19 = .ok (.iadd, 1)) ∧ (decode cX3_allSits 20 = .ok (.istore_n 1, 1)) ∧ (decode cX3_allSits 21 = .ok (.iinc 2 1, 3)) ∧ (decode cX3_allSits 24 = .ok (.goto (-20), 3)) := by decide +kernel
theorem dX3_allSits_0 : decode cX3_allSits 0 = .ok (.iconst 0, 1) := db525.1
theorem dX3_allSits_1 : decode cX3_allSits 1 = .ok (.istore_n 1, 1) := db525.2.1
theorem dX3_allSits_2 : decode cX3_allSits 2 = .ok (.iconst 0, 1) := db525.2.2.1
theorem dX3_allSits_3 : decode cX3_allSits 3 = .ok (.istore_n 2, 1) := db525.2.2.2.1
theorem dX3_allSits_4 : decode cX3_allSits 4 = .ok (.iload_n 2, 1) := db525.2.2.2.2.1
theorem dX3_allSits_5 : decode cX3_allSits 5 = .ok (.aload_n 0, 1) := db525.2.2.2.2.2.1
theorem dX3_allSits_6 : decode cX3_allSits 6 = .ok (.getfield 49, 3) := db525.2.2.2.2.2.2.1
theorem dX3_allSits_9 : decode cX3_allSits 9 = .ok (.if_icmp .ge 18, 3) := db525.2.2.2.2.2.2.2.1
theorem dX3_allSits_27 : decode cX3_allSits 27 = .ok (.iload_n 1, 1) := db525.2.2.2.2.2.2.2.2.1
theorem dX3_allSits_28 : decode cX3_allSits 28 = .ok (.ireturn, 1) := db525.2.2.2.2.2.2.2.2.2.1
theorem dX3_allSits_12 : decode cX3_allSits 12 = .ok (.iload_n 1, 1) := db525.2.2.2.2.2.2.2.2.2.2.1
theorem dX3_allSits_13 : decode cX3_allSits 13 = .ok (.aload_n 0, 1) := db525.2.2.2.2.2.2.2.2.2.2.2.1
theorem dX3_allSits_14 : decode cX3_allSits 14 = .ok (.getfield 18, 3) := db525.2.2.2.2.2.2.2.2.2.2.2.2.1
theorem dX3_allSits_17 : decode cX3_allSits 17 = .ok (.iload_n 2, 1) := db525.2.2.2.2.2.2.2.2.2.2.2.2.2.1
theorem dX3_allSits_18 : decode cX3_allSits 18 = .ok (.iaload, 1) := db525.2.2.2.2.2.2.2.2.2.2.2.2.2.2.1
theorem dX3_allSits_19 : decode cX3_allSits 19 = .ok (.iadd, 1) := db525.2.2.2.2.2.2.2.2.2.2.2.2.2.2.2.1
theorem dX3_allSits_20 : decode cX3_allSits 20 = .ok (.istore_n 1, 1) := db525.2.2.2.2.2.2.2.2.2.2.2.2.2.2.2.2.1
theorem dX3_allSits_21 : decode cX3_allSits 21 = .ok (.iinc 2 1, 3) := db525.2.2.2.2.2.2.2.2.2.2.2.2.2.2.2.2.2.1
theorem dX3_allSits_24 : decode cX3_allSits 24 = .ok (.goto (-20), 3) := db525.2.2.2.2.2.2.2.2.2.2.2.2.2.2.2.2.2.2
theorem db526 : (decode cX3_clear 0 = .ok (.aload_n 0, 1)) ∧ (decode cX3_clear 1 = .ok (.iconst 0, 1)) ∧ (decode cX3_clear 2 = .ok (.putfield 33, 3)) ∧ (decode cX3_clear 5 = .ok (.aload_n 0, 1)) ∧ (decode cX3_clear 6 = .ok (.iconst 0, 1)) ∧ (decode cX3_clear 7 = .ok (.putfield 37, 3)) ∧ (decode cX3_clear 10 = .ok (.aload_n 0, 1)) ∧ (decode cX3_clear 11 = .ok (.iconst 0, 1)) ∧ (decode cX3_clear 12 = .ok (.putfield 40, 3)) ∧ (decode cX3_clear 15 = .ok (.aload_n 0, 1)) ∧ (decode cX3_clear 16 = .ok (.iconst 0, 1)) ∧ (decode cX3_clear 17 = .ok (.putfield 43, 3)) ∧ (decode cX3_clear 20 = .ok (.aload_n 0, 1)) ∧ (decode cX3_clear 21 = .ok (.iconst 0, 1)) ∧ (decode cX3_clear 22 = .ok (.putfield 46, 3)) ∧ (decode cX3_clear 25 = .ok (.aload_n 0, 1)) ∧ (decode cX3_clear 26 = .ok (.iconst 0, 1)) ∧ (decode cX3_clear 27 = .ok (.putfield 49, 3)) ∧ (decode cX3_clear 30 = .ok (.aload_n 0, 1)) ∧ (decode cX3_clear 31 = .ok (.iconst 0, 1)) ∧ (decode cX3_clear 32 = .ok (.putfield 52, 3)) ∧ (decode cX3_clear 35 = .ok (.return_, 1)) := by decide +kernel
theorem dX3_clear_0 : decode cX3_clear 0 = .ok (.aload_n 0, 1) := db526.1
theorem dX3_clear_1 : decode cX3_clear 1 = .ok (.iconst 0, 1) := db526.2.1
theorem dX3_clear_2 : decode cX3_clear 2 = .ok (.putfield 33, 3) := db526.2.2.1
theorem dX3_clear_5 : decode cX3_clear 5 = .ok (.aload_n 0, 1) := db526.2.2.2.1
theorem dX3_clear_6 : decode cX3_clear 6 = .ok (.iconst 0, 1) := db526.2.2.2.2.1
theorem dX3_clear_7 : decode cX3_clear 7 = .ok (.putfield 37, 3) := db526.2.2.2.2.2.1
theorem dX3_clear_10 : decode cX3_clear 10 = .ok (.aload_n 0, 1) := db526.2.2.2.2.2.2.1
theorem dX3_clear_11 : decode cX3_clear 11 = .ok (.iconst 0, 1) := db526.2.2.2.2.2.2.2.1
theorem dX3_clear_12 : decode cX3_clear 12 = .ok (.putfield 40, 3) := db526.2.2.2.2.2.2.2.2.1
theorem dX3_clear_15 : decode cX3_clear 15 = .ok (.aload_n 0, 1) := db526.2.2.2.2.2.2.2.2.2.1
theorem dX3_clear_16 : decode cX3_clear 16 = .ok (.iconst 0, 1) := db526.2.2.2.2.2.2.2.2.2.2.1
theorem dX3_clear_17 : decode cX3_clear 17 = .ok (.putfield 43, 3) := db526.2.2.2.2.2.2.2.2.2.2.2.1
theorem dX3_clear_20 : decode cX3_clear 20 = .ok (.aload_n 0, 1) := db526.2.2.2.2.2.2.2.2.2.2.2.2.1
theorem dX3_clear_21 : decode cX3_clear 21 = .ok (.iconst 0, 1) := db526.2.2.2.2.2.2.2.2.2.2.2.2.2.1
theorem dX3_clear_22 : decode cX3_clear 22 = .ok (.putfield 46, 3) := db526.2.2.2.2.2.2.2.2.2.2.2.2.2.2.1
theorem dX3_clear_25 : decode cX3_clear 25 = .ok (.aload_n 0, 1) := db526.2.2.2.2.2.2.2.2.2.2.2.2.2.2.2.1
theorem dX3_clear_26 : decode cX3_clear 26 = .ok (.iconst 0, 1) := db526.2.2.2.2.2.2.2.2.2.2.2.2.2.2.2.2.1
theorem dX3_clear_27 : decode cX3_clear 27 = .ok (.putfield 49, 3) := db526.2.2.2.2.2.2.2.2.2.2.2.2.2.2.2.2.2.1
theorem dX3_clear_30 : decode cX3_clear 30 = .ok (.aload_n 0, 1) := db526.2.2.2.2.2.2.2.2.2.2.2.2.2.2.2.2.2.2.1
theorem dX3_clear_31 : decode cX3_clear 31 = .ok (.iconst 0, 1) := db526.2.2.2.2.2.2.2.2.2.2.2.2.2.2.2.2.2.2.2.1
theorem dX3_clear_32 : decode cX3_clear 32 = .ok (.putfield 52, 3) := db526.2.2.2.2.2.2.2.2.2.2.2.2.2.2.2.2.2.2.2.2.1
theorem dX3_clear_35 : decode cX3_clear 35 = .ok (.return_, 1) := db526.2.2.2.2.2.2.2.2.2.2.2.2.2.2.2.2.2.2.2.2.2
theorem db527 : (decode cX3_closeDoor 0 = .ok (.aload_n 0, 1)) ∧ (decode cX3_closeDoor 1 = .ok (.iload_n 1, 1)) ∧ (decode cX3_closeDoor 2 = .ok (.invokevirtual 61, 3)) ∧ (decode cX3_closeDoor 5 = .ok (.ifCond .eq 39, 3)) ∧ (decode cX3_closeDoor 44 = .ok (.return_, 1)) ∧ (decode cX3_closeDoor 8 = .ok (.aload_n 0, 1)) ∧ (decode cX3_closeDoor 9 = .ok (.iload_n 2, 1)) ∧ (decode cX3_closeDoor 10 = .ok (.invokevirtual 61, 3)) ∧ (decode cX3_closeDoor 13 = .ok (.ifCond .eq 31, 3)) ∧ (decode cX3_closeDoor 16 = .ok (.aload_n 0, 1)) ∧ (decode cX3_closeDoor 17 = .ok (.getfield 21, 3)) ∧ (decode cX3_closeDoor 20 = .ok (.iload_n 1, 1)) ∧ (decode cX3_closeDoor 21 = .ok (.dup2, 1)) ∧ (decode cX3_closeDoor 22 = .ok (.iaload, 1)) ∧ (decode cX3_closeDoor 23 = .ok (.iconst 1, 1)) ∧ (decode cX3_closeDoor 24 = .ok (.iload_n 2, 1)) ∧ (decode cX3_closeDoor 25 = .ok (.ishl, 1)) ∧ (decode cX3_closeDoor 26 = .ok (.iconst (-1), 1)) ∧ (decode cX3_closeDoor 27 = .ok (.ixor, 1)) ∧ (decode cX3_closeDoor 28 = .ok (.iand, 1)) ∧ (decode cX3_closeDoor 29 = .ok (.iastore, 1)) ∧ (decode cX3_closeDoor 30 = .ok (.aload_n 0, 1)) ∧ (decode cX3_closeDoor 31 = .ok (.getfield 21, 3)) ∧ (decode cX3_closeDoor 34 = .ok (.iload_n 2, 1)) := by decide +kernel
theorem dX3_closeDoor_0 : decode cX3_closeDoor 0 = .ok (.aload_n 0, 1) := db527.1
theorem dX3_closeDoor_1 : decode cX3_closeDoor 1 = .ok (.iload_n 1, 1) := db527.2.1
theorem dX3_closeDoor_2 : decode cX3_closeDoor 2 = .ok (.invokevirtual 61, 3) := db527.2.2.1
theorem dX3_closeDoor_5 : decode cX3_closeDoor 5 = .ok (.ifCond .eq 39, 3) := db527.2.2.2.1
theorem dX3_closeDoor_44 : decode cX3_closeDoor 44 = .ok (.return_, 1) := db527.2.2.2.2.1
theorem dX3_closeDoor_8 : decode cX3_closeDoor 8 = .ok (.aload_n 0, 1) := db527.2.2.2.2.2.1
theorem dX3_closeDoor_9 : decode cX3_closeDoor 9 = .ok (.iload_n 2, 1) := db527.2.2.2.2.2.2.1
theorem dX3_closeDoor_10 : decode cX3_closeDoor 10 = .ok (.invokevirtual 61, 3) := db527.2.2.2.2.2.2.2.1
theorem dX3_closeDoor_13 : decode cX3_closeDoor 13 = .ok (.ifCond .eq 31, 3) := db527.2.2.2.2.2.2.2.2.1
theorem dX3_closeDoor_16 : decode cX3_closeDoor 16 = .ok (.aload_n 0, 1) := db527.2.2.2.2.2.2.2.2.2.1
theorem dX3_closeDoor_17 : decode cX3_closeDoor 17 = .ok (.getfield 21, 3) := db527.2.2.2.2.2.2.2.2.2.2.1
theorem dX3_closeDoor_20 : decode cX3_closeDoor 20 = .ok (.iload_n 1, 1) := db527.2.2.2.2.2.2.2.2.2.2.2.1
theorem dX3_closeDoor_21 : decode cX3_closeDoor 21 = .ok (.dup2, 1) := db527.2.2.2.2.2.2.2.2.2.2.2.2.1
theorem dX3_closeDoor_22 : decode cX3_closeDoor 22 = .ok (.iaload, 1) := db527.2.2.2.2.2.2.2.2.2.2.2.2.2.1
theorem dX3_closeDoor_23 : decode cX3_closeDoor 23 = .ok (.iconst 1, 1) := db527.2.2.2.2.2.2.2.2.2.2.2.2.2.2.1
theorem dX3_closeDoor_24 : decode cX3_closeDoor 24 = .ok (.iload_n 2, 1) := db527.2.2.2.2.2.2.2.2.2.2.2.2.2.2.2.1
theorem dX3_closeDoor_25 : decode cX3_closeDoor 25 = .ok (.ishl, 1) := db527.2.2.2.2.2.2.2.2.2.2.2.2.2.2.2.2.1
theorem dX3_closeDoor_26 : decode cX3_closeDoor 26 = .ok (.iconst (-1), 1) := db527.2.2.2.2.2.2.2.2.2.2.2.2.2.2.2.2.2.1
theorem dX3_closeDoor_27 : decode cX3_closeDoor 27 = .ok (.ixor, 1) := db527.2.2.2.2.2.2.2.2.2.2.2.2.2.2.2.2.2.2.1
theorem dX3_closeDoor_28 : decode cX3_closeDoor 28 = .ok (.iand, 1) := db527.2.2.2.2.2.2.2.2.2.2.2.2.2.2.2.2.2.2.2.1
theorem dX3_closeDoor_29 : decode cX3_closeDoor 29 = .ok (.iastore, 1) := db527.2.2.2.2.2.2.2.2.2.2.2.2.2.2.2.2.2.2.2.2.1
theorem dX3_closeDoor_30 : decode cX3_closeDoor 30 = .ok (.aload_n 0, 1) := db527.2.2.2.2.2.2.2.2.2.2.2.2.2.2.2.2.2.2.2.2.2.1
theorem dX3_closeDoor_31 : decode cX3_closeDoor 31 = .ok (.getfield 21, 3) := db527.2.2.2.2.2.2.2.2.2.2.2.2.2.2.2.2.2.2.2.2.2.2.1
theorem dX3_closeDoor_34 : decode cX3_closeDoor 34 = .ok (.iload_n 2, 1) := db527.2.2.2.2.2.2.2.2.2.2.2.2.2.2.2.2.2.2.2.2.2.2.2
theorem db528 : (decode cX3_closeDoor 35 = .ok (.dup2, 1)) ∧ (decode cX3_closeDoor 36 = .ok (.iaload, 1)) ∧ (decode cX3_closeDoor 37 = .ok (.iconst 1, 1)) ∧ (decode cX3_closeDoor 38 = .ok (.iload_n 1, 1)) ∧ (decode cX3_closeDoor 39 = .ok (.ishl, 1)) ∧ (decode cX3_closeDoor 40 = .ok (.iconst (-1), 1)) ∧ (decode cX3_closeDoor 41 = .ok (.ixor, 1)) ∧ (decode cX3_closeDoor 42 = .ok (.iand, 1)) ∧ (decode cX3_closeDoor 43 = .ok (.iastore, 1)) := by decide +kernel
theorem dX3_closeDoor_35 : decode cX3_closeDoor 35 = .ok (.dup2, 1) := db528.1
theorem dX3_closeDoor_36 : decode cX3_closeDoor 36 = .ok (.iaload, 1) := db528.2.1
theorem dX3_closeDoor_37 : decode cX3_closeDoor 37 = .ok (.iconst 1, 1) := db528.2.2.1
theorem dX3_closeDoor_38 : decode cX3_closeDoor 38 = .ok (.iload_n 1, 1) := db528.2.2.2.1
theorem dX3_closeDoor_39 : decode cX3_closeDoor 39 = .ok (.ishl, 1) := db528.2.2.2.2.1
theorem dX3_closeDoor_40 : decode cX3_closeDoor 40 = .ok (.iconst (-1), 1) := db528.2.2.2.2.2.1
theorem dX3_closeDoor_41 : decode cX3_closeDoor 41 = .ok (.ixor, 1) := db528.2.2.2.2.2.2.1
theorem dX3_closeDoor_42 : decode cX3_closeDoor 42 = .ok (.iand, 1) := db528.2.2.2.2.2.2.2.1
theorem dX3_closeDoor_43 : decode cX3_closeDoor 43 = .ok (.iastore, 1) := db528.2.2.2.2.2.2.2.2
theorem db529 : (decode cX3_column 0 = .ok (.iload_n 1, 1)) ∧ (decode cX3_column 1 = .ok (.tableswitch 42 0 2 #[27, 32, 37], 27)) ∧ (decode cX3_column 28 = .ok (.aload_n 0, 1)) ∧ (decode cX3_column 29 = .ok (.getfield 9, 3)) ∧ (decode cX3_column 32 = .ok (.areturn, 1)) ∧ (decode cX3_column 33 = .ok (.aload_n 0, 1)) ∧ (decode cX3_column 34 = .ok (.getfield 15, 3)) ∧ (decode cX3_column 37 = .ok (.areturn, 1)) ∧ (decode cX3_column 38 = .ok (.aload_n 0, 1)) ∧ (decode cX3_column 39 = .ok (.getfield 18, 3)) ∧ (decode cX3_column 42 = .ok (.areturn, 1)) ∧ (decode cX3_column 43 = .ok (.aload_n 0, 1)) ∧ (decode cX3_column 44 = .ok (.getfield 21, 3)) ∧ (decode cX3_column 47 = .ok (.areturn, 1)) := by decide +kernel
theorem dX3_column_0 : decode cX3_column 0 = .ok (.iload_n 1, 1) := db529.1
theorem dX3_column_1 : decode cX3_column 1 = .ok (.tableswitch 42 0 2 #[27, 32, 37], 27) := db529.2.1
theorem dX3_column_28 : decode cX3_column 28 = .ok (.aload_n 0, 1) := db529.2.2.1
theorem dX3_column_29 : decode cX3_column 29 = .ok (.getfield 9, 3) := db529.2.2.2.1
theorem dX3_column_32 : decode cX3_column 32 = .ok (.areturn, 1) := db529.2.2.2.2.1
theorem dX3_column_33 : decode cX3_column 33 = .ok (.aload_n 0, 1) := db529.2.2.2.2.2.1
theorem dX3_column_34 : decode cX3_column 34 = .ok (.getfield 15, 3) := db529.2.2.2.2.2.2.1
theorem dX3_column_37 : decode cX3_column 37 = .ok (.areturn, 1) := db529.2.2.2.2.2.2.2.1
theorem dX3_column_38 : decode cX3_column 38 = .ok (.aload_n 0, 1) := db529.2.2.2.2.2.2.2.2.1
theorem dX3_column_39 : decode cX3_column 39 = .ok (.getfield 18, 3) := db529.2.2.2.2.2.2.2.2.2.1
theorem dX3_column_42 : decode cX3_column 42 = .ok (.areturn, 1) := db529.2.2.2.2.2.2.2.2.2.2.1
theorem dX3_column_43 : decode cX3_column 43 = .ok (.aload_n 0, 1) := db529.2.2.2.2.2.2.2.2.2.2.2.1
theorem dX3_column_44 : decode cX3_column 44 = .ok (.getfield 21, 3) := db529.2.2.2.2.2.2.2.2.2.2.2.2.1
theorem dX3_column_47 : decode cX3_column 47 = .ok (.areturn, 1) := db529.2.2.2.2.2.2.2.2.2.2.2.2.2
theorem db530 : (decode cX3_copyFrom 0 = .ok (.aload_n 0, 1)) ∧ (decode cX3_copyFrom 1 = .ok (.aload_n 1, 1)) ∧ (decode cX3_copyFrom 2 = .ok (.getfield 33, 3)) ∧ (decode cX3_copyFrom 5 = .ok (.putfield 33, 3)) ∧ (decode cX3_copyFrom 8 = .ok (.aload_n 0, 1)) ∧ (decode cX3_copyFrom 9 = .ok (.aload_n 1, 1)) ∧ (decode cX3_copyFrom 10 = .ok (.getfield 37, 3)) ∧ (decode cX3_copyFrom 13 = .ok (.putfield 37, 3)) ∧ (decode cX3_copyFrom 16 = .ok (.aload_n 0, 1)) ∧ (decode cX3_copyFrom 17 = .ok (.aload_n 1, 1)) ∧ (decode cX3_copyFrom 18 = .ok (.getfield 40, 3)) ∧ (decode cX3_copyFrom 21 = .ok (.putfield 40, 3)) ∧ (decode cX3_copyFrom 24 = .ok (.aload_n 0, 1)) ∧ (decode cX3_copyFrom 25 = .ok (.aload_n 1, 1)) ∧ (decode cX3_copyFrom 26 = .ok (.getfield 43, 3)) ∧ (decode cX3_copyFrom 29 = .ok (.putfield 43, 3)) ∧ (decode cX3_copyFrom 32 = .ok (.aload_n 0, 1)) ∧ (decode cX3_copyFrom 33 = .ok (.aload_n 1, 1)) ∧ (decode cX3_copyFrom 34 = .ok (.getfield 46, 3)) ∧ (decode cX3_copyFrom 37 = .ok (.putfield 46, 3)) ∧ (decode cX3_copyFrom 40 = .ok (.aload_n 0, 1)) ∧ (decode cX3_copyFrom 41 = .ok (.aload_n 1, 1)) ∧ (decode cX3_copyFrom 42 = .ok (.getfield 49, 3)) ∧ (decode cX3_copyFrom 45 = .ok (.putfield 49, 3)) := by decide +kernel
theorem dX3_copyFrom_0 : decode cX3_copyFrom 0 = .ok (.aload_n 0, 1) := db530.1
theorem dX3_copyFrom_1 : decode cX3_copyFrom 1 = .ok (.aload_n 1, 1) := db530.2.1
theorem dX3_copyFrom_2 : decode cX3_copyFrom 2 = .ok (.getfield 33, 3) := db530.2.2.1
theorem dX3_copyFrom_5 : decode cX3_copyFrom 5 = .ok (.putfield 33, 3) := db530.2.2.2.1
theorem dX3_copyFrom_8 : decode cX3_copyFrom 8 = .ok (.aload_n 0, 1) := db530.2.2.2.2.1
theorem dX3_copyFrom_9 : decode cX3_copyFrom 9 = .ok (.aload_n 1, 1) := db530.2.2.2.2.2.1
theorem dX3_copyFrom_10 : decode cX3_copyFrom 10 = .ok (.getfield 37, 3) := db530.2.2.2.2.2.2.1
theorem dX3_copyFrom_13 : decode cX3_copyFrom 13 = .ok (.putfield 37, 3) := db530.2.2.2.2.2.2.2.1
theorem dX3_copyFrom_16 : decode cX3_copyFrom 16 = .ok (.aload_n 0, 1) := db530.2.2.2.2.2.2.2.2.1
theorem dX3_copyFrom_17 : decode cX3_copyFrom 17 = .ok (.aload_n 1, 1) := db530.2.2.2.2.2.2.2.2.2.1
theorem dX3_copyFrom_18 : decode cX3_copyFrom 18 = .ok (.getfield 40, 3) := db530.2.2.2.2.2.2.2.2.2.2.1
theorem dX3_copyFrom_21 : decode cX3_copyFrom 21 = .ok (.putfield 40, 3) := db530.2.2.2.2.2.2.2.2.2.2.2.1
theorem dX3_copyFrom_24 : decode cX3_copyFrom 24 = .ok (.aload_n 0, 1) := db530.2.2.2.2.2.2.2.2.2.2.2.2.1
theorem dX3_copyFrom_25 : decode cX3_copyFrom 25 = .ok (.aload_n 1, 1) := db530.2.2.2.2.2.2.2.2.2.2.2.2.2.1
theorem dX3_copyFrom_26 : decode cX3_copyFrom 26 = .ok (.getfield 43, 3) := db530.2.2.2.2.2.2.2.2.2.2.2.2.2.2.1
theorem dX3_copyFrom_29 : decode cX3_copyFrom 29 = .ok (.putfield 43, 3) := db530.2.2.2.2.2.2.2.2.2.2.2.2.2.2.2.1
theorem dX3_copyFrom_32 : decode cX3_copyFrom 32 = .ok (.aload_n 0, 1) := db530.2.2.2.2.2.2.2.2.2.2.2.2.2.2.2.2.1
theorem dX3_copyFrom_33 : decode cX3_copyFrom 33 = .ok (.aload_n 1, 1) := db530.2.2.2.2.2.2.2.2.2.2.2.2.2.2.2.2.2.1
theorem dX3_copyFrom_34 : decode cX3_copyFrom 34 = .ok (.getfield 46, 3) := db530.2.2.2.2.2.2.2.2.2.2.2.2.2.2.2.2.2.2.1
theorem dX3_copyFrom_37 : decode cX3_copyFrom 37 = .ok (.putfield 46, 3) := db530.2.2.2.2.2.2.2.2.2.2.2.2.2.2.2.2.2.2.2.1
theorem dX3_copyFrom_40 : decode cX3_copyFrom 40 = .ok (.aload_n 0, 1) := db530.2.2.2.2.2.2.2.2.2.2.2.2.2.2.2.2.2.2.2.2.1
theorem dX3_copyFrom_41 : decode cX3_copyFrom 41 = .ok (.aload_n 1, 1) := db530.2.2.2.2.2.2.2.2.2.2.2.2.2.2.2.2.2.2.2.2.2.1
theorem dX3_copyFrom_42 : decode cX3_copyFrom 42 = .ok (.getfield 49, 3) := db530.2.2.2.2.2.2.2.2.2.2.2.2.2.2.2.2.2.2.2.2.2.2.1
theorem dX3_copyFrom_45 : decode cX3_copyFrom 45 = .ok (.putfield 49, 3) := db530.2.2.2.2.2.2.2.2.2.2.2.2.2.2.2.2.2.2.2.2.2.2.2
theorem db531 : (decode cX3_copyFrom 48 = .ok (.aload_n 0, 1)) ∧ (decode cX3_copyFrom 49 = .ok (.aload_n 1, 1)) ∧ (decode cX3_copyFrom 50 = .ok (.getfield 52, 3)) ∧ (decode cX3_copyFrom 53 = .ok (.putfield 52, 3)) ∧ (decode cX3_copyFrom 56 = .ok (.aload_n 1, 1)) ∧ (decode cX3_copyFrom 57 = .ok (.getfield 9, 3)) ∧ (decode cX3_copyFrom 60 = .ok (.iconst 0, 1)) ∧ (decode cX3_copyFrom 61 = .ok (.aload_n 0, 1)) ∧ (decode cX3_copyFrom 62 = .ok (.getfield 9, 3)) ∧ (decode cX3_copyFrom 65 = .ok (.iconst 0, 1)) ∧ (decode cX3_copyFrom 66 = .ok (.bipush 7, 2)) ∧ (decode cX3_copyFrom 68 = .ok (.invokestatic 55, 3)) ∧ (decode cX3_copyFrom 71 = .ok (.aload_n 1, 1)) ∧ (decode cX3_copyFrom 72 = .ok (.getfield 15, 3)) ∧ (decode cX3_copyFrom 75 = .ok (.iconst 0, 1)) ∧ (decode cX3_copyFrom 76 = .ok (.aload_n 0, 1)) ∧ (decode cX3_copyFrom 77 = .ok (.getfield 15, 3)) ∧ (decode cX3_copyFrom 80 = .ok (.iconst 0, 1)) ∧ (decode cX3_copyFrom 81 = .ok (.bipush 7, 2)) ∧ (decode cX3_copyFrom 83 = .ok (.invokestatic 55, 3)) ∧ (decode cX3_copyFrom 86 = .ok (.aload_n 1, 1)) ∧ (decode cX3_copyFrom 87 = .ok (.getfield 18, 3)) ∧ (decode cX3_copyFrom 90 = .ok (.iconst 0, 1)) ∧ (decode cX3_copyFrom 91 = .ok (.aload_n 0, 1)) := by decide +kernel
theorem dX3_copyFrom_48 : decode cX3_copyFrom 48 = .ok (.aload_n 0, 1) := db531.1
theorem dX3_copyFrom_49 : decode cX3_copyFrom 49 = .ok (.aload_n 1, 1) := db531.2.1
theorem dX3_copyFrom_50 : decode cX3_copyFrom 50 = .ok (.getfield 52, 3) := db531.2.2.1
theorem dX3_copyFrom_53 : decode cX3_copyFrom 53 = .ok (.putfield 52, 3) := db531.2.2.2.1
theorem dX3_copyFrom_56 : decode cX3_copyFrom 56 = .ok (.aload_n 1, 1) := db531.2.2.2.2.1
theorem dX3_copyFrom_57 : decode cX3_copyFrom 57 = .ok (.getfield 9, 3) := db531.2.2.2.2.2.1
theorem dX3_copyFrom_60 : decode cX3_copyFrom 60 = .ok (.iconst 0, 1) := db531.2.2.2.2.2.2.1
theorem dX3_copyFrom_61 : decode cX3_copyFrom 61 = .ok (.aload_n 0, 1) := db531.2.2.2.2.2.2.2.1
theorem dX3_copyFrom_62 : decode cX3_copyFrom 62 = .ok (.getfield 9, 3) := db531.2.2.2.2.2.2.2.2.1
theorem dX3_copyFrom_65 : decode cX3_copyFrom 65 = .ok (.iconst 0, 1) := db531.2.2.2.2.2.2.2.2.2.1
theorem dX3_copyFrom_66 : decode cX3_copyFrom 66 = .ok (.bipush 7, 2) := db531.2.2.2.2.2.2.2.2.2.2.1
theorem dX3_copyFrom_68 : decode cX3_copyFrom 68 = .ok (.invokestatic 55, 3) := db531.2.2.2.2.2.2.2.2.2.2.2.1
theorem dX3_copyFrom_71 : decode cX3_copyFrom 71 = .ok (.aload_n 1, 1) := db531.2.2.2.2.2.2.2.2.2.2.2.2.1
theorem dX3_copyFrom_72 : decode cX3_copyFrom 72 = .ok (.getfield 15, 3) := db531.2.2.2.2.2.2.2.2.2.2.2.2.2.1
theorem dX3_copyFrom_75 : decode cX3_copyFrom 75 = .ok (.iconst 0, 1) := db531.2.2.2.2.2.2.2.2.2.2.2.2.2.2.1
theorem dX3_copyFrom_76 : decode cX3_copyFrom 76 = .ok (.aload_n 0, 1) := db531.2.2.2.2.2.2.2.2.2.2.2.2.2.2.2.1
theorem dX3_copyFrom_77 : decode cX3_copyFrom 77 = .ok (.getfield 15, 3) := db531.2.2.2.2.2.2.2.2.2.2.2.2.2.2.2.2.1
theorem dX3_copyFrom_80 : decode cX3_copyFrom 80 = .ok (.iconst 0, 1) := db531.2.2.2.2.2.2.2.2.2.2.2.2.2.2.2.2.2.1
theorem dX3_copyFrom_81 : decode cX3_copyFrom 81 = .ok (.bipush 7, 2) := db531.2.2.2.2.2.2.2.2.2.2.2.2.2.2.2.2.2.2.1
theorem dX3_copyFrom_83 : decode cX3_copyFrom 83 = .ok (.invokestatic 55, 3) := db531.2.2.2.2.2.2.2.2.2.2.2.2.2.2.2.2.2.2.2.1
theorem dX3_copyFrom_86 : decode cX3_copyFrom 86 = .ok (.aload_n 1, 1) := db531.2.2.2.2.2.2.2.2.2.2.2.2.2.2.2.2.2.2.2.2.1
theorem dX3_copyFrom_87 : decode cX3_copyFrom 87 = .ok (.getfield 18, 3) := db531.2.2.2.2.2.2.2.2.2.2.2.2.2.2.2.2.2.2.2.2.2.1
theorem dX3_copyFrom_90 : decode cX3_copyFrom 90 = .ok (.iconst 0, 1) := db531.2.2.2.2.2.2.2.2.2.2.2.2.2.2.2.2.2.2.2.2.2.2.1
theorem dX3_copyFrom_91 : decode cX3_copyFrom 91 = .ok (.aload_n 0, 1) := db531.2.2.2.2.2.2.2.2.2.2.2.2.2.2.2.2.2.2.2.2.2.2.2
theorem db532 : (decode cX3_copyFrom 92 = .ok (.getfield 18, 3)) ∧ (decode cX3_copyFrom 95 = .ok (.iconst 0, 1)) ∧ (decode cX3_copyFrom 96 = .ok (.bipush 7, 2)) ∧ (decode cX3_copyFrom 98 = .ok (.invokestatic 55, 3)) ∧ (decode cX3_copyFrom 101 = .ok (.aload_n 1, 1)) ∧ (decode cX3_copyFrom 102 = .ok (.getfield 21, 3)) ∧ (decode cX3_copyFrom 105 = .ok (.iconst 0, 1)) ∧ (decode cX3_copyFrom 106 = .ok (.aload_n 0, 1)) ∧ (decode cX3_copyFrom 107 = .ok (.getfield 21, 3)) ∧ (decode cX3_copyFrom 110 = .ok (.iconst 0, 1)) ∧ (decode cX3_copyFrom 111 = .ok (.bipush 7, 2)) ∧ (decode cX3_copyFrom 113 = .ok (.invokestatic 55, 3)) ∧ (decode cX3_copyFrom 116 = .ok (.aload_n 1, 1)) ∧ (decode cX3_copyFrom 117 = .ok (.getfield 24, 3)) ∧ (decode cX3_copyFrom 120 = .ok (.iconst 0, 1)) ∧ (decode cX3_copyFrom 121 = .ok (.aload_n 0, 1)) ∧ (decode cX3_copyFrom 122 = .ok (.getfield 24, 3)) ∧ (decode cX3_copyFrom 125 = .ok (.iconst 0, 1)) ∧ (decode cX3_copyFrom 126 = .ok (.bipush 6, 2)) ∧ (decode cX3_copyFrom 128 = .ok (.invokestatic 55, 3)) ∧ (decode cX3_copyFrom 131 = .ok (.aload_n 1, 1)) ∧ (decode cX3_copyFrom 132 = .ok (.getfield 27, 3)) ∧ (decode cX3_copyFrom 135 = .ok (.iconst 0, 1)) ∧ (decode cX3_copyFrom 136 = .ok (.aload_n 0, 1)) := by decide +kernel
theorem dX3_copyFrom_92 : decode cX3_copyFrom 92 = .ok (.getfield 18, 3) := db532.1
theorem dX3_copyFrom_95 : decode cX3_copyFrom 95 = .ok (.iconst 0, 1) := db532.2.1
theorem dX3_copyFrom_96 : decode cX3_copyFrom 96 = .ok (.bipush 7, 2) := db532.2.2.1
theorem dX3_copyFrom_98 : decode cX3_copyFrom 98 = .ok (.invokestatic 55, 3) := db532.2.2.2.1
theorem dX3_copyFrom_101 : decode cX3_copyFrom 101 = .ok (.aload_n 1, 1) := db532.2.2.2.2.1
theorem dX3_copyFrom_102 : decode cX3_copyFrom 102 = .ok (.getfield 21, 3) := db532.2.2.2.2.2.1
theorem dX3_copyFrom_105 : decode cX3_copyFrom 105 = .ok (.iconst 0, 1) := db532.2.2.2.2.2.2.1
theorem dX3_copyFrom_106 : decode cX3_copyFrom 106 = .ok (.aload_n 0, 1) := db532.2.2.2.2.2.2.2.1
theorem dX3_copyFrom_107 : decode cX3_copyFrom 107 = .ok (.getfield 21, 3) := db532.2.2.2.2.2.2.2.2.1
theorem dX3_copyFrom_110 : decode cX3_copyFrom 110 = .ok (.iconst 0, 1) := db532.2.2.2.2.2.2.2.2.2.1
theorem dX3_copyFrom_111 : decode cX3_copyFrom 111 = .ok (.bipush 7, 2) := db532.2.2.2.2.2.2.2.2.2.2.1
theorem dX3_copyFrom_113 : decode cX3_copyFrom 113 = .ok (.invokestatic 55, 3) := db532.2.2.2.2.2.2.2.2.2.2.2.1
theorem dX3_copyFrom_116 : decode cX3_copyFrom 116 = .ok (.aload_n 1, 1) := db532.2.2.2.2.2.2.2.2.2.2.2.2.1
theorem dX3_copyFrom_117 : decode cX3_copyFrom 117 = .ok (.getfield 24, 3) := db532.2.2.2.2.2.2.2.2.2.2.2.2.2.1
theorem dX3_copyFrom_120 : decode cX3_copyFrom 120 = .ok (.iconst 0, 1) := db532.2.2.2.2.2.2.2.2.2.2.2.2.2.2.1
theorem dX3_copyFrom_121 : decode cX3_copyFrom 121 = .ok (.aload_n 0, 1) := db532.2.2.2.2.2.2.2.2.2.2.2.2.2.2.2.1
theorem dX3_copyFrom_122 : decode cX3_copyFrom 122 = .ok (.getfield 24, 3) := db532.2.2.2.2.2.2.2.2.2.2.2.2.2.2.2.2.1
theorem dX3_copyFrom_125 : decode cX3_copyFrom 125 = .ok (.iconst 0, 1) := db532.2.2.2.2.2.2.2.2.2.2.2.2.2.2.2.2.2.1
theorem dX3_copyFrom_126 : decode cX3_copyFrom 126 = .ok (.bipush 6, 2) := db532.2.2.2.2.2.2.2.2.2.2.2.2.2.2.2.2.2.2.1
theorem dX3_copyFrom_128 : decode cX3_copyFrom 128 = .ok (.invokestatic 55, 3) := db532.2.2.2.2.2.2.2.2.2.2.2.2.2.2.2.2.2.2.2.1
theorem dX3_copyFrom_131 : decode cX3_copyFrom 131 = .ok (.aload_n 1, 1) := db532.2.2.2.2.2.2.2.2.2.2.2.2.2.2.2.2.2.2.2.2.1
theorem dX3_copyFrom_132 : decode cX3_copyFrom 132 = .ok (.getfield 27, 3) := db532.2.2.2.2.2.2.2.2.2.2.2.2.2.2.2.2.2.2.2.2.2.1
theorem dX3_copyFrom_135 : decode cX3_copyFrom 135 = .ok (.iconst 0, 1) := db532.2.2.2.2.2.2.2.2.2.2.2.2.2.2.2.2.2.2.2.2.2.2.1
theorem dX3_copyFrom_136 : decode cX3_copyFrom 136 = .ok (.aload_n 0, 1) := db532.2.2.2.2.2.2.2.2.2.2.2.2.2.2.2.2.2.2.2.2.2.2.2
theorem db533 : (decode cX3_copyFrom 137 = .ok (.getfield 27, 3)) ∧ (decode cX3_copyFrom 140 = .ok (.iconst 0, 1)) ∧ (decode cX3_copyFrom 141 = .ok (.bipush 6, 2)) ∧ (decode cX3_copyFrom 143 = .ok (.invokestatic 55, 3)) ∧ (decode cX3_copyFrom 146 = .ok (.aload_n 1, 1)) ∧ (decode cX3_copyFrom 147 = .ok (.getfield 30, 3)) ∧ (decode cX3_copyFrom 150 = .ok (.iconst 0, 1)) ∧ (decode cX3_copyFrom 151 = .ok (.aload_n 0, 1)) ∧ (decode cX3_copyFrom 152 = .ok (.getfield 30, 3)) ∧ (decode cX3_copyFrom 155 = .ok (.iconst 0, 1)) ∧ (decode cX3_copyFrom 156 = .ok (.bipush 36, 2)) ∧ (decode cX3_copyFrom 158 = .ok (.invokestatic 55, 3)) ∧ (decode cX3_copyFrom 161 = .ok (.return_, 1)) := by decide +kernel
theorem dX3_copyFrom_137 : decode cX3_copyFrom 137 = .ok (.getfield 27, 3) := db533.1
theorem dX3_copyFrom_140 : decode cX3_copyFrom 140 = .ok (.iconst 0, 1) := db533.2.1
theorem dX3_copyFrom_141 : decode cX3_copyFrom 141 = .ok (.bipush 6, 2) := db533.2.2.1
theorem dX3_copyFrom_143 : decode cX3_copyFrom 143 = .ok (.invokestatic 55, 3) := db533.2.2.2.1
theorem dX3_copyFrom_146 : decode cX3_copyFrom 146 = .ok (.aload_n 1, 1) := db533.2.2.2.2.1
theorem dX3_copyFrom_147 : decode cX3_copyFrom 147 = .ok (.getfield 30, 3) := db533.2.2.2.2.2.1
theorem dX3_copyFrom_150 : decode cX3_copyFrom 150 = .ok (.iconst 0, 1) := db533.2.2.2.2.2.2.1
theorem dX3_copyFrom_151 : decode cX3_copyFrom 151 = .ok (.aload_n 0, 1) := db533.2.2.2.2.2.2.2.1
theorem dX3_copyFrom_152 : decode cX3_copyFrom 152 = .ok (.getfield 30, 3) := db533.2.2.2.2.2.2.2.2.1
theorem dX3_copyFrom_155 : decode cX3_copyFrom 155 = .ok (.iconst 0, 1) := db533.2.2.2.2.2.2.2.2.2.1
theorem dX3_copyFrom_156 : decode cX3_copyFrom 156 = .ok (.bipush 36, 2) := db533.2.2.2.2.2.2.2.2.2.2.1
theorem dX3_copyFrom_158 : decode cX3_copyFrom 158 = .ok (.invokestatic 55, 3) := db533.2.2.2.2.2.2.2.2.2.2.2.1
theorem dX3_copyFrom_161 : decode cX3_copyFrom 161 = .ok (.return_, 1) := db533.2.2.2.2.2.2.2.2.2.2.2.2
theorem db534 : (decode cX3_countDoors 0 = .ok (.iconst 0, 1)) ∧ (decode cX3_countDoors 1 = .ok (.istore_n 1, 1)) ∧ (decode cX3_countDoors 2 = .ok (.iconst 0, 1)) ∧ (decode cX3_countDoors 3 = .ok (.istore_n 2, 1)) ∧ (decode cX3_countDoors 4 = .ok (.iload_n 2, 1)) ∧ (decode cX3_countDoors 5 = .ok (.aload_n 0, 1)) ∧ (decode cX3_countDoors 6 = .ok (.getfield 49, 3)) ∧ (decode cX3_countDoors 9 = .ok (.if_icmp .ge 21, 3)) ∧ (decode cX3_countDoors 30 = .ok (.iload_n 1, 1)) ∧ (decode cX3_countDoors 31 = .ok (.iconst 2, 1)) ∧ (decode cX3_countDoors 32 = .ok (.idiv, 1)) ∧ (decode cX3_countDoors 33 = .ok (.ireturn, 1)) ∧ (decode cX3_countDoors 12 = .ok (.iload_n 1, 1)) ∧ (decode cX3_countDoors 13 = .ok (.aload_n 0, 1)) ∧ (decode cX3_countDoors 14 = .ok (.getfield 21, 3)) ∧ (decode cX3_countDoors 17 = .ok (.iload_n 2, 1)) ∧ (decode cX3_countDoors 18 = .ok (.iaload, 1)) ∧ (decode cX3_countDoors 19 = .ok (.invokestatic 69, 3)) ∧ (decode cX3_countDoors 22 = .ok (.iadd, 1)) ∧ (decode cX3_countDoors 23 = .ok (.istore_n 1, 1)) ∧ (decode cX3_countDoors 24 = .ok (.iinc 2 1, 3)) ∧ (decode cX3_countDoors 27 = .ok (.goto (-23), 3)) := by decide +kernel
theorem dX3_countDoors_0 : decode cX3_countDoors 0 = .ok (.iconst 0, 1) := db534.1
theorem dX3_countDoors_1 : decode cX3_countDoors 1 = .ok (.istore_n 1, 1) := db534.2.1
theorem dX3_countDoors_2 : decode cX3_countDoors 2 = .ok (.iconst 0, 1) := db534.2.2.1
theorem dX3_countDoors_3 : decode cX3_countDoors 3 = .ok (.istore_n 2, 1) := db534.2.2.2.1
theorem dX3_countDoors_4 : decode cX3_countDoors 4 = .ok (.iload_n 2, 1) := db534.2.2.2.2.1
theorem dX3_countDoors_5 : decode cX3_countDoors 5 = .ok (.aload_n 0, 1) := db534.2.2.2.2.2.1
theorem dX3_countDoors_6 : decode cX3_countDoors 6 = .ok (.getfield 49, 3) := db534.2.2.2.2.2.2.1
theorem dX3_countDoors_9 : decode cX3_countDoors 9 = .ok (.if_icmp .ge 21, 3) := db534.2.2.2.2.2.2.2.1
theorem dX3_countDoors_30 : decode cX3_countDoors 30 = .ok (.iload_n 1, 1) := db534.2.2.2.2.2.2.2.2.1
theorem dX3_countDoors_31 : decode cX3_countDoors 31 = .ok (.iconst 2, 1) := db534.2.2.2.2.2.2.2.2.2.1
theorem dX3_countDoors_32 : decode cX3_countDoors 32 = .ok (.idiv, 1) := db534.2.2.2.2.2.2.2.2.2.2.1
theorem dX3_countDoors_33 : decode cX3_countDoors 33 = .ok (.ireturn, 1) := db534.2.2.2.2.2.2.2.2.2.2.2.1
theorem dX3_countDoors_12 : decode cX3_countDoors 12 = .ok (.iload_n 1, 1) := db534.2.2.2.2.2.2.2.2.2.2.2.2.1
theorem dX3_countDoors_13 : decode cX3_countDoors 13 = .ok (.aload_n 0, 1) := db534.2.2.2.2.2.2.2.2.2.2.2.2.2.1
theorem dX3_countDoors_14 : decode cX3_countDoors 14 = .ok (.getfield 21, 3) := db534.2.2.2.2.2.2.2.2.2.2.2.2.2.2.1
theorem dX3_countDoors_17 : decode cX3_countDoors 17 = .ok (.iload_n 2, 1) := db534.2.2.2.2.2.2.2.2.2.2.2.2.2.2.2.1
theorem dX3_countDoors_18 : decode cX3_countDoors 18 = .ok (.iaload, 1) := db534.2.2.2.2.2.2.2.2.2.2.2.2.2.2.2.2.1
theorem dX3_countDoors_19 : decode cX3_countDoors 19 = .ok (.invokestatic 69, 3) := db534.2.2.2.2.2.2.2.2.2.2.2.2.2.2.2.2.2.1
theorem dX3_countDoors_22 : decode cX3_countDoors 22 = .ok (.iadd, 1) := db534.2.2.2.2.2.2.2.2.2.2.2.2.2.2.2.2.2.2.1
theorem dX3_countDoors_23 : decode cX3_countDoors 23 = .ok (.istore_n 1, 1) := db534.2.2.2.2.2.2.2.2.2.2.2.2.2.2.2.2.2.2.2.1
theorem dX3_countDoors_24 : decode cX3_countDoors 24 = .ok (.iinc 2 1, 3) := db534.2.2.2.2.2.2.2.2.2.2.2.2.2.2.2.2.2.2.2.2.1
theorem dX3_countDoors_27 : decode cX3_countDoors 27 = .ok (.goto (-23), 3) := db534.2.2.2.2.2.2.2.2.2.2.2.2.2.2.2.2.2.2.2.2.2
theorem db535 : (decode cX3_hasRoom 0 = .ok (.iload_n 1, 1)) ∧ (decode cX3_hasRoom 1 = .ok (.ifCond .lt 15, 3)) ∧ (decode cX3_hasRoom 16 = .ok (.iconst 0, 1)) ∧ (decode cX3_hasRoom 17 = .ok (.ireturn, 1)) ∧ (decode cX3_hasRoom 4 = .ok (.iload_n 1, 1)) ∧ (decode cX3_hasRoom 5 = .ok (.aload_n 0, 1)) ∧ (decode cX3_hasRoom 6 = .ok (.getfield 49, 3)) ∧ (decode cX3_hasRoom 9 = .ok (.if_icmp .ge 7, 3)) ∧ (decode cX3_hasRoom 12 = .ok (.iconst 1, 1)) ∧ (decode cX3_hasRoom 13 = .ok (.goto 4, 3)) := by decide +kernel
theorem dX3_hasRoom_0 : decode cX3_hasRoom 0 = .ok (.iload_n 1, 1) := db535.1
theorem dX3_hasRoom_1 : decode cX3_hasRoom 1 = .ok (.ifCond .lt 15, 3) := db535.2.1
theorem dX3_hasRoom_16 : decode cX3_hasRoom 16 = .ok (.iconst 0, 1) := db535.2.2.1
theorem dX3_hasRoom_17 : decode cX3_hasRoom 17 = .ok (.ireturn, 1) := db535.2.2.2.1
theorem dX3_hasRoom_4 : decode cX3_hasRoom 4 = .ok (.iload_n 1, 1) := db535.2.2.2.2.1
theorem dX3_hasRoom_5 : decode cX3_hasRoom 5 = .ok (.aload_n 0, 1) := db535.2.2.2.2.2.1
theorem dX3_hasRoom_6 : decode cX3_hasRoom 6 = .ok (.getfield 49, 3) := db535.2.2.2.2.2.2.1
theorem dX3_hasRoom_9 : decode cX3_hasRoom 9 = .ok (.if_icmp .ge 7, 3) := db535.2.2.2.2.2.2.2.1
theorem dX3_hasRoom_12 : decode cX3_hasRoom 12 = .ok (.iconst 1, 1) := db535.2.2.2.2.2.2.2.2.1
theorem dX3_hasRoom_13 : decode cX3_hasRoom 13 = .ok (.goto 4, 3) := db535.2.2.2.2.2.2.2.2.2
theorem db536 : (decode cX3_heard 0 = .ok (.aload_n 0, 1)) ∧ (decode cX3_heard 1 = .ok (.iload_n 1, 1)) ∧ (decode cX3_heard 2 = .ok (.invokevirtual 61, 3)) ∧ (decode cX3_heard 5 = .ok (.ifCond .eq 7, 3)) ∧ (decode cX3_heard 12 = .ok (.iconst 0, 1)) ∧ (decode cX3_heard 13 = .ok (.ireturn, 1)) ∧ (decode cX3_heard 8 = .ok (.iload_n 2, 1)) ∧ (decode cX3_heard 9 = .ok (.ifCond .ge 5, 3)) ∧ (decode cX3_heard 14 = .ok (.bipush 100, 2)) ∧ (decode cX3_heard 16 = .ok (.bipush 100, 2)) ∧ (decode cX3_heard 18 = .ok (.aload_n 0, 1)) ∧ (decode cX3_heard 19 = .ok (.getfield 15, 3)) ∧ (decode cX3_heard 22 = .ok (.iload_n 1, 1)) ∧ (decode cX3_heard 23 = .ok (.iaload, 1)) ∧ (decode cX3_heard 24 = .ok (.isub, 1)) ∧ (decode cX3_heard 25 = .ok (.iload_n 2, 1)) ∧ (decode cX3_heard 26 = .ok (.iconst 1, 1)) ∧ (decode cX3_heard 27 = .ok (.iadd, 1)) ∧ (decode cX3_heard 28 = .ok (.idiv, 1)) ∧ (decode cX3_heard 29 = .ok (.isub, 1)) ∧ (decode cX3_heard 30 = .ok (.ireturn, 1)) := by decide +kernel
theorem dX3_heard_0 : decode cX3_heard 0 = .ok (.aload_n 0, 1) := db536.1
theorem dX3_heard_1 : decode cX3_heard 1 = .ok (.iload_n 1, 1) := db536.2.1
theorem dX3_heard_2 : decode cX3_heard 2 = .ok (.invokevirtual 61, 3) := db536.2.2.1
theorem dX3_heard_5 : decode cX3_heard 5 = .ok (.ifCond .eq 7, 3) := db536.2.2.2.1
theorem dX3_heard_12 : decode cX3_heard 12 = .ok (.iconst 0, 1) := db536.2.2.2.2.1
theorem dX3_heard_13 : decode cX3_heard 13 = .ok (.ireturn, 1) := db536.2.2.2.2.2.1
theorem dX3_heard_8 : decode cX3_heard 8 = .ok (.iload_n 2, 1) := db536.2.2.2.2.2.2.1
theorem dX3_heard_9 : decode cX3_heard 9 = .ok (.ifCond .ge 5, 3) := db536.2.2.2.2.2.2.2.1
theorem dX3_heard_14 : decode cX3_heard 14 = .ok (.bipush 100, 2) := db536.2.2.2.2.2.2.2.2.1
theorem dX3_heard_16 : decode cX3_heard 16 = .ok (.bipush 100, 2) := db536.2.2.2.2.2.2.2.2.2.1
theorem dX3_heard_18 : decode cX3_heard 18 = .ok (.aload_n 0, 1) := db536.2.2.2.2.2.2.2.2.2.2.1
theorem dX3_heard_19 : decode cX3_heard 19 = .ok (.getfield 15, 3) := db536.2.2.2.2.2.2.2.2.2.2.2.1
theorem dX3_heard_22 : decode cX3_heard 22 = .ok (.iload_n 1, 1) := db536.2.2.2.2.2.2.2.2.2.2.2.2.1
theorem dX3_heard_23 : decode cX3_heard 23 = .ok (.iaload, 1) := db536.2.2.2.2.2.2.2.2.2.2.2.2.2.1
theorem dX3_heard_24 : decode cX3_heard 24 = .ok (.isub, 1) := db536.2.2.2.2.2.2.2.2.2.2.2.2.2.2.1
theorem dX3_heard_25 : decode cX3_heard 25 = .ok (.iload_n 2, 1) := db536.2.2.2.2.2.2.2.2.2.2.2.2.2.2.2.1
theorem dX3_heard_26 : decode cX3_heard 26 = .ok (.iconst 1, 1) := db536.2.2.2.2.2.2.2.2.2.2.2.2.2.2.2.2.1
theorem dX3_heard_27 : decode cX3_heard 27 = .ok (.iadd, 1) := db536.2.2.2.2.2.2.2.2.2.2.2.2.2.2.2.2.2.1
theorem dX3_heard_28 : decode cX3_heard 28 = .ok (.idiv, 1) := db536.2.2.2.2.2.2.2.2.2.2.2.2.2.2.2.2.2.2.1
theorem dX3_heard_29 : decode cX3_heard 29 = .ok (.isub, 1) := db536.2.2.2.2.2.2.2.2.2.2.2.2.2.2.2.2.2.2.2.1
theorem dX3_heard_30 : decode cX3_heard 30 = .ok (.ireturn, 1) := db536.2.2.2.2.2.2.2.2.2.2.2.2.2.2.2.2.2.2.2.2
theorem db537 : (decode cX3_init 0 = .ok (.aload_n 0, 1)) ∧ (decode cX3_init 1 = .ok (.invokespecial 3, 3)) ∧ (decode cX3_init 4 = .ok (.aload_n 0, 1)) ∧ (decode cX3_init 5 = .ok (.bipush 7, 2)) ∧ (decode cX3_init 7 = .ok (.newarray .int, 2)) ∧ (decode cX3_init 9 = .ok (.putfield 9, 3)) ∧ (decode cX3_init 12 = .ok (.aload_n 0, 1)) ∧ (decode cX3_init 13 = .ok (.bipush 7, 2)) ∧ (decode cX3_init 15 = .ok (.newarray .int, 2)) ∧ (decode cX3_init 17 = .ok (.putfield 15, 3)) ∧ (decode cX3_init 20 = .ok (.aload_n 0, 1)) ∧ (decode cX3_init 21 = .ok (.bipush 7, 2)) ∧ (decode cX3_init 23 = .ok (.newarray .int, 2)) ∧ (decode cX3_init 25 = .ok (.putfield 18, 3)) ∧ (decode cX3_init 28 = .ok (.aload_n 0, 1)) ∧ (decode cX3_init 29 = .ok (.bipush 7, 2)) ∧ (decode cX3_init 31 = .ok (.newarray .int, 2)) ∧ (decode cX3_init 33 = .ok (.putfield 21, 3)) ∧ (decode cX3_init 36 = .ok (.aload_n 0, 1)) ∧ (decode cX3_init 37 = .ok (.bipush 6, 2)) ∧ (decode cX3_init 39 = .ok (.newarray .int, 2)) ∧ (decode cX3_init 41 = .ok (.putfield 24, 3)) ∧ (decode cX3_init 44 = .ok (.aload_n 0, 1)) ∧ (decode cX3_init 45 = .ok (.bipush 6, 2)) := by decide +kernel
theorem dX3_init_0 : decode cX3_init 0 = .ok (.aload_n 0, 1) := db537.1
theorem dX3_init_1 : decode cX3_init 1 = .ok (.invokespecial 3, 3) := db537.2.1
theorem dX3_init_4 : decode cX3_init 4 = .ok (.aload_n 0, 1) := db537.2.2.1
theorem dX3_init_5 : decode cX3_init 5 = .ok (.bipush 7, 2) := db537.2.2.2.1
theorem dX3_init_7 : decode cX3_init 7 = .ok (.newarray .int, 2) := db537.2.2.2.2.1
theorem dX3_init_9 : decode cX3_init 9 = .ok (.putfield 9, 3) := db537.2.2.2.2.2.1
theorem dX3_init_12 : decode cX3_init 12 = .ok (.aload_n 0, 1) := db537.2.2.2.2.2.2.1
theorem dX3_init_13 : decode cX3_init 13 = .ok (.bipush 7, 2) := db537.2.2.2.2.2.2.2.1
theorem dX3_init_15 : decode cX3_init 15 = .ok (.newarray .int, 2) := db537.2.2.2.2.2.2.2.2.1
theorem dX3_init_17 : decode cX3_init 17 = .ok (.putfield 15, 3) := db537.2.2.2.2.2.2.2.2.2.1
theorem dX3_init_20 : decode cX3_init 20 = .ok (.aload_n 0, 1) := db537.2.2.2.2.2.2.2.2.2.2.1
theorem dX3_init_21 : decode cX3_init 21 = .ok (.bipush 7, 2) := db537.2.2.2.2.2.2.2.2.2.2.2.1
theorem dX3_init_23 : decode cX3_init 23 = .ok (.newarray .int, 2) := db537.2.2.2.2.2.2.2.2.2.2.2.2.1
theorem dX3_init_25 : decode cX3_init 25 = .ok (.putfield 18, 3) := db537.2.2.2.2.2.2.2.2.2.2.2.2.2.1
theorem dX3_init_28 : decode cX3_init 28 = .ok (.aload_n 0, 1) := db537.2.2.2.2.2.2.2.2.2.2.2.2.2.2.1
theorem dX3_init_29 : decode cX3_init 29 = .ok (.bipush 7, 2) := db537.2.2.2.2.2.2.2.2.2.2.2.2.2.2.2.1
theorem dX3_init_31 : decode cX3_init 31 = .ok (.newarray .int, 2) := db537.2.2.2.2.2.2.2.2.2.2.2.2.2.2.2.2.1
theorem dX3_init_33 : decode cX3_init 33 = .ok (.putfield 21, 3) := db537.2.2.2.2.2.2.2.2.2.2.2.2.2.2.2.2.2.1
theorem dX3_init_36 : decode cX3_init 36 = .ok (.aload_n 0, 1) := db537.2.2.2.2.2.2.2.2.2.2.2.2.2.2.2.2.2.2.1
theorem dX3_init_37 : decode cX3_init 37 = .ok (.bipush 6, 2) := db537.2.2.2.2.2.2.2.2.2.2.2.2.2.2.2.2.2.2.2.1
theorem dX3_init_39 : decode cX3_init 39 = .ok (.newarray .int, 2) := db537.2.2.2.2.2.2.2.2.2.2.2.2.2.2.2.2.2.2.2.2.1
theorem dX3_init_41 : decode cX3_init 41 = .ok (.putfield 24, 3) := db537.2.2.2.2.2.2.2.2.2.2.2.2.2.2.2.2.2.2.2.2.2.1
theorem dX3_init_44 : decode cX3_init 44 = .ok (.aload_n 0, 1) := db537.2.2.2.2.2.2.2.2.2.2.2.2.2.2.2.2.2.2.2.2.2.2.1
theorem dX3_init_45 : decode cX3_init 45 = .ok (.bipush 6, 2) := db537.2.2.2.2.2.2.2.2.2.2.2.2.2.2.2.2.2.2.2.2.2.2.2
theorem db538 : (decode cX3_init 47 = .ok (.newarray .int, 2)) ∧ (decode cX3_init 49 = .ok (.putfield 27, 3)) ∧ (decode cX3_init 52 = .ok (.aload_n 0, 1)) ∧ (decode cX3_init 53 = .ok (.bipush 36, 2)) ∧ (decode cX3_init 55 = .ok (.newarray .int, 2)) ∧ (decode cX3_init 57 = .ok (.putfield 30, 3)) ∧ (decode cX3_init 60 = .ok (.return_, 1)) := by decide +kernel
theorem dX3_init_47 : decode cX3_init 47 = .ok (.newarray .int, 2) := db538.1
theorem dX3_init_49 : decode cX3_init 49 = .ok (.putfield 27, 3) := db538.2.1
theorem dX3_init_52 : decode cX3_init 52 = .ok (.aload_n 0, 1) := db538.2.2.1
theorem dX3_init_53 : decode cX3_init 53 = .ok (.bipush 36, 2) := db538.2.2.2.1
theorem dX3_init_55 : decode cX3_init 55 = .ok (.newarray .int, 2) := db538.2.2.2.2.1
theorem dX3_init_57 : decode cX3_init 57 = .ok (.putfield 30, 3) := db538.2.2.2.2.2.1
theorem dX3_init_60 : decode cX3_init 60 = .ok (.return_, 1) := db538.2.2.2.2.2.2
theorem db539 : (decode cX3_isDoor 0 = .ok (.aload_n 0, 1)) ∧ (decode cX3_isDoor 1 = .ok (.iload_n 1, 1)) ∧ (decode cX3_isDoor 2 = .ok (.invokevirtual 61, 3)) ∧ (decode cX3_isDoor 5 = .ok (.ifCond .eq 28, 3)) ∧ (decode cX3_isDoor 33 = .ok (.iconst 0, 1)) ∧ (decode cX3_isDoor 34 = .ok (.ireturn, 1)) ∧ (decode cX3_isDoor 8 = .ok (.aload_n 0, 1)) ∧ (decode cX3_isDoor 9 = .ok (.iload_n 2, 1)) ∧ (decode cX3_isDoor 10 = .ok (.invokevirtual 61, 3)) ∧ (decode cX3_isDoor 13 = .ok (.ifCond .eq 20, 3)) ∧ (decode cX3_isDoor 16 = .ok (.aload_n 0, 1)) ∧ (decode cX3_isDoor 17 = .ok (.getfield 21, 3)) ∧ (decode cX3_isDoor 20 = .ok (.iload_n 1, 1)) ∧ (decode cX3_isDoor 21 = .ok (.iaload, 1)) ∧ (decode cX3_isDoor 22 = .ok (.iload_n 2, 1)) ∧ (decode cX3_isDoor 23 = .ok (.ishr, 1)) ∧ (decode cX3_isDoor 24 = .ok (.iconst 1, 1)) ∧ (decode cX3_isDoor 25 = .ok (.iand, 1)) ∧ (decode cX3_isDoor 26 = .ok (.ifCond .eq 7, 3)) ∧ (decode cX3_isDoor 29 = .ok (.iconst 1, 1)) ∧ (decode cX3_isDoor 30 = .ok (.goto 4, 3)) := by decide +kernel
theorem dX3_isDoor_0 : decode cX3_isDoor 0 = .ok (.aload_n 0, 1) := db539.1
theorem dX3_isDoor_1 : decode cX3_isDoor 1 = .ok (.iload_n 1, 1) := db539.2.1
theorem dX3_isDoor_2 : decode cX3_isDoor 2 = .ok (.invokevirtual 61, 3) := db539.2.2.1
theorem dX3_isDoor_5 : decode cX3_isDoor 5 = .ok (.ifCond .eq 28, 3) := db539.2.2.2.1
theorem dX3_isDoor_33 : decode cX3_isDoor 33 = .ok (.iconst 0, 1) := db539.2.2.2.2.1
theorem dX3_isDoor_34 : decode cX3_isDoor 34 = .ok (.ireturn, 1) := db539.2.2.2.2.2.1
theorem dX3_isDoor_8 : decode cX3_isDoor 8 = .ok (.aload_n 0, 1) := db539.2.2.2.2.2.2.1
theorem dX3_isDoor_9 : decode cX3_isDoor 9 = .ok (.iload_n 2, 1) := db539.2.2.2.2.2.2.2.1
theorem dX3_isDoor_10 : decode cX3_isDoor 10 = .ok (.invokevirtual 61, 3) := db539.2.2.2.2.2.2.2.2.1
theorem dX3_isDoor_13 : decode cX3_isDoor 13 = .ok (.ifCond .eq 20, 3) := db539.2.2.2.2.2.2.2.2.2.1
theorem dX3_isDoor_16 : decode cX3_isDoor 16 = .ok (.aload_n 0, 1) := db539.2.2.2.2.2.2.2.2.2.2.1
theorem dX3_isDoor_17 : decode cX3_isDoor 17 = .ok (.getfield 21, 3) := db539.2.2.2.2.2.2.2.2.2.2.2.1
theorem dX3_isDoor_20 : decode cX3_isDoor 20 = .ok (.iload_n 1, 1) := db539.2.2.2.2.2.2.2.2.2.2.2.2.1
theorem dX3_isDoor_21 : decode cX3_isDoor 21 = .ok (.iaload, 1) := db539.2.2.2.2.2.2.2.2.2.2.2.2.2.1
theorem dX3_isDoor_22 : decode cX3_isDoor 22 = .ok (.iload_n 2, 1) := db539.2.2.2.2.2.2.2.2.2.2.2.2.2.2.1
theorem dX3_isDoor_23 : decode cX3_isDoor 23 = .ok (.ishr, 1) := db539.2.2.2.2.2.2.2.2.2.2.2.2.2.2.2.1
theorem dX3_isDoor_24 : decode cX3_isDoor 24 = .ok (.iconst 1, 1) := db539.2.2.2.2.2.2.2.2.2.2.2.2.2.2.2.2.1
theorem dX3_isDoor_25 : decode cX3_isDoor 25 = .ok (.iand, 1) := db539.2.2.2.2.2.2.2.2.2.2.2.2.2.2.2.2.2.1
theorem dX3_isDoor_26 : decode cX3_isDoor 26 = .ok (.ifCond .eq 7, 3) := db539.2.2.2.2.2.2.2.2.2.2.2.2.2.2.2.2.2.2.1
theorem dX3_isDoor_29 : decode cX3_isDoor 29 = .ok (.iconst 1, 1) := db539.2.2.2.2.2.2.2.2.2.2.2.2.2.2.2.2.2.2.2.1
theorem dX3_isDoor_30 : decode cX3_isDoor 30 = .ok (.goto 4, 3) := db539.2.2.2.2.2.2.2.2.2.2.2.2.2.2.2.2.2.2.2.2
theorem db540 : (decode cX3_isStep 0 = .ok (.iload_n 1, 1)) ∧ (decode cX3_isStep 1 = .ok (.iload_n 2, 1)) ∧ (decode cX3_isStep 2 = .ok (.if_icmp .eq 12, 3)) ∧ (decode cX3_isStep 14 = .ok (.iconst 1, 1)) ∧ (decode cX3_isStep 15 = .ok (.goto 4, 3)) ∧ (decode cX3_isStep 19 = .ok (.ireturn, 1)) ∧ (decode cX3_isStep 5 = .ok (.aload_n 0, 1)) ∧ (decode cX3_isStep 6 = .ok (.iload_n 1, 1)) ∧ (decode cX3_isStep 7 = .ok (.iload_n 2, 1)) ∧ (decode cX3_isStep 8 = .ok (.invokevirtual 65, 3)) ∧ (decode cX3_isStep 11 = .ok (.ifCond .eq 7, 3)) ∧ (decode cX3_isStep 18 = .ok (.iconst 0, 1)) := by decide +kernel
theorem dX3_isStep_0 : decode cX3_isStep 0 = .ok (.iload_n 1, 1) := db540.1
theorem dX3_isStep_1 : decode cX3_isStep 1 = .ok (.iload_n 2, 1) := db540.2.1
theorem dX3_isStep_2 : decode cX3_isStep 2 = .ok (.if_icmp .eq 12, 3) := db540.2.2.1
theorem dX3_isStep_14 : decode cX3_isStep 14 = .ok (.iconst 1, 1) := db540.2.2.2.1
theorem dX3_isStep_15 : decode cX3_isStep 15 = .ok (.goto 4, 3) := db540.2.2.2.2.1
theorem dX3_isStep_19 : decode cX3_isStep 19 = .ok (.ireturn, 1) := db540.2.2.2.2.2.1
theorem dX3_isStep_5 : decode cX3_isStep 5 = .ok (.aload_n 0, 1) := db540.2.2.2.2.2.2.1
theorem dX3_isStep_6 : decode cX3_isStep 6 = .ok (.iload_n 1, 1) := db540.2.2.2.2.2.2.2.1
theorem dX3_isStep_7 : decode cX3_isStep 7 = .ok (.iload_n 2, 1) := db540.2.2.2.2.2.2.2.2.1
theorem dX3_isStep_8 : decode cX3_isStep 8 = .ok (.invokevirtual 65, 3) := db540.2.2.2.2.2.2.2.2.2.1
theorem dX3_isStep_11 : decode cX3_isStep 11 = .ok (.ifCond .eq 7, 3) := db540.2.2.2.2.2.2.2.2.2.2.1
theorem dX3_isStep_18 : decode cX3_isStep 18 = .ok (.iconst 0, 1) := db540.2.2.2.2.2.2.2.2.2.2.2
theorem db541 : (decode cX3_limit 0 = .ok (.iload_n 0, 1)) ∧ (decode cX3_limit 1 = .ok (.lookupswitch 34 #[(0, 27), (1, 31)], 27)) ∧ (decode cX3_limit 35 = .ok (.bipush 99, 2)) ∧ (decode cX3_limit 37 = .ok (.ireturn, 1)) ∧ (decode cX3_limit 28 = .ok (.sipush 999, 3)) ∧ (decode cX3_limit 31 = .ok (.ireturn, 1)) ∧ (decode cX3_limit 32 = .ok (.bipush 100, 2)) ∧ (decode cX3_limit 34 = .ok (.ireturn, 1)) := by decide +kernel
theorem dX3_limit_0 : decode cX3_limit 0 = .ok (.iload_n 0, 1) := db541.1
theorem dX3_limit_1 : decode cX3_limit 1 = .ok (.lookupswitch 34 #[(0, 27), (1, 31)], 27) := db541.2.1
theorem dX3_limit_35 : decode cX3_limit 35 = .ok (.bipush 99, 2) := db541.2.2.1
theorem dX3_limit_37 : decode cX3_limit 37 = .ok (.ireturn, 1) := db541.2.2.2.1
theorem dX3_limit_28 : decode cX3_limit 28 = .ok (.sipush 999, 3) := db541.2.2.2.2.1
theorem dX3_limit_31 : decode cX3_limit 31 = .ok (.ireturn, 1) := db541.2.2.2.2.2.1
theorem dX3_limit_32 : decode cX3_limit 32 = .ok (.bipush 100, 2) := db541.2.2.2.2.2.2.1
theorem dX3_limit_34 : decode cX3_limit 34 = .ok (.ireturn, 1) := db541.2.2.2.2.2.2.2
theorem db542 : (decode cX3_openDoor 0 = .ok (.aload_n 0, 1)) ∧ (decode cX3_openDoor 1 = .ok (.iload_n 1, 1)) ∧ (decode cX3_openDoor 2 = .ok (.invokevirtual 61, 3)) ∧ (decode cX3_openDoor 5 = .ok (.ifCond .eq 35, 3)) ∧ (decode cX3_openDoor 40 = .ok (.return_, 1)) ∧ (decode cX3_openDoor 8 = .ok (.aload_n 0, 1)) ∧ (decode cX3_openDoor 9 = .ok (.iload_n 2, 1)) ∧ (decode cX3_openDoor 10 = .ok (.invokevirtual 61, 3)) ∧ (decode cX3_openDoor 13 = .ok (.ifCond .eq 27, 3)) ∧ (decode cX3_openDoor 16 = .ok (.aload_n 0, 1)) ∧ (decode cX3_openDoor 17 = .ok (.getfield 21, 3)) ∧ (decode cX3_openDoor 20 = .ok (.iload_n 1, 1)) ∧ (decode cX3_openDoor 21 = .ok (.dup2, 1)) ∧ (decode cX3_openDoor 22 = .ok (.iaload, 1)) ∧ (decode cX3_openDoor 23 = .ok (.iconst 1, 1)) ∧ (decode cX3_openDoor 24 = .ok (.iload_n 2, 1)) ∧ (decode cX3_openDoor 25 = .ok (.ishl, 1)) ∧ (decode cX3_openDoor 26 = .ok (.ior, 1)) ∧ (decode cX3_openDoor 27 = .ok (.iastore, 1)) ∧ (decode cX3_openDoor 28 = .ok (.aload_n 0, 1)) ∧ (decode cX3_openDoor 29 = .ok (.getfield 21, 3)) ∧ (decode cX3_openDoor 32 = .ok (.iload_n 2, 1)) ∧ (decode cX3_openDoor 33 = .ok (.dup2, 1)) ∧ (decode cX3_openDoor 34 = .ok (.iaload, 1)) := by decide +kernel
theorem dX3_openDoor_0 : decode cX3_openDoor 0 = .ok (.aload_n 0, 1) := db542.1
theorem dX3_openDoor_1 : decode cX3_openDoor 1 = .ok (.iload_n 1, 1) := db542.2.1
theorem dX3_openDoor_2 : decode cX3_openDoor 2 = .ok (.invokevirtual 61, 3) := db542.2.2.1
theorem dX3_openDoor_5 : decode cX3_openDoor 5 = .ok (.ifCond .eq 35, 3) := db542.2.2.2.1
theorem dX3_openDoor_40 : decode cX3_openDoor 40 = .ok (.return_, 1) := db542.2.2.2.2.1
theorem dX3_openDoor_8 : decode cX3_openDoor 8 = .ok (.aload_n 0, 1) := db542.2.2.2.2.2.1
theorem dX3_openDoor_9 : decode cX3_openDoor 9 = .ok (.iload_n 2, 1) := db542.2.2.2.2.2.2.1
theorem dX3_openDoor_10 : decode cX3_openDoor 10 = .ok (.invokevirtual 61, 3) := db542.2.2.2.2.2.2.2.1
theorem dX3_openDoor_13 : decode cX3_openDoor 13 = .ok (.ifCond .eq 27, 3) := db542.2.2.2.2.2.2.2.2.1
theorem dX3_openDoor_16 : decode cX3_openDoor 16 = .ok (.aload_n 0, 1) := db542.2.2.2.2.2.2.2.2.2.1
theorem dX3_openDoor_17 : decode cX3_openDoor 17 = .ok (.getfield 21, 3) := db542.2.2.2.2.2.2.2.2.2.2.1
theorem dX3_openDoor_20 : decode cX3_openDoor 20 = .ok (.iload_n 1, 1) := db542.2.2.2.2.2.2.2.2.2.2.2.1
theorem dX3_openDoor_21 : decode cX3_openDoor 21 = .ok (.dup2, 1) := db542.2.2.2.2.2.2.2.2.2.2.2.2.1
theorem dX3_openDoor_22 : decode cX3_openDoor 22 = .ok (.iaload, 1) := db542.2.2.2.2.2.2.2.2.2.2.2.2.2.1
theorem dX3_openDoor_23 : decode cX3_openDoor 23 = .ok (.iconst 1, 1) := db542.2.2.2.2.2.2.2.2.2.2.2.2.2.2.1
theorem dX3_openDoor_24 : decode cX3_openDoor 24 = .ok (.iload_n 2, 1) := db542.2.2.2.2.2.2.2.2.2.2.2.2.2.2.2.1
theorem dX3_openDoor_25 : decode cX3_openDoor 25 = .ok (.ishl, 1) := db542.2.2.2.2.2.2.2.2.2.2.2.2.2.2.2.2.1
theorem dX3_openDoor_26 : decode cX3_openDoor 26 = .ok (.ior, 1) := db542.2.2.2.2.2.2.2.2.2.2.2.2.2.2.2.2.2.1
theorem dX3_openDoor_27 : decode cX3_openDoor 27 = .ok (.iastore, 1) := db542.2.2.2.2.2.2.2.2.2.2.2.2.2.2.2.2.2.2.1
theorem dX3_openDoor_28 : decode cX3_openDoor 28 = .ok (.aload_n 0, 1) := db542.2.2.2.2.2.2.2.2.2.2.2.2.2.2.2.2.2.2.2.1
theorem dX3_openDoor_29 : decode cX3_openDoor 29 = .ok (.getfield 21, 3) := db542.2.2.2.2.2.2.2.2.2.2.2.2.2.2.2.2.2.2.2.2.1
theorem dX3_openDoor_32 : decode cX3_openDoor 32 = .ok (.iload_n 2, 1) := db542.2.2.2.2.2.2.2.2.2.2.2.2.2.2.2.2.2.2.2.2.2.1
theorem dX3_openDoor_33 : decode cX3_openDoor 33 = .ok (.dup2, 1) := db542.2.2.2.2.2.2.2.2.2.2.2.2.2.2.2.2.2.2.2.2.2.2.1
theorem dX3_openDoor_34 : decode cX3_openDoor 34 = .ok (.iaload, 1) := db542.2.2.2.2.2.2.2.2.2.2.2.2.2.2.2.2.2.2.2.2.2.2.2
theorem db543 : (decode cX3_openDoor 35 = .ok (.iconst 1, 1)) ∧ (decode cX3_openDoor 36 = .ok (.iload_n 1, 1)) ∧ (decode cX3_openDoor 37 = .ok (.ishl, 1)) ∧ (decode cX3_openDoor 38 = .ok (.ior, 1)) ∧ (decode cX3_openDoor 39 = .ok (.iastore, 1)) := by decide +kernel
theorem dX3_openDoor_35 : decode cX3_openDoor 35 = .ok (.iconst 1, 1) := db543.1
theorem dX3_openDoor_36 : decode cX3_openDoor 36 = .ok (.iload_n 1, 1) := db543.2.1
theorem dX3_openDoor_37 : decode cX3_openDoor 37 = .ok (.ishl, 1) := db543.2.2.1
theorem dX3_openDoor_38 : decode cX3_openDoor 38 = .ok (.ior, 1) := db543.2.2.2.1
theorem dX3_openDoor_39 : decode cX3_openDoor 39 = .ok (.iastore, 1) := db543.2.2.2.2
theorem db544 : (decode cX3_spread 0 = .ok (.iload_n 1, 1)) ∧ (decode cX3_spread 1 = .ok (.istore_n 2, 1)) ∧ (decode cX3_spread 2 = .ok (.iconst 0, 1)) ∧ (decode cX3_spread 3 = .ok (.istore_n 3, 1)) ∧ (decode cX3_spread 4 = .ok (.iload_n 3, 1)) ∧ (decode cX3_spread 5 = .ok (.aload_n 0, 1)) ∧ (decode cX3_spread 6 = .ok (.getfield 49, 3)) ∧ (decode cX3_spread 9 = .ok (.if_icmp .ge 26, 3)) ∧ (decode cX3_spread 35 = .ok (.iload_n 2, 1)) ∧ (decode cX3_spread 36 = .ok (.ireturn, 1)) ∧ (decode cX3_spread 12 = .ok (.iload_n 1, 1)) ∧ (decode cX3_spread 13 = .ok (.iload_n 3, 1)) ∧ (decode cX3_spread 14 = .ok (.ishr, 1)) ∧ (decode cX3_spread 15 = .ok (.iconst 1, 1)) ∧ (decode cX3_spread 16 = .ok (.iand, 1)) ∧ (decode cX3_spread 29 = .ok (.iinc 3 1, 3)) ∧ (decode cX3_spread 32 = .ok (.goto (-28), 3)) ∧ (decode cX3_spread 17 = .ok (.ifCond .eq 12, 3)) ∧ (decode cX3_spread 20 = .ok (.iload_n 2, 1)) ∧ (decode cX3_spread 21 = .ok (.aload_n 0, 1)) ∧ (decode cX3_spread 22 = .ok (.getfield 21, 3)) ∧ (decode cX3_spread 25 = .ok (.iload_n 3, 1)) ∧ (decode cX3_spread 26 = .ok (.iaload, 1)) ∧ (decode cX3_spread 27 = .ok (.ior, 1)) := by decide +kernel
theorem dX3_spread_0 : decode cX3_spread 0 = .ok (.iload_n 1, 1) := db544.1
theorem dX3_spread_1 : decode cX3_spread 1 = .ok (.istore_n 2, 1) := db544.2.1
theorem dX3_spread_2 : decode cX3_spread 2 = .ok (.iconst 0, 1) := db544.2.2.1
theorem dX3_spread_3 : decode cX3_spread 3 = .ok (.istore_n 3, 1) := db544.2.2.2.1
theorem dX3_spread_4 : decode cX3_spread 4 = .ok (.iload_n 3, 1) := db544.2.2.2.2.1
theorem dX3_spread_5 : decode cX3_spread 5 = .ok (.aload_n 0, 1) := db544.2.2.2.2.2.1
theorem dX3_spread_6 : decode cX3_spread 6 = .ok (.getfield 49, 3) := db544.2.2.2.2.2.2.1
theorem dX3_spread_9 : decode cX3_spread 9 = .ok (.if_icmp .ge 26, 3) := db544.2.2.2.2.2.2.2.1
theorem dX3_spread_35 : decode cX3_spread 35 = .ok (.iload_n 2, 1) := db544.2.2.2.2.2.2.2.2.1
theorem dX3_spread_36 : decode cX3_spread 36 = .ok (.ireturn, 1) := db544.2.2.2.2.2.2.2.2.2.1
theorem dX3_spread_12 : decode cX3_spread 12 = .ok (.iload_n 1, 1) := db544.2.2.2.2.2.2.2.2.2.2.1
theorem dX3_spread_13 : decode cX3_spread 13 = .ok (.iload_n 3, 1) := db544.2.2.2.2.2.2.2.2.2.2.2.1
theorem dX3_spread_14 : decode cX3_spread 14 = .ok (.ishr, 1) := db544.2.2.2.2.2.2.2.2.2.2.2.2.1
theorem dX3_spread_15 : decode cX3_spread 15 = .ok (.iconst 1, 1) := db544.2.2.2.2.2.2.2.2.2.2.2.2.2.1
theorem dX3_spread_16 : decode cX3_spread 16 = .ok (.iand, 1) := db544.2.2.2.2.2.2.2.2.2.2.2.2.2.2.1
theorem dX3_spread_29 : decode cX3_spread 29 = .ok (.iinc 3 1, 3) := db544.2.2.2.2.2.2.2.2.2.2.2.2.2.2.2.1
theorem dX3_spread_32 : decode cX3_spread 32 = .ok (.goto (-28), 3) := db544.2.2.2.2.2.2.2.2.2.2.2.2.2.2.2.2.1
theorem dX3_spread_17 : decode cX3_spread 17 = .ok (.ifCond .eq 12, 3) := db544.2.2.2.2.2.2.2.2.2.2.2.2.2.2.2.2.2.1
theorem dX3_spread_20 : decode cX3_spread 20 = .ok (.iload_n 2, 1) := db544.2.2.2.2.2.2.2.2.2.2.2.2.2.2.2.2.2.2.1
theorem dX3_spread_21 : decode cX3_spread 21 = .ok (.aload_n 0, 1) := db544.2.2.2.2.2.2.2.2.2.2.2.2.2.2.2.2.2.2.2.1
theorem dX3_spread_22 : decode cX3_spread 22 = .ok (.getfield 21, 3) := db544.2.2.2.2.2.2.2.2.2.2.2.2.2.2.2.2.2.2.2.2.1
theorem dX3_spread_25 : decode cX3_spread 25 = .ok (.iload_n 3, 1) := db544.2.2.2.2.2.2.2.2.2.2.2.2.2.2.2.2.2.2.2.2.2.1
theorem dX3_spread_26 : decode cX3_spread 26 = .ok (.iaload, 1) := db544.2.2.2.2.2.2.2.2.2.2.2.2.2.2.2.2.2.2.2.2.2.2.1
theorem dX3_spread_27 : decode cX3_spread 27 = .ok (.ior, 1) := db544.2.2.2.2.2.2.2.2.2.2.2.2.2.2.2.2.2.2.2.2.2.2.2
theorem dX3_spread_28 : decode cX3_spread 28 = .ok (.istore_n 2, 1) := by decide +kernel
theorem db545 : (decode cX3_tellSlate 0 = .ok (.iload_n 1, 1)) ∧ (decode cX3_tellSlate 1 = .ok (.ifCond .lt 35, 3)) ∧ (decode cX3_tellSlate 36 = .ok (.return_, 1)) ∧ (decode cX3_tellSlate 4 = .ok (.iload_n 1, 1)) ∧ (decode cX3_tellSlate 5 = .ok (.aload_n 0, 1)) ∧ (decode cX3_tellSlate 6 = .ok (.getfield 52, 3)) ∧ (decode cX3_tellSlate 9 = .ok (.if_icmp .ge 27, 3)) ∧ (decode cX3_tellSlate 12 = .ok (.iload_n 2, 1)) ∧ (decode cX3_tellSlate 13 = .ok (.ifCond .lt 23, 3)) ∧ (decode cX3_tellSlate 16 = .ok (.iload_n 2, 1)) ∧ (decode cX3_tellSlate 17 = .ok (.aload_n 0, 1)) ∧ (decode cX3_tellSlate 18 = .ok (.getfield 52, 3)) ∧ (decode cX3_tellSlate 21 = .ok (.if_icmp .ge 15, 3)) ∧ (decode cX3_tellSlate 24 = .ok (.aload_n 0, 1)) ∧ (decode cX3_tellSlate 25 = .ok (.getfield 30, 3)) ∧ (decode cX3_tellSlate 28 = .ok (.iload_n 1, 1)) ∧ (decode cX3_tellSlate 29 = .ok (.bipush 6, 2)) ∧ (decode cX3_tellSlate 31 = .ok (.imul, 1)) ∧ (decode cX3_tellSlate 32 = .ok (.iload_n 2, 1)) ∧ (decode cX3_tellSlate 33 = .ok (.iadd, 1)) ∧ (decode cX3_tellSlate 34 = .ok (.iload_n 3, 1)) ∧ (decode cX3_tellSlate 35 = .ok (.iastore, 1)) := by decide +kernel
theorem dX3_tellSlate_0 : decode cX3_tellSlate 0 = .ok (.iload_n 1, 1) := db545.1
theorem dX3_tellSlate_1 : decode cX3_tellSlate 1 = .ok (.ifCond .lt 35, 3) := db545.2.1
theorem dX3_tellSlate_36 : decode cX3_tellSlate 36 = .ok (.return_, 1) := db545.2.2.1
theorem dX3_tellSlate_4 : decode cX3_tellSlate 4 = .ok (.iload_n 1, 1) := db545.2.2.2.1
theorem dX3_tellSlate_5 : decode cX3_tellSlate 5 = .ok (.aload_n 0, 1) := db545.2.2.2.2.1
theorem dX3_tellSlate_6 : decode cX3_tellSlate 6 = .ok (.getfield 52, 3) := db545.2.2.2.2.2.1
theorem dX3_tellSlate_9 : decode cX3_tellSlate 9 = .ok (.if_icmp .ge 27, 3) := db545.2.2.2.2.2.2.1
theorem dX3_tellSlate_12 : decode cX3_tellSlate 12 = .ok (.iload_n 2, 1) := db545.2.2.2.2.2.2.2.1
theorem dX3_tellSlate_13 : decode cX3_tellSlate 13 = .ok (.ifCond .lt 23, 3) := db545.2.2.2.2.2.2.2.2.1
theorem dX3_tellSlate_16 : decode cX3_tellSlate 16 = .ok (.iload_n 2, 1) := db545.2.2.2.2.2.2.2.2.2.1
theorem dX3_tellSlate_17 : decode cX3_tellSlate 17 = .ok (.aload_n 0, 1) := db545.2.2.2.2.2.2.2.2.2.2.1
theorem dX3_tellSlate_18 : decode cX3_tellSlate 18 = .ok (.getfield 52, 3) := db545.2.2.2.2.2.2.2.2.2.2.2.1
theorem dX3_tellSlate_21 : decode cX3_tellSlate 21 = .ok (.if_icmp .ge 15, 3) := db545.2.2.2.2.2.2.2.2.2.2.2.2.1
theorem dX3_tellSlate_24 : decode cX3_tellSlate 24 = .ok (.aload_n 0, 1) := db545.2.2.2.2.2.2.2.2.2.2.2.2.2.1
theorem dX3_tellSlate_25 : decode cX3_tellSlate 25 = .ok (.getfield 30, 3) := db545.2.2.2.2.2.2.2.2.2.2.2.2.2.2.1
theorem dX3_tellSlate_28 : decode cX3_tellSlate 28 = .ok (.iload_n 1, 1) := db545.2.2.2.2.2.2.2.2.2.2.2.2.2.2.2.1
theorem dX3_tellSlate_29 : decode cX3_tellSlate 29 = .ok (.bipush 6, 2) := db545.2.2.2.2.2.2.2.2.2.2.2.2.2.2.2.2.1
theorem dX3_tellSlate_31 : decode cX3_tellSlate 31 = .ok (.imul, 1) := db545.2.2.2.2.2.2.2.2.2.2.2.2.2.2.2.2.2.1
theorem dX3_tellSlate_32 : decode cX3_tellSlate 32 = .ok (.iload_n 2, 1) := db545.2.2.2.2.2.2.2.2.2.2.2.2.2.2.2.2.2.2.1
theorem dX3_tellSlate_33 : decode cX3_tellSlate 33 = .ok (.iadd, 1) := db545.2.2.2.2.2.2.2.2.2.2.2.2.2.2.2.2.2.2.2.1
theorem dX3_tellSlate_34 : decode cX3_tellSlate 34 = .ok (.iload_n 3, 1) := db545.2.2.2.2.2.2.2.2.2.2.2.2.2.2.2.2.2.2.2.2.1
theorem dX3_tellSlate_35 : decode cX3_tellSlate 35 = .ok (.iastore, 1) := db545.2.2.2.2.2.2.2.2.2.2.2.2.2.2.2.2.2.2.2.2.2
theorem db546 : (decode cX3_whoSayYes 0 = .ok (.iconst 0, 1)) ∧ (decode cX3_whoSayYes 1 = .ok (.istore_n 3, 1)) ∧ (decode cX3_whoSayYes 2 = .ok (.iconst 0, 1)) ∧ (decode cX3_whoSayYes 3 = .ok (.istore 4, 2)) ∧ (decode cX3_whoSayYes 5 = .ok (.iload 4, 2)) ∧ (decode cX3_whoSayYes 7 = .ok (.aload_n 0, 1)) ∧ (decode cX3_whoSayYes 8 = .ok (.getfield 52, 3)) ∧ (decode cX3_whoSayYes 11 = .ok (.if_icmp .ge 39, 3)) ∧ (decode cX3_whoSayYes 50 = .ok (.iload_n 3, 1)) ∧ (decode cX3_whoSayYes 51 = .ok (.ireturn, 1)) ∧ (decode cX3_whoSayYes 14 = .ok (.iload_n 1, 1)) ∧ (decode cX3_whoSayYes 15 = .ok (.iload 4, 2)) ∧ (decode cX3_whoSayYes 17 = .ok (.ishr, 1)) ∧ (decode cX3_whoSayYes 18 = .ok (.iconst 1, 1)) ∧ (decode cX3_whoSayYes 19 = .ok (.iand, 1)) ∧ (decode cX3_whoSayYes 44 = .ok (.iinc 4 1, 3)) ∧ (decode cX3_whoSayYes 47 = .ok (.goto (-42), 3)) ∧ (decode cX3_whoSayYes 20 = .ok (.ifCond .eq 24, 3)) ∧ (decode cX3_whoSayYes 23 = .ok (.aload_n 0, 1)) ∧ (decode cX3_whoSayYes 24 = .ok (.getfield 27, 3)) ∧ (decode cX3_whoSayYes 27 = .ok (.iload 4, 2)) ∧ (decode cX3_whoSayYes 29 = .ok (.iaload, 1)) ∧ (decode cX3_whoSayYes 30 = .ok (.iload_n 2, 1)) ∧ (decode cX3_whoSayYes 31 = .ok (.ishr, 1)) := by decide +kernel
theorem dX3_whoSayYes_0 : decode cX3_whoSayYes 0 = .ok (.iconst 0, 1) := db546.1
theorem dX3_whoSayYes_1 : decode cX3_whoSayYes 1 = .ok (.istore_n 3, 1) := db546.2.1
theorem dX3_whoSayYes_2 : decode cX3_whoSayYes 2 = .ok (.iconst 0, 1) := db546.2.2.1
theorem dX3_whoSayYes_3 : decode cX3_whoSayYes 3 = .ok (.istore 4, 2) := db546.2.2.2.1
theorem dX3_whoSayYes_5 : decode cX3_whoSayYes 5 = .ok (.iload 4, 2) := db546.2.2.2.2.1
theorem dX3_whoSayYes_7 : decode cX3_whoSayYes 7 = .ok (.aload_n 0, 1) := db546.2.2.2.2.2.1
theorem dX3_whoSayYes_8 : decode cX3_whoSayYes 8 = .ok (.getfield 52, 3) := db546.2.2.2.2.2.2.1
theorem dX3_whoSayYes_11 : decode cX3_whoSayYes 11 = .ok (.if_icmp .ge 39, 3) := db546.2.2.2.2.2.2.2.1
theorem dX3_whoSayYes_50 : decode cX3_whoSayYes 50 = .ok (.iload_n 3, 1) := db546.2.2.2.2.2.2.2.2.1
theorem dX3_whoSayYes_51 : decode cX3_whoSayYes 51 = .ok (.ireturn, 1) := db546.2.2.2.2.2.2.2.2.2.1
theorem dX3_whoSayYes_14 : decode cX3_whoSayYes 14 = .ok (.iload_n 1, 1) := db546.2.2.2.2.2.2.2.2.2.2.1
theorem dX3_whoSayYes_15 : decode cX3_whoSayYes 15 = .ok (.iload 4, 2) := db546.2.2.2.2.2.2.2.2.2.2.2.1
theorem dX3_whoSayYes_17 : decode cX3_whoSayYes 17 = .ok (.ishr, 1) := db546.2.2.2.2.2.2.2.2.2.2.2.2.1
theorem dX3_whoSayYes_18 : decode cX3_whoSayYes 18 = .ok (.iconst 1, 1) := db546.2.2.2.2.2.2.2.2.2.2.2.2.2.1
theorem dX3_whoSayYes_19 : decode cX3_whoSayYes 19 = .ok (.iand, 1) := db546.2.2.2.2.2.2.2.2.2.2.2.2.2.2.1
theorem dX3_whoSayYes_44 : decode cX3_whoSayYes 44 = .ok (.iinc 4 1, 3) := db546.2.2.2.2.2.2.2.2.2.2.2.2.2.2.2.1
theorem dX3_whoSayYes_47 : decode cX3_whoSayYes 47 = .ok (.goto (-42), 3) := db546.2.2.2.2.2.2.2.2.2.2.2.2.2.2.2.2.1
theorem dX3_whoSayYes_20 : decode cX3_whoSayYes 20 = .ok (.ifCond .eq 24, 3) := db546.2.2.2.2.2.2.2.2.2.2.2.2.2.2.2.2.2.1
theorem dX3_whoSayYes_23 : decode cX3_whoSayYes 23 = .ok (.aload_n 0, 1) := db546.2.2.2.2.2.2.2.2.2.2.2.2.2.2.2.2.2.2.1
theorem dX3_whoSayYes_24 : decode cX3_whoSayYes 24 = .ok (.getfield 27, 3) := db546.2.2.2.2.2.2.2.2.2.2.2.2.2.2.2.2.2.2.2.1
theorem dX3_whoSayYes_27 : decode cX3_whoSayYes 27 = .ok (.iload 4, 2) := db546.2.2.2.2.2.2.2.2.2.2.2.2.2.2.2.2.2.2.2.2.1
theorem dX3_whoSayYes_29 : decode cX3_whoSayYes 29 = .ok (.iaload, 1) := db546.2.2.2.2.2.2.2.2.2.2.2.2.2.2.2.2.2.2.2.2.2.1
theorem dX3_whoSayYes_30 : decode cX3_whoSayYes 30 = .ok (.iload_n 2, 1) := db546.2.2.2.2.2.2.2.2.2.2.2.2.2.2.2.2.2.2.2.2.2.2.1
theorem dX3_whoSayYes_31 : decode cX3_whoSayYes 31 = .ok (.ishr, 1) := db546.2.2.2.2.2.2.2.2.2.2.2.2.2.2.2.2.2.2.2.2.2.2.2
theorem db547 : (decode cX3_whoSayYes 32 = .ok (.iconst 1, 1)) ∧ (decode cX3_whoSayYes 33 = .ok (.iand, 1)) ∧ (decode cX3_whoSayYes 34 = .ok (.ifCond .eq 10, 3)) ∧ (decode cX3_whoSayYes 37 = .ok (.iload_n 3, 1)) ∧ (decode cX3_whoSayYes 38 = .ok (.iconst 1, 1)) ∧ (decode cX3_whoSayYes 39 = .ok (.iload 4, 2)) ∧ (decode cX3_whoSayYes 41 = .ok (.ishl, 1)) ∧ (decode cX3_whoSayYes 42 = .ok (.ior, 1)) ∧ (decode cX3_whoSayYes 43 = .ok (.istore_n 3, 1)) := by decide +kernel
theorem dX3_whoSayYes_32 : decode cX3_whoSayYes 32 = .ok (.iconst 1, 1) := db547.1
theorem dX3_whoSayYes_33 : decode cX3_whoSayYes 33 = .ok (.iand, 1) := db547.2.1
theorem dX3_whoSayYes_34 : decode cX3_whoSayYes 34 = .ok (.ifCond .eq 10, 3) := db547.2.2.1
theorem dX3_whoSayYes_37 : decode cX3_whoSayYes 37 = .ok (.iload_n 3, 1) := db547.2.2.2.1
theorem dX3_whoSayYes_38 : decode cX3_whoSayYes 38 = .ok (.iconst 1, 1) := db547.2.2.2.2.1
theorem dX3_whoSayYes_39 : decode cX3_whoSayYes 39 = .ok (.iload 4, 2) := db547.2.2.2.2.2.1
theorem dX3_whoSayYes_41 : decode cX3_whoSayYes 41 = .ok (.ishl, 1) := db547.2.2.2.2.2.2.1
theorem dX3_whoSayYes_42 : decode cX3_whoSayYes 42 = .ok (.ior, 1) := db547.2.2.2.2.2.2.2.1
theorem dX3_whoSayYes_43 : decode cX3_whoSayYes 43 = .ok (.istore_n 3, 1) := db547.2.2.2.2.2.2.2.2
theorem db548 : (decode cX4_allRead 0 = .ok (.lconst 0, 1)) ∧ (decode cX4_allRead 1 = .ok (.lstore_n 3, 1)) ∧ (decode cX4_allRead 2 = .ok (.iconst 0, 1)) ∧ (decode cX4_allRead 3 = .ok (.istore 5, 2)) ∧ (decode cX4_allRead 5 = .ok (.iload 5, 2)) ∧ (decode cX4_allRead 7 = .ok (.aload_n 1, 1)) ∧ (decode cX4_allRead 8 = .ok (.getfield 47, 3)) ∧ (decode cX4_allRead 11 = .ok (.if_icmp .ge 20, 3)) ∧ (decode cX4_allRead 31 = .ok (.lload_n 3, 1)) ∧ (decode cX4_allRead 32 = .ok (.lreturn, 1)) ∧ (decode cX4_allRead 14 = .ok (.lload_n 3, 1)) ∧ (decode cX4_allRead 15 = .ok (.aload_n 0, 1)) ∧ (decode cX4_allRead 16 = .ok (.aload_n 1, 1)) ∧ (decode cX4_allRead 17 = .ok (.iload 5, 2)) ∧ (decode cX4_allRead 19 = .ok (.iload_n 2, 1)) ∧ (decode cX4_allRead 20 = .ok (.invokevirtual 63, 3)) ∧ (decode cX4_allRead 23 = .ok (.ladd, 1)) ∧ (decode cX4_allRead 24 = .ok (.lstore_n 3, 1)) ∧ (decode cX4_allRead 25 = .ok (.iinc 5 1, 3)) ∧ (decode cX4_allRead 28 = .ok (.goto (-23), 3)) := by decide +kernel
theorem dX4_allRead_0 : decode cX4_allRead 0 = .ok (.lconst 0, 1) := db548.1
theorem dX4_allRead_1 : decode cX4_allRead 1 = .ok (.lstore_n 3, 1) := db548.2.1
theorem dX4_allRead_2 : decode cX4_allRead 2 = .ok (.iconst 0, 1) := db548.2.2.1
theorem dX4_allRead_3 : decode cX4_allRead 3 = .ok (.istore 5, 2) := db548.2.2.2.1
theorem dX4_allRead_5 : decode cX4_allRead 5 = .ok (.iload 5, 2) := db548.2.2.2.2.1
theorem dX4_allRead_7 : decode cX4_allRead 7 = .ok (.aload_n 1, 1) := db548.2.2.2.2.2.1
theorem dX4_allRead_8 : decode cX4_allRead 8 = .ok (.getfield 47, 3) := db548.2.2.2.2.2.2.1
theorem dX4_allRead_11 : decode cX4_allRead 11 = .ok (.if_icmp .ge 20, 3) := db548.2.2.2.2.2.2.2.1
theorem dX4_allRead_31 : decode cX4_allRead 31 = .ok (.lload_n 3, 1) := db548.2.2.2.2.2.2.2.2.1
theorem dX4_allRead_32 : decode cX4_allRead 32 = .ok (.lreturn, 1) := db548.2.2.2.2.2.2.2.2.2.1
theorem dX4_allRead_14 : decode cX4_allRead 14 = .ok (.lload_n 3, 1) := db548.2.2.2.2.2.2.2.2.2.2.1
theorem dX4_allRead_15 : decode cX4_allRead 15 = .ok (.aload_n 0, 1) := db548.2.2.2.2.2.2.2.2.2.2.2.1
theorem dX4_allRead_16 : decode cX4_allRead 16 = .ok (.aload_n 1, 1) := db548.2.2.2.2.2.2.2.2.2.2.2.2.1
theorem dX4_allRead_17 : decode cX4_allRead 17 = .ok (.iload 5, 2) := db548.2.2.2.2.2.2.2.2.2.2.2.2.2.1
theorem dX4_allRead_19 : decode cX4_allRead 19 = .ok (.iload_n 2, 1) := db548.2.2.2.2.2.2.2.2.2.2.2.2.2.2.1
theorem dX4_allRead_20 : decode cX4_allRead 20 = .ok (.invokevirtual 63, 3) := db548.2.2.2.2.2.2.2.2.2.2.2.2.2.2.2.1
theorem dX4_allRead_23 : decode cX4_allRead 23 = .ok (.ladd, 1) := db548.2.2.2.2.2.2.2.2.2.2.2.2.2.2.2.2.1
theorem dX4_allRead_24 : decode cX4_allRead 24 = .ok (.lstore_n 3, 1) := db548.2.2.2.2.2.2.2.2.2.2.2.2.2.2.2.2.2.1
theorem dX4_allRead_25 : decode cX4_allRead 25 = .ok (.iinc 5 1, 3) := db548.2.2.2.2.2.2.2.2.2.2.2.2.2.2.2.2.2.2.1
theorem dX4_allRead_28 : decode cX4_allRead 28 = .ok (.goto (-23), 3) := db548.2.2.2.2.2.2.2.2.2.2.2.2.2.2.2.2.2.2.2
theorem db549 : (decode cX4_areApart 0 = .ok (.iconst 0, 1)) ∧ (decode cX4_areApart 1 = .ok (.istore 4, 2)) ∧ (decode cX4_areApart 3 = .ok (.iload 4, 2)) ∧ (decode cX4_areApart 5 = .ok (.aload_n 1, 1)) ∧ (decode cX4_areApart 6 = .ok (.getfield 47, 3)) ∧ (decode cX4_areApart 9 = .ok (.if_icmp .ge 77, 3)) ∧ (decode cX4_areApart 86 = .ok (.iconst 1, 1)) ∧ (decode cX4_areApart 87 = .ok (.ireturn, 1)) ∧ (decode cX4_areApart 12 = .ok (.iconst 0, 1)) ∧ (decode cX4_areApart 13 = .ok (.istore 5, 2)) ∧ (decode cX4_areApart 15 = .ok (.iload 5, 2)) ∧ (decode cX4_areApart 17 = .ok (.iload 4, 2)) ∧ (decode cX4_areApart 19 = .ok (.if_icmp .ge 61, 3)) ∧ (decode cX4_areApart 80 = .ok (.iinc 4 1, 3)) ∧ (decode cX4_areApart 83 = .ok (.goto (-80), 3)) ∧ (decode cX4_areApart 22 = .ok (.iload_n 2, 1)) ∧ (decode cX4_areApart 23 = .ok (.iload 4, 2)) ∧ (decode cX4_areApart 25 = .ok (.ishr, 1)) ∧ (decode cX4_areApart 26 = .ok (.iconst 1, 1)) ∧ (decode cX4_areApart 27 = .ok (.iand, 1)) ∧ (decode cX4_areApart 45 = .ok (.istore 6, 2)) ∧ (decode cX4_areApart 47 = .ok (.iload 6, 2)) ∧ (decode cX4_areApart 74 = .ok (.iinc 5 1, 3)) ∧ (decode cX4_areApart 77 = .ok (.goto (-62), 3)) := by decide +kernel
theorem dX4_areApart_0 : decode cX4_areApart 0 = .ok (.iconst 0, 1) := db549.1
theorem dX4_areApart_1 : decode cX4_areApart 1 = .ok (.istore 4, 2) := db549.2.1
theorem dX4_areApart_3 : decode cX4_areApart 3 = .ok (.iload 4, 2) := db549.2.2.1
theorem dX4_areApart_5 : decode cX4_areApart 5 = .ok (.aload_n 1, 1) := db549.2.2.2.1
theorem dX4_areApart_6 : decode cX4_areApart 6 = .ok (.getfield 47, 3) := db549.2.2.2.2.1
theorem dX4_areApart_9 : decode cX4_areApart 9 = .ok (.if_icmp .ge 77, 3) := db549.2.2.2.2.2.1
theorem dX4_areApart_86 : decode cX4_areApart 86 = .ok (.iconst 1, 1) := db549.2.2.2.2.2.2.1
theorem dX4_areApart_87 : decode cX4_areApart 87 = .ok (.ireturn, 1) := db549.2.2.2.2.2.2.2.1
theorem dX4_areApart_12 : decode cX4_areApart 12 = .ok (.iconst 0, 1) := db549.2.2.2.2.2.2.2.2.1
theorem dX4_areApart_13 : decode cX4_areApart 13 = .ok (.istore 5, 2) := db549.2.2.2.2.2.2.2.2.2.1
theorem dX4_areApart_15 : decode cX4_areApart 15 = .ok (.iload 5, 2) := db549.2.2.2.2.2.2.2.2.2.2.1
theorem dX4_areApart_17 : decode cX4_areApart 17 = .ok (.iload 4, 2) := db549.2.2.2.2.2.2.2.2.2.2.2.1
theorem dX4_areApart_19 : decode cX4_areApart 19 = .ok (.if_icmp .ge 61, 3) := db549.2.2.2.2.2.2.2.2.2.2.2.2.1
theorem dX4_areApart_80 : decode cX4_areApart 80 = .ok (.iinc 4 1, 3) := db549.2.2.2.2.2.2.2.2.2.2.2.2.2.1
theorem dX4_areApart_83 : decode cX4_areApart 83 = .ok (.goto (-80), 3) := db549.2.2.2.2.2.2.2.2.2.2.2.2.2.2.1
theorem dX4_areApart_22 : decode cX4_areApart 22 = .ok (.iload_n 2, 1) := db549.2.2.2.2.2.2.2.2.2.2.2.2.2.2.2.1
theorem dX4_areApart_23 : decode cX4_areApart 23 = .ok (.iload 4, 2) := db549.2.2.2.2.2.2.2.2.2.2.2.2.2.2.2.2.1
theorem dX4_areApart_25 : decode cX4_areApart 25 = .ok (.ishr, 1) := db549.2.2.2.2.2.2.2.2.2.2.2.2.2.2.2.2.2.1
theorem dX4_areApart_26 : decode cX4_areApart 26 = .ok (.iconst 1, 1) := db549.2.2.2.2.2.2.2.2.2.2.2.2.2.2.2.2.2.2.1
theorem dX4_areApart_27 : decode cX4_areApart 27 = .ok (.iand, 1) := db549.2.2.2.2.2.2.2.2.2.2.2.2.2.2.2.2.2.2.2.1
theorem dX4_areApart_45 : decode cX4_areApart 45 = .ok (.istore 6, 2) := db549.2.2.2.2.2.2.2.2.2.2.2.2.2.2.2.2.2.2.2.2.1
theorem dX4_areApart_47 : decode cX4_areApart 47 = .ok (.iload 6, 2) := db549.2.2.2.2.2.2.2.2.2.2.2.2.2.2.2.2.2.2.2.2.2.1
theorem dX4_areApart_74 : decode cX4_areApart 74 = .ok (.iinc 5 1, 3) := db549.2.2.2.2.2.2.2.2.2.2.2.2.2.2.2.2.2.2.2.2.2.2.1
theorem dX4_areApart_77 : decode cX4_areApart 77 = .ok (.goto (-62), 3) := db549.2.2.2.2.2.2.2.2.2.2.2.2.2.2.2.2.2.2.2.2.2.2.2
theorem db550 : (decode cX4_areApart 49 = .ok (.ifCond .eq 25, 3)) ∧ (decode cX4_areApart 52 = .ok (.aload_n 1, 1)) ∧ (decode cX4_areApart 53 = .ok (.getfield 51, 3)) ∧ (decode cX4_areApart 56 = .ok (.iload 4, 2)) ∧ (decode cX4_areApart 58 = .ok (.iaload, 1)) ∧ (decode cX4_areApart 59 = .ok (.aload_n 1, 1)) ∧ (decode cX4_areApart 60 = .ok (.getfield 51, 3)) ∧ (decode cX4_areApart 63 = .ok (.iload 5, 2)) ∧ (decode cX4_areApart 65 = .ok (.iaload, 1)) ∧ (decode cX4_areApart 66 = .ok (.ixor, 1)) ∧ (decode cX4_areApart 67 = .ok (.iload_n 3, 1)) ∧ (decode cX4_areApart 68 = .ok (.iand, 1)) ∧ (decode cX4_areApart 69 = .ok (.ifCond .ne 5, 3)) ∧ (decode cX4_areApart 72 = .ok (.iconst 0, 1)) ∧ (decode cX4_areApart 73 = .ok (.ireturn, 1)) ∧ (decode cX4_areApart 44 = .ok (.iconst 0, 1)) ∧ (decode cX4_areApart 28 = .ok (.ifCond .eq 16, 3)) ∧ (decode cX4_areApart 31 = .ok (.iload_n 2, 1)) ∧ (decode cX4_areApart 32 = .ok (.iload 5, 2)) ∧ (decode cX4_areApart 34 = .ok (.ishr, 1)) ∧ (decode cX4_areApart 35 = .ok (.iconst 1, 1)) ∧ (decode cX4_areApart 36 = .ok (.iand, 1)) ∧ (decode cX4_areApart 37 = .ok (.ifCond .eq 7, 3)) ∧ (decode cX4_areApart 40 = .ok (.iconst 1, 1)) := by decide +kernel
theorem dX4_areApart_49 : decode cX4_areApart 49 = .ok (.ifCond .eq 25, 3) := db550.1
theorem dX4_areApart_52 : decode cX4_areApart 52 = .ok (.aload_n 1, 1) := db550.2.1
theorem dX4_areApart_53 : decode cX4_areApart 53 = .ok (.getfield 51, 3) := db550.2.2.1
theorem dX4_areApart_56 : decode cX4_areApart 56 = .ok (.iload 4, 2) := db550.2.2.2.1
theorem dX4_areApart_58 : decode cX4_areApart 58 = .ok (.iaload, 1) := db550.2.2.2.2.1
theorem dX4_areApart_59 : decode cX4_areApart 59 = .ok (.aload_n 1, 1) := db550.2.2.2.2.2.1
theorem dX4_areApart_60 : decode cX4_areApart 60 = .ok (.getfield 51, 3) := db550.2.2.2.2.2.2.1
theorem dX4_areApart_63 : decode cX4_areApart 63 = .ok (.iload 5, 2) := db550.2.2.2.2.2.2.2.1
theorem dX4_areApart_65 : decode cX4_areApart 65 = .ok (.iaload, 1) := db550.2.2.2.2.2.2.2.2.1
theorem dX4_areApart_66 : decode cX4_areApart 66 = .ok (.ixor, 1) := db550.2.2.2.2.2.2.2.2.2.1
theorem dX4_areApart_67 : decode cX4_areApart 67 = .ok (.iload_n 3, 1) := db550.2.2.2.2.2.2.2.2.2.2.1
theorem dX4_areApart_68 : decode cX4_areApart 68 = .ok (.iand, 1) := db550.2.2.2.2.2.2.2.2.2.2.2.1
theorem dX4_areApart_69 : decode cX4_areApart 69 = .ok (.ifCond .ne 5, 3) := db550.2.2.2.2.2.2.2.2.2.2.2.2.1
theorem dX4_areApart_72 : decode cX4_areApart 72 = .ok (.iconst 0, 1) := db550.2.2.2.2.2.2.2.2.2.2.2.2.2.1
theorem dX4_areApart_73 : decode cX4_areApart 73 = .ok (.ireturn, 1) := db550.2.2.2.2.2.2.2.2.2.2.2.2.2.2.1
theorem dX4_areApart_44 : decode cX4_areApart 44 = .ok (.iconst 0, 1) := db550.2.2.2.2.2.2.2.2.2.2.2.2.2.2.2.1
theorem dX4_areApart_28 : decode cX4_areApart 28 = .ok (.ifCond .eq 16, 3) := db550.2.2.2.2.2.2.2.2.2.2.2.2.2.2.2.2.1
theorem dX4_areApart_31 : decode cX4_areApart 31 = .ok (.iload_n 2, 1) := db550.2.2.2.2.2.2.2.2.2.2.2.2.2.2.2.2.2.1
theorem dX4_areApart_32 : decode cX4_areApart 32 = .ok (.iload 5, 2) := db550.2.2.2.2.2.2.2.2.2.2.2.2.2.2.2.2.2.2.1
theorem dX4_areApart_34 : decode cX4_areApart 34 = .ok (.ishr, 1) := db550.2.2.2.2.2.2.2.2.2.2.2.2.2.2.2.2.2.2.2.1
theorem dX4_areApart_35 : decode cX4_areApart 35 = .ok (.iconst 1, 1) := db550.2.2.2.2.2.2.2.2.2.2.2.2.2.2.2.2.2.2.2.2.1
theorem dX4_areApart_36 : decode cX4_areApart 36 = .ok (.iand, 1) := db550.2.2.2.2.2.2.2.2.2.2.2.2.2.2.2.2.2.2.2.2.2.1
theorem dX4_areApart_37 : decode cX4_areApart 37 = .ok (.ifCond .eq 7, 3) := db550.2.2.2.2.2.2.2.2.2.2.2.2.2.2.2.2.2.2.2.2.2.2.1
theorem dX4_areApart_40 : decode cX4_areApart 40 = .ok (.iconst 1, 1) := db550.2.2.2.2.2.2.2.2.2.2.2.2.2.2.2.2.2.2.2.2.2.2.2
theorem dX4_areApart_41 : decode cX4_areApart 41 = .ok (.goto 4, 3) := by decide +kernel
theorem db551 : (decode cX4_askedFirst 0 = .ok (.aload_n 1, 1)) ∧ (decode cX4_askedFirst 1 = .ok (.iload_n 2, 1)) ∧ (decode cX4_askedFirst 2 = .ok (.iload_n 3, 1)) ∧ (decode cX4_askedFirst 3 = .ok (.invokevirtual 32, 3)) ∧ (decode cX4_askedFirst 6 = .ok (.istore 4, 2)) ∧ (decode cX4_askedFirst 8 = .ok (.iload_n 2, 1)) ∧ (decode cX4_askedFirst 9 = .ok (.iload 4, 2)) ∧ (decode cX4_askedFirst 11 = .ok (.iconst (-1), 1)) ∧ (decode cX4_askedFirst 12 = .ok (.ixor, 1)) ∧ (decode cX4_askedFirst 13 = .ok (.iand, 1)) ∧ (decode cX4_askedFirst 14 = .ok (.istore 5, 2)) ∧ (decode cX4_askedFirst 16 = .ok (.iload 4, 2)) ∧ (decode cX4_askedFirst 18 = .ok (.ifCond .eq 30, 3)) ∧ (decode cX4_askedFirst 48 = .ok (.iconst (-1), 1)) ∧ (decode cX4_askedFirst 49 = .ok (.ireturn, 1)) ∧ (decode cX4_askedFirst 21 = .ok (.iload 5, 2)) ∧ (decode cX4_askedFirst 23 = .ok (.ifCond .eq 25, 3)) ∧ (decode cX4_askedFirst 26 = .ok (.aload_n 0, 1)) ∧ (decode cX4_askedFirst 27 = .ok (.getfield 11, 3)) ∧ (decode cX4_askedFirst 30 = .ok (.iload 4, 2)) ∧ (decode cX4_askedFirst 32 = .ok (.iaload, 1)) ∧ (decode cX4_askedFirst 33 = .ok (.iconst (-1), 1)) ∧ (decode cX4_askedFirst 34 = .ok (.if_icmp .eq 14, 3)) ∧ (decode cX4_askedFirst 37 = .ok (.aload_n 0, 1)) := by decide +kernel
theorem dX4_askedFirst_0 : decode cX4_askedFirst 0 = .ok (.aload_n 1, 1) := db551.1
theorem dX4_askedFirst_1 : decode cX4_askedFirst 1 = .ok (.iload_n 2, 1) := db551.2.1
theorem dX4_askedFirst_2 : decode cX4_askedFirst 2 = .ok (.iload_n 3, 1) := db551.2.2.1
theorem dX4_askedFirst_3 : decode cX4_askedFirst 3 = .ok (.invokevirtual 32, 3) := db551.2.2.2.1
theorem dX4_askedFirst_6 : decode cX4_askedFirst 6 = .ok (.istore 4, 2) := db551.2.2.2.2.1
theorem dX4_askedFirst_8 : decode cX4_askedFirst 8 = .ok (.iload_n 2, 1) := db551.2.2.2.2.2.1
theorem dX4_askedFirst_9 : decode cX4_askedFirst 9 = .ok (.iload 4, 2) := db551.2.2.2.2.2.2.1
theorem dX4_askedFirst_11 : decode cX4_askedFirst 11 = .ok (.iconst (-1), 1) := db551.2.2.2.2.2.2.2.1
theorem dX4_askedFirst_12 : decode cX4_askedFirst 12 = .ok (.ixor, 1) := db551.2.2.2.2.2.2.2.2.1
theorem dX4_askedFirst_13 : decode cX4_askedFirst 13 = .ok (.iand, 1) := db551.2.2.2.2.2.2.2.2.2.1
theorem dX4_askedFirst_14 : decode cX4_askedFirst 14 = .ok (.istore 5, 2) := db551.2.2.2.2.2.2.2.2.2.2.1
theorem dX4_askedFirst_16 : decode cX4_askedFirst 16 = .ok (.iload 4, 2) := db551.2.2.2.2.2.2.2.2.2.2.2.1
theorem dX4_askedFirst_18 : decode cX4_askedFirst 18 = .ok (.ifCond .eq 30, 3) := db551.2.2.2.2.2.2.2.2.2.2.2.2.1
theorem dX4_askedFirst_48 : decode cX4_askedFirst 48 = .ok (.iconst (-1), 1) := db551.2.2.2.2.2.2.2.2.2.2.2.2.2.1
theorem dX4_askedFirst_49 : decode cX4_askedFirst 49 = .ok (.ireturn, 1) := db551.2.2.2.2.2.2.2.2.2.2.2.2.2.2.1
theorem dX4_askedFirst_21 : decode cX4_askedFirst 21 = .ok (.iload 5, 2) := db551.2.2.2.2.2.2.2.2.2.2.2.2.2.2.2.1
theorem dX4_askedFirst_23 : decode cX4_askedFirst 23 = .ok (.ifCond .eq 25, 3) := db551.2.2.2.2.2.2.2.2.2.2.2.2.2.2.2.2.1
theorem dX4_askedFirst_26 : decode cX4_askedFirst 26 = .ok (.aload_n 0, 1) := db551.2.2.2.2.2.2.2.2.2.2.2.2.2.2.2.2.2.1
theorem dX4_askedFirst_27 : decode cX4_askedFirst 27 = .ok (.getfield 11, 3) := db551.2.2.2.2.2.2.2.2.2.2.2.2.2.2.2.2.2.2.1
theorem dX4_askedFirst_30 : decode cX4_askedFirst 30 = .ok (.iload 4, 2) := db551.2.2.2.2.2.2.2.2.2.2.2.2.2.2.2.2.2.2.2.1
theorem dX4_askedFirst_32 : decode cX4_askedFirst 32 = .ok (.iaload, 1) := db551.2.2.2.2.2.2.2.2.2.2.2.2.2.2.2.2.2.2.2.2.1
theorem dX4_askedFirst_33 : decode cX4_askedFirst 33 = .ok (.iconst (-1), 1) := db551.2.2.2.2.2.2.2.2.2.2.2.2.2.2.2.2.2.2.2.2.2.1
theorem dX4_askedFirst_34 : decode cX4_askedFirst 34 = .ok (.if_icmp .eq 14, 3) := db551.2.2.2.2.2.2.2.2.2.2.2.2.2.2.2.2.2.2.2.2.2.2.1
theorem dX4_askedFirst_37 : decode cX4_askedFirst 37 = .ok (.aload_n 0, 1) := db551.2.2.2.2.2.2.2.2.2.2.2.2.2.2.2.2.2.2.2.2.2.2.2
theorem db552 : (decode cX4_askedFirst 38 = .ok (.getfield 11, 3)) ∧ (decode cX4_askedFirst 41 = .ok (.iload 5, 2)) ∧ (decode cX4_askedFirst 43 = .ok (.iaload, 1)) ∧ (decode cX4_askedFirst 44 = .ok (.iconst (-1), 1)) ∧ (decode cX4_askedFirst 45 = .ok (.if_icmp .ne 5, 3)) ∧ (decode cX4_askedFirst 50 = .ok (.iconst 1, 1)) ∧ (decode cX4_askedFirst 51 = .ok (.aload_n 0, 1)) ∧ (decode cX4_askedFirst 52 = .ok (.getfield 11, 3)) ∧ (decode cX4_askedFirst 55 = .ok (.iload 4, 2)) ∧ (decode cX4_askedFirst 57 = .ok (.iaload, 1)) ∧ (decode cX4_askedFirst 58 = .ok (.aload_n 0, 1)) ∧ (decode cX4_askedFirst 59 = .ok (.getfield 11, 3)) ∧ (decode cX4_askedFirst 62 = .ok (.iload 5, 2)) ∧ (decode cX4_askedFirst 64 = .ok (.iaload, 1)) ∧ (decode cX4_askedFirst 65 = .ok (.invokestatic 38, 3)) ∧ (decode cX4_askedFirst 68 = .ok (.iadd, 1)) ∧ (decode cX4_askedFirst 69 = .ok (.ireturn, 1)) := by decide +kernel
theorem dX4_askedFirst_38 : decode cX4_askedFirst 38 = .ok (.getfield 11, 3) := db552.1
theorem dX4_askedFirst_41 : decode cX4_askedFirst 41 = .ok (.iload 5, 2) := db552.2.1
theorem dX4_askedFirst_43 : decode cX4_askedFirst 43 = .ok (.iaload, 1) := db552.2.2.1
theorem dX4_askedFirst_44 : decode cX4_askedFirst 44 = .ok (.iconst (-1), 1) := db552.2.2.2.1
theorem dX4_askedFirst_45 : decode cX4_askedFirst 45 = .ok (.if_icmp .ne 5, 3) := db552.2.2.2.2.1
theorem dX4_askedFirst_50 : decode cX4_askedFirst 50 = .ok (.iconst 1, 1) := db552.2.2.2.2.2.1
theorem dX4_askedFirst_51 : decode cX4_askedFirst 51 = .ok (.aload_n 0, 1) := db552.2.2.2.2.2.2.1
theorem dX4_askedFirst_52 : decode cX4_askedFirst 52 = .ok (.getfield 11, 3) := db552.2.2.2.2.2.2.2.1
theorem dX4_askedFirst_55 : decode cX4_askedFirst 55 = .ok (.iload 4, 2) := db552.2.2.2.2.2.2.2.2.1
theorem dX4_askedFirst_57 : decode cX4_askedFirst 57 = .ok (.iaload, 1) := db552.2.2.2.2.2.2.2.2.2.1
theorem dX4_askedFirst_58 : decode cX4_askedFirst 58 = .ok (.aload_n 0, 1) := db552.2.2.2.2.2.2.2.2.2.2.1
theorem dX4_askedFirst_59 : decode cX4_askedFirst 59 = .ok (.getfield 11, 3) := db552.2.2.2.2.2.2.2.2.2.2.2.1
theorem dX4_askedFirst_62 : decode cX4_askedFirst 62 = .ok (.iload 5, 2) := db552.2.2.2.2.2.2.2.2.2.2.2.2.1
theorem dX4_askedFirst_64 : decode cX4_askedFirst 64 = .ok (.iaload, 1) := db552.2.2.2.2.2.2.2.2.2.2.2.2.2.1
theorem dX4_askedFirst_65 : decode cX4_askedFirst 65 = .ok (.invokestatic 38, 3) := db552.2.2.2.2.2.2.2.2.2.2.2.2.2.2.1
theorem dX4_askedFirst_68 : decode cX4_askedFirst 68 = .ok (.iadd, 1) := db552.2.2.2.2.2.2.2.2.2.2.2.2.2.2.2.1
theorem dX4_askedFirst_69 : decode cX4_askedFirst 69 = .ok (.ireturn, 1) := db552.2.2.2.2.2.2.2.2.2.2.2.2.2.2.2.2
