theorem dX0_calling_73 : decode cX0_calling 73 = .ok (.ireturn, 1) := by decide +kernel
theorem db81 : (decode cX0_init 0 = .ok (.aload_n 0, 1)) ∧ (decode cX0_init 1 = .ok (.invokespecial 3, 3)) ∧ (decode cX0_init 4 = .ok (.aload_n 0, 1)) ∧ (decode cX0_init 5 = .ok (.iconst 5, 1)) ∧ (decode cX0_init 6 = .ok (.anewarray 9, 3)) ∧ (decode cX0_init 9 = .ok (.putfield 11, 3)) ∧ (decode cX0_init 12 = .ok (.aload_n 0, 1)) ∧ (decode cX0_init 13 = .ok (.iconst 5, 1)) ∧ (decode cX0_init 14 = .ok (.iconst 5, 1)) ∧ (decode cX0_init 15 = .ok (.multianewarray 17 2, 4)) ∧ (decode cX0_init 19 = .ok (.putfield 19, 3)) ∧ (decode cX0_init 22 = .ok (.aload_n 0, 1)) ∧ (decode cX0_init 23 = .ok (.bipush 7, 2)) ∧ (decode cX0_init 25 = .ok (.newarray .int, 2)) ∧ (decode cX0_init 27 = .ok (.putfield 22, 3)) ∧ (decode cX0_init 30 = .ok (.iconst 0, 1)) ∧ (decode cX0_init 31 = .ok (.istore_n 1, 1)) ∧ (decode cX0_init 32 = .ok (.iload_n 1, 1)) ∧ (decode cX0_init 33 = .ok (.iconst 5, 1)) ∧ (decode cX0_init 34 = .ok (.if_icmp .ge 22, 3)) ∧ (decode cX0_init 37 = .ok (.aload_n 0, 1)) ∧ (decode cX0_init 38 = .ok (.getfield 11, 3)) ∧ (decode cX0_init 41 = .ok (.iload_n 1, 1)) ∧ (decode cX0_init 42 = .ok (.new 9, 3)) := by decide +kernel
theorem dX0_init_0 : decode cX0_init 0 = .ok (.aload_n 0, 1) := db81.1
theorem dX0_init_1 : decode cX0_init 1 = .ok (.invokespecial 3, 3) := db81.2.1
theorem dX0_init_4 : decode cX0_init 4 = .ok (.aload_n 0, 1) := db81.2.2.1
theorem dX0_init_5 : decode cX0_init 5 = .ok (.iconst 5, 1) := db81.2.2.2.1
theorem dX0_init_6 : decode cX0_init 6 = .ok (.anewarray 9, 3) := db81.2.2.2.2.1
theorem dX0_init_9 : decode cX0_init 9 = .ok (.putfield 11, 3) := db81.2.2.2.2.2.1
theorem dX0_init_12 : decode cX0_init 12 = .ok (.aload_n 0, 1) := db81.2.2.2.2.2.2.1
theorem dX0_init_13 : decode cX0_init 13 = .ok (.iconst 5, 1) := db81.2.2.2.2.2.2.2.1
theorem dX0_init_14 : decode cX0_init 14 = .ok (.iconst 5, 1) := db81.2.2.2.2.2.2.2.2.1
theorem dX0_init_15 : decode cX0_init 15 = .ok (.multianewarray 17 2, 4) := db81.2.2.2.2.2.2.2.2.2.1
theorem dX0_init_19 : decode cX0_init 19 = .ok (.putfield 19, 3) := db81.2.2.2.2.2.2.2.2.2.2.1
theorem dX0_init_22 : decode cX0_init 22 = .ok (.aload_n 0, 1) := db81.2.2.2.2.2.2.2.2.2.2.2.1
theorem dX0_init_23 : decode cX0_init 23 = .ok (.bipush 7, 2) := db81.2.2.2.2.2.2.2.2.2.2.2.2.1
theorem dX0_init_25 : decode cX0_init 25 = .ok (.newarray .int, 2) := db81.2.2.2.2.2.2.2.2.2.2.2.2.2.1
theorem dX0_init_27 : decode cX0_init 27 = .ok (.putfield 22, 3) := db81.2.2.2.2.2.2.2.2.2.2.2.2.2.2.1
theorem dX0_init_30 : decode cX0_init 30 = .ok (.iconst 0, 1) := db81.2.2.2.2.2.2.2.2.2.2.2.2.2.2.2.1
theorem dX0_init_31 : decode cX0_init 31 = .ok (.istore_n 1, 1) := db81.2.2.2.2.2.2.2.2.2.2.2.2.2.2.2.2.1
theorem dX0_init_32 : decode cX0_init 32 = .ok (.iload_n 1, 1) := db81.2.2.2.2.2.2.2.2.2.2.2.2.2.2.2.2.2.1
theorem dX0_init_33 : decode cX0_init 33 = .ok (.iconst 5, 1) := db81.2.2.2.2.2.2.2.2.2.2.2.2.2.2.2.2.2.2.1
theorem dX0_init_34 : decode cX0_init 34 = .ok (.if_icmp .ge 22, 3) := db81.2.2.2.2.2.2.2.2.2.2.2.2.2.2.2.2.2.2.2.1
theorem dX0_init_37 : decode cX0_init 37 = .ok (.aload_n 0, 1) := db81.2.2.2.2.2.2.2.2.2.2.2.2.2.2.2.2.2.2.2.2.1
theorem dX0_init_38 : decode cX0_init 38 = .ok (.getfield 11, 3) := db81.2.2.2.2.2.2.2.2.2.2.2.2.2.2.2.2.2.2.2.2.2.1
theorem dX0_init_41 : decode cX0_init 41 = .ok (.iload_n 1, 1) := db81.2.2.2.2.2.2.2.2.2.2.2.2.2.2.2.2.2.2.2.2.2.2.1
theorem dX0_init_42 : decode cX0_init 42 = .ok (.new 9, 3) := db81.2.2.2.2.2.2.2.2.2.2.2.2.2.2.2.2.2.2.2.2.2.2.2
theorem db82 : (decode cX0_init 45 = .ok (.dup, 1)) ∧ (decode cX0_init 46 = .ok (.invokespecial 26, 3)) ∧ (decode cX0_init 49 = .ok (.aastore, 1)) ∧ (decode cX0_init 50 = .ok (.iinc 1 1, 3)) ∧ (decode cX0_init 53 = .ok (.goto (-21), 3)) ∧ (decode cX0_init 56 = .ok (.return_, 1)) := by decide +kernel
theorem dX0_init_45 : decode cX0_init 45 = .ok (.dup, 1) := db82.1
theorem dX0_init_46 : decode cX0_init 46 = .ok (.invokespecial 26, 3) := db82.2.1
theorem dX0_init_49 : decode cX0_init 49 = .ok (.aastore, 1) := db82.2.2.1
theorem dX0_init_50 : decode cX0_init 50 = .ok (.iinc 1 1, 3) := db82.2.2.2.1
theorem dX0_init_53 : decode cX0_init 53 = .ok (.goto (-21), 3) := db82.2.2.2.2.1
theorem dX0_init_56 : decode cX0_init 56 = .ok (.return_, 1) := db82.2.2.2.2.2
theorem db83 : (decode cX0_keepWay 0 = .ok (.aload_n 0, 1)) ∧ (decode cX0_keepWay 1 = .ok (.getfield 19, 3)) ∧ (decode cX0_keepWay 4 = .ok (.iload_n 1, 1)) ∧ (decode cX0_keepWay 5 = .ok (.aaload, 1)) ∧ (decode cX0_keepWay 6 = .ok (.iload_n 1, 1)) ∧ (decode cX0_keepWay 7 = .ok (.iload_n 2, 1)) ∧ (decode cX0_keepWay 8 = .ok (.iastore, 1)) ∧ (decode cX0_keepWay 9 = .ok (.iload_n 1, 1)) ∧ (decode cX0_keepWay 10 = .ok (.iconst 1, 1)) ∧ (decode cX0_keepWay 11 = .ok (.iadd, 1)) ∧ (decode cX0_keepWay 12 = .ok (.istore_n 3, 1)) ∧ (decode cX0_keepWay 13 = .ok (.iload_n 3, 1)) ∧ (decode cX0_keepWay 14 = .ok (.iconst 5, 1)) ∧ (decode cX0_keepWay 15 = .ok (.if_icmp .ge 27, 3)) ∧ (decode cX0_keepWay 42 = .ok (.return_, 1)) ∧ (decode cX0_keepWay 18 = .ok (.aload_n 0, 1)) ∧ (decode cX0_keepWay 19 = .ok (.getfield 19, 3)) ∧ (decode cX0_keepWay 22 = .ok (.iload_n 1, 1)) ∧ (decode cX0_keepWay 23 = .ok (.aaload, 1)) ∧ (decode cX0_keepWay 24 = .ok (.iload_n 3, 1)) ∧ (decode cX0_keepWay 25 = .ok (.aload_n 0, 1)) ∧ (decode cX0_keepWay 26 = .ok (.getfield 19, 3)) ∧ (decode cX0_keepWay 29 = .ok (.iload_n 1, 1)) ∧ (decode cX0_keepWay 30 = .ok (.iconst 1, 1)) := by decide +kernel
theorem dX0_keepWay_0 : decode cX0_keepWay 0 = .ok (.aload_n 0, 1) := db83.1
theorem dX0_keepWay_1 : decode cX0_keepWay 1 = .ok (.getfield 19, 3) := db83.2.1
theorem dX0_keepWay_4 : decode cX0_keepWay 4 = .ok (.iload_n 1, 1) := db83.2.2.1
theorem dX0_keepWay_5 : decode cX0_keepWay 5 = .ok (.aaload, 1) := db83.2.2.2.1
theorem dX0_keepWay_6 : decode cX0_keepWay 6 = .ok (.iload_n 1, 1) := db83.2.2.2.2.1
theorem dX0_keepWay_7 : decode cX0_keepWay 7 = .ok (.iload_n 2, 1) := db83.2.2.2.2.2.1
theorem dX0_keepWay_8 : decode cX0_keepWay 8 = .ok (.iastore, 1) := db83.2.2.2.2.2.2.1
theorem dX0_keepWay_9 : decode cX0_keepWay 9 = .ok (.iload_n 1, 1) := db83.2.2.2.2.2.2.2.1
theorem dX0_keepWay_10 : decode cX0_keepWay 10 = .ok (.iconst 1, 1) := db83.2.2.2.2.2.2.2.2.1
theorem dX0_keepWay_11 : decode cX0_keepWay 11 = .ok (.iadd, 1) := db83.2.2.2.2.2.2.2.2.2.1
theorem dX0_keepWay_12 : decode cX0_keepWay 12 = .ok (.istore_n 3, 1) := db83.2.2.2.2.2.2.2.2.2.2.1
theorem dX0_keepWay_13 : decode cX0_keepWay 13 = .ok (.iload_n 3, 1) := db83.2.2.2.2.2.2.2.2.2.2.2.1
theorem dX0_keepWay_14 : decode cX0_keepWay 14 = .ok (.iconst 5, 1) := db83.2.2.2.2.2.2.2.2.2.2.2.2.1
theorem dX0_keepWay_15 : decode cX0_keepWay 15 = .ok (.if_icmp .ge 27, 3) := db83.2.2.2.2.2.2.2.2.2.2.2.2.2.1
theorem dX0_keepWay_42 : decode cX0_keepWay 42 = .ok (.return_, 1) := db83.2.2.2.2.2.2.2.2.2.2.2.2.2.2.1
theorem dX0_keepWay_18 : decode cX0_keepWay 18 = .ok (.aload_n 0, 1) := db83.2.2.2.2.2.2.2.2.2.2.2.2.2.2.2.1
theorem dX0_keepWay_19 : decode cX0_keepWay 19 = .ok (.getfield 19, 3) := db83.2.2.2.2.2.2.2.2.2.2.2.2.2.2.2.2.1
theorem dX0_keepWay_22 : decode cX0_keepWay 22 = .ok (.iload_n 1, 1) := db83.2.2.2.2.2.2.2.2.2.2.2.2.2.2.2.2.2.1
theorem dX0_keepWay_23 : decode cX0_keepWay 23 = .ok (.aaload, 1) := db83.2.2.2.2.2.2.2.2.2.2.2.2.2.2.2.2.2.2.1
theorem dX0_keepWay_24 : decode cX0_keepWay 24 = .ok (.iload_n 3, 1) := db83.2.2.2.2.2.2.2.2.2.2.2.2.2.2.2.2.2.2.2.1
theorem dX0_keepWay_25 : decode cX0_keepWay 25 = .ok (.aload_n 0, 1) := db83.2.2.2.2.2.2.2.2.2.2.2.2.2.2.2.2.2.2.2.2.1
theorem dX0_keepWay_26 : decode cX0_keepWay 26 = .ok (.getfield 19, 3) := db83.2.2.2.2.2.2.2.2.2.2.2.2.2.2.2.2.2.2.2.2.2.1
theorem dX0_keepWay_29 : decode cX0_keepWay 29 = .ok (.iload_n 1, 1) := db83.2.2.2.2.2.2.2.2.2.2.2.2.2.2.2.2.2.2.2.2.2.2.1
theorem dX0_keepWay_30 : decode cX0_keepWay 30 = .ok (.iconst 1, 1) := db83.2.2.2.2.2.2.2.2.2.2.2.2.2.2.2.2.2.2.2.2.2.2.2
theorem db84 : (decode cX0_keepWay 31 = .ok (.iadd, 1)) ∧ (decode cX0_keepWay 32 = .ok (.aaload, 1)) ∧ (decode cX0_keepWay 33 = .ok (.iload_n 3, 1)) ∧ (decode cX0_keepWay 34 = .ok (.iaload, 1)) ∧ (decode cX0_keepWay 35 = .ok (.iastore, 1)) ∧ (decode cX0_keepWay 36 = .ok (.iinc 3 1, 3)) ∧ (decode cX0_keepWay 39 = .ok (.goto (-26), 3)) := by decide +kernel
theorem dX0_keepWay_31 : decode cX0_keepWay 31 = .ok (.iadd, 1) := db84.1
theorem dX0_keepWay_32 : decode cX0_keepWay 32 = .ok (.aaload, 1) := db84.2.1
theorem dX0_keepWay_33 : decode cX0_keepWay 33 = .ok (.iload_n 3, 1) := db84.2.2.1
theorem dX0_keepWay_34 : decode cX0_keepWay 34 = .ok (.iaload, 1) := db84.2.2.2.1
theorem dX0_keepWay_35 : decode cX0_keepWay 35 = .ok (.iastore, 1) := db84.2.2.2.2.1
theorem dX0_keepWay_36 : decode cX0_keepWay 36 = .ok (.iinc 3 1, 3) := db84.2.2.2.2.2.1
theorem dX0_keepWay_39 : decode cX0_keepWay 39 = .ok (.goto (-26), 3) := db84.2.2.2.2.2.2
theorem db85 : (decode cX0_mostFrom 0 = .ok (.aload_n 0, 1)) ∧ (decode cX0_mostFrom 1 = .ok (.getfield 11, 3)) ∧ (decode cX0_mostFrom 4 = .ok (.iconst 0, 1)) ∧ (decode cX0_mostFrom 5 = .ok (.aaload, 1)) ∧ (decode cX0_mostFrom 6 = .ok (.aload_n 2, 1)) ∧ (decode cX0_mostFrom 7 = .ok (.invokevirtual 27, 3)) ∧ (decode cX0_mostFrom 10 = .ok (.aload_n 0, 1)) ∧ (decode cX0_mostFrom 11 = .ok (.aload_n 1, 1)) ∧ (decode cX0_mostFrom 12 = .ok (.iload_n 3, 1)) ∧ (decode cX0_mostFrom 13 = .ok (.iconst 0, 1)) ∧ (decode cX0_mostFrom 14 = .ok (.iload 4, 2)) ∧ (decode cX0_mostFrom 16 = .ok (.invokevirtual 31, 3)) ∧ (decode cX0_mostFrom 19 = .ok (.ireturn, 1)) := by decide +kernel
theorem dX0_mostFrom_0 : decode cX0_mostFrom 0 = .ok (.aload_n 0, 1) := db85.1
theorem dX0_mostFrom_1 : decode cX0_mostFrom 1 = .ok (.getfield 11, 3) := db85.2.1
theorem dX0_mostFrom_4 : decode cX0_mostFrom 4 = .ok (.iconst 0, 1) := db85.2.2.1
theorem dX0_mostFrom_5 : decode cX0_mostFrom 5 = .ok (.aaload, 1) := db85.2.2.2.1
theorem dX0_mostFrom_6 : decode cX0_mostFrom 6 = .ok (.aload_n 2, 1) := db85.2.2.2.2.1
theorem dX0_mostFrom_7 : decode cX0_mostFrom 7 = .ok (.invokevirtual 27, 3) := db85.2.2.2.2.2.1
theorem dX0_mostFrom_10 : decode cX0_mostFrom 10 = .ok (.aload_n 0, 1) := db85.2.2.2.2.2.2.1
theorem dX0_mostFrom_11 : decode cX0_mostFrom 11 = .ok (.aload_n 1, 1) := db85.2.2.2.2.2.2.2.1
theorem dX0_mostFrom_12 : decode cX0_mostFrom 12 = .ok (.iload_n 3, 1) := db85.2.2.2.2.2.2.2.2.1
theorem dX0_mostFrom_13 : decode cX0_mostFrom 13 = .ok (.iconst 0, 1) := db85.2.2.2.2.2.2.2.2.2.1
theorem dX0_mostFrom_14 : decode cX0_mostFrom 14 = .ok (.iload 4, 2) := db85.2.2.2.2.2.2.2.2.2.2.1
theorem dX0_mostFrom_16 : decode cX0_mostFrom 16 = .ok (.invokevirtual 31, 3) := db85.2.2.2.2.2.2.2.2.2.2.2.1
theorem dX0_mostFrom_19 : decode cX0_mostFrom 19 = .ok (.ireturn, 1) := db85.2.2.2.2.2.2.2.2.2.2.2.2
theorem db86 : (decode cX0_seek 0 = .ok (.iload_n 3, 1)) ∧ (decode cX0_seek 1 = .ok (.iload 4, 2)) ∧ (decode cX0_seek 3 = .ok (.if_icmp .ge 8, 3)) ∧ (decode cX0_seek 11 = .ok (.iconst 0, 1)) ∧ (decode cX0_seek 12 = .ok (.ireturn, 1)) ∧ (decode cX0_seek 6 = .ok (.iload_n 3, 1)) ∧ (decode cX0_seek 7 = .ok (.iconst 5, 1)) ∧ (decode cX0_seek 8 = .ok (.if_icmp .lt 5, 3)) ∧ (decode cX0_seek 13 = .ok (.iconst (-1), 1)) ∧ (decode cX0_seek 14 = .ok (.istore 5, 2)) ∧ (decode cX0_seek 16 = .ok (.iconst 0, 1)) ∧ (decode cX0_seek 17 = .ok (.istore 6, 2)) ∧ (decode cX0_seek 19 = .ok (.iload 6, 2)) ∧ (decode cX0_seek 21 = .ok (.aload_n 1, 1)) ∧ (decode cX0_seek 22 = .ok (.getfield 35, 3)) ∧ (decode cX0_seek 25 = .ok (.if_icmp .ge 49, 3)) ∧ (decode cX0_seek 74 = .ok (.iload 5, 2)) ∧ (decode cX0_seek 76 = .ok (.ireturn, 1)) ∧ (decode cX0_seek 28 = .ok (.aload_n 1, 1)) ∧ (decode cX0_seek 29 = .ok (.iload_n 2, 1)) ∧ (decode cX0_seek 30 = .ok (.iload 6, 2)) ∧ (decode cX0_seek 32 = .ok (.invokevirtual 44, 3)) ∧ (decode cX0_seek 68 = .ok (.iinc 6 1, 3)) ∧ (decode cX0_seek 71 = .ok (.goto (-52), 3)) := by decide +kernel
theorem dX0_seek_0 : decode cX0_seek 0 = .ok (.iload_n 3, 1) := db86.1
theorem dX0_seek_1 : decode cX0_seek 1 = .ok (.iload 4, 2) := db86.2.1
theorem dX0_seek_3 : decode cX0_seek 3 = .ok (.if_icmp .ge 8, 3) := db86.2.2.1
theorem dX0_seek_11 : decode cX0_seek 11 = .ok (.iconst 0, 1) := db86.2.2.2.1
theorem dX0_seek_12 : decode cX0_seek 12 = .ok (.ireturn, 1) := db86.2.2.2.2.1
theorem dX0_seek_6 : decode cX0_seek 6 = .ok (.iload_n 3, 1) := db86.2.2.2.2.2.1
theorem dX0_seek_7 : decode cX0_seek 7 = .ok (.iconst 5, 1) := db86.2.2.2.2.2.2.1
theorem dX0_seek_8 : decode cX0_seek 8 = .ok (.if_icmp .lt 5, 3) := db86.2.2.2.2.2.2.2.1
theorem dX0_seek_13 : decode cX0_seek 13 = .ok (.iconst (-1), 1) := db86.2.2.2.2.2.2.2.2.1
theorem dX0_seek_14 : decode cX0_seek 14 = .ok (.istore 5, 2) := db86.2.2.2.2.2.2.2.2.2.1
theorem dX0_seek_16 : decode cX0_seek 16 = .ok (.iconst 0, 1) := db86.2.2.2.2.2.2.2.2.2.2.1
theorem dX0_seek_17 : decode cX0_seek 17 = .ok (.istore 6, 2) := db86.2.2.2.2.2.2.2.2.2.2.2.1
theorem dX0_seek_19 : decode cX0_seek 19 = .ok (.iload 6, 2) := db86.2.2.2.2.2.2.2.2.2.2.2.2.1
theorem dX0_seek_21 : decode cX0_seek 21 = .ok (.aload_n 1, 1) := db86.2.2.2.2.2.2.2.2.2.2.2.2.2.1
theorem dX0_seek_22 : decode cX0_seek 22 = .ok (.getfield 35, 3) := db86.2.2.2.2.2.2.2.2.2.2.2.2.2.2.1
theorem dX0_seek_25 : decode cX0_seek 25 = .ok (.if_icmp .ge 49, 3) := db86.2.2.2.2.2.2.2.2.2.2.2.2.2.2.2.1
theorem dX0_seek_74 : decode cX0_seek 74 = .ok (.iload 5, 2) := db86.2.2.2.2.2.2.2.2.2.2.2.2.2.2.2.2.1
theorem dX0_seek_76 : decode cX0_seek 76 = .ok (.ireturn, 1) := db86.2.2.2.2.2.2.2.2.2.2.2.2.2.2.2.2.2.1
theorem dX0_seek_28 : decode cX0_seek 28 = .ok (.aload_n 1, 1) := db86.2.2.2.2.2.2.2.2.2.2.2.2.2.2.2.2.2.2.1
theorem dX0_seek_29 : decode cX0_seek 29 = .ok (.iload_n 2, 1) := db86.2.2.2.2.2.2.2.2.2.2.2.2.2.2.2.2.2.2.2.1
theorem dX0_seek_30 : decode cX0_seek 30 = .ok (.iload 6, 2) := db86.2.2.2.2.2.2.2.2.2.2.2.2.2.2.2.2.2.2.2.2.1
theorem dX0_seek_32 : decode cX0_seek 32 = .ok (.invokevirtual 44, 3) := db86.2.2.2.2.2.2.2.2.2.2.2.2.2.2.2.2.2.2.2.2.2.1
theorem dX0_seek_68 : decode cX0_seek 68 = .ok (.iinc 6 1, 3) := db86.2.2.2.2.2.2.2.2.2.2.2.2.2.2.2.2.2.2.2.2.2.2.1
theorem dX0_seek_71 : decode cX0_seek 71 = .ok (.goto (-52), 3) := db86.2.2.2.2.2.2.2.2.2.2.2.2.2.2.2.2.2.2.2.2.2.2.2
theorem db87 : (decode cX0_seek 35 = .ok (.ifCond .eq 33, 3)) ∧ (decode cX0_seek 38 = .ok (.aload_n 0, 1)) ∧ (decode cX0_seek 39 = .ok (.aload_n 1, 1)) ∧ (decode cX0_seek 40 = .ok (.iload 6, 2)) ∧ (decode cX0_seek 42 = .ok (.iload_n 3, 1)) ∧ (decode cX0_seek 43 = .ok (.iload 4, 2)) ∧ (decode cX0_seek 45 = .ok (.invokevirtual 41, 3)) ∧ (decode cX0_seek 48 = .ok (.istore 7, 2)) ∧ (decode cX0_seek 50 = .ok (.iload 7, 2)) ∧ (decode cX0_seek 52 = .ok (.iload 5, 2)) ∧ (decode cX0_seek 54 = .ok (.if_icmp .le 14, 3)) ∧ (decode cX0_seek 57 = .ok (.iload 7, 2)) ∧ (decode cX0_seek 59 = .ok (.istore 5, 2)) ∧ (decode cX0_seek 61 = .ok (.aload_n 0, 1)) ∧ (decode cX0_seek 62 = .ok (.iload_n 3, 1)) ∧ (decode cX0_seek 63 = .ok (.iload 6, 2)) ∧ (decode cX0_seek 65 = .ok (.invokevirtual 48, 3)) := by decide +kernel
theorem dX0_seek_35 : decode cX0_seek 35 = .ok (.ifCond .eq 33, 3) := db87.1
theorem dX0_seek_38 : decode cX0_seek 38 = .ok (.aload_n 0, 1) := db87.2.1
theorem dX0_seek_39 : decode cX0_seek 39 = .ok (.aload_n 1, 1) := db87.2.2.1
theorem dX0_seek_40 : decode cX0_seek 40 = .ok (.iload 6, 2) := db87.2.2.2.1
theorem dX0_seek_42 : decode cX0_seek 42 = .ok (.iload_n 3, 1) := db87.2.2.2.2.1
theorem dX0_seek_43 : decode cX0_seek 43 = .ok (.iload 4, 2) := db87.2.2.2.2.2.1
theorem dX0_seek_45 : decode cX0_seek 45 = .ok (.invokevirtual 41, 3) := db87.2.2.2.2.2.2.1
theorem dX0_seek_48 : decode cX0_seek 48 = .ok (.istore 7, 2) := db87.2.2.2.2.2.2.2.1
theorem dX0_seek_50 : decode cX0_seek 50 = .ok (.iload 7, 2) := db87.2.2.2.2.2.2.2.2.1
theorem dX0_seek_52 : decode cX0_seek 52 = .ok (.iload 5, 2) := db87.2.2.2.2.2.2.2.2.2.1
theorem dX0_seek_54 : decode cX0_seek 54 = .ok (.if_icmp .le 14, 3) := db87.2.2.2.2.2.2.2.2.2.2.1
theorem dX0_seek_57 : decode cX0_seek 57 = .ok (.iload 7, 2) := db87.2.2.2.2.2.2.2.2.2.2.2.1
theorem dX0_seek_59 : decode cX0_seek 59 = .ok (.istore 5, 2) := db87.2.2.2.2.2.2.2.2.2.2.2.2.1
theorem dX0_seek_61 : decode cX0_seek 61 = .ok (.aload_n 0, 1) := db87.2.2.2.2.2.2.2.2.2.2.2.2.2.1
theorem dX0_seek_62 : decode cX0_seek 62 = .ok (.iload_n 3, 1) := db87.2.2.2.2.2.2.2.2.2.2.2.2.2.2.1
theorem dX0_seek_63 : decode cX0_seek 63 = .ok (.iload 6, 2) := db87.2.2.2.2.2.2.2.2.2.2.2.2.2.2.2.1
theorem dX0_seek_65 : decode cX0_seek 65 = .ok (.invokevirtual 48, 3) := db87.2.2.2.2.2.2.2.2.2.2.2.2.2.2.2.2
theorem db88 : (decode cX0_stepAt 0 = .ok (.iload_n 1, 1)) ∧ (decode cX0_stepAt 1 = .ok (.ifCond .lt 19, 3)) ∧ (decode cX0_stepAt 20 = .ok (.iconst (-1), 1)) ∧ (decode cX0_stepAt 21 = .ok (.ireturn, 1)) ∧ (decode cX0_stepAt 4 = .ok (.iload_n 1, 1)) ∧ (decode cX0_stepAt 5 = .ok (.iconst 5, 1)) ∧ (decode cX0_stepAt 6 = .ok (.if_icmp .ge 14, 3)) ∧ (decode cX0_stepAt 9 = .ok (.aload_n 0, 1)) ∧ (decode cX0_stepAt 10 = .ok (.getfield 19, 3)) ∧ (decode cX0_stepAt 13 = .ok (.iconst 0, 1)) ∧ (decode cX0_stepAt 14 = .ok (.aaload, 1)) ∧ (decode cX0_stepAt 15 = .ok (.iload_n 1, 1)) ∧ (decode cX0_stepAt 16 = .ok (.iaload, 1)) ∧ (decode cX0_stepAt 17 = .ok (.goto 4, 3)) := by decide +kernel
theorem dX0_stepAt_0 : decode cX0_stepAt 0 = .ok (.iload_n 1, 1) := db88.1
theorem dX0_stepAt_1 : decode cX0_stepAt 1 = .ok (.ifCond .lt 19, 3) := db88.2.1
theorem dX0_stepAt_20 : decode cX0_stepAt 20 = .ok (.iconst (-1), 1) := db88.2.2.1
theorem dX0_stepAt_21 : decode cX0_stepAt 21 = .ok (.ireturn, 1) := db88.2.2.2.1
theorem dX0_stepAt_4 : decode cX0_stepAt 4 = .ok (.iload_n 1, 1) := db88.2.2.2.2.1
theorem dX0_stepAt_5 : decode cX0_stepAt 5 = .ok (.iconst 5, 1) := db88.2.2.2.2.2.1
theorem dX0_stepAt_6 : decode cX0_stepAt 6 = .ok (.if_icmp .ge 14, 3) := db88.2.2.2.2.2.2.1
theorem dX0_stepAt_9 : decode cX0_stepAt 9 = .ok (.aload_n 0, 1) := db88.2.2.2.2.2.2.2.1
theorem dX0_stepAt_10 : decode cX0_stepAt 10 = .ok (.getfield 19, 3) := db88.2.2.2.2.2.2.2.2.1
theorem dX0_stepAt_13 : decode cX0_stepAt 13 = .ok (.iconst 0, 1) := db88.2.2.2.2.2.2.2.2.2.1
theorem dX0_stepAt_14 : decode cX0_stepAt 14 = .ok (.aaload, 1) := db88.2.2.2.2.2.2.2.2.2.2.1
theorem dX0_stepAt_15 : decode cX0_stepAt 15 = .ok (.iload_n 1, 1) := db88.2.2.2.2.2.2.2.2.2.2.2.1
theorem dX0_stepAt_16 : decode cX0_stepAt 16 = .ok (.iaload, 1) := db88.2.2.2.2.2.2.2.2.2.2.2.2.1
theorem dX0_stepAt_17 : decode cX0_stepAt 17 = .ok (.goto 4, 3) := db88.2.2.2.2.2.2.2.2.2.2.2.2.2
theorem db89 : (decode cX10_anew 0 = .ok (.aload_n 0, 1)) ∧ (decode cX10_anew 1 = .ok (.invokevirtual 152, 3)) ∧ (decode cX10_anew 4 = .ok (.ifCond .ne 6, 3)) ∧ (decode cX10_anew 10 = .ok (.aload_n 0, 1)) ∧ (decode cX10_anew 11 = .ok (.getfield 31, 3)) ∧ (decode cX10_anew 14 = .ok (.getfield 105, 3)) ∧ (decode cX10_anew 17 = .ok (.istore_n 1, 1)) ∧ (decode cX10_anew 18 = .ok (.aload_n 0, 1)) ∧ (decode cX10_anew 19 = .ok (.getfield 31, 3)) ∧ (decode cX10_anew 22 = .ok (.iconst 0, 1)) ∧ (decode cX10_anew 23 = .ok (.putfield 105, 3)) ∧ (decode cX10_anew 26 = .ok (.aload_n 0, 1)) ∧ (decode cX10_anew 27 = .ok (.invokevirtual 108, 3)) ∧ (decode cX10_anew 30 = .ok (.iload_n 1, 1)) ∧ (decode cX10_anew 31 = .ok (.ireturn, 1)) ∧ (decode cX10_anew 7 = .ok (.bipush (-2), 2)) ∧ (decode cX10_anew 9 = .ok (.ireturn, 1)) := by decide +kernel
theorem dX10_anew_0 : decode cX10_anew 0 = .ok (.aload_n 0, 1) := db89.1
theorem dX10_anew_1 : decode cX10_anew 1 = .ok (.invokevirtual 152, 3) := db89.2.1
theorem dX10_anew_4 : decode cX10_anew 4 = .ok (.ifCond .ne 6, 3) := db89.2.2.1
theorem dX10_anew_10 : decode cX10_anew 10 = .ok (.aload_n 0, 1) := db89.2.2.2.1
theorem dX10_anew_11 : decode cX10_anew 11 = .ok (.getfield 31, 3) := db89.2.2.2.2.1
theorem dX10_anew_14 : decode cX10_anew 14 = .ok (.getfield 105, 3) := db89.2.2.2.2.2.1
theorem dX10_anew_17 : decode cX10_anew 17 = .ok (.istore_n 1, 1) := db89.2.2.2.2.2.2.1
theorem dX10_anew_18 : decode cX10_anew 18 = .ok (.aload_n 0, 1) := db89.2.2.2.2.2.2.2.1
theorem dX10_anew_19 : decode cX10_anew 19 = .ok (.getfield 31, 3) := db89.2.2.2.2.2.2.2.2.1
theorem dX10_anew_22 : decode cX10_anew 22 = .ok (.iconst 0, 1) := db89.2.2.2.2.2.2.2.2.2.1
theorem dX10_anew_23 : decode cX10_anew 23 = .ok (.putfield 105, 3) := db89.2.2.2.2.2.2.2.2.2.2.1
theorem dX10_anew_26 : decode cX10_anew 26 = .ok (.aload_n 0, 1) := db89.2.2.2.2.2.2.2.2.2.2.2.1
theorem dX10_anew_27 : decode cX10_anew 27 = .ok (.invokevirtual 108, 3) := db89.2.2.2.2.2.2.2.2.2.2.2.2.1
theorem dX10_anew_30 : decode cX10_anew 30 = .ok (.iload_n 1, 1) := db89.2.2.2.2.2.2.2.2.2.2.2.2.2.1
theorem dX10_anew_31 : decode cX10_anew 31 = .ok (.ireturn, 1) := db89.2.2.2.2.2.2.2.2.2.2.2.2.2.2.1
theorem dX10_anew_7 : decode cX10_anew 7 = .ok (.bipush (-2), 2) := db89.2.2.2.2.2.2.2.2.2.2.2.2.2.2.2.1
theorem dX10_anew_9 : decode cX10_anew 9 = .ok (.ireturn, 1) := db89.2.2.2.2.2.2.2.2.2.2.2.2.2.2.2.2
theorem db90 : (decode cX10_askHabits 0 = .ok (.aload_n 0, 1)) ∧ (decode cX10_askHabits 1 = .ok (.iload_n 1, 1)) ∧ (decode cX10_askHabits 2 = .ok (.iload_n 2, 1)) ∧ (decode cX10_askHabits 3 = .ok (.iconst 0, 1)) ∧ (decode cX10_askHabits 4 = .ok (.invokevirtual 381, 3)) ∧ (decode cX10_askHabits 7 = .ok (.ireturn, 1)) := by decide +kernel
theorem dX10_askHabits_0 : decode cX10_askHabits 0 = .ok (.aload_n 0, 1) := db90.1
theorem dX10_askHabits_1 : decode cX10_askHabits 1 = .ok (.iload_n 1, 1) := db90.2.1
theorem dX10_askHabits_2 : decode cX10_askHabits 2 = .ok (.iload_n 2, 1) := db90.2.2.1
theorem dX10_askHabits_3 : decode cX10_askHabits 3 = .ok (.iconst 0, 1) := db90.2.2.2.1
theorem dX10_askHabits_4 : decode cX10_askHabits 4 = .ok (.invokevirtual 381, 3) := db90.2.2.2.2.1
theorem dX10_askHabits_7 : decode cX10_askHabits 7 = .ok (.ireturn, 1) := db90.2.2.2.2.2
theorem db91 : (decode cX10_askRound 0 = .ok (.aload_n 0, 1)) ∧ (decode cX10_askRound 1 = .ok (.iload_n 1, 1)) ∧ (decode cX10_askRound 2 = .ok (.iload_n 2, 1)) ∧ (decode cX10_askRound 3 = .ok (.iconst (-1), 1)) ∧ (decode cX10_askRound 4 = .ok (.invokevirtual 381, 3)) ∧ (decode cX10_askRound 7 = .ok (.ireturn, 1)) := by decide +kernel
theorem dX10_askRound_0 : decode cX10_askRound 0 = .ok (.aload_n 0, 1) := db91.1
theorem dX10_askRound_1 : decode cX10_askRound 1 = .ok (.iload_n 1, 1) := db91.2.1
theorem dX10_askRound_2 : decode cX10_askRound 2 = .ok (.iload_n 2, 1) := db91.2.2.1
theorem dX10_askRound_3 : decode cX10_askRound 3 = .ok (.iconst (-1), 1) := db91.2.2.2.1
theorem dX10_askRound_4 : decode cX10_askRound 4 = .ok (.invokevirtual 381, 3) := db91.2.2.2.2.1
theorem dX10_askRound_7 : decode cX10_askRound 7 = .ok (.ireturn, 1) := db91.2.2.2.2.2
theorem db92 : (decode cX10_askRow 0 = .ok (.aload_n 0, 1)) ∧ (decode cX10_askRow 1 = .ok (.iload_n 1, 1)) ∧ (decode cX10_askRow 2 = .ok (.invokevirtual 348, 3)) ∧ (decode cX10_askRow 5 = .ok (.ifCond .eq 14, 3)) ∧ (decode cX10_askRow 19 = .ok (.bipush (-2), 2)) ∧ (decode cX10_askRow 21 = .ok (.ireturn, 1)) ∧ (decode cX10_askRow 8 = .ok (.aload_n 0, 1)) ∧ (decode cX10_askRow 9 = .ok (.invokevirtual 152, 3)) ∧ (decode cX10_askRow 12 = .ok (.ifCond .eq 7, 3)) ∧ (decode cX10_askRow 15 = .ok (.iload_n 2, 1)) ∧ (decode cX10_askRow 16 = .ok (.ifCond .ne 6, 3)) ∧ (decode cX10_askRow 22 = .ok (.aload_n 0, 1)) ∧ (decode cX10_askRow 23 = .ok (.getfield 41, 3)) ∧ (decode cX10_askRow 26 = .ok (.iload_n 1, 1)) ∧ (decode cX10_askRow 27 = .ok (.aaload, 1)) ∧ (decode cX10_askRow 28 = .ok (.getfield 354, 3)) ∧ (decode cX10_askRow 31 = .ok (.ifCond .ne 6, 3)) ∧ (decode cX10_askRow 37 = .ok (.aload_n 0, 1)) ∧ (decode cX10_askRow 38 = .ok (.getfield 41, 3)) ∧ (decode cX10_askRow 41 = .ok (.iload_n 1, 1)) ∧ (decode cX10_askRow 42 = .ok (.aaload, 1)) ∧ (decode cX10_askRow 43 = .ok (.iload_n 3, 1)) ∧ (decode cX10_askRow 44 = .ok (.aload_n 0, 1)) ∧ (decode cX10_askRow 45 = .ok (.getfield 31, 3)) := by decide +kernel
theorem dX10_askRow_0 : decode cX10_askRow 0 = .ok (.aload_n 0, 1) := db92.1
theorem dX10_askRow_1 : decode cX10_askRow 1 = .ok (.iload_n 1, 1) := db92.2.1
theorem dX10_askRow_2 : decode cX10_askRow 2 = .ok (.invokevirtual 348, 3) := db92.2.2.1
theorem dX10_askRow_5 : decode cX10_askRow 5 = .ok (.ifCond .eq 14, 3) := db92.2.2.2.1
theorem dX10_askRow_19 : decode cX10_askRow 19 = .ok (.bipush (-2), 2) := db92.2.2.2.2.1
theorem dX10_askRow_21 : decode cX10_askRow 21 = .ok (.ireturn, 1) := db92.2.2.2.2.2.1
theorem dX10_askRow_8 : decode cX10_askRow 8 = .ok (.aload_n 0, 1) := db92.2.2.2.2.2.2.1
theorem dX10_askRow_9 : decode cX10_askRow 9 = .ok (.invokevirtual 152, 3) := db92.2.2.2.2.2.2.2.1
theorem dX10_askRow_12 : decode cX10_askRow 12 = .ok (.ifCond .eq 7, 3) := db92.2.2.2.2.2.2.2.2.1
theorem dX10_askRow_15 : decode cX10_askRow 15 = .ok (.iload_n 2, 1) := db92.2.2.2.2.2.2.2.2.2.1
theorem dX10_askRow_16 : decode cX10_askRow 16 = .ok (.ifCond .ne 6, 3) := db92.2.2.2.2.2.2.2.2.2.2.1
theorem dX10_askRow_22 : decode cX10_askRow 22 = .ok (.aload_n 0, 1) := db92.2.2.2.2.2.2.2.2.2.2.2.1
theorem dX10_askRow_23 : decode cX10_askRow 23 = .ok (.getfield 41, 3) := db92.2.2.2.2.2.2.2.2.2.2.2.2.1
theorem dX10_askRow_26 : decode cX10_askRow 26 = .ok (.iload_n 1, 1) := db92.2.2.2.2.2.2.2.2.2.2.2.2.2.1
theorem dX10_askRow_27 : decode cX10_askRow 27 = .ok (.aaload, 1) := db92.2.2.2.2.2.2.2.2.2.2.2.2.2.2.1
theorem dX10_askRow_28 : decode cX10_askRow 28 = .ok (.getfield 354, 3) := db92.2.2.2.2.2.2.2.2.2.2.2.2.2.2.2.1
theorem dX10_askRow_31 : decode cX10_askRow 31 = .ok (.ifCond .ne 6, 3) := db92.2.2.2.2.2.2.2.2.2.2.2.2.2.2.2.2.1
theorem dX10_askRow_37 : decode cX10_askRow 37 = .ok (.aload_n 0, 1) := db92.2.2.2.2.2.2.2.2.2.2.2.2.2.2.2.2.2.1
theorem dX10_askRow_38 : decode cX10_askRow 38 = .ok (.getfield 41, 3) := db92.2.2.2.2.2.2.2.2.2.2.2.2.2.2.2.2.2.2.1
theorem dX10_askRow_41 : decode cX10_askRow 41 = .ok (.iload_n 1, 1) := db92.2.2.2.2.2.2.2.2.2.2.2.2.2.2.2.2.2.2.2.1
theorem dX10_askRow_42 : decode cX10_askRow 42 = .ok (.aaload, 1) := db92.2.2.2.2.2.2.2.2.2.2.2.2.2.2.2.2.2.2.2.2.1
theorem dX10_askRow_43 : decode cX10_askRow 43 = .ok (.iload_n 3, 1) := db92.2.2.2.2.2.2.2.2.2.2.2.2.2.2.2.2.2.2.2.2.2.1
theorem dX10_askRow_44 : decode cX10_askRow 44 = .ok (.aload_n 0, 1) := db92.2.2.2.2.2.2.2.2.2.2.2.2.2.2.2.2.2.2.2.2.2.2.1
theorem dX10_askRow_45 : decode cX10_askRow 45 = .ok (.getfield 31, 3) := db92.2.2.2.2.2.2.2.2.2.2.2.2.2.2.2.2.2.2.2.2.2.2.2
theorem db93 : (decode cX10_askRow 48 = .ok (.getfield 98, 3)) ∧ (decode cX10_askRow 51 = .ok (.getfield 159, 3)) ∧ (decode cX10_askRow 54 = .ok (.iconst 1, 1)) ∧ (decode cX10_askRow 55 = .ok (.isub, 1)) ∧ (decode cX10_askRow 56 = .ok (.invokevirtual 385, 3)) ∧ (decode cX10_askRow 59 = .ok (.ifCond .eq 7, 3)) ∧ (decode cX10_askRow 66 = .ok (.bipush (-2), 2)) ∧ (decode cX10_askRow 68 = .ok (.ireturn, 1)) ∧ (decode cX10_askRow 62 = .ok (.iconst 0, 1)) ∧ (decode cX10_askRow 63 = .ok (.goto 5, 3)) ∧ (decode cX10_askRow 34 = .ok (.bipush (-6), 2)) ∧ (decode cX10_askRow 36 = .ok (.ireturn, 1)) := by decide +kernel
theorem dX10_askRow_48 : decode cX10_askRow 48 = .ok (.getfield 98, 3) := db93.1
theorem dX10_askRow_51 : decode cX10_askRow 51 = .ok (.getfield 159, 3) := db93.2.1
theorem dX10_askRow_54 : decode cX10_askRow 54 = .ok (.iconst 1, 1) := db93.2.2.1
theorem dX10_askRow_55 : decode cX10_askRow 55 = .ok (.isub, 1) := db93.2.2.2.1
theorem dX10_askRow_56 : decode cX10_askRow 56 = .ok (.invokevirtual 385, 3) := db93.2.2.2.2.1
theorem dX10_askRow_59 : decode cX10_askRow 59 = .ok (.ifCond .eq 7, 3) := db93.2.2.2.2.2.1
theorem dX10_askRow_66 : decode cX10_askRow 66 = .ok (.bipush (-2), 2) := db93.2.2.2.2.2.2.1
theorem dX10_askRow_68 : decode cX10_askRow 68 = .ok (.ireturn, 1) := db93.2.2.2.2.2.2.2.1
theorem dX10_askRow_62 : decode cX10_askRow 62 = .ok (.iconst 0, 1) := db93.2.2.2.2.2.2.2.2.1
theorem dX10_askRow_63 : decode cX10_askRow 63 = .ok (.goto 5, 3) := db93.2.2.2.2.2.2.2.2.2.1
theorem dX10_askRow_34 : decode cX10_askRow 34 = .ok (.bipush (-6), 2) := db93.2.2.2.2.2.2.2.2.2.2.1
theorem dX10_askRow_36 : decode cX10_askRow 36 = .ok (.ireturn, 1) := db93.2.2.2.2.2.2.2.2.2.2.2
theorem db94 : (decode cX10_back 0 = .ok (.iload_n 1, 1)) ∧ (decode cX10_back 1 = .ok (.ifCond .lt 8, 3)) ∧ (decode cX10_back 4 = .ok (.iload_n 1, 1)) ∧ (decode cX10_back 5 = .ok (.iconst 3, 1)) ∧ (decode cX10_back 6 = .ok (.if_icmp .lt 6, 3)) ∧ (decode cX10_back 12 = .ok (.aload_n 0, 1)) ∧ (decode cX10_back 13 = .ok (.getfield 35, 3)) ∧ (decode cX10_back 16 = .ok (.iload_n 1, 1)) ∧ (decode cX10_back 17 = .ok (.aaload, 1)) ∧ (decode cX10_back 18 = .ok (.getfield 344, 3)) ∧ (decode cX10_back 21 = .ok (.ifCond .ne 6, 3)) ∧ (decode cX10_back 27 = .ok (.aload_n 0, 1)) ∧ (decode cX10_back 28 = .ok (.getfield 31, 3)) ∧ (decode cX10_back 31 = .ok (.aload_n 0, 1)) ∧ (decode cX10_back 32 = .ok (.getfield 35, 3)) ∧ (decode cX10_back 35 = .ok (.iload_n 1, 1)) ∧ (decode cX10_back 36 = .ok (.aaload, 1)) ∧ (decode cX10_back 37 = .ok (.invokevirtual 341, 3)) ∧ (decode cX10_back 40 = .ok (.aload_n 0, 1)) ∧ (decode cX10_back 41 = .ok (.invokevirtual 108, 3)) ∧ (decode cX10_back 44 = .ok (.iconst 0, 1)) ∧ (decode cX10_back 45 = .ok (.ireturn, 1)) ∧ (decode cX10_back 24 = .ok (.bipush (-6), 2)) ∧ (decode cX10_back 26 = .ok (.ireturn, 1)) := by decide +kernel
theorem dX10_back_0 : decode cX10_back 0 = .ok (.iload_n 1, 1) := db94.1
theorem dX10_back_1 : decode cX10_back 1 = .ok (.ifCond .lt 8, 3) := db94.2.1
theorem dX10_back_4 : decode cX10_back 4 = .ok (.iload_n 1, 1) := db94.2.2.1
theorem dX10_back_5 : decode cX10_back 5 = .ok (.iconst 3, 1) := db94.2.2.2.1
theorem dX10_back_6 : decode cX10_back 6 = .ok (.if_icmp .lt 6, 3) := db94.2.2.2.2.1
theorem dX10_back_12 : decode cX10_back 12 = .ok (.aload_n 0, 1) := db94.2.2.2.2.2.1
theorem dX10_back_13 : decode cX10_back 13 = .ok (.getfield 35, 3) := db94.2.2.2.2.2.2.1
theorem dX10_back_16 : decode cX10_back 16 = .ok (.iload_n 1, 1) := db94.2.2.2.2.2.2.2.1
theorem dX10_back_17 : decode cX10_back 17 = .ok (.aaload, 1) := db94.2.2.2.2.2.2.2.2.1
theorem dX10_back_18 : decode cX10_back 18 = .ok (.getfield 344, 3) := db94.2.2.2.2.2.2.2.2.2.1
theorem dX10_back_21 : decode cX10_back 21 = .ok (.ifCond .ne 6, 3) := db94.2.2.2.2.2.2.2.2.2.2.1
theorem dX10_back_27 : decode cX10_back 27 = .ok (.aload_n 0, 1) := db94.2.2.2.2.2.2.2.2.2.2.2.1
theorem dX10_back_28 : decode cX10_back 28 = .ok (.getfield 31, 3) := db94.2.2.2.2.2.2.2.2.2.2.2.2.1
theorem dX10_back_31 : decode cX10_back 31 = .ok (.aload_n 0, 1) := db94.2.2.2.2.2.2.2.2.2.2.2.2.2.1
theorem dX10_back_32 : decode cX10_back 32 = .ok (.getfield 35, 3) := db94.2.2.2.2.2.2.2.2.2.2.2.2.2.2.1
theorem dX10_back_35 : decode cX10_back 35 = .ok (.iload_n 1, 1) := db94.2.2.2.2.2.2.2.2.2.2.2.2.2.2.2.1
theorem dX10_back_36 : decode cX10_back 36 = .ok (.aaload, 1) := db94.2.2.2.2.2.2.2.2.2.2.2.2.2.2.2.2.1
theorem dX10_back_37 : decode cX10_back 37 = .ok (.invokevirtual 341, 3) := db94.2.2.2.2.2.2.2.2.2.2.2.2.2.2.2.2.2.1
theorem dX10_back_40 : decode cX10_back 40 = .ok (.aload_n 0, 1) := db94.2.2.2.2.2.2.2.2.2.2.2.2.2.2.2.2.2.2.1
theorem dX10_back_41 : decode cX10_back 41 = .ok (.invokevirtual 108, 3) := db94.2.2.2.2.2.2.2.2.2.2.2.2.2.2.2.2.2.2.2.1
theorem dX10_back_44 : decode cX10_back 44 = .ok (.iconst 0, 1) := db94.2.2.2.2.2.2.2.2.2.2.2.2.2.2.2.2.2.2.2.2.1
theorem dX10_back_45 : decode cX10_back 45 = .ok (.ireturn, 1) := db94.2.2.2.2.2.2.2.2.2.2.2.2.2.2.2.2.2.2.2.2.2.1
theorem dX10_back_24 : decode cX10_back 24 = .ok (.bipush (-6), 2) := db94.2.2.2.2.2.2.2.2.2.2.2.2.2.2.2.2.2.2.2.2.2.2.1
theorem dX10_back_26 : decode cX10_back 26 = .ok (.ireturn, 1) := db94.2.2.2.2.2.2.2.2.2.2.2.2.2.2.2.2.2.2.2.2.2.2.2
theorem db95 : (decode cX10_back 9 = .ok (.bipush (-2), 2)) ∧ (decode cX10_back 11 = .ok (.ireturn, 1)) := by decide +kernel
theorem dX10_back_9 : decode cX10_back 9 = .ok (.bipush (-2), 2) := db95.1
theorem dX10_back_11 : decode cX10_back 11 = .ok (.ireturn, 1) := db95.2
theorem db96 : (decode cX10_begins 0 = .ok (.aload_n 0, 1)) ∧ (decode cX10_begins 1 = .ok (.getfield 31, 3)) ∧ (decode cX10_begins 4 = .ok (.getfield 98, 3)) ∧ (decode cX10_begins 7 = .ok (.getfield 159, 3)) ∧ (decode cX10_begins 10 = .ok (.iconst 1, 1)) ∧ (decode cX10_begins 11 = .ok (.if_icmp .lt 11, 3)) ∧ (decode cX10_begins 22 = .ok (.bipush (-2), 2)) ∧ (decode cX10_begins 24 = .ok (.ireturn, 1)) ∧ (decode cX10_begins 14 = .ok (.aload_n 0, 1)) ∧ (decode cX10_begins 15 = .ok (.iload_n 1, 1)) ∧ (decode cX10_begins 16 = .ok (.invokevirtual 215, 3)) ∧ (decode cX10_begins 19 = .ok (.ifCond .ne 6, 3)) ∧ (decode cX10_begins 25 = .ok (.aload_n 0, 1)) ∧ (decode cX10_begins 26 = .ok (.getfield 58, 3)) ∧ (decode cX10_begins 29 = .ok (.aload_n 0, 1)) ∧ (decode cX10_begins 30 = .ok (.getfield 31, 3)) ∧ (decode cX10_begins 33 = .ok (.getfield 98, 3)) ∧ (decode cX10_begins 36 = .ok (.aload_n 0, 1)) ∧ (decode cX10_begins 37 = .ok (.getfield 48, 3)) ∧ (decode cX10_begins 40 = .ok (.iload_n 1, 1)) ∧ (decode cX10_begins 41 = .ok (.invokevirtual 225, 3)) ∧ (decode cX10_begins 44 = .ok (.ireturn, 1)) := by decide +kernel
theorem dX10_begins_0 : decode cX10_begins 0 = .ok (.aload_n 0, 1) := db96.1
theorem dX10_begins_1 : decode cX10_begins 1 = .ok (.getfield 31, 3) := db96.2.1
theorem dX10_begins_4 : decode cX10_begins 4 = .ok (.getfield 98, 3) := db96.2.2.1
theorem dX10_begins_7 : decode cX10_begins 7 = .ok (.getfield 159, 3) := db96.2.2.2.1
theorem dX10_begins_10 : decode cX10_begins 10 = .ok (.iconst 1, 1) := db96.2.2.2.2.1
theorem dX10_begins_11 : decode cX10_begins 11 = .ok (.if_icmp .lt 11, 3) := db96.2.2.2.2.2.1
theorem dX10_begins_22 : decode cX10_begins 22 = .ok (.bipush (-2), 2) := db96.2.2.2.2.2.2.1
theorem dX10_begins_24 : decode cX10_begins 24 = .ok (.ireturn, 1) := db96.2.2.2.2.2.2.2.1
theorem dX10_begins_14 : decode cX10_begins 14 = .ok (.aload_n 0, 1) := db96.2.2.2.2.2.2.2.2.1
theorem dX10_begins_15 : decode cX10_begins 15 = .ok (.iload_n 1, 1) := db96.2.2.2.2.2.2.2.2.2.1
theorem dX10_begins_16 : decode cX10_begins 16 = .ok (.invokevirtual 215, 3) := db96.2.2.2.2.2.2.2.2.2.2.1
theorem dX10_begins_19 : decode cX10_begins 19 = .ok (.ifCond .ne 6, 3) := db96.2.2.2.2.2.2.2.2.2.2.2.1
theorem dX10_begins_25 : decode cX10_begins 25 = .ok (.aload_n 0, 1) := db96.2.2.2.2.2.2.2.2.2.2.2.2.1
theorem dX10_begins_26 : decode cX10_begins 26 = .ok (.getfield 58, 3) := db96.2.2.2.2.2.2.2.2.2.2.2.2.2.1
theorem dX10_begins_29 : decode cX10_begins 29 = .ok (.aload_n 0, 1) := db96.2.2.2.2.2.2.2.2.2.2.2.2.2.2.1
theorem dX10_begins_30 : decode cX10_begins 30 = .ok (.getfield 31, 3) := db96.2.2.2.2.2.2.2.2.2.2.2.2.2.2.2.1
theorem dX10_begins_33 : decode cX10_begins 33 = .ok (.getfield 98, 3) := db96.2.2.2.2.2.2.2.2.2.2.2.2.2.2.2.2.1
theorem dX10_begins_36 : decode cX10_begins 36 = .ok (.aload_n 0, 1) := db96.2.2.2.2.2.2.2.2.2.2.2.2.2.2.2.2.2.1
theorem dX10_begins_37 : decode cX10_begins 37 = .ok (.getfield 48, 3) := db96.2.2.2.2.2.2.2.2.2.2.2.2.2.2.2.2.2.2.1
theorem dX10_begins_40 : decode cX10_begins 40 = .ok (.iload_n 1, 1) := db96.2.2.2.2.2.2.2.2.2.2.2.2.2.2.2.2.2.2.2.1
theorem dX10_begins_41 : decode cX10_begins 41 = .ok (.invokevirtual 225, 3) := db96.2.2.2.2.2.2.2.2.2.2.2.2.2.2.2.2.2.2.2.2.1
theorem dX10_begins_44 : decode cX10_begins 44 = .ok (.ireturn, 1) := db96.2.2.2.2.2.2.2.2.2.2.2.2.2.2.2.2.2.2.2.2.2
theorem db97 : (decode cX10_behind 0 = .ok (.aload_n 0, 1)) ∧ (decode cX10_behind 1 = .ok (.iload_n 1, 1)) ∧ (decode cX10_behind 2 = .ok (.aload_n 0, 1)) ∧ (decode cX10_behind 3 = .ok (.iload_n 2, 1)) ∧ (decode cX10_behind 4 = .ok (.invokevirtual 120, 3)) ∧ (decode cX10_behind 7 = .ok (.invokevirtual 186, 3)) ∧ (decode cX10_behind 10 = .ok (.istore_n 3, 1)) ∧ (decode cX10_behind 11 = .ok (.iload_n 3, 1)) ∧ (decode cX10_behind 12 = .ok (.ifCond .eq 5, 3)) ∧ (decode cX10_behind 17 = .ok (.aload_n 0, 1)) ∧ (decode cX10_behind 18 = .ok (.aload_n 0, 1)) ∧ (decode cX10_behind 19 = .ok (.getfield 41, 3)) ∧ (decode cX10_behind 22 = .ok (.iload_n 1, 1)) ∧ (decode cX10_behind 23 = .ok (.aaload, 1)) ∧ (decode cX10_behind 24 = .ok (.iconst 0, 1)) ∧ (decode cX10_behind 25 = .ok (.invokevirtual 190, 3)) ∧ (decode cX10_behind 28 = .ok (.pop, 1)) ∧ (decode cX10_behind 29 = .ok (.aload_n 0, 1)) ∧ (decode cX10_behind 30 = .ok (.getfield 52, 3)) ∧ (decode cX10_behind 33 = .ok (.iload_n 2, 1)) ∧ (decode cX10_behind 34 = .ok (.invokevirtual 148, 3)) ∧ (decode cX10_behind 37 = .ok (.ireturn, 1)) ∧ (decode cX10_behind 15 = .ok (.iload_n 3, 1)) ∧ (decode cX10_behind 16 = .ok (.ireturn, 1)) := by decide +kernel
theorem dX10_behind_0 : decode cX10_behind 0 = .ok (.aload_n 0, 1) := db97.1
theorem dX10_behind_1 : decode cX10_behind 1 = .ok (.iload_n 1, 1) := db97.2.1
theorem dX10_behind_2 : decode cX10_behind 2 = .ok (.aload_n 0, 1) := db97.2.2.1
theorem dX10_behind_3 : decode cX10_behind 3 = .ok (.iload_n 2, 1) := db97.2.2.2.1
theorem dX10_behind_4 : decode cX10_behind 4 = .ok (.invokevirtual 120, 3) := db97.2.2.2.2.1
theorem dX10_behind_7 : decode cX10_behind 7 = .ok (.invokevirtual 186, 3) := db97.2.2.2.2.2.1
theorem dX10_behind_10 : decode cX10_behind 10 = .ok (.istore_n 3, 1) := db97.2.2.2.2.2.2.1
theorem dX10_behind_11 : decode cX10_behind 11 = .ok (.iload_n 3, 1) := db97.2.2.2.2.2.2.2.1
theorem dX10_behind_12 : decode cX10_behind 12 = .ok (.ifCond .eq 5, 3) := db97.2.2.2.2.2.2.2.2.1
theorem dX10_behind_17 : decode cX10_behind 17 = .ok (.aload_n 0, 1) := db97.2.2.2.2.2.2.2.2.2.1
theorem dX10_behind_18 : decode cX10_behind 18 = .ok (.aload_n 0, 1) := db97.2.2.2.2.2.2.2.2.2.2.1
theorem dX10_behind_19 : decode cX10_behind 19 = .ok (.getfield 41, 3) := db97.2.2.2.2.2.2.2.2.2.2.2.1
theorem dX10_behind_22 : decode cX10_behind 22 = .ok (.iload_n 1, 1) := db97.2.2.2.2.2.2.2.2.2.2.2.2.1
theorem dX10_behind_23 : decode cX10_behind 23 = .ok (.aaload, 1) := db97.2.2.2.2.2.2.2.2.2.2.2.2.2.1
theorem dX10_behind_24 : decode cX10_behind 24 = .ok (.iconst 0, 1) := db97.2.2.2.2.2.2.2.2.2.2.2.2.2.2.1
theorem dX10_behind_25 : decode cX10_behind 25 = .ok (.invokevirtual 190, 3) := db97.2.2.2.2.2.2.2.2.2.2.2.2.2.2.2.1
theorem dX10_behind_28 : decode cX10_behind 28 = .ok (.pop, 1) := db97.2.2.2.2.2.2.2.2.2.2.2.2.2.2.2.2.1
theorem dX10_behind_29 : decode cX10_behind 29 = .ok (.aload_n 0, 1) := db97.2.2.2.2.2.2.2.2.2.2.2.2.2.2.2.2.2.1
theorem dX10_behind_30 : decode cX10_behind 30 = .ok (.getfield 52, 3) := db97.2.2.2.2.2.2.2.2.2.2.2.2.2.2.2.2.2.2.1
theorem dX10_behind_33 : decode cX10_behind 33 = .ok (.iload_n 2, 1) := db97.2.2.2.2.2.2.2.2.2.2.2.2.2.2.2.2.2.2.2.1
theorem dX10_behind_34 : decode cX10_behind 34 = .ok (.invokevirtual 148, 3) := db97.2.2.2.2.2.2.2.2.2.2.2.2.2.2.2.2.2.2.2.2.1
theorem dX10_behind_37 : decode cX10_behind 37 = .ok (.ireturn, 1) := db97.2.2.2.2.2.2.2.2.2.2.2.2.2.2.2.2.2.2.2.2.2.1
theorem dX10_behind_15 : decode cX10_behind 15 = .ok (.iload_n 3, 1) := db97.2.2.2.2.2.2.2.2.2.2.2.2.2.2.2.2.2.2.2.2.2.2.1
theorem dX10_behind_16 : decode cX10_behind 16 = .ok (.ireturn, 1) := db97.2.2.2.2.2.2.2.2.2.2.2.2.2.2.2.2.2.2.2.2.2.2.2
theorem db98 : (decode cX10_best 0 = .ok (.aload_n 0, 1)) ∧ (decode cX10_best 1 = .ok (.iload_n 1, 1)) ∧ (decode cX10_best 2 = .ok (.invokevirtual 120, 3)) ∧ (decode cX10_best 5 = .ok (.ifCond .eq 11, 3)) ∧ (decode cX10_best 16 = .ok (.bipush (-2), 2)) ∧ (decode cX10_best 18 = .ok (.ireturn, 1)) ∧ (decode cX10_best 8 = .ok (.aload_n 0, 1)) ∧ (decode cX10_best 9 = .ok (.iload_n 2, 1)) ∧ (decode cX10_best 10 = .ok (.invokevirtual 215, 3)) ∧ (decode cX10_best 13 = .ok (.ifCond .ne 6, 3)) ∧ (decode cX10_best 19 = .ok (.aload_n 0, 1)) ∧ (decode cX10_best 20 = .ok (.getfield 58, 3)) ∧ (decode cX10_best 23 = .ok (.aload_n 0, 1)) ∧ (decode cX10_best 24 = .ok (.getfield 31, 3)) ∧ (decode cX10_best 27 = .ok (.getfield 98, 3)) ∧ (decode cX10_best 30 = .ok (.aload_n 0, 1)) ∧ (decode cX10_best 31 = .ok (.getfield 48, 3)) ∧ (decode cX10_best 34 = .ok (.iload_n 1, 1)) ∧ (decode cX10_best 35 = .ok (.iload_n 2, 1)) ∧ (decode cX10_best 36 = .ok (.invokevirtual 218, 3)) ∧ (decode cX10_best 39 = .ok (.ireturn, 1)) := by decide +kernel
theorem dX10_best_0 : decode cX10_best 0 = .ok (.aload_n 0, 1) := db98.1
theorem dX10_best_1 : decode cX10_best 1 = .ok (.iload_n 1, 1) := db98.2.1
theorem dX10_best_2 : decode cX10_best 2 = .ok (.invokevirtual 120, 3) := db98.2.2.1
theorem dX10_best_5 : decode cX10_best 5 = .ok (.ifCond .eq 11, 3) := db98.2.2.2.1
theorem dX10_best_16 : decode cX10_best 16 = .ok (.bipush (-2), 2) := db98.2.2.2.2.1
theorem dX10_best_18 : decode cX10_best 18 = .ok (.ireturn, 1) := db98.2.2.2.2.2.1
theorem dX10_best_8 : decode cX10_best 8 = .ok (.aload_n 0, 1) := db98.2.2.2.2.2.2.1
theorem dX10_best_9 : decode cX10_best 9 = .ok (.iload_n 2, 1) := db98.2.2.2.2.2.2.2.1
theorem dX10_best_10 : decode cX10_best 10 = .ok (.invokevirtual 215, 3) := db98.2.2.2.2.2.2.2.2.1
theorem dX10_best_13 : decode cX10_best 13 = .ok (.ifCond .ne 6, 3) := db98.2.2.2.2.2.2.2.2.2.1
theorem dX10_best_19 : decode cX10_best 19 = .ok (.aload_n 0, 1) := db98.2.2.2.2.2.2.2.2.2.2.1
theorem dX10_best_20 : decode cX10_best 20 = .ok (.getfield 58, 3) := db98.2.2.2.2.2.2.2.2.2.2.2.1
theorem dX10_best_23 : decode cX10_best 23 = .ok (.aload_n 0, 1) := db98.2.2.2.2.2.2.2.2.2.2.2.2.1
theorem dX10_best_24 : decode cX10_best 24 = .ok (.getfield 31, 3) := db98.2.2.2.2.2.2.2.2.2.2.2.2.2.1
theorem dX10_best_27 : decode cX10_best 27 = .ok (.getfield 98, 3) := db98.2.2.2.2.2.2.2.2.2.2.2.2.2.2.1
theorem dX10_best_30 : decode cX10_best 30 = .ok (.aload_n 0, 1) := db98.2.2.2.2.2.2.2.2.2.2.2.2.2.2.2.1
theorem dX10_best_31 : decode cX10_best 31 = .ok (.getfield 48, 3) := db98.2.2.2.2.2.2.2.2.2.2.2.2.2.2.2.2.1
theorem dX10_best_34 : decode cX10_best 34 = .ok (.iload_n 1, 1) := db98.2.2.2.2.2.2.2.2.2.2.2.2.2.2.2.2.2.1
theorem dX10_best_35 : decode cX10_best 35 = .ok (.iload_n 2, 1) := db98.2.2.2.2.2.2.2.2.2.2.2.2.2.2.2.2.2.2.1
theorem dX10_best_36 : decode cX10_best 36 = .ok (.invokevirtual 218, 3) := db98.2.2.2.2.2.2.2.2.2.2.2.2.2.2.2.2.2.2.2.1
theorem dX10_best_39 : decode cX10_best 39 = .ok (.ireturn, 1) := db98.2.2.2.2.2.2.2.2.2.2.2.2.2.2.2.2.2.2.2.2
theorem db99 : (decode cX10_boys 0 = .ok (.aload_n 0, 1)) ∧ (decode cX10_boys 1 = .ok (.getfield 31, 3)) ∧ (decode cX10_boys 4 = .ok (.getfield 98, 3)) ∧ (decode cX10_boys 7 = .ok (.getfield 159, 3)) ∧ (decode cX10_boys 10 = .ok (.iconst 1, 1)) ∧ (decode cX10_boys 11 = .ok (.if_icmp .ge 6, 3)) ∧ (decode cX10_boys 17 = .ok (.iconst 0, 1)) ∧ (decode cX10_boys 18 = .ok (.istore_n 1, 1)) ∧ (decode cX10_boys 19 = .ok (.iload_n 1, 1)) ∧ (decode cX10_boys 20 = .ok (.aload_n 0, 1)) ∧ (decode cX10_boys 21 = .ok (.getfield 31, 3)) ∧ (decode cX10_boys 24 = .ok (.getfield 98, 3)) ∧ (decode cX10_boys 27 = .ok (.getfield 159, 3)) ∧ (decode cX10_boys 30 = .ok (.if_icmp .ge 31, 3)) ∧ (decode cX10_boys 61 = .ok (.aload_n 0, 1)) ∧ (decode cX10_boys 62 = .ok (.getfield 65, 3)) ∧ (decode cX10_boys 65 = .ok (.aload_n 0, 1)) ∧ (decode cX10_boys 66 = .ok (.getfield 31, 3)) ∧ (decode cX10_boys 69 = .ok (.getfield 98, 3)) ∧ (decode cX10_boys 72 = .ok (.invokevirtual 263, 3)) ∧ (decode cX10_boys 75 = .ok (.ifCond .le 7, 3)) ∧ (decode cX10_boys 82 = .ok (.iconst 3, 1)) ∧ (decode cX10_boys 83 = .ok (.ireturn, 1)) ∧ (decode cX10_boys 78 = .ok (.iconst 2, 1)) := by decide +kernel
theorem dX10_boys_0 : decode cX10_boys 0 = .ok (.aload_n 0, 1) := db99.1
theorem dX10_boys_1 : decode cX10_boys 1 = .ok (.getfield 31, 3) := db99.2.1
theorem dX10_boys_4 : decode cX10_boys 4 = .ok (.getfield 98, 3) := db99.2.2.1
theorem dX10_boys_7 : decode cX10_boys 7 = .ok (.getfield 159, 3) := db99.2.2.2.1
theorem dX10_boys_10 : decode cX10_boys 10 = .ok (.iconst 1, 1) := db99.2.2.2.2.1
theorem dX10_boys_11 : decode cX10_boys 11 = .ok (.if_icmp .ge 6, 3) := db99.2.2.2.2.2.1
theorem dX10_boys_17 : decode cX10_boys 17 = .ok (.iconst 0, 1) := db99.2.2.2.2.2.2.1
theorem dX10_boys_18 : decode cX10_boys 18 = .ok (.istore_n 1, 1) := db99.2.2.2.2.2.2.2.1
theorem dX10_boys_19 : decode cX10_boys 19 = .ok (.iload_n 1, 1) := db99.2.2.2.2.2.2.2.2.1
theorem dX10_boys_20 : decode cX10_boys 20 = .ok (.aload_n 0, 1) := db99.2.2.2.2.2.2.2.2.2.1
theorem dX10_boys_21 : decode cX10_boys 21 = .ok (.getfield 31, 3) := db99.2.2.2.2.2.2.2.2.2.2.1
theorem dX10_boys_24 : decode cX10_boys 24 = .ok (.getfield 98, 3) := db99.2.2.2.2.2.2.2.2.2.2.2.1
theorem dX10_boys_27 : decode cX10_boys 27 = .ok (.getfield 159, 3) := db99.2.2.2.2.2.2.2.2.2.2.2.2.1
theorem dX10_boys_30 : decode cX10_boys 30 = .ok (.if_icmp .ge 31, 3) := db99.2.2.2.2.2.2.2.2.2.2.2.2.2.1
theorem dX10_boys_61 : decode cX10_boys 61 = .ok (.aload_n 0, 1) := db99.2.2.2.2.2.2.2.2.2.2.2.2.2.2.1
theorem dX10_boys_62 : decode cX10_boys 62 = .ok (.getfield 65, 3) := db99.2.2.2.2.2.2.2.2.2.2.2.2.2.2.2.1
theorem dX10_boys_65 : decode cX10_boys 65 = .ok (.aload_n 0, 1) := db99.2.2.2.2.2.2.2.2.2.2.2.2.2.2.2.2.1
theorem dX10_boys_66 : decode cX10_boys 66 = .ok (.getfield 31, 3) := db99.2.2.2.2.2.2.2.2.2.2.2.2.2.2.2.2.2.1
theorem dX10_boys_69 : decode cX10_boys 69 = .ok (.getfield 98, 3) := db99.2.2.2.2.2.2.2.2.2.2.2.2.2.2.2.2.2.2.1
theorem dX10_boys_72 : decode cX10_boys 72 = .ok (.invokevirtual 263, 3) := db99.2.2.2.2.2.2.2.2.2.2.2.2.2.2.2.2.2.2.2.1
theorem dX10_boys_75 : decode cX10_boys 75 = .ok (.ifCond .le 7, 3) := db99.2.2.2.2.2.2.2.2.2.2.2.2.2.2.2.2.2.2.2.2.1
theorem dX10_boys_82 : decode cX10_boys 82 = .ok (.iconst 3, 1) := db99.2.2.2.2.2.2.2.2.2.2.2.2.2.2.2.2.2.2.2.2.2.1
theorem dX10_boys_83 : decode cX10_boys 83 = .ok (.ireturn, 1) := db99.2.2.2.2.2.2.2.2.2.2.2.2.2.2.2.2.2.2.2.2.2.2.1
theorem dX10_boys_78 : decode cX10_boys 78 = .ok (.iconst 2, 1) := db99.2.2.2.2.2.2.2.2.2.2.2.2.2.2.2.2.2.2.2.2.2.2.2
theorem db100 : (decode cX10_boys 79 = .ok (.goto 4, 3)) ∧ (decode cX10_boys 33 = .ok (.aload_n 0, 1)) ∧ (decode cX10_boys 34 = .ok (.getfield 65, 3)) ∧ (decode cX10_boys 37 = .ok (.aload_n 0, 1)) ∧ (decode cX10_boys 38 = .ok (.getfield 31, 3)) ∧ (decode cX10_boys 41 = .ok (.getfield 98, 3)) ∧ (decode cX10_boys 44 = .ok (.iload_n 1, 1)) ∧ (decode cX10_boys 45 = .ok (.iload_n 1, 1)) ∧ (decode cX10_boys 46 = .ok (.iconst 1, 1)) ∧ (decode cX10_boys 47 = .ok (.invokevirtual 253, 3)) ∧ (decode cX10_boys 50 = .ok (.ifCond .eq 5, 3)) ∧ (decode cX10_boys 55 = .ok (.iinc 1 1, 3)) ∧ (decode cX10_boys 58 = .ok (.goto (-39), 3)) ∧ (decode cX10_boys 53 = .ok (.iconst 1, 1)) ∧ (decode cX10_boys 54 = .ok (.ireturn, 1)) ∧ (decode cX10_boys 14 = .ok (.bipush (-2), 2)) ∧ (decode cX10_boys 16 = .ok (.ireturn, 1)) := by decide +kernel
theorem dX10_boys_79 : decode cX10_boys 79 = .ok (.goto 4, 3) := db100.1
theorem dX10_boys_33 : decode cX10_boys 33 = .ok (.aload_n 0, 1) := db100.2.1
theorem dX10_boys_34 : decode cX10_boys 34 = .ok (.getfield 65, 3) := db100.2.2.1
theorem dX10_boys_37 : decode cX10_boys 37 = .ok (.aload_n 0, 1) := db100.2.2.2.1
theorem dX10_boys_38 : decode cX10_boys 38 = .ok (.getfield 31, 3) := db100.2.2.2.2.1
theorem dX10_boys_41 : decode cX10_boys 41 = .ok (.getfield 98, 3) := db100.2.2.2.2.2.1
theorem dX10_boys_44 : decode cX10_boys 44 = .ok (.iload_n 1, 1) := db100.2.2.2.2.2.2.1
theorem dX10_boys_45 : decode cX10_boys 45 = .ok (.iload_n 1, 1) := db100.2.2.2.2.2.2.2.1
theorem dX10_boys_46 : decode cX10_boys 46 = .ok (.iconst 1, 1) := db100.2.2.2.2.2.2.2.2.1
theorem dX10_boys_47 : decode cX10_boys 47 = .ok (.invokevirtual 253, 3) := db100.2.2.2.2.2.2.2.2.2.1
theorem dX10_boys_50 : decode cX10_boys 50 = .ok (.ifCond .eq 5, 3) := db100.2.2.2.2.2.2.2.2.2.2.1
theorem dX10_boys_55 : decode cX10_boys 55 = .ok (.iinc 1 1, 3) := db100.2.2.2.2.2.2.2.2.2.2.2.1
theorem dX10_boys_58 : decode cX10_boys 58 = .ok (.goto (-39), 3) := db100.2.2.2.2.2.2.2.2.2.2.2.2.1
theorem dX10_boys_53 : decode cX10_boys 53 = .ok (.iconst 1, 1) := db100.2.2.2.2.2.2.2.2.2.2.2.2.2.1
theorem dX10_boys_54 : decode cX10_boys 54 = .ok (.ireturn, 1) := db100.2.2.2.2.2.2.2.2.2.2.2.2.2.2.1
theorem dX10_boys_14 : decode cX10_boys 14 = .ok (.bipush (-2), 2) := db100.2.2.2.2.2.2.2.2.2.2.2.2.2.2.2.1
theorem dX10_boys_16 : decode cX10_boys 16 = .ok (.ireturn, 1) := db100.2.2.2.2.2.2.2.2.2.2.2.2.2.2.2.2
theorem db101 : (decode cX10_call 0 = .ok (.aload_n 0, 1)) ∧ (decode cX10_call 1 = .ok (.iload_n 1, 1)) ∧ (decode cX10_call 2 = .ok (.invokevirtual 145, 3)) ∧ (decode cX10_call 5 = .ok (.ifCond .ne 6, 3)) ∧ (decode cX10_call 11 = .ok (.aload_n 0, 1)) ∧ (decode cX10_call 12 = .ok (.getfield 31, 3)) ∧ (decode cX10_call 15 = .ok (.getfield 105, 3)) ∧ (decode cX10_call 18 = .ok (.bipush 60, 2)) ∧ (decode cX10_call 20 = .ok (.if_icmp .lt 6, 3)) ∧ (decode cX10_call 26 = .ok (.aload_n 0, 1)) ∧ (decode cX10_call 27 = .ok (.getfield 31, 3)) ∧ (decode cX10_call 30 = .ok (.getfield 172, 3)) ∧ (decode cX10_call 33 = .ok (.aload_n 0, 1)) ∧ (decode cX10_call 34 = .ok (.getfield 31, 3)) ∧ (decode cX10_call 37 = .ok (.getfield 105, 3)) ∧ (decode cX10_call 40 = .ok (.iload_n 1, 1)) ∧ (decode cX10_call 41 = .ok (.iastore, 1)) ∧ (decode cX10_call 42 = .ok (.aload_n 0, 1)) ∧ (decode cX10_call 43 = .ok (.getfield 31, 3)) ∧ (decode cX10_call 46 = .ok (.dup, 1)) ∧ (decode cX10_call 47 = .ok (.getfield 105, 3)) ∧ (decode cX10_call 50 = .ok (.iconst 1, 1)) ∧ (decode cX10_call 51 = .ok (.iadd, 1)) ∧ (decode cX10_call 52 = .ok (.putfield 105, 3)) := by decide +kernel
theorem dX10_call_0 : decode cX10_call 0 = .ok (.aload_n 0, 1) := db101.1
theorem dX10_call_1 : decode cX10_call 1 = .ok (.iload_n 1, 1) := db101.2.1
theorem dX10_call_2 : decode cX10_call 2 = .ok (.invokevirtual 145, 3) := db101.2.2.1
theorem dX10_call_5 : decode cX10_call 5 = .ok (.ifCond .ne 6, 3) := db101.2.2.2.1
theorem dX10_call_11 : decode cX10_call 11 = .ok (.aload_n 0, 1) := db101.2.2.2.2.1
theorem dX10_call_12 : decode cX10_call 12 = .ok (.getfield 31, 3) := db101.2.2.2.2.2.1
theorem dX10_call_15 : decode cX10_call 15 = .ok (.getfield 105, 3) := db101.2.2.2.2.2.2.1
theorem dX10_call_18 : decode cX10_call 18 = .ok (.bipush 60, 2) := db101.2.2.2.2.2.2.2.1
theorem dX10_call_20 : decode cX10_call 20 = .ok (.if_icmp .lt 6, 3) := db101.2.2.2.2.2.2.2.2.1
theorem dX10_call_26 : decode cX10_call 26 = .ok (.aload_n 0, 1) := db101.2.2.2.2.2.2.2.2.2.1
theorem dX10_call_27 : decode cX10_call 27 = .ok (.getfield 31, 3) := db101.2.2.2.2.2.2.2.2.2.2.1
theorem dX10_call_30 : decode cX10_call 30 = .ok (.getfield 172, 3) := db101.2.2.2.2.2.2.2.2.2.2.2.1
theorem dX10_call_33 : decode cX10_call 33 = .ok (.aload_n 0, 1) := db101.2.2.2.2.2.2.2.2.2.2.2.2.1
theorem dX10_call_34 : decode cX10_call 34 = .ok (.getfield 31, 3) := db101.2.2.2.2.2.2.2.2.2.2.2.2.2.1
theorem dX10_call_37 : decode cX10_call 37 = .ok (.getfield 105, 3) := db101.2.2.2.2.2.2.2.2.2.2.2.2.2.2.1
theorem dX10_call_40 : decode cX10_call 40 = .ok (.iload_n 1, 1) := db101.2.2.2.2.2.2.2.2.2.2.2.2.2.2.2.1
theorem dX10_call_41 : decode cX10_call 41 = .ok (.iastore, 1) := db101.2.2.2.2.2.2.2.2.2.2.2.2.2.2.2.2.1
theorem dX10_call_42 : decode cX10_call 42 = .ok (.aload_n 0, 1) := db101.2.2.2.2.2.2.2.2.2.2.2.2.2.2.2.2.2.1
theorem dX10_call_43 : decode cX10_call 43 = .ok (.getfield 31, 3) := db101.2.2.2.2.2.2.2.2.2.2.2.2.2.2.2.2.2.2.1
theorem dX10_call_46 : decode cX10_call 46 = .ok (.dup, 1) := db101.2.2.2.2.2.2.2.2.2.2.2.2.2.2.2.2.2.2.2.1
theorem dX10_call_47 : decode cX10_call 47 = .ok (.getfield 105, 3) := db101.2.2.2.2.2.2.2.2.2.2.2.2.2.2.2.2.2.2.2.2.1
theorem dX10_call_50 : decode cX10_call 50 = .ok (.iconst 1, 1) := db101.2.2.2.2.2.2.2.2.2.2.2.2.2.2.2.2.2.2.2.2.2.1
theorem dX10_call_51 : decode cX10_call 51 = .ok (.iadd, 1) := db101.2.2.2.2.2.2.2.2.2.2.2.2.2.2.2.2.2.2.2.2.2.2.1
theorem dX10_call_52 : decode cX10_call 52 = .ok (.putfield 105, 3) := db101.2.2.2.2.2.2.2.2.2.2.2.2.2.2.2.2.2.2.2.2.2.2.2
theorem db102 : (decode cX10_call 55 = .ok (.aload_n 0, 1)) ∧ (decode cX10_call 56 = .ok (.getfield 48, 3)) ∧ (decode cX10_call 59 = .ok (.aload_n 0, 1)) ∧ (decode cX10_call 60 = .ok (.getfield 31, 3)) ∧ (decode cX10_call 63 = .ok (.getfield 98, 3)) ∧ (decode cX10_call 66 = .ok (.iload_n 1, 1)) ∧ (decode cX10_call 67 = .ok (.iconst 0, 1)) ∧ (decode cX10_call 68 = .ok (.invokevirtual 175, 3)) ∧ (decode cX10_call 71 = .ok (.ireturn, 1)) ∧ (decode cX10_call 23 = .ok (.bipush (-5), 2)) ∧ (decode cX10_call 25 = .ok (.ireturn, 1)) ∧ (decode cX10_call 8 = .ok (.bipush (-2), 2)) ∧ (decode cX10_call 10 = .ok (.ireturn, 1)) := by decide +kernel
theorem dX10_call_55 : decode cX10_call 55 = .ok (.aload_n 0, 1) := db102.1
theorem dX10_call_56 : decode cX10_call 56 = .ok (.getfield 48, 3) := db102.2.1
theorem dX10_call_59 : decode cX10_call 59 = .ok (.aload_n 0, 1) := db102.2.2.1
theorem dX10_call_60 : decode cX10_call 60 = .ok (.getfield 31, 3) := db102.2.2.2.1
theorem dX10_call_63 : decode cX10_call 63 = .ok (.getfield 98, 3) := db102.2.2.2.2.1
theorem dX10_call_66 : decode cX10_call 66 = .ok (.iload_n 1, 1) := db102.2.2.2.2.2.1
theorem dX10_call_67 : decode cX10_call 67 = .ok (.iconst 0, 1) := db102.2.2.2.2.2.2.1
theorem dX10_call_68 : decode cX10_call 68 = .ok (.invokevirtual 175, 3) := db102.2.2.2.2.2.2.2.1
theorem dX10_call_71 : decode cX10_call 71 = .ok (.ireturn, 1) := db102.2.2.2.2.2.2.2.2.1
theorem dX10_call_23 : decode cX10_call 23 = .ok (.bipush (-5), 2) := db102.2.2.2.2.2.2.2.2.2.1
theorem dX10_call_25 : decode cX10_call 25 = .ok (.ireturn, 1) := db102.2.2.2.2.2.2.2.2.2.2.1
theorem dX10_call_8 : decode cX10_call 8 = .ok (.bipush (-2), 2) := db102.2.2.2.2.2.2.2.2.2.2.2.1
theorem dX10_call_10 : decode cX10_call 10 = .ok (.ireturn, 1) := db102.2.2.2.2.2.2.2.2.2.2.2.2
theorem db103 : (decode cX10_canWalk 0 = .ok (.iload_n 2, 1)) ∧ (decode cX10_canWalk 1 = .ok (.istore_n 3, 1)) ∧ (decode cX10_canWalk 2 = .ok (.iconst 0, 1)) ∧ (decode cX10_canWalk 3 = .ok (.istore 4, 2)) ∧ (decode cX10_canWalk 5 = .ok (.iload 4, 2)) ∧ (decode cX10_canWalk 7 = .ok (.aload_n 1, 1)) ∧ (decode cX10_canWalk 8 = .ok (.getfield 194, 3)) ∧ (decode cX10_canWalk 11 = .ok (.if_icmp .ge 44, 3)) ∧ (decode cX10_canWalk 55 = .ok (.iconst 1, 1)) ∧ (decode cX10_canWalk 56 = .ok (.ireturn, 1)) ∧ (decode cX10_canWalk 14 = .ok (.aload_n 1, 1)) ∧ (decode cX10_canWalk 15 = .ok (.iload 4, 2)) ∧ (decode cX10_canWalk 17 = .ok (.invokevirtual 195, 3)) ∧ (decode cX10_canWalk 20 = .ok (.istore 5, 2)) ∧ (decode cX10_canWalk 22 = .ok (.iload 5, 2)) ∧ (decode cX10_canWalk 24 = .ok (.iconst (-1), 1)) ∧ (decode cX10_canWalk 49 = .ok (.iinc 4 1, 3)) ∧ (decode cX10_canWalk 52 = .ok (.goto (-47), 3)) ∧ (decode cX10_canWalk 25 = .ok (.if_icmp .eq 24, 3)) ∧ (decode cX10_canWalk 28 = .ok (.aload_n 0, 1)) ∧ (decode cX10_canWalk 29 = .ok (.getfield 31, 3)) ∧ (decode cX10_canWalk 32 = .ok (.getfield 98, 3)) ∧ (decode cX10_canWalk 35 = .ok (.iload_n 3, 1)) ∧ (decode cX10_canWalk 36 = .ok (.iload 5, 2)) := by decide +kernel
theorem dX10_canWalk_0 : decode cX10_canWalk 0 = .ok (.iload_n 2, 1) := db103.1
theorem dX10_canWalk_1 : decode cX10_canWalk 1 = .ok (.istore_n 3, 1) := db103.2.1
theorem dX10_canWalk_2 : decode cX10_canWalk 2 = .ok (.iconst 0, 1) := db103.2.2.1
theorem dX10_canWalk_3 : decode cX10_canWalk 3 = .ok (.istore 4, 2) := db103.2.2.2.1
theorem dX10_canWalk_5 : decode cX10_canWalk 5 = .ok (.iload 4, 2) := db103.2.2.2.2.1
theorem dX10_canWalk_7 : decode cX10_canWalk 7 = .ok (.aload_n 1, 1) := db103.2.2.2.2.2.1
theorem dX10_canWalk_8 : decode cX10_canWalk 8 = .ok (.getfield 194, 3) := db103.2.2.2.2.2.2.1
theorem dX10_canWalk_11 : decode cX10_canWalk 11 = .ok (.if_icmp .ge 44, 3) := db103.2.2.2.2.2.2.2.1
theorem dX10_canWalk_55 : decode cX10_canWalk 55 = .ok (.iconst 1, 1) := db103.2.2.2.2.2.2.2.2.1
theorem dX10_canWalk_56 : decode cX10_canWalk 56 = .ok (.ireturn, 1) := db103.2.2.2.2.2.2.2.2.2.1
theorem dX10_canWalk_14 : decode cX10_canWalk 14 = .ok (.aload_n 1, 1) := db103.2.2.2.2.2.2.2.2.2.2.1
theorem dX10_canWalk_15 : decode cX10_canWalk 15 = .ok (.iload 4, 2) := db103.2.2.2.2.2.2.2.2.2.2.2.1
theorem dX10_canWalk_17 : decode cX10_canWalk 17 = .ok (.invokevirtual 195, 3) := db103.2.2.2.2.2.2.2.2.2.2.2.2.1
theorem dX10_canWalk_20 : decode cX10_canWalk 20 = .ok (.istore 5, 2) := db103.2.2.2.2.2.2.2.2.2.2.2.2.2.1
theorem dX10_canWalk_22 : decode cX10_canWalk 22 = .ok (.iload 5, 2) := db103.2.2.2.2.2.2.2.2.2.2.2.2.2.2.1
theorem dX10_canWalk_24 : decode cX10_canWalk 24 = .ok (.iconst (-1), 1) := db103.2.2.2.2.2.2.2.2.2.2.2.2.2.2.2.1
theorem dX10_canWalk_49 : decode cX10_canWalk 49 = .ok (.iinc 4 1, 3) := db103.2.2.2.2.2.2.2.2.2.2.2.2.2.2.2.2.1
theorem dX10_canWalk_52 : decode cX10_canWalk 52 = .ok (.goto (-47), 3) := db103.2.2.2.2.2.2.2.2.2.2.2.2.2.2.2.2.2.1
theorem dX10_canWalk_25 : decode cX10_canWalk 25 = .ok (.if_icmp .eq 24, 3) := db103.2.2.2.2.2.2.2.2.2.2.2.2.2.2.2.2.2.2.1
theorem dX10_canWalk_28 : decode cX10_canWalk 28 = .ok (.aload_n 0, 1) := db103.2.2.2.2.2.2.2.2.2.2.2.2.2.2.2.2.2.2.2.1
theorem dX10_canWalk_29 : decode cX10_canWalk 29 = .ok (.getfield 31, 3) := db103.2.2.2.2.2.2.2.2.2.2.2.2.2.2.2.2.2.2.2.2.1
theorem dX10_canWalk_32 : decode cX10_canWalk 32 = .ok (.getfield 98, 3) := db103.2.2.2.2.2.2.2.2.2.2.2.2.2.2.2.2.2.2.2.2.2.1
theorem dX10_canWalk_35 : decode cX10_canWalk 35 = .ok (.iload_n 3, 1) := db103.2.2.2.2.2.2.2.2.2.2.2.2.2.2.2.2.2.2.2.2.2.2.1
theorem dX10_canWalk_36 : decode cX10_canWalk 36 = .ok (.iload 5, 2) := db103.2.2.2.2.2.2.2.2.2.2.2.2.2.2.2.2.2.2.2.2.2.2.2
theorem db104 : (decode cX10_canWalk 38 = .ok (.invokevirtual 396, 3)) ∧ (decode cX10_canWalk 41 = .ok (.ifCond .ne 5, 3)) ∧ (decode cX10_canWalk 46 = .ok (.iload 5, 2)) ∧ (decode cX10_canWalk 48 = .ok (.istore_n 3, 1)) ∧ (decode cX10_canWalk 44 = .ok (.iconst 0, 1)) ∧ (decode cX10_canWalk 45 = .ok (.ireturn, 1)) := by decide +kernel
theorem dX10_canWalk_38 : decode cX10_canWalk 38 = .ok (.invokevirtual 396, 3) := db104.1
theorem dX10_canWalk_41 : decode cX10_canWalk 41 = .ok (.ifCond .ne 5, 3) := db104.2.1
theorem dX10_canWalk_46 : decode cX10_canWalk 46 = .ok (.iload 5, 2) := db104.2.2.1
theorem dX10_canWalk_48 : decode cX10_canWalk 48 = .ok (.istore_n 3, 1) := db104.2.2.2.1
theorem dX10_canWalk_44 : decode cX10_canWalk 44 = .ok (.iconst 0, 1) := db104.2.2.2.2.1
theorem dX10_canWalk_45 : decode cX10_canWalk 45 = .ok (.ireturn, 1) := db104.2.2.2.2.2
theorem db105 : (decode cX10_card 0 = .ok (.aload_n 0, 1)) ∧ (decode cX10_card 1 = .ok (.iload_n 1, 1)) ∧ (decode cX10_card 2 = .ok (.invokevirtual 120, 3)) ∧ (decode cX10_card 5 = .ok (.ifCond .eq 14, 3)) ∧ (decode cX10_card 19 = .ok (.bipush (-2), 2)) ∧ (decode cX10_card 21 = .ok (.ireturn, 1)) ∧ (decode cX10_card 8 = .ok (.iload_n 2, 1)) ∧ (decode cX10_card 9 = .ok (.ifCond .lt 10, 3)) ∧ (decode cX10_card 12 = .ok (.iload_n 2, 1)) ∧ (decode cX10_card 13 = .ok (.sipush 200, 3)) ∧ (decode cX10_card 16 = .ok (.if_icmp .le 6, 3)) ∧ (decode cX10_card 22 = .ok (.aload_n 0, 1)) ∧ (decode cX10_card 23 = .ok (.iload_n 1, 1)) ∧ (decode cX10_card 24 = .ok (.iload_n 2, 1)) ∧ (decode cX10_card 25 = .ok (.invokevirtual 250, 3)) ∧ (decode cX10_card 28 = .ok (.ireturn, 1)) := by decide +kernel
theorem dX10_card_0 : decode cX10_card 0 = .ok (.aload_n 0, 1) := db105.1
theorem dX10_card_1 : decode cX10_card 1 = .ok (.iload_n 1, 1) := db105.2.1
theorem dX10_card_2 : decode cX10_card 2 = .ok (.invokevirtual 120, 3) := db105.2.2.1
theorem dX10_card_5 : decode cX10_card 5 = .ok (.ifCond .eq 14, 3) := db105.2.2.2.1
theorem dX10_card_19 : decode cX10_card 19 = .ok (.bipush (-2), 2) := db105.2.2.2.2.1
theorem dX10_card_21 : decode cX10_card 21 = .ok (.ireturn, 1) := db105.2.2.2.2.2.1
theorem dX10_card_8 : decode cX10_card 8 = .ok (.iload_n 2, 1) := db105.2.2.2.2.2.2.1
theorem dX10_card_9 : decode cX10_card 9 = .ok (.ifCond .lt 10, 3) := db105.2.2.2.2.2.2.2.1
theorem dX10_card_12 : decode cX10_card 12 = .ok (.iload_n 2, 1) := db105.2.2.2.2.2.2.2.2.1
theorem dX10_card_13 : decode cX10_card 13 = .ok (.sipush 200, 3) := db105.2.2.2.2.2.2.2.2.2.1
theorem dX10_card_16 : decode cX10_card 16 = .ok (.if_icmp .le 6, 3) := db105.2.2.2.2.2.2.2.2.2.2.1
theorem dX10_card_22 : decode cX10_card 22 = .ok (.aload_n 0, 1) := db105.2.2.2.2.2.2.2.2.2.2.2.1
theorem dX10_card_23 : decode cX10_card 23 = .ok (.iload_n 1, 1) := db105.2.2.2.2.2.2.2.2.2.2.2.2.1
theorem dX10_card_24 : decode cX10_card 24 = .ok (.iload_n 2, 1) := db105.2.2.2.2.2.2.2.2.2.2.2.2.2.1
theorem dX10_card_25 : decode cX10_card 25 = .ok (.invokevirtual 250, 3) := db105.2.2.2.2.2.2.2.2.2.2.2.2.2.2.1
theorem dX10_card_28 : decode cX10_card 28 = .ok (.ireturn, 1) := db105.2.2.2.2.2.2.2.2.2.2.2.2.2.2.2
theorem db106 : (decode cX10_chance 0 = .ok (.aload_n 0, 1)) ∧ (decode cX10_chance 1 = .ok (.iload_n 1, 1)) ∧ (decode cX10_chance 2 = .ok (.invokevirtual 145, 3)) ∧ (decode cX10_chance 5 = .ok (.ifCond .eq 21, 3)) ∧ (decode cX10_chance 26 = .ok (.bipush (-2), 2)) ∧ (decode cX10_chance 28 = .ok (.ireturn, 1)) ∧ (decode cX10_chance 8 = .ok (.aload_n 0, 1)) ∧ (decode cX10_chance 9 = .ok (.getfield 48, 3)) ∧ (decode cX10_chance 12 = .ok (.aload_n 0, 1)) ∧ (decode cX10_chance 13 = .ok (.getfield 48, 3)) ∧ (decode cX10_chance 16 = .ok (.iload_n 1, 1)) ∧ (decode cX10_chance 17 = .ok (.invokevirtual 148, 3)) ∧ (decode cX10_chance 20 = .ok (.invokevirtual 169, 3)) ∧ (decode cX10_chance 23 = .ok (.goto 5, 3)) := by decide +kernel
theorem dX10_chance_0 : decode cX10_chance 0 = .ok (.aload_n 0, 1) := db106.1
theorem dX10_chance_1 : decode cX10_chance 1 = .ok (.iload_n 1, 1) := db106.2.1
theorem dX10_chance_2 : decode cX10_chance 2 = .ok (.invokevirtual 145, 3) := db106.2.2.1
theorem dX10_chance_5 : decode cX10_chance 5 = .ok (.ifCond .eq 21, 3) := db106.2.2.2.1
theorem dX10_chance_26 : decode cX10_chance 26 = .ok (.bipush (-2), 2) := db106.2.2.2.2.1
theorem dX10_chance_28 : decode cX10_chance 28 = .ok (.ireturn, 1) := db106.2.2.2.2.2.1
theorem dX10_chance_8 : decode cX10_chance 8 = .ok (.aload_n 0, 1) := db106.2.2.2.2.2.2.1
theorem dX10_chance_9 : decode cX10_chance 9 = .ok (.getfield 48, 3) := db106.2.2.2.2.2.2.2.1
theorem dX10_chance_12 : decode cX10_chance 12 = .ok (.aload_n 0, 1) := db106.2.2.2.2.2.2.2.2.1
theorem dX10_chance_13 : decode cX10_chance 13 = .ok (.getfield 48, 3) := db106.2.2.2.2.2.2.2.2.2.1
theorem dX10_chance_16 : decode cX10_chance 16 = .ok (.iload_n 1, 1) := db106.2.2.2.2.2.2.2.2.2.2.1
theorem dX10_chance_17 : decode cX10_chance 17 = .ok (.invokevirtual 148, 3) := db106.2.2.2.2.2.2.2.2.2.2.2.1
theorem dX10_chance_20 : decode cX10_chance 20 = .ok (.invokevirtual 169, 3) := db106.2.2.2.2.2.2.2.2.2.2.2.2.1
theorem dX10_chance_23 : decode cX10_chance 23 = .ok (.goto 5, 3) := db106.2.2.2.2.2.2.2.2.2.2.2.2.2
theorem db107 : (decode cX10_comesInto 0 = .ok (.aload_n 0, 1)) ∧ (decode cX10_comesInto 1 = .ok (.getfield 52, 3)) ∧ (decode cX10_comesInto 4 = .ok (.aload_n 0, 1)) ∧ (decode cX10_comesInto 5 = .ok (.getfield 48, 3)) ∧ (decode cX10_comesInto 8 = .ok (.invokevirtual 179, 3)) ∧ (decode cX10_comesInto 11 = .ok (.iconst 0, 1)) ∧ (decode cX10_comesInto 12 = .ok (.istore_n 3, 1)) ∧ (decode cX10_comesInto 13 = .ok (.iload_n 3, 1)) ∧ (decode cX10_comesInto 14 = .ok (.iload_n 2, 1)) ∧ (decode cX10_comesInto 15 = .ok (.if_icmp .ge 25, 3)) ∧ (decode cX10_comesInto 40 = .ok (.aload_n 0, 1)) ∧ (decode cX10_comesInto 41 = .ok (.getfield 52, 3)) ∧ (decode cX10_comesInto 44 = .ok (.iload_n 1, 1)) ∧ (decode cX10_comesInto 45 = .ok (.invokevirtual 148, 3)) ∧ (decode cX10_comesInto 48 = .ok (.ireturn, 1)) ∧ (decode cX10_comesInto 18 = .ok (.aload_n 0, 1)) ∧ (decode cX10_comesInto 19 = .ok (.getfield 52, 3)) ∧ (decode cX10_comesInto 22 = .ok (.aload_n 0, 1)) ∧ (decode cX10_comesInto 23 = .ok (.getfield 31, 3)) ∧ (decode cX10_comesInto 26 = .ok (.getfield 98, 3)) ∧ (decode cX10_comesInto 29 = .ok (.iload_n 1, 1)) ∧ (decode cX10_comesInto 30 = .ok (.invokevirtual 182, 3)) ∧ (decode cX10_comesInto 33 = .ok (.pop, 1)) ∧ (decode cX10_comesInto 34 = .ok (.iinc 3 1, 3)) := by decide +kernel
theorem dX10_comesInto_0 : decode cX10_comesInto 0 = .ok (.aload_n 0, 1) := db107.1
theorem dX10_comesInto_1 : decode cX10_comesInto 1 = .ok (.getfield 52, 3) := db107.2.1
theorem dX10_comesInto_4 : decode cX10_comesInto 4 = .ok (.aload_n 0, 1) := db107.2.2.1
theorem dX10_comesInto_5 : decode cX10_comesInto 5 = .ok (.getfield 48, 3) := db107.2.2.2.1
theorem dX10_comesInto_8 : decode cX10_comesInto 8 = .ok (.invokevirtual 179, 3) := db107.2.2.2.2.1
theorem dX10_comesInto_11 : decode cX10_comesInto 11 = .ok (.iconst 0, 1) := db107.2.2.2.2.2.1
theorem dX10_comesInto_12 : decode cX10_comesInto 12 = .ok (.istore_n 3, 1) := db107.2.2.2.2.2.2.1
theorem dX10_comesInto_13 : decode cX10_comesInto 13 = .ok (.iload_n 3, 1) := db107.2.2.2.2.2.2.2.1
theorem dX10_comesInto_14 : decode cX10_comesInto 14 = .ok (.iload_n 2, 1) := db107.2.2.2.2.2.2.2.2.1
theorem dX10_comesInto_15 : decode cX10_comesInto 15 = .ok (.if_icmp .ge 25, 3) := db107.2.2.2.2.2.2.2.2.2.1
theorem dX10_comesInto_40 : decode cX10_comesInto 40 = .ok (.aload_n 0, 1) := db107.2.2.2.2.2.2.2.2.2.2.1
theorem dX10_comesInto_41 : decode cX10_comesInto 41 = .ok (.getfield 52, 3) := db107.2.2.2.2.2.2.2.2.2.2.2.1
theorem dX10_comesInto_44 : decode cX10_comesInto 44 = .ok (.iload_n 1, 1) := db107.2.2.2.2.2.2.2.2.2.2.2.2.1
theorem dX10_comesInto_45 : decode cX10_comesInto 45 = .ok (.invokevirtual 148, 3) := db107.2.2.2.2.2.2.2.2.2.2.2.2.2.1
theorem dX10_comesInto_48 : decode cX10_comesInto 48 = .ok (.ireturn, 1) := db107.2.2.2.2.2.2.2.2.2.2.2.2.2.2.1
theorem dX10_comesInto_18 : decode cX10_comesInto 18 = .ok (.aload_n 0, 1) := db107.2.2.2.2.2.2.2.2.2.2.2.2.2.2.2.1
theorem dX10_comesInto_19 : decode cX10_comesInto 19 = .ok (.getfield 52, 3) := db107.2.2.2.2.2.2.2.2.2.2.2.2.2.2.2.2.1
theorem dX10_comesInto_22 : decode cX10_comesInto 22 = .ok (.aload_n 0, 1) := db107.2.2.2.2.2.2.2.2.2.2.2.2.2.2.2.2.2.1
theorem dX10_comesInto_23 : decode cX10_comesInto 23 = .ok (.getfield 31, 3) := db107.2.2.2.2.2.2.2.2.2.2.2.2.2.2.2.2.2.2.1
theorem dX10_comesInto_26 : decode cX10_comesInto 26 = .ok (.getfield 98, 3) := db107.2.2.2.2.2.2.2.2.2.2.2.2.2.2.2.2.2.2.2.1
theorem dX10_comesInto_29 : decode cX10_comesInto 29 = .ok (.iload_n 1, 1) := db107.2.2.2.2.2.2.2.2.2.2.2.2.2.2.2.2.2.2.2.2.1
theorem dX10_comesInto_30 : decode cX10_comesInto 30 = .ok (.invokevirtual 182, 3) := db107.2.2.2.2.2.2.2.2.2.2.2.2.2.2.2.2.2.2.2.2.2.1
theorem dX10_comesInto_33 : decode cX10_comesInto 33 = .ok (.pop, 1) := db107.2.2.2.2.2.2.2.2.2.2.2.2.2.2.2.2.2.2.2.2.2.2.1
theorem dX10_comesInto_34 : decode cX10_comesInto 34 = .ok (.iinc 3 1, 3) := db107.2.2.2.2.2.2.2.2.2.2.2.2.2.2.2.2.2.2.2.2.2.2.2
theorem dX10_comesInto_37 : decode cX10_comesInto 37 = .ok (.goto (-24), 3) := by decide +kernel
theorem db108 : (decode cX10_count 0 = .ok (.iload_n 1, 1)) ∧ (decode cX10_count 1 = .ok (.tableswitch 127 0 7 #[47, 58, 69, 80, 95, 106, 114, 122], 47)) ∧ (decode cX10_count 128 = .ok (.iconst (-1), 1)) ∧ (decode cX10_count 129 = .ok (.ireturn, 1)) ∧ (decode cX10_count 48 = .ok (.aload_n 0, 1)) ∧ (decode cX10_count 49 = .ok (.getfield 31, 3)) ∧ (decode cX10_count 52 = .ok (.getfield 98, 3)) ∧ (decode cX10_count 55 = .ok (.getfield 159, 3)) ∧ (decode cX10_count 58 = .ok (.ireturn, 1)) ∧ (decode cX10_count 59 = .ok (.aload_n 0, 1)) ∧ (decode cX10_count 60 = .ok (.getfield 31, 3)) ∧ (decode cX10_count 63 = .ok (.getfield 98, 3)) ∧ (decode cX10_count 66 = .ok (.invokevirtual 335, 3)) ∧ (decode cX10_count 69 = .ok (.ireturn, 1)) ∧ (decode cX10_count 70 = .ok (.aload_n 0, 1)) ∧ (decode cX10_count 71 = .ok (.getfield 31, 3)) ∧ (decode cX10_count 74 = .ok (.getfield 98, 3)) ∧ (decode cX10_count 77 = .ok (.getfield 283, 3)) ∧ (decode cX10_count 80 = .ok (.ireturn, 1)) ∧ (decode cX10_count 81 = .ok (.aload_n 0, 1)) ∧ (decode cX10_count 82 = .ok (.aload_n 0, 1)) ∧ (decode cX10_count 83 = .ok (.getfield 31, 3)) ∧ (decode cX10_count 86 = .ok (.getfield 98, 3)) ∧ (decode cX10_count 89 = .ok (.invokevirtual 238, 3)) := by decide +kernel
theorem dX10_count_0 : decode cX10_count 0 = .ok (.iload_n 1, 1) := db108.1
theorem dX10_count_1 : decode cX10_count 1 = .ok (.tableswitch 127 0 7 #[47, 58, 69, 80, 95, 106, 114, 122], 47) := db108.2.1
theorem dX10_count_128 : decode cX10_count 128 = .ok (.iconst (-1), 1) := db108.2.2.1
theorem dX10_count_129 : decode cX10_count 129 = .ok (.ireturn, 1) := db108.2.2.2.1
theorem dX10_count_48 : decode cX10_count 48 = .ok (.aload_n 0, 1) := db108.2.2.2.2.1
theorem dX10_count_49 : decode cX10_count 49 = .ok (.getfield 31, 3) := db108.2.2.2.2.2.1
theorem dX10_count_52 : decode cX10_count 52 = .ok (.getfield 98, 3) := db108.2.2.2.2.2.2.1
theorem dX10_count_55 : decode cX10_count 55 = .ok (.getfield 159, 3) := db108.2.2.2.2.2.2.2.1
theorem dX10_count_58 : decode cX10_count 58 = .ok (.ireturn, 1) := db108.2.2.2.2.2.2.2.2.1
theorem dX10_count_59 : decode cX10_count 59 = .ok (.aload_n 0, 1) := db108.2.2.2.2.2.2.2.2.2.1
theorem dX10_count_60 : decode cX10_count 60 = .ok (.getfield 31, 3) := db108.2.2.2.2.2.2.2.2.2.2.1
theorem dX10_count_63 : decode cX10_count 63 = .ok (.getfield 98, 3) := db108.2.2.2.2.2.2.2.2.2.2.2.1
theorem dX10_count_66 : decode cX10_count 66 = .ok (.invokevirtual 335, 3) := db108.2.2.2.2.2.2.2.2.2.2.2.2.1
theorem dX10_count_69 : decode cX10_count 69 = .ok (.ireturn, 1) := db108.2.2.2.2.2.2.2.2.2.2.2.2.2.1
theorem dX10_count_70 : decode cX10_count 70 = .ok (.aload_n 0, 1) := db108.2.2.2.2.2.2.2.2.2.2.2.2.2.2.1
theorem dX10_count_71 : decode cX10_count 71 = .ok (.getfield 31, 3) := db108.2.2.2.2.2.2.2.2.2.2.2.2.2.2.2.1
theorem dX10_count_74 : decode cX10_count 74 = .ok (.getfield 98, 3) := db108.2.2.2.2.2.2.2.2.2.2.2.2.2.2.2.2.1
theorem dX10_count_77 : decode cX10_count 77 = .ok (.getfield 283, 3) := db108.2.2.2.2.2.2.2.2.2.2.2.2.2.2.2.2.2.1
theorem dX10_count_80 : decode cX10_count 80 = .ok (.ireturn, 1) := db108.2.2.2.2.2.2.2.2.2.2.2.2.2.2.2.2.2.2.1
theorem dX10_count_81 : decode cX10_count 81 = .ok (.aload_n 0, 1) := db108.2.2.2.2.2.2.2.2.2.2.2.2.2.2.2.2.2.2.2.1
theorem dX10_count_82 : decode cX10_count 82 = .ok (.aload_n 0, 1) := db108.2.2.2.2.2.2.2.2.2.2.2.2.2.2.2.2.2.2.2.2.1
theorem dX10_count_83 : decode cX10_count 83 = .ok (.getfield 31, 3) := db108.2.2.2.2.2.2.2.2.2.2.2.2.2.2.2.2.2.2.2.2.2.1
theorem dX10_count_86 : decode cX10_count 86 = .ok (.getfield 98, 3) := db108.2.2.2.2.2.2.2.2.2.2.2.2.2.2.2.2.2.2.2.2.2.2.1
theorem dX10_count_89 : decode cX10_count 89 = .ok (.invokevirtual 238, 3) := db108.2.2.2.2.2.2.2.2.2.2.2.2.2.2.2.2.2.2.2.2.2.2.2
theorem db109 : (decode cX10_count 92 = .ok (.invokevirtual 247, 3)) ∧ (decode cX10_count 95 = .ok (.ireturn, 1)) ∧ (decode cX10_count 96 = .ok (.aload_n 0, 1)) ∧ (decode cX10_count 97 = .ok (.getfield 31, 3)) ∧ (decode cX10_count 100 = .ok (.getfield 98, 3)) ∧ (decode cX10_count 103 = .ok (.getfield 111, 3)) ∧ (decode cX10_count 106 = .ok (.ireturn, 1)) ∧ (decode cX10_count 107 = .ok (.aload_n 0, 1)) ∧ (decode cX10_count 108 = .ok (.getfield 20, 3)) ∧ (decode cX10_count 111 = .ok (.getfield 84, 3)) ∧ (decode cX10_count 114 = .ok (.ireturn, 1)) ∧ (decode cX10_count 115 = .ok (.aload_n 0, 1)) ∧ (decode cX10_count 116 = .ok (.getfield 31, 3)) ∧ (decode cX10_count 119 = .ok (.getfield 105, 3)) ∧ (decode cX10_count 122 = .ok (.ireturn, 1)) ∧ (decode cX10_count 123 = .ok (.aload_n 0, 1)) ∧ (decode cX10_count 124 = .ok (.invokevirtual 338, 3)) ∧ (decode cX10_count 127 = .ok (.ireturn, 1)) := by decide +kernel
theorem dX10_count_92 : decode cX10_count 92 = .ok (.invokevirtual 247, 3) := db109.1
theorem dX10_count_95 : decode cX10_count 95 = .ok (.ireturn, 1) := db109.2.1
theorem dX10_count_96 : decode cX10_count 96 = .ok (.aload_n 0, 1) := db109.2.2.1
theorem dX10_count_97 : decode cX10_count 97 = .ok (.getfield 31, 3) := db109.2.2.2.1
theorem dX10_count_100 : decode cX10_count 100 = .ok (.getfield 98, 3) := db109.2.2.2.2.1
theorem dX10_count_103 : decode cX10_count 103 = .ok (.getfield 111, 3) := db109.2.2.2.2.2.1
theorem dX10_count_106 : decode cX10_count 106 = .ok (.ireturn, 1) := db109.2.2.2.2.2.2.1
theorem dX10_count_107 : decode cX10_count 107 = .ok (.aload_n 0, 1) := db109.2.2.2.2.2.2.2.1
theorem dX10_count_108 : decode cX10_count 108 = .ok (.getfield 20, 3) := db109.2.2.2.2.2.2.2.2.1
theorem dX10_count_111 : decode cX10_count 111 = .ok (.getfield 84, 3) := db109.2.2.2.2.2.2.2.2.2.1
theorem dX10_count_114 : decode cX10_count 114 = .ok (.ireturn, 1) := db109.2.2.2.2.2.2.2.2.2.2.1
theorem dX10_count_115 : decode cX10_count 115 = .ok (.aload_n 0, 1) := db109.2.2.2.2.2.2.2.2.2.2.2.1
theorem dX10_count_116 : decode cX10_count 116 = .ok (.getfield 31, 3) := db109.2.2.2.2.2.2.2.2.2.2.2.2.1
theorem dX10_count_119 : decode cX10_count 119 = .ok (.getfield 105, 3) := db109.2.2.2.2.2.2.2.2.2.2.2.2.2.1
theorem dX10_count_122 : decode cX10_count 122 = .ok (.ireturn, 1) := db109.2.2.2.2.2.2.2.2.2.2.2.2.2.2.1
theorem dX10_count_123 : decode cX10_count 123 = .ok (.aload_n 0, 1) := db109.2.2.2.2.2.2.2.2.2.2.2.2.2.2.2.1
theorem dX10_count_124 : decode cX10_count 124 = .ok (.invokevirtual 338, 3) := db109.2.2.2.2.2.2.2.2.2.2.2.2.2.2.2.2.1
theorem dX10_count_127 : decode cX10_count 127 = .ok (.ireturn, 1) := db109.2.2.2.2.2.2.2.2.2.2.2.2.2.2.2.2.2
theorem db110 : (decode cX10_countRows 0 = .ok (.iconst 0, 1)) ∧ (decode cX10_countRows 1 = .ok (.istore_n 1, 1)) ∧ (decode cX10_countRows 2 = .ok (.iconst 0, 1)) ∧ (decode cX10_countRows 3 = .ok (.istore_n 2, 1)) ∧ (decode cX10_countRows 4 = .ok (.iload_n 2, 1)) ∧ (decode cX10_countRows 5 = .ok (.iconst 4, 1)) ∧ (decode cX10_countRows 6 = .ok (.if_icmp .ge 24, 3)) ∧ (decode cX10_countRows 9 = .ok (.aload_n 0, 1)) ∧ (decode cX10_countRows 10 = .ok (.getfield 41, 3)) ∧ (decode cX10_countRows 13 = .ok (.iload_n 2, 1)) ∧ (decode cX10_countRows 14 = .ok (.aaload, 1)) ∧ (decode cX10_countRows 15 = .ok (.getfield 354, 3)) ∧ (decode cX10_countRows 18 = .ok (.ifCond .eq 6, 3)) ∧ (decode cX10_countRows 24 = .ok (.iinc 2 1, 3)) ∧ (decode cX10_countRows 27 = .ok (.goto (-23), 3)) ∧ (decode cX10_countRows 30 = .ok (.iload_n 1, 1)) ∧ (decode cX10_countRows 31 = .ok (.ireturn, 1)) ∧ (decode cX10_countRows 21 = .ok (.iinc 1 1, 3)) := by decide +kernel
theorem dX10_countRows_0 : decode cX10_countRows 0 = .ok (.iconst 0, 1) := db110.1
theorem dX10_countRows_1 : decode cX10_countRows 1 = .ok (.istore_n 1, 1) := db110.2.1
theorem dX10_countRows_2 : decode cX10_countRows 2 = .ok (.iconst 0, 1) := db110.2.2.1
theorem dX10_countRows_3 : decode cX10_countRows 3 = .ok (.istore_n 2, 1) := db110.2.2.2.1
theorem dX10_countRows_4 : decode cX10_countRows 4 = .ok (.iload_n 2, 1) := db110.2.2.2.2.1
theorem dX10_countRows_5 : decode cX10_countRows 5 = .ok (.iconst 4, 1) := db110.2.2.2.2.2.1
theorem dX10_countRows_6 : decode cX10_countRows 6 = .ok (.if_icmp .ge 24, 3) := db110.2.2.2.2.2.2.1
theorem dX10_countRows_9 : decode cX10_countRows 9 = .ok (.aload_n 0, 1) := db110.2.2.2.2.2.2.2.1
theorem dX10_countRows_10 : decode cX10_countRows 10 = .ok (.getfield 41, 3) := db110.2.2.2.2.2.2.2.2.1
theorem dX10_countRows_13 : decode cX10_countRows 13 = .ok (.iload_n 2, 1) := db110.2.2.2.2.2.2.2.2.2.1
theorem dX10_countRows_14 : decode cX10_countRows 14 = .ok (.aaload, 1) := db110.2.2.2.2.2.2.2.2.2.2.1
theorem dX10_countRows_15 : decode cX10_countRows 15 = .ok (.getfield 354, 3) := db110.2.2.2.2.2.2.2.2.2.2.2.1
theorem dX10_countRows_18 : decode cX10_countRows 18 = .ok (.ifCond .eq 6, 3) := db110.2.2.2.2.2.2.2.2.2.2.2.2.1
theorem dX10_countRows_24 : decode cX10_countRows 24 = .ok (.iinc 2 1, 3) := db110.2.2.2.2.2.2.2.2.2.2.2.2.2.1
theorem dX10_countRows_27 : decode cX10_countRows 27 = .ok (.goto (-23), 3) := db110.2.2.2.2.2.2.2.2.2.2.2.2.2.2.1
theorem dX10_countRows_30 : decode cX10_countRows 30 = .ok (.iload_n 1, 1) := db110.2.2.2.2.2.2.2.2.2.2.2.2.2.2.2.1
theorem dX10_countRows_31 : decode cX10_countRows 31 = .ok (.ireturn, 1) := db110.2.2.2.2.2.2.2.2.2.2.2.2.2.2.2.2.1
theorem dX10_countRows_21 : decode cX10_countRows 21 = .ok (.iinc 1 1, 3) := db110.2.2.2.2.2.2.2.2.2.2.2.2.2.2.2.2.2
theorem db111 : (decode cX10_desk 0 = .ok (.aload_n 0, 1)) ∧ (decode cX10_desk 1 = .ok (.getfield 31, 3)) ∧ (decode cX10_desk 4 = .ok (.getfield 98, 3)) ∧ (decode cX10_desk 7 = .ok (.getfield 159, 3)) ∧ (decode cX10_desk 10 = .ok (.iconst 1, 1)) ∧ (decode cX10_desk 11 = .ok (.if_icmp .lt 14, 3)) ∧ (decode cX10_desk 25 = .ok (.bipush (-2), 2)) ∧ (decode cX10_desk 27 = .ok (.ireturn, 1)) ∧ (decode cX10_desk 14 = .ok (.iload_n 1, 1)) ∧ (decode cX10_desk 15 = .ok (.ifCond .lt 10, 3)) ∧ (decode cX10_desk 18 = .ok (.iload_n 1, 1)) ∧ (decode cX10_desk 19 = .ok (.sipush 200, 3)) ∧ (decode cX10_desk 22 = .ok (.if_icmp .le 6, 3)) ∧ (decode cX10_desk 28 = .ok (.iconst 0, 1)) ∧ (decode cX10_desk 29 = .ok (.istore_n 2, 1)) ∧ (decode cX10_desk 30 = .ok (.iconst (-1), 1)) ∧ (decode cX10_desk 31 = .ok (.istore_n 3, 1)) ∧ (decode cX10_desk 32 = .ok (.iconst 0, 1)) ∧ (decode cX10_desk 33 = .ok (.istore 4, 2)) ∧ (decode cX10_desk 35 = .ok (.iload 4, 2)) ∧ (decode cX10_desk 37 = .ok (.aload_n 0, 1)) ∧ (decode cX10_desk 38 = .ok (.getfield 31, 3)) ∧ (decode cX10_desk 41 = .ok (.getfield 98, 3)) ∧ (decode cX10_desk 44 = .ok (.getfield 159, 3)) := by decide +kernel
theorem dX10_desk_0 : decode cX10_desk 0 = .ok (.aload_n 0, 1) := db111.1
theorem dX10_desk_1 : decode cX10_desk 1 = .ok (.getfield 31, 3) := db111.2.1
theorem dX10_desk_4 : decode cX10_desk 4 = .ok (.getfield 98, 3) := db111.2.2.1
theorem dX10_desk_7 : decode cX10_desk 7 = .ok (.getfield 159, 3) := db111.2.2.2.1
theorem dX10_desk_10 : decode cX10_desk 10 = .ok (.iconst 1, 1) := db111.2.2.2.2.1
theorem dX10_desk_11 : decode cX10_desk 11 = .ok (.if_icmp .lt 14, 3) := db111.2.2.2.2.2.1
theorem dX10_desk_25 : decode cX10_desk 25 = .ok (.bipush (-2), 2) := db111.2.2.2.2.2.2.1
theorem dX10_desk_27 : decode cX10_desk 27 = .ok (.ireturn, 1) := db111.2.2.2.2.2.2.2.1
theorem dX10_desk_14 : decode cX10_desk 14 = .ok (.iload_n 1, 1) := db111.2.2.2.2.2.2.2.2.1
theorem dX10_desk_15 : decode cX10_desk 15 = .ok (.ifCond .lt 10, 3) := db111.2.2.2.2.2.2.2.2.2.1
theorem dX10_desk_18 : decode cX10_desk 18 = .ok (.iload_n 1, 1) := db111.2.2.2.2.2.2.2.2.2.2.1
theorem dX10_desk_19 : decode cX10_desk 19 = .ok (.sipush 200, 3) := db111.2.2.2.2.2.2.2.2.2.2.2.1
theorem dX10_desk_22 : decode cX10_desk 22 = .ok (.if_icmp .le 6, 3) := db111.2.2.2.2.2.2.2.2.2.2.2.2.1
theorem dX10_desk_28 : decode cX10_desk 28 = .ok (.iconst 0, 1) := db111.2.2.2.2.2.2.2.2.2.2.2.2.2.1
theorem dX10_desk_29 : decode cX10_desk 29 = .ok (.istore_n 2, 1) := db111.2.2.2.2.2.2.2.2.2.2.2.2.2.2.1
theorem dX10_desk_30 : decode cX10_desk 30 = .ok (.iconst (-1), 1) := db111.2.2.2.2.2.2.2.2.2.2.2.2.2.2.2.1
theorem dX10_desk_31 : decode cX10_desk 31 = .ok (.istore_n 3, 1) := db111.2.2.2.2.2.2.2.2.2.2.2.2.2.2.2.2.1
theorem dX10_desk_32 : decode cX10_desk 32 = .ok (.iconst 0, 1) := db111.2.2.2.2.2.2.2.2.2.2.2.2.2.2.2.2.2.1
theorem dX10_desk_33 : decode cX10_desk 33 = .ok (.istore 4, 2) := db111.2.2.2.2.2.2.2.2.2.2.2.2.2.2.2.2.2.2.1
theorem dX10_desk_35 : decode cX10_desk 35 = .ok (.iload 4, 2) := db111.2.2.2.2.2.2.2.2.2.2.2.2.2.2.2.2.2.2.2.1
theorem dX10_desk_37 : decode cX10_desk 37 = .ok (.aload_n 0, 1) := db111.2.2.2.2.2.2.2.2.2.2.2.2.2.2.2.2.2.2.2.2.1
theorem dX10_desk_38 : decode cX10_desk 38 = .ok (.getfield 31, 3) := db111.2.2.2.2.2.2.2.2.2.2.2.2.2.2.2.2.2.2.2.2.2.1
theorem dX10_desk_41 : decode cX10_desk 41 = .ok (.getfield 98, 3) := db111.2.2.2.2.2.2.2.2.2.2.2.2.2.2.2.2.2.2.2.2.2.2.1
theorem dX10_desk_44 : decode cX10_desk 44 = .ok (.getfield 159, 3) := db111.2.2.2.2.2.2.2.2.2.2.2.2.2.2.2.2.2.2.2.2.2.2.2
theorem db112 : (decode cX10_desk 47 = .ok (.if_icmp .ge 30, 3)) ∧ (decode cX10_desk 77 = .ok (.iload_n 2, 1)) ∧ (decode cX10_desk 78 = .ok (.ireturn, 1)) ∧ (decode cX10_desk 50 = .ok (.aload_n 0, 1)) ∧ (decode cX10_desk 51 = .ok (.iload 4, 2)) ∧ (decode cX10_desk 53 = .ok (.iload_n 1, 1)) ∧ (decode cX10_desk 54 = .ok (.invokevirtual 250, 3)) ∧ (decode cX10_desk 57 = .ok (.istore 5, 2)) ∧ (decode cX10_desk 59 = .ok (.iload 5, 2)) ∧ (decode cX10_desk 61 = .ok (.iload_n 3, 1)) ∧ (decode cX10_desk 71 = .ok (.iinc 4 1, 3)) ∧ (decode cX10_desk 74 = .ok (.goto (-39), 3)) ∧ (decode cX10_desk 62 = .ok (.if_icmp .le 9, 3)) ∧ (decode cX10_desk 65 = .ok (.iload 5, 2)) ∧ (decode cX10_desk 67 = .ok (.istore_n 3, 1)) ∧ (decode cX10_desk 68 = .ok (.iload 4, 2)) ∧ (decode cX10_desk 70 = .ok (.istore_n 2, 1)) := by decide +kernel
theorem dX10_desk_47 : decode cX10_desk 47 = .ok (.if_icmp .ge 30, 3) := db112.1
theorem dX10_desk_77 : decode cX10_desk 77 = .ok (.iload_n 2, 1) := db112.2.1
theorem dX10_desk_78 : decode cX10_desk 78 = .ok (.ireturn, 1) := db112.2.2.1
theorem dX10_desk_50 : decode cX10_desk 50 = .ok (.aload_n 0, 1) := db112.2.2.2.1
theorem dX10_desk_51 : decode cX10_desk 51 = .ok (.iload 4, 2) := db112.2.2.2.2.1
theorem dX10_desk_53 : decode cX10_desk 53 = .ok (.iload_n 1, 1) := db112.2.2.2.2.2.1
theorem dX10_desk_54 : decode cX10_desk 54 = .ok (.invokevirtual 250, 3) := db112.2.2.2.2.2.2.1
theorem dX10_desk_57 : decode cX10_desk 57 = .ok (.istore 5, 2) := db112.2.2.2.2.2.2.2.1
theorem dX10_desk_59 : decode cX10_desk 59 = .ok (.iload 5, 2) := db112.2.2.2.2.2.2.2.2.1
theorem dX10_desk_61 : decode cX10_desk 61 = .ok (.iload_n 3, 1) := db112.2.2.2.2.2.2.2.2.2.1
theorem dX10_desk_71 : decode cX10_desk 71 = .ok (.iinc 4 1, 3) := db112.2.2.2.2.2.2.2.2.2.2.1
theorem dX10_desk_74 : decode cX10_desk 74 = .ok (.goto (-39), 3) := db112.2.2.2.2.2.2.2.2.2.2.2.1
theorem dX10_desk_62 : decode cX10_desk 62 = .ok (.if_icmp .le 9, 3) := db112.2.2.2.2.2.2.2.2.2.2.2.2.1
theorem dX10_desk_65 : decode cX10_desk 65 = .ok (.iload 5, 2) := db112.2.2.2.2.2.2.2.2.2.2.2.2.2.1
theorem dX10_desk_67 : decode cX10_desk 67 = .ok (.istore_n 3, 1) := db112.2.2.2.2.2.2.2.2.2.2.2.2.2.2.1
theorem dX10_desk_68 : decode cX10_desk 68 = .ok (.iload 4, 2) := db112.2.2.2.2.2.2.2.2.2.2.2.2.2.2.2.1
theorem dX10_desk_70 : decode cX10_desk 70 = .ok (.istore_n 2, 1) := db112.2.2.2.2.2.2.2.2.2.2.2.2.2.2.2.2
theorem db113 : (decode cX10_disturbs 0 = .ok (.aload_n 0, 1)) ∧ (decode cX10_disturbs 1 = .ok (.iload_n 1, 1)) ∧ (decode cX10_disturbs 2 = .ok (.iconst 1, 1)) ∧ (decode cX10_disturbs 3 = .ok (.invokevirtual 186, 3)) ∧ (decode cX10_disturbs 6 = .ok (.istore_n 2, 1)) ∧ (decode cX10_disturbs 7 = .ok (.iload_n 2, 1)) ∧ (decode cX10_disturbs 8 = .ok (.ifCond .eq 5, 3)) ∧ (decode cX10_disturbs 13 = .ok (.aload_n 0, 1)) ∧ (decode cX10_disturbs 14 = .ok (.getfield 41, 3)) ∧ (decode cX10_disturbs 17 = .ok (.iload_n 1, 1)) ∧ (decode cX10_disturbs 18 = .ok (.aaload, 1)) ∧ (decode cX10_disturbs 19 = .ok (.astore_n 3, 1)) ∧ (decode cX10_disturbs 20 = .ok (.iconst 0, 1)) ∧ (decode cX10_disturbs 21 = .ok (.istore 4, 2)) ∧ (decode cX10_disturbs 23 = .ok (.iconst 0, 1)) ∧ (decode cX10_disturbs 24 = .ok (.istore 5, 2)) ∧ (decode cX10_disturbs 26 = .ok (.iload 5, 2)) ∧ (decode cX10_disturbs 28 = .ok (.aload_n 3, 1)) ∧ (decode cX10_disturbs 29 = .ok (.getfield 194, 3)) ∧ (decode cX10_disturbs 32 = .ok (.if_icmp .ge 41, 3)) ∧ (decode cX10_disturbs 73 = .ok (.iload 4, 2)) ∧ (decode cX10_disturbs 75 = .ok (.ireturn, 1)) ∧ (decode cX10_disturbs 35 = .ok (.aload_n 3, 1)) ∧ (decode cX10_disturbs 36 = .ok (.iload 5, 2)) := by decide +kernel
theorem dX10_disturbs_0 : decode cX10_disturbs 0 = .ok (.aload_n 0, 1) := db113.1
theorem dX10_disturbs_1 : decode cX10_disturbs 1 = .ok (.iload_n 1, 1) := db113.2.1
theorem dX10_disturbs_2 : decode cX10_disturbs 2 = .ok (.iconst 1, 1) := db113.2.2.1
theorem dX10_disturbs_3 : decode cX10_disturbs 3 = .ok (.invokevirtual 186, 3) := db113.2.2.2.1
theorem dX10_disturbs_6 : decode cX10_disturbs 6 = .ok (.istore_n 2, 1) := db113.2.2.2.2.1
theorem dX10_disturbs_7 : decode cX10_disturbs 7 = .ok (.iload_n 2, 1) := db113.2.2.2.2.2.1
theorem dX10_disturbs_8 : decode cX10_disturbs 8 = .ok (.ifCond .eq 5, 3) := db113.2.2.2.2.2.2.1
theorem dX10_disturbs_13 : decode cX10_disturbs 13 = .ok (.aload_n 0, 1) := db113.2.2.2.2.2.2.2.1
theorem dX10_disturbs_14 : decode cX10_disturbs 14 = .ok (.getfield 41, 3) := db113.2.2.2.2.2.2.2.2.1
theorem dX10_disturbs_17 : decode cX10_disturbs 17 = .ok (.iload_n 1, 1) := db113.2.2.2.2.2.2.2.2.2.1
theorem dX10_disturbs_18 : decode cX10_disturbs 18 = .ok (.aaload, 1) := db113.2.2.2.2.2.2.2.2.2.2.1
theorem dX10_disturbs_19 : decode cX10_disturbs 19 = .ok (.astore_n 3, 1) := db113.2.2.2.2.2.2.2.2.2.2.2.1
theorem dX10_disturbs_20 : decode cX10_disturbs 20 = .ok (.iconst 0, 1) := db113.2.2.2.2.2.2.2.2.2.2.2.2.1
theorem dX10_disturbs_21 : decode cX10_disturbs 21 = .ok (.istore 4, 2) := db113.2.2.2.2.2.2.2.2.2.2.2.2.2.1
theorem dX10_disturbs_23 : decode cX10_disturbs 23 = .ok (.iconst 0, 1) := db113.2.2.2.2.2.2.2.2.2.2.2.2.2.2.1
theorem dX10_disturbs_24 : decode cX10_disturbs 24 = .ok (.istore 5, 2) := db113.2.2.2.2.2.2.2.2.2.2.2.2.2.2.2.1
theorem dX10_disturbs_26 : decode cX10_disturbs 26 = .ok (.iload 5, 2) := db113.2.2.2.2.2.2.2.2.2.2.2.2.2.2.2.2.1
theorem dX10_disturbs_28 : decode cX10_disturbs 28 = .ok (.aload_n 3, 1) := db113.2.2.2.2.2.2.2.2.2.2.2.2.2.2.2.2.2.1
theorem dX10_disturbs_29 : decode cX10_disturbs 29 = .ok (.getfield 194, 3) := db113.2.2.2.2.2.2.2.2.2.2.2.2.2.2.2.2.2.2.1
theorem dX10_disturbs_32 : decode cX10_disturbs 32 = .ok (.if_icmp .ge 41, 3) := db113.2.2.2.2.2.2.2.2.2.2.2.2.2.2.2.2.2.2.2.1
theorem dX10_disturbs_73 : decode cX10_disturbs 73 = .ok (.iload 4, 2) := db113.2.2.2.2.2.2.2.2.2.2.2.2.2.2.2.2.2.2.2.2.1
theorem dX10_disturbs_75 : decode cX10_disturbs 75 = .ok (.ireturn, 1) := db113.2.2.2.2.2.2.2.2.2.2.2.2.2.2.2.2.2.2.2.2.2.1
theorem dX10_disturbs_35 : decode cX10_disturbs 35 = .ok (.aload_n 3, 1) := db113.2.2.2.2.2.2.2.2.2.2.2.2.2.2.2.2.2.2.2.2.2.2.1
theorem dX10_disturbs_36 : decode cX10_disturbs 36 = .ok (.iload 5, 2) := db113.2.2.2.2.2.2.2.2.2.2.2.2.2.2.2.2.2.2.2.2.2.2.2
theorem db114 : (decode cX10_disturbs 38 = .ok (.invokevirtual 195, 3)) ∧ (decode cX10_disturbs 41 = .ok (.istore 6, 2)) ∧ (decode cX10_disturbs 43 = .ok (.iload 6, 2)) ∧ (decode cX10_disturbs 45 = .ok (.iconst (-1), 1)) ∧ (decode cX10_disturbs 67 = .ok (.iinc 5 1, 3)) ∧ (decode cX10_disturbs 70 = .ok (.goto (-44), 3)) ∧ (decode cX10_disturbs 46 = .ok (.if_icmp .eq 21, 3)) ∧ (decode cX10_disturbs 49 = .ok (.iload 4, 2)) ∧ (decode cX10_disturbs 51 = .ok (.aload_n 0, 1)) ∧ (decode cX10_disturbs 52 = .ok (.getfield 31, 3)) ∧ (decode cX10_disturbs 55 = .ok (.getfield 98, 3)) ∧ (decode cX10_disturbs 58 = .ok (.getfield 198, 3)) ∧ (decode cX10_disturbs 61 = .ok (.iload 6, 2)) ∧ (decode cX10_disturbs 63 = .ok (.iaload, 1)) ∧ (decode cX10_disturbs 64 = .ok (.iadd, 1)) ∧ (decode cX10_disturbs 65 = .ok (.istore 4, 2)) ∧ (decode cX10_disturbs 11 = .ok (.iload_n 2, 1)) ∧ (decode cX10_disturbs 12 = .ok (.ireturn, 1)) := by decide +kernel
theorem dX10_disturbs_38 : decode cX10_disturbs 38 = .ok (.invokevirtual 195, 3) := db114.1
theorem dX10_disturbs_41 : decode cX10_disturbs 41 = .ok (.istore 6, 2) := db114.2.1
theorem dX10_disturbs_43 : decode cX10_disturbs 43 = .ok (.iload 6, 2) := db114.2.2.1
theorem dX10_disturbs_45 : decode cX10_disturbs 45 = .ok (.iconst (-1), 1) := db114.2.2.2.1
theorem dX10_disturbs_67 : decode cX10_disturbs 67 = .ok (.iinc 5 1, 3) := db114.2.2.2.2.1
theorem dX10_disturbs_70 : decode cX10_disturbs 70 = .ok (.goto (-44), 3) := db114.2.2.2.2.2.1
theorem dX10_disturbs_46 : decode cX10_disturbs 46 = .ok (.if_icmp .eq 21, 3) := db114.2.2.2.2.2.2.1
theorem dX10_disturbs_49 : decode cX10_disturbs 49 = .ok (.iload 4, 2) := db114.2.2.2.2.2.2.2.1
theorem dX10_disturbs_51 : decode cX10_disturbs 51 = .ok (.aload_n 0, 1) := db114.2.2.2.2.2.2.2.2.1
theorem dX10_disturbs_52 : decode cX10_disturbs 52 = .ok (.getfield 31, 3) := db114.2.2.2.2.2.2.2.2.2.1
theorem dX10_disturbs_55 : decode cX10_disturbs 55 = .ok (.getfield 98, 3) := db114.2.2.2.2.2.2.2.2.2.2.1
theorem dX10_disturbs_58 : decode cX10_disturbs 58 = .ok (.getfield 198, 3) := db114.2.2.2.2.2.2.2.2.2.2.2.1
theorem dX10_disturbs_61 : decode cX10_disturbs 61 = .ok (.iload 6, 2) := db114.2.2.2.2.2.2.2.2.2.2.2.2.1
theorem dX10_disturbs_63 : decode cX10_disturbs 63 = .ok (.iaload, 1) := db114.2.2.2.2.2.2.2.2.2.2.2.2.2.1
theorem dX10_disturbs_64 : decode cX10_disturbs 64 = .ok (.iadd, 1) := db114.2.2.2.2.2.2.2.2.2.2.2.2.2.2.1
theorem dX10_disturbs_65 : decode cX10_disturbs 65 = .ok (.istore 4, 2) := db114.2.2.2.2.2.2.2.2.2.2.2.2.2.2.2.1
theorem dX10_disturbs_11 : decode cX10_disturbs 11 = .ok (.iload_n 2, 1) := db114.2.2.2.2.2.2.2.2.2.2.2.2.2.2.2.2.1
theorem dX10_disturbs_12 : decode cX10_disturbs 12 = .ok (.ireturn, 1) := db114.2.2.2.2.2.2.2.2.2.2.2.2.2.2.2.2.2
theorem db115 : (decode cX10_doubt 0 = .ok (.aload_n 0, 1)) ∧ (decode cX10_doubt 1 = .ok (.iload_n 1, 1)) ∧ (decode cX10_doubt 2 = .ok (.aload_n 0, 1)) ∧ (decode cX10_doubt 3 = .ok (.iload_n 2, 1)) ∧ (decode cX10_doubt 4 = .ok (.invokevirtual 205, 3)) ∧ (decode cX10_doubt 7 = .ok (.invokevirtual 186, 3)) ∧ (decode cX10_doubt 10 = .ok (.istore_n 3, 1)) ∧ (decode cX10_doubt 11 = .ok (.iload_n 3, 1)) ∧ (decode cX10_doubt 12 = .ok (.ifCond .eq 5, 3)) ∧ (decode cX10_doubt 17 = .ok (.aload_n 0, 1)) ∧ (decode cX10_doubt 18 = .ok (.getfield 41, 3)) ∧ (decode cX10_doubt 21 = .ok (.iload_n 1, 1)) ∧ (decode cX10_doubt 22 = .ok (.aaload, 1)) ∧ (decode cX10_doubt 23 = .ok (.astore 4, 2)) ∧ (decode cX10_doubt 25 = .ok (.aload_n 0, 1)) ∧ (decode cX10_doubt 26 = .ok (.getfield 52, 3)) ∧ (decode cX10_doubt 29 = .ok (.aload_n 0, 1)) ∧ (decode cX10_doubt 30 = .ok (.getfield 48, 3)) ∧ (decode cX10_doubt 33 = .ok (.invokevirtual 179, 3)) ∧ (decode cX10_doubt 36 = .ok (.iconst 0, 1)) ∧ (decode cX10_doubt 37 = .ok (.istore 5, 2)) ∧ (decode cX10_doubt 39 = .ok (.iload 5, 2)) ∧ (decode cX10_doubt 41 = .ok (.aload 4, 2)) ∧ (decode cX10_doubt 43 = .ok (.getfield 194, 3)) := by decide +kernel
theorem dX10_doubt_0 : decode cX10_doubt 0 = .ok (.aload_n 0, 1) := db115.1
theorem dX10_doubt_1 : decode cX10_doubt 1 = .ok (.iload_n 1, 1) := db115.2.1
theorem dX10_doubt_2 : decode cX10_doubt 2 = .ok (.aload_n 0, 1) := db115.2.2.1
theorem dX10_doubt_3 : decode cX10_doubt 3 = .ok (.iload_n 2, 1) := db115.2.2.2.1
theorem dX10_doubt_4 : decode cX10_doubt 4 = .ok (.invokevirtual 205, 3) := db115.2.2.2.2.1
theorem dX10_doubt_7 : decode cX10_doubt 7 = .ok (.invokevirtual 186, 3) := db115.2.2.2.2.2.1
theorem dX10_doubt_10 : decode cX10_doubt 10 = .ok (.istore_n 3, 1) := db115.2.2.2.2.2.2.1
theorem dX10_doubt_11 : decode cX10_doubt 11 = .ok (.iload_n 3, 1) := db115.2.2.2.2.2.2.2.1
theorem dX10_doubt_12 : decode cX10_doubt 12 = .ok (.ifCond .eq 5, 3) := db115.2.2.2.2.2.2.2.2.1
theorem dX10_doubt_17 : decode cX10_doubt 17 = .ok (.aload_n 0, 1) := db115.2.2.2.2.2.2.2.2.2.1
theorem dX10_doubt_18 : decode cX10_doubt 18 = .ok (.getfield 41, 3) := db115.2.2.2.2.2.2.2.2.2.2.1
theorem dX10_doubt_21 : decode cX10_doubt 21 = .ok (.iload_n 1, 1) := db115.2.2.2.2.2.2.2.2.2.2.2.1
theorem dX10_doubt_22 : decode cX10_doubt 22 = .ok (.aaload, 1) := db115.2.2.2.2.2.2.2.2.2.2.2.2.1
theorem dX10_doubt_23 : decode cX10_doubt 23 = .ok (.astore 4, 2) := db115.2.2.2.2.2.2.2.2.2.2.2.2.2.1
theorem dX10_doubt_25 : decode cX10_doubt 25 = .ok (.aload_n 0, 1) := db115.2.2.2.2.2.2.2.2.2.2.2.2.2.2.1
theorem dX10_doubt_26 : decode cX10_doubt 26 = .ok (.getfield 52, 3) := db115.2.2.2.2.2.2.2.2.2.2.2.2.2.2.2.1
theorem dX10_doubt_29 : decode cX10_doubt 29 = .ok (.aload_n 0, 1) := db115.2.2.2.2.2.2.2.2.2.2.2.2.2.2.2.2.1
theorem dX10_doubt_30 : decode cX10_doubt 30 = .ok (.getfield 48, 3) := db115.2.2.2.2.2.2.2.2.2.2.2.2.2.2.2.2.2.1
theorem dX10_doubt_33 : decode cX10_doubt 33 = .ok (.invokevirtual 179, 3) := db115.2.2.2.2.2.2.2.2.2.2.2.2.2.2.2.2.2.2.1
theorem dX10_doubt_36 : decode cX10_doubt 36 = .ok (.iconst 0, 1) := db115.2.2.2.2.2.2.2.2.2.2.2.2.2.2.2.2.2.2.2.1
theorem dX10_doubt_37 : decode cX10_doubt 37 = .ok (.istore 5, 2) := db115.2.2.2.2.2.2.2.2.2.2.2.2.2.2.2.2.2.2.2.2.1
theorem dX10_doubt_39 : decode cX10_doubt 39 = .ok (.iload 5, 2) := db115.2.2.2.2.2.2.2.2.2.2.2.2.2.2.2.2.2.2.2.2.2.1
theorem dX10_doubt_41 : decode cX10_doubt 41 = .ok (.aload 4, 2) := db115.2.2.2.2.2.2.2.2.2.2.2.2.2.2.2.2.2.2.2.2.2.2.1
theorem dX10_doubt_43 : decode cX10_doubt 43 = .ok (.getfield 194, 3) := db115.2.2.2.2.2.2.2.2.2.2.2.2.2.2.2.2.2.2.2.2.2.2.2
theorem db116 : (decode cX10_doubt 46 = .ok (.if_icmp .ge 46, 3)) ∧ (decode cX10_doubt 92 = .ok (.iconst (-1), 1)) ∧ (decode cX10_doubt 93 = .ok (.ireturn, 1)) ∧ (decode cX10_doubt 49 = .ok (.aload_n 0, 1)) ∧ (decode cX10_doubt 50 = .ok (.getfield 52, 3)) ∧ (decode cX10_doubt 53 = .ok (.invokevirtual 165, 3)) ∧ (decode cX10_doubt 56 = .ok (.iload_n 2, 1)) ∧ (decode cX10_doubt 57 = .ok (.if_icmp .ge 6, 3)) ∧ (decode cX10_doubt 63 = .ok (.aload_n 0, 1)) ∧ (decode cX10_doubt 64 = .ok (.getfield 52, 3)) ∧ (decode cX10_doubt 67 = .ok (.aload_n 0, 1)) ∧ (decode cX10_doubt 68 = .ok (.getfield 31, 3)) ∧ (decode cX10_doubt 71 = .ok (.getfield 98, 3)) ∧ (decode cX10_doubt 74 = .ok (.aload 4, 2)) ∧ (decode cX10_doubt 76 = .ok (.iload 5, 2)) ∧ (decode cX10_doubt 78 = .ok (.invokevirtual 195, 3)) ∧ (decode cX10_doubt 81 = .ok (.iconst 0, 1)) ∧ (decode cX10_doubt 82 = .ok (.invokevirtual 175, 3)) ∧ (decode cX10_doubt 85 = .ok (.pop, 1)) ∧ (decode cX10_doubt 86 = .ok (.iinc 5 1, 3)) ∧ (decode cX10_doubt 89 = .ok (.goto (-50), 3)) ∧ (decode cX10_doubt 60 = .ok (.iload 5, 2)) ∧ (decode cX10_doubt 62 = .ok (.ireturn, 1)) ∧ (decode cX10_doubt 15 = .ok (.iload_n 3, 1)) := by decide +kernel
theorem dX10_doubt_46 : decode cX10_doubt 46 = .ok (.if_icmp .ge 46, 3) := db116.1
theorem dX10_doubt_92 : decode cX10_doubt 92 = .ok (.iconst (-1), 1) := db116.2.1
theorem dX10_doubt_93 : decode cX10_doubt 93 = .ok (.ireturn, 1) := db116.2.2.1
theorem dX10_doubt_49 : decode cX10_doubt 49 = .ok (.aload_n 0, 1) := db116.2.2.2.1
theorem dX10_doubt_50 : decode cX10_doubt 50 = .ok (.getfield 52, 3) := db116.2.2.2.2.1
theorem dX10_doubt_53 : decode cX10_doubt 53 = .ok (.invokevirtual 165, 3) := db116.2.2.2.2.2.1
theorem dX10_doubt_56 : decode cX10_doubt 56 = .ok (.iload_n 2, 1) := db116.2.2.2.2.2.2.1
theorem dX10_doubt_57 : decode cX10_doubt 57 = .ok (.if_icmp .ge 6, 3) := db116.2.2.2.2.2.2.2.1
theorem dX10_doubt_63 : decode cX10_doubt 63 = .ok (.aload_n 0, 1) := db116.2.2.2.2.2.2.2.2.1
theorem dX10_doubt_64 : decode cX10_doubt 64 = .ok (.getfield 52, 3) := db116.2.2.2.2.2.2.2.2.2.1
theorem dX10_doubt_67 : decode cX10_doubt 67 = .ok (.aload_n 0, 1) := db116.2.2.2.2.2.2.2.2.2.2.1
theorem dX10_doubt_68 : decode cX10_doubt 68 = .ok (.getfield 31, 3) := db116.2.2.2.2.2.2.2.2.2.2.2.1
theorem dX10_doubt_71 : decode cX10_doubt 71 = .ok (.getfield 98, 3) := db116.2.2.2.2.2.2.2.2.2.2.2.2.1
theorem dX10_doubt_74 : decode cX10_doubt 74 = .ok (.aload 4, 2) := db116.2.2.2.2.2.2.2.2.2.2.2.2.2.1
theorem dX10_doubt_76 : decode cX10_doubt 76 = .ok (.iload 5, 2) := db116.2.2.2.2.2.2.2.2.2.2.2.2.2.2.1
theorem dX10_doubt_78 : decode cX10_doubt 78 = .ok (.invokevirtual 195, 3) := db116.2.2.2.2.2.2.2.2.2.2.2.2.2.2.2.1
theorem dX10_doubt_81 : decode cX10_doubt 81 = .ok (.iconst 0, 1) := db116.2.2.2.2.2.2.2.2.2.2.2.2.2.2.2.2.1
theorem dX10_doubt_82 : decode cX10_doubt 82 = .ok (.invokevirtual 175, 3) := db116.2.2.2.2.2.2.2.2.2.2.2.2.2.2.2.2.2.1
theorem dX10_doubt_85 : decode cX10_doubt 85 = .ok (.pop, 1) := db116.2.2.2.2.2.2.2.2.2.2.2.2.2.2.2.2.2.2.1
theorem dX10_doubt_86 : decode cX10_doubt 86 = .ok (.iinc 5 1, 3) := db116.2.2.2.2.2.2.2.2.2.2.2.2.2.2.2.2.2.2.2.1
theorem dX10_doubt_89 : decode cX10_doubt 89 = .ok (.goto (-50), 3) := db116.2.2.2.2.2.2.2.2.2.2.2.2.2.2.2.2.2.2.2.2.1
theorem dX10_doubt_60 : decode cX10_doubt 60 = .ok (.iload 5, 2) := db116.2.2.2.2.2.2.2.2.2.2.2.2.2.2.2.2.2.2.2.2.2.1
theorem dX10_doubt_62 : decode cX10_doubt 62 = .ok (.ireturn, 1) := db116.2.2.2.2.2.2.2.2.2.2.2.2.2.2.2.2.2.2.2.2.2.2.1
theorem dX10_doubt_15 : decode cX10_doubt 15 = .ok (.iload_n 3, 1) := db116.2.2.2.2.2.2.2.2.2.2.2.2.2.2.2.2.2.2.2.2.2.2.2
theorem dX10_doubt_16 : decode cX10_doubt 16 = .ok (.ireturn, 1) := by decide +kernel
theorem db117 : (decode cX10_drawn 0 = .ok (.aload_n 0, 1)) ∧ (decode cX10_drawn 1 = .ok (.iload_n 2, 1)) ∧ (decode cX10_drawn 2 = .ok (.aload_n 0, 1)) ∧ (decode cX10_drawn 3 = .ok (.iload_n 1, 1)) ∧ (decode cX10_drawn 4 = .ok (.invokevirtual 308, 3)) ∧ (decode cX10_drawn 24 = .ok (.invokevirtual 186, 3)) ∧ (decode cX10_drawn 27 = .ok (.istore 4, 2)) ∧ (decode cX10_drawn 29 = .ok (.iload 4, 2)) ∧ (decode cX10_drawn 31 = .ok (.ifCond .eq 6, 3)) ∧ (decode cX10_drawn 37 = .ok (.aload_n 0, 1)) ∧ (decode cX10_drawn 38 = .ok (.getfield 79, 3)) ∧ (decode cX10_drawn 41 = .ok (.aload_n 0, 1)) ∧ (decode cX10_drawn 42 = .ok (.getfield 31, 3)) ∧ (decode cX10_drawn 45 = .ok (.getfield 98, 3)) ∧ (decode cX10_drawn 48 = .ok (.aload_n 0, 1)) ∧ (decode cX10_drawn 49 = .ok (.getfield 41, 3)) ∧ (decode cX10_drawn 52 = .ok (.iload_n 2, 1)) ∧ (decode cX10_drawn 53 = .ok (.aaload, 1)) ∧ (decode cX10_drawn 54 = .ok (.iload_n 1, 1)) ∧ (decode cX10_drawn 55 = .ok (.i2l, 1)) ∧ (decode cX10_drawn 56 = .ok (.invokevirtual 311, 3)) ∧ (decode cX10_drawn 59 = .ok (.iload_n 3, 1)) ∧ (decode cX10_drawn 60 = .ok (.ifCond .ne 13, 3)) ∧ (decode cX10_drawn 73 = .ok (.aload_n 0, 1)) := by decide +kernel
theorem dX10_drawn_0 : decode cX10_drawn 0 = .ok (.aload_n 0, 1) := db117.1
theorem dX10_drawn_1 : decode cX10_drawn 1 = .ok (.iload_n 2, 1) := db117.2.1
theorem dX10_drawn_2 : decode cX10_drawn 2 = .ok (.aload_n 0, 1) := db117.2.2.1
theorem dX10_drawn_3 : decode cX10_drawn 3 = .ok (.iload_n 1, 1) := db117.2.2.2.1
theorem dX10_drawn_4 : decode cX10_drawn 4 = .ok (.invokevirtual 308, 3) := db117.2.2.2.2.1
theorem dX10_drawn_24 : decode cX10_drawn 24 = .ok (.invokevirtual 186, 3) := db117.2.2.2.2.2.1
theorem dX10_drawn_27 : decode cX10_drawn 27 = .ok (.istore 4, 2) := db117.2.2.2.2.2.2.1
theorem dX10_drawn_29 : decode cX10_drawn 29 = .ok (.iload 4, 2) := db117.2.2.2.2.2.2.2.1
theorem dX10_drawn_31 : decode cX10_drawn 31 = .ok (.ifCond .eq 6, 3) := db117.2.2.2.2.2.2.2.2.1
theorem dX10_drawn_37 : decode cX10_drawn 37 = .ok (.aload_n 0, 1) := db117.2.2.2.2.2.2.2.2.2.1
theorem dX10_drawn_38 : decode cX10_drawn 38 = .ok (.getfield 79, 3) := db117.2.2.2.2.2.2.2.2.2.2.1
theorem dX10_drawn_41 : decode cX10_drawn 41 = .ok (.aload_n 0, 1) := db117.2.2.2.2.2.2.2.2.2.2.2.1
theorem dX10_drawn_42 : decode cX10_drawn 42 = .ok (.getfield 31, 3) := db117.2.2.2.2.2.2.2.2.2.2.2.2.1
theorem dX10_drawn_45 : decode cX10_drawn 45 = .ok (.getfield 98, 3) := db117.2.2.2.2.2.2.2.2.2.2.2.2.2.1
theorem dX10_drawn_48 : decode cX10_drawn 48 = .ok (.aload_n 0, 1) := db117.2.2.2.2.2.2.2.2.2.2.2.2.2.2.1
theorem dX10_drawn_49 : decode cX10_drawn 49 = .ok (.getfield 41, 3) := db117.2.2.2.2.2.2.2.2.2.2.2.2.2.2.2.1
theorem dX10_drawn_52 : decode cX10_drawn 52 = .ok (.iload_n 2, 1) := db117.2.2.2.2.2.2.2.2.2.2.2.2.2.2.2.2.1
theorem dX10_drawn_53 : decode cX10_drawn 53 = .ok (.aaload, 1) := db117.2.2.2.2.2.2.2.2.2.2.2.2.2.2.2.2.2.1
theorem dX10_drawn_54 : decode cX10_drawn 54 = .ok (.iload_n 1, 1) := db117.2.2.2.2.2.2.2.2.2.2.2.2.2.2.2.2.2.2.1
theorem dX10_drawn_55 : decode cX10_drawn 55 = .ok (.i2l, 1) := db117.2.2.2.2.2.2.2.2.2.2.2.2.2.2.2.2.2.2.2.1
theorem dX10_drawn_56 : decode cX10_drawn 56 = .ok (.invokevirtual 311, 3) := db117.2.2.2.2.2.2.2.2.2.2.2.2.2.2.2.2.2.2.2.2.1
theorem dX10_drawn_59 : decode cX10_drawn 59 = .ok (.iload_n 3, 1) := db117.2.2.2.2.2.2.2.2.2.2.2.2.2.2.2.2.2.2.2.2.2.1
theorem dX10_drawn_60 : decode cX10_drawn 60 = .ok (.ifCond .ne 13, 3) := db117.2.2.2.2.2.2.2.2.2.2.2.2.2.2.2.2.2.2.2.2.2.2.1
theorem dX10_drawn_73 : decode cX10_drawn 73 = .ok (.aload_n 0, 1) := db117.2.2.2.2.2.2.2.2.2.2.2.2.2.2.2.2.2.2.2.2.2.2.2
theorem db118 : (decode cX10_drawn 74 = .ok (.getfield 79, 3)) ∧ (decode cX10_drawn 77 = .ok (.getfield 318, 3)) ∧ (decode cX10_drawn 80 = .ok (.ireturn, 1)) ∧ (decode cX10_drawn 63 = .ok (.aload_n 0, 1)) ∧ (decode cX10_drawn 64 = .ok (.getfield 79, 3)) ∧ (decode cX10_drawn 67 = .ok (.getfield 315, 3)) ∧ (decode cX10_drawn 70 = .ok (.goto 10, 3)) ∧ (decode cX10_drawn 34 = .ok (.iload 4, 2)) ∧ (decode cX10_drawn 36 = .ok (.ireturn, 1)) ∧ (decode cX10_drawn 23 = .ok (.iconst 0, 1)) ∧ (decode cX10_drawn 7 = .ok (.ifCond .eq 16, 3)) ∧ (decode cX10_drawn 10 = .ok (.iload_n 3, 1)) ∧ (decode cX10_drawn 11 = .ok (.ifCond .lt 12, 3)) ∧ (decode cX10_drawn 14 = .ok (.iload_n 3, 1)) ∧ (decode cX10_drawn 15 = .ok (.iconst 1, 1)) ∧ (decode cX10_drawn 16 = .ok (.if_icmp .gt 7, 3)) ∧ (decode cX10_drawn 19 = .ok (.iconst 1, 1)) ∧ (decode cX10_drawn 20 = .ok (.goto 4, 3)) := by decide +kernel
theorem dX10_drawn_74 : decode cX10_drawn 74 = .ok (.getfield 79, 3) := db118.1
theorem dX10_drawn_77 : decode cX10_drawn 77 = .ok (.getfield 318, 3) := db118.2.1
theorem dX10_drawn_80 : decode cX10_drawn 80 = .ok (.ireturn, 1) := db118.2.2.1
theorem dX10_drawn_63 : decode cX10_drawn 63 = .ok (.aload_n 0, 1) := db118.2.2.2.1
theorem dX10_drawn_64 : decode cX10_drawn 64 = .ok (.getfield 79, 3) := db118.2.2.2.2.1
theorem dX10_drawn_67 : decode cX10_drawn 67 = .ok (.getfield 315, 3) := db118.2.2.2.2.2.1
theorem dX10_drawn_70 : decode cX10_drawn 70 = .ok (.goto 10, 3) := db118.2.2.2.2.2.2.1
theorem dX10_drawn_34 : decode cX10_drawn 34 = .ok (.iload 4, 2) := db118.2.2.2.2.2.2.2.1
theorem dX10_drawn_36 : decode cX10_drawn 36 = .ok (.ireturn, 1) := db118.2.2.2.2.2.2.2.2.1
theorem dX10_drawn_23 : decode cX10_drawn 23 = .ok (.iconst 0, 1) := db118.2.2.2.2.2.2.2.2.2.1
theorem dX10_drawn_7 : decode cX10_drawn 7 = .ok (.ifCond .eq 16, 3) := db118.2.2.2.2.2.2.2.2.2.2.1
theorem dX10_drawn_10 : decode cX10_drawn 10 = .ok (.iload_n 3, 1) := db118.2.2.2.2.2.2.2.2.2.2.2.1
theorem dX10_drawn_11 : decode cX10_drawn 11 = .ok (.ifCond .lt 12, 3) := db118.2.2.2.2.2.2.2.2.2.2.2.2.1
theorem dX10_drawn_14 : decode cX10_drawn 14 = .ok (.iload_n 3, 1) := db118.2.2.2.2.2.2.2.2.2.2.2.2.2.1
theorem dX10_drawn_15 : decode cX10_drawn 15 = .ok (.iconst 1, 1) := db118.2.2.2.2.2.2.2.2.2.2.2.2.2.2.1
theorem dX10_drawn_16 : decode cX10_drawn 16 = .ok (.if_icmp .gt 7, 3) := db118.2.2.2.2.2.2.2.2.2.2.2.2.2.2.2.1
theorem dX10_drawn_19 : decode cX10_drawn 19 = .ok (.iconst 1, 1) := db118.2.2.2.2.2.2.2.2.2.2.2.2.2.2.2.2.1
theorem dX10_drawn_20 : decode cX10_drawn 20 = .ok (.goto 4, 3) := db118.2.2.2.2.2.2.2.2.2.2.2.2.2.2.2.2.2
theorem db119 : (decode cX10_end 0 = .ok (.iload_n 1, 1)) ∧ (decode cX10_end 1 = .ok (.ifCond .lt 14, 3)) ∧ (decode cX10_end 15 = .ok (.iconst (-1), 1)) ∧ (decode cX10_end 16 = .ok (.ireturn, 1)) ∧ (decode cX10_end 4 = .ok (.iload_n 1, 1)) ∧ (decode cX10_end 5 = .ok (.aload_n 0, 1)) ∧ (decode cX10_end 6 = .ok (.getfield 20, 3)) ∧ (decode cX10_end 9 = .ok (.getfield 84, 3)) ∧ (decode cX10_end 12 = .ok (.if_icmp .le 5, 3)) ∧ (decode cX10_end 17 = .ok (.aload_n 0, 1)) ∧ (decode cX10_end 18 = .ok (.getfield 20, 3)) ∧ (decode cX10_end 21 = .ok (.iload_n 1, 1)) ∧ (decode cX10_end 22 = .ok (.putfield 84, 3)) ∧ (decode cX10_end 25 = .ok (.iload_n 1, 1)) ∧ (decode cX10_end 26 = .ok (.ireturn, 1)) := by decide +kernel
theorem dX10_end_0 : decode cX10_end 0 = .ok (.iload_n 1, 1) := db119.1
theorem dX10_end_1 : decode cX10_end 1 = .ok (.ifCond .lt 14, 3) := db119.2.1
theorem dX10_end_15 : decode cX10_end 15 = .ok (.iconst (-1), 1) := db119.2.2.1
theorem dX10_end_16 : decode cX10_end 16 = .ok (.ireturn, 1) := db119.2.2.2.1
theorem dX10_end_4 : decode cX10_end 4 = .ok (.iload_n 1, 1) := db119.2.2.2.2.1
theorem dX10_end_5 : decode cX10_end 5 = .ok (.aload_n 0, 1) := db119.2.2.2.2.2.1
theorem dX10_end_6 : decode cX10_end 6 = .ok (.getfield 20, 3) := db119.2.2.2.2.2.2.1
theorem dX10_end_9 : decode cX10_end 9 = .ok (.getfield 84, 3) := db119.2.2.2.2.2.2.2.1
theorem dX10_end_12 : decode cX10_end 12 = .ok (.if_icmp .le 5, 3) := db119.2.2.2.2.2.2.2.2.1
theorem dX10_end_17 : decode cX10_end 17 = .ok (.aload_n 0, 1) := db119.2.2.2.2.2.2.2.2.2.1
theorem dX10_end_18 : decode cX10_end 18 = .ok (.getfield 20, 3) := db119.2.2.2.2.2.2.2.2.2.2.1
theorem dX10_end_21 : decode cX10_end 21 = .ok (.iload_n 1, 1) := db119.2.2.2.2.2.2.2.2.2.2.2.1
theorem dX10_end_22 : decode cX10_end 22 = .ok (.putfield 84, 3) := db119.2.2.2.2.2.2.2.2.2.2.2.2.1
theorem dX10_end_25 : decode cX10_end 25 = .ok (.iload_n 1, 1) := db119.2.2.2.2.2.2.2.2.2.2.2.2.2.1
theorem dX10_end_26 : decode cX10_end 26 = .ok (.ireturn, 1) := db119.2.2.2.2.2.2.2.2.2.2.2.2.2.2
theorem db120 : (decode cX10_far 0 = .ok (.aload_n 0, 1)) ∧ (decode cX10_far 1 = .ok (.iload_n 1, 1)) ∧ (decode cX10_far 2 = .ok (.invokevirtual 120, 3)) ∧ (decode cX10_far 5 = .ok (.ifCond .eq 11, 3)) ∧ (decode cX10_far 16 = .ok (.bipush (-2), 2)) ∧ (decode cX10_far 18 = .ok (.ireturn, 1)) ∧ (decode cX10_far 8 = .ok (.aload_n 0, 1)) ∧ (decode cX10_far 9 = .ok (.iload_n 2, 1)) ∧ (decode cX10_far 10 = .ok (.invokevirtual 120, 3)) ∧ (decode cX10_far 13 = .ok (.ifCond .ne 6, 3)) ∧ (decode cX10_far 19 = .ok (.iconst 1, 1)) ∧ (decode cX10_far 20 = .ok (.iload_n 1, 1)) ∧ (decode cX10_far 21 = .ok (.ishl, 1)) ∧ (decode cX10_far 22 = .ok (.istore_n 3, 1)) ∧ (decode cX10_far 23 = .ok (.iconst 0, 1)) ∧ (decode cX10_far 24 = .ok (.istore 4, 2)) ∧ (decode cX10_far 26 = .ok (.iload 4, 2)) ∧ (decode cX10_far 28 = .ok (.bipush 7, 2)) ∧ (decode cX10_far 30 = .ok (.if_icmp .ge 32, 3)) ∧ (decode cX10_far 62 = .ok (.iconst (-1), 1)) ∧ (decode cX10_far 63 = .ok (.ireturn, 1)) ∧ (decode cX10_far 33 = .ok (.iload_n 3, 1)) ∧ (decode cX10_far 34 = .ok (.iload_n 2, 1)) ∧ (decode cX10_far 35 = .ok (.ishr, 1)) := by decide +kernel
theorem dX10_far_0 : decode cX10_far 0 = .ok (.aload_n 0, 1) := db120.1
theorem dX10_far_1 : decode cX10_far 1 = .ok (.iload_n 1, 1) := db120.2.1
theorem dX10_far_2 : decode cX10_far 2 = .ok (.invokevirtual 120, 3) := db120.2.2.1
theorem dX10_far_5 : decode cX10_far 5 = .ok (.ifCond .eq 11, 3) := db120.2.2.2.1
theorem dX10_far_16 : decode cX10_far 16 = .ok (.bipush (-2), 2) := db120.2.2.2.2.1
theorem dX10_far_18 : decode cX10_far 18 = .ok (.ireturn, 1) := db120.2.2.2.2.2.1
theorem dX10_far_8 : decode cX10_far 8 = .ok (.aload_n 0, 1) := db120.2.2.2.2.2.2.1
theorem dX10_far_9 : decode cX10_far 9 = .ok (.iload_n 2, 1) := db120.2.2.2.2.2.2.2.1
theorem dX10_far_10 : decode cX10_far 10 = .ok (.invokevirtual 120, 3) := db120.2.2.2.2.2.2.2.2.1
theorem dX10_far_13 : decode cX10_far 13 = .ok (.ifCond .ne 6, 3) := db120.2.2.2.2.2.2.2.2.2.1
theorem dX10_far_19 : decode cX10_far 19 = .ok (.iconst 1, 1) := db120.2.2.2.2.2.2.2.2.2.2.1
theorem dX10_far_20 : decode cX10_far 20 = .ok (.iload_n 1, 1) := db120.2.2.2.2.2.2.2.2.2.2.2.1
theorem dX10_far_21 : decode cX10_far 21 = .ok (.ishl, 1) := db120.2.2.2.2.2.2.2.2.2.2.2.2.1
theorem dX10_far_22 : decode cX10_far 22 = .ok (.istore_n 3, 1) := db120.2.2.2.2.2.2.2.2.2.2.2.2.2.1
theorem dX10_far_23 : decode cX10_far 23 = .ok (.iconst 0, 1) := db120.2.2.2.2.2.2.2.2.2.2.2.2.2.2.1
theorem dX10_far_24 : decode cX10_far 24 = .ok (.istore 4, 2) := db120.2.2.2.2.2.2.2.2.2.2.2.2.2.2.2.1
theorem dX10_far_26 : decode cX10_far 26 = .ok (.iload 4, 2) := db120.2.2.2.2.2.2.2.2.2.2.2.2.2.2.2.2.1
theorem dX10_far_28 : decode cX10_far 28 = .ok (.bipush 7, 2) := db120.2.2.2.2.2.2.2.2.2.2.2.2.2.2.2.2.2.1
theorem dX10_far_30 : decode cX10_far 30 = .ok (.if_icmp .ge 32, 3) := db120.2.2.2.2.2.2.2.2.2.2.2.2.2.2.2.2.2.2.1
theorem dX10_far_62 : decode cX10_far 62 = .ok (.iconst (-1), 1) := db120.2.2.2.2.2.2.2.2.2.2.2.2.2.2.2.2.2.2.2.1
theorem dX10_far_63 : decode cX10_far 63 = .ok (.ireturn, 1) := db120.2.2.2.2.2.2.2.2.2.2.2.2.2.2.2.2.2.2.2.2.1
theorem dX10_far_33 : decode cX10_far 33 = .ok (.iload_n 3, 1) := db120.2.2.2.2.2.2.2.2.2.2.2.2.2.2.2.2.2.2.2.2.2.1
theorem dX10_far_34 : decode cX10_far 34 = .ok (.iload_n 2, 1) := db120.2.2.2.2.2.2.2.2.2.2.2.2.2.2.2.2.2.2.2.2.2.2.1
theorem dX10_far_35 : decode cX10_far 35 = .ok (.ishr, 1) := db120.2.2.2.2.2.2.2.2.2.2.2.2.2.2.2.2.2.2.2.2.2.2.2
theorem db121 : (decode cX10_far 36 = .ok (.iconst 1, 1)) ∧ (decode cX10_far 37 = .ok (.iand, 1)) ∧ (decode cX10_far 38 = .ok (.ifCond .eq 6, 3)) ∧ (decode cX10_far 44 = .ok (.aload_n 0, 1)) ∧ (decode cX10_far 45 = .ok (.getfield 31, 3)) ∧ (decode cX10_far 48 = .ok (.getfield 98, 3)) ∧ (decode cX10_far 51 = .ok (.iload_n 3, 1)) ∧ (decode cX10_far 52 = .ok (.invokevirtual 229, 3)) ∧ (decode cX10_far 55 = .ok (.istore_n 3, 1)) ∧ (decode cX10_far 56 = .ok (.iinc 4 1, 3)) ∧ (decode cX10_far 59 = .ok (.goto (-33), 3)) ∧ (decode cX10_far 41 = .ok (.iload 4, 2)) ∧ (decode cX10_far 43 = .ok (.ireturn, 1)) := by decide +kernel
theorem dX10_far_36 : decode cX10_far 36 = .ok (.iconst 1, 1) := db121.1
theorem dX10_far_37 : decode cX10_far 37 = .ok (.iand, 1) := db121.2.1
theorem dX10_far_38 : decode cX10_far 38 = .ok (.ifCond .eq 6, 3) := db121.2.2.1
theorem dX10_far_44 : decode cX10_far 44 = .ok (.aload_n 0, 1) := db121.2.2.2.1
theorem dX10_far_45 : decode cX10_far 45 = .ok (.getfield 31, 3) := db121.2.2.2.2.1
theorem dX10_far_48 : decode cX10_far 48 = .ok (.getfield 98, 3) := db121.2.2.2.2.2.1
theorem dX10_far_51 : decode cX10_far 51 = .ok (.iload_n 3, 1) := db121.2.2.2.2.2.2.1
theorem dX10_far_52 : decode cX10_far 52 = .ok (.invokevirtual 229, 3) := db121.2.2.2.2.2.2.2.1
theorem dX10_far_55 : decode cX10_far 55 = .ok (.istore_n 3, 1) := db121.2.2.2.2.2.2.2.2.1
theorem dX10_far_56 : decode cX10_far 56 = .ok (.iinc 4 1, 3) := db121.2.2.2.2.2.2.2.2.2.1
theorem dX10_far_59 : decode cX10_far 59 = .ok (.goto (-33), 3) := db121.2.2.2.2.2.2.2.2.2.2.1
theorem dX10_far_41 : decode cX10_far 41 = .ok (.iload 4, 2) := db121.2.2.2.2.2.2.2.2.2.2.2.1
theorem dX10_far_43 : decode cX10_far 43 = .ok (.ireturn, 1) := db121.2.2.2.2.2.2.2.2.2.2.2.2
theorem db122 : (decode cX10_fault 0 = .ok (.iload_n 1, 1)) ∧ (decode cX10_fault 1 = .ok (.lookupswitch 43 #[(0, 27), (1, 35)], 27)) ∧ (decode cX10_fault 44 = .ok (.iconst (-1), 1)) ∧ (decode cX10_fault 45 = .ok (.ireturn, 1)) ∧ (decode cX10_fault 28 = .ok (.aload_n 0, 1)) ∧ (decode cX10_fault 29 = .ok (.getfield 10, 3)) ∧ (decode cX10_fault 32 = .ok (.getfield 114, 3)) ∧ (decode cX10_fault 35 = .ok (.ireturn, 1)) ∧ (decode cX10_fault 36 = .ok (.aload_n 0, 1)) ∧ (decode cX10_fault 37 = .ok (.getfield 10, 3)) ∧ (decode cX10_fault 40 = .ok (.getfield 117, 3)) ∧ (decode cX10_fault 43 = .ok (.ireturn, 1)) := by decide +kernel
theorem dX10_fault_0 : decode cX10_fault 0 = .ok (.iload_n 1, 1) := db122.1
theorem dX10_fault_1 : decode cX10_fault 1 = .ok (.lookupswitch 43 #[(0, 27), (1, 35)], 27) := db122.2.1
theorem dX10_fault_44 : decode cX10_fault 44 = .ok (.iconst (-1), 1) := db122.2.2.1
theorem dX10_fault_45 : decode cX10_fault 45 = .ok (.ireturn, 1) := db122.2.2.2.1
theorem dX10_fault_28 : decode cX10_fault 28 = .ok (.aload_n 0, 1) := db122.2.2.2.2.1
theorem dX10_fault_29 : decode cX10_fault 29 = .ok (.getfield 10, 3) := db122.2.2.2.2.2.1
theorem dX10_fault_32 : decode cX10_fault 32 = .ok (.getfield 114, 3) := db122.2.2.2.2.2.2.1
theorem dX10_fault_35 : decode cX10_fault 35 = .ok (.ireturn, 1) := db122.2.2.2.2.2.2.2.1
theorem dX10_fault_36 : decode cX10_fault 36 = .ok (.aload_n 0, 1) := db122.2.2.2.2.2.2.2.2.1
theorem dX10_fault_37 : decode cX10_fault 37 = .ok (.getfield 10, 3) := db122.2.2.2.2.2.2.2.2.2.1
theorem dX10_fault_40 : decode cX10_fault 40 = .ok (.getfield 117, 3) := db122.2.2.2.2.2.2.2.2.2.2.1
theorem dX10_fault_43 : decode cX10_fault 43 = .ok (.ireturn, 1) := db122.2.2.2.2.2.2.2.2.2.2.2
theorem db123 : (decode cX10_feed 0 = .ok (.aload_n 0, 1)) ∧ (decode cX10_feed 1 = .ok (.getfield 20, 3)) ∧ (decode cX10_feed 4 = .ok (.getfield 84, 3)) ∧ (decode cX10_feed 7 = .ok (.bipush 20, 2)) ∧ (decode cX10_feed 9 = .ok (.iadd, 1)) ∧ (decode cX10_feed 10 = .ok (.sipush 900, 3)) ∧ (decode cX10_feed 13 = .ok (.if_icmp .le 5, 3)) ∧ (decode cX10_feed 18 = .ok (.aload_n 0, 1)) ∧ (decode cX10_feed 19 = .ok (.getfield 20, 3)) ∧ (decode cX10_feed 22 = .ok (.iload_n 1, 1)) ∧ (decode cX10_feed 23 = .ok (.invokevirtual 90, 3)) ∧ (decode cX10_feed 26 = .ok (.aload_n 0, 1)) ∧ (decode cX10_feed 27 = .ok (.getfield 20, 3)) ∧ (decode cX10_feed 30 = .ok (.iload_n 2, 1)) ∧ (decode cX10_feed 31 = .ok (.invokevirtual 90, 3)) ∧ (decode cX10_feed 34 = .ok (.aload_n 0, 1)) ∧ (decode cX10_feed 35 = .ok (.getfield 20, 3)) ∧ (decode cX10_feed 38 = .ok (.iload_n 3, 1)) ∧ (decode cX10_feed 39 = .ok (.invokevirtual 90, 3)) ∧ (decode cX10_feed 42 = .ok (.aload_n 0, 1)) ∧ (decode cX10_feed 43 = .ok (.getfield 20, 3)) ∧ (decode cX10_feed 46 = .ok (.iload 4, 2)) ∧ (decode cX10_feed 48 = .ok (.invokevirtual 90, 3)) ∧ (decode cX10_feed 51 = .ok (.aload_n 0, 1)) := by decide +kernel
theorem dX10_feed_0 : decode cX10_feed 0 = .ok (.aload_n 0, 1) := db123.1
theorem dX10_feed_1 : decode cX10_feed 1 = .ok (.getfield 20, 3) := db123.2.1
theorem dX10_feed_4 : decode cX10_feed 4 = .ok (.getfield 84, 3) := db123.2.2.1
theorem dX10_feed_7 : decode cX10_feed 7 = .ok (.bipush 20, 2) := db123.2.2.2.1
theorem dX10_feed_9 : decode cX10_feed 9 = .ok (.iadd, 1) := db123.2.2.2.2.1
theorem dX10_feed_10 : decode cX10_feed 10 = .ok (.sipush 900, 3) := db123.2.2.2.2.2.1
theorem dX10_feed_13 : decode cX10_feed 13 = .ok (.if_icmp .le 5, 3) := db123.2.2.2.2.2.2.1
theorem dX10_feed_18 : decode cX10_feed 18 = .ok (.aload_n 0, 1) := db123.2.2.2.2.2.2.2.1
theorem dX10_feed_19 : decode cX10_feed 19 = .ok (.getfield 20, 3) := db123.2.2.2.2.2.2.2.2.1
theorem dX10_feed_22 : decode cX10_feed 22 = .ok (.iload_n 1, 1) := db123.2.2.2.2.2.2.2.2.2.1
theorem dX10_feed_23 : decode cX10_feed 23 = .ok (.invokevirtual 90, 3) := db123.2.2.2.2.2.2.2.2.2.2.1
theorem dX10_feed_26 : decode cX10_feed 26 = .ok (.aload_n 0, 1) := db123.2.2.2.2.2.2.2.2.2.2.2.1
theorem dX10_feed_27 : decode cX10_feed 27 = .ok (.getfield 20, 3) := db123.2.2.2.2.2.2.2.2.2.2.2.2.1
theorem dX10_feed_30 : decode cX10_feed 30 = .ok (.iload_n 2, 1) := db123.2.2.2.2.2.2.2.2.2.2.2.2.2.1
theorem dX10_feed_31 : decode cX10_feed 31 = .ok (.invokevirtual 90, 3) := db123.2.2.2.2.2.2.2.2.2.2.2.2.2.2.1
theorem dX10_feed_34 : decode cX10_feed 34 = .ok (.aload_n 0, 1) := db123.2.2.2.2.2.2.2.2.2.2.2.2.2.2.2.1
theorem dX10_feed_35 : decode cX10_feed 35 = .ok (.getfield 20, 3) := db123.2.2.2.2.2.2.2.2.2.2.2.2.2.2.2.2.1
theorem dX10_feed_38 : decode cX10_feed 38 = .ok (.iload_n 3, 1) := db123.2.2.2.2.2.2.2.2.2.2.2.2.2.2.2.2.2.1
theorem dX10_feed_39 : decode cX10_feed 39 = .ok (.invokevirtual 90, 3) := db123.2.2.2.2.2.2.2.2.2.2.2.2.2.2.2.2.2.2.1
theorem dX10_feed_42 : decode cX10_feed 42 = .ok (.aload_n 0, 1) := db123.2.2.2.2.2.2.2.2.2.2.2.2.2.2.2.2.2.2.2.1
theorem dX10_feed_43 : decode cX10_feed 43 = .ok (.getfield 20, 3) := db123.2.2.2.2.2.2.2.2.2.2.2.2.2.2.2.2.2.2.2.2.1
theorem dX10_feed_46 : decode cX10_feed 46 = .ok (.iload 4, 2) := db123.2.2.2.2.2.2.2.2.2.2.2.2.2.2.2.2.2.2.2.2.2.1
theorem dX10_feed_48 : decode cX10_feed 48 = .ok (.invokevirtual 90, 3) := db123.2.2.2.2.2.2.2.2.2.2.2.2.2.2.2.2.2.2.2.2.2.2.1
theorem dX10_feed_51 : decode cX10_feed 51 = .ok (.aload_n 0, 1) := db123.2.2.2.2.2.2.2.2.2.2.2.2.2.2.2.2.2.2.2.2.2.2.2
theorem db124 : (decode cX10_feed 52 = .ok (.getfield 20, 3)) ∧ (decode cX10_feed 55 = .ok (.iload 5, 2)) ∧ (decode cX10_feed 57 = .ok (.invokevirtual 90, 3)) ∧ (decode cX10_feed 60 = .ok (.aload_n 0, 1)) ∧ (decode cX10_feed 61 = .ok (.getfield 20, 3)) ∧ (decode cX10_feed 64 = .ok (.getfield 84, 3)) ∧ (decode cX10_feed 67 = .ok (.ireturn, 1)) ∧ (decode cX10_feed 16 = .ok (.iconst (-1), 1)) ∧ (decode cX10_feed 17 = .ok (.ireturn, 1)) := by decide +kernel
theorem dX10_feed_52 : decode cX10_feed 52 = .ok (.getfield 20, 3) := db124.1
theorem dX10_feed_55 : decode cX10_feed 55 = .ok (.iload 5, 2) := db124.2.1
theorem dX10_feed_57 : decode cX10_feed 57 = .ok (.invokevirtual 90, 3) := db124.2.2.1
theorem dX10_feed_60 : decode cX10_feed 60 = .ok (.aload_n 0, 1) := db124.2.2.2.1
theorem dX10_feed_61 : decode cX10_feed 61 = .ok (.getfield 20, 3) := db124.2.2.2.2.1
theorem dX10_feed_64 : decode cX10_feed 64 = .ok (.getfield 84, 3) := db124.2.2.2.2.2.1
theorem dX10_feed_67 : decode cX10_feed 67 = .ok (.ireturn, 1) := db124.2.2.2.2.2.2.1
theorem dX10_feed_16 : decode cX10_feed 16 = .ok (.iconst (-1), 1) := db124.2.2.2.2.2.2.2.1
theorem dX10_feed_17 : decode cX10_feed 17 = .ok (.ireturn, 1) := db124.2.2.2.2.2.2.2.2
theorem db125 : (decode cX10_follows 0 = .ok (.aload_n 0, 1)) ∧ (decode cX10_follows 1 = .ok (.iload_n 1, 1)) ∧ (decode cX10_follows 2 = .ok (.aload_n 0, 1)) ∧ (decode cX10_follows 3 = .ok (.iload_n 2, 1)) ∧ (decode cX10_follows 4 = .ok (.invokevirtual 120, 3)) ∧ (decode cX10_follows 7 = .ok (.invokevirtual 299, 3)) ∧ (decode cX10_follows 10 = .ok (.istore_n 3, 1)) ∧ (decode cX10_follows 11 = .ok (.iload_n 3, 1)) ∧ (decode cX10_follows 12 = .ok (.ifCond .eq 5, 3)) ∧ (decode cX10_follows 17 = .ok (.aload_n 0, 1)) ∧ (decode cX10_follows 18 = .ok (.aload_n 0, 1)) ∧ (decode cX10_follows 19 = .ok (.getfield 41, 3)) ∧ (decode cX10_follows 22 = .ok (.iload_n 1, 1)) ∧ (decode cX10_follows 23 = .ok (.aaload, 1)) ∧ (decode cX10_follows 24 = .ok (.iload_n 2, 1)) ∧ (decode cX10_follows 25 = .ok (.invokevirtual 302, 3)) ∧ (decode cX10_follows 28 = .ok (.ireturn, 1)) ∧ (decode cX10_follows 15 = .ok (.iload_n 3, 1)) ∧ (decode cX10_follows 16 = .ok (.ireturn, 1)) := by decide +kernel
theorem dX10_follows_0 : decode cX10_follows 0 = .ok (.aload_n 0, 1) := db125.1
theorem dX10_follows_1 : decode cX10_follows 1 = .ok (.iload_n 1, 1) := db125.2.1
theorem dX10_follows_2 : decode cX10_follows 2 = .ok (.aload_n 0, 1) := db125.2.2.1
theorem dX10_follows_3 : decode cX10_follows 3 = .ok (.iload_n 2, 1) := db125.2.2.2.1
theorem dX10_follows_4 : decode cX10_follows 4 = .ok (.invokevirtual 120, 3) := db125.2.2.2.2.1
theorem dX10_follows_7 : decode cX10_follows 7 = .ok (.invokevirtual 299, 3) := db125.2.2.2.2.2.1
theorem dX10_follows_10 : decode cX10_follows 10 = .ok (.istore_n 3, 1) := db125.2.2.2.2.2.2.1
theorem dX10_follows_11 : decode cX10_follows 11 = .ok (.iload_n 3, 1) := db125.2.2.2.2.2.2.2.1
theorem dX10_follows_12 : decode cX10_follows 12 = .ok (.ifCond .eq 5, 3) := db125.2.2.2.2.2.2.2.2.1
theorem dX10_follows_17 : decode cX10_follows 17 = .ok (.aload_n 0, 1) := db125.2.2.2.2.2.2.2.2.2.1
theorem dX10_follows_18 : decode cX10_follows 18 = .ok (.aload_n 0, 1) := db125.2.2.2.2.2.2.2.2.2.2.1
theorem dX10_follows_19 : decode cX10_follows 19 = .ok (.getfield 41, 3) := db125.2.2.2.2.2.2.2.2.2.2.2.1
theorem dX10_follows_22 : decode cX10_follows 22 = .ok (.iload_n 1, 1) := db125.2.2.2.2.2.2.2.2.2.2.2.2.1
theorem dX10_follows_23 : decode cX10_follows 23 = .ok (.aaload, 1) := db125.2.2.2.2.2.2.2.2.2.2.2.2.2.1
theorem dX10_follows_24 : decode cX10_follows 24 = .ok (.iload_n 2, 1) := db125.2.2.2.2.2.2.2.2.2.2.2.2.2.2.1
theorem dX10_follows_25 : decode cX10_follows 25 = .ok (.invokevirtual 302, 3) := db125.2.2.2.2.2.2.2.2.2.2.2.2.2.2.2.1
theorem dX10_follows_28 : decode cX10_follows 28 = .ok (.ireturn, 1) := db125.2.2.2.2.2.2.2.2.2.2.2.2.2.2.2.2.1
theorem dX10_follows_15 : decode cX10_follows 15 = .ok (.iload_n 3, 1) := db125.2.2.2.2.2.2.2.2.2.2.2.2.2.2.2.2.2.1
theorem dX10_follows_16 : decode cX10_follows 16 = .ok (.ireturn, 1) := db125.2.2.2.2.2.2.2.2.2.2.2.2.2.2.2.2.2.2
theorem db126 : (decode cX10_found 0 = .ok (.aload_n 0, 1)) ∧ (decode cX10_found 1 = .ok (.invokevirtual 152, 3)) ∧ (decode cX10_found 4 = .ok (.ifCond .eq 13, 3)) ∧ (decode cX10_found 17 = .ok (.bipush (-2), 2)) ∧ (decode cX10_found 19 = .ok (.ireturn, 1)) ∧ (decode cX10_found 7 = .ok (.aload_n 0, 1)) ∧ (decode cX10_found 8 = .ok (.getfield 48, 3)) ∧ (decode cX10_found 11 = .ok (.getfield 156, 3)) ∧ (decode cX10_found 14 = .ok (.goto 5, 3)) := by decide +kernel
theorem dX10_found_0 : decode cX10_found 0 = .ok (.aload_n 0, 1) := db126.1
theorem dX10_found_1 : decode cX10_found 1 = .ok (.invokevirtual 152, 3) := db126.2.1
theorem dX10_found_4 : decode cX10_found 4 = .ok (.ifCond .eq 13, 3) := db126.2.2.1
theorem dX10_found_17 : decode cX10_found 17 = .ok (.bipush (-2), 2) := db126.2.2.2.1
theorem dX10_found_19 : decode cX10_found 19 = .ok (.ireturn, 1) := db126.2.2.2.2.1
theorem dX10_found_7 : decode cX10_found 7 = .ok (.aload_n 0, 1) := db126.2.2.2.2.2.1
theorem dX10_found_8 : decode cX10_found 8 = .ok (.getfield 48, 3) := db126.2.2.2.2.2.2.1
theorem dX10_found_11 : decode cX10_found 11 = .ok (.getfield 156, 3) := db126.2.2.2.2.2.2.2.1
theorem dX10_found_14 : decode cX10_found 14 = .ok (.goto 5, 3) := db126.2.2.2.2.2.2.2.2
theorem db127 : (decode cX10_foundAtOnce 0 = .ok (.iconst 0, 1)) ∧ (decode cX10_foundAtOnce 1 = .ok (.istore_n 2, 1)) ∧ (decode cX10_foundAtOnce 2 = .ok (.iconst 0, 1)) ∧ (decode cX10_foundAtOnce 3 = .ok (.istore_n 3, 1)) ∧ (decode cX10_foundAtOnce 4 = .ok (.iload_n 3, 1)) ∧ (decode cX10_foundAtOnce 5 = .ok (.aload_n 0, 1)) ∧ (decode cX10_foundAtOnce 6 = .ok (.getfield 31, 3)) ∧ (decode cX10_foundAtOnce 9 = .ok (.getfield 98, 3)) ∧ (decode cX10_foundAtOnce 12 = .ok (.getfield 159, 3)) ∧ (decode cX10_foundAtOnce 15 = .ok (.if_icmp .ge 36, 3)) ∧ (decode cX10_foundAtOnce 51 = .ok (.iload_n 2, 1)) ∧ (decode cX10_foundAtOnce 52 = .ok (.ireturn, 1)) ∧ (decode cX10_foundAtOnce 18 = .ok (.iload_n 1, 1)) ∧ (decode cX10_foundAtOnce 19 = .ok (.iload_n 3, 1)) ∧ (decode cX10_foundAtOnce 20 = .ok (.ishr, 1)) ∧ (decode cX10_foundAtOnce 21 = .ok (.iconst 1, 1)) ∧ (decode cX10_foundAtOnce 22 = .ok (.iand, 1)) ∧ (decode cX10_foundAtOnce 45 = .ok (.iinc 3 1, 3)) ∧ (decode cX10_foundAtOnce 48 = .ok (.goto (-44), 3)) ∧ (decode cX10_foundAtOnce 23 = .ok (.ifCond .eq 22, 3)) ∧ (decode cX10_foundAtOnce 26 = .ok (.iload_n 2, 1)) ∧ (decode cX10_foundAtOnce 27 = .ok (.aload_n 0, 1)) ∧ (decode cX10_foundAtOnce 28 = .ok (.getfield 48, 3)) ∧ (decode cX10_foundAtOnce 31 = .ok (.aload_n 0, 1)) := by decide +kernel
theorem dX10_foundAtOnce_0 : decode cX10_foundAtOnce 0 = .ok (.iconst 0, 1) := db127.1
theorem dX10_foundAtOnce_1 : decode cX10_foundAtOnce 1 = .ok (.istore_n 2, 1) := db127.2.1
theorem dX10_foundAtOnce_2 : decode cX10_foundAtOnce 2 = .ok (.iconst 0, 1) := db127.2.2.1
theorem dX10_foundAtOnce_3 : decode cX10_foundAtOnce 3 = .ok (.istore_n 3, 1) := db127.2.2.2.1
theorem dX10_foundAtOnce_4 : decode cX10_foundAtOnce 4 = .ok (.iload_n 3, 1) := db127.2.2.2.2.1
theorem dX10_foundAtOnce_5 : decode cX10_foundAtOnce 5 = .ok (.aload_n 0, 1) := db127.2.2.2.2.2.1
theorem dX10_foundAtOnce_6 : decode cX10_foundAtOnce 6 = .ok (.getfield 31, 3) := db127.2.2.2.2.2.2.1
theorem dX10_foundAtOnce_9 : decode cX10_foundAtOnce 9 = .ok (.getfield 98, 3) := db127.2.2.2.2.2.2.2.1
theorem dX10_foundAtOnce_12 : decode cX10_foundAtOnce 12 = .ok (.getfield 159, 3) := db127.2.2.2.2.2.2.2.2.1
theorem dX10_foundAtOnce_15 : decode cX10_foundAtOnce 15 = .ok (.if_icmp .ge 36, 3) := db127.2.2.2.2.2.2.2.2.2.1
theorem dX10_foundAtOnce_51 : decode cX10_foundAtOnce 51 = .ok (.iload_n 2, 1) := db127.2.2.2.2.2.2.2.2.2.2.1
theorem dX10_foundAtOnce_52 : decode cX10_foundAtOnce 52 = .ok (.ireturn, 1) := db127.2.2.2.2.2.2.2.2.2.2.2.1
theorem dX10_foundAtOnce_18 : decode cX10_foundAtOnce 18 = .ok (.iload_n 1, 1) := db127.2.2.2.2.2.2.2.2.2.2.2.2.1
theorem dX10_foundAtOnce_19 : decode cX10_foundAtOnce 19 = .ok (.iload_n 3, 1) := db127.2.2.2.2.2.2.2.2.2.2.2.2.2.1
theorem dX10_foundAtOnce_20 : decode cX10_foundAtOnce 20 = .ok (.ishr, 1) := db127.2.2.2.2.2.2.2.2.2.2.2.2.2.2.1
theorem dX10_foundAtOnce_21 : decode cX10_foundAtOnce 21 = .ok (.iconst 1, 1) := db127.2.2.2.2.2.2.2.2.2.2.2.2.2.2.2.1
theorem dX10_foundAtOnce_22 : decode cX10_foundAtOnce 22 = .ok (.iand, 1) := db127.2.2.2.2.2.2.2.2.2.2.2.2.2.2.2.2.1
theorem dX10_foundAtOnce_45 : decode cX10_foundAtOnce 45 = .ok (.iinc 3 1, 3) := db127.2.2.2.2.2.2.2.2.2.2.2.2.2.2.2.2.2.1
theorem dX10_foundAtOnce_48 : decode cX10_foundAtOnce 48 = .ok (.goto (-44), 3) := db127.2.2.2.2.2.2.2.2.2.2.2.2.2.2.2.2.2.2.1
theorem dX10_foundAtOnce_23 : decode cX10_foundAtOnce 23 = .ok (.ifCond .eq 22, 3) := db127.2.2.2.2.2.2.2.2.2.2.2.2.2.2.2.2.2.2.2.1
theorem dX10_foundAtOnce_26 : decode cX10_foundAtOnce 26 = .ok (.iload_n 2, 1) := db127.2.2.2.2.2.2.2.2.2.2.2.2.2.2.2.2.2.2.2.2.1
theorem dX10_foundAtOnce_27 : decode cX10_foundAtOnce 27 = .ok (.aload_n 0, 1) := db127.2.2.2.2.2.2.2.2.2.2.2.2.2.2.2.2.2.2.2.2.2.1
theorem dX10_foundAtOnce_28 : decode cX10_foundAtOnce 28 = .ok (.getfield 48, 3) := db127.2.2.2.2.2.2.2.2.2.2.2.2.2.2.2.2.2.2.2.2.2.2.1
theorem dX10_foundAtOnce_31 : decode cX10_foundAtOnce 31 = .ok (.aload_n 0, 1) := db127.2.2.2.2.2.2.2.2.2.2.2.2.2.2.2.2.2.2.2.2.2.2.2
theorem db128 : (decode cX10_foundAtOnce 32 = .ok (.getfield 31, 3)) ∧ (decode cX10_foundAtOnce 35 = .ok (.getfield 98, 3)) ∧ (decode cX10_foundAtOnce 38 = .ok (.iload_n 3, 1)) ∧ (decode cX10_foundAtOnce 39 = .ok (.iconst 0, 1)) ∧ (decode cX10_foundAtOnce 40 = .ok (.invokevirtual 399, 3)) ∧ (decode cX10_foundAtOnce 43 = .ok (.iadd, 1)) ∧ (decode cX10_foundAtOnce 44 = .ok (.istore_n 2, 1)) := by decide +kernel
theorem dX10_foundAtOnce_32 : decode cX10_foundAtOnce 32 = .ok (.getfield 31, 3) := db128.1
theorem dX10_foundAtOnce_35 : decode cX10_foundAtOnce 35 = .ok (.getfield 98, 3) := db128.2.1
theorem dX10_foundAtOnce_38 : decode cX10_foundAtOnce 38 = .ok (.iload_n 3, 1) := db128.2.2.1
theorem dX10_foundAtOnce_39 : decode cX10_foundAtOnce 39 = .ok (.iconst 0, 1) := db128.2.2.2.1
theorem dX10_foundAtOnce_40 : decode cX10_foundAtOnce 40 = .ok (.invokevirtual 399, 3) := db128.2.2.2.2.1
theorem dX10_foundAtOnce_43 : decode cX10_foundAtOnce 43 = .ok (.iadd, 1) := db128.2.2.2.2.2.1
theorem dX10_foundAtOnce_44 : decode cX10_foundAtOnce 44 = .ok (.istore_n 2, 1) := db128.2.2.2.2.2.2
theorem db129 : (decode cX10_foundIn 0 = .ok (.aload_n 0, 1)) ∧ (decode cX10_foundIn 1 = .ok (.getfield 52, 3)) ∧ (decode cX10_foundIn 4 = .ok (.aload_n 0, 1)) ∧ (decode cX10_foundIn 5 = .ok (.getfield 48, 3)) ∧ (decode cX10_foundIn 8 = .ok (.invokevirtual 179, 3)) ∧ (decode cX10_foundIn 11 = .ok (.iconst 0, 1)) ∧ (decode cX10_foundIn 12 = .ok (.istore_n 3, 1)) ∧ (decode cX10_foundIn 13 = .ok (.iload_n 3, 1)) ∧ (decode cX10_foundIn 14 = .ok (.aload_n 1, 1)) ∧ (decode cX10_foundIn 15 = .ok (.getfield 194, 3)) ∧ (decode cX10_foundIn 18 = .ok (.if_icmp .ge 30, 3)) ∧ (decode cX10_foundIn 48 = .ok (.aload_n 0, 1)) ∧ (decode cX10_foundIn 49 = .ok (.getfield 52, 3)) ∧ (decode cX10_foundIn 52 = .ok (.getfield 156, 3)) ∧ (decode cX10_foundIn 55 = .ok (.aload_n 0, 1)) ∧ (decode cX10_foundIn 56 = .ok (.getfield 48, 3)) ∧ (decode cX10_foundIn 59 = .ok (.getfield 156, 3)) ∧ (decode cX10_foundIn 62 = .ok (.isub, 1)) ∧ (decode cX10_foundIn 63 = .ok (.ireturn, 1)) ∧ (decode cX10_foundIn 21 = .ok (.aload_n 0, 1)) ∧ (decode cX10_foundIn 22 = .ok (.getfield 52, 3)) ∧ (decode cX10_foundIn 25 = .ok (.aload_n 0, 1)) ∧ (decode cX10_foundIn 26 = .ok (.getfield 31, 3)) ∧ (decode cX10_foundIn 29 = .ok (.getfield 98, 3)) := by decide +kernel
theorem dX10_foundIn_0 : decode cX10_foundIn 0 = .ok (.aload_n 0, 1) := db129.1
theorem dX10_foundIn_1 : decode cX10_foundIn 1 = .ok (.getfield 52, 3) := db129.2.1
theorem dX10_foundIn_4 : decode cX10_foundIn 4 = .ok (.aload_n 0, 1) := db129.2.2.1
theorem dX10_foundIn_5 : decode cX10_foundIn 5 = .ok (.getfield 48, 3) := db129.2.2.2.1
theorem dX10_foundIn_8 : decode cX10_foundIn 8 = .ok (.invokevirtual 179, 3) := db129.2.2.2.2.1
theorem dX10_foundIn_11 : decode cX10_foundIn 11 = .ok (.iconst 0, 1) := db129.2.2.2.2.2.1
theorem dX10_foundIn_12 : decode cX10_foundIn 12 = .ok (.istore_n 3, 1) := db129.2.2.2.2.2.2.1
theorem dX10_foundIn_13 : decode cX10_foundIn 13 = .ok (.iload_n 3, 1) := db129.2.2.2.2.2.2.2.1
theorem dX10_foundIn_14 : decode cX10_foundIn 14 = .ok (.aload_n 1, 1) := db129.2.2.2.2.2.2.2.2.1
theorem dX10_foundIn_15 : decode cX10_foundIn 15 = .ok (.getfield 194, 3) := db129.2.2.2.2.2.2.2.2.2.1
theorem dX10_foundIn_18 : decode cX10_foundIn 18 = .ok (.if_icmp .ge 30, 3) := db129.2.2.2.2.2.2.2.2.2.2.1
theorem dX10_foundIn_48 : decode cX10_foundIn 48 = .ok (.aload_n 0, 1) := db129.2.2.2.2.2.2.2.2.2.2.2.1
theorem dX10_foundIn_49 : decode cX10_foundIn 49 = .ok (.getfield 52, 3) := db129.2.2.2.2.2.2.2.2.2.2.2.2.1
theorem dX10_foundIn_52 : decode cX10_foundIn 52 = .ok (.getfield 156, 3) := db129.2.2.2.2.2.2.2.2.2.2.2.2.2.1
theorem dX10_foundIn_55 : decode cX10_foundIn 55 = .ok (.aload_n 0, 1) := db129.2.2.2.2.2.2.2.2.2.2.2.2.2.2.1
theorem dX10_foundIn_56 : decode cX10_foundIn 56 = .ok (.getfield 48, 3) := db129.2.2.2.2.2.2.2.2.2.2.2.2.2.2.2.1
theorem dX10_foundIn_59 : decode cX10_foundIn 59 = .ok (.getfield 156, 3) := db129.2.2.2.2.2.2.2.2.2.2.2.2.2.2.2.2.1
theorem dX10_foundIn_62 : decode cX10_foundIn 62 = .ok (.isub, 1) := db129.2.2.2.2.2.2.2.2.2.2.2.2.2.2.2.2.2.1
theorem dX10_foundIn_63 : decode cX10_foundIn 63 = .ok (.ireturn, 1) := db129.2.2.2.2.2.2.2.2.2.2.2.2.2.2.2.2.2.2.1
theorem dX10_foundIn_21 : decode cX10_foundIn 21 = .ok (.aload_n 0, 1) := db129.2.2.2.2.2.2.2.2.2.2.2.2.2.2.2.2.2.2.2.1
theorem dX10_foundIn_22 : decode cX10_foundIn 22 = .ok (.getfield 52, 3) := db129.2.2.2.2.2.2.2.2.2.2.2.2.2.2.2.2.2.2.2.2.1
theorem dX10_foundIn_25 : decode cX10_foundIn 25 = .ok (.aload_n 0, 1) := db129.2.2.2.2.2.2.2.2.2.2.2.2.2.2.2.2.2.2.2.2.2.1
theorem dX10_foundIn_26 : decode cX10_foundIn 26 = .ok (.getfield 31, 3) := db129.2.2.2.2.2.2.2.2.2.2.2.2.2.2.2.2.2.2.2.2.2.2.1
theorem dX10_foundIn_29 : decode cX10_foundIn 29 = .ok (.getfield 98, 3) := db129.2.2.2.2.2.2.2.2.2.2.2.2.2.2.2.2.2.2.2.2.2.2.2
theorem db130 : (decode cX10_foundIn 32 = .ok (.aload_n 1, 1)) ∧ (decode cX10_foundIn 33 = .ok (.iload_n 3, 1)) ∧ (decode cX10_foundIn 34 = .ok (.invokevirtual 195, 3)) ∧ (decode cX10_foundIn 37 = .ok (.iload_n 2, 1)) ∧ (decode cX10_foundIn 38 = .ok (.invokevirtual 175, 3)) ∧ (decode cX10_foundIn 41 = .ok (.pop, 1)) ∧ (decode cX10_foundIn 42 = .ok (.iinc 3 1, 3)) ∧ (decode cX10_foundIn 45 = .ok (.goto (-32), 3)) := by decide +kernel
theorem dX10_foundIn_32 : decode cX10_foundIn 32 = .ok (.aload_n 1, 1) := db130.1
theorem dX10_foundIn_33 : decode cX10_foundIn 33 = .ok (.iload_n 3, 1) := db130.2.1
theorem dX10_foundIn_34 : decode cX10_foundIn 34 = .ok (.invokevirtual 195, 3) := db130.2.2.1
theorem dX10_foundIn_37 : decode cX10_foundIn 37 = .ok (.iload_n 2, 1) := db130.2.2.2.1
theorem dX10_foundIn_38 : decode cX10_foundIn 38 = .ok (.invokevirtual 175, 3) := db130.2.2.2.2.1
theorem dX10_foundIn_41 : decode cX10_foundIn 41 = .ok (.pop, 1) := db130.2.2.2.2.2.1
theorem dX10_foundIn_42 : decode cX10_foundIn 42 = .ok (.iinc 3 1, 3) := db130.2.2.2.2.2.2.1
theorem dX10_foundIn_45 : decode cX10_foundIn 45 = .ok (.goto (-32), 3) := db130.2.2.2.2.2.2.2
theorem db131 : (decode cX10_gain 0 = .ok (.aload_n 0, 1)) ∧ (decode cX10_gain 1 = .ok (.iload_n 1, 1)) ∧ (decode cX10_gain 2 = .ok (.iconst 1, 1)) ∧ (decode cX10_gain 3 = .ok (.invokevirtual 186, 3)) ∧ (decode cX10_gain 6 = .ok (.istore_n 2, 1)) ∧ (decode cX10_gain 7 = .ok (.iload_n 2, 1)) ∧ (decode cX10_gain 8 = .ok (.ifCond .eq 8, 3)) ∧ (decode cX10_gain 16 = .ok (.aload_n 0, 1)) ∧ (decode cX10_gain 17 = .ok (.aload_n 0, 1)) ∧ (decode cX10_gain 18 = .ok (.aload_n 0, 1)) ∧ (decode cX10_gain 19 = .ok (.getfield 41, 3)) ∧ (decode cX10_gain 22 = .ok (.iload_n 1, 1)) ∧ (decode cX10_gain 23 = .ok (.aaload, 1)) ∧ (decode cX10_gain 24 = .ok (.iconst 0, 1)) ∧ (decode cX10_gain 25 = .ok (.invokevirtual 190, 3)) ∧ (decode cX10_gain 28 = .ok (.aload_n 0, 1)) ∧ (decode cX10_gain 29 = .ok (.getfield 41, 3)) ∧ (decode cX10_gain 32 = .ok (.iload_n 1, 1)) ∧ (decode cX10_gain 33 = .ok (.aaload, 1)) ∧ (decode cX10_gain 34 = .ok (.getfield 194, 3)) ∧ (decode cX10_gain 37 = .ok (.invokevirtual 202, 3)) ∧ (decode cX10_gain 40 = .ok (.ireturn, 1)) ∧ (decode cX10_gain 11 = .ok (.iload_n 2, 1)) ∧ (decode cX10_gain 12 = .ok (.ldc 201, 2)) := by decide +kernel
theorem dX10_gain_0 : decode cX10_gain 0 = .ok (.aload_n 0, 1) := db131.1
theorem dX10_gain_1 : decode cX10_gain 1 = .ok (.iload_n 1, 1) := db131.2.1
theorem dX10_gain_2 : decode cX10_gain 2 = .ok (.iconst 1, 1) := db131.2.2.1
theorem dX10_gain_3 : decode cX10_gain 3 = .ok (.invokevirtual 186, 3) := db131.2.2.2.1
theorem dX10_gain_6 : decode cX10_gain 6 = .ok (.istore_n 2, 1) := db131.2.2.2.2.1
theorem dX10_gain_7 : decode cX10_gain 7 = .ok (.iload_n 2, 1) := db131.2.2.2.2.2.1
theorem dX10_gain_8 : decode cX10_gain 8 = .ok (.ifCond .eq 8, 3) := db131.2.2.2.2.2.2.1
theorem dX10_gain_16 : decode cX10_gain 16 = .ok (.aload_n 0, 1) := db131.2.2.2.2.2.2.2.1
theorem dX10_gain_17 : decode cX10_gain 17 = .ok (.aload_n 0, 1) := db131.2.2.2.2.2.2.2.2.1
theorem dX10_gain_18 : decode cX10_gain 18 = .ok (.aload_n 0, 1) := db131.2.2.2.2.2.2.2.2.2.1
theorem dX10_gain_19 : decode cX10_gain 19 = .ok (.getfield 41, 3) := db131.2.2.2.2.2.2.2.2.2.2.1
theorem dX10_gain_22 : decode cX10_gain 22 = .ok (.iload_n 1, 1) := db131.2.2.2.2.2.2.2.2.2.2.2.1
theorem dX10_gain_23 : decode cX10_gain 23 = .ok (.aaload, 1) := db131.2.2.2.2.2.2.2.2.2.2.2.2.1
theorem dX10_gain_24 : decode cX10_gain 24 = .ok (.iconst 0, 1) := db131.2.2.2.2.2.2.2.2.2.2.2.2.2.1
theorem dX10_gain_25 : decode cX10_gain 25 = .ok (.invokevirtual 190, 3) := db131.2.2.2.2.2.2.2.2.2.2.2.2.2.2.1
theorem dX10_gain_28 : decode cX10_gain 28 = .ok (.aload_n 0, 1) := db131.2.2.2.2.2.2.2.2.2.2.2.2.2.2.2.1
theorem dX10_gain_29 : decode cX10_gain 29 = .ok (.getfield 41, 3) := db131.2.2.2.2.2.2.2.2.2.2.2.2.2.2.2.2.1
theorem dX10_gain_32 : decode cX10_gain 32 = .ok (.iload_n 1, 1) := db131.2.2.2.2.2.2.2.2.2.2.2.2.2.2.2.2.2.1
theorem dX10_gain_33 : decode cX10_gain 33 = .ok (.aaload, 1) := db131.2.2.2.2.2.2.2.2.2.2.2.2.2.2.2.2.2.2.1
theorem dX10_gain_34 : decode cX10_gain 34 = .ok (.getfield 194, 3) := db131.2.2.2.2.2.2.2.2.2.2.2.2.2.2.2.2.2.2.2.1
theorem dX10_gain_37 : decode cX10_gain 37 = .ok (.invokevirtual 202, 3) := db131.2.2.2.2.2.2.2.2.2.2.2.2.2.2.2.2.2.2.2.2.1
theorem dX10_gain_40 : decode cX10_gain 40 = .ok (.ireturn, 1) := db131.2.2.2.2.2.2.2.2.2.2.2.2.2.2.2.2.2.2.2.2.2.1
theorem dX10_gain_11 : decode cX10_gain 11 = .ok (.iload_n 2, 1) := db131.2.2.2.2.2.2.2.2.2.2.2.2.2.2.2.2.2.2.2.2.2.2.1
theorem dX10_gain_12 : decode cX10_gain 12 = .ok (.ldc 201, 2) := db131.2.2.2.2.2.2.2.2.2.2.2.2.2.2.2.2.2.2.2.2.2.2.2
theorem db132 : (decode cX10_gain 14 = .ok (.imul, 1)) ∧ (decode cX10_gain 15 = .ok (.ireturn, 1)) := by decide +kernel
theorem dX10_gain_14 : decode cX10_gain 14 = .ok (.imul, 1) := db132.1
theorem dX10_gain_15 : decode cX10_gain 15 = .ok (.ireturn, 1) := db132.2
theorem db133 : (decode cX10_gainOf 0 = .ok (.aload_n 0, 1)) ∧ (decode cX10_gainOf 1 = .ok (.iload_n 1, 1)) ∧ (decode cX10_gainOf 2 = .ok (.invokevirtual 232, 3)) ∧ (decode cX10_gainOf 5 = .ok (.aload_n 0, 1)) ∧ (decode cX10_gainOf 6 = .ok (.getfield 31, 3)) ∧ (decode cX10_gainOf 9 = .ok (.getfield 98, 3)) ∧ (decode cX10_gainOf 12 = .ok (.getfield 235, 3)) ∧ (decode cX10_gainOf 15 = .ok (.iload_n 2, 1)) ∧ (decode cX10_gainOf 16 = .ok (.imul, 1)) ∧ (decode cX10_gainOf 17 = .ok (.isub, 1)) ∧ (decode cX10_gainOf 18 = .ok (.ireturn, 1)) := by decide +kernel
theorem dX10_gainOf_0 : decode cX10_gainOf 0 = .ok (.aload_n 0, 1) := db133.1
theorem dX10_gainOf_1 : decode cX10_gainOf 1 = .ok (.iload_n 1, 1) := db133.2.1
theorem dX10_gainOf_2 : decode cX10_gainOf 2 = .ok (.invokevirtual 232, 3) := db133.2.2.1
theorem dX10_gainOf_5 : decode cX10_gainOf 5 = .ok (.aload_n 0, 1) := db133.2.2.2.1
theorem dX10_gainOf_6 : decode cX10_gainOf 6 = .ok (.getfield 31, 3) := db133.2.2.2.2.1
theorem dX10_gainOf_9 : decode cX10_gainOf 9 = .ok (.getfield 98, 3) := db133.2.2.2.2.2.1
theorem dX10_gainOf_12 : decode cX10_gainOf 12 = .ok (.getfield 235, 3) := db133.2.2.2.2.2.2.1
theorem dX10_gainOf_15 : decode cX10_gainOf 15 = .ok (.iload_n 2, 1) := db133.2.2.2.2.2.2.2.1
theorem dX10_gainOf_16 : decode cX10_gainOf 16 = .ok (.imul, 1) := db133.2.2.2.2.2.2.2.2.1
theorem dX10_gainOf_17 : decode cX10_gainOf 17 = .ok (.isub, 1) := db133.2.2.2.2.2.2.2.2.2.1
theorem dX10_gainOf_18 : decode cX10_gainOf 18 = .ok (.ireturn, 1) := db133.2.2.2.2.2.2.2.2.2.2
theorem db134 : (decode cX10_goes 0 = .ok (.aload_n 0, 1)) ∧ (decode cX10_goes 1 = .ok (.iload_n 1, 1)) ∧ (decode cX10_goes 2 = .ok (.invokevirtual 120, 3)) ∧ (decode cX10_goes 5 = .ok (.ifCond .eq 11, 3)) ∧ (decode cX10_goes 16 = .ok (.bipush (-2), 2)) ∧ (decode cX10_goes 18 = .ok (.ireturn, 1)) ∧ (decode cX10_goes 8 = .ok (.aload_n 0, 1)) ∧ (decode cX10_goes 9 = .ok (.iload_n 2, 1)) ∧ (decode cX10_goes 10 = .ok (.invokevirtual 215, 3)) ∧ (decode cX10_goes 13 = .ok (.ifCond .ne 6, 3)) ∧ (decode cX10_goes 19 = .ok (.iload_n 3, 1)) ∧ (decode cX10_goes 20 = .ok (.ifCond .lt 8, 3)) ∧ (decode cX10_goes 28 = .ok (.iconst (-1), 1)) ∧ (decode cX10_goes 29 = .ok (.ireturn, 1)) ∧ (decode cX10_goes 23 = .ok (.iload_n 3, 1)) ∧ (decode cX10_goes 24 = .ok (.iload_n 2, 1)) ∧ (decode cX10_goes 25 = .ok (.if_icmp .lt 5, 3)) ∧ (decode cX10_goes 30 = .ok (.aload_n 0, 1)) ∧ (decode cX10_goes 31 = .ok (.getfield 58, 3)) ∧ (decode cX10_goes 34 = .ok (.aload_n 0, 1)) ∧ (decode cX10_goes 35 = .ok (.getfield 31, 3)) ∧ (decode cX10_goes 38 = .ok (.getfield 98, 3)) ∧ (decode cX10_goes 41 = .ok (.aload_n 0, 1)) ∧ (decode cX10_goes 42 = .ok (.getfield 48, 3)) := by decide +kernel
theorem dX10_goes_0 : decode cX10_goes 0 = .ok (.aload_n 0, 1) := db134.1
theorem dX10_goes_1 : decode cX10_goes 1 = .ok (.iload_n 1, 1) := db134.2.1
theorem dX10_goes_2 : decode cX10_goes 2 = .ok (.invokevirtual 120, 3) := db134.2.2.1
theorem dX10_goes_5 : decode cX10_goes 5 = .ok (.ifCond .eq 11, 3) := db134.2.2.2.1
theorem dX10_goes_16 : decode cX10_goes 16 = .ok (.bipush (-2), 2) := db134.2.2.2.2.1
theorem dX10_goes_18 : decode cX10_goes 18 = .ok (.ireturn, 1) := db134.2.2.2.2.2.1
theorem dX10_goes_8 : decode cX10_goes 8 = .ok (.aload_n 0, 1) := db134.2.2.2.2.2.2.1
theorem dX10_goes_9 : decode cX10_goes 9 = .ok (.iload_n 2, 1) := db134.2.2.2.2.2.2.2.1
theorem dX10_goes_10 : decode cX10_goes 10 = .ok (.invokevirtual 215, 3) := db134.2.2.2.2.2.2.2.2.1
theorem dX10_goes_13 : decode cX10_goes 13 = .ok (.ifCond .ne 6, 3) := db134.2.2.2.2.2.2.2.2.2.1
theorem dX10_goes_19 : decode cX10_goes 19 = .ok (.iload_n 3, 1) := db134.2.2.2.2.2.2.2.2.2.2.1
theorem dX10_goes_20 : decode cX10_goes 20 = .ok (.ifCond .lt 8, 3) := db134.2.2.2.2.2.2.2.2.2.2.2.1
theorem dX10_goes_28 : decode cX10_goes 28 = .ok (.iconst (-1), 1) := db134.2.2.2.2.2.2.2.2.2.2.2.2.1
theorem dX10_goes_29 : decode cX10_goes 29 = .ok (.ireturn, 1) := db134.2.2.2.2.2.2.2.2.2.2.2.2.2.1
theorem dX10_goes_23 : decode cX10_goes 23 = .ok (.iload_n 3, 1) := db134.2.2.2.2.2.2.2.2.2.2.2.2.2.2.1
theorem dX10_goes_24 : decode cX10_goes 24 = .ok (.iload_n 2, 1) := db134.2.2.2.2.2.2.2.2.2.2.2.2.2.2.2.1
theorem dX10_goes_25 : decode cX10_goes 25 = .ok (.if_icmp .lt 5, 3) := db134.2.2.2.2.2.2.2.2.2.2.2.2.2.2.2.2.1
theorem dX10_goes_30 : decode cX10_goes 30 = .ok (.aload_n 0, 1) := db134.2.2.2.2.2.2.2.2.2.2.2.2.2.2.2.2.2.1
theorem dX10_goes_31 : decode cX10_goes 31 = .ok (.getfield 58, 3) := db134.2.2.2.2.2.2.2.2.2.2.2.2.2.2.2.2.2.2.1
theorem dX10_goes_34 : decode cX10_goes 34 = .ok (.aload_n 0, 1) := db134.2.2.2.2.2.2.2.2.2.2.2.2.2.2.2.2.2.2.2.1
theorem dX10_goes_35 : decode cX10_goes 35 = .ok (.getfield 31, 3) := db134.2.2.2.2.2.2.2.2.2.2.2.2.2.2.2.2.2.2.2.2.1
theorem dX10_goes_38 : decode cX10_goes 38 = .ok (.getfield 98, 3) := db134.2.2.2.2.2.2.2.2.2.2.2.2.2.2.2.2.2.2.2.2.2.1
theorem dX10_goes_41 : decode cX10_goes 41 = .ok (.aload_n 0, 1) := db134.2.2.2.2.2.2.2.2.2.2.2.2.2.2.2.2.2.2.2.2.2.2.1
theorem dX10_goes_42 : decode cX10_goes 42 = .ok (.getfield 48, 3) := db134.2.2.2.2.2.2.2.2.2.2.2.2.2.2.2.2.2.2.2.2.2.2.2
theorem db135 : (decode cX10_goes 45 = .ok (.iload_n 1, 1)) ∧ (decode cX10_goes 46 = .ok (.iload_n 2, 1)) ∧ (decode cX10_goes 47 = .ok (.invokevirtual 218, 3)) ∧ (decode cX10_goes 50 = .ok (.pop, 1)) ∧ (decode cX10_goes 51 = .ok (.aload_n 0, 1)) ∧ (decode cX10_goes 52 = .ok (.getfield 58, 3)) ∧ (decode cX10_goes 55 = .ok (.iload_n 3, 1)) ∧ (decode cX10_goes 56 = .ok (.invokevirtual 222, 3)) ∧ (decode cX10_goes 59 = .ok (.ireturn, 1)) := by decide +kernel
theorem dX10_goes_45 : decode cX10_goes 45 = .ok (.iload_n 1, 1) := db135.1
theorem dX10_goes_46 : decode cX10_goes 46 = .ok (.iload_n 2, 1) := db135.2.1
theorem dX10_goes_47 : decode cX10_goes 47 = .ok (.invokevirtual 218, 3) := db135.2.2.1
theorem dX10_goes_50 : decode cX10_goes 50 = .ok (.pop, 1) := db135.2.2.2.1
theorem dX10_goes_51 : decode cX10_goes 51 = .ok (.aload_n 0, 1) := db135.2.2.2.2.1
theorem dX10_goes_52 : decode cX10_goes 52 = .ok (.getfield 58, 3) := db135.2.2.2.2.2.1
theorem dX10_goes_55 : decode cX10_goes 55 = .ok (.iload_n 3, 1) := db135.2.2.2.2.2.2.1
theorem dX10_goes_56 : decode cX10_goes 56 = .ok (.invokevirtual 222, 3) := db135.2.2.2.2.2.2.2.1
theorem dX10_goes_59 : decode cX10_goes 59 = .ok (.ireturn, 1) := db135.2.2.2.2.2.2.2.2
theorem db136 : (decode cX10_guess 0 = .ok (.aload_n 0, 1)) ∧ (decode cX10_guess 1 = .ok (.iload_n 1, 1)) ∧ (decode cX10_guess 2 = .ok (.invokevirtual 128, 3)) ∧ (decode cX10_guess 5 = .ok (.ifCond .ne 6, 3)) ∧ (decode cX10_guess 11 = .ok (.iconst (-1), 1)) ∧ (decode cX10_guess 12 = .ok (.istore_n 2, 1)) ∧ (decode cX10_guess 13 = .ok (.lconst 0, 1)) ∧ (decode cX10_guess 14 = .ok (.lstore_n 3, 1)) ∧ (decode cX10_guess 15 = .ok (.iconst 0, 1)) ∧ (decode cX10_guess 16 = .ok (.istore 5, 2)) ∧ (decode cX10_guess 18 = .ok (.iload 5, 2)) ∧ (decode cX10_guess 20 = .ok (.aload_n 0, 1)) ∧ (decode cX10_guess 21 = .ok (.getfield 31, 3)) ∧ (decode cX10_guess 24 = .ok (.getfield 98, 3)) ∧ (decode cX10_guess 27 = .ok (.getfield 283, 3)) ∧ (decode cX10_guess 30 = .ok (.if_icmp .ge 41, 3)) ∧ (decode cX10_guess 71 = .ok (.iload_n 2, 1)) ∧ (decode cX10_guess 72 = .ok (.ireturn, 1)) ∧ (decode cX10_guess 33 = .ok (.aload_n 0, 1)) ∧ (decode cX10_guess 34 = .ok (.getfield 72, 3)) ∧ (decode cX10_guess 37 = .ok (.aload_n 0, 1)) ∧ (decode cX10_guess 38 = .ok (.getfield 31, 3)) ∧ (decode cX10_guess 41 = .ok (.getfield 98, 3)) ∧ (decode cX10_guess 44 = .ok (.iload 5, 2)) := by decide +kernel
theorem dX10_guess_0 : decode cX10_guess 0 = .ok (.aload_n 0, 1) := db136.1
theorem dX10_guess_1 : decode cX10_guess 1 = .ok (.iload_n 1, 1) := db136.2.1
theorem dX10_guess_2 : decode cX10_guess 2 = .ok (.invokevirtual 128, 3) := db136.2.2.1
theorem dX10_guess_5 : decode cX10_guess 5 = .ok (.ifCond .ne 6, 3) := db136.2.2.2.1
theorem dX10_guess_11 : decode cX10_guess 11 = .ok (.iconst (-1), 1) := db136.2.2.2.2.1
theorem dX10_guess_12 : decode cX10_guess 12 = .ok (.istore_n 2, 1) := db136.2.2.2.2.2.1
theorem dX10_guess_13 : decode cX10_guess 13 = .ok (.lconst 0, 1) := db136.2.2.2.2.2.2.1
theorem dX10_guess_14 : decode cX10_guess 14 = .ok (.lstore_n 3, 1) := db136.2.2.2.2.2.2.2.1
theorem dX10_guess_15 : decode cX10_guess 15 = .ok (.iconst 0, 1) := db136.2.2.2.2.2.2.2.2.1
theorem dX10_guess_16 : decode cX10_guess 16 = .ok (.istore 5, 2) := db136.2.2.2.2.2.2.2.2.2.1
theorem dX10_guess_18 : decode cX10_guess 18 = .ok (.iload 5, 2) := db136.2.2.2.2.2.2.2.2.2.2.1
theorem dX10_guess_20 : decode cX10_guess 20 = .ok (.aload_n 0, 1) := db136.2.2.2.2.2.2.2.2.2.2.2.1
theorem dX10_guess_21 : decode cX10_guess 21 = .ok (.getfield 31, 3) := db136.2.2.2.2.2.2.2.2.2.2.2.2.1
theorem dX10_guess_24 : decode cX10_guess 24 = .ok (.getfield 98, 3) := db136.2.2.2.2.2.2.2.2.2.2.2.2.2.1
theorem dX10_guess_27 : decode cX10_guess 27 = .ok (.getfield 283, 3) := db136.2.2.2.2.2.2.2.2.2.2.2.2.2.2.1
theorem dX10_guess_30 : decode cX10_guess 30 = .ok (.if_icmp .ge 41, 3) := db136.2.2.2.2.2.2.2.2.2.2.2.2.2.2.2.1
theorem dX10_guess_71 : decode cX10_guess 71 = .ok (.iload_n 2, 1) := db136.2.2.2.2.2.2.2.2.2.2.2.2.2.2.2.2.1
theorem dX10_guess_72 : decode cX10_guess 72 = .ok (.ireturn, 1) := db136.2.2.2.2.2.2.2.2.2.2.2.2.2.2.2.2.2.1
theorem dX10_guess_33 : decode cX10_guess 33 = .ok (.aload_n 0, 1) := db136.2.2.2.2.2.2.2.2.2.2.2.2.2.2.2.2.2.2.1
theorem dX10_guess_34 : decode cX10_guess 34 = .ok (.getfield 72, 3) := db136.2.2.2.2.2.2.2.2.2.2.2.2.2.2.2.2.2.2.2.1
theorem dX10_guess_37 : decode cX10_guess 37 = .ok (.aload_n 0, 1) := db136.2.2.2.2.2.2.2.2.2.2.2.2.2.2.2.2.2.2.2.2.1
theorem dX10_guess_38 : decode cX10_guess 38 = .ok (.getfield 31, 3) := db136.2.2.2.2.2.2.2.2.2.2.2.2.2.2.2.2.2.2.2.2.2.1
theorem dX10_guess_41 : decode cX10_guess 41 = .ok (.getfield 98, 3) := db136.2.2.2.2.2.2.2.2.2.2.2.2.2.2.2.2.2.2.2.2.2.2.1
theorem dX10_guess_44 : decode cX10_guess 44 = .ok (.iload 5, 2) := db136.2.2.2.2.2.2.2.2.2.2.2.2.2.2.2.2.2.2.2.2.2.2.2
theorem db137 : (decode cX10_guess 46 = .ok (.iload_n 1, 1)) ∧ (decode cX10_guess 47 = .ok (.invokevirtual 291, 3)) ∧ (decode cX10_guess 50 = .ok (.lstore 6, 2)) ∧ (decode cX10_guess 52 = .ok (.lload 6, 2)) ∧ (decode cX10_guess 54 = .ok (.lload_n 3, 1)) ∧ (decode cX10_guess 55 = .ok (.lcmp, 1)) ∧ (decode cX10_guess 65 = .ok (.iinc 5 1, 3)) ∧ (decode cX10_guess 68 = .ok (.goto (-50), 3)) ∧ (decode cX10_guess 56 = .ok (.ifCond .le 9, 3)) ∧ (decode cX10_guess 59 = .ok (.lload 6, 2)) ∧ (decode cX10_guess 61 = .ok (.lstore_n 3, 1)) ∧ (decode cX10_guess 62 = .ok (.iload 5, 2)) ∧ (decode cX10_guess 64 = .ok (.istore_n 2, 1)) ∧ (decode cX10_guess 8 = .ok (.bipush (-2), 2)) ∧ (decode cX10_guess 10 = .ok (.ireturn, 1)) := by decide +kernel
theorem dX10_guess_46 : decode cX10_guess 46 = .ok (.iload_n 1, 1) := db137.1
theorem dX10_guess_47 : decode cX10_guess 47 = .ok (.invokevirtual 291, 3) := db137.2.1
theorem dX10_guess_50 : decode cX10_guess 50 = .ok (.lstore 6, 2) := db137.2.2.1
theorem dX10_guess_52 : decode cX10_guess 52 = .ok (.lload 6, 2) := db137.2.2.2.1
theorem dX10_guess_54 : decode cX10_guess 54 = .ok (.lload_n 3, 1) := db137.2.2.2.2.1
theorem dX10_guess_55 : decode cX10_guess 55 = .ok (.lcmp, 1) := db137.2.2.2.2.2.1
theorem dX10_guess_65 : decode cX10_guess 65 = .ok (.iinc 5 1, 3) := db137.2.2.2.2.2.2.1
theorem dX10_guess_68 : decode cX10_guess 68 = .ok (.goto (-50), 3) := db137.2.2.2.2.2.2.2.1
theorem dX10_guess_56 : decode cX10_guess 56 = .ok (.ifCond .le 9, 3) := db137.2.2.2.2.2.2.2.2.1
theorem dX10_guess_59 : decode cX10_guess 59 = .ok (.lload 6, 2) := db137.2.2.2.2.2.2.2.2.2.1
theorem dX10_guess_61 : decode cX10_guess 61 = .ok (.lstore_n 3, 1) := db137.2.2.2.2.2.2.2.2.2.2.1
theorem dX10_guess_62 : decode cX10_guess 62 = .ok (.iload 5, 2) := db137.2.2.2.2.2.2.2.2.2.2.2.1
theorem dX10_guess_64 : decode cX10_guess 64 = .ok (.istore_n 2, 1) := db137.2.2.2.2.2.2.2.2.2.2.2.2.1
theorem dX10_guess_8 : decode cX10_guess 8 = .ok (.bipush (-2), 2) := db137.2.2.2.2.2.2.2.2.2.2.2.2.2.1
theorem dX10_guess_10 : decode cX10_guess 10 = .ok (.ireturn, 1) := db137.2.2.2.2.2.2.2.2.2.2.2.2.2.2
theorem db138 : (decode cX10_habit 0 = .ok (.aload_n 0, 1)) ∧ (decode cX10_habit 1 = .ok (.iload_n 1, 1)) ∧ (decode cX10_habit 2 = .ok (.iconst 1, 1)) ∧ (decode cX10_habit 3 = .ok (.invokevirtual 299, 3)) ∧ (decode cX10_habit 6 = .ok (.istore_n 2, 1)) ∧ (decode cX10_habit 7 = .ok (.iload_n 2, 1)) ∧ (decode cX10_habit 8 = .ok (.ifCond .eq 5, 3)) ∧ (decode cX10_habit 13 = .ok (.aload_n 0, 1)) ∧ (decode cX10_habit 14 = .ok (.aload_n 0, 1)) ∧ (decode cX10_habit 15 = .ok (.getfield 41, 3)) ∧ (decode cX10_habit 18 = .ok (.iload_n 1, 1)) ∧ (decode cX10_habit 19 = .ok (.aaload, 1)) ∧ (decode cX10_habit 20 = .ok (.iconst (-1), 1)) ∧ (decode cX10_habit 21 = .ok (.invokevirtual 302, 3)) ∧ (decode cX10_habit 24 = .ok (.ireturn, 1)) ∧ (decode cX10_habit 11 = .ok (.iload_n 2, 1)) ∧ (decode cX10_habit 12 = .ok (.ireturn, 1)) := by decide +kernel
theorem dX10_habit_0 : decode cX10_habit 0 = .ok (.aload_n 0, 1) := db138.1
theorem dX10_habit_1 : decode cX10_habit 1 = .ok (.iload_n 1, 1) := db138.2.1
theorem dX10_habit_2 : decode cX10_habit 2 = .ok (.iconst 1, 1) := db138.2.2.1
theorem dX10_habit_3 : decode cX10_habit 3 = .ok (.invokevirtual 299, 3) := db138.2.2.2.1
theorem dX10_habit_6 : decode cX10_habit 6 = .ok (.istore_n 2, 1) := db138.2.2.2.2.1
theorem dX10_habit_7 : decode cX10_habit 7 = .ok (.iload_n 2, 1) := db138.2.2.2.2.2.1
theorem dX10_habit_8 : decode cX10_habit 8 = .ok (.ifCond .eq 5, 3) := db138.2.2.2.2.2.2.1
theorem dX10_habit_13 : decode cX10_habit 13 = .ok (.aload_n 0, 1) := db138.2.2.2.2.2.2.2.1
theorem dX10_habit_14 : decode cX10_habit 14 = .ok (.aload_n 0, 1) := db138.2.2.2.2.2.2.2.2.1
theorem dX10_habit_15 : decode cX10_habit 15 = .ok (.getfield 41, 3) := db138.2.2.2.2.2.2.2.2.2.1
theorem dX10_habit_18 : decode cX10_habit 18 = .ok (.iload_n 1, 1) := db138.2.2.2.2.2.2.2.2.2.2.1
theorem dX10_habit_19 : decode cX10_habit 19 = .ok (.aaload, 1) := db138.2.2.2.2.2.2.2.2.2.2.2.1
theorem dX10_habit_20 : decode cX10_habit 20 = .ok (.iconst (-1), 1) := db138.2.2.2.2.2.2.2.2.2.2.2.2.1
theorem dX10_habit_21 : decode cX10_habit 21 = .ok (.invokevirtual 302, 3) := db138.2.2.2.2.2.2.2.2.2.2.2.2.2.1
theorem dX10_habit_24 : decode cX10_habit 24 = .ok (.ireturn, 1) := db138.2.2.2.2.2.2.2.2.2.2.2.2.2.2.1
theorem dX10_habit_11 : decode cX10_habit 11 = .ok (.iload_n 2, 1) := db138.2.2.2.2.2.2.2.2.2.2.2.2.2.2.2.1
theorem dX10_habit_12 : decode cX10_habit 12 = .ok (.ireturn, 1) := db138.2.2.2.2.2.2.2.2.2.2.2.2.2.2.2.2
theorem db139 : (decode cX10_hangs 0 = .ok (.aload_n 0, 1)) ∧ (decode cX10_hangs 1 = .ok (.iload_n 1, 1)) ∧ (decode cX10_hangs 2 = .ok (.iconst 1, 1)) ∧ (decode cX10_hangs 3 = .ok (.invokevirtual 186, 3)) ∧ (decode cX10_hangs 6 = .ok (.istore_n 2, 1)) ∧ (decode cX10_hangs 7 = .ok (.iload_n 2, 1)) ∧ (decode cX10_hangs 8 = .ok (.ifCond .eq 5, 3)) ∧ (decode cX10_hangs 13 = .ok (.aload_n 0, 1)) ∧ (decode cX10_hangs 14 = .ok (.getfield 41, 3)) ∧ (decode cX10_hangs 17 = .ok (.iload_n 1, 1)) ∧ (decode cX10_hangs 18 = .ok (.aaload, 1)) ∧ (decode cX10_hangs 19 = .ok (.astore_n 3, 1)) ∧ (decode cX10_hangs 20 = .ok (.aload_n 0, 1)) ∧ (decode cX10_hangs 21 = .ok (.getfield 52, 3)) ∧ (decode cX10_hangs 24 = .ok (.aload_n 0, 1)) ∧ (decode cX10_hangs 25 = .ok (.getfield 48, 3)) ∧ (decode cX10_hangs 28 = .ok (.invokevirtual 179, 3)) ∧ (decode cX10_hangs 31 = .ok (.iconst 0, 1)) ∧ (decode cX10_hangs 32 = .ok (.istore 4, 2)) ∧ (decode cX10_hangs 34 = .ok (.iload 4, 2)) ∧ (decode cX10_hangs 36 = .ok (.aload_n 3, 1)) ∧ (decode cX10_hangs 37 = .ok (.getfield 194, 3)) ∧ (decode cX10_hangs 40 = .ok (.if_icmp .ge 54, 3)) ∧ (decode cX10_hangs 94 = .ok (.iconst (-1), 1)) := by decide +kernel
theorem dX10_hangs_0 : decode cX10_hangs 0 = .ok (.aload_n 0, 1) := db139.1
theorem dX10_hangs_1 : decode cX10_hangs 1 = .ok (.iload_n 1, 1) := db139.2.1
theorem dX10_hangs_2 : decode cX10_hangs 2 = .ok (.iconst 1, 1) := db139.2.2.1
theorem dX10_hangs_3 : decode cX10_hangs 3 = .ok (.invokevirtual 186, 3) := db139.2.2.2.1
theorem dX10_hangs_6 : decode cX10_hangs 6 = .ok (.istore_n 2, 1) := db139.2.2.2.2.1
theorem dX10_hangs_7 : decode cX10_hangs 7 = .ok (.iload_n 2, 1) := db139.2.2.2.2.2.1
theorem dX10_hangs_8 : decode cX10_hangs 8 = .ok (.ifCond .eq 5, 3) := db139.2.2.2.2.2.2.1
theorem dX10_hangs_13 : decode cX10_hangs 13 = .ok (.aload_n 0, 1) := db139.2.2.2.2.2.2.2.1
theorem dX10_hangs_14 : decode cX10_hangs 14 = .ok (.getfield 41, 3) := db139.2.2.2.2.2.2.2.2.1
theorem dX10_hangs_17 : decode cX10_hangs 17 = .ok (.iload_n 1, 1) := db139.2.2.2.2.2.2.2.2.2.1
theorem dX10_hangs_18 : decode cX10_hangs 18 = .ok (.aaload, 1) := db139.2.2.2.2.2.2.2.2.2.2.1
theorem dX10_hangs_19 : decode cX10_hangs 19 = .ok (.astore_n 3, 1) := db139.2.2.2.2.2.2.2.2.2.2.2.1
theorem dX10_hangs_20 : decode cX10_hangs 20 = .ok (.aload_n 0, 1) := db139.2.2.2.2.2.2.2.2.2.2.2.2.1
theorem dX10_hangs_21 : decode cX10_hangs 21 = .ok (.getfield 52, 3) := db139.2.2.2.2.2.2.2.2.2.2.2.2.2.1
theorem dX10_hangs_24 : decode cX10_hangs 24 = .ok (.aload_n 0, 1) := db139.2.2.2.2.2.2.2.2.2.2.2.2.2.2.1
theorem dX10_hangs_25 : decode cX10_hangs 25 = .ok (.getfield 48, 3) := db139.2.2.2.2.2.2.2.2.2.2.2.2.2.2.2.1
theorem dX10_hangs_28 : decode cX10_hangs 28 = .ok (.invokevirtual 179, 3) := db139.2.2.2.2.2.2.2.2.2.2.2.2.2.2.2.2.1
theorem dX10_hangs_31 : decode cX10_hangs 31 = .ok (.iconst 0, 1) := db139.2.2.2.2.2.2.2.2.2.2.2.2.2.2.2.2.2.1
theorem dX10_hangs_32 : decode cX10_hangs 32 = .ok (.istore 4, 2) := db139.2.2.2.2.2.2.2.2.2.2.2.2.2.2.2.2.2.2.1
theorem dX10_hangs_34 : decode cX10_hangs 34 = .ok (.iload 4, 2) := db139.2.2.2.2.2.2.2.2.2.2.2.2.2.2.2.2.2.2.2.1
theorem dX10_hangs_36 : decode cX10_hangs 36 = .ok (.aload_n 3, 1) := db139.2.2.2.2.2.2.2.2.2.2.2.2.2.2.2.2.2.2.2.2.1
theorem dX10_hangs_37 : decode cX10_hangs 37 = .ok (.getfield 194, 3) := db139.2.2.2.2.2.2.2.2.2.2.2.2.2.2.2.2.2.2.2.2.2.1
theorem dX10_hangs_40 : decode cX10_hangs 40 = .ok (.if_icmp .ge 54, 3) := db139.2.2.2.2.2.2.2.2.2.2.2.2.2.2.2.2.2.2.2.2.2.2.1
theorem dX10_hangs_94 : decode cX10_hangs 94 = .ok (.iconst (-1), 1) := db139.2.2.2.2.2.2.2.2.2.2.2.2.2.2.2.2.2.2.2.2.2.2.2
theorem db140 : (decode cX10_hangs 95 = .ok (.ireturn, 1)) ∧ (decode cX10_hangs 43 = .ok (.aload_n 0, 1)) ∧ (decode cX10_hangs 44 = .ok (.getfield 52, 3)) ∧ (decode cX10_hangs 47 = .ok (.aload_n 0, 1)) ∧ (decode cX10_hangs 48 = .ok (.getfield 31, 3)) ∧ (decode cX10_hangs 51 = .ok (.getfield 98, 3)) ∧ (decode cX10_hangs 54 = .ok (.aload_n 3, 1)) ∧ (decode cX10_hangs 55 = .ok (.iload 4, 2)) ∧ (decode cX10_hangs 57 = .ok (.invokevirtual 195, 3)) ∧ (decode cX10_hangs 60 = .ok (.iconst 0, 1)) ∧ (decode cX10_hangs 61 = .ok (.invokevirtual 175, 3)) ∧ (decode cX10_hangs 64 = .ok (.istore 5, 2)) ∧ (decode cX10_hangs 66 = .ok (.aload_n 0, 1)) ∧ (decode cX10_hangs 67 = .ok (.iload 5, 2)) ∧ (decode cX10_hangs 69 = .ok (.invokevirtual 232, 3)) ∧ (decode cX10_hangs 72 = .ok (.aload_n 0, 1)) ∧ (decode cX10_hangs 73 = .ok (.getfield 31, 3)) ∧ (decode cX10_hangs 76 = .ok (.getfield 98, 3)) ∧ (decode cX10_hangs 79 = .ok (.getfield 235, 3)) ∧ (decode cX10_hangs 82 = .ok (.if_icmp .ge 6, 3)) ∧ (decode cX10_hangs 88 = .ok (.iinc 4 1, 3)) ∧ (decode cX10_hangs 91 = .ok (.goto (-57), 3)) ∧ (decode cX10_hangs 85 = .ok (.iload 4, 2)) ∧ (decode cX10_hangs 87 = .ok (.ireturn, 1)) := by decide +kernel
theorem dX10_hangs_95 : decode cX10_hangs 95 = .ok (.ireturn, 1) := db140.1
theorem dX10_hangs_43 : decode cX10_hangs 43 = .ok (.aload_n 0, 1) := db140.2.1
theorem dX10_hangs_44 : decode cX10_hangs 44 = .ok (.getfield 52, 3) := db140.2.2.1
theorem dX10_hangs_47 : decode cX10_hangs 47 = .ok (.aload_n 0, 1) := db140.2.2.2.1
theorem dX10_hangs_48 : decode cX10_hangs 48 = .ok (.getfield 31, 3) := db140.2.2.2.2.1
theorem dX10_hangs_51 : decode cX10_hangs 51 = .ok (.getfield 98, 3) := db140.2.2.2.2.2.1
theorem dX10_hangs_54 : decode cX10_hangs 54 = .ok (.aload_n 3, 1) := db140.2.2.2.2.2.2.1
theorem dX10_hangs_55 : decode cX10_hangs 55 = .ok (.iload 4, 2) := db140.2.2.2.2.2.2.2.1
theorem dX10_hangs_57 : decode cX10_hangs 57 = .ok (.invokevirtual 195, 3) := db140.2.2.2.2.2.2.2.2.1
theorem dX10_hangs_60 : decode cX10_hangs 60 = .ok (.iconst 0, 1) := db140.2.2.2.2.2.2.2.2.2.1
theorem dX10_hangs_61 : decode cX10_hangs 61 = .ok (.invokevirtual 175, 3) := db140.2.2.2.2.2.2.2.2.2.2.1
theorem dX10_hangs_64 : decode cX10_hangs 64 = .ok (.istore 5, 2) := db140.2.2.2.2.2.2.2.2.2.2.2.1
theorem dX10_hangs_66 : decode cX10_hangs 66 = .ok (.aload_n 0, 1) := db140.2.2.2.2.2.2.2.2.2.2.2.2.1
theorem dX10_hangs_67 : decode cX10_hangs 67 = .ok (.iload 5, 2) := db140.2.2.2.2.2.2.2.2.2.2.2.2.2.1
theorem dX10_hangs_69 : decode cX10_hangs 69 = .ok (.invokevirtual 232, 3) := db140.2.2.2.2.2.2.2.2.2.2.2.2.2.2.1
theorem dX10_hangs_72 : decode cX10_hangs 72 = .ok (.aload_n 0, 1) := db140.2.2.2.2.2.2.2.2.2.2.2.2.2.2.2.1
theorem dX10_hangs_73 : decode cX10_hangs 73 = .ok (.getfield 31, 3) := db140.2.2.2.2.2.2.2.2.2.2.2.2.2.2.2.2.1
theorem dX10_hangs_76 : decode cX10_hangs 76 = .ok (.getfield 98, 3) := db140.2.2.2.2.2.2.2.2.2.2.2.2.2.2.2.2.2.1
theorem dX10_hangs_79 : decode cX10_hangs 79 = .ok (.getfield 235, 3) := db140.2.2.2.2.2.2.2.2.2.2.2.2.2.2.2.2.2.2.1
theorem dX10_hangs_82 : decode cX10_hangs 82 = .ok (.if_icmp .ge 6, 3) := db140.2.2.2.2.2.2.2.2.2.2.2.2.2.2.2.2.2.2.2.1
theorem dX10_hangs_88 : decode cX10_hangs 88 = .ok (.iinc 4 1, 3) := db140.2.2.2.2.2.2.2.2.2.2.2.2.2.2.2.2.2.2.2.2.1
theorem dX10_hangs_91 : decode cX10_hangs 91 = .ok (.goto (-57), 3) := db140.2.2.2.2.2.2.2.2.2.2.2.2.2.2.2.2.2.2.2.2.2.1
theorem dX10_hangs_85 : decode cX10_hangs 85 = .ok (.iload 4, 2) := db140.2.2.2.2.2.2.2.2.2.2.2.2.2.2.2.2.2.2.2.2.2.2.1
theorem dX10_hangs_87 : decode cX10_hangs 87 = .ok (.ireturn, 1) := db140.2.2.2.2.2.2.2.2.2.2.2.2.2.2.2.2.2.2.2.2.2.2.2
theorem db141 : (decode cX10_hangs 11 = .ok (.iload_n 2, 1)) ∧ (decode cX10_hangs 12 = .ok (.ireturn, 1)) := by decide +kernel
theorem dX10_hangs_11 : decode cX10_hangs 11 = .ok (.iload_n 2, 1) := db141.1
theorem dX10_hangs_12 : decode cX10_hangs 12 = .ok (.ireturn, 1) := db141.2
theorem db142 : (decode cX10_hasHouse 0 = .ok (.aload_n 0, 1)) ∧ (decode cX10_hasHouse 1 = .ok (.getfield 31, 3)) ∧ (decode cX10_hasHouse 4 = .ok (.getfield 98, 3)) ∧ (decode cX10_hasHouse 7 = .ok (.getfield 111, 3)) ∧ (decode cX10_hasHouse 10 = .ok (.ifCond .le 7, 3)) ∧ (decode cX10_hasHouse 17 = .ok (.iconst 0, 1)) ∧ (decode cX10_hasHouse 18 = .ok (.ireturn, 1)) ∧ (decode cX10_hasHouse 13 = .ok (.iconst 1, 1)) ∧ (decode cX10_hasHouse 14 = .ok (.goto 4, 3)) := by decide +kernel
theorem dX10_hasHouse_0 : decode cX10_hasHouse 0 = .ok (.aload_n 0, 1) := db142.1
theorem dX10_hasHouse_1 : decode cX10_hasHouse 1 = .ok (.getfield 31, 3) := db142.2.1
theorem dX10_hasHouse_4 : decode cX10_hasHouse 4 = .ok (.getfield 98, 3) := db142.2.2.1
theorem dX10_hasHouse_7 : decode cX10_hasHouse 7 = .ok (.getfield 111, 3) := db142.2.2.2.1
theorem dX10_hasHouse_10 : decode cX10_hasHouse 10 = .ok (.ifCond .le 7, 3) := db142.2.2.2.2.1
theorem dX10_hasHouse_17 : decode cX10_hasHouse 17 = .ok (.iconst 0, 1) := db142.2.2.2.2.2.1
theorem dX10_hasHouse_18 : decode cX10_hasHouse 18 = .ok (.ireturn, 1) := db142.2.2.2.2.2.2.1
theorem dX10_hasHouse_13 : decode cX10_hasHouse 13 = .ok (.iconst 1, 1) := db142.2.2.2.2.2.2.2.1
theorem dX10_hasHouse_14 : decode cX10_hasHouse 14 = .ok (.goto 4, 3) := db142.2.2.2.2.2.2.2.2
theorem db143 : (decode cX10_hears 0 = .ok (.aload_n 0, 1)) ∧ (decode cX10_hears 1 = .ok (.iload_n 1, 1)) ∧ (decode cX10_hears 2 = .ok (.invokevirtual 120, 3)) ∧ (decode cX10_hears 5 = .ok (.ifCond .eq 13, 3)) ∧ (decode cX10_hears 18 = .ok (.bipush (-2), 2)) ∧ (decode cX10_hears 20 = .ok (.ireturn, 1)) ∧ (decode cX10_hears 8 = .ok (.iload_n 2, 1)) ∧ (decode cX10_hears 9 = .ok (.ifCond .lt 9, 3)) ∧ (decode cX10_hears 12 = .ok (.iload_n 2, 1)) ∧ (decode cX10_hears 13 = .ok (.bipush 9, 2)) ∧ (decode cX10_hears 15 = .ok (.if_icmp .le 6, 3)) ∧ (decode cX10_hears 21 = .ok (.aload_n 0, 1)) ∧ (decode cX10_hears 22 = .ok (.getfield 31, 3)) ∧ (decode cX10_hears 25 = .ok (.getfield 98, 3)) ∧ (decode cX10_hears 28 = .ok (.iload_n 1, 1)) ∧ (decode cX10_hears 29 = .ok (.iload_n 2, 1)) ∧ (decode cX10_hears 30 = .ok (.invokevirtual 141, 3)) ∧ (decode cX10_hears 33 = .ok (.ireturn, 1)) := by decide +kernel
theorem dX10_hears_0 : decode cX10_hears 0 = .ok (.aload_n 0, 1) := db143.1
theorem dX10_hears_1 : decode cX10_hears 1 = .ok (.iload_n 1, 1) := db143.2.1
theorem dX10_hears_2 : decode cX10_hears 2 = .ok (.invokevirtual 120, 3) := db143.2.2.1
theorem dX10_hears_5 : decode cX10_hears 5 = .ok (.ifCond .eq 13, 3) := db143.2.2.2.1
theorem dX10_hears_18 : decode cX10_hears 18 = .ok (.bipush (-2), 2) := db143.2.2.2.2.1
theorem dX10_hears_20 : decode cX10_hears 20 = .ok (.ireturn, 1) := db143.2.2.2.2.2.1
theorem dX10_hears_8 : decode cX10_hears 8 = .ok (.iload_n 2, 1) := db143.2.2.2.2.2.2.1
theorem dX10_hears_9 : decode cX10_hears 9 = .ok (.ifCond .lt 9, 3) := db143.2.2.2.2.2.2.2.1
theorem dX10_hears_12 : decode cX10_hears 12 = .ok (.iload_n 2, 1) := db143.2.2.2.2.2.2.2.2.1
theorem dX10_hears_13 : decode cX10_hears 13 = .ok (.bipush 9, 2) := db143.2.2.2.2.2.2.2.2.2.1
theorem dX10_hears_15 : decode cX10_hears 15 = .ok (.if_icmp .le 6, 3) := db143.2.2.2.2.2.2.2.2.2.2.1
theorem dX10_hears_21 : decode cX10_hears 21 = .ok (.aload_n 0, 1) := db143.2.2.2.2.2.2.2.2.2.2.2.1
theorem dX10_hears_22 : decode cX10_hears 22 = .ok (.getfield 31, 3) := db143.2.2.2.2.2.2.2.2.2.2.2.2.1
theorem dX10_hears_25 : decode cX10_hears 25 = .ok (.getfield 98, 3) := db143.2.2.2.2.2.2.2.2.2.2.2.2.2.1
theorem dX10_hears_28 : decode cX10_hears 28 = .ok (.iload_n 1, 1) := db143.2.2.2.2.2.2.2.2.2.2.2.2.2.2.1
theorem dX10_hears_29 : decode cX10_hears 29 = .ok (.iload_n 2, 1) := db143.2.2.2.2.2.2.2.2.2.2.2.2.2.2.2.1
theorem dX10_hears_30 : decode cX10_hears 30 = .ok (.invokevirtual 141, 3) := db143.2.2.2.2.2.2.2.2.2.2.2.2.2.2.2.2.1
theorem dX10_hears_33 : decode cX10_hears 33 = .ok (.ireturn, 1) := db143.2.2.2.2.2.2.2.2.2.2.2.2.2.2.2.2.2
theorem db144 : (decode cX10_here 0 = .ok (.aload_n 0, 1)) ∧ (decode cX10_here 1 = .ok (.invokevirtual 152, 3)) ∧ (decode cX10_here 4 = .ok (.ifCond .eq 13, 3)) ∧ (decode cX10_here 17 = .ok (.bipush (-2), 2)) ∧ (decode cX10_here 19 = .ok (.ireturn, 1)) ∧ (decode cX10_here 7 = .ok (.aload_n 0, 1)) ∧ (decode cX10_here 8 = .ok (.getfield 48, 3)) ∧ (decode cX10_here 11 = .ok (.invokevirtual 165, 3)) ∧ (decode cX10_here 14 = .ok (.goto 5, 3)) := by decide +kernel
theorem dX10_here_0 : decode cX10_here 0 = .ok (.aload_n 0, 1) := db144.1
theorem dX10_here_1 : decode cX10_here 1 = .ok (.invokevirtual 152, 3) := db144.2.1
theorem dX10_here_4 : decode cX10_here 4 = .ok (.ifCond .eq 13, 3) := db144.2.2.1
theorem dX10_here_17 : decode cX10_here 17 = .ok (.bipush (-2), 2) := db144.2.2.2.1
theorem dX10_here_19 : decode cX10_here 19 = .ok (.ireturn, 1) := db144.2.2.2.2.1
theorem dX10_here_7 : decode cX10_here 7 = .ok (.aload_n 0, 1) := db144.2.2.2.2.2.1
theorem dX10_here_8 : decode cX10_here 8 = .ok (.getfield 48, 3) := db144.2.2.2.2.2.2.1
theorem dX10_here_11 : decode cX10_here 11 = .ok (.invokevirtual 165, 3) := db144.2.2.2.2.2.2.2.1
theorem dX10_here_14 : decode cX10_here 14 = .ok (.goto 5, 3) := db144.2.2.2.2.2.2.2.2
theorem db145 : (decode cX10_house 0 = .ok (.aload_n 0, 1)) ∧ (decode cX10_house 1 = .ok (.getfield 10, 3)) ∧ (decode cX10_house 4 = .ok (.aload_n 0, 1)) ∧ (decode cX10_house 5 = .ok (.getfield 24, 3)) ∧ (decode cX10_house 8 = .ok (.invokevirtual 94, 3)) ∧ (decode cX10_house 11 = .ok (.ifCond .ne 6, 3)) ∧ (decode cX10_house 17 = .ok (.aload_n 0, 1)) ∧ (decode cX10_house 18 = .ok (.getfield 20, 3)) ∧ (decode cX10_house 21 = .ok (.iconst 0, 1)) ∧ (decode cX10_house 22 = .ok (.putfield 84, 3)) ∧ (decode cX10_house 25 = .ok (.aload_n 0, 1)) ∧ (decode cX10_house 26 = .ok (.getfield 31, 3)) ∧ (decode cX10_house 29 = .ok (.getfield 98, 3)) ∧ (decode cX10_house 32 = .ok (.aload_n 0, 1)) ∧ (decode cX10_house 33 = .ok (.getfield 24, 3)) ∧ (decode cX10_house 36 = .ok (.invokevirtual 101, 3)) ∧ (decode cX10_house 39 = .ok (.aload_n 0, 1)) ∧ (decode cX10_house 40 = .ok (.getfield 31, 3)) ∧ (decode cX10_house 43 = .ok (.iconst 0, 1)) ∧ (decode cX10_house 44 = .ok (.putfield 105, 3)) ∧ (decode cX10_house 47 = .ok (.aload_n 0, 1)) ∧ (decode cX10_house 48 = .ok (.invokevirtual 108, 3)) ∧ (decode cX10_house 51 = .ok (.aload_n 0, 1)) ∧ (decode cX10_house 52 = .ok (.getfield 31, 3)) := by decide +kernel
theorem dX10_house_0 : decode cX10_house 0 = .ok (.aload_n 0, 1) := db145.1
theorem dX10_house_1 : decode cX10_house 1 = .ok (.getfield 10, 3) := db145.2.1
theorem dX10_house_4 : decode cX10_house 4 = .ok (.aload_n 0, 1) := db145.2.2.1
theorem dX10_house_5 : decode cX10_house 5 = .ok (.getfield 24, 3) := db145.2.2.2.1
theorem dX10_house_8 : decode cX10_house 8 = .ok (.invokevirtual 94, 3) := db145.2.2.2.2.1
theorem dX10_house_11 : decode cX10_house 11 = .ok (.ifCond .ne 6, 3) := db145.2.2.2.2.2.1
theorem dX10_house_17 : decode cX10_house 17 = .ok (.aload_n 0, 1) := db145.2.2.2.2.2.2.1
theorem dX10_house_18 : decode cX10_house 18 = .ok (.getfield 20, 3) := db145.2.2.2.2.2.2.2.1
theorem dX10_house_21 : decode cX10_house 21 = .ok (.iconst 0, 1) := db145.2.2.2.2.2.2.2.2.1
theorem dX10_house_22 : decode cX10_house 22 = .ok (.putfield 84, 3) := db145.2.2.2.2.2.2.2.2.2.1
theorem dX10_house_25 : decode cX10_house 25 = .ok (.aload_n 0, 1) := db145.2.2.2.2.2.2.2.2.2.2.1
theorem dX10_house_26 : decode cX10_house 26 = .ok (.getfield 31, 3) := db145.2.2.2.2.2.2.2.2.2.2.2.1
theorem dX10_house_29 : decode cX10_house 29 = .ok (.getfield 98, 3) := db145.2.2.2.2.2.2.2.2.2.2.2.2.1
theorem dX10_house_32 : decode cX10_house 32 = .ok (.aload_n 0, 1) := db145.2.2.2.2.2.2.2.2.2.2.2.2.2.1
theorem dX10_house_33 : decode cX10_house 33 = .ok (.getfield 24, 3) := db145.2.2.2.2.2.2.2.2.2.2.2.2.2.2.1
theorem dX10_house_36 : decode cX10_house 36 = .ok (.invokevirtual 101, 3) := db145.2.2.2.2.2.2.2.2.2.2.2.2.2.2.2.1
theorem dX10_house_39 : decode cX10_house 39 = .ok (.aload_n 0, 1) := db145.2.2.2.2.2.2.2.2.2.2.2.2.2.2.2.2.1
theorem dX10_house_40 : decode cX10_house 40 = .ok (.getfield 31, 3) := db145.2.2.2.2.2.2.2.2.2.2.2.2.2.2.2.2.2.1
theorem dX10_house_43 : decode cX10_house 43 = .ok (.iconst 0, 1) := db145.2.2.2.2.2.2.2.2.2.2.2.2.2.2.2.2.2.2.1
theorem dX10_house_44 : decode cX10_house 44 = .ok (.putfield 105, 3) := db145.2.2.2.2.2.2.2.2.2.2.2.2.2.2.2.2.2.2.2.1
theorem dX10_house_47 : decode cX10_house 47 = .ok (.aload_n 0, 1) := db145.2.2.2.2.2.2.2.2.2.2.2.2.2.2.2.2.2.2.2.2.1
theorem dX10_house_48 : decode cX10_house 48 = .ok (.invokevirtual 108, 3) := db145.2.2.2.2.2.2.2.2.2.2.2.2.2.2.2.2.2.2.2.2.2.1
theorem dX10_house_51 : decode cX10_house 51 = .ok (.aload_n 0, 1) := db145.2.2.2.2.2.2.2.2.2.2.2.2.2.2.2.2.2.2.2.2.2.2.1
theorem dX10_house_52 : decode cX10_house 52 = .ok (.getfield 31, 3) := db145.2.2.2.2.2.2.2.2.2.2.2.2.2.2.2.2.2.2.2.2.2.2.2
theorem db146 : (decode cX10_house 55 = .ok (.getfield 98, 3)) ∧ (decode cX10_house 58 = .ok (.getfield 111, 3)) ∧ (decode cX10_house 61 = .ok (.ireturn, 1)) ∧ (decode cX10_house 14 = .ok (.bipush (-4), 2)) ∧ (decode cX10_house 16 = .ok (.ireturn, 1)) := by decide +kernel
theorem dX10_house_55 : decode cX10_house 55 = .ok (.getfield 98, 3) := db146.1
theorem dX10_house_58 : decode cX10_house 58 = .ok (.getfield 111, 3) := db146.2.1
theorem dX10_house_61 : decode cX10_house 61 = .ok (.ireturn, 1) := db146.2.2.1
theorem dX10_house_14 : decode cX10_house 14 = .ok (.bipush (-4), 2) := db146.2.2.2.1
theorem dX10_house_16 : decode cX10_house 16 = .ok (.ireturn, 1) := db146.2.2.2.2
theorem db147 : (decode cX10_image 0 = .ok (.iload_n 1, 1)) ∧ (decode cX10_image 1 = .ok (.ifCond .lt 8, 3)) ∧ (decode cX10_image 4 = .ok (.iload_n 1, 1)) ∧ (decode cX10_image 5 = .ok (.iconst 3, 1)) ∧ (decode cX10_image 6 = .ok (.if_icmp .lt 6, 3)) ∧ (decode cX10_image 12 = .ok (.aload_n 0, 1)) ∧ (decode cX10_image 13 = .ok (.getfield 35, 3)) ∧ (decode cX10_image 16 = .ok (.iload_n 1, 1)) ∧ (decode cX10_image 17 = .ok (.aaload, 1)) ∧ (decode cX10_image 18 = .ok (.aload_n 0, 1)) ∧ (decode cX10_image 19 = .ok (.getfield 31, 3)) ∧ (decode cX10_image 22 = .ok (.invokevirtual 341, 3)) ∧ (decode cX10_image 25 = .ok (.aload_n 0, 1)) ∧ (decode cX10_image 26 = .ok (.getfield 35, 3)) ∧ (decode cX10_image 29 = .ok (.iload_n 1, 1)) ∧ (decode cX10_image 30 = .ok (.aaload, 1)) ∧ (decode cX10_image 31 = .ok (.iconst 1, 1)) ∧ (decode cX10_image 32 = .ok (.putfield 344, 3)) ∧ (decode cX10_image 35 = .ok (.iconst 0, 1)) ∧ (decode cX10_image 36 = .ok (.ireturn, 1)) ∧ (decode cX10_image 9 = .ok (.bipush (-2), 2)) ∧ (decode cX10_image 11 = .ok (.ireturn, 1)) := by decide +kernel
theorem dX10_image_0 : decode cX10_image 0 = .ok (.iload_n 1, 1) := db147.1
theorem dX10_image_1 : decode cX10_image 1 = .ok (.ifCond .lt 8, 3) := db147.2.1
theorem dX10_image_4 : decode cX10_image 4 = .ok (.iload_n 1, 1) := db147.2.2.1
theorem dX10_image_5 : decode cX10_image 5 = .ok (.iconst 3, 1) := db147.2.2.2.1
theorem dX10_image_6 : decode cX10_image 6 = .ok (.if_icmp .lt 6, 3) := db147.2.2.2.2.1
theorem dX10_image_12 : decode cX10_image 12 = .ok (.aload_n 0, 1) := db147.2.2.2.2.2.1
theorem dX10_image_13 : decode cX10_image 13 = .ok (.getfield 35, 3) := db147.2.2.2.2.2.2.1
theorem dX10_image_16 : decode cX10_image 16 = .ok (.iload_n 1, 1) := db147.2.2.2.2.2.2.2.1
theorem dX10_image_17 : decode cX10_image 17 = .ok (.aaload, 1) := db147.2.2.2.2.2.2.2.2.1
theorem dX10_image_18 : decode cX10_image 18 = .ok (.aload_n 0, 1) := db147.2.2.2.2.2.2.2.2.2.1
theorem dX10_image_19 : decode cX10_image 19 = .ok (.getfield 31, 3) := db147.2.2.2.2.2.2.2.2.2.2.1
theorem dX10_image_22 : decode cX10_image 22 = .ok (.invokevirtual 341, 3) := db147.2.2.2.2.2.2.2.2.2.2.2.1
theorem dX10_image_25 : decode cX10_image 25 = .ok (.aload_n 0, 1) := db147.2.2.2.2.2.2.2.2.2.2.2.2.1
theorem dX10_image_26 : decode cX10_image 26 = .ok (.getfield 35, 3) := db147.2.2.2.2.2.2.2.2.2.2.2.2.2.1
theorem dX10_image_29 : decode cX10_image 29 = .ok (.iload_n 1, 1) := db147.2.2.2.2.2.2.2.2.2.2.2.2.2.2.1
theorem dX10_image_30 : decode cX10_image 30 = .ok (.aaload, 1) := db147.2.2.2.2.2.2.2.2.2.2.2.2.2.2.2.1
theorem dX10_image_31 : decode cX10_image 31 = .ok (.iconst 1, 1) := db147.2.2.2.2.2.2.2.2.2.2.2.2.2.2.2.2.1
theorem dX10_image_32 : decode cX10_image 32 = .ok (.putfield 344, 3) := db147.2.2.2.2.2.2.2.2.2.2.2.2.2.2.2.2.2.1
theorem dX10_image_35 : decode cX10_image 35 = .ok (.iconst 0, 1) := db147.2.2.2.2.2.2.2.2.2.2.2.2.2.2.2.2.2.2.1
theorem dX10_image_36 : decode cX10_image 36 = .ok (.ireturn, 1) := db147.2.2.2.2.2.2.2.2.2.2.2.2.2.2.2.2.2.2.2.1
theorem dX10_image_9 : decode cX10_image 9 = .ok (.bipush (-2), 2) := db147.2.2.2.2.2.2.2.2.2.2.2.2.2.2.2.2.2.2.2.2.1
theorem dX10_image_11 : decode cX10_image 11 = .ok (.ireturn, 1) := db147.2.2.2.2.2.2.2.2.2.2.2.2.2.2.2.2.2.2.2.2.2
theorem db148 : (decode cX10_init 0 = .ok (.aload_n 0, 1)) ∧ (decode cX10_init 1 = .ok (.invokespecial 1, 3)) ∧ (decode cX10_init 4 = .ok (.aload_n 0, 1)) ∧ (decode cX10_init 5 = .ok (.new 7, 3)) ∧ (decode cX10_init 8 = .ok (.dup, 1)) ∧ (decode cX10_init 9 = .ok (.invokespecial 9, 3)) ∧ (decode cX10_init 12 = .ok (.putfield 10, 3)) ∧ (decode cX10_init 15 = .ok (.aload_n 0, 1)) ∧ (decode cX10_init 16 = .ok (.aload_n 0, 1)) ∧ (decode cX10_init 17 = .ok (.getfield 10, 3)) ∧ (decode cX10_init 20 = .ok (.getfield 16, 3)) ∧ (decode cX10_init 23 = .ok (.putfield 20, 3)) ∧ (decode cX10_init 26 = .ok (.aload_n 0, 1)) ∧ (decode cX10_init 27 = .ok (.new 21, 3)) ∧ (decode cX10_init 30 = .ok (.dup, 1)) ∧ (decode cX10_init 31 = .ok (.invokespecial 23, 3)) ∧ (decode cX10_init 34 = .ok (.putfield 24, 3)) ∧ (decode cX10_init 37 = .ok (.aload_n 0, 1)) ∧ (decode cX10_init 38 = .ok (.new 28, 3)) ∧ (decode cX10_init 41 = .ok (.dup, 1)) ∧ (decode cX10_init 42 = .ok (.invokespecial 30, 3)) ∧ (decode cX10_init 45 = .ok (.putfield 31, 3)) ∧ (decode cX10_init 48 = .ok (.aload_n 0, 1)) ∧ (decode cX10_init 49 = .ok (.iconst 3, 1)) := by decide +kernel
theorem dX10_init_0 : decode cX10_init 0 = .ok (.aload_n 0, 1) := db148.1
theorem dX10_init_1 : decode cX10_init 1 = .ok (.invokespecial 1, 3) := db148.2.1
theorem dX10_init_4 : decode cX10_init 4 = .ok (.aload_n 0, 1) := db148.2.2.1
theorem dX10_init_5 : decode cX10_init 5 = .ok (.new 7, 3) := db148.2.2.2.1
theorem dX10_init_8 : decode cX10_init 8 = .ok (.dup, 1) := db148.2.2.2.2.1
theorem dX10_init_9 : decode cX10_init 9 = .ok (.invokespecial 9, 3) := db148.2.2.2.2.2.1
theorem dX10_init_12 : decode cX10_init 12 = .ok (.putfield 10, 3) := db148.2.2.2.2.2.2.1
theorem dX10_init_15 : decode cX10_init 15 = .ok (.aload_n 0, 1) := db148.2.2.2.2.2.2.2.1
theorem dX10_init_16 : decode cX10_init 16 = .ok (.aload_n 0, 1) := db148.2.2.2.2.2.2.2.2.1
theorem dX10_init_17 : decode cX10_init 17 = .ok (.getfield 10, 3) := db148.2.2.2.2.2.2.2.2.2.1
theorem dX10_init_20 : decode cX10_init 20 = .ok (.getfield 16, 3) := db148.2.2.2.2.2.2.2.2.2.2.1
theorem dX10_init_23 : decode cX10_init 23 = .ok (.putfield 20, 3) := db148.2.2.2.2.2.2.2.2.2.2.2.1
theorem dX10_init_26 : decode cX10_init 26 = .ok (.aload_n 0, 1) := db148.2.2.2.2.2.2.2.2.2.2.2.2.1
theorem dX10_init_27 : decode cX10_init 27 = .ok (.new 21, 3) := db148.2.2.2.2.2.2.2.2.2.2.2.2.2.1
theorem dX10_init_30 : decode cX10_init 30 = .ok (.dup, 1) := db148.2.2.2.2.2.2.2.2.2.2.2.2.2.2.1
theorem dX10_init_31 : decode cX10_init 31 = .ok (.invokespecial 23, 3) := db148.2.2.2.2.2.2.2.2.2.2.2.2.2.2.2.1
theorem dX10_init_34 : decode cX10_init 34 = .ok (.putfield 24, 3) := db148.2.2.2.2.2.2.2.2.2.2.2.2.2.2.2.2.1
theorem dX10_init_37 : decode cX10_init 37 = .ok (.aload_n 0, 1) := db148.2.2.2.2.2.2.2.2.2.2.2.2.2.2.2.2.2.1
theorem dX10_init_38 : decode cX10_init 38 = .ok (.new 28, 3) := db148.2.2.2.2.2.2.2.2.2.2.2.2.2.2.2.2.2.2.1
theorem dX10_init_41 : decode cX10_init 41 = .ok (.dup, 1) := db148.2.2.2.2.2.2.2.2.2.2.2.2.2.2.2.2.2.2.2.1
theorem dX10_init_42 : decode cX10_init 42 = .ok (.invokespecial 30, 3) := db148.2.2.2.2.2.2.2.2.2.2.2.2.2.2.2.2.2.2.2.2.1
theorem dX10_init_45 : decode cX10_init 45 = .ok (.putfield 31, 3) := db148.2.2.2.2.2.2.2.2.2.2.2.2.2.2.2.2.2.2.2.2.2.1
theorem dX10_init_48 : decode cX10_init 48 = .ok (.aload_n 0, 1) := db148.2.2.2.2.2.2.2.2.2.2.2.2.2.2.2.2.2.2.2.2.2.2.1
theorem dX10_init_49 : decode cX10_init 49 = .ok (.iconst 3, 1) := db148.2.2.2.2.2.2.2.2.2.2.2.2.2.2.2.2.2.2.2.2.2.2.2
theorem db149 : (decode cX10_init 50 = .ok (.anewarray 28, 3)) ∧ (decode cX10_init 53 = .ok (.putfield 35, 3)) ∧ (decode cX10_init 56 = .ok (.aload_n 0, 1)) ∧ (decode cX10_init 57 = .ok (.iconst 4, 1)) ∧ (decode cX10_init 58 = .ok (.anewarray 39, 3)) ∧ (decode cX10_init 61 = .ok (.putfield 41, 3)) ∧ (decode cX10_init 64 = .ok (.aload_n 0, 1)) ∧ (decode cX10_init 65 = .ok (.new 45, 3)) ∧ (decode cX10_init 68 = .ok (.dup, 1)) ∧ (decode cX10_init 69 = .ok (.invokespecial 47, 3)) ∧ (decode cX10_init 72 = .ok (.putfield 48, 3)) ∧ (decode cX10_init 75 = .ok (.aload_n 0, 1)) ∧ (decode cX10_init 76 = .ok (.new 45, 3)) ∧ (decode cX10_init 79 = .ok (.dup, 1)) ∧ (decode cX10_init 80 = .ok (.invokespecial 47, 3)) ∧ (decode cX10_init 83 = .ok (.putfield 52, 3)) ∧ (decode cX10_init 86 = .ok (.aload_n 0, 1)) ∧ (decode cX10_init 87 = .ok (.new 55, 3)) ∧ (decode cX10_init 90 = .ok (.dup, 1)) ∧ (decode cX10_init 91 = .ok (.invokespecial 57, 3)) ∧ (decode cX10_init 94 = .ok (.putfield 58, 3)) ∧ (decode cX10_init 97 = .ok (.aload_n 0, 1)) ∧ (decode cX10_init 98 = .ok (.new 62, 3)) ∧ (decode cX10_init 101 = .ok (.dup, 1)) := by decide +kernel
theorem dX10_init_50 : decode cX10_init 50 = .ok (.anewarray 28, 3) := db149.1
theorem dX10_init_53 : decode cX10_init 53 = .ok (.putfield 35, 3) := db149.2.1
theorem dX10_init_56 : decode cX10_init 56 = .ok (.aload_n 0, 1) := db149.2.2.1
theorem dX10_init_57 : decode cX10_init 57 = .ok (.iconst 4, 1) := db149.2.2.2.1
theorem dX10_init_58 : decode cX10_init 58 = .ok (.anewarray 39, 3) := db149.2.2.2.2.1
theorem dX10_init_61 : decode cX10_init 61 = .ok (.putfield 41, 3) := db149.2.2.2.2.2.1
theorem dX10_init_64 : decode cX10_init 64 = .ok (.aload_n 0, 1) := db149.2.2.2.2.2.2.1
theorem dX10_init_65 : decode cX10_init 65 = .ok (.new 45, 3) := db149.2.2.2.2.2.2.2.1
theorem dX10_init_68 : decode cX10_init 68 = .ok (.dup, 1) := db149.2.2.2.2.2.2.2.2.1
theorem dX10_init_69 : decode cX10_init 69 = .ok (.invokespecial 47, 3) := db149.2.2.2.2.2.2.2.2.2.1
theorem dX10_init_72 : decode cX10_init 72 = .ok (.putfield 48, 3) := db149.2.2.2.2.2.2.2.2.2.2.1
theorem dX10_init_75 : decode cX10_init 75 = .ok (.aload_n 0, 1) := db149.2.2.2.2.2.2.2.2.2.2.2.1
theorem dX10_init_76 : decode cX10_init 76 = .ok (.new 45, 3) := db149.2.2.2.2.2.2.2.2.2.2.2.2.1
theorem dX10_init_79 : decode cX10_init 79 = .ok (.dup, 1) := db149.2.2.2.2.2.2.2.2.2.2.2.2.2.1
theorem dX10_init_80 : decode cX10_init 80 = .ok (.invokespecial 47, 3) := db149.2.2.2.2.2.2.2.2.2.2.2.2.2.2.1
theorem dX10_init_83 : decode cX10_init 83 = .ok (.putfield 52, 3) := db149.2.2.2.2.2.2.2.2.2.2.2.2.2.2.2.1
theorem dX10_init_86 : decode cX10_init 86 = .ok (.aload_n 0, 1) := db149.2.2.2.2.2.2.2.2.2.2.2.2.2.2.2.2.1
theorem dX10_init_87 : decode cX10_init 87 = .ok (.new 55, 3) := db149.2.2.2.2.2.2.2.2.2.2.2.2.2.2.2.2.2.1
theorem dX10_init_90 : decode cX10_init 90 = .ok (.dup, 1) := db149.2.2.2.2.2.2.2.2.2.2.2.2.2.2.2.2.2.2.1
theorem dX10_init_91 : decode cX10_init 91 = .ok (.invokespecial 57, 3) := db149.2.2.2.2.2.2.2.2.2.2.2.2.2.2.2.2.2.2.2.1
theorem dX10_init_94 : decode cX10_init 94 = .ok (.putfield 58, 3) := db149.2.2.2.2.2.2.2.2.2.2.2.2.2.2.2.2.2.2.2.2.1
theorem dX10_init_97 : decode cX10_init 97 = .ok (.aload_n 0, 1) := db149.2.2.2.2.2.2.2.2.2.2.2.2.2.2.2.2.2.2.2.2.2.1
theorem dX10_init_98 : decode cX10_init 98 = .ok (.new 62, 3) := db149.2.2.2.2.2.2.2.2.2.2.2.2.2.2.2.2.2.2.2.2.2.2.1
theorem dX10_init_101 : decode cX10_init 101 = .ok (.dup, 1) := db149.2.2.2.2.2.2.2.2.2.2.2.2.2.2.2.2.2.2.2.2.2.2.2
theorem db150 : (decode cX10_init 102 = .ok (.invokespecial 64, 3)) ∧ (decode cX10_init 105 = .ok (.putfield 65, 3)) ∧ (decode cX10_init 108 = .ok (.aload_n 0, 1)) ∧ (decode cX10_init 109 = .ok (.new 69, 3)) ∧ (decode cX10_init 112 = .ok (.dup, 1)) ∧ (decode cX10_init 113 = .ok (.invokespecial 71, 3)) ∧ (decode cX10_init 116 = .ok (.putfield 72, 3)) ∧ (decode cX10_init 119 = .ok (.aload_n 0, 1)) ∧ (decode cX10_init 120 = .ok (.new 76, 3)) ∧ (decode cX10_init 123 = .ok (.dup, 1)) ∧ (decode cX10_init 124 = .ok (.invokespecial 78, 3)) ∧ (decode cX10_init 127 = .ok (.putfield 79, 3)) ∧ (decode cX10_init 130 = .ok (.iconst 0, 1)) ∧ (decode cX10_init 131 = .ok (.istore_n 1, 1)) ∧ (decode cX10_init 132 = .ok (.iload_n 1, 1)) ∧ (decode cX10_init 133 = .ok (.iconst 3, 1)) ∧ (decode cX10_init 134 = .ok (.if_icmp .ge 22, 3)) ∧ (decode cX10_init 137 = .ok (.aload_n 0, 1)) ∧ (decode cX10_init 138 = .ok (.getfield 35, 3)) ∧ (decode cX10_init 141 = .ok (.iload_n 1, 1)) ∧ (decode cX10_init 142 = .ok (.new 28, 3)) ∧ (decode cX10_init 145 = .ok (.dup, 1)) ∧ (decode cX10_init 146 = .ok (.invokespecial 30, 3)) ∧ (decode cX10_init 149 = .ok (.aastore, 1)) := by decide +kernel
theorem dX10_init_102 : decode cX10_init 102 = .ok (.invokespecial 64, 3) := db150.1
theorem dX10_init_105 : decode cX10_init 105 = .ok (.putfield 65, 3) := db150.2.1
theorem dX10_init_108 : decode cX10_init 108 = .ok (.aload_n 0, 1) := db150.2.2.1
theorem dX10_init_109 : decode cX10_init 109 = .ok (.new 69, 3) := db150.2.2.2.1
theorem dX10_init_112 : decode cX10_init 112 = .ok (.dup, 1) := db150.2.2.2.2.1
theorem dX10_init_113 : decode cX10_init 113 = .ok (.invokespecial 71, 3) := db150.2.2.2.2.2.1
theorem dX10_init_116 : decode cX10_init 116 = .ok (.putfield 72, 3) := db150.2.2.2.2.2.2.1
theorem dX10_init_119 : decode cX10_init 119 = .ok (.aload_n 0, 1) := db150.2.2.2.2.2.2.2.1
theorem dX10_init_120 : decode cX10_init 120 = .ok (.new 76, 3) := db150.2.2.2.2.2.2.2.2.1
theorem dX10_init_123 : decode cX10_init 123 = .ok (.dup, 1) := db150.2.2.2.2.2.2.2.2.2.1
theorem dX10_init_124 : decode cX10_init 124 = .ok (.invokespecial 78, 3) := db150.2.2.2.2.2.2.2.2.2.2.1
theorem dX10_init_127 : decode cX10_init 127 = .ok (.putfield 79, 3) := db150.2.2.2.2.2.2.2.2.2.2.2.1
theorem dX10_init_130 : decode cX10_init 130 = .ok (.iconst 0, 1) := db150.2.2.2.2.2.2.2.2.2.2.2.2.1
theorem dX10_init_131 : decode cX10_init 131 = .ok (.istore_n 1, 1) := db150.2.2.2.2.2.2.2.2.2.2.2.2.2.1
theorem dX10_init_132 : decode cX10_init 132 = .ok (.iload_n 1, 1) := db150.2.2.2.2.2.2.2.2.2.2.2.2.2.2.1
theorem dX10_init_133 : decode cX10_init 133 = .ok (.iconst 3, 1) := db150.2.2.2.2.2.2.2.2.2.2.2.2.2.2.2.1
theorem dX10_init_134 : decode cX10_init 134 = .ok (.if_icmp .ge 22, 3) := db150.2.2.2.2.2.2.2.2.2.2.2.2.2.2.2.2.1
theorem dX10_init_137 : decode cX10_init 137 = .ok (.aload_n 0, 1) := db150.2.2.2.2.2.2.2.2.2.2.2.2.2.2.2.2.2.1
theorem dX10_init_138 : decode cX10_init 138 = .ok (.getfield 35, 3) := db150.2.2.2.2.2.2.2.2.2.2.2.2.2.2.2.2.2.2.1
theorem dX10_init_141 : decode cX10_init 141 = .ok (.iload_n 1, 1) := db150.2.2.2.2.2.2.2.2.2.2.2.2.2.2.2.2.2.2.2.1
theorem dX10_init_142 : decode cX10_init 142 = .ok (.new 28, 3) := db150.2.2.2.2.2.2.2.2.2.2.2.2.2.2.2.2.2.2.2.2.1
theorem dX10_init_145 : decode cX10_init 145 = .ok (.dup, 1) := db150.2.2.2.2.2.2.2.2.2.2.2.2.2.2.2.2.2.2.2.2.2.1
theorem dX10_init_146 : decode cX10_init 146 = .ok (.invokespecial 30, 3) := db150.2.2.2.2.2.2.2.2.2.2.2.2.2.2.2.2.2.2.2.2.2.2.1
theorem dX10_init_149 : decode cX10_init 149 = .ok (.aastore, 1) := db150.2.2.2.2.2.2.2.2.2.2.2.2.2.2.2.2.2.2.2.2.2.2.2
theorem db151 : (decode cX10_init 150 = .ok (.iinc 1 1, 3)) ∧ (decode cX10_init 153 = .ok (.goto (-21), 3)) ∧ (decode cX10_init 156 = .ok (.iconst 0, 1)) ∧ (decode cX10_init 157 = .ok (.istore_n 1, 1)) ∧ (decode cX10_init 158 = .ok (.iload_n 1, 1)) ∧ (decode cX10_init 159 = .ok (.iconst 4, 1)) ∧ (decode cX10_init 160 = .ok (.if_icmp .ge 22, 3)) ∧ (decode cX10_init 163 = .ok (.aload_n 0, 1)) ∧ (decode cX10_init 164 = .ok (.getfield 41, 3)) ∧ (decode cX10_init 167 = .ok (.iload_n 1, 1)) ∧ (decode cX10_init 168 = .ok (.new 39, 3)) ∧ (decode cX10_init 171 = .ok (.dup, 1)) ∧ (decode cX10_init 172 = .ok (.invokespecial 83, 3)) ∧ (decode cX10_init 175 = .ok (.aastore, 1)) ∧ (decode cX10_init 176 = .ok (.iinc 1 1, 3)) ∧ (decode cX10_init 179 = .ok (.goto (-21), 3)) ∧ (decode cX10_init 182 = .ok (.return_, 1)) := by decide +kernel
theorem dX10_init_150 : decode cX10_init 150 = .ok (.iinc 1 1, 3) := db151.1
theorem dX10_init_153 : decode cX10_init 153 = .ok (.goto (-21), 3) := db151.2.1
theorem dX10_init_156 : decode cX10_init 156 = .ok (.iconst 0, 1) := db151.2.2.1
theorem dX10_init_157 : decode cX10_init 157 = .ok (.istore_n 1, 1) := db151.2.2.2.1
theorem dX10_init_158 : decode cX10_init 158 = .ok (.iload_n 1, 1) := db151.2.2.2.2.1
theorem dX10_init_159 : decode cX10_init 159 = .ok (.iconst 4, 1) := db151.2.2.2.2.2.1
theorem dX10_init_160 : decode cX10_init 160 = .ok (.if_icmp .ge 22, 3) := db151.2.2.2.2.2.2.1
theorem dX10_init_163 : decode cX10_init 163 = .ok (.aload_n 0, 1) := db151.2.2.2.2.2.2.2.1
theorem dX10_init_164 : decode cX10_init 164 = .ok (.getfield 41, 3) := db151.2.2.2.2.2.2.2.2.1
theorem dX10_init_167 : decode cX10_init 167 = .ok (.iload_n 1, 1) := db151.2.2.2.2.2.2.2.2.2.1
theorem dX10_init_168 : decode cX10_init 168 = .ok (.new 39, 3) := db151.2.2.2.2.2.2.2.2.2.2.1
theorem dX10_init_171 : decode cX10_init 171 = .ok (.dup, 1) := db151.2.2.2.2.2.2.2.2.2.2.2.1
theorem dX10_init_172 : decode cX10_init 172 = .ok (.invokespecial 83, 3) := db151.2.2.2.2.2.2.2.2.2.2.2.2.1
theorem dX10_init_175 : decode cX10_init 175 = .ok (.aastore, 1) := db151.2.2.2.2.2.2.2.2.2.2.2.2.2.1
theorem dX10_init_176 : decode cX10_init 176 = .ok (.iinc 1 1, 3) := db151.2.2.2.2.2.2.2.2.2.2.2.2.2.2.1
theorem dX10_init_179 : decode cX10_init 179 = .ok (.goto (-21), 3) := db151.2.2.2.2.2.2.2.2.2.2.2.2.2.2.2.1
theorem dX10_init_182 : decode cX10_init 182 = .ok (.return_, 1) := db151.2.2.2.2.2.2.2.2.2.2.2.2.2.2.2.2
theorem db152 : (decode cX10_isBestLength 0 = .ok (.iload_n 1, 1)) ∧ (decode cX10_isBestLength 1 = .ok (.ifCond .lt 12, 3)) ∧ (decode cX10_isBestLength 13 = .ok (.iconst 0, 1)) ∧ (decode cX10_isBestLength 14 = .ok (.ireturn, 1)) ∧ (decode cX10_isBestLength 4 = .ok (.iload_n 1, 1)) ∧ (decode cX10_isBestLength 5 = .ok (.iconst 5, 1)) ∧ (decode cX10_isBestLength 6 = .ok (.if_icmp .gt 7, 3)) ∧ (decode cX10_isBestLength 9 = .ok (.iconst 1, 1)) ∧ (decode cX10_isBestLength 10 = .ok (.goto 4, 3)) := by decide +kernel
theorem dX10_isBestLength_0 : decode cX10_isBestLength 0 = .ok (.iload_n 1, 1) := db152.1
theorem dX10_isBestLength_1 : decode cX10_isBestLength 1 = .ok (.ifCond .lt 12, 3) := db152.2.1
theorem dX10_isBestLength_13 : decode cX10_isBestLength 13 = .ok (.iconst 0, 1) := db152.2.2.1
theorem dX10_isBestLength_14 : decode cX10_isBestLength 14 = .ok (.ireturn, 1) := db152.2.2.2.1
theorem dX10_isBestLength_4 : decode cX10_isBestLength 4 = .ok (.iload_n 1, 1) := db152.2.2.2.2.1
theorem dX10_isBestLength_5 : decode cX10_isBestLength 5 = .ok (.iconst 5, 1) := db152.2.2.2.2.2.1
theorem dX10_isBestLength_6 : decode cX10_isBestLength 6 = .ok (.if_icmp .gt 7, 3) := db152.2.2.2.2.2.2.1
theorem dX10_isBestLength_9 : decode cX10_isBestLength 9 = .ok (.iconst 1, 1) := db152.2.2.2.2.2.2.2.1
theorem dX10_isBestLength_10 : decode cX10_isBestLength 10 = .ok (.goto 4, 3) := db152.2.2.2.2.2.2.2.2
theorem db153 : (decode cX10_isMan 0 = .ok (.iload_n 1, 1)) ∧ (decode cX10_isMan 1 = .ok (.ifCond .lt 21, 3)) ∧ (decode cX10_isMan 22 = .ok (.iconst 0, 1)) ∧ (decode cX10_isMan 23 = .ok (.ireturn, 1)) ∧ (decode cX10_isMan 4 = .ok (.iload_n 1, 1)) ∧ (decode cX10_isMan 5 = .ok (.aload_n 0, 1)) ∧ (decode cX10_isMan 6 = .ok (.getfield 31, 3)) ∧ (decode cX10_isMan 9 = .ok (.getfield 98, 3)) ∧ (decode cX10_isMan 12 = .ok (.getfield 283, 3)) ∧ (decode cX10_isMan 15 = .ok (.if_icmp .ge 7, 3)) ∧ (decode cX10_isMan 18 = .ok (.iconst 1, 1)) ∧ (decode cX10_isMan 19 = .ok (.goto 4, 3)) := by decide +kernel
theorem dX10_isMan_0 : decode cX10_isMan 0 = .ok (.iload_n 1, 1) := db153.1
theorem dX10_isMan_1 : decode cX10_isMan 1 = .ok (.ifCond .lt 21, 3) := db153.2.1
theorem dX10_isMan_22 : decode cX10_isMan 22 = .ok (.iconst 0, 1) := db153.2.2.1
theorem dX10_isMan_23 : decode cX10_isMan 23 = .ok (.ireturn, 1) := db153.2.2.2.1
theorem dX10_isMan_4 : decode cX10_isMan 4 = .ok (.iload_n 1, 1) := db153.2.2.2.2.1
theorem dX10_isMan_5 : decode cX10_isMan 5 = .ok (.aload_n 0, 1) := db153.2.2.2.2.2.1
theorem dX10_isMan_6 : decode cX10_isMan 6 = .ok (.getfield 31, 3) := db153.2.2.2.2.2.2.1
theorem dX10_isMan_9 : decode cX10_isMan 9 = .ok (.getfield 98, 3) := db153.2.2.2.2.2.2.2.1
theorem dX10_isMan_12 : decode cX10_isMan 12 = .ok (.getfield 283, 3) := db153.2.2.2.2.2.2.2.2.1
theorem dX10_isMan_15 : decode cX10_isMan 15 = .ok (.if_icmp .ge 7, 3) := db153.2.2.2.2.2.2.2.2.2.1
theorem dX10_isMan_18 : decode cX10_isMan 18 = .ok (.iconst 1, 1) := db153.2.2.2.2.2.2.2.2.2.2.1
theorem dX10_isMan_19 : decode cX10_isMan 19 = .ok (.goto 4, 3) := db153.2.2.2.2.2.2.2.2.2.2.2
theorem db154 : (decode cX10_isPartOfMillion 0 = .ok (.iload_n 1, 1)) ∧ (decode cX10_isPartOfMillion 1 = .ok (.ifCond .lt 13, 3)) ∧ (decode cX10_isPartOfMillion 14 = .ok (.iconst 0, 1)) ∧ (decode cX10_isPartOfMillion 15 = .ok (.ireturn, 1)) ∧ (decode cX10_isPartOfMillion 4 = .ok (.iload_n 1, 1)) ∧ (decode cX10_isPartOfMillion 5 = .ok (.ldc 201, 2)) ∧ (decode cX10_isPartOfMillion 7 = .ok (.if_icmp .gt 7, 3)) ∧ (decode cX10_isPartOfMillion 10 = .ok (.iconst 1, 1)) ∧ (decode cX10_isPartOfMillion 11 = .ok (.goto 4, 3)) := by decide +kernel
theorem dX10_isPartOfMillion_0 : decode cX10_isPartOfMillion 0 = .ok (.iload_n 1, 1) := db154.1
theorem dX10_isPartOfMillion_1 : decode cX10_isPartOfMillion 1 = .ok (.ifCond .lt 13, 3) := db154.2.1
theorem dX10_isPartOfMillion_14 : decode cX10_isPartOfMillion 14 = .ok (.iconst 0, 1) := db154.2.2.1
theorem dX10_isPartOfMillion_15 : decode cX10_isPartOfMillion 15 = .ok (.ireturn, 1) := db154.2.2.2.1
theorem dX10_isPartOfMillion_4 : decode cX10_isPartOfMillion 4 = .ok (.iload_n 1, 1) := db154.2.2.2.2.1
theorem dX10_isPartOfMillion_5 : decode cX10_isPartOfMillion 5 = .ok (.ldc 201, 2) := db154.2.2.2.2.2.1
theorem dX10_isPartOfMillion_7 : decode cX10_isPartOfMillion 7 = .ok (.if_icmp .gt 7, 3) := db154.2.2.2.2.2.2.1
theorem dX10_isPartOfMillion_10 : decode cX10_isPartOfMillion 10 = .ok (.iconst 1, 1) := db154.2.2.2.2.2.2.2.1
theorem dX10_isPartOfMillion_11 : decode cX10_isPartOfMillion 11 = .ok (.goto 4, 3) := db154.2.2.2.2.2.2.2.2
theorem db155 : (decode cX10_isRoom 0 = .ok (.aload_n 0, 1)) ∧ (decode cX10_isRoom 1 = .ok (.getfield 31, 3)) ∧ (decode cX10_isRoom 4 = .ok (.getfield 98, 3)) ∧ (decode cX10_isRoom 7 = .ok (.iload_n 1, 1)) ∧ (decode cX10_isRoom 8 = .ok (.invokevirtual 377, 3)) ∧ (decode cX10_isRoom 11 = .ok (.ireturn, 1)) := by decide +kernel
theorem dX10_isRoom_0 : decode cX10_isRoom 0 = .ok (.aload_n 0, 1) := db155.1
theorem dX10_isRoom_1 : decode cX10_isRoom 1 = .ok (.getfield 31, 3) := db155.2.1
theorem dX10_isRoom_4 : decode cX10_isRoom 4 = .ok (.getfield 98, 3) := db155.2.2.1
theorem dX10_isRoom_7 : decode cX10_isRoom 7 = .ok (.iload_n 1, 1) := db155.2.2.2.1
theorem dX10_isRoom_8 : decode cX10_isRoom 8 = .ok (.invokevirtual 377, 3) := db155.2.2.2.2.1
theorem dX10_isRoom_11 : decode cX10_isRoom 11 = .ok (.ireturn, 1) := db155.2.2.2.2.2
theorem db156 : (decode cX10_isRoomOrOut 0 = .ok (.aload_n 0, 1)) ∧ (decode cX10_isRoomOrOut 1 = .ok (.invokevirtual 152, 3)) ∧ (decode cX10_isRoomOrOut 4 = .ok (.ifCond .eq 20, 3)) ∧ (decode cX10_isRoomOrOut 24 = .ok (.iconst 0, 1)) ∧ (decode cX10_isRoomOrOut 25 = .ok (.ireturn, 1)) ∧ (decode cX10_isRoomOrOut 7 = .ok (.iload_n 1, 1)) ∧ (decode cX10_isRoomOrOut 8 = .ok (.iconst (-1), 1)) ∧ (decode cX10_isRoomOrOut 9 = .ok (.if_icmp .eq 11, 3)) ∧ (decode cX10_isRoomOrOut 20 = .ok (.iconst 1, 1)) ∧ (decode cX10_isRoomOrOut 21 = .ok (.goto 4, 3)) ∧ (decode cX10_isRoomOrOut 12 = .ok (.aload_n 0, 1)) ∧ (decode cX10_isRoomOrOut 13 = .ok (.iload_n 1, 1)) ∧ (decode cX10_isRoomOrOut 14 = .ok (.invokevirtual 120, 3)) ∧ (decode cX10_isRoomOrOut 17 = .ok (.ifCond .eq 7, 3)) := by decide +kernel
theorem dX10_isRoomOrOut_0 : decode cX10_isRoomOrOut 0 = .ok (.aload_n 0, 1) := db156.1
theorem dX10_isRoomOrOut_1 : decode cX10_isRoomOrOut 1 = .ok (.invokevirtual 152, 3) := db156.2.1
theorem dX10_isRoomOrOut_4 : decode cX10_isRoomOrOut 4 = .ok (.ifCond .eq 20, 3) := db156.2.2.1
theorem dX10_isRoomOrOut_24 : decode cX10_isRoomOrOut 24 = .ok (.iconst 0, 1) := db156.2.2.2.1
theorem dX10_isRoomOrOut_25 : decode cX10_isRoomOrOut 25 = .ok (.ireturn, 1) := db156.2.2.2.2.1
theorem dX10_isRoomOrOut_7 : decode cX10_isRoomOrOut 7 = .ok (.iload_n 1, 1) := db156.2.2.2.2.2.1
theorem dX10_isRoomOrOut_8 : decode cX10_isRoomOrOut 8 = .ok (.iconst (-1), 1) := db156.2.2.2.2.2.2.1
theorem dX10_isRoomOrOut_9 : decode cX10_isRoomOrOut 9 = .ok (.if_icmp .eq 11, 3) := db156.2.2.2.2.2.2.2.1
theorem dX10_isRoomOrOut_20 : decode cX10_isRoomOrOut 20 = .ok (.iconst 1, 1) := db156.2.2.2.2.2.2.2.2.1
theorem dX10_isRoomOrOut_21 : decode cX10_isRoomOrOut 21 = .ok (.goto 4, 3) := db156.2.2.2.2.2.2.2.2.2.1
theorem dX10_isRoomOrOut_12 : decode cX10_isRoomOrOut 12 = .ok (.aload_n 0, 1) := db156.2.2.2.2.2.2.2.2.2.2.1
theorem dX10_isRoomOrOut_13 : decode cX10_isRoomOrOut 13 = .ok (.iload_n 1, 1) := db156.2.2.2.2.2.2.2.2.2.2.2.1
theorem dX10_isRoomOrOut_14 : decode cX10_isRoomOrOut 14 = .ok (.invokevirtual 120, 3) := db156.2.2.2.2.2.2.2.2.2.2.2.2.1
theorem dX10_isRoomOrOut_17 : decode cX10_isRoomOrOut 17 = .ok (.ifCond .eq 7, 3) := db156.2.2.2.2.2.2.2.2.2.2.2.2.2
theorem db157 : (decode cX10_isSeed 0 = .ok (.iload_n 1, 1)) ∧ (decode cX10_isSeed 1 = .ok (.ifCond .lt 14, 3)) ∧ (decode cX10_isSeed 15 = .ok (.iconst 0, 1)) ∧ (decode cX10_isSeed 16 = .ok (.ireturn, 1)) ∧ (decode cX10_isSeed 4 = .ok (.iload_n 1, 1)) ∧ (decode cX10_isSeed 5 = .ok (.ldc_w 380, 3)) ∧ (decode cX10_isSeed 8 = .ok (.if_icmp .gt 7, 3)) ∧ (decode cX10_isSeed 11 = .ok (.iconst 1, 1)) ∧ (decode cX10_isSeed 12 = .ok (.goto 4, 3)) := by decide +kernel
theorem dX10_isSeed_0 : decode cX10_isSeed 0 = .ok (.iload_n 1, 1) := db157.1
theorem dX10_isSeed_1 : decode cX10_isSeed 1 = .ok (.ifCond .lt 14, 3) := db157.2.1
theorem dX10_isSeed_15 : decode cX10_isSeed 15 = .ok (.iconst 0, 1) := db157.2.2.1
theorem dX10_isSeed_16 : decode cX10_isSeed 16 = .ok (.ireturn, 1) := db157.2.2.2.1
theorem dX10_isSeed_4 : decode cX10_isSeed 4 = .ok (.iload_n 1, 1) := db157.2.2.2.2.1
theorem dX10_isSeed_5 : decode cX10_isSeed 5 = .ok (.ldc_w 380, 3) := db157.2.2.2.2.2.1
theorem dX10_isSeed_8 : decode cX10_isSeed 8 = .ok (.if_icmp .gt 7, 3) := db157.2.2.2.2.2.2.1
theorem dX10_isSeed_11 : decode cX10_isSeed 11 = .ok (.iconst 1, 1) := db157.2.2.2.2.2.2.2.1
theorem dX10_isSeed_12 : decode cX10_isSeed 12 = .ok (.goto 4, 3) := db157.2.2.2.2.2.2.2.2
