theorem db237 : (decode cX11_allRooms 0 = .ok (.iconst 1, 1)) ∧ (decode cX11_allRooms 1 = .ok (.aload_n 0, 1)) ∧ (decode cX11_allRooms 2 = .ok (.getfield 9, 3)) ∧ (decode cX11_allRooms 5 = .ok (.iconst 4, 1)) ∧ (decode cX11_allRooms 6 = .ok (.iaload, 1)) ∧ (decode cX11_allRooms 7 = .ok (.ishl, 1)) ∧ (decode cX11_allRooms 8 = .ok (.iconst 1, 1)) ∧ (decode cX11_allRooms 9 = .ok (.isub, 1)) ∧ (decode cX11_allRooms 10 = .ok (.ireturn, 1)) := by decide +kernel
theorem dX11_allRooms_0 : decode cX11_allRooms 0 = .ok (.iconst 1, 1) := db237.1
theorem dX11_allRooms_1 : decode cX11_allRooms 1 = .ok (.aload_n 0, 1) := db237.2.1
theorem dX11_allRooms_2 : decode cX11_allRooms 2 = .ok (.getfield 9, 3) := db237.2.2.1
theorem dX11_allRooms_5 : decode cX11_allRooms 5 = .ok (.iconst 4, 1) := db237.2.2.2.1
theorem dX11_allRooms_6 : decode cX11_allRooms 6 = .ok (.iaload, 1) := db237.2.2.2.2.1
theorem dX11_allRooms_7 : decode cX11_allRooms 7 = .ok (.ishl, 1) := db237.2.2.2.2.2.1
theorem dX11_allRooms_8 : decode cX11_allRooms 8 = .ok (.iconst 1, 1) := db237.2.2.2.2.2.2.1
theorem dX11_allRooms_9 : decode cX11_allRooms 9 = .ok (.isub, 1) := db237.2.2.2.2.2.2.2.1
theorem dX11_allRooms_10 : decode cX11_allRooms 10 = .ok (.ireturn, 1) := db237.2.2.2.2.2.2.2.2
theorem db238 : (decode cX11_allSits 0 = .ok (.iconst 0, 1)) ∧ (decode cX11_allSits 1 = .ok (.istore_n 1, 1)) ∧ (decode cX11_allSits 2 = .ok (.iconst 0, 1)) ∧ (decode cX11_allSits 3 = .ok (.istore_n 2, 1)) ∧ (decode cX11_allSits 4 = .ok (.iload_n 2, 1)) ∧ (decode cX11_allSits 5 = .ok (.aload_n 0, 1)) ∧ (decode cX11_allSits 6 = .ok (.getfield 9, 3)) ∧ (decode cX11_allSits 9 = .ok (.iconst 4, 1)) ∧ (decode cX11_allSits 10 = .ok (.iaload, 1)) ∧ (decode cX11_allSits 11 = .ok (.if_icmp .ge 18, 3)) ∧ (decode cX11_allSits 29 = .ok (.iload_n 1, 1)) ∧ (decode cX11_allSits 30 = .ok (.ireturn, 1)) ∧ (decode cX11_allSits 14 = .ok (.iload_n 1, 1)) ∧ (decode cX11_allSits 15 = .ok (.aload_n 0, 1)) ∧ (decode cX11_allSits 16 = .ok (.iload_n 2, 1)) ∧ (decode cX11_allSits 17 = .ok (.iconst 2, 1)) ∧ (decode cX11_allSits 18 = .ok (.invokevirtual 227, 3)) ∧ (decode cX11_allSits 21 = .ok (.iadd, 1)) ∧ (decode cX11_allSits 22 = .ok (.istore_n 1, 1)) ∧ (decode cX11_allSits 23 = .ok (.iinc 2 1, 3)) ∧ (decode cX11_allSits 26 = .ok (.goto (-22), 3)) := by decide +kernel
theorem dX11_allSits_0 : decode cX11_allSits 0 = .ok (.iconst 0, 1) := db238.1
theorem dX11_allSits_1 : decode cX11_allSits 1 = .ok (.istore_n 1, 1) := db238.2.1
theorem dX11_allSits_2 : decode cX11_allSits 2 = .ok (.iconst 0, 1) := db238.2.2.1
theorem dX11_allSits_3 : decode cX11_allSits 3 = .ok (.istore_n 2, 1) := db238.2.2.2.1
theorem dX11_allSits_4 : decode cX11_allSits 4 = .ok (.iload_n 2, 1) := db238.2.2.2.2.1
theorem dX11_allSits_5 : decode cX11_allSits 5 = .ok (.aload_n 0, 1) := db238.2.2.2.2.2.1
theorem dX11_allSits_6 : decode cX11_allSits 6 = .ok (.getfield 9, 3) := db238.2.2.2.2.2.2.1
theorem dX11_allSits_9 : decode cX11_allSits 9 = .ok (.iconst 4, 1) := db238.2.2.2.2.2.2.2.1
theorem dX11_allSits_10 : decode cX11_allSits 10 = .ok (.iaload, 1) := db238.2.2.2.2.2.2.2.2.1
theorem dX11_allSits_11 : decode cX11_allSits 11 = .ok (.if_icmp .ge 18, 3) := db238.2.2.2.2.2.2.2.2.2.1
theorem dX11_allSits_29 : decode cX11_allSits 29 = .ok (.iload_n 1, 1) := db238.2.2.2.2.2.2.2.2.2.2.1
theorem dX11_allSits_30 : decode cX11_allSits 30 = .ok (.ireturn, 1) := db238.2.2.2.2.2.2.2.2.2.2.2.1
theorem dX11_allSits_14 : decode cX11_allSits 14 = .ok (.iload_n 1, 1) := db238.2.2.2.2.2.2.2.2.2.2.2.2.1
theorem dX11_allSits_15 : decode cX11_allSits 15 = .ok (.aload_n 0, 1) := db238.2.2.2.2.2.2.2.2.2.2.2.2.2.1
theorem dX11_allSits_16 : decode cX11_allSits 16 = .ok (.iload_n 2, 1) := db238.2.2.2.2.2.2.2.2.2.2.2.2.2.2.1
theorem dX11_allSits_17 : decode cX11_allSits 17 = .ok (.iconst 2, 1) := db238.2.2.2.2.2.2.2.2.2.2.2.2.2.2.2.1
theorem dX11_allSits_18 : decode cX11_allSits 18 = .ok (.invokevirtual 227, 3) := db238.2.2.2.2.2.2.2.2.2.2.2.2.2.2.2.2.1
theorem dX11_allSits_21 : decode cX11_allSits 21 = .ok (.iadd, 1) := db238.2.2.2.2.2.2.2.2.2.2.2.2.2.2.2.2.2.1
theorem dX11_allSits_22 : decode cX11_allSits 22 = .ok (.istore_n 1, 1) := db238.2.2.2.2.2.2.2.2.2.2.2.2.2.2.2.2.2.2.1
theorem dX11_allSits_23 : decode cX11_allSits 23 = .ok (.iinc 2 1, 3) := db238.2.2.2.2.2.2.2.2.2.2.2.2.2.2.2.2.2.2.2.1
theorem dX11_allSits_26 : decode cX11_allSits 26 = .ok (.goto (-22), 3) := db238.2.2.2.2.2.2.2.2.2.2.2.2.2.2.2.2.2.2.2.2
theorem db239 : (decode cX11_anew 0 = .ok (.aload_n 0, 1)) ∧ (decode cX11_anew 1 = .ok (.invokevirtual 83, 3)) ∧ (decode cX11_anew 4 = .ok (.ifCond .ne 6, 3)) ∧ (decode cX11_anew 10 = .ok (.aload_n 0, 1)) ∧ (decode cX11_anew 11 = .ok (.getfield 9, 3)) ∧ (decode cX11_anew 14 = .ok (.bipush 7, 2)) ∧ (decode cX11_anew 16 = .ok (.iaload, 1)) ∧ (decode cX11_anew 17 = .ok (.istore_n 1, 1)) ∧ (decode cX11_anew 18 = .ok (.aload_n 0, 1)) ∧ (decode cX11_anew 19 = .ok (.getfield 9, 3)) ∧ (decode cX11_anew 22 = .ok (.bipush 7, 2)) ∧ (decode cX11_anew 24 = .ok (.iconst 0, 1)) ∧ (decode cX11_anew 25 = .ok (.iastore, 1)) ∧ (decode cX11_anew 26 = .ok (.iload_n 1, 1)) ∧ (decode cX11_anew 27 = .ok (.ireturn, 1)) ∧ (decode cX11_anew 7 = .ok (.bipush (-2), 2)) ∧ (decode cX11_anew 9 = .ok (.ireturn, 1)) := by decide +kernel
theorem dX11_anew_0 : decode cX11_anew 0 = .ok (.aload_n 0, 1) := db239.1
theorem dX11_anew_1 : decode cX11_anew 1 = .ok (.invokevirtual 83, 3) := db239.2.1
theorem dX11_anew_4 : decode cX11_anew 4 = .ok (.ifCond .ne 6, 3) := db239.2.2.1
theorem dX11_anew_10 : decode cX11_anew 10 = .ok (.aload_n 0, 1) := db239.2.2.2.1
theorem dX11_anew_11 : decode cX11_anew 11 = .ok (.getfield 9, 3) := db239.2.2.2.2.1
theorem dX11_anew_14 : decode cX11_anew 14 = .ok (.bipush 7, 2) := db239.2.2.2.2.2.1
theorem dX11_anew_16 : decode cX11_anew 16 = .ok (.iaload, 1) := db239.2.2.2.2.2.2.1
theorem dX11_anew_17 : decode cX11_anew 17 = .ok (.istore_n 1, 1) := db239.2.2.2.2.2.2.2.1
theorem dX11_anew_18 : decode cX11_anew 18 = .ok (.aload_n 0, 1) := db239.2.2.2.2.2.2.2.2.1
theorem dX11_anew_19 : decode cX11_anew 19 = .ok (.getfield 9, 3) := db239.2.2.2.2.2.2.2.2.2.1
theorem dX11_anew_22 : decode cX11_anew 22 = .ok (.bipush 7, 2) := db239.2.2.2.2.2.2.2.2.2.2.1
theorem dX11_anew_24 : decode cX11_anew 24 = .ok (.iconst 0, 1) := db239.2.2.2.2.2.2.2.2.2.2.2.1
theorem dX11_anew_25 : decode cX11_anew 25 = .ok (.iastore, 1) := db239.2.2.2.2.2.2.2.2.2.2.2.2.1
theorem dX11_anew_26 : decode cX11_anew 26 = .ok (.iload_n 1, 1) := db239.2.2.2.2.2.2.2.2.2.2.2.2.2.1
theorem dX11_anew_27 : decode cX11_anew 27 = .ok (.ireturn, 1) := db239.2.2.2.2.2.2.2.2.2.2.2.2.2.2.1
theorem dX11_anew_7 : decode cX11_anew 7 = .ok (.bipush (-2), 2) := db239.2.2.2.2.2.2.2.2.2.2.2.2.2.2.2.1
theorem dX11_anew_9 : decode cX11_anew 9 = .ok (.ireturn, 1) := db239.2.2.2.2.2.2.2.2.2.2.2.2.2.2.2.2
theorem db240 : (decode cX11_areMen 0 = .ok (.aload_n 0, 1)) ∧ (decode cX11_areMen 1 = .ok (.invokevirtual 83, 3)) ∧ (decode cX11_areMen 4 = .ok (.ifCond .eq 27, 3)) ∧ (decode cX11_areMen 31 = .ok (.iconst 0, 1)) ∧ (decode cX11_areMen 32 = .ok (.ireturn, 1)) ∧ (decode cX11_areMen 7 = .ok (.iload_n 1, 1)) ∧ (decode cX11_areMen 8 = .ok (.i2l, 1)) ∧ (decode cX11_areMen 9 = .ok (.lconst 1, 1)) ∧ (decode cX11_areMen 10 = .ok (.iconst 1, 1)) ∧ (decode cX11_areMen 11 = .ok (.aload_n 0, 1)) ∧ (decode cX11_areMen 12 = .ok (.getfield 9, 3)) ∧ (decode cX11_areMen 15 = .ok (.iconst 5, 1)) ∧ (decode cX11_areMen 16 = .ok (.iaload, 1)) ∧ (decode cX11_areMen 17 = .ok (.ishl, 1)) ∧ (decode cX11_areMen 18 = .ok (.iconst 1, 1)) ∧ (decode cX11_areMen 19 = .ok (.isub, 1)) ∧ (decode cX11_areMen 20 = .ok (.i2l, 1)) ∧ (decode cX11_areMen 21 = .ok (.invokestatic 79, 3)) ∧ (decode cX11_areMen 24 = .ok (.ifCond .eq 7, 3)) ∧ (decode cX11_areMen 27 = .ok (.iconst 1, 1)) ∧ (decode cX11_areMen 28 = .ok (.goto 4, 3)) := by decide +kernel
theorem dX11_areMen_0 : decode cX11_areMen 0 = .ok (.aload_n 0, 1) := db240.1
theorem dX11_areMen_1 : decode cX11_areMen 1 = .ok (.invokevirtual 83, 3) := db240.2.1
theorem dX11_areMen_4 : decode cX11_areMen 4 = .ok (.ifCond .eq 27, 3) := db240.2.2.1
theorem dX11_areMen_31 : decode cX11_areMen 31 = .ok (.iconst 0, 1) := db240.2.2.2.1
theorem dX11_areMen_32 : decode cX11_areMen 32 = .ok (.ireturn, 1) := db240.2.2.2.2.1
theorem dX11_areMen_7 : decode cX11_areMen 7 = .ok (.iload_n 1, 1) := db240.2.2.2.2.2.1
theorem dX11_areMen_8 : decode cX11_areMen 8 = .ok (.i2l, 1) := db240.2.2.2.2.2.2.1
theorem dX11_areMen_9 : decode cX11_areMen 9 = .ok (.lconst 1, 1) := db240.2.2.2.2.2.2.2.1
theorem dX11_areMen_10 : decode cX11_areMen 10 = .ok (.iconst 1, 1) := db240.2.2.2.2.2.2.2.2.1
theorem dX11_areMen_11 : decode cX11_areMen 11 = .ok (.aload_n 0, 1) := db240.2.2.2.2.2.2.2.2.2.1
theorem dX11_areMen_12 : decode cX11_areMen 12 = .ok (.getfield 9, 3) := db240.2.2.2.2.2.2.2.2.2.2.1
theorem dX11_areMen_15 : decode cX11_areMen 15 = .ok (.iconst 5, 1) := db240.2.2.2.2.2.2.2.2.2.2.2.1
theorem dX11_areMen_16 : decode cX11_areMen 16 = .ok (.iaload, 1) := db240.2.2.2.2.2.2.2.2.2.2.2.2.1
theorem dX11_areMen_17 : decode cX11_areMen 17 = .ok (.ishl, 1) := db240.2.2.2.2.2.2.2.2.2.2.2.2.2.1
theorem dX11_areMen_18 : decode cX11_areMen 18 = .ok (.iconst 1, 1) := db240.2.2.2.2.2.2.2.2.2.2.2.2.2.2.1
theorem dX11_areMen_19 : decode cX11_areMen 19 = .ok (.isub, 1) := db240.2.2.2.2.2.2.2.2.2.2.2.2.2.2.2.1
theorem dX11_areMen_20 : decode cX11_areMen 20 = .ok (.i2l, 1) := db240.2.2.2.2.2.2.2.2.2.2.2.2.2.2.2.2.1
theorem dX11_areMen_21 : decode cX11_areMen 21 = .ok (.invokestatic 79, 3) := db240.2.2.2.2.2.2.2.2.2.2.2.2.2.2.2.2.2.1
theorem dX11_areMen_24 : decode cX11_areMen 24 = .ok (.ifCond .eq 7, 3) := db240.2.2.2.2.2.2.2.2.2.2.2.2.2.2.2.2.2.2.1
theorem dX11_areMen_27 : decode cX11_areMen 27 = .ok (.iconst 1, 1) := db240.2.2.2.2.2.2.2.2.2.2.2.2.2.2.2.2.2.2.2.1
theorem dX11_areMen_28 : decode cX11_areMen 28 = .ok (.goto 4, 3) := db240.2.2.2.2.2.2.2.2.2.2.2.2.2.2.2.2.2.2.2.2
theorem db241 : (decode cX11_asItIs 0 = .ok (.aload_n 0, 1)) ∧ (decode cX11_asItIs 1 = .ok (.invokevirtual 261, 3)) ∧ (decode cX11_asItIs 4 = .ok (.iconst 0, 1)) ∧ (decode cX11_asItIs 5 = .ok (.istore_n 1, 1)) ∧ (decode cX11_asItIs 6 = .ok (.iload_n 1, 1)) ∧ (decode cX11_asItIs 7 = .ok (.aload_n 0, 1)) ∧ (decode cX11_asItIs 8 = .ok (.getfield 9, 3)) ∧ (decode cX11_asItIs 11 = .ok (.bipush 7, 2)) ∧ (decode cX11_asItIs 13 = .ok (.iaload, 1)) ∧ (decode cX11_asItIs 14 = .ok (.if_icmp .ge 29, 3)) ∧ (decode cX11_asItIs 43 = .ok (.return_, 1)) ∧ (decode cX11_asItIs 17 = .ok (.aload_n 0, 1)) ∧ (decode cX11_asItIs 18 = .ok (.aload_n 0, 1)) ∧ (decode cX11_asItIs 19 = .ok (.getfield 9, 3)) ∧ (decode cX11_asItIs 22 = .ok (.bipush 84, 2)) ∧ (decode cX11_asItIs 24 = .ok (.iload_n 1, 1)) ∧ (decode cX11_asItIs 25 = .ok (.iadd, 1)) ∧ (decode cX11_asItIs 26 = .ok (.iaload, 1)) ∧ (decode cX11_asItIs 27 = .ok (.iconst 0, 1)) ∧ (decode cX11_asItIs 28 = .ok (.invokevirtual 264, 3)) ∧ (decode cX11_asItIs 31 = .ok (.pop, 1)) ∧ (decode cX11_asItIs 32 = .ok (.aload_n 0, 1)) ∧ (decode cX11_asItIs 33 = .ok (.iconst (-1), 1)) ∧ (decode cX11_asItIs 34 = .ok (.invokevirtual 267, 3)) := by decide +kernel
theorem dX11_asItIs_0 : decode cX11_asItIs 0 = .ok (.aload_n 0, 1) := db241.1
theorem dX11_asItIs_1 : decode cX11_asItIs 1 = .ok (.invokevirtual 261, 3) := db241.2.1
theorem dX11_asItIs_4 : decode cX11_asItIs 4 = .ok (.iconst 0, 1) := db241.2.2.1
theorem dX11_asItIs_5 : decode cX11_asItIs 5 = .ok (.istore_n 1, 1) := db241.2.2.2.1
theorem dX11_asItIs_6 : decode cX11_asItIs 6 = .ok (.iload_n 1, 1) := db241.2.2.2.2.1
theorem dX11_asItIs_7 : decode cX11_asItIs 7 = .ok (.aload_n 0, 1) := db241.2.2.2.2.2.1
theorem dX11_asItIs_8 : decode cX11_asItIs 8 = .ok (.getfield 9, 3) := db241.2.2.2.2.2.2.1
theorem dX11_asItIs_11 : decode cX11_asItIs 11 = .ok (.bipush 7, 2) := db241.2.2.2.2.2.2.2.1
theorem dX11_asItIs_13 : decode cX11_asItIs 13 = .ok (.iaload, 1) := db241.2.2.2.2.2.2.2.2.1
theorem dX11_asItIs_14 : decode cX11_asItIs 14 = .ok (.if_icmp .ge 29, 3) := db241.2.2.2.2.2.2.2.2.2.1
theorem dX11_asItIs_43 : decode cX11_asItIs 43 = .ok (.return_, 1) := db241.2.2.2.2.2.2.2.2.2.2.1
theorem dX11_asItIs_17 : decode cX11_asItIs 17 = .ok (.aload_n 0, 1) := db241.2.2.2.2.2.2.2.2.2.2.2.1
theorem dX11_asItIs_18 : decode cX11_asItIs 18 = .ok (.aload_n 0, 1) := db241.2.2.2.2.2.2.2.2.2.2.2.2.1
theorem dX11_asItIs_19 : decode cX11_asItIs 19 = .ok (.getfield 9, 3) := db241.2.2.2.2.2.2.2.2.2.2.2.2.2.1
theorem dX11_asItIs_22 : decode cX11_asItIs 22 = .ok (.bipush 84, 2) := db241.2.2.2.2.2.2.2.2.2.2.2.2.2.2.1
theorem dX11_asItIs_24 : decode cX11_asItIs 24 = .ok (.iload_n 1, 1) := db241.2.2.2.2.2.2.2.2.2.2.2.2.2.2.2.1
theorem dX11_asItIs_25 : decode cX11_asItIs 25 = .ok (.iadd, 1) := db241.2.2.2.2.2.2.2.2.2.2.2.2.2.2.2.2.1
theorem dX11_asItIs_26 : decode cX11_asItIs 26 = .ok (.iaload, 1) := db241.2.2.2.2.2.2.2.2.2.2.2.2.2.2.2.2.2.1
theorem dX11_asItIs_27 : decode cX11_asItIs 27 = .ok (.iconst 0, 1) := db241.2.2.2.2.2.2.2.2.2.2.2.2.2.2.2.2.2.2.1
theorem dX11_asItIs_28 : decode cX11_asItIs 28 = .ok (.invokevirtual 264, 3) := db241.2.2.2.2.2.2.2.2.2.2.2.2.2.2.2.2.2.2.2.1
theorem dX11_asItIs_31 : decode cX11_asItIs 31 = .ok (.pop, 1) := db241.2.2.2.2.2.2.2.2.2.2.2.2.2.2.2.2.2.2.2.2.1
theorem dX11_asItIs_32 : decode cX11_asItIs 32 = .ok (.aload_n 0, 1) := db241.2.2.2.2.2.2.2.2.2.2.2.2.2.2.2.2.2.2.2.2.2.1
theorem dX11_asItIs_33 : decode cX11_asItIs 33 = .ok (.iconst (-1), 1) := db241.2.2.2.2.2.2.2.2.2.2.2.2.2.2.2.2.2.2.2.2.2.2.1
theorem dX11_asItIs_34 : decode cX11_asItIs 34 = .ok (.invokevirtual 267, 3) := db241.2.2.2.2.2.2.2.2.2.2.2.2.2.2.2.2.2.2.2.2.2.2.2
theorem db242 : (decode cX11_asItIs 37 = .ok (.iinc 1 1, 3)) ∧ (decode cX11_asItIs 40 = .ok (.goto (-34), 3)) := by decide +kernel
theorem dX11_asItIs_37 : decode cX11_asItIs 37 = .ok (.iinc 1 1, 3) := db242.1
theorem dX11_asItIs_40 : decode cX11_asItIs 40 = .ok (.goto (-34), 3) := db242.2
theorem db243 : (decode cX11_askedBy 0 = .ok (.aload_n 0, 1)) ∧ (decode cX11_askedBy 1 = .ok (.iload_n 1, 1)) ∧ (decode cX11_askedBy 2 = .ok (.iload_n 2, 1)) ∧ (decode cX11_askedBy 3 = .ok (.invokevirtual 366, 3)) ∧ (decode cX11_askedBy 6 = .ok (.istore_n 3, 1)) ∧ (decode cX11_askedBy 7 = .ok (.iload_n 3, 1)) ∧ (decode cX11_askedBy 8 = .ok (.ifCond .eq 8, 3)) ∧ (decode cX11_askedBy 16 = .ok (.ldc_w 333, 3)) ∧ (decode cX11_askedBy 19 = .ok (.goto 24, 3)) ∧ (decode cX11_askedBy 43 = .ok (.ireturn, 1)) ∧ (decode cX11_askedBy 11 = .ok (.iload_n 3, 1)) ∧ (decode cX11_askedBy 12 = .ok (.iload_n 1, 1)) ∧ (decode cX11_askedBy 13 = .ok (.if_icmp .ne 9, 3)) ∧ (decode cX11_askedBy 22 = .ok (.iconst 1, 1)) ∧ (decode cX11_askedBy 23 = .ok (.aload_n 0, 1)) ∧ (decode cX11_askedBy 24 = .ok (.getfield 58, 3)) ∧ (decode cX11_askedBy 27 = .ok (.iload_n 3, 1)) ∧ (decode cX11_askedBy 28 = .ok (.iaload, 1)) ∧ (decode cX11_askedBy 29 = .ok (.aload_n 0, 1)) ∧ (decode cX11_askedBy 30 = .ok (.getfield 58, 3)) ∧ (decode cX11_askedBy 33 = .ok (.iload_n 1, 1)) ∧ (decode cX11_askedBy 34 = .ok (.iload_n 3, 1)) ∧ (decode cX11_askedBy 35 = .ok (.iconst (-1), 1)) ∧ (decode cX11_askedBy 36 = .ok (.ixor, 1)) := by decide +kernel
theorem dX11_askedBy_0 : decode cX11_askedBy 0 = .ok (.aload_n 0, 1) := db243.1
theorem dX11_askedBy_1 : decode cX11_askedBy 1 = .ok (.iload_n 1, 1) := db243.2.1
theorem dX11_askedBy_2 : decode cX11_askedBy 2 = .ok (.iload_n 2, 1) := db243.2.2.1
theorem dX11_askedBy_3 : decode cX11_askedBy 3 = .ok (.invokevirtual 366, 3) := db243.2.2.2.1
theorem dX11_askedBy_6 : decode cX11_askedBy 6 = .ok (.istore_n 3, 1) := db243.2.2.2.2.1
theorem dX11_askedBy_7 : decode cX11_askedBy 7 = .ok (.iload_n 3, 1) := db243.2.2.2.2.2.1
theorem dX11_askedBy_8 : decode cX11_askedBy 8 = .ok (.ifCond .eq 8, 3) := db243.2.2.2.2.2.2.1
theorem dX11_askedBy_16 : decode cX11_askedBy 16 = .ok (.ldc_w 333, 3) := db243.2.2.2.2.2.2.2.1
theorem dX11_askedBy_19 : decode cX11_askedBy 19 = .ok (.goto 24, 3) := db243.2.2.2.2.2.2.2.2.1
theorem dX11_askedBy_43 : decode cX11_askedBy 43 = .ok (.ireturn, 1) := db243.2.2.2.2.2.2.2.2.2.1
theorem dX11_askedBy_11 : decode cX11_askedBy 11 = .ok (.iload_n 3, 1) := db243.2.2.2.2.2.2.2.2.2.2.1
theorem dX11_askedBy_12 : decode cX11_askedBy 12 = .ok (.iload_n 1, 1) := db243.2.2.2.2.2.2.2.2.2.2.2.1
theorem dX11_askedBy_13 : decode cX11_askedBy 13 = .ok (.if_icmp .ne 9, 3) := db243.2.2.2.2.2.2.2.2.2.2.2.2.1
theorem dX11_askedBy_22 : decode cX11_askedBy 22 = .ok (.iconst 1, 1) := db243.2.2.2.2.2.2.2.2.2.2.2.2.2.1
theorem dX11_askedBy_23 : decode cX11_askedBy 23 = .ok (.aload_n 0, 1) := db243.2.2.2.2.2.2.2.2.2.2.2.2.2.2.1
theorem dX11_askedBy_24 : decode cX11_askedBy 24 = .ok (.getfield 58, 3) := db243.2.2.2.2.2.2.2.2.2.2.2.2.2.2.2.1
theorem dX11_askedBy_27 : decode cX11_askedBy 27 = .ok (.iload_n 3, 1) := db243.2.2.2.2.2.2.2.2.2.2.2.2.2.2.2.2.1
theorem dX11_askedBy_28 : decode cX11_askedBy 28 = .ok (.iaload, 1) := db243.2.2.2.2.2.2.2.2.2.2.2.2.2.2.2.2.2.1
theorem dX11_askedBy_29 : decode cX11_askedBy 29 = .ok (.aload_n 0, 1) := db243.2.2.2.2.2.2.2.2.2.2.2.2.2.2.2.2.2.2.1
theorem dX11_askedBy_30 : decode cX11_askedBy 30 = .ok (.getfield 58, 3) := db243.2.2.2.2.2.2.2.2.2.2.2.2.2.2.2.2.2.2.2.1
theorem dX11_askedBy_33 : decode cX11_askedBy 33 = .ok (.iload_n 1, 1) := db243.2.2.2.2.2.2.2.2.2.2.2.2.2.2.2.2.2.2.2.2.1
theorem dX11_askedBy_34 : decode cX11_askedBy 34 = .ok (.iload_n 3, 1) := db243.2.2.2.2.2.2.2.2.2.2.2.2.2.2.2.2.2.2.2.2.2.1
theorem dX11_askedBy_35 : decode cX11_askedBy 35 = .ok (.iconst (-1), 1) := db243.2.2.2.2.2.2.2.2.2.2.2.2.2.2.2.2.2.2.2.2.2.2.1
theorem dX11_askedBy_36 : decode cX11_askedBy 36 = .ok (.ixor, 1) := db243.2.2.2.2.2.2.2.2.2.2.2.2.2.2.2.2.2.2.2.2.2.2.2
theorem db244 : (decode cX11_askedBy 37 = .ok (.iand, 1)) ∧ (decode cX11_askedBy 38 = .ok (.iaload, 1)) ∧ (decode cX11_askedBy 39 = .ok (.invokestatic 369, 3)) ∧ (decode cX11_askedBy 42 = .ok (.iadd, 1)) := by decide +kernel
theorem dX11_askedBy_37 : decode cX11_askedBy 37 = .ok (.iand, 1) := db244.1
theorem dX11_askedBy_38 : decode cX11_askedBy 38 = .ok (.iaload, 1) := db244.2.1
theorem dX11_askedBy_39 : decode cX11_askedBy 39 = .ok (.invokestatic 369, 3) := db244.2.2.1
theorem dX11_askedBy_42 : decode cX11_askedBy 42 = .ok (.iadd, 1) := db244.2.2.2
theorem db245 : (decode cX11_asksHabit 0 = .ok (.iload_n 1, 1)) ∧ (decode cX11_asksHabit 1 = .ok (.invokestatic 290, 3)) ∧ (decode cX11_asksHabit 4 = .ok (.ifCond .eq 14, 3)) ∧ (decode cX11_asksHabit 18 = .ok (.bipush (-2), 2)) ∧ (decode cX11_asksHabit 20 = .ok (.ireturn, 1)) ∧ (decode cX11_asksHabit 7 = .ok (.aload_n 0, 1)) ∧ (decode cX11_asksHabit 8 = .ok (.invokevirtual 83, 3)) ∧ (decode cX11_asksHabit 11 = .ok (.ifCond .eq 7, 3)) ∧ (decode cX11_asksHabit 14 = .ok (.iload_n 2, 1)) ∧ (decode cX11_asksHabit 15 = .ok (.ifCond .ne 6, 3)) ∧ (decode cX11_asksHabit 21 = .ok (.aload_n 0, 1)) ∧ (decode cX11_asksHabit 22 = .ok (.getfield 61, 3)) ∧ (decode cX11_asksHabit 25 = .ok (.iload_n 1, 1)) ∧ (decode cX11_asksHabit 26 = .ok (.iaload, 1)) ∧ (decode cX11_asksHabit 27 = .ok (.iconst (-1), 1)) ∧ (decode cX11_asksHabit 28 = .ok (.if_icmp .ne 6, 3)) ∧ (decode cX11_asksHabit 34 = .ok (.iconst 0, 1)) ∧ (decode cX11_asksHabit 35 = .ok (.istore_n 3, 1)) ∧ (decode cX11_asksHabit 36 = .ok (.iload_n 3, 1)) ∧ (decode cX11_asksHabit 37 = .ok (.aload_n 0, 1)) ∧ (decode cX11_asksHabit 38 = .ok (.getfield 61, 3)) ∧ (decode cX11_asksHabit 41 = .ok (.iload_n 1, 1)) ∧ (decode cX11_asksHabit 42 = .ok (.iaload, 1)) ∧ (decode cX11_asksHabit 43 = .ok (.if_icmp .ge 25, 3)) := by decide +kernel
theorem dX11_asksHabit_0 : decode cX11_asksHabit 0 = .ok (.iload_n 1, 1) := db245.1
theorem dX11_asksHabit_1 : decode cX11_asksHabit 1 = .ok (.invokestatic 290, 3) := db245.2.1
theorem dX11_asksHabit_4 : decode cX11_asksHabit 4 = .ok (.ifCond .eq 14, 3) := db245.2.2.1
theorem dX11_asksHabit_18 : decode cX11_asksHabit 18 = .ok (.bipush (-2), 2) := db245.2.2.2.1
theorem dX11_asksHabit_20 : decode cX11_asksHabit 20 = .ok (.ireturn, 1) := db245.2.2.2.2.1
theorem dX11_asksHabit_7 : decode cX11_asksHabit 7 = .ok (.aload_n 0, 1) := db245.2.2.2.2.2.1
theorem dX11_asksHabit_8 : decode cX11_asksHabit 8 = .ok (.invokevirtual 83, 3) := db245.2.2.2.2.2.2.1
theorem dX11_asksHabit_11 : decode cX11_asksHabit 11 = .ok (.ifCond .eq 7, 3) := db245.2.2.2.2.2.2.2.1
theorem dX11_asksHabit_14 : decode cX11_asksHabit 14 = .ok (.iload_n 2, 1) := db245.2.2.2.2.2.2.2.2.1
theorem dX11_asksHabit_15 : decode cX11_asksHabit 15 = .ok (.ifCond .ne 6, 3) := db245.2.2.2.2.2.2.2.2.2.1
theorem dX11_asksHabit_21 : decode cX11_asksHabit 21 = .ok (.aload_n 0, 1) := db245.2.2.2.2.2.2.2.2.2.2.1
theorem dX11_asksHabit_22 : decode cX11_asksHabit 22 = .ok (.getfield 61, 3) := db245.2.2.2.2.2.2.2.2.2.2.2.1
theorem dX11_asksHabit_25 : decode cX11_asksHabit 25 = .ok (.iload_n 1, 1) := db245.2.2.2.2.2.2.2.2.2.2.2.2.1
theorem dX11_asksHabit_26 : decode cX11_asksHabit 26 = .ok (.iaload, 1) := db245.2.2.2.2.2.2.2.2.2.2.2.2.2.1
theorem dX11_asksHabit_27 : decode cX11_asksHabit 27 = .ok (.iconst (-1), 1) := db245.2.2.2.2.2.2.2.2.2.2.2.2.2.2.1
theorem dX11_asksHabit_28 : decode cX11_asksHabit 28 = .ok (.if_icmp .ne 6, 3) := db245.2.2.2.2.2.2.2.2.2.2.2.2.2.2.2.1
theorem dX11_asksHabit_34 : decode cX11_asksHabit 34 = .ok (.iconst 0, 1) := db245.2.2.2.2.2.2.2.2.2.2.2.2.2.2.2.2.1
theorem dX11_asksHabit_35 : decode cX11_asksHabit 35 = .ok (.istore_n 3, 1) := db245.2.2.2.2.2.2.2.2.2.2.2.2.2.2.2.2.2.1
theorem dX11_asksHabit_36 : decode cX11_asksHabit 36 = .ok (.iload_n 3, 1) := db245.2.2.2.2.2.2.2.2.2.2.2.2.2.2.2.2.2.2.1
theorem dX11_asksHabit_37 : decode cX11_asksHabit 37 = .ok (.aload_n 0, 1) := db245.2.2.2.2.2.2.2.2.2.2.2.2.2.2.2.2.2.2.2.1
theorem dX11_asksHabit_38 : decode cX11_asksHabit 38 = .ok (.getfield 61, 3) := db245.2.2.2.2.2.2.2.2.2.2.2.2.2.2.2.2.2.2.2.2.1
theorem dX11_asksHabit_41 : decode cX11_asksHabit 41 = .ok (.iload_n 1, 1) := db245.2.2.2.2.2.2.2.2.2.2.2.2.2.2.2.2.2.2.2.2.2.1
theorem dX11_asksHabit_42 : decode cX11_asksHabit 42 = .ok (.iaload, 1) := db245.2.2.2.2.2.2.2.2.2.2.2.2.2.2.2.2.2.2.2.2.2.2.1
theorem dX11_asksHabit_43 : decode cX11_asksHabit 43 = .ok (.if_icmp .ge 25, 3) := db245.2.2.2.2.2.2.2.2.2.2.2.2.2.2.2.2.2.2.2.2.2.2.2
theorem db246 : (decode cX11_asksHabit 68 = .ok (.iconst 0, 1)) ∧ (decode cX11_asksHabit 69 = .ok (.ireturn, 1)) ∧ (decode cX11_asksHabit 46 = .ok (.aload_n 0, 1)) ∧ (decode cX11_asksHabit 47 = .ok (.aload_n 0, 1)) ∧ (decode cX11_asksHabit 48 = .ok (.iload_n 1, 1)) ∧ (decode cX11_asksHabit 49 = .ok (.iload_n 3, 1)) ∧ (decode cX11_asksHabit 50 = .ok (.invokevirtual 286, 3)) ∧ (decode cX11_asksHabit 53 = .ok (.invokevirtual 89, 3)) ∧ (decode cX11_asksHabit 56 = .ok (.ifCond .ne 6, 3)) ∧ (decode cX11_asksHabit 62 = .ok (.iinc 3 1, 3)) ∧ (decode cX11_asksHabit 65 = .ok (.goto (-29), 3)) ∧ (decode cX11_asksHabit 59 = .ok (.bipush (-2), 2)) ∧ (decode cX11_asksHabit 61 = .ok (.ireturn, 1)) ∧ (decode cX11_asksHabit 31 = .ok (.bipush (-6), 2)) ∧ (decode cX11_asksHabit 33 = .ok (.ireturn, 1)) := by decide +kernel
theorem dX11_asksHabit_68 : decode cX11_asksHabit 68 = .ok (.iconst 0, 1) := db246.1
theorem dX11_asksHabit_69 : decode cX11_asksHabit 69 = .ok (.ireturn, 1) := db246.2.1
theorem dX11_asksHabit_46 : decode cX11_asksHabit 46 = .ok (.aload_n 0, 1) := db246.2.2.1
theorem dX11_asksHabit_47 : decode cX11_asksHabit 47 = .ok (.aload_n 0, 1) := db246.2.2.2.1
theorem dX11_asksHabit_48 : decode cX11_asksHabit 48 = .ok (.iload_n 1, 1) := db246.2.2.2.2.1
theorem dX11_asksHabit_49 : decode cX11_asksHabit 49 = .ok (.iload_n 3, 1) := db246.2.2.2.2.2.1
theorem dX11_asksHabit_50 : decode cX11_asksHabit 50 = .ok (.invokevirtual 286, 3) := db246.2.2.2.2.2.2.1
theorem dX11_asksHabit_53 : decode cX11_asksHabit 53 = .ok (.invokevirtual 89, 3) := db246.2.2.2.2.2.2.2.1
theorem dX11_asksHabit_56 : decode cX11_asksHabit 56 = .ok (.ifCond .ne 6, 3) := db246.2.2.2.2.2.2.2.2.1
theorem dX11_asksHabit_62 : decode cX11_asksHabit 62 = .ok (.iinc 3 1, 3) := db246.2.2.2.2.2.2.2.2.2.1
theorem dX11_asksHabit_65 : decode cX11_asksHabit 65 = .ok (.goto (-29), 3) := db246.2.2.2.2.2.2.2.2.2.2.1
theorem dX11_asksHabit_59 : decode cX11_asksHabit 59 = .ok (.bipush (-2), 2) := db246.2.2.2.2.2.2.2.2.2.2.2.1
theorem dX11_asksHabit_61 : decode cX11_asksHabit 61 = .ok (.ireturn, 1) := db246.2.2.2.2.2.2.2.2.2.2.2.2.1
theorem dX11_asksHabit_31 : decode cX11_asksHabit 31 = .ok (.bipush (-6), 2) := db246.2.2.2.2.2.2.2.2.2.2.2.2.2.1
theorem dX11_asksHabit_33 : decode cX11_asksHabit 33 = .ok (.ireturn, 1) := db246.2.2.2.2.2.2.2.2.2.2.2.2.2.2
theorem db247 : (decode cX11_asksRound 0 = .ok (.iload_n 1, 1)) ∧ (decode cX11_asksRound 1 = .ok (.invokestatic 290, 3)) ∧ (decode cX11_asksRound 4 = .ok (.ifCond .eq 14, 3)) ∧ (decode cX11_asksRound 18 = .ok (.bipush (-2), 2)) ∧ (decode cX11_asksRound 20 = .ok (.ireturn, 1)) ∧ (decode cX11_asksRound 7 = .ok (.aload_n 0, 1)) ∧ (decode cX11_asksRound 8 = .ok (.invokevirtual 83, 3)) ∧ (decode cX11_asksRound 11 = .ok (.ifCond .eq 7, 3)) ∧ (decode cX11_asksRound 14 = .ok (.iload_n 2, 1)) ∧ (decode cX11_asksRound 15 = .ok (.ifCond .ne 6, 3)) ∧ (decode cX11_asksRound 21 = .ok (.aload_n 0, 1)) ∧ (decode cX11_asksRound 22 = .ok (.getfield 61, 3)) ∧ (decode cX11_asksRound 25 = .ok (.iload_n 1, 1)) ∧ (decode cX11_asksRound 26 = .ok (.iaload, 1)) ∧ (decode cX11_asksRound 27 = .ok (.iconst (-1), 1)) ∧ (decode cX11_asksRound 28 = .ok (.if_icmp .ne 6, 3)) ∧ (decode cX11_asksRound 34 = .ok (.iconst 0, 1)) ∧ (decode cX11_asksRound 35 = .ok (.istore_n 3, 1)) ∧ (decode cX11_asksRound 36 = .ok (.iload_n 3, 1)) ∧ (decode cX11_asksRound 37 = .ok (.aload_n 0, 1)) ∧ (decode cX11_asksRound 38 = .ok (.getfield 61, 3)) ∧ (decode cX11_asksRound 41 = .ok (.iload_n 1, 1)) ∧ (decode cX11_asksRound 42 = .ok (.iaload, 1)) ∧ (decode cX11_asksRound 43 = .ok (.if_icmp .ge 25, 3)) := by decide +kernel
theorem dX11_asksRound_0 : decode cX11_asksRound 0 = .ok (.iload_n 1, 1) := db247.1
theorem dX11_asksRound_1 : decode cX11_asksRound 1 = .ok (.invokestatic 290, 3) := db247.2.1
theorem dX11_asksRound_4 : decode cX11_asksRound 4 = .ok (.ifCond .eq 14, 3) := db247.2.2.1
theorem dX11_asksRound_18 : decode cX11_asksRound 18 = .ok (.bipush (-2), 2) := db247.2.2.2.1
theorem dX11_asksRound_20 : decode cX11_asksRound 20 = .ok (.ireturn, 1) := db247.2.2.2.2.1
theorem dX11_asksRound_7 : decode cX11_asksRound 7 = .ok (.aload_n 0, 1) := db247.2.2.2.2.2.1
theorem dX11_asksRound_8 : decode cX11_asksRound 8 = .ok (.invokevirtual 83, 3) := db247.2.2.2.2.2.2.1
theorem dX11_asksRound_11 : decode cX11_asksRound 11 = .ok (.ifCond .eq 7, 3) := db247.2.2.2.2.2.2.2.1
theorem dX11_asksRound_14 : decode cX11_asksRound 14 = .ok (.iload_n 2, 1) := db247.2.2.2.2.2.2.2.2.1
theorem dX11_asksRound_15 : decode cX11_asksRound 15 = .ok (.ifCond .ne 6, 3) := db247.2.2.2.2.2.2.2.2.2.1
theorem dX11_asksRound_21 : decode cX11_asksRound 21 = .ok (.aload_n 0, 1) := db247.2.2.2.2.2.2.2.2.2.2.1
theorem dX11_asksRound_22 : decode cX11_asksRound 22 = .ok (.getfield 61, 3) := db247.2.2.2.2.2.2.2.2.2.2.2.1
theorem dX11_asksRound_25 : decode cX11_asksRound 25 = .ok (.iload_n 1, 1) := db247.2.2.2.2.2.2.2.2.2.2.2.2.1
theorem dX11_asksRound_26 : decode cX11_asksRound 26 = .ok (.iaload, 1) := db247.2.2.2.2.2.2.2.2.2.2.2.2.2.1
theorem dX11_asksRound_27 : decode cX11_asksRound 27 = .ok (.iconst (-1), 1) := db247.2.2.2.2.2.2.2.2.2.2.2.2.2.2.1
theorem dX11_asksRound_28 : decode cX11_asksRound 28 = .ok (.if_icmp .ne 6, 3) := db247.2.2.2.2.2.2.2.2.2.2.2.2.2.2.2.1
theorem dX11_asksRound_34 : decode cX11_asksRound 34 = .ok (.iconst 0, 1) := db247.2.2.2.2.2.2.2.2.2.2.2.2.2.2.2.2.1
theorem dX11_asksRound_35 : decode cX11_asksRound 35 = .ok (.istore_n 3, 1) := db247.2.2.2.2.2.2.2.2.2.2.2.2.2.2.2.2.2.1
theorem dX11_asksRound_36 : decode cX11_asksRound 36 = .ok (.iload_n 3, 1) := db247.2.2.2.2.2.2.2.2.2.2.2.2.2.2.2.2.2.2.1
theorem dX11_asksRound_37 : decode cX11_asksRound 37 = .ok (.aload_n 0, 1) := db247.2.2.2.2.2.2.2.2.2.2.2.2.2.2.2.2.2.2.2.1
theorem dX11_asksRound_38 : decode cX11_asksRound 38 = .ok (.getfield 61, 3) := db247.2.2.2.2.2.2.2.2.2.2.2.2.2.2.2.2.2.2.2.2.1
theorem dX11_asksRound_41 : decode cX11_asksRound 41 = .ok (.iload_n 1, 1) := db247.2.2.2.2.2.2.2.2.2.2.2.2.2.2.2.2.2.2.2.2.2.1
theorem dX11_asksRound_42 : decode cX11_asksRound 42 = .ok (.iaload, 1) := db247.2.2.2.2.2.2.2.2.2.2.2.2.2.2.2.2.2.2.2.2.2.2.1
theorem dX11_asksRound_43 : decode cX11_asksRound 43 = .ok (.if_icmp .ge 25, 3) := db247.2.2.2.2.2.2.2.2.2.2.2.2.2.2.2.2.2.2.2.2.2.2.2
theorem db248 : (decode cX11_asksRound 68 = .ok (.iconst 0, 1)) ∧ (decode cX11_asksRound 69 = .ok (.ireturn, 1)) ∧ (decode cX11_asksRound 46 = .ok (.aload_n 0, 1)) ∧ (decode cX11_asksRound 47 = .ok (.aload_n 0, 1)) ∧ (decode cX11_asksRound 48 = .ok (.iload_n 1, 1)) ∧ (decode cX11_asksRound 49 = .ok (.iload_n 3, 1)) ∧ (decode cX11_asksRound 50 = .ok (.invokevirtual 286, 3)) ∧ (decode cX11_asksRound 53 = .ok (.invokevirtual 275, 3)) ∧ (decode cX11_asksRound 56 = .ok (.ifCond .ne 6, 3)) ∧ (decode cX11_asksRound 62 = .ok (.iinc 3 1, 3)) ∧ (decode cX11_asksRound 65 = .ok (.goto (-29), 3)) ∧ (decode cX11_asksRound 59 = .ok (.bipush (-2), 2)) ∧ (decode cX11_asksRound 61 = .ok (.ireturn, 1)) ∧ (decode cX11_asksRound 31 = .ok (.bipush (-6), 2)) ∧ (decode cX11_asksRound 33 = .ok (.ireturn, 1)) := by decide +kernel
theorem dX11_asksRound_68 : decode cX11_asksRound 68 = .ok (.iconst 0, 1) := db248.1
theorem dX11_asksRound_69 : decode cX11_asksRound 69 = .ok (.ireturn, 1) := db248.2.1
theorem dX11_asksRound_46 : decode cX11_asksRound 46 = .ok (.aload_n 0, 1) := db248.2.2.1
theorem dX11_asksRound_47 : decode cX11_asksRound 47 = .ok (.aload_n 0, 1) := db248.2.2.2.1
theorem dX11_asksRound_48 : decode cX11_asksRound 48 = .ok (.iload_n 1, 1) := db248.2.2.2.2.1
theorem dX11_asksRound_49 : decode cX11_asksRound 49 = .ok (.iload_n 3, 1) := db248.2.2.2.2.2.1
theorem dX11_asksRound_50 : decode cX11_asksRound 50 = .ok (.invokevirtual 286, 3) := db248.2.2.2.2.2.2.1
theorem dX11_asksRound_53 : decode cX11_asksRound 53 = .ok (.invokevirtual 275, 3) := db248.2.2.2.2.2.2.2.1
theorem dX11_asksRound_56 : decode cX11_asksRound 56 = .ok (.ifCond .ne 6, 3) := db248.2.2.2.2.2.2.2.2.1
theorem dX11_asksRound_62 : decode cX11_asksRound 62 = .ok (.iinc 3 1, 3) := db248.2.2.2.2.2.2.2.2.2.1
theorem dX11_asksRound_65 : decode cX11_asksRound 65 = .ok (.goto (-29), 3) := db248.2.2.2.2.2.2.2.2.2.2.1
theorem dX11_asksRound_59 : decode cX11_asksRound 59 = .ok (.bipush (-2), 2) := db248.2.2.2.2.2.2.2.2.2.2.2.1
theorem dX11_asksRound_61 : decode cX11_asksRound 61 = .ok (.ireturn, 1) := db248.2.2.2.2.2.2.2.2.2.2.2.2.1
theorem dX11_asksRound_31 : decode cX11_asksRound 31 = .ok (.bipush (-6), 2) := db248.2.2.2.2.2.2.2.2.2.2.2.2.2.1
theorem dX11_asksRound_33 : decode cX11_asksRound 33 = .ok (.ireturn, 1) := db248.2.2.2.2.2.2.2.2.2.2.2.2.2.2
theorem db249 : (decode cX11_back 0 = .ok (.iload_n 1, 1)) ∧ (decode cX11_back 1 = .ok (.i2l, 1)) ∧ (decode cX11_back 2 = .ok (.lconst 0, 1)) ∧ (decode cX11_back 3 = .ok (.ldc2_w 77, 3)) ∧ (decode cX11_back 6 = .ok (.invokestatic 79, 3)) ∧ (decode cX11_back 9 = .ok (.ifCond .ne 6, 3)) ∧ (decode cX11_back 15 = .ok (.aload_n 0, 1)) ∧ (decode cX11_back 16 = .ok (.getfield 16, 3)) ∧ (decode cX11_back 19 = .ok (.iload_n 1, 1)) ∧ (decode cX11_back 20 = .ok (.baload, 1)) ∧ (decode cX11_back 21 = .ok (.ifCond .ne 6, 3)) ∧ (decode cX11_back 27 = .ok (.iconst 0, 1)) ∧ (decode cX11_back 28 = .ok (.istore_n 2, 1)) ∧ (decode cX11_back 29 = .ok (.iload_n 2, 1)) ∧ (decode cX11_back 30 = .ok (.sipush 144, 3)) ∧ (decode cX11_back 33 = .ok (.if_icmp .ge 27, 3)) ∧ (decode cX11_back 60 = .ok (.iconst 0, 1)) ∧ (decode cX11_back 61 = .ok (.ireturn, 1)) ∧ (decode cX11_back 36 = .ok (.aload_n 0, 1)) ∧ (decode cX11_back 37 = .ok (.getfield 9, 3)) ∧ (decode cX11_back 40 = .ok (.iload_n 2, 1)) ∧ (decode cX11_back 41 = .ok (.aload_n 0, 1)) ∧ (decode cX11_back 42 = .ok (.getfield 13, 3)) ∧ (decode cX11_back 45 = .ok (.sipush 144, 3)) := by decide +kernel
theorem dX11_back_0 : decode cX11_back 0 = .ok (.iload_n 1, 1) := db249.1
theorem dX11_back_1 : decode cX11_back 1 = .ok (.i2l, 1) := db249.2.1
theorem dX11_back_2 : decode cX11_back 2 = .ok (.lconst 0, 1) := db249.2.2.1
theorem dX11_back_3 : decode cX11_back 3 = .ok (.ldc2_w 77, 3) := db249.2.2.2.1
theorem dX11_back_6 : decode cX11_back 6 = .ok (.invokestatic 79, 3) := db249.2.2.2.2.1
theorem dX11_back_9 : decode cX11_back 9 = .ok (.ifCond .ne 6, 3) := db249.2.2.2.2.2.1
theorem dX11_back_15 : decode cX11_back 15 = .ok (.aload_n 0, 1) := db249.2.2.2.2.2.2.1
theorem dX11_back_16 : decode cX11_back 16 = .ok (.getfield 16, 3) := db249.2.2.2.2.2.2.2.1
theorem dX11_back_19 : decode cX11_back 19 = .ok (.iload_n 1, 1) := db249.2.2.2.2.2.2.2.2.1
theorem dX11_back_20 : decode cX11_back 20 = .ok (.baload, 1) := db249.2.2.2.2.2.2.2.2.2.1
theorem dX11_back_21 : decode cX11_back 21 = .ok (.ifCond .ne 6, 3) := db249.2.2.2.2.2.2.2.2.2.2.1
theorem dX11_back_27 : decode cX11_back 27 = .ok (.iconst 0, 1) := db249.2.2.2.2.2.2.2.2.2.2.2.1
theorem dX11_back_28 : decode cX11_back 28 = .ok (.istore_n 2, 1) := db249.2.2.2.2.2.2.2.2.2.2.2.2.1
theorem dX11_back_29 : decode cX11_back 29 = .ok (.iload_n 2, 1) := db249.2.2.2.2.2.2.2.2.2.2.2.2.2.1
theorem dX11_back_30 : decode cX11_back 30 = .ok (.sipush 144, 3) := db249.2.2.2.2.2.2.2.2.2.2.2.2.2.2.1
theorem dX11_back_33 : decode cX11_back 33 = .ok (.if_icmp .ge 27, 3) := db249.2.2.2.2.2.2.2.2.2.2.2.2.2.2.2.1
theorem dX11_back_60 : decode cX11_back 60 = .ok (.iconst 0, 1) := db249.2.2.2.2.2.2.2.2.2.2.2.2.2.2.2.2.1
theorem dX11_back_61 : decode cX11_back 61 = .ok (.ireturn, 1) := db249.2.2.2.2.2.2.2.2.2.2.2.2.2.2.2.2.2.1
theorem dX11_back_36 : decode cX11_back 36 = .ok (.aload_n 0, 1) := db249.2.2.2.2.2.2.2.2.2.2.2.2.2.2.2.2.2.2.1
theorem dX11_back_37 : decode cX11_back 37 = .ok (.getfield 9, 3) := db249.2.2.2.2.2.2.2.2.2.2.2.2.2.2.2.2.2.2.2.1
theorem dX11_back_40 : decode cX11_back 40 = .ok (.iload_n 2, 1) := db249.2.2.2.2.2.2.2.2.2.2.2.2.2.2.2.2.2.2.2.2.1
theorem dX11_back_41 : decode cX11_back 41 = .ok (.aload_n 0, 1) := db249.2.2.2.2.2.2.2.2.2.2.2.2.2.2.2.2.2.2.2.2.2.1
theorem dX11_back_42 : decode cX11_back 42 = .ok (.getfield 13, 3) := db249.2.2.2.2.2.2.2.2.2.2.2.2.2.2.2.2.2.2.2.2.2.2.1
theorem dX11_back_45 : decode cX11_back 45 = .ok (.sipush 144, 3) := db249.2.2.2.2.2.2.2.2.2.2.2.2.2.2.2.2.2.2.2.2.2.2.2
theorem db250 : (decode cX11_back 48 = .ok (.iload_n 1, 1)) ∧ (decode cX11_back 49 = .ok (.imul, 1)) ∧ (decode cX11_back 50 = .ok (.iload_n 2, 1)) ∧ (decode cX11_back 51 = .ok (.iadd, 1)) ∧ (decode cX11_back 52 = .ok (.iaload, 1)) ∧ (decode cX11_back 53 = .ok (.iastore, 1)) ∧ (decode cX11_back 54 = .ok (.iinc 2 1, 3)) ∧ (decode cX11_back 57 = .ok (.goto (-28), 3)) ∧ (decode cX11_back 24 = .ok (.bipush (-6), 2)) ∧ (decode cX11_back 26 = .ok (.ireturn, 1)) ∧ (decode cX11_back 12 = .ok (.bipush (-2), 2)) ∧ (decode cX11_back 14 = .ok (.ireturn, 1)) := by decide +kernel
theorem dX11_back_48 : decode cX11_back 48 = .ok (.iload_n 1, 1) := db250.1
theorem dX11_back_49 : decode cX11_back 49 = .ok (.imul, 1) := db250.2.1
theorem dX11_back_50 : decode cX11_back 50 = .ok (.iload_n 2, 1) := db250.2.2.1
theorem dX11_back_51 : decode cX11_back 51 = .ok (.iadd, 1) := db250.2.2.2.1
theorem dX11_back_52 : decode cX11_back 52 = .ok (.iaload, 1) := db250.2.2.2.2.1
theorem dX11_back_53 : decode cX11_back 53 = .ok (.iastore, 1) := db250.2.2.2.2.2.1
theorem dX11_back_54 : decode cX11_back 54 = .ok (.iinc 2 1, 3) := db250.2.2.2.2.2.2.1
theorem dX11_back_57 : decode cX11_back 57 = .ok (.goto (-28), 3) := db250.2.2.2.2.2.2.2.1
theorem dX11_back_24 : decode cX11_back 24 = .ok (.bipush (-6), 2) := db250.2.2.2.2.2.2.2.2.1
theorem dX11_back_26 : decode cX11_back 26 = .ok (.ireturn, 1) := db250.2.2.2.2.2.2.2.2.2.1
theorem dX11_back_12 : decode cX11_back 12 = .ok (.bipush (-2), 2) := db250.2.2.2.2.2.2.2.2.2.2.1
theorem dX11_back_14 : decode cX11_back 14 = .ok (.ireturn, 1) := db250.2.2.2.2.2.2.2.2.2.2.2
theorem db251 : (decode cX11_beAtFirst 0 = .ok (.aload_n 0, 1)) ∧ (decode cX11_beAtFirst 1 = .ok (.invokevirtual 242, 3)) ∧ (decode cX11_beAtFirst 4 = .ok (.istore_n 1, 1)) ∧ (decode cX11_beAtFirst 5 = .ok (.aload_n 0, 1)) ∧ (decode cX11_beAtFirst 6 = .ok (.ldc 245, 2)) ∧ (decode cX11_beAtFirst 8 = .ok (.putfield 246, 3)) ∧ (decode cX11_beAtFirst 11 = .ok (.aload_n 0, 1)) ∧ (decode cX11_beAtFirst 12 = .ok (.iconst 0, 1)) ∧ (decode cX11_beAtFirst 13 = .ok (.putfield 249, 3)) ∧ (decode cX11_beAtFirst 16 = .ok (.iconst 0, 1)) ∧ (decode cX11_beAtFirst 17 = .ok (.istore_n 2, 1)) ∧ (decode cX11_beAtFirst 18 = .ok (.iload_n 2, 1)) ∧ (decode cX11_beAtFirst 19 = .ok (.bipush 7, 2)) ∧ (decode cX11_beAtFirst 21 = .ok (.if_icmp .ge 67, 3)) ∧ (decode cX11_beAtFirst 88 = .ok (.return_, 1)) ∧ (decode cX11_beAtFirst 24 = .ok (.aload_n 0, 1)) ∧ (decode cX11_beAtFirst 25 = .ok (.getfield 34, 3)) ∧ (decode cX11_beAtFirst 28 = .ok (.iload_n 2, 1)) ∧ (decode cX11_beAtFirst 29 = .ok (.iload_n 2, 1)) ∧ (decode cX11_beAtFirst 30 = .ok (.aload_n 0, 1)) ∧ (decode cX11_beAtFirst 31 = .ok (.getfield 9, 3)) ∧ (decode cX11_beAtFirst 34 = .ok (.iconst 4, 1)) ∧ (decode cX11_beAtFirst 35 = .ok (.iaload, 1)) ∧ (decode cX11_beAtFirst 66 = .ok (.iastore, 1)) := by decide +kernel
theorem dX11_beAtFirst_0 : decode cX11_beAtFirst 0 = .ok (.aload_n 0, 1) := db251.1
theorem dX11_beAtFirst_1 : decode cX11_beAtFirst 1 = .ok (.invokevirtual 242, 3) := db251.2.1
theorem dX11_beAtFirst_4 : decode cX11_beAtFirst 4 = .ok (.istore_n 1, 1) := db251.2.2.1
theorem dX11_beAtFirst_5 : decode cX11_beAtFirst 5 = .ok (.aload_n 0, 1) := db251.2.2.2.1
theorem dX11_beAtFirst_6 : decode cX11_beAtFirst 6 = .ok (.ldc 245, 2) := db251.2.2.2.2.1
theorem dX11_beAtFirst_8 : decode cX11_beAtFirst 8 = .ok (.putfield 246, 3) := db251.2.2.2.2.2.1
theorem dX11_beAtFirst_11 : decode cX11_beAtFirst 11 = .ok (.aload_n 0, 1) := db251.2.2.2.2.2.2.1
theorem dX11_beAtFirst_12 : decode cX11_beAtFirst 12 = .ok (.iconst 0, 1) := db251.2.2.2.2.2.2.2.1
theorem dX11_beAtFirst_13 : decode cX11_beAtFirst 13 = .ok (.putfield 249, 3) := db251.2.2.2.2.2.2.2.2.1
theorem dX11_beAtFirst_16 : decode cX11_beAtFirst 16 = .ok (.iconst 0, 1) := db251.2.2.2.2.2.2.2.2.2.1
theorem dX11_beAtFirst_17 : decode cX11_beAtFirst 17 = .ok (.istore_n 2, 1) := db251.2.2.2.2.2.2.2.2.2.2.1
theorem dX11_beAtFirst_18 : decode cX11_beAtFirst 18 = .ok (.iload_n 2, 1) := db251.2.2.2.2.2.2.2.2.2.2.2.1
theorem dX11_beAtFirst_19 : decode cX11_beAtFirst 19 = .ok (.bipush 7, 2) := db251.2.2.2.2.2.2.2.2.2.2.2.2.1
theorem dX11_beAtFirst_21 : decode cX11_beAtFirst 21 = .ok (.if_icmp .ge 67, 3) := db251.2.2.2.2.2.2.2.2.2.2.2.2.2.1
theorem dX11_beAtFirst_88 : decode cX11_beAtFirst 88 = .ok (.return_, 1) := db251.2.2.2.2.2.2.2.2.2.2.2.2.2.2.1
theorem dX11_beAtFirst_24 : decode cX11_beAtFirst 24 = .ok (.aload_n 0, 1) := db251.2.2.2.2.2.2.2.2.2.2.2.2.2.2.2.1
theorem dX11_beAtFirst_25 : decode cX11_beAtFirst 25 = .ok (.getfield 34, 3) := db251.2.2.2.2.2.2.2.2.2.2.2.2.2.2.2.2.1
theorem dX11_beAtFirst_28 : decode cX11_beAtFirst 28 = .ok (.iload_n 2, 1) := db251.2.2.2.2.2.2.2.2.2.2.2.2.2.2.2.2.2.1
theorem dX11_beAtFirst_29 : decode cX11_beAtFirst 29 = .ok (.iload_n 2, 1) := db251.2.2.2.2.2.2.2.2.2.2.2.2.2.2.2.2.2.2.1
theorem dX11_beAtFirst_30 : decode cX11_beAtFirst 30 = .ok (.aload_n 0, 1) := db251.2.2.2.2.2.2.2.2.2.2.2.2.2.2.2.2.2.2.2.1
theorem dX11_beAtFirst_31 : decode cX11_beAtFirst 31 = .ok (.getfield 9, 3) := db251.2.2.2.2.2.2.2.2.2.2.2.2.2.2.2.2.2.2.2.2.1
theorem dX11_beAtFirst_34 : decode cX11_beAtFirst 34 = .ok (.iconst 4, 1) := db251.2.2.2.2.2.2.2.2.2.2.2.2.2.2.2.2.2.2.2.2.2.1
theorem dX11_beAtFirst_35 : decode cX11_beAtFirst 35 = .ok (.iaload, 1) := db251.2.2.2.2.2.2.2.2.2.2.2.2.2.2.2.2.2.2.2.2.2.2.1
theorem dX11_beAtFirst_66 : decode cX11_beAtFirst 66 = .ok (.iastore, 1) := db251.2.2.2.2.2.2.2.2.2.2.2.2.2.2.2.2.2.2.2.2.2.2.2
theorem db252 : (decode cX11_beAtFirst 67 = .ok (.aload_n 0, 1)) ∧ (decode cX11_beAtFirst 68 = .ok (.dup, 1)) ∧ (decode cX11_beAtFirst 69 = .ok (.getfield 246, 3)) ∧ (decode cX11_beAtFirst 72 = .ok (.aload_n 0, 1)) ∧ (decode cX11_beAtFirst 73 = .ok (.getfield 34, 3)) ∧ (decode cX11_beAtFirst 76 = .ok (.iload_n 2, 1)) ∧ (decode cX11_beAtFirst 77 = .ok (.iaload, 1)) ∧ (decode cX11_beAtFirst 78 = .ok (.isub, 1)) ∧ (decode cX11_beAtFirst 79 = .ok (.putfield 246, 3)) ∧ (decode cX11_beAtFirst 82 = .ok (.iinc 2 1, 3)) ∧ (decode cX11_beAtFirst 85 = .ok (.goto (-67), 3)) ∧ (decode cX11_beAtFirst 65 = .ok (.iconst 0, 1)) ∧ (decode cX11_beAtFirst 36 = .ok (.if_icmp .ge 29, 3)) ∧ (decode cX11_beAtFirst 39 = .ok (.iload_n 1, 1)) ∧ (decode cX11_beAtFirst 40 = .ok (.ifCond .le 25, 3)) ∧ (decode cX11_beAtFirst 43 = .ok (.aload_n 0, 1)) ∧ (decode cX11_beAtFirst 44 = .ok (.getfield 9, 3)) ∧ (decode cX11_beAtFirst 47 = .ok (.iconst 1, 1)) ∧ (decode cX11_beAtFirst 48 = .ok (.iaload, 1)) ∧ (decode cX11_beAtFirst 49 = .ok (.sipush 10000, 3)) ∧ (decode cX11_beAtFirst 52 = .ok (.imul, 1)) ∧ (decode cX11_beAtFirst 53 = .ok (.aload_n 0, 1)) ∧ (decode cX11_beAtFirst 54 = .ok (.iload_n 2, 1)) ∧ (decode cX11_beAtFirst 55 = .ok (.iconst 2, 1)) := by decide +kernel
theorem dX11_beAtFirst_67 : decode cX11_beAtFirst 67 = .ok (.aload_n 0, 1) := db252.1
theorem dX11_beAtFirst_68 : decode cX11_beAtFirst 68 = .ok (.dup, 1) := db252.2.1
theorem dX11_beAtFirst_69 : decode cX11_beAtFirst 69 = .ok (.getfield 246, 3) := db252.2.2.1
theorem dX11_beAtFirst_72 : decode cX11_beAtFirst 72 = .ok (.aload_n 0, 1) := db252.2.2.2.1
theorem dX11_beAtFirst_73 : decode cX11_beAtFirst 73 = .ok (.getfield 34, 3) := db252.2.2.2.2.1
theorem dX11_beAtFirst_76 : decode cX11_beAtFirst 76 = .ok (.iload_n 2, 1) := db252.2.2.2.2.2.1
theorem dX11_beAtFirst_77 : decode cX11_beAtFirst 77 = .ok (.iaload, 1) := db252.2.2.2.2.2.2.1
theorem dX11_beAtFirst_78 : decode cX11_beAtFirst 78 = .ok (.isub, 1) := db252.2.2.2.2.2.2.2.1
theorem dX11_beAtFirst_79 : decode cX11_beAtFirst 79 = .ok (.putfield 246, 3) := db252.2.2.2.2.2.2.2.2.1
theorem dX11_beAtFirst_82 : decode cX11_beAtFirst 82 = .ok (.iinc 2 1, 3) := db252.2.2.2.2.2.2.2.2.2.1
theorem dX11_beAtFirst_85 : decode cX11_beAtFirst 85 = .ok (.goto (-67), 3) := db252.2.2.2.2.2.2.2.2.2.2.1
theorem dX11_beAtFirst_65 : decode cX11_beAtFirst 65 = .ok (.iconst 0, 1) := db252.2.2.2.2.2.2.2.2.2.2.2.1
theorem dX11_beAtFirst_36 : decode cX11_beAtFirst 36 = .ok (.if_icmp .ge 29, 3) := db252.2.2.2.2.2.2.2.2.2.2.2.2.1
theorem dX11_beAtFirst_39 : decode cX11_beAtFirst 39 = .ok (.iload_n 1, 1) := db252.2.2.2.2.2.2.2.2.2.2.2.2.2.1
theorem dX11_beAtFirst_40 : decode cX11_beAtFirst 40 = .ok (.ifCond .le 25, 3) := db252.2.2.2.2.2.2.2.2.2.2.2.2.2.2.1
theorem dX11_beAtFirst_43 : decode cX11_beAtFirst 43 = .ok (.aload_n 0, 1) := db252.2.2.2.2.2.2.2.2.2.2.2.2.2.2.2.1
theorem dX11_beAtFirst_44 : decode cX11_beAtFirst 44 = .ok (.getfield 9, 3) := db252.2.2.2.2.2.2.2.2.2.2.2.2.2.2.2.2.1
theorem dX11_beAtFirst_47 : decode cX11_beAtFirst 47 = .ok (.iconst 1, 1) := db252.2.2.2.2.2.2.2.2.2.2.2.2.2.2.2.2.2.1
theorem dX11_beAtFirst_48 : decode cX11_beAtFirst 48 = .ok (.iaload, 1) := db252.2.2.2.2.2.2.2.2.2.2.2.2.2.2.2.2.2.2.1
theorem dX11_beAtFirst_49 : decode cX11_beAtFirst 49 = .ok (.sipush 10000, 3) := db252.2.2.2.2.2.2.2.2.2.2.2.2.2.2.2.2.2.2.2.1
theorem dX11_beAtFirst_52 : decode cX11_beAtFirst 52 = .ok (.imul, 1) := db252.2.2.2.2.2.2.2.2.2.2.2.2.2.2.2.2.2.2.2.2.1
theorem dX11_beAtFirst_53 : decode cX11_beAtFirst 53 = .ok (.aload_n 0, 1) := db252.2.2.2.2.2.2.2.2.2.2.2.2.2.2.2.2.2.2.2.2.2.1
theorem dX11_beAtFirst_54 : decode cX11_beAtFirst 54 = .ok (.iload_n 2, 1) := db252.2.2.2.2.2.2.2.2.2.2.2.2.2.2.2.2.2.2.2.2.2.2.1
theorem dX11_beAtFirst_55 : decode cX11_beAtFirst 55 = .ok (.iconst 2, 1) := db252.2.2.2.2.2.2.2.2.2.2.2.2.2.2.2.2.2.2.2.2.2.2.2
theorem db253 : (decode cX11_beAtFirst 56 = .ok (.invokevirtual 227, 3)) ∧ (decode cX11_beAtFirst 59 = .ok (.imul, 1)) ∧ (decode cX11_beAtFirst 60 = .ok (.iload_n 1, 1)) ∧ (decode cX11_beAtFirst 61 = .ok (.idiv, 1)) ∧ (decode cX11_beAtFirst 62 = .ok (.goto 4, 3)) := by decide +kernel
theorem dX11_beAtFirst_56 : decode cX11_beAtFirst 56 = .ok (.invokevirtual 227, 3) := db253.1
theorem dX11_beAtFirst_59 : decode cX11_beAtFirst 59 = .ok (.imul, 1) := db253.2.1
theorem dX11_beAtFirst_60 : decode cX11_beAtFirst 60 = .ok (.iload_n 1, 1) := db253.2.2.1
theorem dX11_beAtFirst_61 : decode cX11_beAtFirst 61 = .ok (.idiv, 1) := db253.2.2.2.1
theorem dX11_beAtFirst_62 : decode cX11_beAtFirst 62 = .ok (.goto 4, 3) := db253.2.2.2.2
theorem db254 : (decode cX11_begins 0 = .ok (.iload_n 1, 1)) ∧ (decode cX11_begins 1 = .ok (.i2l, 1)) ∧ (decode cX11_begins 2 = .ok (.lconst 0, 1)) ∧ (decode cX11_begins 3 = .ok (.ldc2_w 325, 3)) ∧ (decode cX11_begins 6 = .ok (.invokestatic 79, 3)) ∧ (decode cX11_begins 9 = .ok (.ifCond .eq 12, 3)) ∧ (decode cX11_begins 21 = .ok (.bipush (-2), 2)) ∧ (decode cX11_begins 23 = .ok (.ireturn, 1)) ∧ (decode cX11_begins 12 = .ok (.aload_n 0, 1)) ∧ (decode cX11_begins 13 = .ok (.getfield 9, 3)) ∧ (decode cX11_begins 16 = .ok (.iconst 4, 1)) ∧ (decode cX11_begins 17 = .ok (.iaload, 1)) ∧ (decode cX11_begins 18 = .ok (.ifCond .ne 6, 3)) ∧ (decode cX11_begins 24 = .ok (.iconst (-1), 1)) ∧ (decode cX11_begins 25 = .ok (.istore_n 2, 1)) ∧ (decode cX11_begins 26 = .ok (.iconst (-1), 1)) ∧ (decode cX11_begins 27 = .ok (.istore_n 3, 1)) ∧ (decode cX11_begins 28 = .ok (.iconst 0, 1)) ∧ (decode cX11_begins 29 = .ok (.istore 4, 2)) ∧ (decode cX11_begins 31 = .ok (.iload 4, 2)) ∧ (decode cX11_begins 33 = .ok (.aload_n 0, 1)) ∧ (decode cX11_begins 34 = .ok (.getfield 9, 3)) ∧ (decode cX11_begins 37 = .ok (.iconst 4, 1)) ∧ (decode cX11_begins 38 = .ok (.iaload, 1)) := by decide +kernel
theorem dX11_begins_0 : decode cX11_begins 0 = .ok (.iload_n 1, 1) := db254.1
theorem dX11_begins_1 : decode cX11_begins 1 = .ok (.i2l, 1) := db254.2.1
theorem dX11_begins_2 : decode cX11_begins 2 = .ok (.lconst 0, 1) := db254.2.2.1
theorem dX11_begins_3 : decode cX11_begins 3 = .ok (.ldc2_w 325, 3) := db254.2.2.2.1
theorem dX11_begins_6 : decode cX11_begins 6 = .ok (.invokestatic 79, 3) := db254.2.2.2.2.1
theorem dX11_begins_9 : decode cX11_begins 9 = .ok (.ifCond .eq 12, 3) := db254.2.2.2.2.2.1
theorem dX11_begins_21 : decode cX11_begins 21 = .ok (.bipush (-2), 2) := db254.2.2.2.2.2.2.1
theorem dX11_begins_23 : decode cX11_begins 23 = .ok (.ireturn, 1) := db254.2.2.2.2.2.2.2.1
theorem dX11_begins_12 : decode cX11_begins 12 = .ok (.aload_n 0, 1) := db254.2.2.2.2.2.2.2.2.1
theorem dX11_begins_13 : decode cX11_begins 13 = .ok (.getfield 9, 3) := db254.2.2.2.2.2.2.2.2.2.1
theorem dX11_begins_16 : decode cX11_begins 16 = .ok (.iconst 4, 1) := db254.2.2.2.2.2.2.2.2.2.2.1
theorem dX11_begins_17 : decode cX11_begins 17 = .ok (.iaload, 1) := db254.2.2.2.2.2.2.2.2.2.2.2.1
theorem dX11_begins_18 : decode cX11_begins 18 = .ok (.ifCond .ne 6, 3) := db254.2.2.2.2.2.2.2.2.2.2.2.2.1
theorem dX11_begins_24 : decode cX11_begins 24 = .ok (.iconst (-1), 1) := db254.2.2.2.2.2.2.2.2.2.2.2.2.2.1
theorem dX11_begins_25 : decode cX11_begins 25 = .ok (.istore_n 2, 1) := db254.2.2.2.2.2.2.2.2.2.2.2.2.2.2.1
theorem dX11_begins_26 : decode cX11_begins 26 = .ok (.iconst (-1), 1) := db254.2.2.2.2.2.2.2.2.2.2.2.2.2.2.2.1
theorem dX11_begins_27 : decode cX11_begins 27 = .ok (.istore_n 3, 1) := db254.2.2.2.2.2.2.2.2.2.2.2.2.2.2.2.2.1
theorem dX11_begins_28 : decode cX11_begins 28 = .ok (.iconst 0, 1) := db254.2.2.2.2.2.2.2.2.2.2.2.2.2.2.2.2.2.1
theorem dX11_begins_29 : decode cX11_begins 29 = .ok (.istore 4, 2) := db254.2.2.2.2.2.2.2.2.2.2.2.2.2.2.2.2.2.2.1
theorem dX11_begins_31 : decode cX11_begins 31 = .ok (.iload 4, 2) := db254.2.2.2.2.2.2.2.2.2.2.2.2.2.2.2.2.2.2.2.1
theorem dX11_begins_33 : decode cX11_begins 33 = .ok (.aload_n 0, 1) := db254.2.2.2.2.2.2.2.2.2.2.2.2.2.2.2.2.2.2.2.2.1
theorem dX11_begins_34 : decode cX11_begins 34 = .ok (.getfield 9, 3) := db254.2.2.2.2.2.2.2.2.2.2.2.2.2.2.2.2.2.2.2.2.2.1
theorem dX11_begins_37 : decode cX11_begins 37 = .ok (.iconst 4, 1) := db254.2.2.2.2.2.2.2.2.2.2.2.2.2.2.2.2.2.2.2.2.2.2.1
theorem dX11_begins_38 : decode cX11_begins 38 = .ok (.iaload, 1) := db254.2.2.2.2.2.2.2.2.2.2.2.2.2.2.2.2.2.2.2.2.2.2.2
theorem db255 : (decode cX11_begins 39 = .ok (.if_icmp .ge 33, 3)) ∧ (decode cX11_begins 72 = .ok (.iload_n 2, 1)) ∧ (decode cX11_begins 73 = .ok (.ireturn, 1)) ∧ (decode cX11_begins 42 = .ok (.aload_n 0, 1)) ∧ (decode cX11_begins 43 = .ok (.iload 4, 2)) ∧ (decode cX11_begins 45 = .ok (.iload_n 1, 1)) ∧ (decode cX11_begins 46 = .ok (.invokevirtual 327, 3)) ∧ (decode cX11_begins 49 = .ok (.istore 5, 2)) ∧ (decode cX11_begins 51 = .ok (.iload 5, 2)) ∧ (decode cX11_begins 53 = .ok (.iload_n 3, 1)) ∧ (decode cX11_begins 66 = .ok (.iinc 4 1, 3)) ∧ (decode cX11_begins 69 = .ok (.goto (-38), 3)) ∧ (decode cX11_begins 54 = .ok (.if_icmp .gt 6, 3)) ∧ (decode cX11_begins 60 = .ok (.iload 5, 2)) ∧ (decode cX11_begins 62 = .ok (.istore_n 3, 1)) ∧ (decode cX11_begins 63 = .ok (.iload 4, 2)) ∧ (decode cX11_begins 65 = .ok (.istore_n 2, 1)) ∧ (decode cX11_begins 57 = .ok (.goto 9, 3)) := by decide +kernel
theorem dX11_begins_39 : decode cX11_begins 39 = .ok (.if_icmp .ge 33, 3) := db255.1
theorem dX11_begins_72 : decode cX11_begins 72 = .ok (.iload_n 2, 1) := db255.2.1
theorem dX11_begins_73 : decode cX11_begins 73 = .ok (.ireturn, 1) := db255.2.2.1
theorem dX11_begins_42 : decode cX11_begins 42 = .ok (.aload_n 0, 1) := db255.2.2.2.1
theorem dX11_begins_43 : decode cX11_begins 43 = .ok (.iload 4, 2) := db255.2.2.2.2.1
theorem dX11_begins_45 : decode cX11_begins 45 = .ok (.iload_n 1, 1) := db255.2.2.2.2.2.1
theorem dX11_begins_46 : decode cX11_begins 46 = .ok (.invokevirtual 327, 3) := db255.2.2.2.2.2.2.1
theorem dX11_begins_49 : decode cX11_begins 49 = .ok (.istore 5, 2) := db255.2.2.2.2.2.2.2.1
theorem dX11_begins_51 : decode cX11_begins 51 = .ok (.iload 5, 2) := db255.2.2.2.2.2.2.2.2.1
theorem dX11_begins_53 : decode cX11_begins 53 = .ok (.iload_n 3, 1) := db255.2.2.2.2.2.2.2.2.2.1
theorem dX11_begins_66 : decode cX11_begins 66 = .ok (.iinc 4 1, 3) := db255.2.2.2.2.2.2.2.2.2.2.1
theorem dX11_begins_69 : decode cX11_begins 69 = .ok (.goto (-38), 3) := db255.2.2.2.2.2.2.2.2.2.2.2.1
theorem dX11_begins_54 : decode cX11_begins 54 = .ok (.if_icmp .gt 6, 3) := db255.2.2.2.2.2.2.2.2.2.2.2.2.1
theorem dX11_begins_60 : decode cX11_begins 60 = .ok (.iload 5, 2) := db255.2.2.2.2.2.2.2.2.2.2.2.2.2.1
theorem dX11_begins_62 : decode cX11_begins 62 = .ok (.istore_n 3, 1) := db255.2.2.2.2.2.2.2.2.2.2.2.2.2.2.1
theorem dX11_begins_63 : decode cX11_begins 63 = .ok (.iload 4, 2) := db255.2.2.2.2.2.2.2.2.2.2.2.2.2.2.2.1
theorem dX11_begins_65 : decode cX11_begins 65 = .ok (.istore_n 2, 1) := db255.2.2.2.2.2.2.2.2.2.2.2.2.2.2.2.2.1
theorem dX11_begins_57 : decode cX11_begins 57 = .ok (.goto 9, 3) := db255.2.2.2.2.2.2.2.2.2.2.2.2.2.2.2.2.2
theorem db256 : (decode cX11_behind 0 = .ok (.aload_n 0, 1)) ∧ (decode cX11_behind 1 = .ok (.iload_n 1, 1)) ∧ (decode cX11_behind 2 = .ok (.aload_n 0, 1)) ∧ (decode cX11_behind 3 = .ok (.iload_n 2, 1)) ∧ (decode cX11_behind 4 = .ok (.i2l, 1)) ∧ (decode cX11_behind 5 = .ok (.invokevirtual 89, 3)) ∧ (decode cX11_behind 8 = .ok (.invokevirtual 303, 3)) ∧ (decode cX11_behind 11 = .ok (.istore_n 3, 1)) ∧ (decode cX11_behind 12 = .ok (.iload_n 3, 1)) ∧ (decode cX11_behind 13 = .ok (.ifCond .ge 5, 3)) ∧ (decode cX11_behind 18 = .ok (.aload_n 0, 1)) ∧ (decode cX11_behind 19 = .ok (.iload_n 1, 1)) ∧ (decode cX11_behind 20 = .ok (.aload_n 0, 1)) ∧ (decode cX11_behind 21 = .ok (.getfield 61, 3)) ∧ (decode cX11_behind 24 = .ok (.iload_n 1, 1)) ∧ (decode cX11_behind 25 = .ok (.iaload, 1)) ∧ (decode cX11_behind 26 = .ok (.iconst 0, 1)) ∧ (decode cX11_behind 27 = .ok (.invokevirtual 296, 3)) ∧ (decode cX11_behind 30 = .ok (.pop, 1)) ∧ (decode cX11_behind 31 = .ok (.aload_n 0, 1)) ∧ (decode cX11_behind 32 = .ok (.getfield 34, 3)) ∧ (decode cX11_behind 35 = .ok (.iload_n 2, 1)) ∧ (decode cX11_behind 36 = .ok (.iaload, 1)) ∧ (decode cX11_behind 37 = .ok (.ireturn, 1)) := by decide +kernel
theorem dX11_behind_0 : decode cX11_behind 0 = .ok (.aload_n 0, 1) := db256.1
theorem dX11_behind_1 : decode cX11_behind 1 = .ok (.iload_n 1, 1) := db256.2.1
theorem dX11_behind_2 : decode cX11_behind 2 = .ok (.aload_n 0, 1) := db256.2.2.1
theorem dX11_behind_3 : decode cX11_behind 3 = .ok (.iload_n 2, 1) := db256.2.2.2.1
theorem dX11_behind_4 : decode cX11_behind 4 = .ok (.i2l, 1) := db256.2.2.2.2.1
theorem dX11_behind_5 : decode cX11_behind 5 = .ok (.invokevirtual 89, 3) := db256.2.2.2.2.2.1
theorem dX11_behind_8 : decode cX11_behind 8 = .ok (.invokevirtual 303, 3) := db256.2.2.2.2.2.2.1
theorem dX11_behind_11 : decode cX11_behind 11 = .ok (.istore_n 3, 1) := db256.2.2.2.2.2.2.2.1
theorem dX11_behind_12 : decode cX11_behind 12 = .ok (.iload_n 3, 1) := db256.2.2.2.2.2.2.2.2.1
theorem dX11_behind_13 : decode cX11_behind 13 = .ok (.ifCond .ge 5, 3) := db256.2.2.2.2.2.2.2.2.2.1
theorem dX11_behind_18 : decode cX11_behind 18 = .ok (.aload_n 0, 1) := db256.2.2.2.2.2.2.2.2.2.2.1
theorem dX11_behind_19 : decode cX11_behind 19 = .ok (.iload_n 1, 1) := db256.2.2.2.2.2.2.2.2.2.2.2.1
theorem dX11_behind_20 : decode cX11_behind 20 = .ok (.aload_n 0, 1) := db256.2.2.2.2.2.2.2.2.2.2.2.2.1
theorem dX11_behind_21 : decode cX11_behind 21 = .ok (.getfield 61, 3) := db256.2.2.2.2.2.2.2.2.2.2.2.2.2.1
theorem dX11_behind_24 : decode cX11_behind 24 = .ok (.iload_n 1, 1) := db256.2.2.2.2.2.2.2.2.2.2.2.2.2.2.1
theorem dX11_behind_25 : decode cX11_behind 25 = .ok (.iaload, 1) := db256.2.2.2.2.2.2.2.2.2.2.2.2.2.2.2.1
theorem dX11_behind_26 : decode cX11_behind 26 = .ok (.iconst 0, 1) := db256.2.2.2.2.2.2.2.2.2.2.2.2.2.2.2.2.1
theorem dX11_behind_27 : decode cX11_behind 27 = .ok (.invokevirtual 296, 3) := db256.2.2.2.2.2.2.2.2.2.2.2.2.2.2.2.2.2.1
theorem dX11_behind_30 : decode cX11_behind 30 = .ok (.pop, 1) := db256.2.2.2.2.2.2.2.2.2.2.2.2.2.2.2.2.2.2.1
theorem dX11_behind_31 : decode cX11_behind 31 = .ok (.aload_n 0, 1) := db256.2.2.2.2.2.2.2.2.2.2.2.2.2.2.2.2.2.2.2.1
theorem dX11_behind_32 : decode cX11_behind 32 = .ok (.getfield 34, 3) := db256.2.2.2.2.2.2.2.2.2.2.2.2.2.2.2.2.2.2.2.2.1
theorem dX11_behind_35 : decode cX11_behind 35 = .ok (.iload_n 2, 1) := db256.2.2.2.2.2.2.2.2.2.2.2.2.2.2.2.2.2.2.2.2.2.1
theorem dX11_behind_36 : decode cX11_behind 36 = .ok (.iaload, 1) := db256.2.2.2.2.2.2.2.2.2.2.2.2.2.2.2.2.2.2.2.2.2.2.1
theorem dX11_behind_37 : decode cX11_behind 37 = .ok (.ireturn, 1) := db256.2.2.2.2.2.2.2.2.2.2.2.2.2.2.2.2.2.2.2.2.2.2.2
theorem db257 : (decode cX11_behind 16 = .ok (.iload_n 3, 1)) ∧ (decode cX11_behind 17 = .ok (.ireturn, 1)) := by decide +kernel
theorem dX11_behind_16 : decode cX11_behind 16 = .ok (.iload_n 3, 1) := db257.1
theorem dX11_behind_17 : decode cX11_behind 17 = .ok (.ireturn, 1) := db257.2
theorem db258 : (decode cX11_best 0 = .ok (.aload_n 0, 1)) ∧ (decode cX11_best 1 = .ok (.iload_n 1, 1)) ∧ (decode cX11_best 2 = .ok (.i2l, 1)) ∧ (decode cX11_best 3 = .ok (.invokevirtual 89, 3)) ∧ (decode cX11_best 6 = .ok (.ifCond .eq 24, 3)) ∧ (decode cX11_best 30 = .ok (.bipush (-2), 2)) ∧ (decode cX11_best 32 = .ok (.ireturn, 1)) ∧ (decode cX11_best 9 = .ok (.iload_n 2, 1)) ∧ (decode cX11_best 10 = .ok (.i2l, 1)) ∧ (decode cX11_best 11 = .ok (.lconst 0, 1)) ∧ (decode cX11_best 12 = .ok (.ldc2_w 325, 3)) ∧ (decode cX11_best 15 = .ok (.invokestatic 79, 3)) ∧ (decode cX11_best 18 = .ok (.ifCond .eq 12, 3)) ∧ (decode cX11_best 21 = .ok (.aload_n 0, 1)) ∧ (decode cX11_best 22 = .ok (.iload_n 1, 1)) ∧ (decode cX11_best 23 = .ok (.iload_n 2, 1)) ∧ (decode cX11_best 24 = .ok (.invokevirtual 327, 3)) ∧ (decode cX11_best 27 = .ok (.goto 5, 3)) := by decide +kernel
theorem dX11_best_0 : decode cX11_best 0 = .ok (.aload_n 0, 1) := db258.1
theorem dX11_best_1 : decode cX11_best 1 = .ok (.iload_n 1, 1) := db258.2.1
theorem dX11_best_2 : decode cX11_best 2 = .ok (.i2l, 1) := db258.2.2.1
theorem dX11_best_3 : decode cX11_best 3 = .ok (.invokevirtual 89, 3) := db258.2.2.2.1
theorem dX11_best_6 : decode cX11_best 6 = .ok (.ifCond .eq 24, 3) := db258.2.2.2.2.1
theorem dX11_best_30 : decode cX11_best 30 = .ok (.bipush (-2), 2) := db258.2.2.2.2.2.1
theorem dX11_best_32 : decode cX11_best 32 = .ok (.ireturn, 1) := db258.2.2.2.2.2.2.1
theorem dX11_best_9 : decode cX11_best 9 = .ok (.iload_n 2, 1) := db258.2.2.2.2.2.2.2.1
theorem dX11_best_10 : decode cX11_best 10 = .ok (.i2l, 1) := db258.2.2.2.2.2.2.2.2.1
theorem dX11_best_11 : decode cX11_best 11 = .ok (.lconst 0, 1) := db258.2.2.2.2.2.2.2.2.2.1
theorem dX11_best_12 : decode cX11_best 12 = .ok (.ldc2_w 325, 3) := db258.2.2.2.2.2.2.2.2.2.2.1
theorem dX11_best_15 : decode cX11_best 15 = .ok (.invokestatic 79, 3) := db258.2.2.2.2.2.2.2.2.2.2.2.1
theorem dX11_best_18 : decode cX11_best 18 = .ok (.ifCond .eq 12, 3) := db258.2.2.2.2.2.2.2.2.2.2.2.2.1
theorem dX11_best_21 : decode cX11_best 21 = .ok (.aload_n 0, 1) := db258.2.2.2.2.2.2.2.2.2.2.2.2.2.1
theorem dX11_best_22 : decode cX11_best 22 = .ok (.iload_n 1, 1) := db258.2.2.2.2.2.2.2.2.2.2.2.2.2.2.1
theorem dX11_best_23 : decode cX11_best 23 = .ok (.iload_n 2, 1) := db258.2.2.2.2.2.2.2.2.2.2.2.2.2.2.2.1
theorem dX11_best_24 : decode cX11_best 24 = .ok (.invokevirtual 327, 3) := db258.2.2.2.2.2.2.2.2.2.2.2.2.2.2.2.2.1
theorem dX11_best_27 : decode cX11_best 27 = .ok (.goto 5, 3) := db258.2.2.2.2.2.2.2.2.2.2.2.2.2.2.2.2.2
theorem db259 : (decode cX11_bestFrom 0 = .ok (.aload_n 0, 1)) ∧ (decode cX11_bestFrom 1 = .ok (.invokevirtual 278, 3)) ∧ (decode cX11_bestFrom 4 = .ok (.iconst 0, 1)) ∧ (decode cX11_bestFrom 5 = .ok (.istore_n 3, 1)) ∧ (decode cX11_bestFrom 6 = .ok (.iload_n 3, 1)) ∧ (decode cX11_bestFrom 7 = .ok (.bipush 7, 2)) ∧ (decode cX11_bestFrom 9 = .ok (.if_icmp .ge 21, 3)) ∧ (decode cX11_bestFrom 30 = .ok (.iconst 0, 1)) ∧ (decode cX11_bestFrom 31 = .ok (.istore_n 3, 1)) ∧ (decode cX11_bestFrom 32 = .ok (.iload_n 3, 1)) ∧ (decode cX11_bestFrom 33 = .ok (.iconst 5, 1)) ∧ (decode cX11_bestFrom 34 = .ok (.if_icmp .ge 16, 3)) ∧ (decode cX11_bestFrom 50 = .ok (.iconst (-1), 1)) ∧ (decode cX11_bestFrom 51 = .ok (.istore_n 3, 1)) ∧ (decode cX11_bestFrom 52 = .ok (.aload_n 0, 1)) ∧ (decode cX11_bestFrom 53 = .ok (.iload_n 1, 1)) ∧ (decode cX11_bestFrom 54 = .ok (.iload_n 2, 1)) ∧ (decode cX11_bestFrom 55 = .ok (.invokevirtual 319, 3)) ∧ (decode cX11_bestFrom 175 = .ok (.aload_n 0, 1)) ∧ (decode cX11_bestFrom 176 = .ok (.iload_n 2, 1)) ∧ (decode cX11_bestFrom 177 = .ok (.invokevirtual 322, 3)) ∧ (decode cX11_bestFrom 180 = .ok (.ifCond .ne (-128), 3)) ∧ (decode cX11_bestFrom 183 = .ok (.iload_n 3, 1)) ∧ (decode cX11_bestFrom 184 = .ok (.ireturn, 1)) := by decide +kernel
theorem dX11_bestFrom_0 : decode cX11_bestFrom 0 = .ok (.aload_n 0, 1) := db259.1
theorem dX11_bestFrom_1 : decode cX11_bestFrom 1 = .ok (.invokevirtual 278, 3) := db259.2.1
theorem dX11_bestFrom_4 : decode cX11_bestFrom 4 = .ok (.iconst 0, 1) := db259.2.2.1
theorem dX11_bestFrom_5 : decode cX11_bestFrom 5 = .ok (.istore_n 3, 1) := db259.2.2.2.1
theorem dX11_bestFrom_6 : decode cX11_bestFrom 6 = .ok (.iload_n 3, 1) := db259.2.2.2.2.1
theorem dX11_bestFrom_7 : decode cX11_bestFrom 7 = .ok (.bipush 7, 2) := db259.2.2.2.2.2.1
theorem dX11_bestFrom_9 : decode cX11_bestFrom 9 = .ok (.if_icmp .ge 21, 3) := db259.2.2.2.2.2.2.1
theorem dX11_bestFrom_30 : decode cX11_bestFrom 30 = .ok (.iconst 0, 1) := db259.2.2.2.2.2.2.2.1
theorem dX11_bestFrom_31 : decode cX11_bestFrom 31 = .ok (.istore_n 3, 1) := db259.2.2.2.2.2.2.2.2.1
theorem dX11_bestFrom_32 : decode cX11_bestFrom 32 = .ok (.iload_n 3, 1) := db259.2.2.2.2.2.2.2.2.2.1
theorem dX11_bestFrom_33 : decode cX11_bestFrom 33 = .ok (.iconst 5, 1) := db259.2.2.2.2.2.2.2.2.2.2.1
theorem dX11_bestFrom_34 : decode cX11_bestFrom 34 = .ok (.if_icmp .ge 16, 3) := db259.2.2.2.2.2.2.2.2.2.2.2.1
theorem dX11_bestFrom_50 : decode cX11_bestFrom 50 = .ok (.iconst (-1), 1) := db259.2.2.2.2.2.2.2.2.2.2.2.2.1
theorem dX11_bestFrom_51 : decode cX11_bestFrom 51 = .ok (.istore_n 3, 1) := db259.2.2.2.2.2.2.2.2.2.2.2.2.2.1
theorem dX11_bestFrom_52 : decode cX11_bestFrom 52 = .ok (.aload_n 0, 1) := db259.2.2.2.2.2.2.2.2.2.2.2.2.2.2.1
theorem dX11_bestFrom_53 : decode cX11_bestFrom 53 = .ok (.iload_n 1, 1) := db259.2.2.2.2.2.2.2.2.2.2.2.2.2.2.2.1
theorem dX11_bestFrom_54 : decode cX11_bestFrom 54 = .ok (.iload_n 2, 1) := db259.2.2.2.2.2.2.2.2.2.2.2.2.2.2.2.2.1
theorem dX11_bestFrom_55 : decode cX11_bestFrom 55 = .ok (.invokevirtual 319, 3) := db259.2.2.2.2.2.2.2.2.2.2.2.2.2.2.2.2.2.1
theorem dX11_bestFrom_175 : decode cX11_bestFrom 175 = .ok (.aload_n 0, 1) := db259.2.2.2.2.2.2.2.2.2.2.2.2.2.2.2.2.2.2.1
theorem dX11_bestFrom_176 : decode cX11_bestFrom 176 = .ok (.iload_n 2, 1) := db259.2.2.2.2.2.2.2.2.2.2.2.2.2.2.2.2.2.2.2.1
theorem dX11_bestFrom_177 : decode cX11_bestFrom 177 = .ok (.invokevirtual 322, 3) := db259.2.2.2.2.2.2.2.2.2.2.2.2.2.2.2.2.2.2.2.2.1
theorem dX11_bestFrom_180 : decode cX11_bestFrom 180 = .ok (.ifCond .ne (-128), 3) := db259.2.2.2.2.2.2.2.2.2.2.2.2.2.2.2.2.2.2.2.2.2.1
theorem dX11_bestFrom_183 : decode cX11_bestFrom 183 = .ok (.iload_n 3, 1) := db259.2.2.2.2.2.2.2.2.2.2.2.2.2.2.2.2.2.2.2.2.2.2.1
theorem dX11_bestFrom_184 : decode cX11_bestFrom 184 = .ok (.ireturn, 1) := db259.2.2.2.2.2.2.2.2.2.2.2.2.2.2.2.2.2.2.2.2.2.2.2
theorem db260 : (decode cX11_bestFrom 58 = .ok (.ifCond .ne 6, 3)) ∧ (decode cX11_bestFrom 64 = .ok (.iconst 0, 1)) ∧ (decode cX11_bestFrom 65 = .ok (.istore 4, 2)) ∧ (decode cX11_bestFrom 67 = .ok (.iload 4, 2)) ∧ (decode cX11_bestFrom 69 = .ok (.bipush 7, 2)) ∧ (decode cX11_bestFrom 71 = .ok (.if_icmp .ge 23, 3)) ∧ (decode cX11_bestFrom 94 = .ok (.iconst 0, 1)) ∧ (decode cX11_bestFrom 95 = .ok (.istore 4, 2)) ∧ (decode cX11_bestFrom 97 = .ok (.iconst 0, 1)) ∧ (decode cX11_bestFrom 98 = .ok (.istore 5, 2)) ∧ (decode cX11_bestFrom 100 = .ok (.iload 5, 2)) ∧ (decode cX11_bestFrom 102 = .ok (.iload_n 2, 1)) ∧ (decode cX11_bestFrom 103 = .ok (.if_icmp .ge 31, 3)) ∧ (decode cX11_bestFrom 134 = .ok (.iload 4, 2)) ∧ (decode cX11_bestFrom 136 = .ok (.iload_n 3, 1)) ∧ (decode cX11_bestFrom 137 = .ok (.if_icmp .gt 6, 3)) ∧ (decode cX11_bestFrom 143 = .ok (.iload 4, 2)) ∧ (decode cX11_bestFrom 145 = .ok (.istore_n 3, 1)) ∧ (decode cX11_bestFrom 146 = .ok (.iconst 0, 1)) ∧ (decode cX11_bestFrom 147 = .ok (.istore 5, 2)) ∧ (decode cX11_bestFrom 149 = .ok (.iload 5, 2)) ∧ (decode cX11_bestFrom 151 = .ok (.iload_n 2, 1)) ∧ (decode cX11_bestFrom 152 = .ok (.if_icmp .ge 23, 3)) ∧ (decode cX11_bestFrom 155 = .ok (.aload_n 0, 1)) := by decide +kernel
theorem dX11_bestFrom_58 : decode cX11_bestFrom 58 = .ok (.ifCond .ne 6, 3) := db260.1
theorem dX11_bestFrom_64 : decode cX11_bestFrom 64 = .ok (.iconst 0, 1) := db260.2.1
theorem dX11_bestFrom_65 : decode cX11_bestFrom 65 = .ok (.istore 4, 2) := db260.2.2.1
theorem dX11_bestFrom_67 : decode cX11_bestFrom 67 = .ok (.iload 4, 2) := db260.2.2.2.1
theorem dX11_bestFrom_69 : decode cX11_bestFrom 69 = .ok (.bipush 7, 2) := db260.2.2.2.2.1
theorem dX11_bestFrom_71 : decode cX11_bestFrom 71 = .ok (.if_icmp .ge 23, 3) := db260.2.2.2.2.2.1
theorem dX11_bestFrom_94 : decode cX11_bestFrom 94 = .ok (.iconst 0, 1) := db260.2.2.2.2.2.2.1
theorem dX11_bestFrom_95 : decode cX11_bestFrom 95 = .ok (.istore 4, 2) := db260.2.2.2.2.2.2.2.1
theorem dX11_bestFrom_97 : decode cX11_bestFrom 97 = .ok (.iconst 0, 1) := db260.2.2.2.2.2.2.2.2.1
theorem dX11_bestFrom_98 : decode cX11_bestFrom 98 = .ok (.istore 5, 2) := db260.2.2.2.2.2.2.2.2.2.1
theorem dX11_bestFrom_100 : decode cX11_bestFrom 100 = .ok (.iload 5, 2) := db260.2.2.2.2.2.2.2.2.2.2.1
theorem dX11_bestFrom_102 : decode cX11_bestFrom 102 = .ok (.iload_n 2, 1) := db260.2.2.2.2.2.2.2.2.2.2.2.1
theorem dX11_bestFrom_103 : decode cX11_bestFrom 103 = .ok (.if_icmp .ge 31, 3) := db260.2.2.2.2.2.2.2.2.2.2.2.2.1
theorem dX11_bestFrom_134 : decode cX11_bestFrom 134 = .ok (.iload 4, 2) := db260.2.2.2.2.2.2.2.2.2.2.2.2.2.1
theorem dX11_bestFrom_136 : decode cX11_bestFrom 136 = .ok (.iload_n 3, 1) := db260.2.2.2.2.2.2.2.2.2.2.2.2.2.2.1
theorem dX11_bestFrom_137 : decode cX11_bestFrom 137 = .ok (.if_icmp .gt 6, 3) := db260.2.2.2.2.2.2.2.2.2.2.2.2.2.2.2.1
theorem dX11_bestFrom_143 : decode cX11_bestFrom 143 = .ok (.iload 4, 2) := db260.2.2.2.2.2.2.2.2.2.2.2.2.2.2.2.2.1
theorem dX11_bestFrom_145 : decode cX11_bestFrom 145 = .ok (.istore_n 3, 1) := db260.2.2.2.2.2.2.2.2.2.2.2.2.2.2.2.2.2.1
theorem dX11_bestFrom_146 : decode cX11_bestFrom 146 = .ok (.iconst 0, 1) := db260.2.2.2.2.2.2.2.2.2.2.2.2.2.2.2.2.2.2.1
theorem dX11_bestFrom_147 : decode cX11_bestFrom 147 = .ok (.istore 5, 2) := db260.2.2.2.2.2.2.2.2.2.2.2.2.2.2.2.2.2.2.2.1
theorem dX11_bestFrom_149 : decode cX11_bestFrom 149 = .ok (.iload 5, 2) := db260.2.2.2.2.2.2.2.2.2.2.2.2.2.2.2.2.2.2.2.2.1
theorem dX11_bestFrom_151 : decode cX11_bestFrom 151 = .ok (.iload_n 2, 1) := db260.2.2.2.2.2.2.2.2.2.2.2.2.2.2.2.2.2.2.2.2.2.1
theorem dX11_bestFrom_152 : decode cX11_bestFrom 152 = .ok (.if_icmp .ge 23, 3) := db260.2.2.2.2.2.2.2.2.2.2.2.2.2.2.2.2.2.2.2.2.2.2.1
theorem dX11_bestFrom_155 : decode cX11_bestFrom 155 = .ok (.aload_n 0, 1) := db260.2.2.2.2.2.2.2.2.2.2.2.2.2.2.2.2.2.2.2.2.2.2.2
theorem db261 : (decode cX11_bestFrom 156 = .ok (.getfield 43, 3)) ∧ (decode cX11_bestFrom 159 = .ok (.iload 5, 2)) ∧ (decode cX11_bestFrom 161 = .ok (.aload_n 0, 1)) ∧ (decode cX11_bestFrom 162 = .ok (.getfield 40, 3)) ∧ (decode cX11_bestFrom 165 = .ok (.iload 5, 2)) ∧ (decode cX11_bestFrom 167 = .ok (.iaload, 1)) ∧ (decode cX11_bestFrom 168 = .ok (.iastore, 1)) ∧ (decode cX11_bestFrom 169 = .ok (.iinc 5 1, 3)) ∧ (decode cX11_bestFrom 172 = .ok (.goto (-23), 3)) ∧ (decode cX11_bestFrom 140 = .ok (.goto 35, 3)) ∧ (decode cX11_bestFrom 106 = .ok (.iload 4, 2)) ∧ (decode cX11_bestFrom 108 = .ok (.aload_n 0, 1)) ∧ (decode cX11_bestFrom 109 = .ok (.aload_n 0, 1)) ∧ (decode cX11_bestFrom 110 = .ok (.getfield 40, 3)) ∧ (decode cX11_bestFrom 113 = .ok (.iload 5, 2)) ∧ (decode cX11_bestFrom 115 = .ok (.iaload, 1)) ∧ (decode cX11_bestFrom 116 = .ok (.iconst 0, 1)) ∧ (decode cX11_bestFrom 117 = .ok (.invokevirtual 264, 3)) ∧ (decode cX11_bestFrom 120 = .ok (.iadd, 1)) ∧ (decode cX11_bestFrom 121 = .ok (.istore 4, 2)) ∧ (decode cX11_bestFrom 123 = .ok (.aload_n 0, 1)) ∧ (decode cX11_bestFrom 124 = .ok (.iconst (-1), 1)) ∧ (decode cX11_bestFrom 125 = .ok (.invokevirtual 267, 3)) ∧ (decode cX11_bestFrom 128 = .ok (.iinc 5 1, 3)) := by decide +kernel
theorem dX11_bestFrom_156 : decode cX11_bestFrom 156 = .ok (.getfield 43, 3) := db261.1
theorem dX11_bestFrom_159 : decode cX11_bestFrom 159 = .ok (.iload 5, 2) := db261.2.1
theorem dX11_bestFrom_161 : decode cX11_bestFrom 161 = .ok (.aload_n 0, 1) := db261.2.2.1
theorem dX11_bestFrom_162 : decode cX11_bestFrom 162 = .ok (.getfield 40, 3) := db261.2.2.2.1
theorem dX11_bestFrom_165 : decode cX11_bestFrom 165 = .ok (.iload 5, 2) := db261.2.2.2.2.1
theorem dX11_bestFrom_167 : decode cX11_bestFrom 167 = .ok (.iaload, 1) := db261.2.2.2.2.2.1
theorem dX11_bestFrom_168 : decode cX11_bestFrom 168 = .ok (.iastore, 1) := db261.2.2.2.2.2.2.1
theorem dX11_bestFrom_169 : decode cX11_bestFrom 169 = .ok (.iinc 5 1, 3) := db261.2.2.2.2.2.2.2.1
theorem dX11_bestFrom_172 : decode cX11_bestFrom 172 = .ok (.goto (-23), 3) := db261.2.2.2.2.2.2.2.2.1
theorem dX11_bestFrom_140 : decode cX11_bestFrom 140 = .ok (.goto 35, 3) := db261.2.2.2.2.2.2.2.2.2.1
theorem dX11_bestFrom_106 : decode cX11_bestFrom 106 = .ok (.iload 4, 2) := db261.2.2.2.2.2.2.2.2.2.2.1
theorem dX11_bestFrom_108 : decode cX11_bestFrom 108 = .ok (.aload_n 0, 1) := db261.2.2.2.2.2.2.2.2.2.2.2.1
theorem dX11_bestFrom_109 : decode cX11_bestFrom 109 = .ok (.aload_n 0, 1) := db261.2.2.2.2.2.2.2.2.2.2.2.2.1
theorem dX11_bestFrom_110 : decode cX11_bestFrom 110 = .ok (.getfield 40, 3) := db261.2.2.2.2.2.2.2.2.2.2.2.2.2.1
theorem dX11_bestFrom_113 : decode cX11_bestFrom 113 = .ok (.iload 5, 2) := db261.2.2.2.2.2.2.2.2.2.2.2.2.2.2.1
theorem dX11_bestFrom_115 : decode cX11_bestFrom 115 = .ok (.iaload, 1) := db261.2.2.2.2.2.2.2.2.2.2.2.2.2.2.2.1
theorem dX11_bestFrom_116 : decode cX11_bestFrom 116 = .ok (.iconst 0, 1) := db261.2.2.2.2.2.2.2.2.2.2.2.2.2.2.2.2.1
theorem dX11_bestFrom_117 : decode cX11_bestFrom 117 = .ok (.invokevirtual 264, 3) := db261.2.2.2.2.2.2.2.2.2.2.2.2.2.2.2.2.2.1
theorem dX11_bestFrom_120 : decode cX11_bestFrom 120 = .ok (.iadd, 1) := db261.2.2.2.2.2.2.2.2.2.2.2.2.2.2.2.2.2.2.1
theorem dX11_bestFrom_121 : decode cX11_bestFrom 121 = .ok (.istore 4, 2) := db261.2.2.2.2.2.2.2.2.2.2.2.2.2.2.2.2.2.2.2.1
theorem dX11_bestFrom_123 : decode cX11_bestFrom 123 = .ok (.aload_n 0, 1) := db261.2.2.2.2.2.2.2.2.2.2.2.2.2.2.2.2.2.2.2.2.1
theorem dX11_bestFrom_124 : decode cX11_bestFrom 124 = .ok (.iconst (-1), 1) := db261.2.2.2.2.2.2.2.2.2.2.2.2.2.2.2.2.2.2.2.2.2.1
theorem dX11_bestFrom_125 : decode cX11_bestFrom 125 = .ok (.invokevirtual 267, 3) := db261.2.2.2.2.2.2.2.2.2.2.2.2.2.2.2.2.2.2.2.2.2.2.1
theorem dX11_bestFrom_128 : decode cX11_bestFrom 128 = .ok (.iinc 5 1, 3) := db261.2.2.2.2.2.2.2.2.2.2.2.2.2.2.2.2.2.2.2.2.2.2.2
theorem db262 : (decode cX11_bestFrom 131 = .ok (.goto (-31), 3)) ∧ (decode cX11_bestFrom 74 = .ok (.aload_n 0, 1)) ∧ (decode cX11_bestFrom 75 = .ok (.getfield 34, 3)) ∧ (decode cX11_bestFrom 78 = .ok (.iload 4, 2)) ∧ (decode cX11_bestFrom 80 = .ok (.aload_n 0, 1)) ∧ (decode cX11_bestFrom 81 = .ok (.getfield 46, 3)) ∧ (decode cX11_bestFrom 84 = .ok (.iload 4, 2)) ∧ (decode cX11_bestFrom 86 = .ok (.iaload, 1)) ∧ (decode cX11_bestFrom 87 = .ok (.iastore, 1)) ∧ (decode cX11_bestFrom 88 = .ok (.iinc 4 1, 3)) ∧ (decode cX11_bestFrom 91 = .ok (.goto (-24), 3)) ∧ (decode cX11_bestFrom 61 = .ok (.goto 114, 3)) ∧ (decode cX11_bestFrom 37 = .ok (.aload_n 0, 1)) ∧ (decode cX11_bestFrom 38 = .ok (.getfield 40, 3)) ∧ (decode cX11_bestFrom 41 = .ok (.iload_n 3, 1)) ∧ (decode cX11_bestFrom 42 = .ok (.iconst 0, 1)) ∧ (decode cX11_bestFrom 43 = .ok (.iastore, 1)) ∧ (decode cX11_bestFrom 44 = .ok (.iinc 3 1, 3)) ∧ (decode cX11_bestFrom 47 = .ok (.goto (-15), 3)) ∧ (decode cX11_bestFrom 12 = .ok (.aload_n 0, 1)) ∧ (decode cX11_bestFrom 13 = .ok (.getfield 46, 3)) ∧ (decode cX11_bestFrom 16 = .ok (.iload_n 3, 1)) ∧ (decode cX11_bestFrom 17 = .ok (.aload_n 0, 1)) ∧ (decode cX11_bestFrom 18 = .ok (.getfield 34, 3)) := by decide +kernel
theorem dX11_bestFrom_131 : decode cX11_bestFrom 131 = .ok (.goto (-31), 3) := db262.1
theorem dX11_bestFrom_74 : decode cX11_bestFrom 74 = .ok (.aload_n 0, 1) := db262.2.1
theorem dX11_bestFrom_75 : decode cX11_bestFrom 75 = .ok (.getfield 34, 3) := db262.2.2.1
theorem dX11_bestFrom_78 : decode cX11_bestFrom 78 = .ok (.iload 4, 2) := db262.2.2.2.1
theorem dX11_bestFrom_80 : decode cX11_bestFrom 80 = .ok (.aload_n 0, 1) := db262.2.2.2.2.1
theorem dX11_bestFrom_81 : decode cX11_bestFrom 81 = .ok (.getfield 46, 3) := db262.2.2.2.2.2.1
theorem dX11_bestFrom_84 : decode cX11_bestFrom 84 = .ok (.iload 4, 2) := db262.2.2.2.2.2.2.1
theorem dX11_bestFrom_86 : decode cX11_bestFrom 86 = .ok (.iaload, 1) := db262.2.2.2.2.2.2.2.1
theorem dX11_bestFrom_87 : decode cX11_bestFrom 87 = .ok (.iastore, 1) := db262.2.2.2.2.2.2.2.2.1
theorem dX11_bestFrom_88 : decode cX11_bestFrom 88 = .ok (.iinc 4 1, 3) := db262.2.2.2.2.2.2.2.2.2.1
theorem dX11_bestFrom_91 : decode cX11_bestFrom 91 = .ok (.goto (-24), 3) := db262.2.2.2.2.2.2.2.2.2.2.1
theorem dX11_bestFrom_61 : decode cX11_bestFrom 61 = .ok (.goto 114, 3) := db262.2.2.2.2.2.2.2.2.2.2.2.1
theorem dX11_bestFrom_37 : decode cX11_bestFrom 37 = .ok (.aload_n 0, 1) := db262.2.2.2.2.2.2.2.2.2.2.2.2.1
theorem dX11_bestFrom_38 : decode cX11_bestFrom 38 = .ok (.getfield 40, 3) := db262.2.2.2.2.2.2.2.2.2.2.2.2.2.1
theorem dX11_bestFrom_41 : decode cX11_bestFrom 41 = .ok (.iload_n 3, 1) := db262.2.2.2.2.2.2.2.2.2.2.2.2.2.2.1
theorem dX11_bestFrom_42 : decode cX11_bestFrom 42 = .ok (.iconst 0, 1) := db262.2.2.2.2.2.2.2.2.2.2.2.2.2.2.2.1
theorem dX11_bestFrom_43 : decode cX11_bestFrom 43 = .ok (.iastore, 1) := db262.2.2.2.2.2.2.2.2.2.2.2.2.2.2.2.2.1
theorem dX11_bestFrom_44 : decode cX11_bestFrom 44 = .ok (.iinc 3 1, 3) := db262.2.2.2.2.2.2.2.2.2.2.2.2.2.2.2.2.2.1
theorem dX11_bestFrom_47 : decode cX11_bestFrom 47 = .ok (.goto (-15), 3) := db262.2.2.2.2.2.2.2.2.2.2.2.2.2.2.2.2.2.2.1
theorem dX11_bestFrom_12 : decode cX11_bestFrom 12 = .ok (.aload_n 0, 1) := db262.2.2.2.2.2.2.2.2.2.2.2.2.2.2.2.2.2.2.2.1
theorem dX11_bestFrom_13 : decode cX11_bestFrom 13 = .ok (.getfield 46, 3) := db262.2.2.2.2.2.2.2.2.2.2.2.2.2.2.2.2.2.2.2.2.1
theorem dX11_bestFrom_16 : decode cX11_bestFrom 16 = .ok (.iload_n 3, 1) := db262.2.2.2.2.2.2.2.2.2.2.2.2.2.2.2.2.2.2.2.2.2.1
theorem dX11_bestFrom_17 : decode cX11_bestFrom 17 = .ok (.aload_n 0, 1) := db262.2.2.2.2.2.2.2.2.2.2.2.2.2.2.2.2.2.2.2.2.2.2.1
theorem dX11_bestFrom_18 : decode cX11_bestFrom 18 = .ok (.getfield 34, 3) := db262.2.2.2.2.2.2.2.2.2.2.2.2.2.2.2.2.2.2.2.2.2.2.2
theorem db263 : (decode cX11_bestFrom 21 = .ok (.iload_n 3, 1)) ∧ (decode cX11_bestFrom 22 = .ok (.iaload, 1)) ∧ (decode cX11_bestFrom 23 = .ok (.iastore, 1)) ∧ (decode cX11_bestFrom 24 = .ok (.iinc 3 1, 3)) ∧ (decode cX11_bestFrom 27 = .ok (.goto (-21), 3)) := by decide +kernel
theorem dX11_bestFrom_21 : decode cX11_bestFrom 21 = .ok (.iload_n 3, 1) := db263.1
theorem dX11_bestFrom_22 : decode cX11_bestFrom 22 = .ok (.iaload, 1) := db263.2.1
theorem dX11_bestFrom_23 : decode cX11_bestFrom 23 = .ok (.iastore, 1) := db263.2.2.1
theorem dX11_bestFrom_24 : decode cX11_bestFrom 24 = .ok (.iinc 3 1, 3) := db263.2.2.2.1
theorem dX11_bestFrom_27 : decode cX11_bestFrom 27 = .ok (.goto (-21), 3) := db263.2.2.2.2
theorem db264 : (decode cX11_bit 0 = .ok (.iload_n 0, 1)) ∧ (decode cX11_bit 1 = .ok (.iload_n 1, 1)) ∧ (decode cX11_bit 2 = .ok (.ishr, 1)) ∧ (decode cX11_bit 3 = .ok (.iconst 1, 1)) ∧ (decode cX11_bit 4 = .ok (.iand, 1)) ∧ (decode cX11_bit 5 = .ok (.ireturn, 1)) := by decide +kernel
theorem dX11_bit_0 : decode cX11_bit 0 = .ok (.iload_n 0, 1) := db264.1
theorem dX11_bit_1 : decode cX11_bit 1 = .ok (.iload_n 1, 1) := db264.2.1
theorem dX11_bit_2 : decode cX11_bit 2 = .ok (.ishr, 1) := db264.2.2.1
theorem dX11_bit_3 : decode cX11_bit 3 = .ok (.iconst 1, 1) := db264.2.2.2.1
theorem dX11_bit_4 : decode cX11_bit 4 = .ok (.iand, 1) := db264.2.2.2.2.1
theorem dX11_bit_5 : decode cX11_bit 5 = .ok (.ireturn, 1) := db264.2.2.2.2.2
theorem db265 : (decode cX11_bits 0 = .ok (.iconst 0, 1)) ∧ (decode cX11_bits 1 = .ok (.istore_n 1, 1)) ∧ (decode cX11_bits 2 = .ok (.iconst 0, 1)) ∧ (decode cX11_bits 3 = .ok (.istore_n 2, 1)) ∧ (decode cX11_bits 4 = .ok (.iload_n 2, 1)) ∧ (decode cX11_bits 5 = .ok (.bipush 8, 2)) ∧ (decode cX11_bits 7 = .ok (.if_icmp .ge 17, 3)) ∧ (decode cX11_bits 24 = .ok (.iload_n 1, 1)) ∧ (decode cX11_bits 25 = .ok (.ireturn, 1)) ∧ (decode cX11_bits 10 = .ok (.iload_n 1, 1)) ∧ (decode cX11_bits 11 = .ok (.iload_n 0, 1)) ∧ (decode cX11_bits 12 = .ok (.iload_n 2, 1)) ∧ (decode cX11_bits 13 = .ok (.ishr, 1)) ∧ (decode cX11_bits 14 = .ok (.iconst 1, 1)) ∧ (decode cX11_bits 15 = .ok (.iand, 1)) ∧ (decode cX11_bits 16 = .ok (.iadd, 1)) ∧ (decode cX11_bits 17 = .ok (.istore_n 1, 1)) ∧ (decode cX11_bits 18 = .ok (.iinc 2 1, 3)) ∧ (decode cX11_bits 21 = .ok (.goto (-17), 3)) := by decide +kernel
theorem dX11_bits_0 : decode cX11_bits 0 = .ok (.iconst 0, 1) := db265.1
theorem dX11_bits_1 : decode cX11_bits 1 = .ok (.istore_n 1, 1) := db265.2.1
theorem dX11_bits_2 : decode cX11_bits 2 = .ok (.iconst 0, 1) := db265.2.2.1
theorem dX11_bits_3 : decode cX11_bits 3 = .ok (.istore_n 2, 1) := db265.2.2.2.1
theorem dX11_bits_4 : decode cX11_bits 4 = .ok (.iload_n 2, 1) := db265.2.2.2.2.1
theorem dX11_bits_5 : decode cX11_bits 5 = .ok (.bipush 8, 2) := db265.2.2.2.2.2.1
theorem dX11_bits_7 : decode cX11_bits 7 = .ok (.if_icmp .ge 17, 3) := db265.2.2.2.2.2.2.1
theorem dX11_bits_24 : decode cX11_bits 24 = .ok (.iload_n 1, 1) := db265.2.2.2.2.2.2.2.1
theorem dX11_bits_25 : decode cX11_bits 25 = .ok (.ireturn, 1) := db265.2.2.2.2.2.2.2.2.1
theorem dX11_bits_10 : decode cX11_bits 10 = .ok (.iload_n 1, 1) := db265.2.2.2.2.2.2.2.2.2.1
theorem dX11_bits_11 : decode cX11_bits 11 = .ok (.iload_n 0, 1) := db265.2.2.2.2.2.2.2.2.2.2.1
theorem dX11_bits_12 : decode cX11_bits 12 = .ok (.iload_n 2, 1) := db265.2.2.2.2.2.2.2.2.2.2.2.1
theorem dX11_bits_13 : decode cX11_bits 13 = .ok (.ishr, 1) := db265.2.2.2.2.2.2.2.2.2.2.2.2.1
theorem dX11_bits_14 : decode cX11_bits 14 = .ok (.iconst 1, 1) := db265.2.2.2.2.2.2.2.2.2.2.2.2.2.1
theorem dX11_bits_15 : decode cX11_bits 15 = .ok (.iand, 1) := db265.2.2.2.2.2.2.2.2.2.2.2.2.2.2.1
theorem dX11_bits_16 : decode cX11_bits 16 = .ok (.iadd, 1) := db265.2.2.2.2.2.2.2.2.2.2.2.2.2.2.2.1
theorem dX11_bits_17 : decode cX11_bits 17 = .ok (.istore_n 1, 1) := db265.2.2.2.2.2.2.2.2.2.2.2.2.2.2.2.2.1
theorem dX11_bits_18 : decode cX11_bits 18 = .ok (.iinc 2 1, 3) := db265.2.2.2.2.2.2.2.2.2.2.2.2.2.2.2.2.2.1
theorem dX11_bits_21 : decode cX11_bits 21 = .ok (.goto (-17), 3) := db265.2.2.2.2.2.2.2.2.2.2.2.2.2.2.2.2.2.2
theorem db266 : (decode cX11_boys 0 = .ok (.aload_n 0, 1)) ∧ (decode cX11_boys 1 = .ok (.getfield 9, 3)) ∧ (decode cX11_boys 4 = .ok (.iconst 4, 1)) ∧ (decode cX11_boys 5 = .ok (.iaload, 1)) ∧ (decode cX11_boys 6 = .ok (.ifCond .ne 6, 3)) ∧ (decode cX11_boys 12 = .ok (.iconst 0, 1)) ∧ (decode cX11_boys 13 = .ok (.istore_n 1, 1)) ∧ (decode cX11_boys 14 = .ok (.iload_n 1, 1)) ∧ (decode cX11_boys 15 = .ok (.aload_n 0, 1)) ∧ (decode cX11_boys 16 = .ok (.getfield 9, 3)) ∧ (decode cX11_boys 19 = .ok (.iconst 4, 1)) ∧ (decode cX11_boys 20 = .ok (.iaload, 1)) ∧ (decode cX11_boys 21 = .ok (.if_icmp .ge 22, 3)) ∧ (decode cX11_boys 43 = .ok (.aload_n 0, 1)) ∧ (decode cX11_boys 44 = .ok (.invokevirtual 363, 3)) ∧ (decode cX11_boys 47 = .ok (.ifCond .le 7, 3)) ∧ (decode cX11_boys 54 = .ok (.iconst 3, 1)) ∧ (decode cX11_boys 55 = .ok (.ireturn, 1)) ∧ (decode cX11_boys 50 = .ok (.iconst 2, 1)) ∧ (decode cX11_boys 51 = .ok (.goto 4, 3)) ∧ (decode cX11_boys 24 = .ok (.aload_n 0, 1)) ∧ (decode cX11_boys 25 = .ok (.iload_n 1, 1)) ∧ (decode cX11_boys 26 = .ok (.iload_n 1, 1)) ∧ (decode cX11_boys 27 = .ok (.iconst 1, 1)) := by decide +kernel
theorem dX11_boys_0 : decode cX11_boys 0 = .ok (.aload_n 0, 1) := db266.1
theorem dX11_boys_1 : decode cX11_boys 1 = .ok (.getfield 9, 3) := db266.2.1
theorem dX11_boys_4 : decode cX11_boys 4 = .ok (.iconst 4, 1) := db266.2.2.1
theorem dX11_boys_5 : decode cX11_boys 5 = .ok (.iaload, 1) := db266.2.2.2.1
theorem dX11_boys_6 : decode cX11_boys 6 = .ok (.ifCond .ne 6, 3) := db266.2.2.2.2.1
theorem dX11_boys_12 : decode cX11_boys 12 = .ok (.iconst 0, 1) := db266.2.2.2.2.2.1
theorem dX11_boys_13 : decode cX11_boys 13 = .ok (.istore_n 1, 1) := db266.2.2.2.2.2.2.1
theorem dX11_boys_14 : decode cX11_boys 14 = .ok (.iload_n 1, 1) := db266.2.2.2.2.2.2.2.1
theorem dX11_boys_15 : decode cX11_boys 15 = .ok (.aload_n 0, 1) := db266.2.2.2.2.2.2.2.2.1
theorem dX11_boys_16 : decode cX11_boys 16 = .ok (.getfield 9, 3) := db266.2.2.2.2.2.2.2.2.2.1
theorem dX11_boys_19 : decode cX11_boys 19 = .ok (.iconst 4, 1) := db266.2.2.2.2.2.2.2.2.2.2.1
theorem dX11_boys_20 : decode cX11_boys 20 = .ok (.iaload, 1) := db266.2.2.2.2.2.2.2.2.2.2.2.1
theorem dX11_boys_21 : decode cX11_boys 21 = .ok (.if_icmp .ge 22, 3) := db266.2.2.2.2.2.2.2.2.2.2.2.2.1
theorem dX11_boys_43 : decode cX11_boys 43 = .ok (.aload_n 0, 1) := db266.2.2.2.2.2.2.2.2.2.2.2.2.2.1
theorem dX11_boys_44 : decode cX11_boys 44 = .ok (.invokevirtual 363, 3) := db266.2.2.2.2.2.2.2.2.2.2.2.2.2.2.1
theorem dX11_boys_47 : decode cX11_boys 47 = .ok (.ifCond .le 7, 3) := db266.2.2.2.2.2.2.2.2.2.2.2.2.2.2.2.1
theorem dX11_boys_54 : decode cX11_boys 54 = .ok (.iconst 3, 1) := db266.2.2.2.2.2.2.2.2.2.2.2.2.2.2.2.2.1
theorem dX11_boys_55 : decode cX11_boys 55 = .ok (.ireturn, 1) := db266.2.2.2.2.2.2.2.2.2.2.2.2.2.2.2.2.2.1
theorem dX11_boys_50 : decode cX11_boys 50 = .ok (.iconst 2, 1) := db266.2.2.2.2.2.2.2.2.2.2.2.2.2.2.2.2.2.2.1
theorem dX11_boys_51 : decode cX11_boys 51 = .ok (.goto 4, 3) := db266.2.2.2.2.2.2.2.2.2.2.2.2.2.2.2.2.2.2.2.1
theorem dX11_boys_24 : decode cX11_boys 24 = .ok (.aload_n 0, 1) := db266.2.2.2.2.2.2.2.2.2.2.2.2.2.2.2.2.2.2.2.2.1
theorem dX11_boys_25 : decode cX11_boys 25 = .ok (.iload_n 1, 1) := db266.2.2.2.2.2.2.2.2.2.2.2.2.2.2.2.2.2.2.2.2.2.1
theorem dX11_boys_26 : decode cX11_boys 26 = .ok (.iload_n 1, 1) := db266.2.2.2.2.2.2.2.2.2.2.2.2.2.2.2.2.2.2.2.2.2.2.1
theorem dX11_boys_27 : decode cX11_boys 27 = .ok (.iconst 1, 1) := db266.2.2.2.2.2.2.2.2.2.2.2.2.2.2.2.2.2.2.2.2.2.2.2
theorem db267 : (decode cX11_boys 28 = .ok (.invokevirtual 356, 3)) ∧ (decode cX11_boys 31 = .ok (.iconst (-1), 1)) ∧ (decode cX11_boys 32 = .ok (.if_icmp .eq 5, 3)) ∧ (decode cX11_boys 37 = .ok (.iinc 1 1, 3)) ∧ (decode cX11_boys 40 = .ok (.goto (-26), 3)) ∧ (decode cX11_boys 35 = .ok (.iconst 1, 1)) ∧ (decode cX11_boys 36 = .ok (.ireturn, 1)) ∧ (decode cX11_boys 9 = .ok (.bipush (-2), 2)) ∧ (decode cX11_boys 11 = .ok (.ireturn, 1)) := by decide +kernel
theorem dX11_boys_28 : decode cX11_boys 28 = .ok (.invokevirtual 356, 3) := db267.1
theorem dX11_boys_31 : decode cX11_boys 31 = .ok (.iconst (-1), 1) := db267.2.1
theorem dX11_boys_32 : decode cX11_boys 32 = .ok (.if_icmp .eq 5, 3) := db267.2.2.1
theorem dX11_boys_37 : decode cX11_boys 37 = .ok (.iinc 1 1, 3) := db267.2.2.2.1
theorem dX11_boys_40 : decode cX11_boys 40 = .ok (.goto (-26), 3) := db267.2.2.2.2.1
theorem dX11_boys_35 : decode cX11_boys 35 = .ok (.iconst 1, 1) := db267.2.2.2.2.2.1
theorem dX11_boys_36 : decode cX11_boys 36 = .ok (.ireturn, 1) := db267.2.2.2.2.2.2.1
theorem dX11_boys_9 : decode cX11_boys 9 = .ok (.bipush (-2), 2) := db267.2.2.2.2.2.2.2.1
theorem dX11_boys_11 : decode cX11_boys 11 = .ok (.ireturn, 1) := db267.2.2.2.2.2.2.2.2
theorem db268 : (decode cX11_call 0 = .ok (.aload_n 0, 1)) ∧ (decode cX11_call 1 = .ok (.iload_n 1, 1)) ∧ (decode cX11_call 2 = .ok (.i2l, 1)) ∧ (decode cX11_call 3 = .ok (.invokevirtual 275, 3)) ∧ (decode cX11_call 6 = .ok (.ifCond .ne 6, 3)) ∧ (decode cX11_call 12 = .ok (.aload_n 0, 1)) ∧ (decode cX11_call 13 = .ok (.getfield 9, 3)) ∧ (decode cX11_call 16 = .ok (.bipush 7, 2)) ∧ (decode cX11_call 18 = .ok (.iaload, 1)) ∧ (decode cX11_call 19 = .ok (.bipush 60, 2)) ∧ (decode cX11_call 21 = .ok (.if_icmp .ne 6, 3)) ∧ (decode cX11_call 27 = .ok (.aload_n 0, 1)) ∧ (decode cX11_call 28 = .ok (.invokevirtual 278, 3)) ∧ (decode cX11_call 31 = .ok (.aload_n 0, 1)) ∧ (decode cX11_call 32 = .ok (.getfield 9, 3)) ∧ (decode cX11_call 35 = .ok (.bipush 84, 2)) ∧ (decode cX11_call 37 = .ok (.aload_n 0, 1)) ∧ (decode cX11_call 38 = .ok (.getfield 9, 3)) ∧ (decode cX11_call 41 = .ok (.bipush 7, 2)) ∧ (decode cX11_call 43 = .ok (.iaload, 1)) ∧ (decode cX11_call 44 = .ok (.iadd, 1)) ∧ (decode cX11_call 45 = .ok (.iload_n 1, 1)) ∧ (decode cX11_call 46 = .ok (.iastore, 1)) ∧ (decode cX11_call 47 = .ok (.aload_n 0, 1)) := by decide +kernel
theorem dX11_call_0 : decode cX11_call 0 = .ok (.aload_n 0, 1) := db268.1
theorem dX11_call_1 : decode cX11_call 1 = .ok (.iload_n 1, 1) := db268.2.1
theorem dX11_call_2 : decode cX11_call 2 = .ok (.i2l, 1) := db268.2.2.1
theorem dX11_call_3 : decode cX11_call 3 = .ok (.invokevirtual 275, 3) := db268.2.2.2.1
theorem dX11_call_6 : decode cX11_call 6 = .ok (.ifCond .ne 6, 3) := db268.2.2.2.2.1
theorem dX11_call_12 : decode cX11_call 12 = .ok (.aload_n 0, 1) := db268.2.2.2.2.2.1
theorem dX11_call_13 : decode cX11_call 13 = .ok (.getfield 9, 3) := db268.2.2.2.2.2.2.1
theorem dX11_call_16 : decode cX11_call 16 = .ok (.bipush 7, 2) := db268.2.2.2.2.2.2.2.1
theorem dX11_call_18 : decode cX11_call 18 = .ok (.iaload, 1) := db268.2.2.2.2.2.2.2.2.1
theorem dX11_call_19 : decode cX11_call 19 = .ok (.bipush 60, 2) := db268.2.2.2.2.2.2.2.2.2.1
theorem dX11_call_21 : decode cX11_call 21 = .ok (.if_icmp .ne 6, 3) := db268.2.2.2.2.2.2.2.2.2.2.1
theorem dX11_call_27 : decode cX11_call 27 = .ok (.aload_n 0, 1) := db268.2.2.2.2.2.2.2.2.2.2.2.1
theorem dX11_call_28 : decode cX11_call 28 = .ok (.invokevirtual 278, 3) := db268.2.2.2.2.2.2.2.2.2.2.2.2.1
theorem dX11_call_31 : decode cX11_call 31 = .ok (.aload_n 0, 1) := db268.2.2.2.2.2.2.2.2.2.2.2.2.2.1
theorem dX11_call_32 : decode cX11_call 32 = .ok (.getfield 9, 3) := db268.2.2.2.2.2.2.2.2.2.2.2.2.2.2.1
theorem dX11_call_35 : decode cX11_call 35 = .ok (.bipush 84, 2) := db268.2.2.2.2.2.2.2.2.2.2.2.2.2.2.2.1
theorem dX11_call_37 : decode cX11_call 37 = .ok (.aload_n 0, 1) := db268.2.2.2.2.2.2.2.2.2.2.2.2.2.2.2.2.1
theorem dX11_call_38 : decode cX11_call 38 = .ok (.getfield 9, 3) := db268.2.2.2.2.2.2.2.2.2.2.2.2.2.2.2.2.2.1
theorem dX11_call_41 : decode cX11_call 41 = .ok (.bipush 7, 2) := db268.2.2.2.2.2.2.2.2.2.2.2.2.2.2.2.2.2.2.1
theorem dX11_call_43 : decode cX11_call 43 = .ok (.iaload, 1) := db268.2.2.2.2.2.2.2.2.2.2.2.2.2.2.2.2.2.2.2.1
theorem dX11_call_44 : decode cX11_call 44 = .ok (.iadd, 1) := db268.2.2.2.2.2.2.2.2.2.2.2.2.2.2.2.2.2.2.2.2.1
theorem dX11_call_45 : decode cX11_call 45 = .ok (.iload_n 1, 1) := db268.2.2.2.2.2.2.2.2.2.2.2.2.2.2.2.2.2.2.2.2.2.1
theorem dX11_call_46 : decode cX11_call 46 = .ok (.iastore, 1) := db268.2.2.2.2.2.2.2.2.2.2.2.2.2.2.2.2.2.2.2.2.2.2.1
theorem dX11_call_47 : decode cX11_call 47 = .ok (.aload_n 0, 1) := db268.2.2.2.2.2.2.2.2.2.2.2.2.2.2.2.2.2.2.2.2.2.2.2
theorem db269 : (decode cX11_call 48 = .ok (.getfield 9, 3)) ∧ (decode cX11_call 51 = .ok (.bipush 7, 2)) ∧ (decode cX11_call 53 = .ok (.dup2, 1)) ∧ (decode cX11_call 54 = .ok (.iaload, 1)) ∧ (decode cX11_call 55 = .ok (.iconst 1, 1)) ∧ (decode cX11_call 56 = .ok (.iadd, 1)) ∧ (decode cX11_call 57 = .ok (.iastore, 1)) ∧ (decode cX11_call 58 = .ok (.aload_n 0, 1)) ∧ (decode cX11_call 59 = .ok (.iload_n 1, 1)) ∧ (decode cX11_call 60 = .ok (.iconst 0, 1)) ∧ (decode cX11_call 61 = .ok (.invokevirtual 264, 3)) ∧ (decode cX11_call 64 = .ok (.ireturn, 1)) ∧ (decode cX11_call 24 = .ok (.bipush (-5), 2)) ∧ (decode cX11_call 26 = .ok (.ireturn, 1)) ∧ (decode cX11_call 9 = .ok (.bipush (-2), 2)) ∧ (decode cX11_call 11 = .ok (.ireturn, 1)) := by decide +kernel
theorem dX11_call_48 : decode cX11_call 48 = .ok (.getfield 9, 3) := db269.1
theorem dX11_call_51 : decode cX11_call 51 = .ok (.bipush 7, 2) := db269.2.1
theorem dX11_call_53 : decode cX11_call 53 = .ok (.dup2, 1) := db269.2.2.1
theorem dX11_call_54 : decode cX11_call 54 = .ok (.iaload, 1) := db269.2.2.2.1
theorem dX11_call_55 : decode cX11_call 55 = .ok (.iconst 1, 1) := db269.2.2.2.2.1
theorem dX11_call_56 : decode cX11_call 56 = .ok (.iadd, 1) := db269.2.2.2.2.2.1
theorem dX11_call_57 : decode cX11_call 57 = .ok (.iastore, 1) := db269.2.2.2.2.2.2.1
theorem dX11_call_58 : decode cX11_call 58 = .ok (.aload_n 0, 1) := db269.2.2.2.2.2.2.2.1
theorem dX11_call_59 : decode cX11_call 59 = .ok (.iload_n 1, 1) := db269.2.2.2.2.2.2.2.2.1
theorem dX11_call_60 : decode cX11_call 60 = .ok (.iconst 0, 1) := db269.2.2.2.2.2.2.2.2.2.1
theorem dX11_call_61 : decode cX11_call 61 = .ok (.invokevirtual 264, 3) := db269.2.2.2.2.2.2.2.2.2.2.1
theorem dX11_call_64 : decode cX11_call 64 = .ok (.ireturn, 1) := db269.2.2.2.2.2.2.2.2.2.2.2.1
theorem dX11_call_24 : decode cX11_call 24 = .ok (.bipush (-5), 2) := db269.2.2.2.2.2.2.2.2.2.2.2.2.1
theorem dX11_call_26 : decode cX11_call 26 = .ok (.ireturn, 1) := db269.2.2.2.2.2.2.2.2.2.2.2.2.2.1
theorem dX11_call_9 : decode cX11_call 9 = .ok (.bipush (-2), 2) := db269.2.2.2.2.2.2.2.2.2.2.2.2.2.2.1
theorem dX11_call_11 : decode cX11_call 11 = .ok (.ireturn, 1) := db269.2.2.2.2.2.2.2.2.2.2.2.2.2.2.2
theorem db270 : (decode cX11_callIn 0 = .ok (.iload_n 1, 1)) ∧ (decode cX11_callIn 1 = .ok (.iconst (-1), 1)) ∧ (decode cX11_callIn 2 = .ok (.if_icmp .ne 5, 3)) ∧ (decode cX11_callIn 7 = .ok (.aload_n 0, 1)) ∧ (decode cX11_callIn 8 = .ok (.iload_n 1, 1)) ∧ (decode cX11_callIn 9 = .ok (.iload_n 2, 1)) ∧ (decode cX11_callIn 10 = .ok (.invokevirtual 252, 3)) ∧ (decode cX11_callIn 13 = .ok (.istore_n 3, 1)) ∧ (decode cX11_callIn 14 = .ok (.aload_n 0, 1)) ∧ (decode cX11_callIn 15 = .ok (.getfield 34, 3)) ∧ (decode cX11_callIn 18 = .ok (.iload_n 1, 1)) ∧ (decode cX11_callIn 19 = .ok (.dup2, 1)) ∧ (decode cX11_callIn 20 = .ok (.iaload, 1)) ∧ (decode cX11_callIn 21 = .ok (.iload_n 3, 1)) ∧ (decode cX11_callIn 22 = .ok (.isub, 1)) ∧ (decode cX11_callIn 23 = .ok (.iastore, 1)) ∧ (decode cX11_callIn 24 = .ok (.aload_n 0, 1)) ∧ (decode cX11_callIn 25 = .ok (.dup, 1)) ∧ (decode cX11_callIn 26 = .ok (.getfield 249, 3)) ∧ (decode cX11_callIn 29 = .ok (.iload_n 3, 1)) ∧ (decode cX11_callIn 30 = .ok (.iadd, 1)) ∧ (decode cX11_callIn 31 = .ok (.putfield 249, 3)) ∧ (decode cX11_callIn 34 = .ok (.iload_n 3, 1)) ∧ (decode cX11_callIn 35 = .ok (.ireturn, 1)) := by decide +kernel
theorem dX11_callIn_0 : decode cX11_callIn 0 = .ok (.iload_n 1, 1) := db270.1
theorem dX11_callIn_1 : decode cX11_callIn 1 = .ok (.iconst (-1), 1) := db270.2.1
theorem dX11_callIn_2 : decode cX11_callIn 2 = .ok (.if_icmp .ne 5, 3) := db270.2.2.1
theorem dX11_callIn_7 : decode cX11_callIn 7 = .ok (.aload_n 0, 1) := db270.2.2.2.1
theorem dX11_callIn_8 : decode cX11_callIn 8 = .ok (.iload_n 1, 1) := db270.2.2.2.2.1
theorem dX11_callIn_9 : decode cX11_callIn 9 = .ok (.iload_n 2, 1) := db270.2.2.2.2.2.1
theorem dX11_callIn_10 : decode cX11_callIn 10 = .ok (.invokevirtual 252, 3) := db270.2.2.2.2.2.2.1
theorem dX11_callIn_13 : decode cX11_callIn 13 = .ok (.istore_n 3, 1) := db270.2.2.2.2.2.2.2.1
theorem dX11_callIn_14 : decode cX11_callIn 14 = .ok (.aload_n 0, 1) := db270.2.2.2.2.2.2.2.2.1
theorem dX11_callIn_15 : decode cX11_callIn 15 = .ok (.getfield 34, 3) := db270.2.2.2.2.2.2.2.2.2.1
theorem dX11_callIn_18 : decode cX11_callIn 18 = .ok (.iload_n 1, 1) := db270.2.2.2.2.2.2.2.2.2.2.1
theorem dX11_callIn_19 : decode cX11_callIn 19 = .ok (.dup2, 1) := db270.2.2.2.2.2.2.2.2.2.2.2.1
theorem dX11_callIn_20 : decode cX11_callIn 20 = .ok (.iaload, 1) := db270.2.2.2.2.2.2.2.2.2.2.2.2.1
theorem dX11_callIn_21 : decode cX11_callIn 21 = .ok (.iload_n 3, 1) := db270.2.2.2.2.2.2.2.2.2.2.2.2.2.1
theorem dX11_callIn_22 : decode cX11_callIn 22 = .ok (.isub, 1) := db270.2.2.2.2.2.2.2.2.2.2.2.2.2.2.1
theorem dX11_callIn_23 : decode cX11_callIn 23 = .ok (.iastore, 1) := db270.2.2.2.2.2.2.2.2.2.2.2.2.2.2.2.1
theorem dX11_callIn_24 : decode cX11_callIn 24 = .ok (.aload_n 0, 1) := db270.2.2.2.2.2.2.2.2.2.2.2.2.2.2.2.2.1
theorem dX11_callIn_25 : decode cX11_callIn 25 = .ok (.dup, 1) := db270.2.2.2.2.2.2.2.2.2.2.2.2.2.2.2.2.2.1
theorem dX11_callIn_26 : decode cX11_callIn 26 = .ok (.getfield 249, 3) := db270.2.2.2.2.2.2.2.2.2.2.2.2.2.2.2.2.2.2.1
theorem dX11_callIn_29 : decode cX11_callIn 29 = .ok (.iload_n 3, 1) := db270.2.2.2.2.2.2.2.2.2.2.2.2.2.2.2.2.2.2.2.1
theorem dX11_callIn_30 : decode cX11_callIn 30 = .ok (.iadd, 1) := db270.2.2.2.2.2.2.2.2.2.2.2.2.2.2.2.2.2.2.2.2.1
theorem dX11_callIn_31 : decode cX11_callIn 31 = .ok (.putfield 249, 3) := db270.2.2.2.2.2.2.2.2.2.2.2.2.2.2.2.2.2.2.2.2.2.1
theorem dX11_callIn_34 : decode cX11_callIn 34 = .ok (.iload_n 3, 1) := db270.2.2.2.2.2.2.2.2.2.2.2.2.2.2.2.2.2.2.2.2.2.2.1
theorem dX11_callIn_35 : decode cX11_callIn 35 = .ok (.ireturn, 1) := db270.2.2.2.2.2.2.2.2.2.2.2.2.2.2.2.2.2.2.2.2.2.2.2
theorem db271 : (decode cX11_callIn 5 = .ok (.iconst 0, 1)) ∧ (decode cX11_callIn 6 = .ok (.ireturn, 1)) := by decide +kernel
theorem dX11_callIn_5 : decode cX11_callIn 5 = .ok (.iconst 0, 1) := db271.1
theorem dX11_callIn_6 : decode cX11_callIn 6 = .ok (.ireturn, 1) := db271.2
theorem db272 : (decode cX11_canWalk 0 = .ok (.iload_n 2, 1)) ∧ (decode cX11_canWalk 1 = .ok (.istore_n 3, 1)) ∧ (decode cX11_canWalk 2 = .ok (.iconst 0, 1)) ∧ (decode cX11_canWalk 3 = .ok (.istore 4, 2)) ∧ (decode cX11_canWalk 5 = .ok (.iload 4, 2)) ∧ (decode cX11_canWalk 7 = .ok (.aload_n 0, 1)) ∧ (decode cX11_canWalk 8 = .ok (.getfield 61, 3)) ∧ (decode cX11_canWalk 11 = .ok (.iload_n 1, 1)) ∧ (decode cX11_canWalk 12 = .ok (.iaload, 1)) ∧ (decode cX11_canWalk 13 = .ok (.if_icmp .ge 48, 3)) ∧ (decode cX11_canWalk 61 = .ok (.iconst 1, 1)) ∧ (decode cX11_canWalk 62 = .ok (.ireturn, 1)) ∧ (decode cX11_canWalk 16 = .ok (.aload_n 0, 1)) ∧ (decode cX11_canWalk 17 = .ok (.iload_n 1, 1)) ∧ (decode cX11_canWalk 18 = .ok (.iload 4, 2)) ∧ (decode cX11_canWalk 20 = .ok (.invokevirtual 293, 3)) ∧ (decode cX11_canWalk 23 = .ok (.iconst (-1), 1)) ∧ (decode cX11_canWalk 38 = .ok (.istore 5, 2)) ∧ (decode cX11_canWalk 40 = .ok (.aload_n 0, 1)) ∧ (decode cX11_canWalk 41 = .ok (.iload_n 3, 1)) ∧ (decode cX11_canWalk 42 = .ok (.iload 5, 2)) ∧ (decode cX11_canWalk 44 = .ok (.invokevirtual 312, 3)) ∧ (decode cX11_canWalk 47 = .ok (.ifCond .ne 5, 3)) ∧ (decode cX11_canWalk 52 = .ok (.iload 5, 2)) := by decide +kernel
theorem dX11_canWalk_0 : decode cX11_canWalk 0 = .ok (.iload_n 2, 1) := db272.1
theorem dX11_canWalk_1 : decode cX11_canWalk 1 = .ok (.istore_n 3, 1) := db272.2.1
theorem dX11_canWalk_2 : decode cX11_canWalk 2 = .ok (.iconst 0, 1) := db272.2.2.1
theorem dX11_canWalk_3 : decode cX11_canWalk 3 = .ok (.istore 4, 2) := db272.2.2.2.1
theorem dX11_canWalk_5 : decode cX11_canWalk 5 = .ok (.iload 4, 2) := db272.2.2.2.2.1
theorem dX11_canWalk_7 : decode cX11_canWalk 7 = .ok (.aload_n 0, 1) := db272.2.2.2.2.2.1
theorem dX11_canWalk_8 : decode cX11_canWalk 8 = .ok (.getfield 61, 3) := db272.2.2.2.2.2.2.1
theorem dX11_canWalk_11 : decode cX11_canWalk 11 = .ok (.iload_n 1, 1) := db272.2.2.2.2.2.2.2.1
theorem dX11_canWalk_12 : decode cX11_canWalk 12 = .ok (.iaload, 1) := db272.2.2.2.2.2.2.2.2.1
theorem dX11_canWalk_13 : decode cX11_canWalk 13 = .ok (.if_icmp .ge 48, 3) := db272.2.2.2.2.2.2.2.2.2.1
theorem dX11_canWalk_61 : decode cX11_canWalk 61 = .ok (.iconst 1, 1) := db272.2.2.2.2.2.2.2.2.2.2.1
theorem dX11_canWalk_62 : decode cX11_canWalk 62 = .ok (.ireturn, 1) := db272.2.2.2.2.2.2.2.2.2.2.2.1
theorem dX11_canWalk_16 : decode cX11_canWalk 16 = .ok (.aload_n 0, 1) := db272.2.2.2.2.2.2.2.2.2.2.2.2.1
theorem dX11_canWalk_17 : decode cX11_canWalk 17 = .ok (.iload_n 1, 1) := db272.2.2.2.2.2.2.2.2.2.2.2.2.2.1
theorem dX11_canWalk_18 : decode cX11_canWalk 18 = .ok (.iload 4, 2) := db272.2.2.2.2.2.2.2.2.2.2.2.2.2.2.1
theorem dX11_canWalk_20 : decode cX11_canWalk 20 = .ok (.invokevirtual 293, 3) := db272.2.2.2.2.2.2.2.2.2.2.2.2.2.2.2.1
theorem dX11_canWalk_23 : decode cX11_canWalk 23 = .ok (.iconst (-1), 1) := db272.2.2.2.2.2.2.2.2.2.2.2.2.2.2.2.2.1
theorem dX11_canWalk_38 : decode cX11_canWalk 38 = .ok (.istore 5, 2) := db272.2.2.2.2.2.2.2.2.2.2.2.2.2.2.2.2.2.1
theorem dX11_canWalk_40 : decode cX11_canWalk 40 = .ok (.aload_n 0, 1) := db272.2.2.2.2.2.2.2.2.2.2.2.2.2.2.2.2.2.2.1
theorem dX11_canWalk_41 : decode cX11_canWalk 41 = .ok (.iload_n 3, 1) := db272.2.2.2.2.2.2.2.2.2.2.2.2.2.2.2.2.2.2.2.1
theorem dX11_canWalk_42 : decode cX11_canWalk 42 = .ok (.iload 5, 2) := db272.2.2.2.2.2.2.2.2.2.2.2.2.2.2.2.2.2.2.2.2.1
theorem dX11_canWalk_44 : decode cX11_canWalk 44 = .ok (.invokevirtual 312, 3) := db272.2.2.2.2.2.2.2.2.2.2.2.2.2.2.2.2.2.2.2.2.2.1
theorem dX11_canWalk_47 : decode cX11_canWalk 47 = .ok (.ifCond .ne 5, 3) := db272.2.2.2.2.2.2.2.2.2.2.2.2.2.2.2.2.2.2.2.2.2.2.1
theorem dX11_canWalk_52 : decode cX11_canWalk 52 = .ok (.iload 5, 2) := db272.2.2.2.2.2.2.2.2.2.2.2.2.2.2.2.2.2.2.2.2.2.2.2
theorem db273 : (decode cX11_canWalk 54 = .ok (.istore_n 3, 1)) ∧ (decode cX11_canWalk 55 = .ok (.iinc 4 1, 3)) ∧ (decode cX11_canWalk 58 = .ok (.goto (-53), 3)) ∧ (decode cX11_canWalk 50 = .ok (.iconst 0, 1)) ∧ (decode cX11_canWalk 51 = .ok (.ireturn, 1)) ∧ (decode cX11_canWalk 24 = .ok (.if_icmp .ne 7, 3)) ∧ (decode cX11_canWalk 31 = .ok (.aload_n 0, 1)) ∧ (decode cX11_canWalk 32 = .ok (.iload_n 1, 1)) ∧ (decode cX11_canWalk 33 = .ok (.iload 4, 2)) ∧ (decode cX11_canWalk 35 = .ok (.invokevirtual 293, 3)) ∧ (decode cX11_canWalk 27 = .ok (.iload_n 3, 1)) ∧ (decode cX11_canWalk 28 = .ok (.goto 10, 3)) := by decide +kernel
theorem dX11_canWalk_54 : decode cX11_canWalk 54 = .ok (.istore_n 3, 1) := db273.1
theorem dX11_canWalk_55 : decode cX11_canWalk 55 = .ok (.iinc 4 1, 3) := db273.2.1
theorem dX11_canWalk_58 : decode cX11_canWalk 58 = .ok (.goto (-53), 3) := db273.2.2.1
theorem dX11_canWalk_50 : decode cX11_canWalk 50 = .ok (.iconst 0, 1) := db273.2.2.2.1
theorem dX11_canWalk_51 : decode cX11_canWalk 51 = .ok (.ireturn, 1) := db273.2.2.2.2.1
theorem dX11_canWalk_24 : decode cX11_canWalk 24 = .ok (.if_icmp .ne 7, 3) := db273.2.2.2.2.2.1
theorem dX11_canWalk_31 : decode cX11_canWalk 31 = .ok (.aload_n 0, 1) := db273.2.2.2.2.2.2.1
theorem dX11_canWalk_32 : decode cX11_canWalk 32 = .ok (.iload_n 1, 1) := db273.2.2.2.2.2.2.2.1
theorem dX11_canWalk_33 : decode cX11_canWalk 33 = .ok (.iload 4, 2) := db273.2.2.2.2.2.2.2.2.1
theorem dX11_canWalk_35 : decode cX11_canWalk 35 = .ok (.invokevirtual 293, 3) := db273.2.2.2.2.2.2.2.2.2.1
theorem dX11_canWalk_27 : decode cX11_canWalk 27 = .ok (.iload_n 3, 1) := db273.2.2.2.2.2.2.2.2.2.2.1
theorem dX11_canWalk_28 : decode cX11_canWalk 28 = .ok (.goto 10, 3) := db273.2.2.2.2.2.2.2.2.2.2.2
theorem db274 : (decode cX11_card 0 = .ok (.aload_n 0, 1)) ∧ (decode cX11_card 1 = .ok (.iload_n 1, 1)) ∧ (decode cX11_card 2 = .ok (.i2l, 1)) ∧ (decode cX11_card 3 = .ok (.invokevirtual 89, 3)) ∧ (decode cX11_card 6 = .ok (.ifCond .eq 24, 3)) ∧ (decode cX11_card 30 = .ok (.bipush (-2), 2)) ∧ (decode cX11_card 32 = .ok (.ireturn, 1)) ∧ (decode cX11_card 9 = .ok (.iload_n 2, 1)) ∧ (decode cX11_card 10 = .ok (.i2l, 1)) ∧ (decode cX11_card 11 = .ok (.lconst 0, 1)) ∧ (decode cX11_card 12 = .ok (.ldc2_w 284, 3)) ∧ (decode cX11_card 15 = .ok (.invokestatic 79, 3)) ∧ (decode cX11_card 18 = .ok (.ifCond .eq 12, 3)) ∧ (decode cX11_card 21 = .ok (.aload_n 0, 1)) ∧ (decode cX11_card 22 = .ok (.iload_n 1, 1)) ∧ (decode cX11_card 23 = .ok (.iload_n 2, 1)) ∧ (decode cX11_card 24 = .ok (.invokevirtual 343, 3)) ∧ (decode cX11_card 27 = .ok (.goto 5, 3)) := by decide +kernel
theorem dX11_card_0 : decode cX11_card 0 = .ok (.aload_n 0, 1) := db274.1
theorem dX11_card_1 : decode cX11_card 1 = .ok (.iload_n 1, 1) := db274.2.1
theorem dX11_card_2 : decode cX11_card 2 = .ok (.i2l, 1) := db274.2.2.1
theorem dX11_card_3 : decode cX11_card 3 = .ok (.invokevirtual 89, 3) := db274.2.2.2.1
theorem dX11_card_6 : decode cX11_card 6 = .ok (.ifCond .eq 24, 3) := db274.2.2.2.2.1
theorem dX11_card_30 : decode cX11_card 30 = .ok (.bipush (-2), 2) := db274.2.2.2.2.2.1
theorem dX11_card_32 : decode cX11_card 32 = .ok (.ireturn, 1) := db274.2.2.2.2.2.2.1
theorem dX11_card_9 : decode cX11_card 9 = .ok (.iload_n 2, 1) := db274.2.2.2.2.2.2.2.1
theorem dX11_card_10 : decode cX11_card 10 = .ok (.i2l, 1) := db274.2.2.2.2.2.2.2.2.1
theorem dX11_card_11 : decode cX11_card 11 = .ok (.lconst 0, 1) := db274.2.2.2.2.2.2.2.2.2.1
theorem dX11_card_12 : decode cX11_card 12 = .ok (.ldc2_w 284, 3) := db274.2.2.2.2.2.2.2.2.2.2.1
theorem dX11_card_15 : decode cX11_card 15 = .ok (.invokestatic 79, 3) := db274.2.2.2.2.2.2.2.2.2.2.2.1
theorem dX11_card_18 : decode cX11_card 18 = .ok (.ifCond .eq 12, 3) := db274.2.2.2.2.2.2.2.2.2.2.2.2.1
theorem dX11_card_21 : decode cX11_card 21 = .ok (.aload_n 0, 1) := db274.2.2.2.2.2.2.2.2.2.2.2.2.2.1
theorem dX11_card_22 : decode cX11_card 22 = .ok (.iload_n 1, 1) := db274.2.2.2.2.2.2.2.2.2.2.2.2.2.2.1
theorem dX11_card_23 : decode cX11_card 23 = .ok (.iload_n 2, 1) := db274.2.2.2.2.2.2.2.2.2.2.2.2.2.2.2.1
theorem dX11_card_24 : decode cX11_card 24 = .ok (.invokevirtual 343, 3) := db274.2.2.2.2.2.2.2.2.2.2.2.2.2.2.2.2.1
theorem dX11_card_27 : decode cX11_card 27 = .ok (.goto 5, 3) := db274.2.2.2.2.2.2.2.2.2.2.2.2.2.2.2.2.2
theorem db275 : (decode cX11_cardIn 0 = .ok (.aload_n 0, 1)) ∧ (decode cX11_cardIn 1 = .ok (.invokevirtual 278, 3)) ∧ (decode cX11_cardIn 4 = .ok (.iconst 0, 1)) ∧ (decode cX11_cardIn 5 = .ok (.istore_n 3, 1)) ∧ (decode cX11_cardIn 6 = .ok (.iload_n 3, 1)) ∧ (decode cX11_cardIn 7 = .ok (.iload_n 2, 1)) ∧ (decode cX11_cardIn 8 = .ok (.if_icmp .ge 14, 3)) ∧ (decode cX11_cardIn 22 = .ok (.aload_n 0, 1)) ∧ (decode cX11_cardIn 23 = .ok (.getfield 34, 3)) ∧ (decode cX11_cardIn 26 = .ok (.iload_n 1, 1)) ∧ (decode cX11_cardIn 27 = .ok (.iaload, 1)) ∧ (decode cX11_cardIn 28 = .ok (.ireturn, 1)) ∧ (decode cX11_cardIn 11 = .ok (.aload_n 0, 1)) ∧ (decode cX11_cardIn 12 = .ok (.iload_n 1, 1)) ∧ (decode cX11_cardIn 13 = .ok (.invokevirtual 267, 3)) ∧ (decode cX11_cardIn 16 = .ok (.iinc 3 1, 3)) ∧ (decode cX11_cardIn 19 = .ok (.goto (-13), 3)) := by decide +kernel
theorem dX11_cardIn_0 : decode cX11_cardIn 0 = .ok (.aload_n 0, 1) := db275.1
theorem dX11_cardIn_1 : decode cX11_cardIn 1 = .ok (.invokevirtual 278, 3) := db275.2.1
theorem dX11_cardIn_4 : decode cX11_cardIn 4 = .ok (.iconst 0, 1) := db275.2.2.1
theorem dX11_cardIn_5 : decode cX11_cardIn 5 = .ok (.istore_n 3, 1) := db275.2.2.2.1
theorem dX11_cardIn_6 : decode cX11_cardIn 6 = .ok (.iload_n 3, 1) := db275.2.2.2.2.1
theorem dX11_cardIn_7 : decode cX11_cardIn 7 = .ok (.iload_n 2, 1) := db275.2.2.2.2.2.1
theorem dX11_cardIn_8 : decode cX11_cardIn 8 = .ok (.if_icmp .ge 14, 3) := db275.2.2.2.2.2.2.1
theorem dX11_cardIn_22 : decode cX11_cardIn 22 = .ok (.aload_n 0, 1) := db275.2.2.2.2.2.2.2.1
theorem dX11_cardIn_23 : decode cX11_cardIn 23 = .ok (.getfield 34, 3) := db275.2.2.2.2.2.2.2.2.1
theorem dX11_cardIn_26 : decode cX11_cardIn 26 = .ok (.iload_n 1, 1) := db275.2.2.2.2.2.2.2.2.2.1
theorem dX11_cardIn_27 : decode cX11_cardIn 27 = .ok (.iaload, 1) := db275.2.2.2.2.2.2.2.2.2.2.1
theorem dX11_cardIn_28 : decode cX11_cardIn 28 = .ok (.ireturn, 1) := db275.2.2.2.2.2.2.2.2.2.2.2.1
theorem dX11_cardIn_11 : decode cX11_cardIn 11 = .ok (.aload_n 0, 1) := db275.2.2.2.2.2.2.2.2.2.2.2.2.1
theorem dX11_cardIn_12 : decode cX11_cardIn 12 = .ok (.iload_n 1, 1) := db275.2.2.2.2.2.2.2.2.2.2.2.2.2.1
theorem dX11_cardIn_13 : decode cX11_cardIn 13 = .ok (.invokevirtual 267, 3) := db275.2.2.2.2.2.2.2.2.2.2.2.2.2.2.1
theorem dX11_cardIn_16 : decode cX11_cardIn 16 = .ok (.iinc 3 1, 3) := db275.2.2.2.2.2.2.2.2.2.2.2.2.2.2.2.1
theorem dX11_cardIn_19 : decode cX11_cardIn 19 = .ok (.goto (-13), 3) := db275.2.2.2.2.2.2.2.2.2.2.2.2.2.2.2.2
theorem db276 : (decode cX11_chance 0 = .ok (.aload_n 0, 1)) ∧ (decode cX11_chance 1 = .ok (.iload_n 1, 1)) ∧ (decode cX11_chance 2 = .ok (.i2l, 1)) ∧ (decode cX11_chance 3 = .ok (.invokevirtual 275, 3)) ∧ (decode cX11_chance 6 = .ok (.ifCond .ne 6, 3)) ∧ (decode cX11_chance 12 = .ok (.aload_n 0, 1)) ∧ (decode cX11_chance 13 = .ok (.invokevirtual 278, 3)) ∧ (decode cX11_chance 16 = .ok (.aload_n 0, 1)) ∧ (decode cX11_chance 17 = .ok (.iload_n 1, 1)) ∧ (decode cX11_chance 18 = .ok (.iconst (-1), 1)) ∧ (decode cX11_chance 19 = .ok (.if_icmp .ne 10, 3)) ∧ (decode cX11_chance 29 = .ok (.aload_n 0, 1)) ∧ (decode cX11_chance 30 = .ok (.getfield 34, 3)) ∧ (decode cX11_chance 33 = .ok (.iload_n 1, 1)) ∧ (decode cX11_chance 34 = .ok (.iaload, 1)) ∧ (decode cX11_chance 35 = .ok (.invokevirtual 281, 3)) ∧ (decode cX11_chance 38 = .ok (.ireturn, 1)) ∧ (decode cX11_chance 22 = .ok (.aload_n 0, 1)) ∧ (decode cX11_chance 23 = .ok (.getfield 246, 3)) ∧ (decode cX11_chance 26 = .ok (.goto 9, 3)) ∧ (decode cX11_chance 9 = .ok (.bipush (-2), 2)) ∧ (decode cX11_chance 11 = .ok (.ireturn, 1)) := by decide +kernel
theorem dX11_chance_0 : decode cX11_chance 0 = .ok (.aload_n 0, 1) := db276.1
theorem dX11_chance_1 : decode cX11_chance 1 = .ok (.iload_n 1, 1) := db276.2.1
theorem dX11_chance_2 : decode cX11_chance 2 = .ok (.i2l, 1) := db276.2.2.1
theorem dX11_chance_3 : decode cX11_chance 3 = .ok (.invokevirtual 275, 3) := db276.2.2.2.1
theorem dX11_chance_6 : decode cX11_chance 6 = .ok (.ifCond .ne 6, 3) := db276.2.2.2.2.1
theorem dX11_chance_12 : decode cX11_chance 12 = .ok (.aload_n 0, 1) := db276.2.2.2.2.2.1
theorem dX11_chance_13 : decode cX11_chance 13 = .ok (.invokevirtual 278, 3) := db276.2.2.2.2.2.2.1
theorem dX11_chance_16 : decode cX11_chance 16 = .ok (.aload_n 0, 1) := db276.2.2.2.2.2.2.2.1
theorem dX11_chance_17 : decode cX11_chance 17 = .ok (.iload_n 1, 1) := db276.2.2.2.2.2.2.2.2.1
theorem dX11_chance_18 : decode cX11_chance 18 = .ok (.iconst (-1), 1) := db276.2.2.2.2.2.2.2.2.2.1
theorem dX11_chance_19 : decode cX11_chance 19 = .ok (.if_icmp .ne 10, 3) := db276.2.2.2.2.2.2.2.2.2.2.1
theorem dX11_chance_29 : decode cX11_chance 29 = .ok (.aload_n 0, 1) := db276.2.2.2.2.2.2.2.2.2.2.2.1
theorem dX11_chance_30 : decode cX11_chance 30 = .ok (.getfield 34, 3) := db276.2.2.2.2.2.2.2.2.2.2.2.2.1
theorem dX11_chance_33 : decode cX11_chance 33 = .ok (.iload_n 1, 1) := db276.2.2.2.2.2.2.2.2.2.2.2.2.2.1
theorem dX11_chance_34 : decode cX11_chance 34 = .ok (.iaload, 1) := db276.2.2.2.2.2.2.2.2.2.2.2.2.2.2.1
theorem dX11_chance_35 : decode cX11_chance 35 = .ok (.invokevirtual 281, 3) := db276.2.2.2.2.2.2.2.2.2.2.2.2.2.2.2.1
theorem dX11_chance_38 : decode cX11_chance 38 = .ok (.ireturn, 1) := db276.2.2.2.2.2.2.2.2.2.2.2.2.2.2.2.2.1
theorem dX11_chance_22 : decode cX11_chance 22 = .ok (.aload_n 0, 1) := db276.2.2.2.2.2.2.2.2.2.2.2.2.2.2.2.2.2.1
theorem dX11_chance_23 : decode cX11_chance 23 = .ok (.getfield 246, 3) := db276.2.2.2.2.2.2.2.2.2.2.2.2.2.2.2.2.2.2.1
theorem dX11_chance_26 : decode cX11_chance 26 = .ok (.goto 9, 3) := db276.2.2.2.2.2.2.2.2.2.2.2.2.2.2.2.2.2.2.2.1
theorem dX11_chance_9 : decode cX11_chance 9 = .ok (.bipush (-2), 2) := db276.2.2.2.2.2.2.2.2.2.2.2.2.2.2.2.2.2.2.2.2.1
theorem dX11_chance_11 : decode cX11_chance 11 = .ok (.ireturn, 1) := db276.2.2.2.2.2.2.2.2.2.2.2.2.2.2.2.2.2.2.2.2.2
theorem db277 : (decode cX11_chase 0 = .ok (.iconst 0, 1)) ∧ (decode cX11_chase 1 = .ok (.istore 4, 2)) ∧ (decode cX11_chase 3 = .ok (.iload 4, 2)) ∧ (decode cX11_chase 5 = .ok (.sipush 6272, 3)) ∧ (decode cX11_chase 8 = .ok (.if_icmp .ge 17, 3)) ∧ (decode cX11_chase 25 = .ok (.aload_n 0, 1)) ∧ (decode cX11_chase 26 = .ok (.iconst 0, 1)) ∧ (decode cX11_chase 27 = .ok (.putfield 346, 3)) ∧ (decode cX11_chase 30 = .ok (.aload_n 0, 1)) ∧ (decode cX11_chase 31 = .ok (.iload_n 1, 1)) ∧ (decode cX11_chase 32 = .ok (.iload_n 2, 1)) ∧ (decode cX11_chase 33 = .ok (.aload_n 0, 1)) ∧ (decode cX11_chase 34 = .ok (.invokevirtual 337, 3)) ∧ (decode cX11_chase 37 = .ok (.iconst 1, 1)) ∧ (decode cX11_chase 38 = .ok (.iload_n 1, 1)) ∧ (decode cX11_chase 39 = .ok (.ishl, 1)) ∧ (decode cX11_chase 40 = .ok (.iconst (-1), 1)) ∧ (decode cX11_chase 41 = .ok (.ixor, 1)) ∧ (decode cX11_chase 42 = .ok (.iand, 1)) ∧ (decode cX11_chase 43 = .ok (.iconst 1, 1)) ∧ (decode cX11_chase 44 = .ok (.iload_n 2, 1)) ∧ (decode cX11_chase 45 = .ok (.ishl, 1)) ∧ (decode cX11_chase 46 = .ok (.iconst (-1), 1)) ∧ (decode cX11_chase 47 = .ok (.ixor, 1)) := by decide +kernel
theorem dX11_chase_0 : decode cX11_chase 0 = .ok (.iconst 0, 1) := db277.1
theorem dX11_chase_1 : decode cX11_chase 1 = .ok (.istore 4, 2) := db277.2.1
theorem dX11_chase_3 : decode cX11_chase 3 = .ok (.iload 4, 2) := db277.2.2.1
theorem dX11_chase_5 : decode cX11_chase 5 = .ok (.sipush 6272, 3) := db277.2.2.2.1
theorem dX11_chase_8 : decode cX11_chase 8 = .ok (.if_icmp .ge 17, 3) := db277.2.2.2.2.1
theorem dX11_chase_25 : decode cX11_chase 25 = .ok (.aload_n 0, 1) := db277.2.2.2.2.2.1
theorem dX11_chase_26 : decode cX11_chase 26 = .ok (.iconst 0, 1) := db277.2.2.2.2.2.2.1
theorem dX11_chase_27 : decode cX11_chase 27 = .ok (.putfield 346, 3) := db277.2.2.2.2.2.2.2.1
theorem dX11_chase_30 : decode cX11_chase 30 = .ok (.aload_n 0, 1) := db277.2.2.2.2.2.2.2.2.1
theorem dX11_chase_31 : decode cX11_chase 31 = .ok (.iload_n 1, 1) := db277.2.2.2.2.2.2.2.2.2.1
theorem dX11_chase_32 : decode cX11_chase 32 = .ok (.iload_n 2, 1) := db277.2.2.2.2.2.2.2.2.2.2.1
theorem dX11_chase_33 : decode cX11_chase 33 = .ok (.aload_n 0, 1) := db277.2.2.2.2.2.2.2.2.2.2.2.1
theorem dX11_chase_34 : decode cX11_chase 34 = .ok (.invokevirtual 337, 3) := db277.2.2.2.2.2.2.2.2.2.2.2.2.1
theorem dX11_chase_37 : decode cX11_chase 37 = .ok (.iconst 1, 1) := db277.2.2.2.2.2.2.2.2.2.2.2.2.2.1
theorem dX11_chase_38 : decode cX11_chase 38 = .ok (.iload_n 1, 1) := db277.2.2.2.2.2.2.2.2.2.2.2.2.2.2.1
theorem dX11_chase_39 : decode cX11_chase 39 = .ok (.ishl, 1) := db277.2.2.2.2.2.2.2.2.2.2.2.2.2.2.2.1
theorem dX11_chase_40 : decode cX11_chase 40 = .ok (.iconst (-1), 1) := db277.2.2.2.2.2.2.2.2.2.2.2.2.2.2.2.2.1
theorem dX11_chase_41 : decode cX11_chase 41 = .ok (.ixor, 1) := db277.2.2.2.2.2.2.2.2.2.2.2.2.2.2.2.2.2.1
theorem dX11_chase_42 : decode cX11_chase 42 = .ok (.iand, 1) := db277.2.2.2.2.2.2.2.2.2.2.2.2.2.2.2.2.2.2.1
theorem dX11_chase_43 : decode cX11_chase 43 = .ok (.iconst 1, 1) := db277.2.2.2.2.2.2.2.2.2.2.2.2.2.2.2.2.2.2.2.1
theorem dX11_chase_44 : decode cX11_chase 44 = .ok (.iload_n 2, 1) := db277.2.2.2.2.2.2.2.2.2.2.2.2.2.2.2.2.2.2.2.2.1
theorem dX11_chase_45 : decode cX11_chase 45 = .ok (.ishl, 1) := db277.2.2.2.2.2.2.2.2.2.2.2.2.2.2.2.2.2.2.2.2.2.1
theorem dX11_chase_46 : decode cX11_chase 46 = .ok (.iconst (-1), 1) := db277.2.2.2.2.2.2.2.2.2.2.2.2.2.2.2.2.2.2.2.2.2.2.1
theorem dX11_chase_47 : decode cX11_chase 47 = .ok (.ixor, 1) := db277.2.2.2.2.2.2.2.2.2.2.2.2.2.2.2.2.2.2.2.2.2.2.2
theorem db278 : (decode cX11_chase 48 = .ok (.iand, 1)) ∧ (decode cX11_chase 49 = .ok (.invokestatic 349, 3)) ∧ (decode cX11_chase 52 = .ok (.iconst 0, 1)) ∧ (decode cX11_chase 53 = .ok (.iconst (-1), 1)) ∧ (decode cX11_chase 54 = .ok (.invokevirtual 352, 3)) ∧ (decode cX11_chase 57 = .ok (.iconst 0, 1)) ∧ (decode cX11_chase 58 = .ok (.istore 4, 2)) ∧ (decode cX11_chase 60 = .ok (.iload 4, 2)) ∧ (decode cX11_chase 62 = .ok (.aload_n 0, 1)) ∧ (decode cX11_chase 63 = .ok (.getfield 346, 3)) ∧ (decode cX11_chase 66 = .ok (.if_icmp .ge 177, 3)) ∧ (decode cX11_chase 243 = .ok (.iconst (-1), 1)) ∧ (decode cX11_chase 244 = .ok (.ireturn, 1)) ∧ (decode cX11_chase 69 = .ok (.aload_n 0, 1)) ∧ (decode cX11_chase 70 = .ok (.getfield 49, 3)) ∧ (decode cX11_chase 73 = .ok (.iload 4, 2)) ∧ (decode cX11_chase 75 = .ok (.iaload, 1)) ∧ (decode cX11_chase 76 = .ok (.istore 5, 2)) ∧ (decode cX11_chase 78 = .ok (.iload 5, 2)) ∧ (decode cX11_chase 80 = .ok (.sipush 128, 3)) ∧ (decode cX11_chase 83 = .ok (.irem, 1)) ∧ (decode cX11_chase 84 = .ok (.ifCond .ne 6, 3)) ∧ (decode cX11_chase 90 = .ok (.iload 5, 2)) ∧ (decode cX11_chase 92 = .ok (.sipush 128, 3)) := by decide +kernel
theorem dX11_chase_48 : decode cX11_chase 48 = .ok (.iand, 1) := db278.1
theorem dX11_chase_49 : decode cX11_chase 49 = .ok (.invokestatic 349, 3) := db278.2.1
theorem dX11_chase_52 : decode cX11_chase 52 = .ok (.iconst 0, 1) := db278.2.2.1
theorem dX11_chase_53 : decode cX11_chase 53 = .ok (.iconst (-1), 1) := db278.2.2.2.1
theorem dX11_chase_54 : decode cX11_chase 54 = .ok (.invokevirtual 352, 3) := db278.2.2.2.2.1
theorem dX11_chase_57 : decode cX11_chase 57 = .ok (.iconst 0, 1) := db278.2.2.2.2.2.1
theorem dX11_chase_58 : decode cX11_chase 58 = .ok (.istore 4, 2) := db278.2.2.2.2.2.2.1
theorem dX11_chase_60 : decode cX11_chase 60 = .ok (.iload 4, 2) := db278.2.2.2.2.2.2.2.1
theorem dX11_chase_62 : decode cX11_chase 62 = .ok (.aload_n 0, 1) := db278.2.2.2.2.2.2.2.2.1
theorem dX11_chase_63 : decode cX11_chase 63 = .ok (.getfield 346, 3) := db278.2.2.2.2.2.2.2.2.2.1
theorem dX11_chase_66 : decode cX11_chase 66 = .ok (.if_icmp .ge 177, 3) := db278.2.2.2.2.2.2.2.2.2.2.1
theorem dX11_chase_243 : decode cX11_chase 243 = .ok (.iconst (-1), 1) := db278.2.2.2.2.2.2.2.2.2.2.2.1
theorem dX11_chase_244 : decode cX11_chase 244 = .ok (.ireturn, 1) := db278.2.2.2.2.2.2.2.2.2.2.2.2.1
theorem dX11_chase_69 : decode cX11_chase 69 = .ok (.aload_n 0, 1) := db278.2.2.2.2.2.2.2.2.2.2.2.2.2.1
theorem dX11_chase_70 : decode cX11_chase 70 = .ok (.getfield 49, 3) := db278.2.2.2.2.2.2.2.2.2.2.2.2.2.2.1
theorem dX11_chase_73 : decode cX11_chase 73 = .ok (.iload 4, 2) := db278.2.2.2.2.2.2.2.2.2.2.2.2.2.2.2.1
theorem dX11_chase_75 : decode cX11_chase 75 = .ok (.iaload, 1) := db278.2.2.2.2.2.2.2.2.2.2.2.2.2.2.2.2.1
theorem dX11_chase_76 : decode cX11_chase 76 = .ok (.istore 5, 2) := db278.2.2.2.2.2.2.2.2.2.2.2.2.2.2.2.2.2.1
theorem dX11_chase_78 : decode cX11_chase 78 = .ok (.iload 5, 2) := db278.2.2.2.2.2.2.2.2.2.2.2.2.2.2.2.2.2.2.1
theorem dX11_chase_80 : decode cX11_chase 80 = .ok (.sipush 128, 3) := db278.2.2.2.2.2.2.2.2.2.2.2.2.2.2.2.2.2.2.2.1
theorem dX11_chase_83 : decode cX11_chase 83 = .ok (.irem, 1) := db278.2.2.2.2.2.2.2.2.2.2.2.2.2.2.2.2.2.2.2.2.1
theorem dX11_chase_84 : decode cX11_chase 84 = .ok (.ifCond .ne 6, 3) := db278.2.2.2.2.2.2.2.2.2.2.2.2.2.2.2.2.2.2.2.2.2.1
theorem dX11_chase_90 : decode cX11_chase 90 = .ok (.iload 5, 2) := db278.2.2.2.2.2.2.2.2.2.2.2.2.2.2.2.2.2.2.2.2.2.2.1
theorem dX11_chase_92 : decode cX11_chase 92 = .ok (.sipush 128, 3) := db278.2.2.2.2.2.2.2.2.2.2.2.2.2.2.2.2.2.2.2.2.2.2.2
theorem db279 : (decode cX11_chase 95 = .ok (.idiv, 1)) ∧ (decode cX11_chase 96 = .ok (.bipush 7, 2)) ∧ (decode cX11_chase 98 = .ok (.idiv, 1)) ∧ (decode cX11_chase 99 = .ok (.istore 6, 2)) ∧ (decode cX11_chase 101 = .ok (.iload 5, 2)) ∧ (decode cX11_chase 103 = .ok (.sipush 128, 3)) ∧ (decode cX11_chase 106 = .ok (.idiv, 1)) ∧ (decode cX11_chase 107 = .ok (.bipush 7, 2)) ∧ (decode cX11_chase 109 = .ok (.irem, 1)) ∧ (decode cX11_chase 110 = .ok (.istore 7, 2)) ∧ (decode cX11_chase 112 = .ok (.iconst 0, 1)) ∧ (decode cX11_chase 113 = .ok (.istore 8, 2)) ∧ (decode cX11_chase 115 = .ok (.iload 8, 2)) ∧ (decode cX11_chase 117 = .ok (.aload_n 0, 1)) ∧ (decode cX11_chase 118 = .ok (.getfield 9, 3)) ∧ (decode cX11_chase 121 = .ok (.iconst 4, 1)) ∧ (decode cX11_chase 122 = .ok (.iaload, 1)) ∧ (decode cX11_chase 123 = .ok (.if_icmp .ge 114, 3)) ∧ (decode cX11_chase 237 = .ok (.iinc 4 1, 3)) ∧ (decode cX11_chase 240 = .ok (.goto (-180), 3)) ∧ (decode cX11_chase 126 = .ok (.aload_n 0, 1)) ∧ (decode cX11_chase 127 = .ok (.iload 6, 2)) ∧ (decode cX11_chase 129 = .ok (.iload 8, 2)) ∧ (decode cX11_chase 131 = .ok (.invokevirtual 312, 3)) := by decide +kernel
theorem dX11_chase_95 : decode cX11_chase 95 = .ok (.idiv, 1) := db279.1
theorem dX11_chase_96 : decode cX11_chase 96 = .ok (.bipush 7, 2) := db279.2.1
theorem dX11_chase_98 : decode cX11_chase 98 = .ok (.idiv, 1) := db279.2.2.1
theorem dX11_chase_99 : decode cX11_chase 99 = .ok (.istore 6, 2) := db279.2.2.2.1
theorem dX11_chase_101 : decode cX11_chase 101 = .ok (.iload 5, 2) := db279.2.2.2.2.1
theorem dX11_chase_103 : decode cX11_chase 103 = .ok (.sipush 128, 3) := db279.2.2.2.2.2.1
theorem dX11_chase_106 : decode cX11_chase 106 = .ok (.idiv, 1) := db279.2.2.2.2.2.2.1
theorem dX11_chase_107 : decode cX11_chase 107 = .ok (.bipush 7, 2) := db279.2.2.2.2.2.2.2.1
theorem dX11_chase_109 : decode cX11_chase 109 = .ok (.irem, 1) := db279.2.2.2.2.2.2.2.2.1
theorem dX11_chase_110 : decode cX11_chase 110 = .ok (.istore 7, 2) := db279.2.2.2.2.2.2.2.2.2.1
theorem dX11_chase_112 : decode cX11_chase 112 = .ok (.iconst 0, 1) := db279.2.2.2.2.2.2.2.2.2.2.1
theorem dX11_chase_113 : decode cX11_chase 113 = .ok (.istore 8, 2) := db279.2.2.2.2.2.2.2.2.2.2.2.1
theorem dX11_chase_115 : decode cX11_chase 115 = .ok (.iload 8, 2) := db279.2.2.2.2.2.2.2.2.2.2.2.2.1
theorem dX11_chase_117 : decode cX11_chase 117 = .ok (.aload_n 0, 1) := db279.2.2.2.2.2.2.2.2.2.2.2.2.2.1
theorem dX11_chase_118 : decode cX11_chase 118 = .ok (.getfield 9, 3) := db279.2.2.2.2.2.2.2.2.2.2.2.2.2.2.1
theorem dX11_chase_121 : decode cX11_chase 121 = .ok (.iconst 4, 1) := db279.2.2.2.2.2.2.2.2.2.2.2.2.2.2.2.1
theorem dX11_chase_122 : decode cX11_chase 122 = .ok (.iaload, 1) := db279.2.2.2.2.2.2.2.2.2.2.2.2.2.2.2.2.1
theorem dX11_chase_123 : decode cX11_chase 123 = .ok (.if_icmp .ge 114, 3) := db279.2.2.2.2.2.2.2.2.2.2.2.2.2.2.2.2.2.1
theorem dX11_chase_237 : decode cX11_chase 237 = .ok (.iinc 4 1, 3) := db279.2.2.2.2.2.2.2.2.2.2.2.2.2.2.2.2.2.2.1
theorem dX11_chase_240 : decode cX11_chase 240 = .ok (.goto (-180), 3) := db279.2.2.2.2.2.2.2.2.2.2.2.2.2.2.2.2.2.2.2.1
theorem dX11_chase_126 : decode cX11_chase 126 = .ok (.aload_n 0, 1) := db279.2.2.2.2.2.2.2.2.2.2.2.2.2.2.2.2.2.2.2.2.1
theorem dX11_chase_127 : decode cX11_chase 127 = .ok (.iload 6, 2) := db279.2.2.2.2.2.2.2.2.2.2.2.2.2.2.2.2.2.2.2.2.2.1
theorem dX11_chase_129 : decode cX11_chase 129 = .ok (.iload 8, 2) := db279.2.2.2.2.2.2.2.2.2.2.2.2.2.2.2.2.2.2.2.2.2.2.1
theorem dX11_chase_131 : decode cX11_chase 131 = .ok (.invokevirtual 312, 3) := db279.2.2.2.2.2.2.2.2.2.2.2.2.2.2.2.2.2.2.2.2.2.2.2
theorem db280 : (decode cX11_chase 231 = .ok (.iinc 8 1, 3)) ∧ (decode cX11_chase 234 = .ok (.goto (-119), 3)) ∧ (decode cX11_chase 134 = .ok (.ifCond .ne 6, 3)) ∧ (decode cX11_chase 140 = .ok (.iconst 0, 1)) ∧ (decode cX11_chase 141 = .ok (.istore 9, 2)) ∧ (decode cX11_chase 143 = .ok (.iload 9, 2)) ∧ (decode cX11_chase 145 = .ok (.aload_n 0, 1)) ∧ (decode cX11_chase 146 = .ok (.getfield 9, 3)) ∧ (decode cX11_chase 149 = .ok (.iconst 4, 1)) ∧ (decode cX11_chase 150 = .ok (.iaload, 1)) ∧ (decode cX11_chase 151 = .ok (.if_icmp .ge 80, 3)) ∧ (decode cX11_chase 154 = .ok (.iload_n 3, 1)) ∧ (decode cX11_chase 225 = .ok (.iinc 9 1, 3)) ∧ (decode cX11_chase 228 = .ok (.goto (-85), 3)) ∧ (decode cX11_chase 179 = .ok (.aload_n 0, 1)) ∧ (decode cX11_chase 180 = .ok (.iload 8, 2)) ∧ (decode cX11_chase 182 = .ok (.iload 9, 2)) ∧ (decode cX11_chase 184 = .ok (.aload_n 0, 1)) ∧ (decode cX11_chase 185 = .ok (.iload 5, 2)) ∧ (decode cX11_chase 187 = .ok (.sipush 128, 3)) ∧ (decode cX11_chase 190 = .ok (.irem, 1)) ∧ (decode cX11_chase 191 = .ok (.invokevirtual 330, 3)) ∧ (decode cX11_chase 194 = .ok (.iconst 1, 1)) ∧ (decode cX11_chase 195 = .ok (.iload 8, 2)) := by decide +kernel
theorem dX11_chase_231 : decode cX11_chase 231 = .ok (.iinc 8 1, 3) := db280.1
theorem dX11_chase_234 : decode cX11_chase 234 = .ok (.goto (-119), 3) := db280.2.1
theorem dX11_chase_134 : decode cX11_chase 134 = .ok (.ifCond .ne 6, 3) := db280.2.2.1
theorem dX11_chase_140 : decode cX11_chase 140 = .ok (.iconst 0, 1) := db280.2.2.2.1
theorem dX11_chase_141 : decode cX11_chase 141 = .ok (.istore 9, 2) := db280.2.2.2.2.1
theorem dX11_chase_143 : decode cX11_chase 143 = .ok (.iload 9, 2) := db280.2.2.2.2.2.1
theorem dX11_chase_145 : decode cX11_chase 145 = .ok (.aload_n 0, 1) := db280.2.2.2.2.2.2.1
theorem dX11_chase_146 : decode cX11_chase 146 = .ok (.getfield 9, 3) := db280.2.2.2.2.2.2.2.1
theorem dX11_chase_149 : decode cX11_chase 149 = .ok (.iconst 4, 1) := db280.2.2.2.2.2.2.2.2.1
theorem dX11_chase_150 : decode cX11_chase 150 = .ok (.iaload, 1) := db280.2.2.2.2.2.2.2.2.2.1
theorem dX11_chase_151 : decode cX11_chase 151 = .ok (.if_icmp .ge 80, 3) := db280.2.2.2.2.2.2.2.2.2.2.1
theorem dX11_chase_154 : decode cX11_chase 154 = .ok (.iload_n 3, 1) := db280.2.2.2.2.2.2.2.2.2.2.2.1
theorem dX11_chase_225 : decode cX11_chase 225 = .ok (.iinc 9 1, 3) := db280.2.2.2.2.2.2.2.2.2.2.2.2.1
theorem dX11_chase_228 : decode cX11_chase 228 = .ok (.goto (-85), 3) := db280.2.2.2.2.2.2.2.2.2.2.2.2.2.1
theorem dX11_chase_179 : decode cX11_chase 179 = .ok (.aload_n 0, 1) := db280.2.2.2.2.2.2.2.2.2.2.2.2.2.2.1
theorem dX11_chase_180 : decode cX11_chase 180 = .ok (.iload 8, 2) := db280.2.2.2.2.2.2.2.2.2.2.2.2.2.2.2.1
theorem dX11_chase_182 : decode cX11_chase 182 = .ok (.iload 9, 2) := db280.2.2.2.2.2.2.2.2.2.2.2.2.2.2.2.2.1
theorem dX11_chase_184 : decode cX11_chase 184 = .ok (.aload_n 0, 1) := db280.2.2.2.2.2.2.2.2.2.2.2.2.2.2.2.2.2.1
theorem dX11_chase_185 : decode cX11_chase 185 = .ok (.iload 5, 2) := db280.2.2.2.2.2.2.2.2.2.2.2.2.2.2.2.2.2.2.1
theorem dX11_chase_187 : decode cX11_chase 187 = .ok (.sipush 128, 3) := db280.2.2.2.2.2.2.2.2.2.2.2.2.2.2.2.2.2.2.2.1
theorem dX11_chase_190 : decode cX11_chase 190 = .ok (.irem, 1) := db280.2.2.2.2.2.2.2.2.2.2.2.2.2.2.2.2.2.2.2.2.1
theorem dX11_chase_191 : decode cX11_chase 191 = .ok (.invokevirtual 330, 3) := db280.2.2.2.2.2.2.2.2.2.2.2.2.2.2.2.2.2.2.2.2.2.1
theorem dX11_chase_194 : decode cX11_chase 194 = .ok (.iconst 1, 1) := db280.2.2.2.2.2.2.2.2.2.2.2.2.2.2.2.2.2.2.2.2.2.2.1
theorem dX11_chase_195 : decode cX11_chase 195 = .ok (.iload 8, 2) := db280.2.2.2.2.2.2.2.2.2.2.2.2.2.2.2.2.2.2.2.2.2.2.2
theorem db281 : (decode cX11_chase 197 = .ok (.ishl, 1)) ∧ (decode cX11_chase 198 = .ok (.iconst (-1), 1)) ∧ (decode cX11_chase 199 = .ok (.ixor, 1)) ∧ (decode cX11_chase 200 = .ok (.iand, 1)) ∧ (decode cX11_chase 201 = .ok (.iconst 1, 1)) ∧ (decode cX11_chase 202 = .ok (.iload 9, 2)) ∧ (decode cX11_chase 204 = .ok (.ishl, 1)) ∧ (decode cX11_chase 205 = .ok (.iconst (-1), 1)) ∧ (decode cX11_chase 206 = .ok (.ixor, 1)) ∧ (decode cX11_chase 207 = .ok (.iand, 1)) ∧ (decode cX11_chase 208 = .ok (.invokestatic 349, 3)) ∧ (decode cX11_chase 211 = .ok (.aload_n 0, 1)) ∧ (decode cX11_chase 212 = .ok (.getfield 52, 3)) ∧ (decode cX11_chase 215 = .ok (.iload 5, 2)) ∧ (decode cX11_chase 217 = .ok (.iaload, 1)) ∧ (decode cX11_chase 218 = .ok (.iconst 1, 1)) ∧ (decode cX11_chase 219 = .ok (.iadd, 1)) ∧ (decode cX11_chase 220 = .ok (.iload 5, 2)) ∧ (decode cX11_chase 222 = .ok (.invokevirtual 352, 3)) ∧ (decode cX11_chase 155 = .ok (.ifCond .eq 13, 3)) ∧ (decode cX11_chase 168 = .ok (.aload_n 0, 1)) ∧ (decode cX11_chase 169 = .ok (.iload 7, 2)) ∧ (decode cX11_chase 171 = .ok (.iload 9, 2)) ∧ (decode cX11_chase 173 = .ok (.invokevirtual 312, 3)) := by decide +kernel
theorem dX11_chase_197 : decode cX11_chase 197 = .ok (.ishl, 1) := db281.1
theorem dX11_chase_198 : decode cX11_chase 198 = .ok (.iconst (-1), 1) := db281.2.1
theorem dX11_chase_199 : decode cX11_chase 199 = .ok (.ixor, 1) := db281.2.2.1
theorem dX11_chase_200 : decode cX11_chase 200 = .ok (.iand, 1) := db281.2.2.2.1
theorem dX11_chase_201 : decode cX11_chase 201 = .ok (.iconst 1, 1) := db281.2.2.2.2.1
theorem dX11_chase_202 : decode cX11_chase 202 = .ok (.iload 9, 2) := db281.2.2.2.2.2.1
theorem dX11_chase_204 : decode cX11_chase 204 = .ok (.ishl, 1) := db281.2.2.2.2.2.2.1
theorem dX11_chase_205 : decode cX11_chase 205 = .ok (.iconst (-1), 1) := db281.2.2.2.2.2.2.2.1
theorem dX11_chase_206 : decode cX11_chase 206 = .ok (.ixor, 1) := db281.2.2.2.2.2.2.2.2.1
theorem dX11_chase_207 : decode cX11_chase 207 = .ok (.iand, 1) := db281.2.2.2.2.2.2.2.2.2.1
theorem dX11_chase_208 : decode cX11_chase 208 = .ok (.invokestatic 349, 3) := db281.2.2.2.2.2.2.2.2.2.2.1
theorem dX11_chase_211 : decode cX11_chase 211 = .ok (.aload_n 0, 1) := db281.2.2.2.2.2.2.2.2.2.2.2.1
theorem dX11_chase_212 : decode cX11_chase 212 = .ok (.getfield 52, 3) := db281.2.2.2.2.2.2.2.2.2.2.2.2.1
theorem dX11_chase_215 : decode cX11_chase 215 = .ok (.iload 5, 2) := db281.2.2.2.2.2.2.2.2.2.2.2.2.2.1
theorem dX11_chase_217 : decode cX11_chase 217 = .ok (.iaload, 1) := db281.2.2.2.2.2.2.2.2.2.2.2.2.2.2.1
theorem dX11_chase_218 : decode cX11_chase 218 = .ok (.iconst 1, 1) := db281.2.2.2.2.2.2.2.2.2.2.2.2.2.2.2.1
theorem dX11_chase_219 : decode cX11_chase 219 = .ok (.iadd, 1) := db281.2.2.2.2.2.2.2.2.2.2.2.2.2.2.2.2.1
theorem dX11_chase_220 : decode cX11_chase 220 = .ok (.iload 5, 2) := db281.2.2.2.2.2.2.2.2.2.2.2.2.2.2.2.2.2.1
theorem dX11_chase_222 : decode cX11_chase 222 = .ok (.invokevirtual 352, 3) := db281.2.2.2.2.2.2.2.2.2.2.2.2.2.2.2.2.2.2.1
theorem dX11_chase_155 : decode cX11_chase 155 = .ok (.ifCond .eq 13, 3) := db281.2.2.2.2.2.2.2.2.2.2.2.2.2.2.2.2.2.2.2.1
theorem dX11_chase_168 : decode cX11_chase 168 = .ok (.aload_n 0, 1) := db281.2.2.2.2.2.2.2.2.2.2.2.2.2.2.2.2.2.2.2.2.1
theorem dX11_chase_169 : decode cX11_chase 169 = .ok (.iload 7, 2) := db281.2.2.2.2.2.2.2.2.2.2.2.2.2.2.2.2.2.2.2.2.2.1
theorem dX11_chase_171 : decode cX11_chase 171 = .ok (.iload 9, 2) := db281.2.2.2.2.2.2.2.2.2.2.2.2.2.2.2.2.2.2.2.2.2.2.1
theorem dX11_chase_173 : decode cX11_chase 173 = .ok (.invokevirtual 312, 3) := db281.2.2.2.2.2.2.2.2.2.2.2.2.2.2.2.2.2.2.2.2.2.2.2
theorem db282 : (decode cX11_chase 176 = .ok (.ifCond .eq 49, 3)) ∧ (decode cX11_chase 158 = .ok (.iload 9, 2)) ∧ (decode cX11_chase 160 = .ok (.iload 8, 2)) ∧ (decode cX11_chase 162 = .ok (.if_icmp .ne 63, 3)) ∧ (decode cX11_chase 165 = .ok (.goto 14, 3)) ∧ (decode cX11_chase 137 = .ok (.goto 94, 3)) ∧ (decode cX11_chase 87 = .ok (.iload 5, 2)) ∧ (decode cX11_chase 89 = .ok (.ireturn, 1)) ∧ (decode cX11_chase 11 = .ok (.aload_n 0, 1)) ∧ (decode cX11_chase 12 = .ok (.getfield 52, 3)) ∧ (decode cX11_chase 15 = .ok (.iload 4, 2)) ∧ (decode cX11_chase 17 = .ok (.iconst (-1), 1)) ∧ (decode cX11_chase 18 = .ok (.iastore, 1)) ∧ (decode cX11_chase 19 = .ok (.iinc 4 1, 3)) ∧ (decode cX11_chase 22 = .ok (.goto (-19), 3)) := by decide +kernel
theorem dX11_chase_176 : decode cX11_chase 176 = .ok (.ifCond .eq 49, 3) := db282.1
theorem dX11_chase_158 : decode cX11_chase 158 = .ok (.iload 9, 2) := db282.2.1
theorem dX11_chase_160 : decode cX11_chase 160 = .ok (.iload 8, 2) := db282.2.2.1
theorem dX11_chase_162 : decode cX11_chase 162 = .ok (.if_icmp .ne 63, 3) := db282.2.2.2.1
theorem dX11_chase_165 : decode cX11_chase 165 = .ok (.goto 14, 3) := db282.2.2.2.2.1
theorem dX11_chase_137 : decode cX11_chase 137 = .ok (.goto 94, 3) := db282.2.2.2.2.2.1
theorem dX11_chase_87 : decode cX11_chase 87 = .ok (.iload 5, 2) := db282.2.2.2.2.2.2.1
theorem dX11_chase_89 : decode cX11_chase 89 = .ok (.ireturn, 1) := db282.2.2.2.2.2.2.2.1
theorem dX11_chase_11 : decode cX11_chase 11 = .ok (.aload_n 0, 1) := db282.2.2.2.2.2.2.2.2.1
theorem dX11_chase_12 : decode cX11_chase 12 = .ok (.getfield 52, 3) := db282.2.2.2.2.2.2.2.2.2.1
theorem dX11_chase_15 : decode cX11_chase 15 = .ok (.iload 4, 2) := db282.2.2.2.2.2.2.2.2.2.2.1
theorem dX11_chase_17 : decode cX11_chase 17 = .ok (.iconst (-1), 1) := db282.2.2.2.2.2.2.2.2.2.2.2.1
theorem dX11_chase_18 : decode cX11_chase 18 = .ok (.iastore, 1) := db282.2.2.2.2.2.2.2.2.2.2.2.2.1
theorem dX11_chase_19 : decode cX11_chase 19 = .ok (.iinc 4 1, 3) := db282.2.2.2.2.2.2.2.2.2.2.2.2.2.1
theorem dX11_chase_22 : decode cX11_chase 22 = .ok (.goto (-19), 3) := db282.2.2.2.2.2.2.2.2.2.2.2.2.2.2
theorem db283 : (decode cX11_count 0 = .ok (.iconst 0, 1)) ∧ (decode cX11_count 1 = .ok (.istore_n 2, 1)) ∧ (decode cX11_count 2 = .ok (.iload_n 1, 1)) ∧ (decode cX11_count 3 = .ok (.tableswitch 176 0 7 #[45, 52, 86, 93, 122, 130, 135, 143], 45)) ∧ (decode cX11_count 179 = .ok (.iconst (-1), 1)) ∧ (decode cX11_count 180 = .ok (.ireturn, 1)) ∧ (decode cX11_count 48 = .ok (.aload_n 0, 1)) ∧ (decode cX11_count 49 = .ok (.getfield 9, 3)) ∧ (decode cX11_count 52 = .ok (.iconst 4, 1)) ∧ (decode cX11_count 53 = .ok (.iaload, 1)) ∧ (decode cX11_count 54 = .ok (.ireturn, 1)) ∧ (decode cX11_count 55 = .ok (.iconst 0, 1)) ∧ (decode cX11_count 56 = .ok (.istore_n 3, 1)) ∧ (decode cX11_count 57 = .ok (.iload_n 3, 1)) ∧ (decode cX11_count 58 = .ok (.aload_n 0, 1)) ∧ (decode cX11_count 59 = .ok (.getfield 9, 3)) ∧ (decode cX11_count 62 = .ok (.iconst 4, 1)) ∧ (decode cX11_count 63 = .ok (.iaload, 1)) ∧ (decode cX11_count 64 = .ok (.if_icmp .ge 21, 3)) ∧ (decode cX11_count 85 = .ok (.iload_n 2, 1)) ∧ (decode cX11_count 86 = .ok (.iconst 2, 1)) ∧ (decode cX11_count 87 = .ok (.idiv, 1)) ∧ (decode cX11_count 88 = .ok (.ireturn, 1)) ∧ (decode cX11_count 67 = .ok (.iload_n 2, 1)) := by decide +kernel
theorem dX11_count_0 : decode cX11_count 0 = .ok (.iconst 0, 1) := db283.1
theorem dX11_count_1 : decode cX11_count 1 = .ok (.istore_n 2, 1) := db283.2.1
theorem dX11_count_2 : decode cX11_count 2 = .ok (.iload_n 1, 1) := db283.2.2.1
theorem dX11_count_3 : decode cX11_count 3 = .ok (.tableswitch 176 0 7 #[45, 52, 86, 93, 122, 130, 135, 143], 45) := db283.2.2.2.1
theorem dX11_count_179 : decode cX11_count 179 = .ok (.iconst (-1), 1) := db283.2.2.2.2.1
theorem dX11_count_180 : decode cX11_count 180 = .ok (.ireturn, 1) := db283.2.2.2.2.2.1
theorem dX11_count_48 : decode cX11_count 48 = .ok (.aload_n 0, 1) := db283.2.2.2.2.2.2.1
theorem dX11_count_49 : decode cX11_count 49 = .ok (.getfield 9, 3) := db283.2.2.2.2.2.2.2.1
theorem dX11_count_52 : decode cX11_count 52 = .ok (.iconst 4, 1) := db283.2.2.2.2.2.2.2.2.1
theorem dX11_count_53 : decode cX11_count 53 = .ok (.iaload, 1) := db283.2.2.2.2.2.2.2.2.2.1
theorem dX11_count_54 : decode cX11_count 54 = .ok (.ireturn, 1) := db283.2.2.2.2.2.2.2.2.2.2.1
theorem dX11_count_55 : decode cX11_count 55 = .ok (.iconst 0, 1) := db283.2.2.2.2.2.2.2.2.2.2.2.1
theorem dX11_count_56 : decode cX11_count 56 = .ok (.istore_n 3, 1) := db283.2.2.2.2.2.2.2.2.2.2.2.2.1
theorem dX11_count_57 : decode cX11_count 57 = .ok (.iload_n 3, 1) := db283.2.2.2.2.2.2.2.2.2.2.2.2.2.1
theorem dX11_count_58 : decode cX11_count 58 = .ok (.aload_n 0, 1) := db283.2.2.2.2.2.2.2.2.2.2.2.2.2.2.1
theorem dX11_count_59 : decode cX11_count 59 = .ok (.getfield 9, 3) := db283.2.2.2.2.2.2.2.2.2.2.2.2.2.2.2.1
theorem dX11_count_62 : decode cX11_count 62 = .ok (.iconst 4, 1) := db283.2.2.2.2.2.2.2.2.2.2.2.2.2.2.2.2.1
theorem dX11_count_63 : decode cX11_count 63 = .ok (.iaload, 1) := db283.2.2.2.2.2.2.2.2.2.2.2.2.2.2.2.2.2.1
theorem dX11_count_64 : decode cX11_count 64 = .ok (.if_icmp .ge 21, 3) := db283.2.2.2.2.2.2.2.2.2.2.2.2.2.2.2.2.2.2.1
theorem dX11_count_85 : decode cX11_count 85 = .ok (.iload_n 2, 1) := db283.2.2.2.2.2.2.2.2.2.2.2.2.2.2.2.2.2.2.2.1
theorem dX11_count_86 : decode cX11_count 86 = .ok (.iconst 2, 1) := db283.2.2.2.2.2.2.2.2.2.2.2.2.2.2.2.2.2.2.2.2.1
theorem dX11_count_87 : decode cX11_count 87 = .ok (.idiv, 1) := db283.2.2.2.2.2.2.2.2.2.2.2.2.2.2.2.2.2.2.2.2.2.1
theorem dX11_count_88 : decode cX11_count 88 = .ok (.ireturn, 1) := db283.2.2.2.2.2.2.2.2.2.2.2.2.2.2.2.2.2.2.2.2.2.2.1
theorem dX11_count_67 : decode cX11_count 67 = .ok (.iload_n 2, 1) := db283.2.2.2.2.2.2.2.2.2.2.2.2.2.2.2.2.2.2.2.2.2.2.2
theorem db284 : (decode cX11_count 68 = .ok (.aload_n 0, 1)) ∧ (decode cX11_count 69 = .ok (.iload_n 3, 1)) ∧ (decode cX11_count 70 = .ok (.iconst 3, 1)) ∧ (decode cX11_count 71 = .ok (.invokevirtual 227, 3)) ∧ (decode cX11_count 74 = .ok (.invokestatic 255, 3)) ∧ (decode cX11_count 77 = .ok (.iadd, 1)) ∧ (decode cX11_count 78 = .ok (.istore_n 2, 1)) ∧ (decode cX11_count 79 = .ok (.iinc 3 1, 3)) ∧ (decode cX11_count 82 = .ok (.goto (-25), 3)) ∧ (decode cX11_count 89 = .ok (.aload_n 0, 1)) ∧ (decode cX11_count 90 = .ok (.getfield 9, 3)) ∧ (decode cX11_count 93 = .ok (.iconst 5, 1)) ∧ (decode cX11_count 94 = .ok (.iaload, 1)) ∧ (decode cX11_count 95 = .ok (.ireturn, 1)) ∧ (decode cX11_count 96 = .ok (.iconst 0, 1)) ∧ (decode cX11_count 97 = .ok (.istore_n 3, 1)) ∧ (decode cX11_count 98 = .ok (.iload_n 3, 1)) ∧ (decode cX11_count 99 = .ok (.aload_n 0, 1)) ∧ (decode cX11_count 100 = .ok (.getfield 9, 3)) ∧ (decode cX11_count 103 = .ok (.iconst 4, 1)) ∧ (decode cX11_count 104 = .ok (.iaload, 1)) ∧ (decode cX11_count 105 = .ok (.if_icmp .ge 18, 3)) ∧ (decode cX11_count 123 = .ok (.iload_n 2, 1)) ∧ (decode cX11_count 124 = .ok (.ireturn, 1)) := by decide +kernel
theorem dX11_count_68 : decode cX11_count 68 = .ok (.aload_n 0, 1) := db284.1
theorem dX11_count_69 : decode cX11_count 69 = .ok (.iload_n 3, 1) := db284.2.1
theorem dX11_count_70 : decode cX11_count 70 = .ok (.iconst 3, 1) := db284.2.2.1
theorem dX11_count_71 : decode cX11_count 71 = .ok (.invokevirtual 227, 3) := db284.2.2.2.1
theorem dX11_count_74 : decode cX11_count 74 = .ok (.invokestatic 255, 3) := db284.2.2.2.2.1
theorem dX11_count_77 : decode cX11_count 77 = .ok (.iadd, 1) := db284.2.2.2.2.2.1
theorem dX11_count_78 : decode cX11_count 78 = .ok (.istore_n 2, 1) := db284.2.2.2.2.2.2.1
theorem dX11_count_79 : decode cX11_count 79 = .ok (.iinc 3 1, 3) := db284.2.2.2.2.2.2.2.1
theorem dX11_count_82 : decode cX11_count 82 = .ok (.goto (-25), 3) := db284.2.2.2.2.2.2.2.2.1
theorem dX11_count_89 : decode cX11_count 89 = .ok (.aload_n 0, 1) := db284.2.2.2.2.2.2.2.2.2.1
theorem dX11_count_90 : decode cX11_count 90 = .ok (.getfield 9, 3) := db284.2.2.2.2.2.2.2.2.2.2.1
theorem dX11_count_93 : decode cX11_count 93 = .ok (.iconst 5, 1) := db284.2.2.2.2.2.2.2.2.2.2.2.1
theorem dX11_count_94 : decode cX11_count 94 = .ok (.iaload, 1) := db284.2.2.2.2.2.2.2.2.2.2.2.2.1
theorem dX11_count_95 : decode cX11_count 95 = .ok (.ireturn, 1) := db284.2.2.2.2.2.2.2.2.2.2.2.2.2.1
theorem dX11_count_96 : decode cX11_count 96 = .ok (.iconst 0, 1) := db284.2.2.2.2.2.2.2.2.2.2.2.2.2.2.1
theorem dX11_count_97 : decode cX11_count 97 = .ok (.istore_n 3, 1) := db284.2.2.2.2.2.2.2.2.2.2.2.2.2.2.2.1
theorem dX11_count_98 : decode cX11_count 98 = .ok (.iload_n 3, 1) := db284.2.2.2.2.2.2.2.2.2.2.2.2.2.2.2.2.1
theorem dX11_count_99 : decode cX11_count 99 = .ok (.aload_n 0, 1) := db284.2.2.2.2.2.2.2.2.2.2.2.2.2.2.2.2.2.1
theorem dX11_count_100 : decode cX11_count 100 = .ok (.getfield 9, 3) := db284.2.2.2.2.2.2.2.2.2.2.2.2.2.2.2.2.2.2.1
theorem dX11_count_103 : decode cX11_count 103 = .ok (.iconst 4, 1) := db284.2.2.2.2.2.2.2.2.2.2.2.2.2.2.2.2.2.2.2.1
theorem dX11_count_104 : decode cX11_count 104 = .ok (.iaload, 1) := db284.2.2.2.2.2.2.2.2.2.2.2.2.2.2.2.2.2.2.2.2.1
theorem dX11_count_105 : decode cX11_count 105 = .ok (.if_icmp .ge 18, 3) := db284.2.2.2.2.2.2.2.2.2.2.2.2.2.2.2.2.2.2.2.2.2.1
theorem dX11_count_123 : decode cX11_count 123 = .ok (.iload_n 2, 1) := db284.2.2.2.2.2.2.2.2.2.2.2.2.2.2.2.2.2.2.2.2.2.2.1
theorem dX11_count_124 : decode cX11_count 124 = .ok (.ireturn, 1) := db284.2.2.2.2.2.2.2.2.2.2.2.2.2.2.2.2.2.2.2.2.2.2.2
theorem db285 : (decode cX11_count 108 = .ok (.iload_n 2, 1)) ∧ (decode cX11_count 109 = .ok (.aload_n 0, 1)) ∧ (decode cX11_count 110 = .ok (.iload_n 3, 1)) ∧ (decode cX11_count 111 = .ok (.iconst 0, 1)) ∧ (decode cX11_count 112 = .ok (.invokevirtual 227, 3)) ∧ (decode cX11_count 115 = .ok (.iadd, 1)) ∧ (decode cX11_count 116 = .ok (.istore_n 2, 1)) ∧ (decode cX11_count 117 = .ok (.iinc 3 1, 3)) ∧ (decode cX11_count 120 = .ok (.goto (-22), 3)) ∧ (decode cX11_count 125 = .ok (.aload_n 0, 1)) ∧ (decode cX11_count 126 = .ok (.getfield 9, 3)) ∧ (decode cX11_count 129 = .ok (.bipush 6, 2)) ∧ (decode cX11_count 131 = .ok (.iaload, 1)) ∧ (decode cX11_count 132 = .ok (.ireturn, 1)) ∧ (decode cX11_count 133 = .ok (.aload_n 0, 1)) ∧ (decode cX11_count 134 = .ok (.getfield 93, 3)) ∧ (decode cX11_count 137 = .ok (.ireturn, 1)) ∧ (decode cX11_count 138 = .ok (.aload_n 0, 1)) ∧ (decode cX11_count 139 = .ok (.getfield 9, 3)) ∧ (decode cX11_count 142 = .ok (.bipush 7, 2)) ∧ (decode cX11_count 144 = .ok (.iaload, 1)) ∧ (decode cX11_count 145 = .ok (.ireturn, 1)) ∧ (decode cX11_count 146 = .ok (.iconst 0, 1)) ∧ (decode cX11_count 147 = .ok (.istore_n 3, 1)) := by decide +kernel
theorem dX11_count_108 : decode cX11_count 108 = .ok (.iload_n 2, 1) := db285.1
theorem dX11_count_109 : decode cX11_count 109 = .ok (.aload_n 0, 1) := db285.2.1
theorem dX11_count_110 : decode cX11_count 110 = .ok (.iload_n 3, 1) := db285.2.2.1
theorem dX11_count_111 : decode cX11_count 111 = .ok (.iconst 0, 1) := db285.2.2.2.1
theorem dX11_count_112 : decode cX11_count 112 = .ok (.invokevirtual 227, 3) := db285.2.2.2.2.1
theorem dX11_count_115 : decode cX11_count 115 = .ok (.iadd, 1) := db285.2.2.2.2.2.1
theorem dX11_count_116 : decode cX11_count 116 = .ok (.istore_n 2, 1) := db285.2.2.2.2.2.2.1
theorem dX11_count_117 : decode cX11_count 117 = .ok (.iinc 3 1, 3) := db285.2.2.2.2.2.2.2.1
theorem dX11_count_120 : decode cX11_count 120 = .ok (.goto (-22), 3) := db285.2.2.2.2.2.2.2.2.1
theorem dX11_count_125 : decode cX11_count 125 = .ok (.aload_n 0, 1) := db285.2.2.2.2.2.2.2.2.2.1
theorem dX11_count_126 : decode cX11_count 126 = .ok (.getfield 9, 3) := db285.2.2.2.2.2.2.2.2.2.2.1
theorem dX11_count_129 : decode cX11_count 129 = .ok (.bipush 6, 2) := db285.2.2.2.2.2.2.2.2.2.2.2.1
theorem dX11_count_131 : decode cX11_count 131 = .ok (.iaload, 1) := db285.2.2.2.2.2.2.2.2.2.2.2.2.1
theorem dX11_count_132 : decode cX11_count 132 = .ok (.ireturn, 1) := db285.2.2.2.2.2.2.2.2.2.2.2.2.2.1
theorem dX11_count_133 : decode cX11_count 133 = .ok (.aload_n 0, 1) := db285.2.2.2.2.2.2.2.2.2.2.2.2.2.2.1
theorem dX11_count_134 : decode cX11_count 134 = .ok (.getfield 93, 3) := db285.2.2.2.2.2.2.2.2.2.2.2.2.2.2.2.1
theorem dX11_count_137 : decode cX11_count 137 = .ok (.ireturn, 1) := db285.2.2.2.2.2.2.2.2.2.2.2.2.2.2.2.2.1
theorem dX11_count_138 : decode cX11_count 138 = .ok (.aload_n 0, 1) := db285.2.2.2.2.2.2.2.2.2.2.2.2.2.2.2.2.2.1
theorem dX11_count_139 : decode cX11_count 139 = .ok (.getfield 9, 3) := db285.2.2.2.2.2.2.2.2.2.2.2.2.2.2.2.2.2.2.1
theorem dX11_count_142 : decode cX11_count 142 = .ok (.bipush 7, 2) := db285.2.2.2.2.2.2.2.2.2.2.2.2.2.2.2.2.2.2.2.1
theorem dX11_count_144 : decode cX11_count 144 = .ok (.iaload, 1) := db285.2.2.2.2.2.2.2.2.2.2.2.2.2.2.2.2.2.2.2.2.1
theorem dX11_count_145 : decode cX11_count 145 = .ok (.ireturn, 1) := db285.2.2.2.2.2.2.2.2.2.2.2.2.2.2.2.2.2.2.2.2.2.1
theorem dX11_count_146 : decode cX11_count 146 = .ok (.iconst 0, 1) := db285.2.2.2.2.2.2.2.2.2.2.2.2.2.2.2.2.2.2.2.2.2.2.1
theorem dX11_count_147 : decode cX11_count 147 = .ok (.istore_n 3, 1) := db285.2.2.2.2.2.2.2.2.2.2.2.2.2.2.2.2.2.2.2.2.2.2.2
theorem db286 : (decode cX11_count 148 = .ok (.iload_n 3, 1)) ∧ (decode cX11_count 149 = .ok (.iconst 4, 1)) ∧ (decode cX11_count 150 = .ok (.if_icmp .ge 27, 3)) ∧ (decode cX11_count 177 = .ok (.iload_n 2, 1)) ∧ (decode cX11_count 178 = .ok (.ireturn, 1)) ∧ (decode cX11_count 153 = .ok (.iload_n 2, 1)) ∧ (decode cX11_count 154 = .ok (.aload_n 0, 1)) ∧ (decode cX11_count 155 = .ok (.getfield 61, 3)) ∧ (decode cX11_count 158 = .ok (.iload_n 3, 1)) ∧ (decode cX11_count 159 = .ok (.iaload, 1)) ∧ (decode cX11_count 160 = .ok (.iconst (-1), 1)) ∧ (decode cX11_count 169 = .ok (.iadd, 1)) ∧ (decode cX11_count 170 = .ok (.istore_n 2, 1)) ∧ (decode cX11_count 171 = .ok (.iinc 3 1, 3)) ∧ (decode cX11_count 174 = .ok (.goto (-26), 3)) ∧ (decode cX11_count 161 = .ok (.if_icmp .ne 7, 3)) ∧ (decode cX11_count 168 = .ok (.iconst 1, 1)) ∧ (decode cX11_count 164 = .ok (.iconst 0, 1)) ∧ (decode cX11_count 165 = .ok (.goto 4, 3)) := by decide +kernel
theorem dX11_count_148 : decode cX11_count 148 = .ok (.iload_n 3, 1) := db286.1
theorem dX11_count_149 : decode cX11_count 149 = .ok (.iconst 4, 1) := db286.2.1
theorem dX11_count_150 : decode cX11_count 150 = .ok (.if_icmp .ge 27, 3) := db286.2.2.1
theorem dX11_count_177 : decode cX11_count 177 = .ok (.iload_n 2, 1) := db286.2.2.2.1
theorem dX11_count_178 : decode cX11_count 178 = .ok (.ireturn, 1) := db286.2.2.2.2.1
theorem dX11_count_153 : decode cX11_count 153 = .ok (.iload_n 2, 1) := db286.2.2.2.2.2.1
theorem dX11_count_154 : decode cX11_count 154 = .ok (.aload_n 0, 1) := db286.2.2.2.2.2.2.1
theorem dX11_count_155 : decode cX11_count 155 = .ok (.getfield 61, 3) := db286.2.2.2.2.2.2.2.1
theorem dX11_count_158 : decode cX11_count 158 = .ok (.iload_n 3, 1) := db286.2.2.2.2.2.2.2.2.1
theorem dX11_count_159 : decode cX11_count 159 = .ok (.iaload, 1) := db286.2.2.2.2.2.2.2.2.2.1
theorem dX11_count_160 : decode cX11_count 160 = .ok (.iconst (-1), 1) := db286.2.2.2.2.2.2.2.2.2.2.1
theorem dX11_count_169 : decode cX11_count 169 = .ok (.iadd, 1) := db286.2.2.2.2.2.2.2.2.2.2.2.1
theorem dX11_count_170 : decode cX11_count 170 = .ok (.istore_n 2, 1) := db286.2.2.2.2.2.2.2.2.2.2.2.2.1
theorem dX11_count_171 : decode cX11_count 171 = .ok (.iinc 3 1, 3) := db286.2.2.2.2.2.2.2.2.2.2.2.2.2.1
theorem dX11_count_174 : decode cX11_count 174 = .ok (.goto (-26), 3) := db286.2.2.2.2.2.2.2.2.2.2.2.2.2.2.1
theorem dX11_count_161 : decode cX11_count 161 = .ok (.if_icmp .ne 7, 3) := db286.2.2.2.2.2.2.2.2.2.2.2.2.2.2.2.1
theorem dX11_count_168 : decode cX11_count 168 = .ok (.iconst 1, 1) := db286.2.2.2.2.2.2.2.2.2.2.2.2.2.2.2.2.1
theorem dX11_count_164 : decode cX11_count 164 = .ok (.iconst 0, 1) := db286.2.2.2.2.2.2.2.2.2.2.2.2.2.2.2.2.2.1
theorem dX11_count_165 : decode cX11_count 165 = .ok (.goto 4, 3) := db286.2.2.2.2.2.2.2.2.2.2.2.2.2.2.2.2.2.2
theorem db287 : (decode cX11_cut 0 = .ok (.bipush 64, 2)) ∧ (decode cX11_cut 2 = .ok (.bipush 8, 2)) ∧ (decode cX11_cut 4 = .ok (.iload_n 2, 1)) ∧ (decode cX11_cut 5 = .ok (.ishl, 1)) ∧ (decode cX11_cut 6 = .ok (.isub, 1)) ∧ (decode cX11_cut 7 = .ok (.istore_n 3, 1)) ∧ (decode cX11_cut 8 = .ok (.lload_n 0, 1)) ∧ (decode cX11_cut 9 = .ok (.iload_n 3, 1)) ∧ (decode cX11_cut 10 = .ok (.lshl, 1)) ∧ (decode cX11_cut 11 = .ok (.iload_n 3, 1)) ∧ (decode cX11_cut 12 = .ok (.lshr, 1)) ∧ (decode cX11_cut 13 = .ok (.lreturn, 1)) := by decide +kernel
theorem dX11_cut_0 : decode cX11_cut 0 = .ok (.bipush 64, 2) := db287.1
theorem dX11_cut_2 : decode cX11_cut 2 = .ok (.bipush 8, 2) := db287.2.1
theorem dX11_cut_4 : decode cX11_cut 4 = .ok (.iload_n 2, 1) := db287.2.2.1
theorem dX11_cut_5 : decode cX11_cut 5 = .ok (.ishl, 1) := db287.2.2.2.1
theorem dX11_cut_6 : decode cX11_cut 6 = .ok (.isub, 1) := db287.2.2.2.2.1
theorem dX11_cut_7 : decode cX11_cut 7 = .ok (.istore_n 3, 1) := db287.2.2.2.2.2.1
theorem dX11_cut_8 : decode cX11_cut 8 = .ok (.lload_n 0, 1) := db287.2.2.2.2.2.2.1
theorem dX11_cut_9 : decode cX11_cut 9 = .ok (.iload_n 3, 1) := db287.2.2.2.2.2.2.2.1
theorem dX11_cut_10 : decode cX11_cut 10 = .ok (.lshl, 1) := db287.2.2.2.2.2.2.2.2.1
theorem dX11_cut_11 : decode cX11_cut 11 = .ok (.iload_n 3, 1) := db287.2.2.2.2.2.2.2.2.2.1
theorem dX11_cut_12 : decode cX11_cut 12 = .ok (.lshr, 1) := db287.2.2.2.2.2.2.2.2.2.2.1
theorem dX11_cut_13 : decode cX11_cut 13 = .ok (.lreturn, 1) := db287.2.2.2.2.2.2.2.2.2.2.2
theorem db288 : (decode cX11_desk 0 = .ok (.aload_n 0, 1)) ∧ (decode cX11_desk 1 = .ok (.getfield 9, 3)) ∧ (decode cX11_desk 4 = .ok (.iconst 4, 1)) ∧ (decode cX11_desk 5 = .ok (.iaload, 1)) ∧ (decode cX11_desk 6 = .ok (.ifCond .eq 15, 3)) ∧ (decode cX11_desk 21 = .ok (.bipush (-2), 2)) ∧ (decode cX11_desk 23 = .ok (.ireturn, 1)) ∧ (decode cX11_desk 9 = .ok (.iload_n 1, 1)) ∧ (decode cX11_desk 10 = .ok (.i2l, 1)) ∧ (decode cX11_desk 11 = .ok (.lconst 0, 1)) ∧ (decode cX11_desk 12 = .ok (.ldc2_w 284, 3)) ∧ (decode cX11_desk 15 = .ok (.invokestatic 79, 3)) ∧ (decode cX11_desk 18 = .ok (.ifCond .ne 6, 3)) ∧ (decode cX11_desk 24 = .ok (.iconst (-1), 1)) ∧ (decode cX11_desk 25 = .ok (.istore_n 2, 1)) ∧ (decode cX11_desk 26 = .ok (.iconst (-1), 1)) ∧ (decode cX11_desk 27 = .ok (.istore_n 3, 1)) ∧ (decode cX11_desk 28 = .ok (.iconst 0, 1)) ∧ (decode cX11_desk 29 = .ok (.istore 4, 2)) ∧ (decode cX11_desk 31 = .ok (.iload 4, 2)) ∧ (decode cX11_desk 33 = .ok (.aload_n 0, 1)) ∧ (decode cX11_desk 34 = .ok (.getfield 9, 3)) ∧ (decode cX11_desk 37 = .ok (.iconst 4, 1)) ∧ (decode cX11_desk 38 = .ok (.iaload, 1)) := by decide +kernel
theorem dX11_desk_0 : decode cX11_desk 0 = .ok (.aload_n 0, 1) := db288.1
theorem dX11_desk_1 : decode cX11_desk 1 = .ok (.getfield 9, 3) := db288.2.1
theorem dX11_desk_4 : decode cX11_desk 4 = .ok (.iconst 4, 1) := db288.2.2.1
theorem dX11_desk_5 : decode cX11_desk 5 = .ok (.iaload, 1) := db288.2.2.2.1
theorem dX11_desk_6 : decode cX11_desk 6 = .ok (.ifCond .eq 15, 3) := db288.2.2.2.2.1
theorem dX11_desk_21 : decode cX11_desk 21 = .ok (.bipush (-2), 2) := db288.2.2.2.2.2.1
theorem dX11_desk_23 : decode cX11_desk 23 = .ok (.ireturn, 1) := db288.2.2.2.2.2.2.1
theorem dX11_desk_9 : decode cX11_desk 9 = .ok (.iload_n 1, 1) := db288.2.2.2.2.2.2.2.1
theorem dX11_desk_10 : decode cX11_desk 10 = .ok (.i2l, 1) := db288.2.2.2.2.2.2.2.2.1
theorem dX11_desk_11 : decode cX11_desk 11 = .ok (.lconst 0, 1) := db288.2.2.2.2.2.2.2.2.2.1
theorem dX11_desk_12 : decode cX11_desk 12 = .ok (.ldc2_w 284, 3) := db288.2.2.2.2.2.2.2.2.2.2.1
theorem dX11_desk_15 : decode cX11_desk 15 = .ok (.invokestatic 79, 3) := db288.2.2.2.2.2.2.2.2.2.2.2.1
theorem dX11_desk_18 : decode cX11_desk 18 = .ok (.ifCond .ne 6, 3) := db288.2.2.2.2.2.2.2.2.2.2.2.2.1
theorem dX11_desk_24 : decode cX11_desk 24 = .ok (.iconst (-1), 1) := db288.2.2.2.2.2.2.2.2.2.2.2.2.2.1
theorem dX11_desk_25 : decode cX11_desk 25 = .ok (.istore_n 2, 1) := db288.2.2.2.2.2.2.2.2.2.2.2.2.2.2.1
theorem dX11_desk_26 : decode cX11_desk 26 = .ok (.iconst (-1), 1) := db288.2.2.2.2.2.2.2.2.2.2.2.2.2.2.2.1
theorem dX11_desk_27 : decode cX11_desk 27 = .ok (.istore_n 3, 1) := db288.2.2.2.2.2.2.2.2.2.2.2.2.2.2.2.2.1
theorem dX11_desk_28 : decode cX11_desk 28 = .ok (.iconst 0, 1) := db288.2.2.2.2.2.2.2.2.2.2.2.2.2.2.2.2.2.1
theorem dX11_desk_29 : decode cX11_desk 29 = .ok (.istore 4, 2) := db288.2.2.2.2.2.2.2.2.2.2.2.2.2.2.2.2.2.2.1
theorem dX11_desk_31 : decode cX11_desk 31 = .ok (.iload 4, 2) := db288.2.2.2.2.2.2.2.2.2.2.2.2.2.2.2.2.2.2.2.1
theorem dX11_desk_33 : decode cX11_desk 33 = .ok (.aload_n 0, 1) := db288.2.2.2.2.2.2.2.2.2.2.2.2.2.2.2.2.2.2.2.2.1
theorem dX11_desk_34 : decode cX11_desk 34 = .ok (.getfield 9, 3) := db288.2.2.2.2.2.2.2.2.2.2.2.2.2.2.2.2.2.2.2.2.2.1
theorem dX11_desk_37 : decode cX11_desk 37 = .ok (.iconst 4, 1) := db288.2.2.2.2.2.2.2.2.2.2.2.2.2.2.2.2.2.2.2.2.2.2.1
theorem dX11_desk_38 : decode cX11_desk 38 = .ok (.iaload, 1) := db288.2.2.2.2.2.2.2.2.2.2.2.2.2.2.2.2.2.2.2.2.2.2.2
theorem db289 : (decode cX11_desk 39 = .ok (.if_icmp .ge 33, 3)) ∧ (decode cX11_desk 72 = .ok (.iload_n 2, 1)) ∧ (decode cX11_desk 73 = .ok (.ireturn, 1)) ∧ (decode cX11_desk 42 = .ok (.aload_n 0, 1)) ∧ (decode cX11_desk 43 = .ok (.iload 4, 2)) ∧ (decode cX11_desk 45 = .ok (.iload_n 1, 1)) ∧ (decode cX11_desk 46 = .ok (.invokevirtual 343, 3)) ∧ (decode cX11_desk 49 = .ok (.istore 5, 2)) ∧ (decode cX11_desk 51 = .ok (.iload 5, 2)) ∧ (decode cX11_desk 53 = .ok (.iload_n 3, 1)) ∧ (decode cX11_desk 66 = .ok (.iinc 4 1, 3)) ∧ (decode cX11_desk 69 = .ok (.goto (-38), 3)) ∧ (decode cX11_desk 54 = .ok (.if_icmp .gt 6, 3)) ∧ (decode cX11_desk 60 = .ok (.iload 5, 2)) ∧ (decode cX11_desk 62 = .ok (.istore_n 3, 1)) ∧ (decode cX11_desk 63 = .ok (.iload 4, 2)) ∧ (decode cX11_desk 65 = .ok (.istore_n 2, 1)) ∧ (decode cX11_desk 57 = .ok (.goto 9, 3)) := by decide +kernel
theorem dX11_desk_39 : decode cX11_desk 39 = .ok (.if_icmp .ge 33, 3) := db289.1
theorem dX11_desk_72 : decode cX11_desk 72 = .ok (.iload_n 2, 1) := db289.2.1
theorem dX11_desk_73 : decode cX11_desk 73 = .ok (.ireturn, 1) := db289.2.2.1
theorem dX11_desk_42 : decode cX11_desk 42 = .ok (.aload_n 0, 1) := db289.2.2.2.1
theorem dX11_desk_43 : decode cX11_desk 43 = .ok (.iload 4, 2) := db289.2.2.2.2.1
theorem dX11_desk_45 : decode cX11_desk 45 = .ok (.iload_n 1, 1) := db289.2.2.2.2.2.1
theorem dX11_desk_46 : decode cX11_desk 46 = .ok (.invokevirtual 343, 3) := db289.2.2.2.2.2.2.1
theorem dX11_desk_49 : decode cX11_desk 49 = .ok (.istore 5, 2) := db289.2.2.2.2.2.2.2.1
theorem dX11_desk_51 : decode cX11_desk 51 = .ok (.iload 5, 2) := db289.2.2.2.2.2.2.2.2.1
theorem dX11_desk_53 : decode cX11_desk 53 = .ok (.iload_n 3, 1) := db289.2.2.2.2.2.2.2.2.2.1
theorem dX11_desk_66 : decode cX11_desk 66 = .ok (.iinc 4 1, 3) := db289.2.2.2.2.2.2.2.2.2.2.1
theorem dX11_desk_69 : decode cX11_desk 69 = .ok (.goto (-38), 3) := db289.2.2.2.2.2.2.2.2.2.2.2.1
theorem dX11_desk_54 : decode cX11_desk 54 = .ok (.if_icmp .gt 6, 3) := db289.2.2.2.2.2.2.2.2.2.2.2.2.1
theorem dX11_desk_60 : decode cX11_desk 60 = .ok (.iload 5, 2) := db289.2.2.2.2.2.2.2.2.2.2.2.2.2.1
theorem dX11_desk_62 : decode cX11_desk 62 = .ok (.istore_n 3, 1) := db289.2.2.2.2.2.2.2.2.2.2.2.2.2.2.1
theorem dX11_desk_63 : decode cX11_desk 63 = .ok (.iload 4, 2) := db289.2.2.2.2.2.2.2.2.2.2.2.2.2.2.2.1
theorem dX11_desk_65 : decode cX11_desk 65 = .ok (.istore_n 2, 1) := db289.2.2.2.2.2.2.2.2.2.2.2.2.2.2.2.2.1
theorem dX11_desk_57 : decode cX11_desk 57 = .ok (.goto 9, 3) := db289.2.2.2.2.2.2.2.2.2.2.2.2.2.2.2.2.2
theorem db290 : (decode cX11_disturbs 0 = .ok (.aload_n 0, 1)) ∧ (decode cX11_disturbs 1 = .ok (.iload_n 1, 1)) ∧ (decode cX11_disturbs 2 = .ok (.iconst 1, 1)) ∧ (decode cX11_disturbs 3 = .ok (.invokevirtual 303, 3)) ∧ (decode cX11_disturbs 6 = .ok (.istore_n 2, 1)) ∧ (decode cX11_disturbs 7 = .ok (.iload_n 2, 1)) ∧ (decode cX11_disturbs 8 = .ok (.ifCond .ge 5, 3)) ∧ (decode cX11_disturbs 13 = .ok (.iconst 0, 1)) ∧ (decode cX11_disturbs 14 = .ok (.istore_n 3, 1)) ∧ (decode cX11_disturbs 15 = .ok (.iconst 0, 1)) ∧ (decode cX11_disturbs 16 = .ok (.istore 4, 2)) ∧ (decode cX11_disturbs 18 = .ok (.iload 4, 2)) ∧ (decode cX11_disturbs 20 = .ok (.aload_n 0, 1)) ∧ (decode cX11_disturbs 21 = .ok (.getfield 61, 3)) ∧ (decode cX11_disturbs 24 = .ok (.iload_n 1, 1)) ∧ (decode cX11_disturbs 25 = .ok (.iaload, 1)) ∧ (decode cX11_disturbs 26 = .ok (.if_icmp .ge 39, 3)) ∧ (decode cX11_disturbs 65 = .ok (.iload_n 3, 1)) ∧ (decode cX11_disturbs 66 = .ok (.ireturn, 1)) ∧ (decode cX11_disturbs 29 = .ok (.iload_n 3, 1)) ∧ (decode cX11_disturbs 30 = .ok (.aload_n 0, 1)) ∧ (decode cX11_disturbs 31 = .ok (.iload_n 1, 1)) ∧ (decode cX11_disturbs 32 = .ok (.iload 4, 2)) ∧ (decode cX11_disturbs 34 = .ok (.invokevirtual 293, 3)) := by decide +kernel
theorem dX11_disturbs_0 : decode cX11_disturbs 0 = .ok (.aload_n 0, 1) := db290.1
theorem dX11_disturbs_1 : decode cX11_disturbs 1 = .ok (.iload_n 1, 1) := db290.2.1
theorem dX11_disturbs_2 : decode cX11_disturbs 2 = .ok (.iconst 1, 1) := db290.2.2.1
theorem dX11_disturbs_3 : decode cX11_disturbs 3 = .ok (.invokevirtual 303, 3) := db290.2.2.2.1
theorem dX11_disturbs_6 : decode cX11_disturbs 6 = .ok (.istore_n 2, 1) := db290.2.2.2.2.1
theorem dX11_disturbs_7 : decode cX11_disturbs 7 = .ok (.iload_n 2, 1) := db290.2.2.2.2.2.1
theorem dX11_disturbs_8 : decode cX11_disturbs 8 = .ok (.ifCond .ge 5, 3) := db290.2.2.2.2.2.2.1
theorem dX11_disturbs_13 : decode cX11_disturbs 13 = .ok (.iconst 0, 1) := db290.2.2.2.2.2.2.2.1
theorem dX11_disturbs_14 : decode cX11_disturbs 14 = .ok (.istore_n 3, 1) := db290.2.2.2.2.2.2.2.2.1
theorem dX11_disturbs_15 : decode cX11_disturbs 15 = .ok (.iconst 0, 1) := db290.2.2.2.2.2.2.2.2.2.1
theorem dX11_disturbs_16 : decode cX11_disturbs 16 = .ok (.istore 4, 2) := db290.2.2.2.2.2.2.2.2.2.2.1
theorem dX11_disturbs_18 : decode cX11_disturbs 18 = .ok (.iload 4, 2) := db290.2.2.2.2.2.2.2.2.2.2.2.1
theorem dX11_disturbs_20 : decode cX11_disturbs 20 = .ok (.aload_n 0, 1) := db290.2.2.2.2.2.2.2.2.2.2.2.2.1
theorem dX11_disturbs_21 : decode cX11_disturbs 21 = .ok (.getfield 61, 3) := db290.2.2.2.2.2.2.2.2.2.2.2.2.2.1
theorem dX11_disturbs_24 : decode cX11_disturbs 24 = .ok (.iload_n 1, 1) := db290.2.2.2.2.2.2.2.2.2.2.2.2.2.2.1
theorem dX11_disturbs_25 : decode cX11_disturbs 25 = .ok (.iaload, 1) := db290.2.2.2.2.2.2.2.2.2.2.2.2.2.2.2.1
theorem dX11_disturbs_26 : decode cX11_disturbs 26 = .ok (.if_icmp .ge 39, 3) := db290.2.2.2.2.2.2.2.2.2.2.2.2.2.2.2.2.1
theorem dX11_disturbs_65 : decode cX11_disturbs 65 = .ok (.iload_n 3, 1) := db290.2.2.2.2.2.2.2.2.2.2.2.2.2.2.2.2.2.1
theorem dX11_disturbs_66 : decode cX11_disturbs 66 = .ok (.ireturn, 1) := db290.2.2.2.2.2.2.2.2.2.2.2.2.2.2.2.2.2.2.1
theorem dX11_disturbs_29 : decode cX11_disturbs 29 = .ok (.iload_n 3, 1) := db290.2.2.2.2.2.2.2.2.2.2.2.2.2.2.2.2.2.2.2.1
theorem dX11_disturbs_30 : decode cX11_disturbs 30 = .ok (.aload_n 0, 1) := db290.2.2.2.2.2.2.2.2.2.2.2.2.2.2.2.2.2.2.2.2.1
theorem dX11_disturbs_31 : decode cX11_disturbs 31 = .ok (.iload_n 1, 1) := db290.2.2.2.2.2.2.2.2.2.2.2.2.2.2.2.2.2.2.2.2.2.1
theorem dX11_disturbs_32 : decode cX11_disturbs 32 = .ok (.iload 4, 2) := db290.2.2.2.2.2.2.2.2.2.2.2.2.2.2.2.2.2.2.2.2.2.2.1
theorem dX11_disturbs_34 : decode cX11_disturbs 34 = .ok (.invokevirtual 293, 3) := db290.2.2.2.2.2.2.2.2.2.2.2.2.2.2.2.2.2.2.2.2.2.2.2
theorem db291 : (decode cX11_disturbs 37 = .ok (.iconst (-1), 1)) ∧ (decode cX11_disturbs 57 = .ok (.iadd, 1)) ∧ (decode cX11_disturbs 58 = .ok (.istore_n 3, 1)) ∧ (decode cX11_disturbs 59 = .ok (.iinc 4 1, 3)) ∧ (decode cX11_disturbs 62 = .ok (.goto (-44), 3)) ∧ (decode cX11_disturbs 38 = .ok (.if_icmp .ne 7, 3)) ∧ (decode cX11_disturbs 45 = .ok (.aload_n 0, 1)) ∧ (decode cX11_disturbs 46 = .ok (.aload_n 0, 1)) ∧ (decode cX11_disturbs 47 = .ok (.iload_n 1, 1)) ∧ (decode cX11_disturbs 48 = .ok (.iload 4, 2)) ∧ (decode cX11_disturbs 50 = .ok (.invokevirtual 293, 3)) ∧ (decode cX11_disturbs 53 = .ok (.iconst 0, 1)) ∧ (decode cX11_disturbs 54 = .ok (.invokevirtual 227, 3)) ∧ (decode cX11_disturbs 41 = .ok (.iconst 0, 1)) ∧ (decode cX11_disturbs 42 = .ok (.goto 15, 3)) ∧ (decode cX11_disturbs 11 = .ok (.iload_n 2, 1)) ∧ (decode cX11_disturbs 12 = .ok (.ireturn, 1)) := by decide +kernel
theorem dX11_disturbs_37 : decode cX11_disturbs 37 = .ok (.iconst (-1), 1) := db291.1
theorem dX11_disturbs_57 : decode cX11_disturbs 57 = .ok (.iadd, 1) := db291.2.1
theorem dX11_disturbs_58 : decode cX11_disturbs 58 = .ok (.istore_n 3, 1) := db291.2.2.1
theorem dX11_disturbs_59 : decode cX11_disturbs 59 = .ok (.iinc 4 1, 3) := db291.2.2.2.1
theorem dX11_disturbs_62 : decode cX11_disturbs 62 = .ok (.goto (-44), 3) := db291.2.2.2.2.1
theorem dX11_disturbs_38 : decode cX11_disturbs 38 = .ok (.if_icmp .ne 7, 3) := db291.2.2.2.2.2.1
theorem dX11_disturbs_45 : decode cX11_disturbs 45 = .ok (.aload_n 0, 1) := db291.2.2.2.2.2.2.1
theorem dX11_disturbs_46 : decode cX11_disturbs 46 = .ok (.aload_n 0, 1) := db291.2.2.2.2.2.2.2.1
theorem dX11_disturbs_47 : decode cX11_disturbs 47 = .ok (.iload_n 1, 1) := db291.2.2.2.2.2.2.2.2.1
theorem dX11_disturbs_48 : decode cX11_disturbs 48 = .ok (.iload 4, 2) := db291.2.2.2.2.2.2.2.2.2.1
theorem dX11_disturbs_50 : decode cX11_disturbs 50 = .ok (.invokevirtual 293, 3) := db291.2.2.2.2.2.2.2.2.2.2.1
theorem dX11_disturbs_53 : decode cX11_disturbs 53 = .ok (.iconst 0, 1) := db291.2.2.2.2.2.2.2.2.2.2.2.1
theorem dX11_disturbs_54 : decode cX11_disturbs 54 = .ok (.invokevirtual 227, 3) := db291.2.2.2.2.2.2.2.2.2.2.2.2.1
theorem dX11_disturbs_41 : decode cX11_disturbs 41 = .ok (.iconst 0, 1) := db291.2.2.2.2.2.2.2.2.2.2.2.2.2.1
theorem dX11_disturbs_42 : decode cX11_disturbs 42 = .ok (.goto 15, 3) := db291.2.2.2.2.2.2.2.2.2.2.2.2.2.2.1
theorem dX11_disturbs_11 : decode cX11_disturbs 11 = .ok (.iload_n 2, 1) := db291.2.2.2.2.2.2.2.2.2.2.2.2.2.2.2.1
theorem dX11_disturbs_12 : decode cX11_disturbs 12 = .ok (.ireturn, 1) := db291.2.2.2.2.2.2.2.2.2.2.2.2.2.2.2.2
theorem db292 : (decode cX11_divisor 0 = .ok (.lload_n 0, 1)) ∧ (decode cX11_divisor 1 = .ok (.lstore 4, 2)) ∧ (decode cX11_divisor 3 = .ok (.lload_n 2, 1)) ∧ (decode cX11_divisor 4 = .ok (.lstore 6, 2)) ∧ (decode cX11_divisor 6 = .ok (.lload 6, 2)) ∧ (decode cX11_divisor 8 = .ok (.lconst 0, 1)) ∧ (decode cX11_divisor 9 = .ok (.lcmp, 1)) ∧ (decode cX11_divisor 10 = .ok (.ifCond .eq 21, 3)) ∧ (decode cX11_divisor 31 = .ok (.lload 4, 2)) ∧ (decode cX11_divisor 33 = .ok (.lreturn, 1)) ∧ (decode cX11_divisor 13 = .ok (.lload 4, 2)) ∧ (decode cX11_divisor 15 = .ok (.lload 6, 2)) ∧ (decode cX11_divisor 17 = .ok (.lrem, 1)) ∧ (decode cX11_divisor 18 = .ok (.lstore 8, 2)) ∧ (decode cX11_divisor 20 = .ok (.lload 6, 2)) ∧ (decode cX11_divisor 22 = .ok (.lstore 4, 2)) ∧ (decode cX11_divisor 24 = .ok (.lload 8, 2)) ∧ (decode cX11_divisor 26 = .ok (.lstore 6, 2)) ∧ (decode cX11_divisor 28 = .ok (.goto (-22), 3)) := by decide +kernel
theorem dX11_divisor_0 : decode cX11_divisor 0 = .ok (.lload_n 0, 1) := db292.1
theorem dX11_divisor_1 : decode cX11_divisor 1 = .ok (.lstore 4, 2) := db292.2.1
theorem dX11_divisor_3 : decode cX11_divisor 3 = .ok (.lload_n 2, 1) := db292.2.2.1
theorem dX11_divisor_4 : decode cX11_divisor 4 = .ok (.lstore 6, 2) := db292.2.2.2.1
theorem dX11_divisor_6 : decode cX11_divisor 6 = .ok (.lload 6, 2) := db292.2.2.2.2.1
theorem dX11_divisor_8 : decode cX11_divisor 8 = .ok (.lconst 0, 1) := db292.2.2.2.2.2.1
theorem dX11_divisor_9 : decode cX11_divisor 9 = .ok (.lcmp, 1) := db292.2.2.2.2.2.2.1
theorem dX11_divisor_10 : decode cX11_divisor 10 = .ok (.ifCond .eq 21, 3) := db292.2.2.2.2.2.2.2.1
theorem dX11_divisor_31 : decode cX11_divisor 31 = .ok (.lload 4, 2) := db292.2.2.2.2.2.2.2.2.1
theorem dX11_divisor_33 : decode cX11_divisor 33 = .ok (.lreturn, 1) := db292.2.2.2.2.2.2.2.2.2.1
theorem dX11_divisor_13 : decode cX11_divisor 13 = .ok (.lload 4, 2) := db292.2.2.2.2.2.2.2.2.2.2.1
theorem dX11_divisor_15 : decode cX11_divisor 15 = .ok (.lload 6, 2) := db292.2.2.2.2.2.2.2.2.2.2.2.1
theorem dX11_divisor_17 : decode cX11_divisor 17 = .ok (.lrem, 1) := db292.2.2.2.2.2.2.2.2.2.2.2.2.1
theorem dX11_divisor_18 : decode cX11_divisor 18 = .ok (.lstore 8, 2) := db292.2.2.2.2.2.2.2.2.2.2.2.2.2.1
theorem dX11_divisor_20 : decode cX11_divisor 20 = .ok (.lload 6, 2) := db292.2.2.2.2.2.2.2.2.2.2.2.2.2.2.1
theorem dX11_divisor_22 : decode cX11_divisor 22 = .ok (.lstore 4, 2) := db292.2.2.2.2.2.2.2.2.2.2.2.2.2.2.2.1
theorem dX11_divisor_24 : decode cX11_divisor 24 = .ok (.lload 8, 2) := db292.2.2.2.2.2.2.2.2.2.2.2.2.2.2.2.2.1
theorem dX11_divisor_26 : decode cX11_divisor 26 = .ok (.lstore 6, 2) := db292.2.2.2.2.2.2.2.2.2.2.2.2.2.2.2.2.2.1
theorem dX11_divisor_28 : decode cX11_divisor 28 = .ok (.goto (-22), 3) := db292.2.2.2.2.2.2.2.2.2.2.2.2.2.2.2.2.2.2
theorem db293 : (decode cX11_door 0 = .ok (.bipush 8, 2)) ∧ (decode cX11_door 2 = .ok (.iconst 4, 1)) ∧ (decode cX11_door 3 = .ok (.iload_n 1, 1)) ∧ (decode cX11_door 4 = .ok (.imul, 1)) ∧ (decode cX11_door 5 = .ok (.iadd, 1)) ∧ (decode cX11_door 6 = .ok (.iconst 3, 1)) ∧ (decode cX11_door 7 = .ok (.iadd, 1)) ∧ (decode cX11_door 8 = .ok (.istore 4, 2)) ∧ (decode cX11_door 10 = .ok (.aload_n 0, 1)) ∧ (decode cX11_door 11 = .ok (.getfield 9, 3)) ∧ (decode cX11_door 14 = .ok (.iload 4, 2)) ∧ (decode cX11_door 16 = .ok (.aload_n 0, 1)) ∧ (decode cX11_door 17 = .ok (.getfield 9, 3)) ∧ (decode cX11_door 20 = .ok (.iload 4, 2)) ∧ (decode cX11_door 22 = .ok (.iaload, 1)) ∧ (decode cX11_door 23 = .ok (.iconst 1, 1)) ∧ (decode cX11_door 24 = .ok (.iload_n 2, 1)) ∧ (decode cX11_door 25 = .ok (.ishl, 1)) ∧ (decode cX11_door 26 = .ok (.iconst (-1), 1)) ∧ (decode cX11_door 27 = .ok (.ixor, 1)) ∧ (decode cX11_door 28 = .ok (.iand, 1)) ∧ (decode cX11_door 29 = .ok (.iload_n 3, 1)) ∧ (decode cX11_door 30 = .ok (.iload_n 2, 1)) ∧ (decode cX11_door 31 = .ok (.ishl, 1)) := by decide +kernel
theorem dX11_door_0 : decode cX11_door 0 = .ok (.bipush 8, 2) := db293.1
theorem dX11_door_2 : decode cX11_door 2 = .ok (.iconst 4, 1) := db293.2.1
theorem dX11_door_3 : decode cX11_door 3 = .ok (.iload_n 1, 1) := db293.2.2.1
theorem dX11_door_4 : decode cX11_door 4 = .ok (.imul, 1) := db293.2.2.2.1
theorem dX11_door_5 : decode cX11_door 5 = .ok (.iadd, 1) := db293.2.2.2.2.1
theorem dX11_door_6 : decode cX11_door 6 = .ok (.iconst 3, 1) := db293.2.2.2.2.2.1
theorem dX11_door_7 : decode cX11_door 7 = .ok (.iadd, 1) := db293.2.2.2.2.2.2.1
theorem dX11_door_8 : decode cX11_door 8 = .ok (.istore 4, 2) := db293.2.2.2.2.2.2.2.1
theorem dX11_door_10 : decode cX11_door 10 = .ok (.aload_n 0, 1) := db293.2.2.2.2.2.2.2.2.1
theorem dX11_door_11 : decode cX11_door 11 = .ok (.getfield 9, 3) := db293.2.2.2.2.2.2.2.2.2.1
theorem dX11_door_14 : decode cX11_door 14 = .ok (.iload 4, 2) := db293.2.2.2.2.2.2.2.2.2.2.1
theorem dX11_door_16 : decode cX11_door 16 = .ok (.aload_n 0, 1) := db293.2.2.2.2.2.2.2.2.2.2.2.1
theorem dX11_door_17 : decode cX11_door 17 = .ok (.getfield 9, 3) := db293.2.2.2.2.2.2.2.2.2.2.2.2.1
theorem dX11_door_20 : decode cX11_door 20 = .ok (.iload 4, 2) := db293.2.2.2.2.2.2.2.2.2.2.2.2.2.1
theorem dX11_door_22 : decode cX11_door 22 = .ok (.iaload, 1) := db293.2.2.2.2.2.2.2.2.2.2.2.2.2.2.1
theorem dX11_door_23 : decode cX11_door 23 = .ok (.iconst 1, 1) := db293.2.2.2.2.2.2.2.2.2.2.2.2.2.2.2.1
theorem dX11_door_24 : decode cX11_door 24 = .ok (.iload_n 2, 1) := db293.2.2.2.2.2.2.2.2.2.2.2.2.2.2.2.2.1
theorem dX11_door_25 : decode cX11_door 25 = .ok (.ishl, 1) := db293.2.2.2.2.2.2.2.2.2.2.2.2.2.2.2.2.2.1
theorem dX11_door_26 : decode cX11_door 26 = .ok (.iconst (-1), 1) := db293.2.2.2.2.2.2.2.2.2.2.2.2.2.2.2.2.2.2.1
theorem dX11_door_27 : decode cX11_door 27 = .ok (.ixor, 1) := db293.2.2.2.2.2.2.2.2.2.2.2.2.2.2.2.2.2.2.2.1
theorem dX11_door_28 : decode cX11_door 28 = .ok (.iand, 1) := db293.2.2.2.2.2.2.2.2.2.2.2.2.2.2.2.2.2.2.2.2.1
theorem dX11_door_29 : decode cX11_door 29 = .ok (.iload_n 3, 1) := db293.2.2.2.2.2.2.2.2.2.2.2.2.2.2.2.2.2.2.2.2.2.1
theorem dX11_door_30 : decode cX11_door 30 = .ok (.iload_n 2, 1) := db293.2.2.2.2.2.2.2.2.2.2.2.2.2.2.2.2.2.2.2.2.2.2.1
theorem dX11_door_31 : decode cX11_door 31 = .ok (.ishl, 1) := db293.2.2.2.2.2.2.2.2.2.2.2.2.2.2.2.2.2.2.2.2.2.2.2
theorem db294 : (decode cX11_door 32 = .ok (.ior, 1)) ∧ (decode cX11_door 33 = .ok (.iastore, 1)) ∧ (decode cX11_door 34 = .ok (.return_, 1)) := by decide +kernel
theorem dX11_door_32 : decode cX11_door 32 = .ok (.ior, 1) := db294.1
theorem dX11_door_33 : decode cX11_door 33 = .ok (.iastore, 1) := db294.2.1
theorem dX11_door_34 : decode cX11_door 34 = .ok (.return_, 1) := db294.2.2
theorem db295 : (decode cX11_doorFrom 0 = .ok (.iload_n 2, 1)) ∧ (decode cX11_doorFrom 1 = .ok (.istore_n 3, 1)) ∧ (decode cX11_doorFrom 2 = .ok (.iconst 0, 1)) ∧ (decode cX11_doorFrom 3 = .ok (.istore 4, 2)) ∧ (decode cX11_doorFrom 5 = .ok (.iload 4, 2)) ∧ (decode cX11_doorFrom 7 = .ok (.aload_n 0, 1)) ∧ (decode cX11_doorFrom 8 = .ok (.getfield 9, 3)) ∧ (decode cX11_doorFrom 11 = .ok (.iconst 4, 1)) ∧ (decode cX11_doorFrom 12 = .ok (.iaload, 1)) ∧ (decode cX11_doorFrom 13 = .ok (.if_icmp .ge 36, 3)) ∧ (decode cX11_doorFrom 49 = .ok (.iconst (-1), 1)) ∧ (decode cX11_doorFrom 50 = .ok (.ireturn, 1)) ∧ (decode cX11_doorFrom 16 = .ok (.aload_n 0, 1)) ∧ (decode cX11_doorFrom 17 = .ok (.iload_n 1, 1)) ∧ (decode cX11_doorFrom 18 = .ok (.iconst 3, 1)) ∧ (decode cX11_doorFrom 19 = .ok (.invokevirtual 227, 3)) ∧ (decode cX11_doorFrom 22 = .ok (.iload 4, 2)) ∧ (decode cX11_doorFrom 24 = .ok (.invokestatic 258, 3)) ∧ (decode cX11_doorFrom 43 = .ok (.iinc 4 1, 3)) ∧ (decode cX11_doorFrom 46 = .ok (.goto (-41), 3)) ∧ (decode cX11_doorFrom 27 = .ok (.ifCond .ne 6, 3)) ∧ (decode cX11_doorFrom 33 = .ok (.iload_n 3, 1)) ∧ (decode cX11_doorFrom 34 = .ok (.ifCond .ne 6, 3)) ∧ (decode cX11_doorFrom 40 = .ok (.iinc 3 (-1), 3)) := by decide +kernel
theorem dX11_doorFrom_0 : decode cX11_doorFrom 0 = .ok (.iload_n 2, 1) := db295.1
theorem dX11_doorFrom_1 : decode cX11_doorFrom 1 = .ok (.istore_n 3, 1) := db295.2.1
theorem dX11_doorFrom_2 : decode cX11_doorFrom 2 = .ok (.iconst 0, 1) := db295.2.2.1
theorem dX11_doorFrom_3 : decode cX11_doorFrom 3 = .ok (.istore 4, 2) := db295.2.2.2.1
theorem dX11_doorFrom_5 : decode cX11_doorFrom 5 = .ok (.iload 4, 2) := db295.2.2.2.2.1
theorem dX11_doorFrom_7 : decode cX11_doorFrom 7 = .ok (.aload_n 0, 1) := db295.2.2.2.2.2.1
theorem dX11_doorFrom_8 : decode cX11_doorFrom 8 = .ok (.getfield 9, 3) := db295.2.2.2.2.2.2.1
theorem dX11_doorFrom_11 : decode cX11_doorFrom 11 = .ok (.iconst 4, 1) := db295.2.2.2.2.2.2.2.1
theorem dX11_doorFrom_12 : decode cX11_doorFrom 12 = .ok (.iaload, 1) := db295.2.2.2.2.2.2.2.2.1
theorem dX11_doorFrom_13 : decode cX11_doorFrom 13 = .ok (.if_icmp .ge 36, 3) := db295.2.2.2.2.2.2.2.2.2.1
theorem dX11_doorFrom_49 : decode cX11_doorFrom 49 = .ok (.iconst (-1), 1) := db295.2.2.2.2.2.2.2.2.2.2.1
theorem dX11_doorFrom_50 : decode cX11_doorFrom 50 = .ok (.ireturn, 1) := db295.2.2.2.2.2.2.2.2.2.2.2.1
theorem dX11_doorFrom_16 : decode cX11_doorFrom 16 = .ok (.aload_n 0, 1) := db295.2.2.2.2.2.2.2.2.2.2.2.2.1
theorem dX11_doorFrom_17 : decode cX11_doorFrom 17 = .ok (.iload_n 1, 1) := db295.2.2.2.2.2.2.2.2.2.2.2.2.2.1
theorem dX11_doorFrom_18 : decode cX11_doorFrom 18 = .ok (.iconst 3, 1) := db295.2.2.2.2.2.2.2.2.2.2.2.2.2.2.1
theorem dX11_doorFrom_19 : decode cX11_doorFrom 19 = .ok (.invokevirtual 227, 3) := db295.2.2.2.2.2.2.2.2.2.2.2.2.2.2.2.1
theorem dX11_doorFrom_22 : decode cX11_doorFrom 22 = .ok (.iload 4, 2) := db295.2.2.2.2.2.2.2.2.2.2.2.2.2.2.2.2.1
theorem dX11_doorFrom_24 : decode cX11_doorFrom 24 = .ok (.invokestatic 258, 3) := db295.2.2.2.2.2.2.2.2.2.2.2.2.2.2.2.2.2.1
theorem dX11_doorFrom_43 : decode cX11_doorFrom 43 = .ok (.iinc 4 1, 3) := db295.2.2.2.2.2.2.2.2.2.2.2.2.2.2.2.2.2.2.1
theorem dX11_doorFrom_46 : decode cX11_doorFrom 46 = .ok (.goto (-41), 3) := db295.2.2.2.2.2.2.2.2.2.2.2.2.2.2.2.2.2.2.2.1
theorem dX11_doorFrom_27 : decode cX11_doorFrom 27 = .ok (.ifCond .ne 6, 3) := db295.2.2.2.2.2.2.2.2.2.2.2.2.2.2.2.2.2.2.2.2.1
theorem dX11_doorFrom_33 : decode cX11_doorFrom 33 = .ok (.iload_n 3, 1) := db295.2.2.2.2.2.2.2.2.2.2.2.2.2.2.2.2.2.2.2.2.2.1
theorem dX11_doorFrom_34 : decode cX11_doorFrom 34 = .ok (.ifCond .ne 6, 3) := db295.2.2.2.2.2.2.2.2.2.2.2.2.2.2.2.2.2.2.2.2.2.2.1
theorem dX11_doorFrom_40 : decode cX11_doorFrom 40 = .ok (.iinc 3 (-1), 3) := db295.2.2.2.2.2.2.2.2.2.2.2.2.2.2.2.2.2.2.2.2.2.2.2
theorem db296 : (decode cX11_doorFrom 37 = .ok (.iload 4, 2)) ∧ (decode cX11_doorFrom 39 = .ok (.ireturn, 1)) ∧ (decode cX11_doorFrom 30 = .ok (.goto 13, 3)) := by decide +kernel
theorem dX11_doorFrom_37 : decode cX11_doorFrom 37 = .ok (.iload 4, 2) := db296.1
theorem dX11_doorFrom_39 : decode cX11_doorFrom 39 = .ok (.ireturn, 1) := db296.2.1
theorem dX11_doorFrom_30 : decode cX11_doorFrom 30 = .ok (.goto 13, 3) := db296.2.2
theorem db297 : (decode cX11_doubt 0 = .ok (.aload_n 0, 1)) ∧ (decode cX11_doubt 1 = .ok (.iload_n 1, 1)) ∧ (decode cX11_doubt 2 = .ok (.iload_n 2, 1)) ∧ (decode cX11_doubt 3 = .ok (.i2l, 1)) ∧ (decode cX11_doubt 4 = .ok (.lconst 0, 1)) ∧ (decode cX11_doubt 5 = .ok (.ldc2_w 273, 3)) ∧ (decode cX11_doubt 8 = .ok (.invokestatic 79, 3)) ∧ (decode cX11_doubt 11 = .ok (.invokevirtual 303, 3)) ∧ (decode cX11_doubt 14 = .ok (.istore_n 3, 1)) ∧ (decode cX11_doubt 15 = .ok (.iload_n 3, 1)) ∧ (decode cX11_doubt 16 = .ok (.ifCond .ge 5, 3)) ∧ (decode cX11_doubt 21 = .ok (.aload_n 0, 1)) ∧ (decode cX11_doubt 22 = .ok (.invokevirtual 278, 3)) ∧ (decode cX11_doubt 25 = .ok (.iconst 0, 1)) ∧ (decode cX11_doubt 26 = .ok (.istore 4, 2)) ∧ (decode cX11_doubt 28 = .ok (.iload 4, 2)) ∧ (decode cX11_doubt 30 = .ok (.aload_n 0, 1)) ∧ (decode cX11_doubt 31 = .ok (.getfield 61, 3)) ∧ (decode cX11_doubt 34 = .ok (.iload_n 1, 1)) ∧ (decode cX11_doubt 35 = .ok (.iaload, 1)) ∧ (decode cX11_doubt 36 = .ok (.if_icmp .ge 42, 3)) ∧ (decode cX11_doubt 78 = .ok (.iconst (-1), 1)) ∧ (decode cX11_doubt 79 = .ok (.ireturn, 1)) ∧ (decode cX11_doubt 39 = .ok (.aload_n 0, 1)) := by decide +kernel
theorem dX11_doubt_0 : decode cX11_doubt 0 = .ok (.aload_n 0, 1) := db297.1
theorem dX11_doubt_1 : decode cX11_doubt 1 = .ok (.iload_n 1, 1) := db297.2.1
theorem dX11_doubt_2 : decode cX11_doubt 2 = .ok (.iload_n 2, 1) := db297.2.2.1
theorem dX11_doubt_3 : decode cX11_doubt 3 = .ok (.i2l, 1) := db297.2.2.2.1
theorem dX11_doubt_4 : decode cX11_doubt 4 = .ok (.lconst 0, 1) := db297.2.2.2.2.1
theorem dX11_doubt_5 : decode cX11_doubt 5 = .ok (.ldc2_w 273, 3) := db297.2.2.2.2.2.1
theorem dX11_doubt_8 : decode cX11_doubt 8 = .ok (.invokestatic 79, 3) := db297.2.2.2.2.2.2.1
theorem dX11_doubt_11 : decode cX11_doubt 11 = .ok (.invokevirtual 303, 3) := db297.2.2.2.2.2.2.2.1
theorem dX11_doubt_14 : decode cX11_doubt 14 = .ok (.istore_n 3, 1) := db297.2.2.2.2.2.2.2.2.1
theorem dX11_doubt_15 : decode cX11_doubt 15 = .ok (.iload_n 3, 1) := db297.2.2.2.2.2.2.2.2.2.1
theorem dX11_doubt_16 : decode cX11_doubt 16 = .ok (.ifCond .ge 5, 3) := db297.2.2.2.2.2.2.2.2.2.2.1
theorem dX11_doubt_21 : decode cX11_doubt 21 = .ok (.aload_n 0, 1) := db297.2.2.2.2.2.2.2.2.2.2.2.1
theorem dX11_doubt_22 : decode cX11_doubt 22 = .ok (.invokevirtual 278, 3) := db297.2.2.2.2.2.2.2.2.2.2.2.2.1
theorem dX11_doubt_25 : decode cX11_doubt 25 = .ok (.iconst 0, 1) := db297.2.2.2.2.2.2.2.2.2.2.2.2.2.1
theorem dX11_doubt_26 : decode cX11_doubt 26 = .ok (.istore 4, 2) := db297.2.2.2.2.2.2.2.2.2.2.2.2.2.2.1
theorem dX11_doubt_28 : decode cX11_doubt 28 = .ok (.iload 4, 2) := db297.2.2.2.2.2.2.2.2.2.2.2.2.2.2.2.1
theorem dX11_doubt_30 : decode cX11_doubt 30 = .ok (.aload_n 0, 1) := db297.2.2.2.2.2.2.2.2.2.2.2.2.2.2.2.2.1
theorem dX11_doubt_31 : decode cX11_doubt 31 = .ok (.getfield 61, 3) := db297.2.2.2.2.2.2.2.2.2.2.2.2.2.2.2.2.2.1
theorem dX11_doubt_34 : decode cX11_doubt 34 = .ok (.iload_n 1, 1) := db297.2.2.2.2.2.2.2.2.2.2.2.2.2.2.2.2.2.2.1
theorem dX11_doubt_35 : decode cX11_doubt 35 = .ok (.iaload, 1) := db297.2.2.2.2.2.2.2.2.2.2.2.2.2.2.2.2.2.2.2.1
theorem dX11_doubt_36 : decode cX11_doubt 36 = .ok (.if_icmp .ge 42, 3) := db297.2.2.2.2.2.2.2.2.2.2.2.2.2.2.2.2.2.2.2.2.1
theorem dX11_doubt_78 : decode cX11_doubt 78 = .ok (.iconst (-1), 1) := db297.2.2.2.2.2.2.2.2.2.2.2.2.2.2.2.2.2.2.2.2.2.1
theorem dX11_doubt_79 : decode cX11_doubt 79 = .ok (.ireturn, 1) := db297.2.2.2.2.2.2.2.2.2.2.2.2.2.2.2.2.2.2.2.2.2.2.1
theorem dX11_doubt_39 : decode cX11_doubt 39 = .ok (.aload_n 0, 1) := db297.2.2.2.2.2.2.2.2.2.2.2.2.2.2.2.2.2.2.2.2.2.2.2
theorem db298 : (decode cX11_doubt 40 = .ok (.aload_n 0, 1)) ∧ (decode cX11_doubt 41 = .ok (.invokevirtual 270, 3)) ∧ (decode cX11_doubt 44 = .ok (.invokevirtual 281, 3)) ∧ (decode cX11_doubt 47 = .ok (.iload_n 2, 1)) ∧ (decode cX11_doubt 48 = .ok (.if_icmp .ge 6, 3)) ∧ (decode cX11_doubt 54 = .ok (.aload_n 0, 1)) ∧ (decode cX11_doubt 55 = .ok (.aload_n 0, 1)) ∧ (decode cX11_doubt 56 = .ok (.iload_n 1, 1)) ∧ (decode cX11_doubt 57 = .ok (.iload 4, 2)) ∧ (decode cX11_doubt 59 = .ok (.invokevirtual 293, 3)) ∧ (decode cX11_doubt 62 = .ok (.iconst 0, 1)) ∧ (decode cX11_doubt 63 = .ok (.invokevirtual 264, 3)) ∧ (decode cX11_doubt 66 = .ok (.pop, 1)) ∧ (decode cX11_doubt 67 = .ok (.aload_n 0, 1)) ∧ (decode cX11_doubt 68 = .ok (.iconst (-1), 1)) ∧ (decode cX11_doubt 69 = .ok (.invokevirtual 267, 3)) ∧ (decode cX11_doubt 72 = .ok (.iinc 4 1, 3)) ∧ (decode cX11_doubt 75 = .ok (.goto (-47), 3)) ∧ (decode cX11_doubt 51 = .ok (.iload 4, 2)) ∧ (decode cX11_doubt 53 = .ok (.ireturn, 1)) ∧ (decode cX11_doubt 19 = .ok (.iload_n 3, 1)) ∧ (decode cX11_doubt 20 = .ok (.ireturn, 1)) := by decide +kernel
theorem dX11_doubt_40 : decode cX11_doubt 40 = .ok (.aload_n 0, 1) := db298.1
theorem dX11_doubt_41 : decode cX11_doubt 41 = .ok (.invokevirtual 270, 3) := db298.2.1
theorem dX11_doubt_44 : decode cX11_doubt 44 = .ok (.invokevirtual 281, 3) := db298.2.2.1
theorem dX11_doubt_47 : decode cX11_doubt 47 = .ok (.iload_n 2, 1) := db298.2.2.2.1
theorem dX11_doubt_48 : decode cX11_doubt 48 = .ok (.if_icmp .ge 6, 3) := db298.2.2.2.2.1
theorem dX11_doubt_54 : decode cX11_doubt 54 = .ok (.aload_n 0, 1) := db298.2.2.2.2.2.1
theorem dX11_doubt_55 : decode cX11_doubt 55 = .ok (.aload_n 0, 1) := db298.2.2.2.2.2.2.1
theorem dX11_doubt_56 : decode cX11_doubt 56 = .ok (.iload_n 1, 1) := db298.2.2.2.2.2.2.2.1
theorem dX11_doubt_57 : decode cX11_doubt 57 = .ok (.iload 4, 2) := db298.2.2.2.2.2.2.2.2.1
theorem dX11_doubt_59 : decode cX11_doubt 59 = .ok (.invokevirtual 293, 3) := db298.2.2.2.2.2.2.2.2.2.1
theorem dX11_doubt_62 : decode cX11_doubt 62 = .ok (.iconst 0, 1) := db298.2.2.2.2.2.2.2.2.2.2.1
theorem dX11_doubt_63 : decode cX11_doubt 63 = .ok (.invokevirtual 264, 3) := db298.2.2.2.2.2.2.2.2.2.2.2.1
theorem dX11_doubt_66 : decode cX11_doubt 66 = .ok (.pop, 1) := db298.2.2.2.2.2.2.2.2.2.2.2.2.1
theorem dX11_doubt_67 : decode cX11_doubt 67 = .ok (.aload_n 0, 1) := db298.2.2.2.2.2.2.2.2.2.2.2.2.2.1
theorem dX11_doubt_68 : decode cX11_doubt 68 = .ok (.iconst (-1), 1) := db298.2.2.2.2.2.2.2.2.2.2.2.2.2.2.1
theorem dX11_doubt_69 : decode cX11_doubt 69 = .ok (.invokevirtual 267, 3) := db298.2.2.2.2.2.2.2.2.2.2.2.2.2.2.2.1
theorem dX11_doubt_72 : decode cX11_doubt 72 = .ok (.iinc 4 1, 3) := db298.2.2.2.2.2.2.2.2.2.2.2.2.2.2.2.2.1
theorem dX11_doubt_75 : decode cX11_doubt 75 = .ok (.goto (-47), 3) := db298.2.2.2.2.2.2.2.2.2.2.2.2.2.2.2.2.2.1
theorem dX11_doubt_51 : decode cX11_doubt 51 = .ok (.iload 4, 2) := db298.2.2.2.2.2.2.2.2.2.2.2.2.2.2.2.2.2.2.1
theorem dX11_doubt_53 : decode cX11_doubt 53 = .ok (.ireturn, 1) := db298.2.2.2.2.2.2.2.2.2.2.2.2.2.2.2.2.2.2.2.1
theorem dX11_doubt_19 : decode cX11_doubt 19 = .ok (.iload_n 3, 1) := db298.2.2.2.2.2.2.2.2.2.2.2.2.2.2.2.2.2.2.2.2.1
theorem dX11_doubt_20 : decode cX11_doubt 20 = .ok (.ireturn, 1) := db298.2.2.2.2.2.2.2.2.2.2.2.2.2.2.2.2.2.2.2.2.2
theorem db299 : (decode cX11_draw 0 = .ok (.aload_n 0, 1)) ∧ (decode cX11_draw 1 = .ok (.ldc2_w 412, 3)) ∧ (decode cX11_draw 4 = .ok (.aload_n 0, 1)) ∧ (decode cX11_draw 5 = .ok (.getfield 414, 3)) ∧ (decode cX11_draw 8 = .ok (.lmul, 1)) ∧ (decode cX11_draw 9 = .ok (.ldc2_w 418, 3)) ∧ (decode cX11_draw 12 = .ok (.ladd, 1)) ∧ (decode cX11_draw 13 = .ok (.ldc2_w 420, 3)) ∧ (decode cX11_draw 16 = .ok (.lrem, 1)) ∧ (decode cX11_draw 17 = .ok (.putfield 414, 3)) ∧ (decode cX11_draw 20 = .ok (.aload_n 0, 1)) ∧ (decode cX11_draw 21 = .ok (.getfield 414, 3)) ∧ (decode cX11_draw 24 = .ok (.ldc2_w 422, 3)) ∧ (decode cX11_draw 27 = .ok (.ldiv, 1)) ∧ (decode cX11_draw 28 = .ok (.iload_n 1, 1)) ∧ (decode cX11_draw 29 = .ok (.i2l, 1)) ∧ (decode cX11_draw 30 = .ok (.lrem, 1)) ∧ (decode cX11_draw 31 = .ok (.l2i, 1)) ∧ (decode cX11_draw 32 = .ok (.ireturn, 1)) := by decide +kernel
theorem dX11_draw_0 : decode cX11_draw 0 = .ok (.aload_n 0, 1) := db299.1
theorem dX11_draw_1 : decode cX11_draw 1 = .ok (.ldc2_w 412, 3) := db299.2.1
theorem dX11_draw_4 : decode cX11_draw 4 = .ok (.aload_n 0, 1) := db299.2.2.1
theorem dX11_draw_5 : decode cX11_draw 5 = .ok (.getfield 414, 3) := db299.2.2.2.1
theorem dX11_draw_8 : decode cX11_draw 8 = .ok (.lmul, 1) := db299.2.2.2.2.1
theorem dX11_draw_9 : decode cX11_draw 9 = .ok (.ldc2_w 418, 3) := db299.2.2.2.2.2.1
theorem dX11_draw_12 : decode cX11_draw 12 = .ok (.ladd, 1) := db299.2.2.2.2.2.2.1
theorem dX11_draw_13 : decode cX11_draw 13 = .ok (.ldc2_w 420, 3) := db299.2.2.2.2.2.2.2.1
theorem dX11_draw_16 : decode cX11_draw 16 = .ok (.lrem, 1) := db299.2.2.2.2.2.2.2.2.1
theorem dX11_draw_17 : decode cX11_draw 17 = .ok (.putfield 414, 3) := db299.2.2.2.2.2.2.2.2.2.1
theorem dX11_draw_20 : decode cX11_draw 20 = .ok (.aload_n 0, 1) := db299.2.2.2.2.2.2.2.2.2.2.1
theorem dX11_draw_21 : decode cX11_draw 21 = .ok (.getfield 414, 3) := db299.2.2.2.2.2.2.2.2.2.2.2.1
theorem dX11_draw_24 : decode cX11_draw 24 = .ok (.ldc2_w 422, 3) := db299.2.2.2.2.2.2.2.2.2.2.2.2.1
theorem dX11_draw_27 : decode cX11_draw 27 = .ok (.ldiv, 1) := db299.2.2.2.2.2.2.2.2.2.2.2.2.2.1
theorem dX11_draw_28 : decode cX11_draw 28 = .ok (.iload_n 1, 1) := db299.2.2.2.2.2.2.2.2.2.2.2.2.2.2.1
theorem dX11_draw_29 : decode cX11_draw 29 = .ok (.i2l, 1) := db299.2.2.2.2.2.2.2.2.2.2.2.2.2.2.2.1
theorem dX11_draw_30 : decode cX11_draw 30 = .ok (.lrem, 1) := db299.2.2.2.2.2.2.2.2.2.2.2.2.2.2.2.2.1
theorem dX11_draw_31 : decode cX11_draw 31 = .ok (.l2i, 1) := db299.2.2.2.2.2.2.2.2.2.2.2.2.2.2.2.2.2.1
theorem dX11_draw_32 : decode cX11_draw 32 = .ok (.ireturn, 1) := db299.2.2.2.2.2.2.2.2.2.2.2.2.2.2.2.2.2.2
theorem db300 : (decode cX11_drawn 0 = .ok (.aload_n 0, 1)) ∧ (decode cX11_drawn 1 = .ok (.iload_n 2, 1)) ∧ (decode cX11_drawn 2 = .ok (.iload_n 1, 1)) ∧ (decode cX11_drawn 3 = .ok (.invokestatic 441, 3)) ∧ (decode cX11_drawn 24 = .ok (.invokevirtual 303, 3)) ∧ (decode cX11_drawn 27 = .ok (.istore 4, 2)) ∧ (decode cX11_drawn 29 = .ok (.iload 4, 2)) ∧ (decode cX11_drawn 31 = .ok (.ifCond .ge 6, 3)) ∧ (decode cX11_drawn 37 = .ok (.aload_n 0, 1)) ∧ (decode cX11_drawn 38 = .ok (.iload_n 1, 1)) ∧ (decode cX11_drawn 39 = .ok (.i2l, 1)) ∧ (decode cX11_drawn 40 = .ok (.iload_n 2, 1)) ∧ (decode cX11_drawn 41 = .ok (.invokevirtual 444, 3)) ∧ (decode cX11_drawn 44 = .ok (.iload_n 3, 1)) ∧ (decode cX11_drawn 45 = .ok (.ifCond .ne 10, 3)) ∧ (decode cX11_drawn 55 = .ok (.aload_n 0, 1)) ∧ (decode cX11_drawn 56 = .ok (.getfield 433, 3)) ∧ (decode cX11_drawn 59 = .ok (.ireturn, 1)) ∧ (decode cX11_drawn 48 = .ok (.aload_n 0, 1)) ∧ (decode cX11_drawn 49 = .ok (.getfield 427, 3)) ∧ (decode cX11_drawn 52 = .ok (.goto 7, 3)) ∧ (decode cX11_drawn 34 = .ok (.iload 4, 2)) ∧ (decode cX11_drawn 36 = .ok (.ireturn, 1)) ∧ (decode cX11_drawn 23 = .ok (.iconst 0, 1)) := by decide +kernel
theorem dX11_drawn_0 : decode cX11_drawn 0 = .ok (.aload_n 0, 1) := db300.1
theorem dX11_drawn_1 : decode cX11_drawn 1 = .ok (.iload_n 2, 1) := db300.2.1
theorem dX11_drawn_2 : decode cX11_drawn 2 = .ok (.iload_n 1, 1) := db300.2.2.1
theorem dX11_drawn_3 : decode cX11_drawn 3 = .ok (.invokestatic 441, 3) := db300.2.2.2.1
theorem dX11_drawn_24 : decode cX11_drawn 24 = .ok (.invokevirtual 303, 3) := db300.2.2.2.2.1
theorem dX11_drawn_27 : decode cX11_drawn 27 = .ok (.istore 4, 2) := db300.2.2.2.2.2.1
theorem dX11_drawn_29 : decode cX11_drawn 29 = .ok (.iload 4, 2) := db300.2.2.2.2.2.2.1
theorem dX11_drawn_31 : decode cX11_drawn 31 = .ok (.ifCond .ge 6, 3) := db300.2.2.2.2.2.2.2.1
theorem dX11_drawn_37 : decode cX11_drawn 37 = .ok (.aload_n 0, 1) := db300.2.2.2.2.2.2.2.2.1
theorem dX11_drawn_38 : decode cX11_drawn 38 = .ok (.iload_n 1, 1) := db300.2.2.2.2.2.2.2.2.2.1
theorem dX11_drawn_39 : decode cX11_drawn 39 = .ok (.i2l, 1) := db300.2.2.2.2.2.2.2.2.2.2.1
theorem dX11_drawn_40 : decode cX11_drawn 40 = .ok (.iload_n 2, 1) := db300.2.2.2.2.2.2.2.2.2.2.2.1
theorem dX11_drawn_41 : decode cX11_drawn 41 = .ok (.invokevirtual 444, 3) := db300.2.2.2.2.2.2.2.2.2.2.2.2.1
theorem dX11_drawn_44 : decode cX11_drawn 44 = .ok (.iload_n 3, 1) := db300.2.2.2.2.2.2.2.2.2.2.2.2.2.1
theorem dX11_drawn_45 : decode cX11_drawn 45 = .ok (.ifCond .ne 10, 3) := db300.2.2.2.2.2.2.2.2.2.2.2.2.2.2.1
theorem dX11_drawn_55 : decode cX11_drawn 55 = .ok (.aload_n 0, 1) := db300.2.2.2.2.2.2.2.2.2.2.2.2.2.2.2.1
theorem dX11_drawn_56 : decode cX11_drawn 56 = .ok (.getfield 433, 3) := db300.2.2.2.2.2.2.2.2.2.2.2.2.2.2.2.2.1
theorem dX11_drawn_59 : decode cX11_drawn 59 = .ok (.ireturn, 1) := db300.2.2.2.2.2.2.2.2.2.2.2.2.2.2.2.2.2.1
theorem dX11_drawn_48 : decode cX11_drawn 48 = .ok (.aload_n 0, 1) := db300.2.2.2.2.2.2.2.2.2.2.2.2.2.2.2.2.2.2.1
theorem dX11_drawn_49 : decode cX11_drawn 49 = .ok (.getfield 427, 3) := db300.2.2.2.2.2.2.2.2.2.2.2.2.2.2.2.2.2.2.2.1
theorem dX11_drawn_52 : decode cX11_drawn 52 = .ok (.goto 7, 3) := db300.2.2.2.2.2.2.2.2.2.2.2.2.2.2.2.2.2.2.2.2.1
theorem dX11_drawn_34 : decode cX11_drawn 34 = .ok (.iload 4, 2) := db300.2.2.2.2.2.2.2.2.2.2.2.2.2.2.2.2.2.2.2.2.2.1
theorem dX11_drawn_36 : decode cX11_drawn 36 = .ok (.ireturn, 1) := db300.2.2.2.2.2.2.2.2.2.2.2.2.2.2.2.2.2.2.2.2.2.2.1
theorem dX11_drawn_23 : decode cX11_drawn 23 = .ok (.iconst 0, 1) := db300.2.2.2.2.2.2.2.2.2.2.2.2.2.2.2.2.2.2.2.2.2.2.2
theorem db301 : (decode cX11_drawn 6 = .ok (.ifCond .eq 17, 3)) ∧ (decode cX11_drawn 9 = .ok (.iload_n 3, 1)) ∧ (decode cX11_drawn 10 = .ok (.i2l, 1)) ∧ (decode cX11_drawn 11 = .ok (.lconst 0, 1)) ∧ (decode cX11_drawn 12 = .ok (.lconst 1, 1)) ∧ (decode cX11_drawn 13 = .ok (.invokestatic 79, 3)) ∧ (decode cX11_drawn 16 = .ok (.ifCond .eq 7, 3)) ∧ (decode cX11_drawn 19 = .ok (.iconst 1, 1)) ∧ (decode cX11_drawn 20 = .ok (.goto 4, 3)) := by decide +kernel
theorem dX11_drawn_6 : decode cX11_drawn 6 = .ok (.ifCond .eq 17, 3) := db301.1
theorem dX11_drawn_9 : decode cX11_drawn 9 = .ok (.iload_n 3, 1) := db301.2.1
theorem dX11_drawn_10 : decode cX11_drawn 10 = .ok (.i2l, 1) := db301.2.2.1
theorem dX11_drawn_11 : decode cX11_drawn 11 = .ok (.lconst 0, 1) := db301.2.2.2.1
theorem dX11_drawn_12 : decode cX11_drawn 12 = .ok (.lconst 1, 1) := db301.2.2.2.2.1
theorem dX11_drawn_13 : decode cX11_drawn 13 = .ok (.invokestatic 79, 3) := db301.2.2.2.2.2.1
theorem dX11_drawn_16 : decode cX11_drawn 16 = .ok (.ifCond .eq 7, 3) := db301.2.2.2.2.2.2.1
theorem dX11_drawn_19 : decode cX11_drawn 19 = .ok (.iconst 1, 1) := db301.2.2.2.2.2.2.2.1
theorem dX11_drawn_20 : decode cX11_drawn 20 = .ok (.goto 4, 3) := db301.2.2.2.2.2.2.2.2
theorem db302 : (decode cX11_end 0 = .ok (.iload_n 1, 1)) ∧ (decode cX11_end 1 = .ok (.i2l, 1)) ∧ (decode cX11_end 2 = .ok (.lconst 0, 1)) ∧ (decode cX11_end 3 = .ok (.aload_n 0, 1)) ∧ (decode cX11_end 4 = .ok (.getfield 93, 3)) ∧ (decode cX11_end 7 = .ok (.i2l, 1)) ∧ (decode cX11_end 8 = .ok (.invokestatic 79, 3)) ∧ (decode cX11_end 11 = .ok (.ifCond .ne 5, 3)) ∧ (decode cX11_end 16 = .ok (.aload_n 0, 1)) ∧ (decode cX11_end 17 = .ok (.iload_n 1, 1)) ∧ (decode cX11_end 18 = .ok (.putfield 93, 3)) ∧ (decode cX11_end 21 = .ok (.iload_n 1, 1)) ∧ (decode cX11_end 22 = .ok (.ireturn, 1)) ∧ (decode cX11_end 14 = .ok (.iconst (-1), 1)) ∧ (decode cX11_end 15 = .ok (.ireturn, 1)) := by decide +kernel
theorem dX11_end_0 : decode cX11_end 0 = .ok (.iload_n 1, 1) := db302.1
theorem dX11_end_1 : decode cX11_end 1 = .ok (.i2l, 1) := db302.2.1
theorem dX11_end_2 : decode cX11_end 2 = .ok (.lconst 0, 1) := db302.2.2.1
theorem dX11_end_3 : decode cX11_end 3 = .ok (.aload_n 0, 1) := db302.2.2.2.1
theorem dX11_end_4 : decode cX11_end 4 = .ok (.getfield 93, 3) := db302.2.2.2.2.1
theorem dX11_end_7 : decode cX11_end 7 = .ok (.i2l, 1) := db302.2.2.2.2.2.1
theorem dX11_end_8 : decode cX11_end 8 = .ok (.invokestatic 79, 3) := db302.2.2.2.2.2.2.1
theorem dX11_end_11 : decode cX11_end 11 = .ok (.ifCond .ne 5, 3) := db302.2.2.2.2.2.2.2.1
theorem dX11_end_16 : decode cX11_end 16 = .ok (.aload_n 0, 1) := db302.2.2.2.2.2.2.2.2.1
theorem dX11_end_17 : decode cX11_end 17 = .ok (.iload_n 1, 1) := db302.2.2.2.2.2.2.2.2.2.1
theorem dX11_end_18 : decode cX11_end 18 = .ok (.putfield 93, 3) := db302.2.2.2.2.2.2.2.2.2.2.1
theorem dX11_end_21 : decode cX11_end 21 = .ok (.iload_n 1, 1) := db302.2.2.2.2.2.2.2.2.2.2.2.1
theorem dX11_end_22 : decode cX11_end 22 = .ok (.ireturn, 1) := db302.2.2.2.2.2.2.2.2.2.2.2.2.1
theorem dX11_end_14 : decode cX11_end 14 = .ok (.iconst (-1), 1) := db302.2.2.2.2.2.2.2.2.2.2.2.2.2.1
theorem dX11_end_15 : decode cX11_end 15 = .ok (.ireturn, 1) := db302.2.2.2.2.2.2.2.2.2.2.2.2.2.2
theorem db303 : (decode cX11_errs 0 = .ok (.aload_n 0, 1)) ∧ (decode cX11_errs 1 = .ok (.invokevirtual 133, 3)) ∧ (decode cX11_errs 4 = .ok (.ifCond .ne 4, 3)) ∧ (decode cX11_errs 8 = .ok (.aload_n 0, 1)) ∧ (decode cX11_errs 9 = .ok (.iload_n 1, 1)) ∧ (decode cX11_errs 10 = .ok (.putfield 130, 3)) ∧ (decode cX11_errs 13 = .ok (.aload_n 0, 1)) ∧ (decode cX11_errs 14 = .ok (.aload_n 0, 1)) ∧ (decode cX11_errs 15 = .ok (.getfield 106, 3)) ∧ (decode cX11_errs 18 = .ok (.putfield 27, 3)) ∧ (decode cX11_errs 21 = .ok (.return_, 1)) ∧ (decode cX11_errs 7 = .ok (.return_, 1)) := by decide +kernel
theorem dX11_errs_0 : decode cX11_errs 0 = .ok (.aload_n 0, 1) := db303.1
theorem dX11_errs_1 : decode cX11_errs 1 = .ok (.invokevirtual 133, 3) := db303.2.1
theorem dX11_errs_4 : decode cX11_errs 4 = .ok (.ifCond .ne 4, 3) := db303.2.2.1
theorem dX11_errs_8 : decode cX11_errs 8 = .ok (.aload_n 0, 1) := db303.2.2.2.1
theorem dX11_errs_9 : decode cX11_errs 9 = .ok (.iload_n 1, 1) := db303.2.2.2.2.1
theorem dX11_errs_10 : decode cX11_errs 10 = .ok (.putfield 130, 3) := db303.2.2.2.2.2.1
theorem dX11_errs_13 : decode cX11_errs 13 = .ok (.aload_n 0, 1) := db303.2.2.2.2.2.2.1
theorem dX11_errs_14 : decode cX11_errs 14 = .ok (.aload_n 0, 1) := db303.2.2.2.2.2.2.2.1
theorem dX11_errs_15 : decode cX11_errs 15 = .ok (.getfield 106, 3) := db303.2.2.2.2.2.2.2.2.1
theorem dX11_errs_18 : decode cX11_errs 18 = .ok (.putfield 27, 3) := db303.2.2.2.2.2.2.2.2.2.1
theorem dX11_errs_21 : decode cX11_errs 21 = .ok (.return_, 1) := db303.2.2.2.2.2.2.2.2.2.2.1
theorem dX11_errs_7 : decode cX11_errs 7 = .ok (.return_, 1) := db303.2.2.2.2.2.2.2.2.2.2.2
theorem db304 : (decode cX11_far 0 = .ok (.aload_n 0, 1)) ∧ (decode cX11_far 1 = .ok (.iload_n 1, 1)) ∧ (decode cX11_far 2 = .ok (.i2l, 1)) ∧ (decode cX11_far 3 = .ok (.invokevirtual 89, 3)) ∧ (decode cX11_far 6 = .ok (.ifCond .eq 12, 3)) ∧ (decode cX11_far 18 = .ok (.bipush (-2), 2)) ∧ (decode cX11_far 20 = .ok (.ireturn, 1)) ∧ (decode cX11_far 9 = .ok (.aload_n 0, 1)) ∧ (decode cX11_far 10 = .ok (.iload_n 2, 1)) ∧ (decode cX11_far 11 = .ok (.i2l, 1)) ∧ (decode cX11_far 12 = .ok (.invokevirtual 89, 3)) ∧ (decode cX11_far 15 = .ok (.ifCond .ne 6, 3)) ∧ (decode cX11_far 21 = .ok (.iconst 1, 1)) ∧ (decode cX11_far 22 = .ok (.iload_n 1, 1)) ∧ (decode cX11_far 23 = .ok (.ishl, 1)) ∧ (decode cX11_far 24 = .ok (.istore_n 3, 1)) ∧ (decode cX11_far 25 = .ok (.iconst 0, 1)) ∧ (decode cX11_far 26 = .ok (.istore 4, 2)) ∧ (decode cX11_far 28 = .ok (.iload 4, 2)) ∧ (decode cX11_far 30 = .ok (.bipush 7, 2)) ∧ (decode cX11_far 32 = .ok (.if_icmp .ge 27, 3)) ∧ (decode cX11_far 59 = .ok (.iconst (-1), 1)) ∧ (decode cX11_far 60 = .ok (.ireturn, 1)) ∧ (decode cX11_far 35 = .ok (.iload_n 3, 1)) := by decide +kernel
theorem dX11_far_0 : decode cX11_far 0 = .ok (.aload_n 0, 1) := db304.1
theorem dX11_far_1 : decode cX11_far 1 = .ok (.iload_n 1, 1) := db304.2.1
theorem dX11_far_2 : decode cX11_far 2 = .ok (.i2l, 1) := db304.2.2.1
theorem dX11_far_3 : decode cX11_far 3 = .ok (.invokevirtual 89, 3) := db304.2.2.2.1
theorem dX11_far_6 : decode cX11_far 6 = .ok (.ifCond .eq 12, 3) := db304.2.2.2.2.1
theorem dX11_far_18 : decode cX11_far 18 = .ok (.bipush (-2), 2) := db304.2.2.2.2.2.1
theorem dX11_far_20 : decode cX11_far 20 = .ok (.ireturn, 1) := db304.2.2.2.2.2.2.1
theorem dX11_far_9 : decode cX11_far 9 = .ok (.aload_n 0, 1) := db304.2.2.2.2.2.2.2.1
theorem dX11_far_10 : decode cX11_far 10 = .ok (.iload_n 2, 1) := db304.2.2.2.2.2.2.2.2.1
theorem dX11_far_11 : decode cX11_far 11 = .ok (.i2l, 1) := db304.2.2.2.2.2.2.2.2.2.1
theorem dX11_far_12 : decode cX11_far 12 = .ok (.invokevirtual 89, 3) := db304.2.2.2.2.2.2.2.2.2.2.1
theorem dX11_far_15 : decode cX11_far 15 = .ok (.ifCond .ne 6, 3) := db304.2.2.2.2.2.2.2.2.2.2.2.1
theorem dX11_far_21 : decode cX11_far 21 = .ok (.iconst 1, 1) := db304.2.2.2.2.2.2.2.2.2.2.2.2.1
theorem dX11_far_22 : decode cX11_far 22 = .ok (.iload_n 1, 1) := db304.2.2.2.2.2.2.2.2.2.2.2.2.2.1
theorem dX11_far_23 : decode cX11_far 23 = .ok (.ishl, 1) := db304.2.2.2.2.2.2.2.2.2.2.2.2.2.2.1
theorem dX11_far_24 : decode cX11_far 24 = .ok (.istore_n 3, 1) := db304.2.2.2.2.2.2.2.2.2.2.2.2.2.2.2.1
theorem dX11_far_25 : decode cX11_far 25 = .ok (.iconst 0, 1) := db304.2.2.2.2.2.2.2.2.2.2.2.2.2.2.2.2.1
theorem dX11_far_26 : decode cX11_far 26 = .ok (.istore 4, 2) := db304.2.2.2.2.2.2.2.2.2.2.2.2.2.2.2.2.2.1
theorem dX11_far_28 : decode cX11_far 28 = .ok (.iload 4, 2) := db304.2.2.2.2.2.2.2.2.2.2.2.2.2.2.2.2.2.2.1
theorem dX11_far_30 : decode cX11_far 30 = .ok (.bipush 7, 2) := db304.2.2.2.2.2.2.2.2.2.2.2.2.2.2.2.2.2.2.2.1
theorem dX11_far_32 : decode cX11_far 32 = .ok (.if_icmp .ge 27, 3) := db304.2.2.2.2.2.2.2.2.2.2.2.2.2.2.2.2.2.2.2.2.1
theorem dX11_far_59 : decode cX11_far 59 = .ok (.iconst (-1), 1) := db304.2.2.2.2.2.2.2.2.2.2.2.2.2.2.2.2.2.2.2.2.2.1
theorem dX11_far_60 : decode cX11_far 60 = .ok (.ireturn, 1) := db304.2.2.2.2.2.2.2.2.2.2.2.2.2.2.2.2.2.2.2.2.2.2.1
theorem dX11_far_35 : decode cX11_far 35 = .ok (.iload_n 3, 1) := db304.2.2.2.2.2.2.2.2.2.2.2.2.2.2.2.2.2.2.2.2.2.2.2
theorem db305 : (decode cX11_far 36 = .ok (.iload_n 2, 1)) ∧ (decode cX11_far 37 = .ok (.invokestatic 258, 3)) ∧ (decode cX11_far 40 = .ok (.iconst 1, 1)) ∧ (decode cX11_far 41 = .ok (.if_icmp .ne 6, 3)) ∧ (decode cX11_far 47 = .ok (.aload_n 0, 1)) ∧ (decode cX11_far 48 = .ok (.iload_n 3, 1)) ∧ (decode cX11_far 49 = .ok (.invokevirtual 330, 3)) ∧ (decode cX11_far 52 = .ok (.istore_n 3, 1)) ∧ (decode cX11_far 53 = .ok (.iinc 4 1, 3)) ∧ (decode cX11_far 56 = .ok (.goto (-28), 3)) ∧ (decode cX11_far 44 = .ok (.iload 4, 2)) ∧ (decode cX11_far 46 = .ok (.ireturn, 1)) := by decide +kernel
theorem dX11_far_36 : decode cX11_far 36 = .ok (.iload_n 2, 1) := db305.1
theorem dX11_far_37 : decode cX11_far 37 = .ok (.invokestatic 258, 3) := db305.2.1
theorem dX11_far_40 : decode cX11_far 40 = .ok (.iconst 1, 1) := db305.2.2.1
theorem dX11_far_41 : decode cX11_far 41 = .ok (.if_icmp .ne 6, 3) := db305.2.2.2.1
theorem dX11_far_47 : decode cX11_far 47 = .ok (.aload_n 0, 1) := db305.2.2.2.2.1
theorem dX11_far_48 : decode cX11_far 48 = .ok (.iload_n 3, 1) := db305.2.2.2.2.2.1
theorem dX11_far_49 : decode cX11_far 49 = .ok (.invokevirtual 330, 3) := db305.2.2.2.2.2.2.1
theorem dX11_far_52 : decode cX11_far 52 = .ok (.istore_n 3, 1) := db305.2.2.2.2.2.2.2.1
theorem dX11_far_53 : decode cX11_far 53 = .ok (.iinc 4 1, 3) := db305.2.2.2.2.2.2.2.2.1
theorem dX11_far_56 : decode cX11_far 56 = .ok (.goto (-28), 3) := db305.2.2.2.2.2.2.2.2.2.1
theorem dX11_far_44 : decode cX11_far 44 = .ok (.iload 4, 2) := db305.2.2.2.2.2.2.2.2.2.2.1
theorem dX11_far_46 : decode cX11_far 46 = .ok (.ireturn, 1) := db305.2.2.2.2.2.2.2.2.2.2.2
theorem db306 : (decode cX11_farTo 0 = .ok (.iload_n 1, 1)) ∧ (decode cX11_farTo 1 = .ok (.iconst (-1), 1)) ∧ (decode cX11_farTo 2 = .ok (.if_icmp .ne 7, 3)) ∧ (decode cX11_farTo 9 = .ok (.aload_n 0, 1)) ∧ (decode cX11_farTo 10 = .ok (.getfield 52, 3)) ∧ (decode cX11_farTo 13 = .ok (.iload_n 1, 1)) ∧ (decode cX11_farTo 14 = .ok (.iaload, 1)) ∧ (decode cX11_farTo 15 = .ok (.ireturn, 1)) ∧ (decode cX11_farTo 5 = .ok (.iconst (-1), 1)) ∧ (decode cX11_farTo 6 = .ok (.goto 9, 3)) := by decide +kernel
theorem dX11_farTo_0 : decode cX11_farTo 0 = .ok (.iload_n 1, 1) := db306.1
theorem dX11_farTo_1 : decode cX11_farTo 1 = .ok (.iconst (-1), 1) := db306.2.1
theorem dX11_farTo_2 : decode cX11_farTo 2 = .ok (.if_icmp .ne 7, 3) := db306.2.2.1
theorem dX11_farTo_9 : decode cX11_farTo 9 = .ok (.aload_n 0, 1) := db306.2.2.2.1
theorem dX11_farTo_10 : decode cX11_farTo 10 = .ok (.getfield 52, 3) := db306.2.2.2.2.1
theorem dX11_farTo_13 : decode cX11_farTo 13 = .ok (.iload_n 1, 1) := db306.2.2.2.2.2.1
theorem dX11_farTo_14 : decode cX11_farTo 14 = .ok (.iaload, 1) := db306.2.2.2.2.2.2.1
theorem dX11_farTo_15 : decode cX11_farTo 15 = .ok (.ireturn, 1) := db306.2.2.2.2.2.2.2.1
theorem dX11_farTo_5 : decode cX11_farTo 5 = .ok (.iconst (-1), 1) := db306.2.2.2.2.2.2.2.2.1
theorem dX11_farTo_6 : decode cX11_farTo 6 = .ok (.goto 9, 3) := db306.2.2.2.2.2.2.2.2.2
theorem db307 : (decode cX11_fault 0 = .ok (.iload_n 1, 1)) ∧ (decode cX11_fault 1 = .ok (.ifCond .ne 10, 3)) ∧ (decode cX11_fault 11 = .ok (.iload_n 1, 1)) ∧ (decode cX11_fault 12 = .ok (.iconst 1, 1)) ∧ (decode cX11_fault 13 = .ok (.if_icmp .ne 10, 3)) ∧ (decode cX11_fault 23 = .ok (.iconst (-1), 1)) ∧ (decode cX11_fault 24 = .ok (.ireturn, 1)) ∧ (decode cX11_fault 16 = .ok (.aload_n 0, 1)) ∧ (decode cX11_fault 17 = .ok (.getfield 27, 3)) ∧ (decode cX11_fault 20 = .ok (.goto 4, 3)) ∧ (decode cX11_fault 4 = .ok (.aload_n 0, 1)) ∧ (decode cX11_fault 5 = .ok (.getfield 130, 3)) ∧ (decode cX11_fault 8 = .ok (.goto 16, 3)) := by decide +kernel
theorem dX11_fault_0 : decode cX11_fault 0 = .ok (.iload_n 1, 1) := db307.1
theorem dX11_fault_1 : decode cX11_fault 1 = .ok (.ifCond .ne 10, 3) := db307.2.1
theorem dX11_fault_11 : decode cX11_fault 11 = .ok (.iload_n 1, 1) := db307.2.2.1
theorem dX11_fault_12 : decode cX11_fault 12 = .ok (.iconst 1, 1) := db307.2.2.2.1
theorem dX11_fault_13 : decode cX11_fault 13 = .ok (.if_icmp .ne 10, 3) := db307.2.2.2.2.1
theorem dX11_fault_23 : decode cX11_fault 23 = .ok (.iconst (-1), 1) := db307.2.2.2.2.2.1
theorem dX11_fault_24 : decode cX11_fault 24 = .ok (.ireturn, 1) := db307.2.2.2.2.2.2.1
theorem dX11_fault_16 : decode cX11_fault 16 = .ok (.aload_n 0, 1) := db307.2.2.2.2.2.2.2.1
theorem dX11_fault_17 : decode cX11_fault 17 = .ok (.getfield 27, 3) := db307.2.2.2.2.2.2.2.2.1
theorem dX11_fault_20 : decode cX11_fault 20 = .ok (.goto 4, 3) := db307.2.2.2.2.2.2.2.2.2.1
theorem dX11_fault_4 : decode cX11_fault 4 = .ok (.aload_n 0, 1) := db307.2.2.2.2.2.2.2.2.2.2.1
theorem dX11_fault_5 : decode cX11_fault 5 = .ok (.getfield 130, 3) := db307.2.2.2.2.2.2.2.2.2.2.2.1
theorem dX11_fault_8 : decode cX11_fault 8 = .ok (.goto 16, 3) := db307.2.2.2.2.2.2.2.2.2.2.2.2
theorem db308 : (decode cX11_feed 0 = .ok (.aload_n 0, 1)) ∧ (decode cX11_feed 1 = .ok (.getfield 93, 3)) ∧ (decode cX11_feed 4 = .ok (.bipush 20, 2)) ∧ (decode cX11_feed 6 = .ok (.iadd, 1)) ∧ (decode cX11_feed 7 = .ok (.sipush 900, 3)) ∧ (decode cX11_feed 10 = .ok (.if_icmp .le 5, 3)) ∧ (decode cX11_feed 15 = .ok (.aload_n 0, 1)) ∧ (decode cX11_feed 16 = .ok (.getfield 24, 3)) ∧ (decode cX11_feed 19 = .ok (.iconst 0, 1)) ∧ (decode cX11_feed 20 = .ok (.iload_n 1, 1)) ∧ (decode cX11_feed 21 = .ok (.iastore, 1)) ∧ (decode cX11_feed 22 = .ok (.aload_n 0, 1)) ∧ (decode cX11_feed 23 = .ok (.getfield 24, 3)) ∧ (decode cX11_feed 26 = .ok (.iconst 1, 1)) ∧ (decode cX11_feed 27 = .ok (.iload_n 2, 1)) ∧ (decode cX11_feed 28 = .ok (.iastore, 1)) ∧ (decode cX11_feed 29 = .ok (.aload_n 0, 1)) ∧ (decode cX11_feed 30 = .ok (.getfield 24, 3)) ∧ (decode cX11_feed 33 = .ok (.iconst 2, 1)) ∧ (decode cX11_feed 34 = .ok (.iload_n 3, 1)) ∧ (decode cX11_feed 35 = .ok (.iastore, 1)) ∧ (decode cX11_feed 36 = .ok (.aload_n 0, 1)) ∧ (decode cX11_feed 37 = .ok (.getfield 24, 3)) ∧ (decode cX11_feed 40 = .ok (.iconst 3, 1)) := by decide +kernel
theorem dX11_feed_0 : decode cX11_feed 0 = .ok (.aload_n 0, 1) := db308.1
theorem dX11_feed_1 : decode cX11_feed 1 = .ok (.getfield 93, 3) := db308.2.1
theorem dX11_feed_4 : decode cX11_feed 4 = .ok (.bipush 20, 2) := db308.2.2.1
theorem dX11_feed_6 : decode cX11_feed 6 = .ok (.iadd, 1) := db308.2.2.2.1
theorem dX11_feed_7 : decode cX11_feed 7 = .ok (.sipush 900, 3) := db308.2.2.2.2.1
theorem dX11_feed_10 : decode cX11_feed 10 = .ok (.if_icmp .le 5, 3) := db308.2.2.2.2.2.1
theorem dX11_feed_15 : decode cX11_feed 15 = .ok (.aload_n 0, 1) := db308.2.2.2.2.2.2.1
theorem dX11_feed_16 : decode cX11_feed 16 = .ok (.getfield 24, 3) := db308.2.2.2.2.2.2.2.1
theorem dX11_feed_19 : decode cX11_feed 19 = .ok (.iconst 0, 1) := db308.2.2.2.2.2.2.2.2.1
theorem dX11_feed_20 : decode cX11_feed 20 = .ok (.iload_n 1, 1) := db308.2.2.2.2.2.2.2.2.2.1
theorem dX11_feed_21 : decode cX11_feed 21 = .ok (.iastore, 1) := db308.2.2.2.2.2.2.2.2.2.2.1
theorem dX11_feed_22 : decode cX11_feed 22 = .ok (.aload_n 0, 1) := db308.2.2.2.2.2.2.2.2.2.2.2.1
theorem dX11_feed_23 : decode cX11_feed 23 = .ok (.getfield 24, 3) := db308.2.2.2.2.2.2.2.2.2.2.2.2.1
theorem dX11_feed_26 : decode cX11_feed 26 = .ok (.iconst 1, 1) := db308.2.2.2.2.2.2.2.2.2.2.2.2.2.1
theorem dX11_feed_27 : decode cX11_feed 27 = .ok (.iload_n 2, 1) := db308.2.2.2.2.2.2.2.2.2.2.2.2.2.2.1
theorem dX11_feed_28 : decode cX11_feed 28 = .ok (.iastore, 1) := db308.2.2.2.2.2.2.2.2.2.2.2.2.2.2.2.1
theorem dX11_feed_29 : decode cX11_feed 29 = .ok (.aload_n 0, 1) := db308.2.2.2.2.2.2.2.2.2.2.2.2.2.2.2.2.1
theorem dX11_feed_30 : decode cX11_feed 30 = .ok (.getfield 24, 3) := db308.2.2.2.2.2.2.2.2.2.2.2.2.2.2.2.2.2.1
theorem dX11_feed_33 : decode cX11_feed 33 = .ok (.iconst 2, 1) := db308.2.2.2.2.2.2.2.2.2.2.2.2.2.2.2.2.2.2.1
theorem dX11_feed_34 : decode cX11_feed 34 = .ok (.iload_n 3, 1) := db308.2.2.2.2.2.2.2.2.2.2.2.2.2.2.2.2.2.2.2.1
theorem dX11_feed_35 : decode cX11_feed 35 = .ok (.iastore, 1) := db308.2.2.2.2.2.2.2.2.2.2.2.2.2.2.2.2.2.2.2.2.1
theorem dX11_feed_36 : decode cX11_feed 36 = .ok (.aload_n 0, 1) := db308.2.2.2.2.2.2.2.2.2.2.2.2.2.2.2.2.2.2.2.2.2.1
theorem dX11_feed_37 : decode cX11_feed 37 = .ok (.getfield 24, 3) := db308.2.2.2.2.2.2.2.2.2.2.2.2.2.2.2.2.2.2.2.2.2.2.1
theorem dX11_feed_40 : decode cX11_feed 40 = .ok (.iconst 3, 1) := db308.2.2.2.2.2.2.2.2.2.2.2.2.2.2.2.2.2.2.2.2.2.2.2
theorem db309 : (decode cX11_feed 41 = .ok (.iload 4, 2)) ∧ (decode cX11_feed 43 = .ok (.iastore, 1)) ∧ (decode cX11_feed 44 = .ok (.aload_n 0, 1)) ∧ (decode cX11_feed 45 = .ok (.getfield 24, 3)) ∧ (decode cX11_feed 48 = .ok (.iconst 4, 1)) ∧ (decode cX11_feed 49 = .ok (.iload 5, 2)) ∧ (decode cX11_feed 51 = .ok (.iastore, 1)) ∧ (decode cX11_feed 52 = .ok (.iconst 0, 1)) ∧ (decode cX11_feed 53 = .ok (.istore 6, 2)) ∧ (decode cX11_feed 55 = .ok (.iload 6, 2)) ∧ (decode cX11_feed 57 = .ok (.bipush 20, 2)) ∧ (decode cX11_feed 59 = .ok (.if_icmp .ge 42, 3)) ∧ (decode cX11_feed 101 = .ok (.aload_n 0, 1)) ∧ (decode cX11_feed 102 = .ok (.dup, 1)) ∧ (decode cX11_feed 103 = .ok (.getfield 93, 3)) ∧ (decode cX11_feed 106 = .ok (.bipush 20, 2)) ∧ (decode cX11_feed 108 = .ok (.iadd, 1)) ∧ (decode cX11_feed 109 = .ok (.putfield 93, 3)) ∧ (decode cX11_feed 112 = .ok (.aload_n 0, 1)) ∧ (decode cX11_feed 113 = .ok (.getfield 93, 3)) ∧ (decode cX11_feed 116 = .ok (.ireturn, 1)) ∧ (decode cX11_feed 62 = .ok (.aload_n 0, 1)) ∧ (decode cX11_feed 63 = .ok (.getfield 20, 3)) ∧ (decode cX11_feed 66 = .ok (.aload_n 0, 1)) := by decide +kernel
theorem dX11_feed_41 : decode cX11_feed 41 = .ok (.iload 4, 2) := db309.1
theorem dX11_feed_43 : decode cX11_feed 43 = .ok (.iastore, 1) := db309.2.1
theorem dX11_feed_44 : decode cX11_feed 44 = .ok (.aload_n 0, 1) := db309.2.2.1
theorem dX11_feed_45 : decode cX11_feed 45 = .ok (.getfield 24, 3) := db309.2.2.2.1
theorem dX11_feed_48 : decode cX11_feed 48 = .ok (.iconst 4, 1) := db309.2.2.2.2.1
theorem dX11_feed_49 : decode cX11_feed 49 = .ok (.iload 5, 2) := db309.2.2.2.2.2.1
theorem dX11_feed_51 : decode cX11_feed 51 = .ok (.iastore, 1) := db309.2.2.2.2.2.2.1
theorem dX11_feed_52 : decode cX11_feed 52 = .ok (.iconst 0, 1) := db309.2.2.2.2.2.2.2.1
theorem dX11_feed_53 : decode cX11_feed 53 = .ok (.istore 6, 2) := db309.2.2.2.2.2.2.2.2.1
theorem dX11_feed_55 : decode cX11_feed 55 = .ok (.iload 6, 2) := db309.2.2.2.2.2.2.2.2.2.1
theorem dX11_feed_57 : decode cX11_feed 57 = .ok (.bipush 20, 2) := db309.2.2.2.2.2.2.2.2.2.2.1
theorem dX11_feed_59 : decode cX11_feed 59 = .ok (.if_icmp .ge 42, 3) := db309.2.2.2.2.2.2.2.2.2.2.2.1
theorem dX11_feed_101 : decode cX11_feed 101 = .ok (.aload_n 0, 1) := db309.2.2.2.2.2.2.2.2.2.2.2.2.1
theorem dX11_feed_102 : decode cX11_feed 102 = .ok (.dup, 1) := db309.2.2.2.2.2.2.2.2.2.2.2.2.2.1
theorem dX11_feed_103 : decode cX11_feed 103 = .ok (.getfield 93, 3) := db309.2.2.2.2.2.2.2.2.2.2.2.2.2.2.1
theorem dX11_feed_106 : decode cX11_feed 106 = .ok (.bipush 20, 2) := db309.2.2.2.2.2.2.2.2.2.2.2.2.2.2.2.1
theorem dX11_feed_108 : decode cX11_feed 108 = .ok (.iadd, 1) := db309.2.2.2.2.2.2.2.2.2.2.2.2.2.2.2.2.1
theorem dX11_feed_109 : decode cX11_feed 109 = .ok (.putfield 93, 3) := db309.2.2.2.2.2.2.2.2.2.2.2.2.2.2.2.2.2.1
theorem dX11_feed_112 : decode cX11_feed 112 = .ok (.aload_n 0, 1) := db309.2.2.2.2.2.2.2.2.2.2.2.2.2.2.2.2.2.2.1
theorem dX11_feed_113 : decode cX11_feed 113 = .ok (.getfield 93, 3) := db309.2.2.2.2.2.2.2.2.2.2.2.2.2.2.2.2.2.2.2.1
theorem dX11_feed_116 : decode cX11_feed 116 = .ok (.ireturn, 1) := db309.2.2.2.2.2.2.2.2.2.2.2.2.2.2.2.2.2.2.2.2.1
theorem dX11_feed_62 : decode cX11_feed 62 = .ok (.aload_n 0, 1) := db309.2.2.2.2.2.2.2.2.2.2.2.2.2.2.2.2.2.2.2.2.2.1
theorem dX11_feed_63 : decode cX11_feed 63 = .ok (.getfield 20, 3) := db309.2.2.2.2.2.2.2.2.2.2.2.2.2.2.2.2.2.2.2.2.2.2.1
theorem dX11_feed_66 : decode cX11_feed 66 = .ok (.aload_n 0, 1) := db309.2.2.2.2.2.2.2.2.2.2.2.2.2.2.2.2.2.2.2.2.2.2.2
theorem db310 : (decode cX11_feed 67 = .ok (.getfield 93, 3)) ∧ (decode cX11_feed 70 = .ok (.iload 6, 2)) ∧ (decode cX11_feed 72 = .ok (.iadd, 1)) ∧ (decode cX11_feed 73 = .ok (.aload_n 0, 1)) ∧ (decode cX11_feed 74 = .ok (.getfield 24, 3)) ∧ (decode cX11_feed 77 = .ok (.iload 6, 2)) ∧ (decode cX11_feed 79 = .ok (.iconst 4, 1)) ∧ (decode cX11_feed 80 = .ok (.idiv, 1)) ∧ (decode cX11_feed 81 = .ok (.iaload, 1)) ∧ (decode cX11_feed 82 = .ok (.bipush 24, 2)) ∧ (decode cX11_feed 84 = .ok (.bipush 8, 2)) ∧ (decode cX11_feed 86 = .ok (.iload 6, 2)) ∧ (decode cX11_feed 88 = .ok (.iconst 4, 1)) ∧ (decode cX11_feed 89 = .ok (.irem, 1)) ∧ (decode cX11_feed 90 = .ok (.imul, 1)) ∧ (decode cX11_feed 91 = .ok (.isub, 1)) ∧ (decode cX11_feed 92 = .ok (.ishr, 1)) ∧ (decode cX11_feed 93 = .ok (.i2b, 1)) ∧ (decode cX11_feed 94 = .ok (.bastore, 1)) ∧ (decode cX11_feed 95 = .ok (.iinc 6 1, 3)) ∧ (decode cX11_feed 98 = .ok (.goto (-43), 3)) ∧ (decode cX11_feed 13 = .ok (.iconst (-1), 1)) ∧ (decode cX11_feed 14 = .ok (.ireturn, 1)) := by decide +kernel
theorem dX11_feed_67 : decode cX11_feed 67 = .ok (.getfield 93, 3) := db310.1
theorem dX11_feed_70 : decode cX11_feed 70 = .ok (.iload 6, 2) := db310.2.1
theorem dX11_feed_72 : decode cX11_feed 72 = .ok (.iadd, 1) := db310.2.2.1
theorem dX11_feed_73 : decode cX11_feed 73 = .ok (.aload_n 0, 1) := db310.2.2.2.1
theorem dX11_feed_74 : decode cX11_feed 74 = .ok (.getfield 24, 3) := db310.2.2.2.2.1
theorem dX11_feed_77 : decode cX11_feed 77 = .ok (.iload 6, 2) := db310.2.2.2.2.2.1
theorem dX11_feed_79 : decode cX11_feed 79 = .ok (.iconst 4, 1) := db310.2.2.2.2.2.2.1
theorem dX11_feed_80 : decode cX11_feed 80 = .ok (.idiv, 1) := db310.2.2.2.2.2.2.2.1
theorem dX11_feed_81 : decode cX11_feed 81 = .ok (.iaload, 1) := db310.2.2.2.2.2.2.2.2.1
theorem dX11_feed_82 : decode cX11_feed 82 = .ok (.bipush 24, 2) := db310.2.2.2.2.2.2.2.2.2.1
theorem dX11_feed_84 : decode cX11_feed 84 = .ok (.bipush 8, 2) := db310.2.2.2.2.2.2.2.2.2.2.1
theorem dX11_feed_86 : decode cX11_feed 86 = .ok (.iload 6, 2) := db310.2.2.2.2.2.2.2.2.2.2.2.1
theorem dX11_feed_88 : decode cX11_feed 88 = .ok (.iconst 4, 1) := db310.2.2.2.2.2.2.2.2.2.2.2.2.1
theorem dX11_feed_89 : decode cX11_feed 89 = .ok (.irem, 1) := db310.2.2.2.2.2.2.2.2.2.2.2.2.2.1
theorem dX11_feed_90 : decode cX11_feed 90 = .ok (.imul, 1) := db310.2.2.2.2.2.2.2.2.2.2.2.2.2.2.1
theorem dX11_feed_91 : decode cX11_feed 91 = .ok (.isub, 1) := db310.2.2.2.2.2.2.2.2.2.2.2.2.2.2.2.1
theorem dX11_feed_92 : decode cX11_feed 92 = .ok (.ishr, 1) := db310.2.2.2.2.2.2.2.2.2.2.2.2.2.2.2.2.1
theorem dX11_feed_93 : decode cX11_feed 93 = .ok (.i2b, 1) := db310.2.2.2.2.2.2.2.2.2.2.2.2.2.2.2.2.2.1
theorem dX11_feed_94 : decode cX11_feed 94 = .ok (.bastore, 1) := db310.2.2.2.2.2.2.2.2.2.2.2.2.2.2.2.2.2.2.1
theorem dX11_feed_95 : decode cX11_feed 95 = .ok (.iinc 6 1, 3) := db310.2.2.2.2.2.2.2.2.2.2.2.2.2.2.2.2.2.2.2.1
theorem dX11_feed_98 : decode cX11_feed 98 = .ok (.goto (-43), 3) := db310.2.2.2.2.2.2.2.2.2.2.2.2.2.2.2.2.2.2.2.2.1
theorem dX11_feed_13 : decode cX11_feed 13 = .ok (.iconst (-1), 1) := db310.2.2.2.2.2.2.2.2.2.2.2.2.2.2.2.2.2.2.2.2.2.1
theorem dX11_feed_14 : decode cX11_feed 14 = .ok (.ireturn, 1) := db310.2.2.2.2.2.2.2.2.2.2.2.2.2.2.2.2.2.2.2.2.2.2
theorem db311 : (decode cX11_fillAsked 0 = .ok (.iconst 0, 1)) ∧ (decode cX11_fillAsked 1 = .ok (.istore_n 1, 1)) ∧ (decode cX11_fillAsked 2 = .ok (.iload_n 1, 1)) ∧ (decode cX11_fillAsked 3 = .ok (.iconst 1, 1)) ∧ (decode cX11_fillAsked 4 = .ok (.aload_n 0, 1)) ∧ (decode cX11_fillAsked 5 = .ok (.getfield 9, 3)) ∧ (decode cX11_fillAsked 8 = .ok (.iconst 5, 1)) ∧ (decode cX11_fillAsked 9 = .ok (.iaload, 1)) ∧ (decode cX11_fillAsked 10 = .ok (.ishl, 1)) ∧ (decode cX11_fillAsked 11 = .ok (.if_icmp .ge 61, 3)) ∧ (decode cX11_fillAsked 72 = .ok (.return_, 1)) ∧ (decode cX11_fillAsked 14 = .ok (.iload_n 1, 1)) ∧ (decode cX11_fillAsked 15 = .ok (.invokestatic 255, 3)) ∧ (decode cX11_fillAsked 18 = .ok (.iconst 1, 1)) ∧ (decode cX11_fillAsked 29 = .ok (.istore_n 2, 1)) ∧ (decode cX11_fillAsked 30 = .ok (.iconst 0, 1)) ∧ (decode cX11_fillAsked 31 = .ok (.istore_n 3, 1)) ∧ (decode cX11_fillAsked 32 = .ok (.iload_n 3, 1)) ∧ (decode cX11_fillAsked 33 = .ok (.bipush 6, 2)) ∧ (decode cX11_fillAsked 59 = .ok (.aload_n 0, 1)) ∧ (decode cX11_fillAsked 60 = .ok (.getfield 58, 3)) ∧ (decode cX11_fillAsked 63 = .ok (.iload_n 1, 1)) ∧ (decode cX11_fillAsked 64 = .ok (.iload_n 2, 1)) ∧ (decode cX11_fillAsked 65 = .ok (.iastore, 1)) := by decide +kernel
theorem dX11_fillAsked_0 : decode cX11_fillAsked 0 = .ok (.iconst 0, 1) := db311.1
theorem dX11_fillAsked_1 : decode cX11_fillAsked 1 = .ok (.istore_n 1, 1) := db311.2.1
theorem dX11_fillAsked_2 : decode cX11_fillAsked 2 = .ok (.iload_n 1, 1) := db311.2.2.1
theorem dX11_fillAsked_3 : decode cX11_fillAsked 3 = .ok (.iconst 1, 1) := db311.2.2.2.1
theorem dX11_fillAsked_4 : decode cX11_fillAsked 4 = .ok (.aload_n 0, 1) := db311.2.2.2.2.1
theorem dX11_fillAsked_5 : decode cX11_fillAsked 5 = .ok (.getfield 9, 3) := db311.2.2.2.2.2.1
theorem dX11_fillAsked_8 : decode cX11_fillAsked 8 = .ok (.iconst 5, 1) := db311.2.2.2.2.2.2.1
theorem dX11_fillAsked_9 : decode cX11_fillAsked 9 = .ok (.iaload, 1) := db311.2.2.2.2.2.2.2.1
theorem dX11_fillAsked_10 : decode cX11_fillAsked 10 = .ok (.ishl, 1) := db311.2.2.2.2.2.2.2.2.1
theorem dX11_fillAsked_11 : decode cX11_fillAsked 11 = .ok (.if_icmp .ge 61, 3) := db311.2.2.2.2.2.2.2.2.2.1
theorem dX11_fillAsked_72 : decode cX11_fillAsked 72 = .ok (.return_, 1) := db311.2.2.2.2.2.2.2.2.2.2.1
theorem dX11_fillAsked_14 : decode cX11_fillAsked 14 = .ok (.iload_n 1, 1) := db311.2.2.2.2.2.2.2.2.2.2.2.1
theorem dX11_fillAsked_15 : decode cX11_fillAsked 15 = .ok (.invokestatic 255, 3) := db311.2.2.2.2.2.2.2.2.2.2.2.2.1
theorem dX11_fillAsked_18 : decode cX11_fillAsked 18 = .ok (.iconst 1, 1) := db311.2.2.2.2.2.2.2.2.2.2.2.2.2.1
theorem dX11_fillAsked_29 : decode cX11_fillAsked 29 = .ok (.istore_n 2, 1) := db311.2.2.2.2.2.2.2.2.2.2.2.2.2.2.1
theorem dX11_fillAsked_30 : decode cX11_fillAsked 30 = .ok (.iconst 0, 1) := db311.2.2.2.2.2.2.2.2.2.2.2.2.2.2.2.1
theorem dX11_fillAsked_31 : decode cX11_fillAsked 31 = .ok (.istore_n 3, 1) := db311.2.2.2.2.2.2.2.2.2.2.2.2.2.2.2.2.1
theorem dX11_fillAsked_32 : decode cX11_fillAsked 32 = .ok (.iload_n 3, 1) := db311.2.2.2.2.2.2.2.2.2.2.2.2.2.2.2.2.2.1
theorem dX11_fillAsked_33 : decode cX11_fillAsked 33 = .ok (.bipush 6, 2) := db311.2.2.2.2.2.2.2.2.2.2.2.2.2.2.2.2.2.2.1
theorem dX11_fillAsked_59 : decode cX11_fillAsked 59 = .ok (.aload_n 0, 1) := db311.2.2.2.2.2.2.2.2.2.2.2.2.2.2.2.2.2.2.2.1
theorem dX11_fillAsked_60 : decode cX11_fillAsked 60 = .ok (.getfield 58, 3) := db311.2.2.2.2.2.2.2.2.2.2.2.2.2.2.2.2.2.2.2.2.1
theorem dX11_fillAsked_63 : decode cX11_fillAsked 63 = .ok (.iload_n 1, 1) := db311.2.2.2.2.2.2.2.2.2.2.2.2.2.2.2.2.2.2.2.2.2.1
theorem dX11_fillAsked_64 : decode cX11_fillAsked 64 = .ok (.iload_n 2, 1) := db311.2.2.2.2.2.2.2.2.2.2.2.2.2.2.2.2.2.2.2.2.2.2.1
theorem dX11_fillAsked_65 : decode cX11_fillAsked 65 = .ok (.iastore, 1) := db311.2.2.2.2.2.2.2.2.2.2.2.2.2.2.2.2.2.2.2.2.2.2.2
theorem db312 : (decode cX11_fillAsked 66 = .ok (.iinc 1 1, 3)) ∧ (decode cX11_fillAsked 69 = .ok (.goto (-67), 3)) ∧ (decode cX11_fillAsked 35 = .ok (.if_icmp .ge 24, 3)) ∧ (decode cX11_fillAsked 38 = .ok (.iload_n 2, 1)) ∧ (decode cX11_fillAsked 39 = .ok (.ifCond .le 20, 3)) ∧ (decode cX11_fillAsked 42 = .ok (.iload_n 2, 1)) ∧ (decode cX11_fillAsked 43 = .ok (.aload_n 0, 1)) ∧ (decode cX11_fillAsked 44 = .ok (.iload_n 1, 1)) ∧ (decode cX11_fillAsked 45 = .ok (.iload_n 3, 1)) ∧ (decode cX11_fillAsked 46 = .ok (.invokevirtual 372, 3)) ∧ (decode cX11_fillAsked 49 = .ok (.invokestatic 124, 3)) ∧ (decode cX11_fillAsked 52 = .ok (.istore_n 2, 1)) ∧ (decode cX11_fillAsked 53 = .ok (.iinc 3 1, 3)) ∧ (decode cX11_fillAsked 56 = .ok (.goto (-24), 3)) ∧ (decode cX11_fillAsked 19 = .ok (.if_icmp .gt 7, 3)) ∧ (decode cX11_fillAsked 26 = .ok (.ldc_w 333, 3)) ∧ (decode cX11_fillAsked 22 = .ok (.iconst 0, 1)) ∧ (decode cX11_fillAsked 23 = .ok (.goto 6, 3)) := by decide +kernel
theorem dX11_fillAsked_66 : decode cX11_fillAsked 66 = .ok (.iinc 1 1, 3) := db312.1
theorem dX11_fillAsked_69 : decode cX11_fillAsked 69 = .ok (.goto (-67), 3) := db312.2.1
theorem dX11_fillAsked_35 : decode cX11_fillAsked 35 = .ok (.if_icmp .ge 24, 3) := db312.2.2.1
theorem dX11_fillAsked_38 : decode cX11_fillAsked 38 = .ok (.iload_n 2, 1) := db312.2.2.2.1
theorem dX11_fillAsked_39 : decode cX11_fillAsked 39 = .ok (.ifCond .le 20, 3) := db312.2.2.2.2.1
theorem dX11_fillAsked_42 : decode cX11_fillAsked 42 = .ok (.iload_n 2, 1) := db312.2.2.2.2.2.1
theorem dX11_fillAsked_43 : decode cX11_fillAsked 43 = .ok (.aload_n 0, 1) := db312.2.2.2.2.2.2.1
theorem dX11_fillAsked_44 : decode cX11_fillAsked 44 = .ok (.iload_n 1, 1) := db312.2.2.2.2.2.2.2.1
theorem dX11_fillAsked_45 : decode cX11_fillAsked 45 = .ok (.iload_n 3, 1) := db312.2.2.2.2.2.2.2.2.1
theorem dX11_fillAsked_46 : decode cX11_fillAsked 46 = .ok (.invokevirtual 372, 3) := db312.2.2.2.2.2.2.2.2.2.1
theorem dX11_fillAsked_49 : decode cX11_fillAsked 49 = .ok (.invokestatic 124, 3) := db312.2.2.2.2.2.2.2.2.2.2.1
theorem dX11_fillAsked_52 : decode cX11_fillAsked 52 = .ok (.istore_n 2, 1) := db312.2.2.2.2.2.2.2.2.2.2.2.1
theorem dX11_fillAsked_53 : decode cX11_fillAsked 53 = .ok (.iinc 3 1, 3) := db312.2.2.2.2.2.2.2.2.2.2.2.2.1
theorem dX11_fillAsked_56 : decode cX11_fillAsked 56 = .ok (.goto (-24), 3) := db312.2.2.2.2.2.2.2.2.2.2.2.2.2.1
theorem dX11_fillAsked_19 : decode cX11_fillAsked 19 = .ok (.if_icmp .gt 7, 3) := db312.2.2.2.2.2.2.2.2.2.2.2.2.2.2.1
theorem dX11_fillAsked_26 : decode cX11_fillAsked 26 = .ok (.ldc_w 333, 3) := db312.2.2.2.2.2.2.2.2.2.2.2.2.2.2.2.1
theorem dX11_fillAsked_22 : decode cX11_fillAsked 22 = .ok (.iconst 0, 1) := db312.2.2.2.2.2.2.2.2.2.2.2.2.2.2.2.2.1
theorem dX11_fillAsked_23 : decode cX11_fillAsked 23 = .ok (.goto 6, 3) := db312.2.2.2.2.2.2.2.2.2.2.2.2.2.2.2.2.2
theorem db313 : (decode cX11_firstRoom 0 = .ok (.aload_n 0, 1)) ∧ (decode cX11_firstRoom 1 = .ok (.bipush 100, 2)) ∧ (decode cX11_firstRoom 3 = .ok (.invokevirtual 424, 3)) ∧ (decode cX11_firstRoom 6 = .ok (.aload_n 0, 1)) ∧ (decode cX11_firstRoom 7 = .ok (.getfield 9, 3)) ∧ (decode cX11_firstRoom 10 = .ok (.iconst 1, 1)) ∧ (decode cX11_firstRoom 11 = .ok (.iaload, 1)) ∧ (decode cX11_firstRoom 12 = .ok (.if_icmp .ge 10, 3)) ∧ (decode cX11_firstRoom 22 = .ok (.iconst (-1), 1)) ∧ (decode cX11_firstRoom 23 = .ok (.ireturn, 1)) ∧ (decode cX11_firstRoom 15 = .ok (.aload_n 0, 1)) ∧ (decode cX11_firstRoom 16 = .ok (.invokevirtual 242, 3)) ∧ (decode cX11_firstRoom 19 = .ok (.ifCond .ne 5, 3)) ∧ (decode cX11_firstRoom 24 = .ok (.aload_n 0, 1)) ∧ (decode cX11_firstRoom 25 = .ok (.aload_n 0, 1)) ∧ (decode cX11_firstRoom 26 = .ok (.invokevirtual 242, 3)) ∧ (decode cX11_firstRoom 29 = .ok (.invokevirtual 424, 3)) ∧ (decode cX11_firstRoom 32 = .ok (.istore_n 1, 1)) ∧ (decode cX11_firstRoom 33 = .ok (.iconst 0, 1)) ∧ (decode cX11_firstRoom 34 = .ok (.istore_n 2, 1)) ∧ (decode cX11_firstRoom 35 = .ok (.aload_n 0, 1)) ∧ (decode cX11_firstRoom 36 = .ok (.iconst 0, 1)) ∧ (decode cX11_firstRoom 37 = .ok (.iconst 2, 1)) ∧ (decode cX11_firstRoom 38 = .ok (.invokevirtual 227, 3)) := by decide +kernel
theorem dX11_firstRoom_0 : decode cX11_firstRoom 0 = .ok (.aload_n 0, 1) := db313.1
theorem dX11_firstRoom_1 : decode cX11_firstRoom 1 = .ok (.bipush 100, 2) := db313.2.1
theorem dX11_firstRoom_3 : decode cX11_firstRoom 3 = .ok (.invokevirtual 424, 3) := db313.2.2.1
theorem dX11_firstRoom_6 : decode cX11_firstRoom 6 = .ok (.aload_n 0, 1) := db313.2.2.2.1
theorem dX11_firstRoom_7 : decode cX11_firstRoom 7 = .ok (.getfield 9, 3) := db313.2.2.2.2.1
theorem dX11_firstRoom_10 : decode cX11_firstRoom 10 = .ok (.iconst 1, 1) := db313.2.2.2.2.2.1
theorem dX11_firstRoom_11 : decode cX11_firstRoom 11 = .ok (.iaload, 1) := db313.2.2.2.2.2.2.1
theorem dX11_firstRoom_12 : decode cX11_firstRoom 12 = .ok (.if_icmp .ge 10, 3) := db313.2.2.2.2.2.2.2.1
theorem dX11_firstRoom_22 : decode cX11_firstRoom 22 = .ok (.iconst (-1), 1) := db313.2.2.2.2.2.2.2.2.1
theorem dX11_firstRoom_23 : decode cX11_firstRoom 23 = .ok (.ireturn, 1) := db313.2.2.2.2.2.2.2.2.2.1
theorem dX11_firstRoom_15 : decode cX11_firstRoom 15 = .ok (.aload_n 0, 1) := db313.2.2.2.2.2.2.2.2.2.2.1
theorem dX11_firstRoom_16 : decode cX11_firstRoom 16 = .ok (.invokevirtual 242, 3) := db313.2.2.2.2.2.2.2.2.2.2.2.1
theorem dX11_firstRoom_19 : decode cX11_firstRoom 19 = .ok (.ifCond .ne 5, 3) := db313.2.2.2.2.2.2.2.2.2.2.2.2.1
theorem dX11_firstRoom_24 : decode cX11_firstRoom 24 = .ok (.aload_n 0, 1) := db313.2.2.2.2.2.2.2.2.2.2.2.2.2.1
theorem dX11_firstRoom_25 : decode cX11_firstRoom 25 = .ok (.aload_n 0, 1) := db313.2.2.2.2.2.2.2.2.2.2.2.2.2.2.1
theorem dX11_firstRoom_26 : decode cX11_firstRoom 26 = .ok (.invokevirtual 242, 3) := db313.2.2.2.2.2.2.2.2.2.2.2.2.2.2.2.1
theorem dX11_firstRoom_29 : decode cX11_firstRoom 29 = .ok (.invokevirtual 424, 3) := db313.2.2.2.2.2.2.2.2.2.2.2.2.2.2.2.2.1
theorem dX11_firstRoom_32 : decode cX11_firstRoom 32 = .ok (.istore_n 1, 1) := db313.2.2.2.2.2.2.2.2.2.2.2.2.2.2.2.2.2.1
theorem dX11_firstRoom_33 : decode cX11_firstRoom 33 = .ok (.iconst 0, 1) := db313.2.2.2.2.2.2.2.2.2.2.2.2.2.2.2.2.2.2.1
theorem dX11_firstRoom_34 : decode cX11_firstRoom 34 = .ok (.istore_n 2, 1) := db313.2.2.2.2.2.2.2.2.2.2.2.2.2.2.2.2.2.2.2.1
theorem dX11_firstRoom_35 : decode cX11_firstRoom 35 = .ok (.aload_n 0, 1) := db313.2.2.2.2.2.2.2.2.2.2.2.2.2.2.2.2.2.2.2.2.1
theorem dX11_firstRoom_36 : decode cX11_firstRoom 36 = .ok (.iconst 0, 1) := db313.2.2.2.2.2.2.2.2.2.2.2.2.2.2.2.2.2.2.2.2.2.1
theorem dX11_firstRoom_37 : decode cX11_firstRoom 37 = .ok (.iconst 2, 1) := db313.2.2.2.2.2.2.2.2.2.2.2.2.2.2.2.2.2.2.2.2.2.2.1
theorem dX11_firstRoom_38 : decode cX11_firstRoom 38 = .ok (.invokevirtual 227, 3) := db313.2.2.2.2.2.2.2.2.2.2.2.2.2.2.2.2.2.2.2.2.2.2.2
theorem db314 : (decode cX11_firstRoom 41 = .ok (.istore_n 3, 1)) ∧ (decode cX11_firstRoom 42 = .ok (.iload_n 3, 1)) ∧ (decode cX11_firstRoom 43 = .ok (.iload_n 1, 1)) ∧ (decode cX11_firstRoom 44 = .ok (.if_icmp .gt 18, 3)) ∧ (decode cX11_firstRoom 62 = .ok (.iload_n 2, 1)) ∧ (decode cX11_firstRoom 63 = .ok (.ireturn, 1)) ∧ (decode cX11_firstRoom 47 = .ok (.iinc 2 1, 3)) ∧ (decode cX11_firstRoom 50 = .ok (.iload_n 3, 1)) ∧ (decode cX11_firstRoom 51 = .ok (.aload_n 0, 1)) ∧ (decode cX11_firstRoom 52 = .ok (.iload_n 2, 1)) ∧ (decode cX11_firstRoom 53 = .ok (.iconst 2, 1)) ∧ (decode cX11_firstRoom 54 = .ok (.invokevirtual 227, 3)) ∧ (decode cX11_firstRoom 57 = .ok (.iadd, 1)) ∧ (decode cX11_firstRoom 58 = .ok (.istore_n 3, 1)) ∧ (decode cX11_firstRoom 59 = .ok (.goto (-17), 3)) := by decide +kernel
theorem dX11_firstRoom_41 : decode cX11_firstRoom 41 = .ok (.istore_n 3, 1) := db314.1
theorem dX11_firstRoom_42 : decode cX11_firstRoom 42 = .ok (.iload_n 3, 1) := db314.2.1
theorem dX11_firstRoom_43 : decode cX11_firstRoom 43 = .ok (.iload_n 1, 1) := db314.2.2.1
theorem dX11_firstRoom_44 : decode cX11_firstRoom 44 = .ok (.if_icmp .gt 18, 3) := db314.2.2.2.1
theorem dX11_firstRoom_62 : decode cX11_firstRoom 62 = .ok (.iload_n 2, 1) := db314.2.2.2.2.1
theorem dX11_firstRoom_63 : decode cX11_firstRoom 63 = .ok (.ireturn, 1) := db314.2.2.2.2.2.1
theorem dX11_firstRoom_47 : decode cX11_firstRoom 47 = .ok (.iinc 2 1, 3) := db314.2.2.2.2.2.2.1
theorem dX11_firstRoom_50 : decode cX11_firstRoom 50 = .ok (.iload_n 3, 1) := db314.2.2.2.2.2.2.2.1
theorem dX11_firstRoom_51 : decode cX11_firstRoom 51 = .ok (.aload_n 0, 1) := db314.2.2.2.2.2.2.2.2.1
theorem dX11_firstRoom_52 : decode cX11_firstRoom 52 = .ok (.iload_n 2, 1) := db314.2.2.2.2.2.2.2.2.2.1
theorem dX11_firstRoom_53 : decode cX11_firstRoom 53 = .ok (.iconst 2, 1) := db314.2.2.2.2.2.2.2.2.2.2.1
theorem dX11_firstRoom_54 : decode cX11_firstRoom 54 = .ok (.invokevirtual 227, 3) := db314.2.2.2.2.2.2.2.2.2.2.2.1
theorem dX11_firstRoom_57 : decode cX11_firstRoom 57 = .ok (.iadd, 1) := db314.2.2.2.2.2.2.2.2.2.2.2.2.1
theorem dX11_firstRoom_58 : decode cX11_firstRoom 58 = .ok (.istore_n 3, 1) := db314.2.2.2.2.2.2.2.2.2.2.2.2.2.1
theorem dX11_firstRoom_59 : decode cX11_firstRoom 59 = .ok (.goto (-17), 3) := db314.2.2.2.2.2.2.2.2.2.2.2.2.2.2
theorem db315 : (decode cX11_follows 0 = .ok (.aload_n 0, 1)) ∧ (decode cX11_follows 1 = .ok (.iload_n 1, 1)) ∧ (decode cX11_follows 2 = .ok (.aload_n 0, 1)) ∧ (decode cX11_follows 3 = .ok (.iload_n 2, 1)) ∧ (decode cX11_follows 4 = .ok (.i2l, 1)) ∧ (decode cX11_follows 5 = .ok (.invokevirtual 89, 3)) ∧ (decode cX11_follows 8 = .ok (.invokevirtual 406, 3)) ∧ (decode cX11_follows 11 = .ok (.istore_n 3, 1)) ∧ (decode cX11_follows 12 = .ok (.iload_n 3, 1)) ∧ (decode cX11_follows 13 = .ok (.ifCond .ge 7, 3)) ∧ (decode cX11_follows 20 = .ok (.aload_n 0, 1)) ∧ (decode cX11_follows 21 = .ok (.iload_n 1, 1)) ∧ (decode cX11_follows 22 = .ok (.iload_n 2, 1)) ∧ (decode cX11_follows 23 = .ok (.invokevirtual 409, 3)) ∧ (decode cX11_follows 26 = .ok (.ireturn, 1)) ∧ (decode cX11_follows 16 = .ok (.iload_n 3, 1)) ∧ (decode cX11_follows 17 = .ok (.goto 9, 3)) := by decide +kernel
theorem dX11_follows_0 : decode cX11_follows 0 = .ok (.aload_n 0, 1) := db315.1
theorem dX11_follows_1 : decode cX11_follows 1 = .ok (.iload_n 1, 1) := db315.2.1
theorem dX11_follows_2 : decode cX11_follows 2 = .ok (.aload_n 0, 1) := db315.2.2.1
theorem dX11_follows_3 : decode cX11_follows 3 = .ok (.iload_n 2, 1) := db315.2.2.2.1
theorem dX11_follows_4 : decode cX11_follows 4 = .ok (.i2l, 1) := db315.2.2.2.2.1
theorem dX11_follows_5 : decode cX11_follows 5 = .ok (.invokevirtual 89, 3) := db315.2.2.2.2.2.1
theorem dX11_follows_8 : decode cX11_follows 8 = .ok (.invokevirtual 406, 3) := db315.2.2.2.2.2.2.1
theorem dX11_follows_11 : decode cX11_follows 11 = .ok (.istore_n 3, 1) := db315.2.2.2.2.2.2.2.1
theorem dX11_follows_12 : decode cX11_follows 12 = .ok (.iload_n 3, 1) := db315.2.2.2.2.2.2.2.2.1
theorem dX11_follows_13 : decode cX11_follows 13 = .ok (.ifCond .ge 7, 3) := db315.2.2.2.2.2.2.2.2.2.1
theorem dX11_follows_20 : decode cX11_follows 20 = .ok (.aload_n 0, 1) := db315.2.2.2.2.2.2.2.2.2.2.1
theorem dX11_follows_21 : decode cX11_follows 21 = .ok (.iload_n 1, 1) := db315.2.2.2.2.2.2.2.2.2.2.2.1
theorem dX11_follows_22 : decode cX11_follows 22 = .ok (.iload_n 2, 1) := db315.2.2.2.2.2.2.2.2.2.2.2.2.1
theorem dX11_follows_23 : decode cX11_follows 23 = .ok (.invokevirtual 409, 3) := db315.2.2.2.2.2.2.2.2.2.2.2.2.2.1
theorem dX11_follows_26 : decode cX11_follows 26 = .ok (.ireturn, 1) := db315.2.2.2.2.2.2.2.2.2.2.2.2.2.2.1
theorem dX11_follows_16 : decode cX11_follows 16 = .ok (.iload_n 3, 1) := db315.2.2.2.2.2.2.2.2.2.2.2.2.2.2.2.1
theorem dX11_follows_17 : decode cX11_follows 17 = .ok (.goto 9, 3) := db315.2.2.2.2.2.2.2.2.2.2.2.2.2.2.2.2
theorem db316 : (decode cX11_found 0 = .ok (.aload_n 0, 1)) ∧ (decode cX11_found 1 = .ok (.invokevirtual 83, 3)) ∧ (decode cX11_found 4 = .ok (.ifCond .ne 6, 3)) ∧ (decode cX11_found 10 = .ok (.aload_n 0, 1)) ∧ (decode cX11_found 11 = .ok (.invokevirtual 278, 3)) ∧ (decode cX11_found 14 = .ok (.aload_n 0, 1)) ∧ (decode cX11_found 15 = .ok (.getfield 249, 3)) ∧ (decode cX11_found 18 = .ok (.ireturn, 1)) ∧ (decode cX11_found 7 = .ok (.bipush (-2), 2)) ∧ (decode cX11_found 9 = .ok (.ireturn, 1)) := by decide +kernel
theorem dX11_found_0 : decode cX11_found 0 = .ok (.aload_n 0, 1) := db316.1
theorem dX11_found_1 : decode cX11_found 1 = .ok (.invokevirtual 83, 3) := db316.2.1
theorem dX11_found_4 : decode cX11_found 4 = .ok (.ifCond .ne 6, 3) := db316.2.2.1
theorem dX11_found_10 : decode cX11_found 10 = .ok (.aload_n 0, 1) := db316.2.2.2.1
theorem dX11_found_11 : decode cX11_found 11 = .ok (.invokevirtual 278, 3) := db316.2.2.2.2.1
theorem dX11_found_14 : decode cX11_found 14 = .ok (.aload_n 0, 1) := db316.2.2.2.2.2.1
theorem dX11_found_15 : decode cX11_found 15 = .ok (.getfield 249, 3) := db316.2.2.2.2.2.2.1
theorem dX11_found_18 : decode cX11_found 18 = .ok (.ireturn, 1) := db316.2.2.2.2.2.2.2.1
theorem dX11_found_7 : decode cX11_found 7 = .ok (.bipush (-2), 2) := db316.2.2.2.2.2.2.2.2.1
theorem dX11_found_9 : decode cX11_found 9 = .ok (.ireturn, 1) := db316.2.2.2.2.2.2.2.2.2
