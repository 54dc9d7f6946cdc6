theorem db633 : (decode cX7_isWithin 30 = .ok (.lcmp, 1)) ∧ (decode cX7_isWithin 31 = .ok (.ifCond .le 5, 3)) ∧ (decode cX7_isWithin 36 = .ok (.iinc 3 1, 3)) ∧ (decode cX7_isWithin 39 = .ok (.goto (-37), 3)) := by decide +kernel
theorem dX7_isWithin_30 : decode cX7_isWithin 30 = .ok (.lcmp, 1) := db633.1
theorem dX7_isWithin_31 : decode cX7_isWithin 31 = .ok (.ifCond .le 5, 3) := db633.2.1
theorem dX7_isWithin_36 : decode cX7_isWithin 36 = .ok (.iinc 3 1, 3) := db633.2.2.1
theorem dX7_isWithin_39 : decode cX7_isWithin 39 = .ok (.goto (-37), 3) := db633.2.2.2
theorem db634 : (decode cX7_make 0 = .ok (.aload_n 0, 1)) ∧ (decode cX7_make 1 = .ok (.iconst 1, 1)) ∧ (decode cX7_make 2 = .ok (.putfield 15, 3)) ∧ (decode cX7_make 5 = .ok (.aload_n 0, 1)) ∧ (decode cX7_make 6 = .ok (.iload_n 1, 1)) ∧ (decode cX7_make 7 = .ok (.putfield 19, 3)) ∧ (decode cX7_make 10 = .ok (.aload_n 0, 1)) ∧ (decode cX7_make 11 = .ok (.iload_n 2, 1)) ∧ (decode cX7_make 12 = .ok (.putfield 23, 3)) ∧ (decode cX7_make 15 = .ok (.aload_n 0, 1)) ∧ (decode cX7_make 16 = .ok (.getfield 9, 3)) ∧ (decode cX7_make 19 = .ok (.lconst 0, 1)) ∧ (decode cX7_make 20 = .ok (.invokestatic 26, 3)) ∧ (decode cX7_make 23 = .ok (.return_, 1)) := by decide +kernel
theorem dX7_make_0 : decode cX7_make 0 = .ok (.aload_n 0, 1) := db634.1
theorem dX7_make_1 : decode cX7_make 1 = .ok (.iconst 1, 1) := db634.2.1
theorem dX7_make_2 : decode cX7_make 2 = .ok (.putfield 15, 3) := db634.2.2.1
theorem dX7_make_5 : decode cX7_make 5 = .ok (.aload_n 0, 1) := db634.2.2.2.1
theorem dX7_make_6 : decode cX7_make 6 = .ok (.iload_n 1, 1) := db634.2.2.2.2.1
theorem dX7_make_7 : decode cX7_make 7 = .ok (.putfield 19, 3) := db634.2.2.2.2.2.1
theorem dX7_make_10 : decode cX7_make 10 = .ok (.aload_n 0, 1) := db634.2.2.2.2.2.2.1
theorem dX7_make_11 : decode cX7_make 11 = .ok (.iload_n 2, 1) := db634.2.2.2.2.2.2.2.1
theorem dX7_make_12 : decode cX7_make 12 = .ok (.putfield 23, 3) := db634.2.2.2.2.2.2.2.2.1
theorem dX7_make_15 : decode cX7_make 15 = .ok (.aload_n 0, 1) := db634.2.2.2.2.2.2.2.2.2.1
theorem dX7_make_16 : decode cX7_make 16 = .ok (.getfield 9, 3) := db634.2.2.2.2.2.2.2.2.2.2.1
theorem dX7_make_19 : decode cX7_make 19 = .ok (.lconst 0, 1) := db634.2.2.2.2.2.2.2.2.2.2.2.1
theorem dX7_make_20 : decode cX7_make 20 = .ok (.invokestatic 26, 3) := db634.2.2.2.2.2.2.2.2.2.2.2.2.1
theorem dX7_make_23 : decode cX7_make 23 = .ok (.return_, 1) := db634.2.2.2.2.2.2.2.2.2.2.2.2.2
theorem db635 : (decode cX7_roomAt 0 = .ok (.iload_n 1, 1)) ∧ (decode cX7_roomAt 1 = .ok (.ifCond .lt 21, 3)) ∧ (decode cX7_roomAt 22 = .ok (.iconst (-1), 1)) ∧ (decode cX7_roomAt 23 = .ok (.ireturn, 1)) ∧ (decode cX7_roomAt 4 = .ok (.iload_n 1, 1)) ∧ (decode cX7_roomAt 5 = .ok (.aload_n 0, 1)) ∧ (decode cX7_roomAt 6 = .ok (.getfield 23, 3)) ∧ (decode cX7_roomAt 9 = .ok (.if_icmp .ge 13, 3)) ∧ (decode cX7_roomAt 12 = .ok (.aload_n 0, 1)) ∧ (decode cX7_roomAt 13 = .ok (.getfield 9, 3)) ∧ (decode cX7_roomAt 16 = .ok (.iload_n 1, 1)) ∧ (decode cX7_roomAt 17 = .ok (.laload, 1)) ∧ (decode cX7_roomAt 18 = .ok (.l2i, 1)) ∧ (decode cX7_roomAt 19 = .ok (.goto 4, 3)) := by decide +kernel
theorem dX7_roomAt_0 : decode cX7_roomAt 0 = .ok (.iload_n 1, 1) := db635.1
theorem dX7_roomAt_1 : decode cX7_roomAt 1 = .ok (.ifCond .lt 21, 3) := db635.2.1
theorem dX7_roomAt_22 : decode cX7_roomAt 22 = .ok (.iconst (-1), 1) := db635.2.2.1
theorem dX7_roomAt_23 : decode cX7_roomAt 23 = .ok (.ireturn, 1) := db635.2.2.2.1
theorem dX7_roomAt_4 : decode cX7_roomAt 4 = .ok (.iload_n 1, 1) := db635.2.2.2.2.1
theorem dX7_roomAt_5 : decode cX7_roomAt 5 = .ok (.aload_n 0, 1) := db635.2.2.2.2.2.1
theorem dX7_roomAt_6 : decode cX7_roomAt 6 = .ok (.getfield 23, 3) := db635.2.2.2.2.2.2.1
theorem dX7_roomAt_9 : decode cX7_roomAt 9 = .ok (.if_icmp .ge 13, 3) := db635.2.2.2.2.2.2.2.1
theorem dX7_roomAt_12 : decode cX7_roomAt 12 = .ok (.aload_n 0, 1) := db635.2.2.2.2.2.2.2.2.1
theorem dX7_roomAt_13 : decode cX7_roomAt 13 = .ok (.getfield 9, 3) := db635.2.2.2.2.2.2.2.2.2.1
theorem dX7_roomAt_16 : decode cX7_roomAt 16 = .ok (.iload_n 1, 1) := db635.2.2.2.2.2.2.2.2.2.2.1
theorem dX7_roomAt_17 : decode cX7_roomAt 17 = .ok (.laload, 1) := db635.2.2.2.2.2.2.2.2.2.2.2.1
theorem dX7_roomAt_18 : decode cX7_roomAt 18 = .ok (.l2i, 1) := db635.2.2.2.2.2.2.2.2.2.2.2.2.1
theorem dX7_roomAt_19 : decode cX7_roomAt 19 = .ok (.goto 4, 3) := db635.2.2.2.2.2.2.2.2.2.2.2.2.2
theorem db636 : (decode cX8_copyFrom 0 = .ok (.aload_n 0, 1)) ∧ (decode cX8_copyFrom 1 = .ok (.getfield 12, 3)) ∧ (decode cX8_copyFrom 4 = .ok (.aload_n 1, 1)) ∧ (decode cX8_copyFrom 5 = .ok (.getfield 12, 3)) ∧ (decode cX8_copyFrom 8 = .ok (.invokevirtual 22, 3)) ∧ (decode cX8_copyFrom 11 = .ok (.aload_n 1, 1)) ∧ (decode cX8_copyFrom 12 = .ok (.getfield 18, 3)) ∧ (decode cX8_copyFrom 15 = .ok (.iconst 0, 1)) ∧ (decode cX8_copyFrom 16 = .ok (.aload_n 0, 1)) ∧ (decode cX8_copyFrom 17 = .ok (.getfield 18, 3)) ∧ (decode cX8_copyFrom 20 = .ok (.iconst 0, 1)) ∧ (decode cX8_copyFrom 21 = .ok (.bipush 60, 2)) ∧ (decode cX8_copyFrom 23 = .ok (.invokestatic 26, 3)) ∧ (decode cX8_copyFrom 26 = .ok (.aload_n 0, 1)) ∧ (decode cX8_copyFrom 27 = .ok (.aload_n 1, 1)) ∧ (decode cX8_copyFrom 28 = .ok (.getfield 32, 3)) ∧ (decode cX8_copyFrom 31 = .ok (.putfield 32, 3)) ∧ (decode cX8_copyFrom 34 = .ok (.return_, 1)) := by decide +kernel
theorem dX8_copyFrom_0 : decode cX8_copyFrom 0 = .ok (.aload_n 0, 1) := db636.1
theorem dX8_copyFrom_1 : decode cX8_copyFrom 1 = .ok (.getfield 12, 3) := db636.2.1
theorem dX8_copyFrom_4 : decode cX8_copyFrom 4 = .ok (.aload_n 1, 1) := db636.2.2.1
theorem dX8_copyFrom_5 : decode cX8_copyFrom 5 = .ok (.getfield 12, 3) := db636.2.2.2.1
theorem dX8_copyFrom_8 : decode cX8_copyFrom 8 = .ok (.invokevirtual 22, 3) := db636.2.2.2.2.1
theorem dX8_copyFrom_11 : decode cX8_copyFrom 11 = .ok (.aload_n 1, 1) := db636.2.2.2.2.2.1
theorem dX8_copyFrom_12 : decode cX8_copyFrom 12 = .ok (.getfield 18, 3) := db636.2.2.2.2.2.2.1
theorem dX8_copyFrom_15 : decode cX8_copyFrom 15 = .ok (.iconst 0, 1) := db636.2.2.2.2.2.2.2.1
theorem dX8_copyFrom_16 : decode cX8_copyFrom 16 = .ok (.aload_n 0, 1) := db636.2.2.2.2.2.2.2.2.1
theorem dX8_copyFrom_17 : decode cX8_copyFrom 17 = .ok (.getfield 18, 3) := db636.2.2.2.2.2.2.2.2.2.1
theorem dX8_copyFrom_20 : decode cX8_copyFrom 20 = .ok (.iconst 0, 1) := db636.2.2.2.2.2.2.2.2.2.2.1
theorem dX8_copyFrom_21 : decode cX8_copyFrom 21 = .ok (.bipush 60, 2) := db636.2.2.2.2.2.2.2.2.2.2.2.1
theorem dX8_copyFrom_23 : decode cX8_copyFrom 23 = .ok (.invokestatic 26, 3) := db636.2.2.2.2.2.2.2.2.2.2.2.2.1
theorem dX8_copyFrom_26 : decode cX8_copyFrom 26 = .ok (.aload_n 0, 1) := db636.2.2.2.2.2.2.2.2.2.2.2.2.2.1
theorem dX8_copyFrom_27 : decode cX8_copyFrom 27 = .ok (.aload_n 1, 1) := db636.2.2.2.2.2.2.2.2.2.2.2.2.2.2.1
theorem dX8_copyFrom_28 : decode cX8_copyFrom 28 = .ok (.getfield 32, 3) := db636.2.2.2.2.2.2.2.2.2.2.2.2.2.2.2.1
theorem dX8_copyFrom_31 : decode cX8_copyFrom 31 = .ok (.putfield 32, 3) := db636.2.2.2.2.2.2.2.2.2.2.2.2.2.2.2.2.1
theorem dX8_copyFrom_34 : decode cX8_copyFrom 34 = .ok (.return_, 1) := db636.2.2.2.2.2.2.2.2.2.2.2.2.2.2.2.2.2
theorem db637 : (decode cX8_init 0 = .ok (.aload_n 0, 1)) ∧ (decode cX8_init 1 = .ok (.invokespecial 3, 3)) ∧ (decode cX8_init 4 = .ok (.aload_n 0, 1)) ∧ (decode cX8_init 5 = .ok (.new 9, 3)) ∧ (decode cX8_init 8 = .ok (.dup, 1)) ∧ (decode cX8_init 9 = .ok (.invokespecial 11, 3)) ∧ (decode cX8_init 12 = .ok (.putfield 12, 3)) ∧ (decode cX8_init 15 = .ok (.aload_n 0, 1)) ∧ (decode cX8_init 16 = .ok (.bipush 60, 2)) ∧ (decode cX8_init 18 = .ok (.newarray .int, 2)) ∧ (decode cX8_init 20 = .ok (.putfield 18, 3)) ∧ (decode cX8_init 23 = .ok (.return_, 1)) := by decide +kernel
theorem dX8_init_0 : decode cX8_init 0 = .ok (.aload_n 0, 1) := db637.1
theorem dX8_init_1 : decode cX8_init 1 = .ok (.invokespecial 3, 3) := db637.2.1
theorem dX8_init_4 : decode cX8_init 4 = .ok (.aload_n 0, 1) := db637.2.2.1
theorem dX8_init_5 : decode cX8_init 5 = .ok (.new 9, 3) := db637.2.2.2.1
theorem dX8_init_8 : decode cX8_init 8 = .ok (.dup, 1) := db637.2.2.2.2.1
theorem dX8_init_9 : decode cX8_init 9 = .ok (.invokespecial 11, 3) := db637.2.2.2.2.2.1
theorem dX8_init_12 : decode cX8_init 12 = .ok (.putfield 12, 3) := db637.2.2.2.2.2.2.1
theorem dX8_init_15 : decode cX8_init 15 = .ok (.aload_n 0, 1) := db637.2.2.2.2.2.2.2.1
theorem dX8_init_16 : decode cX8_init 16 = .ok (.bipush 60, 2) := db637.2.2.2.2.2.2.2.2.1
theorem dX8_init_18 : decode cX8_init 18 = .ok (.newarray .int, 2) := db637.2.2.2.2.2.2.2.2.2.1
theorem dX8_init_20 : decode cX8_init 20 = .ok (.putfield 18, 3) := db637.2.2.2.2.2.2.2.2.2.2.1
theorem dX8_init_23 : decode cX8_init 23 = .ok (.return_, 1) := db637.2.2.2.2.2.2.2.2.2.2.2
theorem db638 : (decode cX9_at 0 = .ok (.iload_n 1, 1)) ∧ (decode cX9_at 1 = .ok (.ifCond .lt 24, 3)) ∧ (decode cX9_at 25 = .ok (.iconst 0, 1)) ∧ (decode cX9_at 26 = .ok (.ireturn, 1)) ∧ (decode cX9_at 4 = .ok (.iload_n 1, 1)) ∧ (decode cX9_at 5 = .ok (.aload_n 0, 1)) ∧ (decode cX9_at 6 = .ok (.getfield 15, 3)) ∧ (decode cX9_at 9 = .ok (.if_icmp .ge 16, 3)) ∧ (decode cX9_at 12 = .ok (.aload_n 0, 1)) ∧ (decode cX9_at 13 = .ok (.getfield 9, 3)) ∧ (decode cX9_at 16 = .ok (.iload_n 1, 1)) ∧ (decode cX9_at 17 = .ok (.baload, 1)) ∧ (decode cX9_at 18 = .ok (.sipush 255, 3)) ∧ (decode cX9_at 21 = .ok (.iand, 1)) ∧ (decode cX9_at 22 = .ok (.goto 4, 3)) := by decide +kernel
theorem dX9_at_0 : decode cX9_at 0 = .ok (.iload_n 1, 1) := db638.1
theorem dX9_at_1 : decode cX9_at 1 = .ok (.ifCond .lt 24, 3) := db638.2.1
theorem dX9_at_25 : decode cX9_at 25 = .ok (.iconst 0, 1) := db638.2.2.1
theorem dX9_at_26 : decode cX9_at 26 = .ok (.ireturn, 1) := db638.2.2.2.1
theorem dX9_at_4 : decode cX9_at 4 = .ok (.iload_n 1, 1) := db638.2.2.2.2.1
theorem dX9_at_5 : decode cX9_at 5 = .ok (.aload_n 0, 1) := db638.2.2.2.2.2.1
theorem dX9_at_6 : decode cX9_at 6 = .ok (.getfield 15, 3) := db638.2.2.2.2.2.2.1
theorem dX9_at_9 : decode cX9_at 9 = .ok (.if_icmp .ge 16, 3) := db638.2.2.2.2.2.2.2.1
theorem dX9_at_12 : decode cX9_at 12 = .ok (.aload_n 0, 1) := db638.2.2.2.2.2.2.2.2.1
theorem dX9_at_13 : decode cX9_at 13 = .ok (.getfield 9, 3) := db638.2.2.2.2.2.2.2.2.2.1
theorem dX9_at_16 : decode cX9_at 16 = .ok (.iload_n 1, 1) := db638.2.2.2.2.2.2.2.2.2.2.1
theorem dX9_at_17 : decode cX9_at 17 = .ok (.baload, 1) := db638.2.2.2.2.2.2.2.2.2.2.2.1
theorem dX9_at_18 : decode cX9_at 18 = .ok (.sipush 255, 3) := db638.2.2.2.2.2.2.2.2.2.2.2.2.1
theorem dX9_at_21 : decode cX9_at 21 = .ok (.iand, 1) := db638.2.2.2.2.2.2.2.2.2.2.2.2.2.1
theorem dX9_at_22 : decode cX9_at 22 = .ok (.goto 4, 3) := db638.2.2.2.2.2.2.2.2.2.2.2.2.2.2
theorem db639 : (decode cX9_init 0 = .ok (.aload_n 0, 1)) ∧ (decode cX9_init 1 = .ok (.invokespecial 3, 3)) ∧ (decode cX9_init 4 = .ok (.aload_n 0, 1)) ∧ (decode cX9_init 5 = .ok (.sipush 900, 3)) ∧ (decode cX9_init 8 = .ok (.newarray .byte, 2)) ∧ (decode cX9_init 10 = .ok (.putfield 9, 3)) ∧ (decode cX9_init 13 = .ok (.return_, 1)) := by decide +kernel
theorem dX9_init_0 : decode cX9_init 0 = .ok (.aload_n 0, 1) := db639.1
theorem dX9_init_1 : decode cX9_init 1 = .ok (.invokespecial 3, 3) := db639.2.1
theorem dX9_init_4 : decode cX9_init 4 = .ok (.aload_n 0, 1) := db639.2.2.1
theorem dX9_init_5 : decode cX9_init 5 = .ok (.sipush 900, 3) := db639.2.2.2.1
theorem dX9_init_8 : decode cX9_init 8 = .ok (.newarray .byte, 2) := db639.2.2.2.2.1
theorem dX9_init_10 : decode cX9_init 10 = .ok (.putfield 9, 3) := db639.2.2.2.2.2.1
theorem dX9_init_13 : decode cX9_init 13 = .ok (.return_, 1) := db639.2.2.2.2.2.2
theorem db640 : (decode cX9_push 0 = .ok (.bipush 24, 2)) ∧ (decode cX9_push 2 = .ok (.istore_n 2, 1)) ∧ (decode cX9_push 3 = .ok (.iload_n 2, 1)) ∧ (decode cX9_push 4 = .ok (.ifCond .lt 42, 3)) ∧ (decode cX9_push 46 = .ok (.return_, 1)) ∧ (decode cX9_push 7 = .ok (.aload_n 0, 1)) ∧ (decode cX9_push 8 = .ok (.getfield 15, 3)) ∧ (decode cX9_push 11 = .ok (.sipush 900, 3)) ∧ (decode cX9_push 14 = .ok (.if_icmp .ge 32, 3)) ∧ (decode cX9_push 17 = .ok (.aload_n 0, 1)) ∧ (decode cX9_push 18 = .ok (.getfield 9, 3)) ∧ (decode cX9_push 21 = .ok (.aload_n 0, 1)) ∧ (decode cX9_push 22 = .ok (.getfield 15, 3)) ∧ (decode cX9_push 25 = .ok (.iload_n 1, 1)) ∧ (decode cX9_push 26 = .ok (.iload_n 2, 1)) ∧ (decode cX9_push 27 = .ok (.ishr, 1)) ∧ (decode cX9_push 28 = .ok (.i2b, 1)) ∧ (decode cX9_push 29 = .ok (.bastore, 1)) ∧ (decode cX9_push 30 = .ok (.aload_n 0, 1)) ∧ (decode cX9_push 31 = .ok (.dup, 1)) ∧ (decode cX9_push 32 = .ok (.getfield 15, 3)) ∧ (decode cX9_push 35 = .ok (.iconst 1, 1)) ∧ (decode cX9_push 36 = .ok (.iadd, 1)) ∧ (decode cX9_push 37 = .ok (.putfield 15, 3)) := by decide +kernel
theorem dX9_push_0 : decode cX9_push 0 = .ok (.bipush 24, 2) := db640.1
theorem dX9_push_2 : decode cX9_push 2 = .ok (.istore_n 2, 1) := db640.2.1
theorem dX9_push_3 : decode cX9_push 3 = .ok (.iload_n 2, 1) := db640.2.2.1
theorem dX9_push_4 : decode cX9_push 4 = .ok (.ifCond .lt 42, 3) := db640.2.2.2.1
theorem dX9_push_46 : decode cX9_push 46 = .ok (.return_, 1) := db640.2.2.2.2.1
theorem dX9_push_7 : decode cX9_push 7 = .ok (.aload_n 0, 1) := db640.2.2.2.2.2.1
theorem dX9_push_8 : decode cX9_push 8 = .ok (.getfield 15, 3) := db640.2.2.2.2.2.2.1
theorem dX9_push_11 : decode cX9_push 11 = .ok (.sipush 900, 3) := db640.2.2.2.2.2.2.2.1
theorem dX9_push_14 : decode cX9_push 14 = .ok (.if_icmp .ge 32, 3) := db640.2.2.2.2.2.2.2.2.1
theorem dX9_push_17 : decode cX9_push 17 = .ok (.aload_n 0, 1) := db640.2.2.2.2.2.2.2.2.2.1
theorem dX9_push_18 : decode cX9_push 18 = .ok (.getfield 9, 3) := db640.2.2.2.2.2.2.2.2.2.2.1
theorem dX9_push_21 : decode cX9_push 21 = .ok (.aload_n 0, 1) := db640.2.2.2.2.2.2.2.2.2.2.2.1
theorem dX9_push_22 : decode cX9_push 22 = .ok (.getfield 15, 3) := db640.2.2.2.2.2.2.2.2.2.2.2.2.1
theorem dX9_push_25 : decode cX9_push 25 = .ok (.iload_n 1, 1) := db640.2.2.2.2.2.2.2.2.2.2.2.2.2.1
theorem dX9_push_26 : decode cX9_push 26 = .ok (.iload_n 2, 1) := db640.2.2.2.2.2.2.2.2.2.2.2.2.2.2.1
theorem dX9_push_27 : decode cX9_push 27 = .ok (.ishr, 1) := db640.2.2.2.2.2.2.2.2.2.2.2.2.2.2.2.1
theorem dX9_push_28 : decode cX9_push 28 = .ok (.i2b, 1) := db640.2.2.2.2.2.2.2.2.2.2.2.2.2.2.2.2.1
theorem dX9_push_29 : decode cX9_push 29 = .ok (.bastore, 1) := db640.2.2.2.2.2.2.2.2.2.2.2.2.2.2.2.2.2.1
theorem dX9_push_30 : decode cX9_push 30 = .ok (.aload_n 0, 1) := db640.2.2.2.2.2.2.2.2.2.2.2.2.2.2.2.2.2.2.1
theorem dX9_push_31 : decode cX9_push 31 = .ok (.dup, 1) := db640.2.2.2.2.2.2.2.2.2.2.2.2.2.2.2.2.2.2.2.1
theorem dX9_push_32 : decode cX9_push 32 = .ok (.getfield 15, 3) := db640.2.2.2.2.2.2.2.2.2.2.2.2.2.2.2.2.2.2.2.2.1
theorem dX9_push_35 : decode cX9_push 35 = .ok (.iconst 1, 1) := db640.2.2.2.2.2.2.2.2.2.2.2.2.2.2.2.2.2.2.2.2.2.1
theorem dX9_push_36 : decode cX9_push 36 = .ok (.iadd, 1) := db640.2.2.2.2.2.2.2.2.2.2.2.2.2.2.2.2.2.2.2.2.2.2.1
theorem dX9_push_37 : decode cX9_push 37 = .ok (.putfield 15, 3) := db640.2.2.2.2.2.2.2.2.2.2.2.2.2.2.2.2.2.2.2.2.2.2.2
theorem db641 : (decode cX9_push 40 = .ok (.iinc 2 (-8), 3)) ∧ (decode cX9_push 43 = .ok (.goto (-40), 3)) := by decide +kernel
theorem dX9_push_40 : decode cX9_push 40 = .ok (.iinc 2 (-8), 3) := db641.1
theorem dX9_push_43 : decode cX9_push 43 = .ok (.goto (-40), 3) := db641.2
