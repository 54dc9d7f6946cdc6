theorem db553 : (decode cX4_fewestFor 0 = .ok (.iconst 1, 1)) ∧ (decode cX4_fewestFor 1 = .ok (.istore_n 3, 1)) ∧ (decode cX4_fewestFor 2 = .ok (.iload_n 3, 1)) ∧ (decode cX4_fewestFor 3 = .ok (.iload_n 2, 1)) ∧ (decode cX4_fewestFor 31 = .ok (.iload_n 2, 1)) ∧ (decode cX4_fewestFor 32 = .ok (.iconst 1, 1)) ∧ (decode cX4_fewestFor 33 = .ok (.if_icmp .lt 18, 3)) ∧ (decode cX4_fewestFor 36 = .ok (.iload_n 2, 1)) ∧ (decode cX4_fewestFor 37 = .ok (.bipush 64, 2)) ∧ (decode cX4_fewestFor 39 = .ok (.if_icmp .ge 12, 3)) ∧ (decode cX4_fewestFor 42 = .ok (.aload_n 0, 1)) ∧ (decode cX4_fewestFor 43 = .ok (.getfield 11, 3)) ∧ (decode cX4_fewestFor 46 = .ok (.iload_n 2, 1)) ∧ (decode cX4_fewestFor 47 = .ok (.iaload, 1)) ∧ (decode cX4_fewestFor 48 = .ok (.goto 4, 3)) ∧ (decode cX4_fewestFor 52 = .ok (.ireturn, 1)) ∧ (decode cX4_fewestFor 4 = .ok (.if_icmp .gt 27, 3)) ∧ (decode cX4_fewestFor 7 = .ok (.iload_n 3, 1)) ∧ (decode cX4_fewestFor 8 = .ok (.bipush 64, 2)) ∧ (decode cX4_fewestFor 10 = .ok (.if_icmp .ge 21, 3)) ∧ (decode cX4_fewestFor 13 = .ok (.aload_n 0, 1)) ∧ (decode cX4_fewestFor 14 = .ok (.getfield 11, 3)) ∧ (decode cX4_fewestFor 17 = .ok (.iload_n 3, 1)) ∧ (decode cX4_fewestFor 18 = .ok (.aload_n 0, 1)) := by decide +kernel
theorem dX4_fewestFor_0 : decode cX4_fewestFor 0 = .ok (.iconst 1, 1) := db553.1
theorem dX4_fewestFor_1 : decode cX4_fewestFor 1 = .ok (.istore_n 3, 1) := db553.2.1
theorem dX4_fewestFor_2 : decode cX4_fewestFor 2 = .ok (.iload_n 3, 1) := db553.2.2.1
theorem dX4_fewestFor_3 : decode cX4_fewestFor 3 = .ok (.iload_n 2, 1) := db553.2.2.2.1
theorem dX4_fewestFor_31 : decode cX4_fewestFor 31 = .ok (.iload_n 2, 1) := db553.2.2.2.2.1
theorem dX4_fewestFor_32 : decode cX4_fewestFor 32 = .ok (.iconst 1, 1) := db553.2.2.2.2.2.1
theorem dX4_fewestFor_33 : decode cX4_fewestFor 33 = .ok (.if_icmp .lt 18, 3) := db553.2.2.2.2.2.2.1
theorem dX4_fewestFor_36 : decode cX4_fewestFor 36 = .ok (.iload_n 2, 1) := db553.2.2.2.2.2.2.2.1
theorem dX4_fewestFor_37 : decode cX4_fewestFor 37 = .ok (.bipush 64, 2) := db553.2.2.2.2.2.2.2.2.1
theorem dX4_fewestFor_39 : decode cX4_fewestFor 39 = .ok (.if_icmp .ge 12, 3) := db553.2.2.2.2.2.2.2.2.2.1
theorem dX4_fewestFor_42 : decode cX4_fewestFor 42 = .ok (.aload_n 0, 1) := db553.2.2.2.2.2.2.2.2.2.2.1
theorem dX4_fewestFor_43 : decode cX4_fewestFor 43 = .ok (.getfield 11, 3) := db553.2.2.2.2.2.2.2.2.2.2.2.1
theorem dX4_fewestFor_46 : decode cX4_fewestFor 46 = .ok (.iload_n 2, 1) := db553.2.2.2.2.2.2.2.2.2.2.2.2.1
theorem dX4_fewestFor_47 : decode cX4_fewestFor 47 = .ok (.iaload, 1) := db553.2.2.2.2.2.2.2.2.2.2.2.2.2.1
theorem dX4_fewestFor_48 : decode cX4_fewestFor 48 = .ok (.goto 4, 3) := db553.2.2.2.2.2.2.2.2.2.2.2.2.2.2.1
theorem dX4_fewestFor_52 : decode cX4_fewestFor 52 = .ok (.ireturn, 1) := db553.2.2.2.2.2.2.2.2.2.2.2.2.2.2.2.1
theorem dX4_fewestFor_4 : decode cX4_fewestFor 4 = .ok (.if_icmp .gt 27, 3) := db553.2.2.2.2.2.2.2.2.2.2.2.2.2.2.2.2.1
theorem dX4_fewestFor_7 : decode cX4_fewestFor 7 = .ok (.iload_n 3, 1) := db553.2.2.2.2.2.2.2.2.2.2.2.2.2.2.2.2.2.1
theorem dX4_fewestFor_8 : decode cX4_fewestFor 8 = .ok (.bipush 64, 2) := db553.2.2.2.2.2.2.2.2.2.2.2.2.2.2.2.2.2.2.1
theorem dX4_fewestFor_10 : decode cX4_fewestFor 10 = .ok (.if_icmp .ge 21, 3) := db553.2.2.2.2.2.2.2.2.2.2.2.2.2.2.2.2.2.2.2.1
theorem dX4_fewestFor_13 : decode cX4_fewestFor 13 = .ok (.aload_n 0, 1) := db553.2.2.2.2.2.2.2.2.2.2.2.2.2.2.2.2.2.2.2.2.1
theorem dX4_fewestFor_14 : decode cX4_fewestFor 14 = .ok (.getfield 11, 3) := db553.2.2.2.2.2.2.2.2.2.2.2.2.2.2.2.2.2.2.2.2.2.1
theorem dX4_fewestFor_17 : decode cX4_fewestFor 17 = .ok (.iload_n 3, 1) := db553.2.2.2.2.2.2.2.2.2.2.2.2.2.2.2.2.2.2.2.2.2.2.1
theorem dX4_fewestFor_18 : decode cX4_fewestFor 18 = .ok (.aload_n 0, 1) := db553.2.2.2.2.2.2.2.2.2.2.2.2.2.2.2.2.2.2.2.2.2.2.2
theorem db554 : (decode cX4_fewestFor 19 = .ok (.aload_n 1, 1)) ∧ (decode cX4_fewestFor 20 = .ok (.iload_n 3, 1)) ∧ (decode cX4_fewestFor 21 = .ok (.invokevirtual 15, 3)) ∧ (decode cX4_fewestFor 24 = .ok (.iastore, 1)) ∧ (decode cX4_fewestFor 25 = .ok (.iinc 3 1, 3)) ∧ (decode cX4_fewestFor 28 = .ok (.goto (-26), 3)) := by decide +kernel
theorem dX4_fewestFor_19 : decode cX4_fewestFor 19 = .ok (.aload_n 1, 1) := db554.1
theorem dX4_fewestFor_20 : decode cX4_fewestFor 20 = .ok (.iload_n 3, 1) := db554.2.1
theorem dX4_fewestFor_21 : decode cX4_fewestFor 21 = .ok (.invokevirtual 15, 3) := db554.2.2.1
theorem dX4_fewestFor_24 : decode cX4_fewestFor 24 = .ok (.iastore, 1) := db554.2.2.2.1
theorem dX4_fewestFor_25 : decode cX4_fewestFor 25 = .ok (.iinc 3 1, 3) := db554.2.2.2.2.1
theorem dX4_fewestFor_28 : decode cX4_fewestFor 28 = .ok (.goto (-26), 3) := db554.2.2.2.2.2
theorem db555 : (decode cX4_fewestOf 0 = .ok (.iload_n 2, 1)) ∧ (decode cX4_fewestOf 1 = .ok (.invokestatic 26, 3)) ∧ (decode cX4_fewestOf 4 = .ok (.iconst 1, 1)) ∧ (decode cX4_fewestOf 5 = .ok (.if_icmp .ne 5, 3)) ∧ (decode cX4_fewestOf 10 = .ok (.iconst (-1), 1)) ∧ (decode cX4_fewestOf 11 = .ok (.istore_n 3, 1)) ∧ (decode cX4_fewestOf 12 = .ok (.iconst 0, 1)) ∧ (decode cX4_fewestOf 13 = .ok (.istore 4, 2)) ∧ (decode cX4_fewestOf 15 = .ok (.iload 4, 2)) ∧ (decode cX4_fewestOf 17 = .ok (.bipush 6, 2)) ∧ (decode cX4_fewestOf 19 = .ok (.if_icmp .ge 39, 3)) ∧ (decode cX4_fewestOf 58 = .ok (.iload_n 3, 1)) ∧ (decode cX4_fewestOf 59 = .ok (.ireturn, 1)) ∧ (decode cX4_fewestOf 22 = .ok (.aload_n 0, 1)) ∧ (decode cX4_fewestOf 23 = .ok (.aload_n 1, 1)) ∧ (decode cX4_fewestOf 24 = .ok (.iload_n 2, 1)) ∧ (decode cX4_fewestOf 25 = .ok (.iload 4, 2)) ∧ (decode cX4_fewestOf 27 = .ok (.invokevirtual 22, 3)) ∧ (decode cX4_fewestOf 30 = .ok (.istore 5, 2)) ∧ (decode cX4_fewestOf 32 = .ok (.iload 5, 2)) ∧ (decode cX4_fewestOf 34 = .ok (.iconst (-1), 1)) ∧ (decode cX4_fewestOf 52 = .ok (.iinc 4 1, 3)) ∧ (decode cX4_fewestOf 55 = .ok (.goto (-40), 3)) ∧ (decode cX4_fewestOf 35 = .ok (.if_icmp .eq 17, 3)) := by decide +kernel
theorem dX4_fewestOf_0 : decode cX4_fewestOf 0 = .ok (.iload_n 2, 1) := db555.1
theorem dX4_fewestOf_1 : decode cX4_fewestOf 1 = .ok (.invokestatic 26, 3) := db555.2.1
theorem dX4_fewestOf_4 : decode cX4_fewestOf 4 = .ok (.iconst 1, 1) := db555.2.2.1
theorem dX4_fewestOf_5 : decode cX4_fewestOf 5 = .ok (.if_icmp .ne 5, 3) := db555.2.2.2.1
theorem dX4_fewestOf_10 : decode cX4_fewestOf 10 = .ok (.iconst (-1), 1) := db555.2.2.2.2.1
theorem dX4_fewestOf_11 : decode cX4_fewestOf 11 = .ok (.istore_n 3, 1) := db555.2.2.2.2.2.1
theorem dX4_fewestOf_12 : decode cX4_fewestOf 12 = .ok (.iconst 0, 1) := db555.2.2.2.2.2.2.1
theorem dX4_fewestOf_13 : decode cX4_fewestOf 13 = .ok (.istore 4, 2) := db555.2.2.2.2.2.2.2.1
theorem dX4_fewestOf_15 : decode cX4_fewestOf 15 = .ok (.iload 4, 2) := db555.2.2.2.2.2.2.2.2.1
theorem dX4_fewestOf_17 : decode cX4_fewestOf 17 = .ok (.bipush 6, 2) := db555.2.2.2.2.2.2.2.2.2.1
theorem dX4_fewestOf_19 : decode cX4_fewestOf 19 = .ok (.if_icmp .ge 39, 3) := db555.2.2.2.2.2.2.2.2.2.2.1
theorem dX4_fewestOf_58 : decode cX4_fewestOf 58 = .ok (.iload_n 3, 1) := db555.2.2.2.2.2.2.2.2.2.2.2.1
theorem dX4_fewestOf_59 : decode cX4_fewestOf 59 = .ok (.ireturn, 1) := db555.2.2.2.2.2.2.2.2.2.2.2.2.1
theorem dX4_fewestOf_22 : decode cX4_fewestOf 22 = .ok (.aload_n 0, 1) := db555.2.2.2.2.2.2.2.2.2.2.2.2.2.1
theorem dX4_fewestOf_23 : decode cX4_fewestOf 23 = .ok (.aload_n 1, 1) := db555.2.2.2.2.2.2.2.2.2.2.2.2.2.2.1
theorem dX4_fewestOf_24 : decode cX4_fewestOf 24 = .ok (.iload_n 2, 1) := db555.2.2.2.2.2.2.2.2.2.2.2.2.2.2.2.1
theorem dX4_fewestOf_25 : decode cX4_fewestOf 25 = .ok (.iload 4, 2) := db555.2.2.2.2.2.2.2.2.2.2.2.2.2.2.2.2.1
theorem dX4_fewestOf_27 : decode cX4_fewestOf 27 = .ok (.invokevirtual 22, 3) := db555.2.2.2.2.2.2.2.2.2.2.2.2.2.2.2.2.2.1
theorem dX4_fewestOf_30 : decode cX4_fewestOf 30 = .ok (.istore 5, 2) := db555.2.2.2.2.2.2.2.2.2.2.2.2.2.2.2.2.2.2.1
theorem dX4_fewestOf_32 : decode cX4_fewestOf 32 = .ok (.iload 5, 2) := db555.2.2.2.2.2.2.2.2.2.2.2.2.2.2.2.2.2.2.2.1
theorem dX4_fewestOf_34 : decode cX4_fewestOf 34 = .ok (.iconst (-1), 1) := db555.2.2.2.2.2.2.2.2.2.2.2.2.2.2.2.2.2.2.2.2.1
theorem dX4_fewestOf_52 : decode cX4_fewestOf 52 = .ok (.iinc 4 1, 3) := db555.2.2.2.2.2.2.2.2.2.2.2.2.2.2.2.2.2.2.2.2.2.1
theorem dX4_fewestOf_55 : decode cX4_fewestOf 55 = .ok (.goto (-40), 3) := db555.2.2.2.2.2.2.2.2.2.2.2.2.2.2.2.2.2.2.2.2.2.2.1
theorem dX4_fewestOf_35 : decode cX4_fewestOf 35 = .ok (.if_icmp .eq 17, 3) := db555.2.2.2.2.2.2.2.2.2.2.2.2.2.2.2.2.2.2.2.2.2.2.2
theorem db556 : (decode cX4_fewestOf 38 = .ok (.iload_n 3, 1)) ∧ (decode cX4_fewestOf 39 = .ok (.iconst (-1), 1)) ∧ (decode cX4_fewestOf 49 = .ok (.iload 5, 2)) ∧ (decode cX4_fewestOf 51 = .ok (.istore_n 3, 1)) ∧ (decode cX4_fewestOf 40 = .ok (.if_icmp .eq 9, 3)) ∧ (decode cX4_fewestOf 43 = .ok (.iload 5, 2)) ∧ (decode cX4_fewestOf 45 = .ok (.iload_n 3, 1)) ∧ (decode cX4_fewestOf 46 = .ok (.if_icmp .ge 6, 3)) ∧ (decode cX4_fewestOf 8 = .ok (.iconst 0, 1)) ∧ (decode cX4_fewestOf 9 = .ok (.ireturn, 1)) := by decide +kernel
theorem dX4_fewestOf_38 : decode cX4_fewestOf 38 = .ok (.iload_n 3, 1) := db556.1
theorem dX4_fewestOf_39 : decode cX4_fewestOf 39 = .ok (.iconst (-1), 1) := db556.2.1
theorem dX4_fewestOf_49 : decode cX4_fewestOf 49 = .ok (.iload 5, 2) := db556.2.2.1
theorem dX4_fewestOf_51 : decode cX4_fewestOf 51 = .ok (.istore_n 3, 1) := db556.2.2.2.1
theorem dX4_fewestOf_40 : decode cX4_fewestOf 40 = .ok (.if_icmp .eq 9, 3) := db556.2.2.2.2.1
theorem dX4_fewestOf_43 : decode cX4_fewestOf 43 = .ok (.iload 5, 2) := db556.2.2.2.2.2.1
theorem dX4_fewestOf_45 : decode cX4_fewestOf 45 = .ok (.iload_n 3, 1) := db556.2.2.2.2.2.2.1
theorem dX4_fewestOf_46 : decode cX4_fewestOf 46 = .ok (.if_icmp .ge 6, 3) := db556.2.2.2.2.2.2.2.1
theorem dX4_fewestOf_8 : decode cX4_fewestOf 8 = .ok (.iconst 0, 1) := db556.2.2.2.2.2.2.2.2.1
theorem dX4_fewestOf_9 : decode cX4_fewestOf 9 = .ok (.ireturn, 1) := db556.2.2.2.2.2.2.2.2.2
theorem db557 : (decode cX4_firstFor 0 = .ok (.aload_n 0, 1)) ∧ (decode cX4_firstFor 1 = .ok (.aload_n 1, 1)) ∧ (decode cX4_firstFor 2 = .ok (.iload_n 2, 1)) ∧ (decode cX4_firstFor 3 = .ok (.invokevirtual 19, 3)) ∧ (decode cX4_firstFor 6 = .ok (.istore_n 3, 1)) ∧ (decode cX4_firstFor 7 = .ok (.iload_n 3, 1)) ∧ (decode cX4_firstFor 8 = .ok (.iconst 1, 1)) ∧ (decode cX4_firstFor 9 = .ok (.if_icmp .ge 5, 3)) ∧ (decode cX4_firstFor 14 = .ok (.iconst 0, 1)) ∧ (decode cX4_firstFor 15 = .ok (.istore 4, 2)) ∧ (decode cX4_firstFor 17 = .ok (.iload 4, 2)) ∧ (decode cX4_firstFor 19 = .ok (.bipush 6, 2)) ∧ (decode cX4_firstFor 21 = .ok (.if_icmp .ge 24, 3)) ∧ (decode cX4_firstFor 45 = .ok (.iconst (-1), 1)) ∧ (decode cX4_firstFor 46 = .ok (.ireturn, 1)) ∧ (decode cX4_firstFor 24 = .ok (.aload_n 0, 1)) ∧ (decode cX4_firstFor 25 = .ok (.aload_n 1, 1)) ∧ (decode cX4_firstFor 26 = .ok (.iload_n 2, 1)) ∧ (decode cX4_firstFor 27 = .ok (.iload 4, 2)) ∧ (decode cX4_firstFor 29 = .ok (.invokevirtual 22, 3)) ∧ (decode cX4_firstFor 32 = .ok (.iload_n 3, 1)) ∧ (decode cX4_firstFor 33 = .ok (.if_icmp .ne 6, 3)) ∧ (decode cX4_firstFor 39 = .ok (.iinc 4 1, 3)) ∧ (decode cX4_firstFor 42 = .ok (.goto (-25), 3)) := by decide +kernel
theorem dX4_firstFor_0 : decode cX4_firstFor 0 = .ok (.aload_n 0, 1) := db557.1
theorem dX4_firstFor_1 : decode cX4_firstFor 1 = .ok (.aload_n 1, 1) := db557.2.1
theorem dX4_firstFor_2 : decode cX4_firstFor 2 = .ok (.iload_n 2, 1) := db557.2.2.1
theorem dX4_firstFor_3 : decode cX4_firstFor 3 = .ok (.invokevirtual 19, 3) := db557.2.2.2.1
theorem dX4_firstFor_6 : decode cX4_firstFor 6 = .ok (.istore_n 3, 1) := db557.2.2.2.2.1
theorem dX4_firstFor_7 : decode cX4_firstFor 7 = .ok (.iload_n 3, 1) := db557.2.2.2.2.2.1
theorem dX4_firstFor_8 : decode cX4_firstFor 8 = .ok (.iconst 1, 1) := db557.2.2.2.2.2.2.1
theorem dX4_firstFor_9 : decode cX4_firstFor 9 = .ok (.if_icmp .ge 5, 3) := db557.2.2.2.2.2.2.2.1
theorem dX4_firstFor_14 : decode cX4_firstFor 14 = .ok (.iconst 0, 1) := db557.2.2.2.2.2.2.2.2.1
theorem dX4_firstFor_15 : decode cX4_firstFor 15 = .ok (.istore 4, 2) := db557.2.2.2.2.2.2.2.2.2.1
theorem dX4_firstFor_17 : decode cX4_firstFor 17 = .ok (.iload 4, 2) := db557.2.2.2.2.2.2.2.2.2.2.1
theorem dX4_firstFor_19 : decode cX4_firstFor 19 = .ok (.bipush 6, 2) := db557.2.2.2.2.2.2.2.2.2.2.2.1
theorem dX4_firstFor_21 : decode cX4_firstFor 21 = .ok (.if_icmp .ge 24, 3) := db557.2.2.2.2.2.2.2.2.2.2.2.2.1
theorem dX4_firstFor_45 : decode cX4_firstFor 45 = .ok (.iconst (-1), 1) := db557.2.2.2.2.2.2.2.2.2.2.2.2.2.1
theorem dX4_firstFor_46 : decode cX4_firstFor 46 = .ok (.ireturn, 1) := db557.2.2.2.2.2.2.2.2.2.2.2.2.2.2.1
theorem dX4_firstFor_24 : decode cX4_firstFor 24 = .ok (.aload_n 0, 1) := db557.2.2.2.2.2.2.2.2.2.2.2.2.2.2.2.1
theorem dX4_firstFor_25 : decode cX4_firstFor 25 = .ok (.aload_n 1, 1) := db557.2.2.2.2.2.2.2.2.2.2.2.2.2.2.2.2.1
theorem dX4_firstFor_26 : decode cX4_firstFor 26 = .ok (.iload_n 2, 1) := db557.2.2.2.2.2.2.2.2.2.2.2.2.2.2.2.2.2.1
theorem dX4_firstFor_27 : decode cX4_firstFor 27 = .ok (.iload 4, 2) := db557.2.2.2.2.2.2.2.2.2.2.2.2.2.2.2.2.2.2.1
theorem dX4_firstFor_29 : decode cX4_firstFor 29 = .ok (.invokevirtual 22, 3) := db557.2.2.2.2.2.2.2.2.2.2.2.2.2.2.2.2.2.2.2.1
theorem dX4_firstFor_32 : decode cX4_firstFor 32 = .ok (.iload_n 3, 1) := db557.2.2.2.2.2.2.2.2.2.2.2.2.2.2.2.2.2.2.2.2.1
theorem dX4_firstFor_33 : decode cX4_firstFor 33 = .ok (.if_icmp .ne 6, 3) := db557.2.2.2.2.2.2.2.2.2.2.2.2.2.2.2.2.2.2.2.2.2.1
theorem dX4_firstFor_39 : decode cX4_firstFor 39 = .ok (.iinc 4 1, 3) := db557.2.2.2.2.2.2.2.2.2.2.2.2.2.2.2.2.2.2.2.2.2.2.1
theorem dX4_firstFor_42 : decode cX4_firstFor 42 = .ok (.goto (-25), 3) := db557.2.2.2.2.2.2.2.2.2.2.2.2.2.2.2.2.2.2.2.2.2.2.2
theorem db558 : (decode cX4_firstFor 36 = .ok (.iload 4, 2)) ∧ (decode cX4_firstFor 38 = .ok (.ireturn, 1)) ∧ (decode cX4_firstFor 12 = .ok (.iconst (-1), 1)) ∧ (decode cX4_firstFor 13 = .ok (.ireturn, 1)) := by decide +kernel
theorem dX4_firstFor_36 : decode cX4_firstFor 36 = .ok (.iload 4, 2) := db558.1
theorem dX4_firstFor_38 : decode cX4_firstFor 38 = .ok (.ireturn, 1) := db558.2.1
theorem dX4_firstFor_12 : decode cX4_firstFor 12 = .ok (.iconst (-1), 1) := db558.2.2.1
theorem dX4_firstFor_13 : decode cX4_firstFor 13 = .ok (.ireturn, 1) := db558.2.2.2
theorem db559 : (decode cX4_greatestDivisor 0 = .ok (.lload_n 1, 1)) ∧ (decode cX4_greatestDivisor 1 = .ok (.lstore 5, 2)) ∧ (decode cX4_greatestDivisor 3 = .ok (.lload_n 3, 1)) ∧ (decode cX4_greatestDivisor 4 = .ok (.lstore 7, 2)) ∧ (decode cX4_greatestDivisor 6 = .ok (.iconst 0, 1)) ∧ (decode cX4_greatestDivisor 7 = .ok (.istore 9, 2)) ∧ (decode cX4_greatestDivisor 9 = .ok (.iload 9, 2)) ∧ (decode cX4_greatestDivisor 11 = .ok (.sipush 200, 3)) ∧ (decode cX4_greatestDivisor 45 = .ok (.lload 5, 2)) ∧ (decode cX4_greatestDivisor 47 = .ok (.lconst 0, 1)) ∧ (decode cX4_greatestDivisor 48 = .ok (.lcmp, 1)) ∧ (decode cX4_greatestDivisor 49 = .ok (.ifCond .ne 7, 3)) ∧ (decode cX4_greatestDivisor 56 = .ok (.lload 5, 2)) ∧ (decode cX4_greatestDivisor 58 = .ok (.lreturn, 1)) ∧ (decode cX4_greatestDivisor 52 = .ok (.lconst 1, 1)) ∧ (decode cX4_greatestDivisor 53 = .ok (.goto 5, 3)) ∧ (decode cX4_greatestDivisor 14 = .ok (.if_icmp .ge 31, 3)) ∧ (decode cX4_greatestDivisor 17 = .ok (.lload 7, 2)) ∧ (decode cX4_greatestDivisor 19 = .ok (.lconst 0, 1)) ∧ (decode cX4_greatestDivisor 20 = .ok (.lcmp, 1)) ∧ (decode cX4_greatestDivisor 21 = .ok (.ifCond .eq 24, 3)) ∧ (decode cX4_greatestDivisor 24 = .ok (.lload 5, 2)) ∧ (decode cX4_greatestDivisor 26 = .ok (.lload 7, 2)) ∧ (decode cX4_greatestDivisor 28 = .ok (.lrem, 1)) := by decide +kernel
theorem dX4_greatestDivisor_0 : decode cX4_greatestDivisor 0 = .ok (.lload_n 1, 1) := db559.1
theorem dX4_greatestDivisor_1 : decode cX4_greatestDivisor 1 = .ok (.lstore 5, 2) := db559.2.1
theorem dX4_greatestDivisor_3 : decode cX4_greatestDivisor 3 = .ok (.lload_n 3, 1) := db559.2.2.1
theorem dX4_greatestDivisor_4 : decode cX4_greatestDivisor 4 = .ok (.lstore 7, 2) := db559.2.2.2.1
theorem dX4_greatestDivisor_6 : decode cX4_greatestDivisor 6 = .ok (.iconst 0, 1) := db559.2.2.2.2.1
theorem dX4_greatestDivisor_7 : decode cX4_greatestDivisor 7 = .ok (.istore 9, 2) := db559.2.2.2.2.2.1
theorem dX4_greatestDivisor_9 : decode cX4_greatestDivisor 9 = .ok (.iload 9, 2) := db559.2.2.2.2.2.2.1
theorem dX4_greatestDivisor_11 : decode cX4_greatestDivisor 11 = .ok (.sipush 200, 3) := db559.2.2.2.2.2.2.2.1
theorem dX4_greatestDivisor_45 : decode cX4_greatestDivisor 45 = .ok (.lload 5, 2) := db559.2.2.2.2.2.2.2.2.1
theorem dX4_greatestDivisor_47 : decode cX4_greatestDivisor 47 = .ok (.lconst 0, 1) := db559.2.2.2.2.2.2.2.2.2.1
theorem dX4_greatestDivisor_48 : decode cX4_greatestDivisor 48 = .ok (.lcmp, 1) := db559.2.2.2.2.2.2.2.2.2.2.1
theorem dX4_greatestDivisor_49 : decode cX4_greatestDivisor 49 = .ok (.ifCond .ne 7, 3) := db559.2.2.2.2.2.2.2.2.2.2.2.1
theorem dX4_greatestDivisor_56 : decode cX4_greatestDivisor 56 = .ok (.lload 5, 2) := db559.2.2.2.2.2.2.2.2.2.2.2.2.1
theorem dX4_greatestDivisor_58 : decode cX4_greatestDivisor 58 = .ok (.lreturn, 1) := db559.2.2.2.2.2.2.2.2.2.2.2.2.2.1
theorem dX4_greatestDivisor_52 : decode cX4_greatestDivisor 52 = .ok (.lconst 1, 1) := db559.2.2.2.2.2.2.2.2.2.2.2.2.2.2.1
theorem dX4_greatestDivisor_53 : decode cX4_greatestDivisor 53 = .ok (.goto 5, 3) := db559.2.2.2.2.2.2.2.2.2.2.2.2.2.2.2.1
theorem dX4_greatestDivisor_14 : decode cX4_greatestDivisor 14 = .ok (.if_icmp .ge 31, 3) := db559.2.2.2.2.2.2.2.2.2.2.2.2.2.2.2.2.1
theorem dX4_greatestDivisor_17 : decode cX4_greatestDivisor 17 = .ok (.lload 7, 2) := db559.2.2.2.2.2.2.2.2.2.2.2.2.2.2.2.2.2.1
theorem dX4_greatestDivisor_19 : decode cX4_greatestDivisor 19 = .ok (.lconst 0, 1) := db559.2.2.2.2.2.2.2.2.2.2.2.2.2.2.2.2.2.2.1
theorem dX4_greatestDivisor_20 : decode cX4_greatestDivisor 20 = .ok (.lcmp, 1) := db559.2.2.2.2.2.2.2.2.2.2.2.2.2.2.2.2.2.2.2.1
theorem dX4_greatestDivisor_21 : decode cX4_greatestDivisor 21 = .ok (.ifCond .eq 24, 3) := db559.2.2.2.2.2.2.2.2.2.2.2.2.2.2.2.2.2.2.2.2.1
theorem dX4_greatestDivisor_24 : decode cX4_greatestDivisor 24 = .ok (.lload 5, 2) := db559.2.2.2.2.2.2.2.2.2.2.2.2.2.2.2.2.2.2.2.2.2.1
theorem dX4_greatestDivisor_26 : decode cX4_greatestDivisor 26 = .ok (.lload 7, 2) := db559.2.2.2.2.2.2.2.2.2.2.2.2.2.2.2.2.2.2.2.2.2.2.1
theorem dX4_greatestDivisor_28 : decode cX4_greatestDivisor 28 = .ok (.lrem, 1) := db559.2.2.2.2.2.2.2.2.2.2.2.2.2.2.2.2.2.2.2.2.2.2.2
theorem db560 : (decode cX4_greatestDivisor 29 = .ok (.lstore 10, 2)) ∧ (decode cX4_greatestDivisor 31 = .ok (.lload 7, 2)) ∧ (decode cX4_greatestDivisor 33 = .ok (.lstore 5, 2)) ∧ (decode cX4_greatestDivisor 35 = .ok (.lload 10, 2)) ∧ (decode cX4_greatestDivisor 37 = .ok (.lstore 7, 2)) ∧ (decode cX4_greatestDivisor 39 = .ok (.iinc 9 1, 3)) ∧ (decode cX4_greatestDivisor 42 = .ok (.goto (-33), 3)) := by decide +kernel
theorem dX4_greatestDivisor_29 : decode cX4_greatestDivisor 29 = .ok (.lstore 10, 2) := db560.1
theorem dX4_greatestDivisor_31 : decode cX4_greatestDivisor 31 = .ok (.lload 7, 2) := db560.2.1
theorem dX4_greatestDivisor_33 : decode cX4_greatestDivisor 33 = .ok (.lstore 5, 2) := db560.2.2.1
theorem dX4_greatestDivisor_35 : decode cX4_greatestDivisor 35 = .ok (.lload 10, 2) := db560.2.2.2.1
theorem dX4_greatestDivisor_37 : decode cX4_greatestDivisor 37 = .ok (.lstore 7, 2) := db560.2.2.2.2.1
theorem dX4_greatestDivisor_39 : decode cX4_greatestDivisor 39 = .ok (.iinc 9 1, 3) := db560.2.2.2.2.2.1
theorem dX4_greatestDivisor_42 : decode cX4_greatestDivisor 42 = .ok (.goto (-33), 3) := db560.2.2.2.2.2.2
theorem db561 : (decode cX4_hasAs 0 = .ok (.aload_n 0, 1)) ∧ (decode cX4_hasAs 1 = .ok (.aload_n 1, 1)) ∧ (decode cX4_hasAs 2 = .ok (.iload_n 2, 1)) ∧ (decode cX4_hasAs 3 = .ok (.invokevirtual 67, 3)) ∧ (decode cX4_hasAs 14 = .ok (.istore 4, 2)) ∧ (decode cX4_hasAs 16 = .ok (.iload 4, 2)) ∧ (decode cX4_hasAs 18 = .ok (.ifCond .eq 14, 3)) ∧ (decode cX4_hasAs 32 = .ok (.aload_n 1, 1)) ∧ (decode cX4_hasAs 33 = .ok (.getfield 70, 3)) ∧ (decode cX4_hasAs 36 = .ok (.iload_n 2, 1)) ∧ (decode cX4_hasAs 37 = .ok (.bipush 6, 2)) ∧ (decode cX4_hasAs 39 = .ok (.imul, 1)) ∧ (decode cX4_hasAs 40 = .ok (.iload_n 3, 1)) ∧ (decode cX4_hasAs 41 = .ok (.iadd, 1)) ∧ (decode cX4_hasAs 42 = .ok (.iaload, 1)) ∧ (decode cX4_hasAs 43 = .ok (.ireturn, 1)) ∧ (decode cX4_hasAs 21 = .ok (.iload_n 2, 1)) ∧ (decode cX4_hasAs 22 = .ok (.iload_n 3, 1)) ∧ (decode cX4_hasAs 23 = .ok (.if_icmp .ne 7, 3)) ∧ (decode cX4_hasAs 30 = .ok (.iconst 0, 1)) ∧ (decode cX4_hasAs 31 = .ok (.ireturn, 1)) ∧ (decode cX4_hasAs 26 = .ok (.iconst 1, 1)) ∧ (decode cX4_hasAs 27 = .ok (.goto 4, 3)) ∧ (decode cX4_hasAs 6 = .ok (.ifCond .ne 7, 3)) := by decide +kernel
theorem dX4_hasAs_0 : decode cX4_hasAs 0 = .ok (.aload_n 0, 1) := db561.1
theorem dX4_hasAs_1 : decode cX4_hasAs 1 = .ok (.aload_n 1, 1) := db561.2.1
theorem dX4_hasAs_2 : decode cX4_hasAs 2 = .ok (.iload_n 2, 1) := db561.2.2.1
theorem dX4_hasAs_3 : decode cX4_hasAs 3 = .ok (.invokevirtual 67, 3) := db561.2.2.2.1
theorem dX4_hasAs_14 : decode cX4_hasAs 14 = .ok (.istore 4, 2) := db561.2.2.2.2.1
theorem dX4_hasAs_16 : decode cX4_hasAs 16 = .ok (.iload 4, 2) := db561.2.2.2.2.2.1
theorem dX4_hasAs_18 : decode cX4_hasAs 18 = .ok (.ifCond .eq 14, 3) := db561.2.2.2.2.2.2.1
theorem dX4_hasAs_32 : decode cX4_hasAs 32 = .ok (.aload_n 1, 1) := db561.2.2.2.2.2.2.2.1
theorem dX4_hasAs_33 : decode cX4_hasAs 33 = .ok (.getfield 70, 3) := db561.2.2.2.2.2.2.2.2.1
theorem dX4_hasAs_36 : decode cX4_hasAs 36 = .ok (.iload_n 2, 1) := db561.2.2.2.2.2.2.2.2.2.1
theorem dX4_hasAs_37 : decode cX4_hasAs 37 = .ok (.bipush 6, 2) := db561.2.2.2.2.2.2.2.2.2.2.1
theorem dX4_hasAs_39 : decode cX4_hasAs 39 = .ok (.imul, 1) := db561.2.2.2.2.2.2.2.2.2.2.2.1
theorem dX4_hasAs_40 : decode cX4_hasAs 40 = .ok (.iload_n 3, 1) := db561.2.2.2.2.2.2.2.2.2.2.2.2.1
theorem dX4_hasAs_41 : decode cX4_hasAs 41 = .ok (.iadd, 1) := db561.2.2.2.2.2.2.2.2.2.2.2.2.2.1
theorem dX4_hasAs_42 : decode cX4_hasAs 42 = .ok (.iaload, 1) := db561.2.2.2.2.2.2.2.2.2.2.2.2.2.2.1
theorem dX4_hasAs_43 : decode cX4_hasAs 43 = .ok (.ireturn, 1) := db561.2.2.2.2.2.2.2.2.2.2.2.2.2.2.2.1
theorem dX4_hasAs_21 : decode cX4_hasAs 21 = .ok (.iload_n 2, 1) := db561.2.2.2.2.2.2.2.2.2.2.2.2.2.2.2.2.1
theorem dX4_hasAs_22 : decode cX4_hasAs 22 = .ok (.iload_n 3, 1) := db561.2.2.2.2.2.2.2.2.2.2.2.2.2.2.2.2.2.1
theorem dX4_hasAs_23 : decode cX4_hasAs 23 = .ok (.if_icmp .ne 7, 3) := db561.2.2.2.2.2.2.2.2.2.2.2.2.2.2.2.2.2.2.1
theorem dX4_hasAs_30 : decode cX4_hasAs 30 = .ok (.iconst 0, 1) := db561.2.2.2.2.2.2.2.2.2.2.2.2.2.2.2.2.2.2.2.1
theorem dX4_hasAs_31 : decode cX4_hasAs 31 = .ok (.ireturn, 1) := db561.2.2.2.2.2.2.2.2.2.2.2.2.2.2.2.2.2.2.2.2.1
theorem dX4_hasAs_26 : decode cX4_hasAs 26 = .ok (.iconst 1, 1) := db561.2.2.2.2.2.2.2.2.2.2.2.2.2.2.2.2.2.2.2.2.2.1
theorem dX4_hasAs_27 : decode cX4_hasAs 27 = .ok (.goto 4, 3) := db561.2.2.2.2.2.2.2.2.2.2.2.2.2.2.2.2.2.2.2.2.2.2.1
theorem dX4_hasAs_6 : decode cX4_hasAs 6 = .ok (.ifCond .ne 7, 3) := db561.2.2.2.2.2.2.2.2.2.2.2.2.2.2.2.2.2.2.2.2.2.2.2
theorem db562 : (decode cX4_hasAs 13 = .ok (.iconst 0, 1)) ∧ (decode cX4_hasAs 9 = .ok (.iconst 1, 1)) ∧ (decode cX4_hasAs 10 = .ok (.goto 4, 3)) := by decide +kernel
theorem dX4_hasAs_13 : decode cX4_hasAs 13 = .ok (.iconst 0, 1) := db562.1
theorem dX4_hasAs_9 : decode cX4_hasAs 9 = .ok (.iconst 1, 1) := db562.2.1
theorem dX4_hasAs_10 : decode cX4_hasAs 10 = .ok (.goto 4, 3) := db562.2.2
theorem db563 : (decode cX4_hasInAll 0 = .ok (.iconst 1, 1)) ∧ (decode cX4_hasInAll 1 = .ok (.aload_n 0, 1)) ∧ (decode cX4_hasInAll 2 = .ok (.aload_n 1, 1)) ∧ (decode cX4_hasInAll 3 = .ok (.iload_n 2, 1)) ∧ (decode cX4_hasInAll 4 = .ok (.invokevirtual 67, 3)) ∧ (decode cX4_hasInAll 7 = .ok (.invokestatic 38, 3)) ∧ (decode cX4_hasInAll 10 = .ok (.ireturn, 1)) := by decide +kernel
theorem dX4_hasInAll_0 : decode cX4_hasInAll 0 = .ok (.iconst 1, 1) := db563.1
theorem dX4_hasInAll_1 : decode cX4_hasInAll 1 = .ok (.aload_n 0, 1) := db563.2.1
theorem dX4_hasInAll_2 : decode cX4_hasInAll 2 = .ok (.aload_n 1, 1) := db563.2.2.1
theorem dX4_hasInAll_3 : decode cX4_hasInAll 3 = .ok (.iload_n 2, 1) := db563.2.2.2.1
theorem dX4_hasInAll_4 : decode cX4_hasInAll 4 = .ok (.invokevirtual 67, 3) := db563.2.2.2.2.1
theorem dX4_hasInAll_7 : decode cX4_hasInAll 7 = .ok (.invokestatic 38, 3) := db563.2.2.2.2.2.1
theorem dX4_hasInAll_10 : decode cX4_hasInAll 10 = .ok (.ireturn, 1) := db563.2.2.2.2.2.2
theorem db564 : (decode cX4_init 0 = .ok (.aload_n 0, 1)) ∧ (decode cX4_init 1 = .ok (.invokespecial 3, 3)) ∧ (decode cX4_init 4 = .ok (.aload_n 0, 1)) ∧ (decode cX4_init 5 = .ok (.bipush 64, 2)) ∧ (decode cX4_init 7 = .ok (.newarray .int, 2)) ∧ (decode cX4_init 9 = .ok (.putfield 11, 3)) ∧ (decode cX4_init 12 = .ok (.return_, 1)) := by decide +kernel
theorem dX4_init_0 : decode cX4_init 0 = .ok (.aload_n 0, 1) := db564.1
theorem dX4_init_1 : decode cX4_init 1 = .ok (.invokespecial 3, 3) := db564.2.1
theorem dX4_init_4 : decode cX4_init 4 = .ok (.aload_n 0, 1) := db564.2.2.1
theorem dX4_init_5 : decode cX4_init 5 = .ok (.bipush 64, 2) := db564.2.2.2.1
theorem dX4_init_7 : decode cX4_init 7 = .ok (.newarray .int, 2) := db564.2.2.2.2.1
theorem dX4_init_9 : decode cX4_init 9 = .ok (.putfield 11, 3) := db564.2.2.2.2.2.1
theorem dX4_init_12 : decode cX4_init 12 = .ok (.return_, 1) := db564.2.2.2.2.2.2
theorem db565 : (decode cX4_listFor 0 = .ok (.iconst (-1), 1)) ∧ (decode cX4_listFor 1 = .ok (.istore_n 3, 1)) ∧ (decode cX4_listFor 2 = .ok (.iconst 0, 1)) ∧ (decode cX4_listFor 3 = .ok (.istore 4, 2)) ∧ (decode cX4_listFor 5 = .ok (.iload 4, 2)) ∧ (decode cX4_listFor 7 = .ok (.bipush 64, 2)) ∧ (decode cX4_listFor 9 = .ok (.if_icmp .ge 52, 3)) ∧ (decode cX4_listFor 61 = .ok (.iload_n 3, 1)) ∧ (decode cX4_listFor 62 = .ok (.ireturn, 1)) ∧ (decode cX4_listFor 12 = .ok (.iload_n 3, 1)) ∧ (decode cX4_listFor 13 = .ok (.iconst (-1), 1)) ∧ (decode cX4_listFor 34 = .ok (.istore 5, 2)) ∧ (decode cX4_listFor 36 = .ok (.iload 5, 2)) ∧ (decode cX4_listFor 55 = .ok (.iinc 4 1, 3)) ∧ (decode cX4_listFor 58 = .ok (.goto (-53), 3)) ∧ (decode cX4_listFor 38 = .ok (.ifCond .eq 17, 3)) ∧ (decode cX4_listFor 41 = .ok (.aload_n 0, 1)) ∧ (decode cX4_listFor 42 = .ok (.aload_n 1, 1)) ∧ (decode cX4_listFor 43 = .ok (.iload_n 2, 1)) ∧ (decode cX4_listFor 44 = .ok (.iload 4, 2)) ∧ (decode cX4_listFor 46 = .ok (.invokevirtual 43, 3)) ∧ (decode cX4_listFor 49 = .ok (.ifCond .eq 6, 3)) ∧ (decode cX4_listFor 52 = .ok (.iload 4, 2)) ∧ (decode cX4_listFor 54 = .ok (.istore_n 3, 1)) := by decide +kernel
theorem dX4_listFor_0 : decode cX4_listFor 0 = .ok (.iconst (-1), 1) := db565.1
theorem dX4_listFor_1 : decode cX4_listFor 1 = .ok (.istore_n 3, 1) := db565.2.1
theorem dX4_listFor_2 : decode cX4_listFor 2 = .ok (.iconst 0, 1) := db565.2.2.1
theorem dX4_listFor_3 : decode cX4_listFor 3 = .ok (.istore 4, 2) := db565.2.2.2.1
theorem dX4_listFor_5 : decode cX4_listFor 5 = .ok (.iload 4, 2) := db565.2.2.2.2.1
theorem dX4_listFor_7 : decode cX4_listFor 7 = .ok (.bipush 64, 2) := db565.2.2.2.2.2.1
theorem dX4_listFor_9 : decode cX4_listFor 9 = .ok (.if_icmp .ge 52, 3) := db565.2.2.2.2.2.2.1
theorem dX4_listFor_61 : decode cX4_listFor 61 = .ok (.iload_n 3, 1) := db565.2.2.2.2.2.2.2.1
theorem dX4_listFor_62 : decode cX4_listFor 62 = .ok (.ireturn, 1) := db565.2.2.2.2.2.2.2.2.1
theorem dX4_listFor_12 : decode cX4_listFor 12 = .ok (.iload_n 3, 1) := db565.2.2.2.2.2.2.2.2.2.1
theorem dX4_listFor_13 : decode cX4_listFor 13 = .ok (.iconst (-1), 1) := db565.2.2.2.2.2.2.2.2.2.2.1
theorem dX4_listFor_34 : decode cX4_listFor 34 = .ok (.istore 5, 2) := db565.2.2.2.2.2.2.2.2.2.2.2.1
theorem dX4_listFor_36 : decode cX4_listFor 36 = .ok (.iload 5, 2) := db565.2.2.2.2.2.2.2.2.2.2.2.2.1
theorem dX4_listFor_55 : decode cX4_listFor 55 = .ok (.iinc 4 1, 3) := db565.2.2.2.2.2.2.2.2.2.2.2.2.2.1
theorem dX4_listFor_58 : decode cX4_listFor 58 = .ok (.goto (-53), 3) := db565.2.2.2.2.2.2.2.2.2.2.2.2.2.2.1
theorem dX4_listFor_38 : decode cX4_listFor 38 = .ok (.ifCond .eq 17, 3) := db565.2.2.2.2.2.2.2.2.2.2.2.2.2.2.2.1
theorem dX4_listFor_41 : decode cX4_listFor 41 = .ok (.aload_n 0, 1) := db565.2.2.2.2.2.2.2.2.2.2.2.2.2.2.2.2.1
theorem dX4_listFor_42 : decode cX4_listFor 42 = .ok (.aload_n 1, 1) := db565.2.2.2.2.2.2.2.2.2.2.2.2.2.2.2.2.2.1
theorem dX4_listFor_43 : decode cX4_listFor 43 = .ok (.iload_n 2, 1) := db565.2.2.2.2.2.2.2.2.2.2.2.2.2.2.2.2.2.2.1
theorem dX4_listFor_44 : decode cX4_listFor 44 = .ok (.iload 4, 2) := db565.2.2.2.2.2.2.2.2.2.2.2.2.2.2.2.2.2.2.2.1
theorem dX4_listFor_46 : decode cX4_listFor 46 = .ok (.invokevirtual 43, 3) := db565.2.2.2.2.2.2.2.2.2.2.2.2.2.2.2.2.2.2.2.2.1
theorem dX4_listFor_49 : decode cX4_listFor 49 = .ok (.ifCond .eq 6, 3) := db565.2.2.2.2.2.2.2.2.2.2.2.2.2.2.2.2.2.2.2.2.2.1
theorem dX4_listFor_52 : decode cX4_listFor 52 = .ok (.iload 4, 2) := db565.2.2.2.2.2.2.2.2.2.2.2.2.2.2.2.2.2.2.2.2.2.2.1
theorem dX4_listFor_54 : decode cX4_listFor 54 = .ok (.istore_n 3, 1) := db565.2.2.2.2.2.2.2.2.2.2.2.2.2.2.2.2.2.2.2.2.2.2.2
theorem db566 : (decode cX4_listFor 29 = .ok (.iconst 1, 1)) ∧ (decode cX4_listFor 30 = .ok (.goto 4, 3)) ∧ (decode cX4_listFor 14 = .ok (.if_icmp .eq 15, 3)) ∧ (decode cX4_listFor 17 = .ok (.iload 4, 2)) ∧ (decode cX4_listFor 19 = .ok (.invokestatic 26, 3)) ∧ (decode cX4_listFor 22 = .ok (.iload_n 3, 1)) ∧ (decode cX4_listFor 23 = .ok (.invokestatic 26, 3)) ∧ (decode cX4_listFor 26 = .ok (.if_icmp .ge 7, 3)) ∧ (decode cX4_listFor 33 = .ok (.iconst 0, 1)) := by decide +kernel
theorem dX4_listFor_29 : decode cX4_listFor 29 = .ok (.iconst 1, 1) := db566.1
theorem dX4_listFor_30 : decode cX4_listFor 30 = .ok (.goto 4, 3) := db566.2.1
theorem dX4_listFor_14 : decode cX4_listFor 14 = .ok (.if_icmp .eq 15, 3) := db566.2.2.1
theorem dX4_listFor_17 : decode cX4_listFor 17 = .ok (.iload 4, 2) := db566.2.2.2.1
theorem dX4_listFor_19 : decode cX4_listFor 19 = .ok (.invokestatic 26, 3) := db566.2.2.2.2.1
theorem dX4_listFor_22 : decode cX4_listFor 22 = .ok (.iload_n 3, 1) := db566.2.2.2.2.2.1
theorem dX4_listFor_23 : decode cX4_listFor 23 = .ok (.invokestatic 26, 3) := db566.2.2.2.2.2.2.1
theorem dX4_listFor_26 : decode cX4_listFor 26 = .ok (.if_icmp .ge 7, 3) := db566.2.2.2.2.2.2.2.1
theorem dX4_listFor_33 : decode cX4_listFor 33 = .ok (.iconst 0, 1) := db566.2.2.2.2.2.2.2.2
theorem db567 : (decode cX4_lowest 0 = .ok (.lload_n 1, 1)) ∧ (decode cX4_lowest 1 = .ok (.lconst 0, 1)) ∧ (decode cX4_lowest 2 = .ok (.lcmp, 1)) ∧ (decode cX4_lowest 12 = .ok (.iload 5, 2)) ∧ (decode cX4_lowest 14 = .ok (.ifCond .ne 7, 3)) ∧ (decode cX4_lowest 21 = .ok (.lconst 1, 1)) ∧ (decode cX4_lowest 22 = .ok (.lreturn, 1)) ∧ (decode cX4_lowest 17 = .ok (.lconst 0, 1)) ∧ (decode cX4_lowest 18 = .ok (.goto 4, 3)) ∧ (decode cX4_lowest 3 = .ok (.ifCond .eq 9, 3)) ∧ (decode cX4_lowest 6 = .ok (.lload_n 3, 1)) ∧ (decode cX4_lowest 7 = .ok (.lconst 0, 1)) ∧ (decode cX4_lowest 8 = .ok (.lcmp, 1)) ∧ (decode cX4_lowest 9 = .ok (.ifCond .ne 14, 3)) ∧ (decode cX4_lowest 23 = .ok (.aload_n 0, 1)) ∧ (decode cX4_lowest 24 = .ok (.lload_n 1, 1)) ∧ (decode cX4_lowest 25 = .ok (.lload_n 3, 1)) ∧ (decode cX4_lowest 26 = .ok (.invokevirtual 73, 3)) ∧ (decode cX4_lowest 29 = .ok (.lstore 6, 2)) ∧ (decode cX4_lowest 31 = .ok (.iload 5, 2)) ∧ (decode cX4_lowest 33 = .ok (.ifCond .ne 7, 3)) ∧ (decode cX4_lowest 40 = .ok (.lload_n 3, 1)) ∧ (decode cX4_lowest 41 = .ok (.lload 6, 2)) ∧ (decode cX4_lowest 43 = .ok (.ldiv, 1)) := by decide +kernel
theorem dX4_lowest_0 : decode cX4_lowest 0 = .ok (.lload_n 1, 1) := db567.1
theorem dX4_lowest_1 : decode cX4_lowest 1 = .ok (.lconst 0, 1) := db567.2.1
theorem dX4_lowest_2 : decode cX4_lowest 2 = .ok (.lcmp, 1) := db567.2.2.1
theorem dX4_lowest_12 : decode cX4_lowest 12 = .ok (.iload 5, 2) := db567.2.2.2.1
theorem dX4_lowest_14 : decode cX4_lowest 14 = .ok (.ifCond .ne 7, 3) := db567.2.2.2.2.1
theorem dX4_lowest_21 : decode cX4_lowest 21 = .ok (.lconst 1, 1) := db567.2.2.2.2.2.1
theorem dX4_lowest_22 : decode cX4_lowest 22 = .ok (.lreturn, 1) := db567.2.2.2.2.2.2.1
theorem dX4_lowest_17 : decode cX4_lowest 17 = .ok (.lconst 0, 1) := db567.2.2.2.2.2.2.2.1
theorem dX4_lowest_18 : decode cX4_lowest 18 = .ok (.goto 4, 3) := db567.2.2.2.2.2.2.2.2.1
theorem dX4_lowest_3 : decode cX4_lowest 3 = .ok (.ifCond .eq 9, 3) := db567.2.2.2.2.2.2.2.2.2.1
theorem dX4_lowest_6 : decode cX4_lowest 6 = .ok (.lload_n 3, 1) := db567.2.2.2.2.2.2.2.2.2.2.1
theorem dX4_lowest_7 : decode cX4_lowest 7 = .ok (.lconst 0, 1) := db567.2.2.2.2.2.2.2.2.2.2.2.1
theorem dX4_lowest_8 : decode cX4_lowest 8 = .ok (.lcmp, 1) := db567.2.2.2.2.2.2.2.2.2.2.2.2.1
theorem dX4_lowest_9 : decode cX4_lowest 9 = .ok (.ifCond .ne 14, 3) := db567.2.2.2.2.2.2.2.2.2.2.2.2.2.1
theorem dX4_lowest_23 : decode cX4_lowest 23 = .ok (.aload_n 0, 1) := db567.2.2.2.2.2.2.2.2.2.2.2.2.2.2.1
theorem dX4_lowest_24 : decode cX4_lowest 24 = .ok (.lload_n 1, 1) := db567.2.2.2.2.2.2.2.2.2.2.2.2.2.2.2.1
theorem dX4_lowest_25 : decode cX4_lowest 25 = .ok (.lload_n 3, 1) := db567.2.2.2.2.2.2.2.2.2.2.2.2.2.2.2.2.1
theorem dX4_lowest_26 : decode cX4_lowest 26 = .ok (.invokevirtual 73, 3) := db567.2.2.2.2.2.2.2.2.2.2.2.2.2.2.2.2.2.1
theorem dX4_lowest_29 : decode cX4_lowest 29 = .ok (.lstore 6, 2) := db567.2.2.2.2.2.2.2.2.2.2.2.2.2.2.2.2.2.2.1
theorem dX4_lowest_31 : decode cX4_lowest 31 = .ok (.iload 5, 2) := db567.2.2.2.2.2.2.2.2.2.2.2.2.2.2.2.2.2.2.2.1
theorem dX4_lowest_33 : decode cX4_lowest 33 = .ok (.ifCond .ne 7, 3) := db567.2.2.2.2.2.2.2.2.2.2.2.2.2.2.2.2.2.2.2.2.1
theorem dX4_lowest_40 : decode cX4_lowest 40 = .ok (.lload_n 3, 1) := db567.2.2.2.2.2.2.2.2.2.2.2.2.2.2.2.2.2.2.2.2.2.1
theorem dX4_lowest_41 : decode cX4_lowest 41 = .ok (.lload 6, 2) := db567.2.2.2.2.2.2.2.2.2.2.2.2.2.2.2.2.2.2.2.2.2.2.1
theorem dX4_lowest_43 : decode cX4_lowest 43 = .ok (.ldiv, 1) := db567.2.2.2.2.2.2.2.2.2.2.2.2.2.2.2.2.2.2.2.2.2.2.2
theorem db568 : (decode cX4_lowest 44 = .ok (.lreturn, 1)) ∧ (decode cX4_lowest 36 = .ok (.lload_n 1, 1)) ∧ (decode cX4_lowest 37 = .ok (.goto 4, 3)) := by decide +kernel
theorem dX4_lowest_44 : decode cX4_lowest 44 = .ok (.lreturn, 1) := db568.1
theorem dX4_lowest_36 : decode cX4_lowest 36 = .ok (.lload_n 1, 1) := db568.2.1
theorem dX4_lowest_37 : decode cX4_lowest 37 = .ok (.goto 4, 3) := db568.2.2
theorem db569 : (decode cX4_share 0 = .ok (.aload_n 1, 1)) ∧ (decode cX4_share 1 = .ok (.getfield 54, 3)) ∧ (decode cX4_share 4 = .ok (.iload_n 2, 1)) ∧ (decode cX4_share 5 = .ok (.iaload, 1)) ∧ (decode cX4_share 6 = .ok (.i2l, 1)) ∧ (decode cX4_share 7 = .ok (.lstore 4, 2)) ∧ (decode cX4_share 9 = .ok (.iconst 0, 1)) ∧ (decode cX4_share 10 = .ok (.istore 6, 2)) ∧ (decode cX4_share 12 = .ok (.iload 6, 2)) ∧ (decode cX4_share 14 = .ok (.aload_n 1, 1)) ∧ (decode cX4_share 15 = .ok (.getfield 47, 3)) ∧ (decode cX4_share 18 = .ok (.if_icmp .ge 39, 3)) ∧ (decode cX4_share 57 = .ok (.lload 4, 2)) ∧ (decode cX4_share 59 = .ok (.lreturn, 1)) ∧ (decode cX4_share 21 = .ok (.lload 4, 2)) ∧ (decode cX4_share 23 = .ok (.iload 6, 2)) ∧ (decode cX4_share 25 = .ok (.iload_n 2, 1)) ∧ (decode cX4_share 48 = .ok (.lmul, 1)) ∧ (decode cX4_share 49 = .ok (.lstore 4, 2)) ∧ (decode cX4_share 51 = .ok (.iinc 6 1, 3)) ∧ (decode cX4_share 54 = .ok (.goto (-42), 3)) ∧ (decode cX4_share 26 = .ok (.if_icmp .ne 14, 3)) ∧ (decode cX4_share 40 = .ok (.aload_n 0, 1)) ∧ (decode cX4_share 41 = .ok (.aload_n 1, 1)) := by decide +kernel
theorem dX4_share_0 : decode cX4_share 0 = .ok (.aload_n 1, 1) := db569.1
theorem dX4_share_1 : decode cX4_share 1 = .ok (.getfield 54, 3) := db569.2.1
theorem dX4_share_4 : decode cX4_share 4 = .ok (.iload_n 2, 1) := db569.2.2.1
theorem dX4_share_5 : decode cX4_share 5 = .ok (.iaload, 1) := db569.2.2.2.1
theorem dX4_share_6 : decode cX4_share 6 = .ok (.i2l, 1) := db569.2.2.2.2.1
theorem dX4_share_7 : decode cX4_share 7 = .ok (.lstore 4, 2) := db569.2.2.2.2.2.1
theorem dX4_share_9 : decode cX4_share 9 = .ok (.iconst 0, 1) := db569.2.2.2.2.2.2.1
theorem dX4_share_10 : decode cX4_share 10 = .ok (.istore 6, 2) := db569.2.2.2.2.2.2.2.1
theorem dX4_share_12 : decode cX4_share 12 = .ok (.iload 6, 2) := db569.2.2.2.2.2.2.2.2.1
theorem dX4_share_14 : decode cX4_share 14 = .ok (.aload_n 1, 1) := db569.2.2.2.2.2.2.2.2.2.1
theorem dX4_share_15 : decode cX4_share 15 = .ok (.getfield 47, 3) := db569.2.2.2.2.2.2.2.2.2.2.1
theorem dX4_share_18 : decode cX4_share 18 = .ok (.if_icmp .ge 39, 3) := db569.2.2.2.2.2.2.2.2.2.2.2.1
theorem dX4_share_57 : decode cX4_share 57 = .ok (.lload 4, 2) := db569.2.2.2.2.2.2.2.2.2.2.2.2.1
theorem dX4_share_59 : decode cX4_share 59 = .ok (.lreturn, 1) := db569.2.2.2.2.2.2.2.2.2.2.2.2.2.1
theorem dX4_share_21 : decode cX4_share 21 = .ok (.lload 4, 2) := db569.2.2.2.2.2.2.2.2.2.2.2.2.2.2.1
theorem dX4_share_23 : decode cX4_share 23 = .ok (.iload 6, 2) := db569.2.2.2.2.2.2.2.2.2.2.2.2.2.2.2.1
theorem dX4_share_25 : decode cX4_share 25 = .ok (.iload_n 2, 1) := db569.2.2.2.2.2.2.2.2.2.2.2.2.2.2.2.2.1
theorem dX4_share_48 : decode cX4_share 48 = .ok (.lmul, 1) := db569.2.2.2.2.2.2.2.2.2.2.2.2.2.2.2.2.2.1
theorem dX4_share_49 : decode cX4_share 49 = .ok (.lstore 4, 2) := db569.2.2.2.2.2.2.2.2.2.2.2.2.2.2.2.2.2.2.1
theorem dX4_share_51 : decode cX4_share 51 = .ok (.iinc 6 1, 3) := db569.2.2.2.2.2.2.2.2.2.2.2.2.2.2.2.2.2.2.2.1
theorem dX4_share_54 : decode cX4_share 54 = .ok (.goto (-42), 3) := db569.2.2.2.2.2.2.2.2.2.2.2.2.2.2.2.2.2.2.2.2.1
theorem dX4_share_26 : decode cX4_share 26 = .ok (.if_icmp .ne 14, 3) := db569.2.2.2.2.2.2.2.2.2.2.2.2.2.2.2.2.2.2.2.2.2.1
theorem dX4_share_40 : decode cX4_share 40 = .ok (.aload_n 0, 1) := db569.2.2.2.2.2.2.2.2.2.2.2.2.2.2.2.2.2.2.2.2.2.2.1
theorem dX4_share_41 : decode cX4_share 41 = .ok (.aload_n 1, 1) := db569.2.2.2.2.2.2.2.2.2.2.2.2.2.2.2.2.2.2.2.2.2.2.2
theorem db570 : (decode cX4_share 42 = .ok (.iload 6, 2)) ∧ (decode cX4_share 44 = .ok (.invokevirtual 60, 3)) ∧ (decode cX4_share 47 = .ok (.i2l, 1)) ∧ (decode cX4_share 29 = .ok (.aload_n 0, 1)) ∧ (decode cX4_share 30 = .ok (.aload_n 1, 1)) ∧ (decode cX4_share 31 = .ok (.iload_n 2, 1)) ∧ (decode cX4_share 32 = .ok (.iload_n 3, 1)) ∧ (decode cX4_share 33 = .ok (.invokevirtual 57, 3)) ∧ (decode cX4_share 36 = .ok (.i2l, 1)) ∧ (decode cX4_share 37 = .ok (.goto 11, 3)) := by decide +kernel
theorem dX4_share_42 : decode cX4_share 42 = .ok (.iload 6, 2) := db570.1
theorem dX4_share_44 : decode cX4_share 44 = .ok (.invokevirtual 60, 3) := db570.2.1
theorem dX4_share_47 : decode cX4_share 47 = .ok (.i2l, 1) := db570.2.2.1
theorem dX4_share_29 : decode cX4_share 29 = .ok (.aload_n 0, 1) := db570.2.2.2.1
theorem dX4_share_30 : decode cX4_share 30 = .ok (.aload_n 1, 1) := db570.2.2.2.2.1
theorem dX4_share_31 : decode cX4_share 31 = .ok (.iload_n 2, 1) := db570.2.2.2.2.2.1
theorem dX4_share_32 : decode cX4_share 32 = .ok (.iload_n 3, 1) := db570.2.2.2.2.2.2.1
theorem dX4_share_33 : decode cX4_share 33 = .ok (.invokevirtual 57, 3) := db570.2.2.2.2.2.2.2.1
theorem dX4_share_36 : decode cX4_share 36 = .ok (.i2l, 1) := db570.2.2.2.2.2.2.2.2.1
theorem dX4_share_37 : decode cX4_share 37 = .ok (.goto 11, 3) := db570.2.2.2.2.2.2.2.2.2
theorem db571 : (decode cX4_slateSum 0 = .ok (.iconst 0, 1)) ∧ (decode cX4_slateSum 1 = .ok (.istore_n 3, 1)) ∧ (decode cX4_slateSum 2 = .ok (.iconst 0, 1)) ∧ (decode cX4_slateSum 3 = .ok (.istore 4, 2)) ∧ (decode cX4_slateSum 5 = .ok (.iload 4, 2)) ∧ (decode cX4_slateSum 7 = .ok (.aload_n 1, 1)) ∧ (decode cX4_slateSum 8 = .ok (.getfield 47, 3)) ∧ (decode cX4_slateSum 11 = .ok (.if_icmp .ge 24, 3)) ∧ (decode cX4_slateSum 35 = .ok (.iload_n 3, 1)) ∧ (decode cX4_slateSum 36 = .ok (.ireturn, 1)) ∧ (decode cX4_slateSum 14 = .ok (.iload_n 3, 1)) ∧ (decode cX4_slateSum 15 = .ok (.aload_n 1, 1)) ∧ (decode cX4_slateSum 16 = .ok (.getfield 70, 3)) ∧ (decode cX4_slateSum 19 = .ok (.iload_n 2, 1)) ∧ (decode cX4_slateSum 20 = .ok (.bipush 6, 2)) ∧ (decode cX4_slateSum 22 = .ok (.imul, 1)) ∧ (decode cX4_slateSum 23 = .ok (.iload 4, 2)) ∧ (decode cX4_slateSum 25 = .ok (.iadd, 1)) ∧ (decode cX4_slateSum 26 = .ok (.iaload, 1)) ∧ (decode cX4_slateSum 27 = .ok (.iadd, 1)) ∧ (decode cX4_slateSum 28 = .ok (.istore_n 3, 1)) ∧ (decode cX4_slateSum 29 = .ok (.iinc 4 1, 3)) ∧ (decode cX4_slateSum 32 = .ok (.goto (-27), 3)) := by decide +kernel
theorem dX4_slateSum_0 : decode cX4_slateSum 0 = .ok (.iconst 0, 1) := db571.1
theorem dX4_slateSum_1 : decode cX4_slateSum 1 = .ok (.istore_n 3, 1) := db571.2.1
theorem dX4_slateSum_2 : decode cX4_slateSum 2 = .ok (.iconst 0, 1) := db571.2.2.1
theorem dX4_slateSum_3 : decode cX4_slateSum 3 = .ok (.istore 4, 2) := db571.2.2.2.1
theorem dX4_slateSum_5 : decode cX4_slateSum 5 = .ok (.iload 4, 2) := db571.2.2.2.2.1
theorem dX4_slateSum_7 : decode cX4_slateSum 7 = .ok (.aload_n 1, 1) := db571.2.2.2.2.2.1
theorem dX4_slateSum_8 : decode cX4_slateSum 8 = .ok (.getfield 47, 3) := db571.2.2.2.2.2.2.1
theorem dX4_slateSum_11 : decode cX4_slateSum 11 = .ok (.if_icmp .ge 24, 3) := db571.2.2.2.2.2.2.2.1
theorem dX4_slateSum_35 : decode cX4_slateSum 35 = .ok (.iload_n 3, 1) := db571.2.2.2.2.2.2.2.2.1
theorem dX4_slateSum_36 : decode cX4_slateSum 36 = .ok (.ireturn, 1) := db571.2.2.2.2.2.2.2.2.2.1
theorem dX4_slateSum_14 : decode cX4_slateSum 14 = .ok (.iload_n 3, 1) := db571.2.2.2.2.2.2.2.2.2.2.1
theorem dX4_slateSum_15 : decode cX4_slateSum 15 = .ok (.aload_n 1, 1) := db571.2.2.2.2.2.2.2.2.2.2.2.1
theorem dX4_slateSum_16 : decode cX4_slateSum 16 = .ok (.getfield 70, 3) := db571.2.2.2.2.2.2.2.2.2.2.2.2.1
theorem dX4_slateSum_19 : decode cX4_slateSum 19 = .ok (.iload_n 2, 1) := db571.2.2.2.2.2.2.2.2.2.2.2.2.2.1
theorem dX4_slateSum_20 : decode cX4_slateSum 20 = .ok (.bipush 6, 2) := db571.2.2.2.2.2.2.2.2.2.2.2.2.2.2.1
theorem dX4_slateSum_22 : decode cX4_slateSum 22 = .ok (.imul, 1) := db571.2.2.2.2.2.2.2.2.2.2.2.2.2.2.2.1
theorem dX4_slateSum_23 : decode cX4_slateSum 23 = .ok (.iload 4, 2) := db571.2.2.2.2.2.2.2.2.2.2.2.2.2.2.2.2.1
theorem dX4_slateSum_25 : decode cX4_slateSum 25 = .ok (.iadd, 1) := db571.2.2.2.2.2.2.2.2.2.2.2.2.2.2.2.2.2.1
theorem dX4_slateSum_26 : decode cX4_slateSum 26 = .ok (.iaload, 1) := db571.2.2.2.2.2.2.2.2.2.2.2.2.2.2.2.2.2.2.1
theorem dX4_slateSum_27 : decode cX4_slateSum 27 = .ok (.iadd, 1) := db571.2.2.2.2.2.2.2.2.2.2.2.2.2.2.2.2.2.2.2.1
theorem dX4_slateSum_28 : decode cX4_slateSum 28 = .ok (.istore_n 3, 1) := db571.2.2.2.2.2.2.2.2.2.2.2.2.2.2.2.2.2.2.2.2.1
theorem dX4_slateSum_29 : decode cX4_slateSum 29 = .ok (.iinc 4 1, 3) := db571.2.2.2.2.2.2.2.2.2.2.2.2.2.2.2.2.2.2.2.2.2.1
theorem dX4_slateSum_32 : decode cX4_slateSum 32 = .ok (.goto (-27), 3) := db571.2.2.2.2.2.2.2.2.2.2.2.2.2.2.2.2.2.2.2.2.2.2
theorem db572 : (decode cX5_audible 0 = .ok (.iload_n 2, 1)) ∧ (decode cX5_audible 1 = .ok (.ifCond .lt 28, 3)) ∧ (decode cX5_audible 29 = .ok (.iconst 0, 1)) ∧ (decode cX5_audible 30 = .ok (.ireturn, 1)) ∧ (decode cX5_audible 4 = .ok (.iload_n 2, 1)) ∧ (decode cX5_audible 5 = .ok (.bipush 7, 2)) ∧ (decode cX5_audible 7 = .ok (.if_icmp .ge 22, 3)) ∧ (decode cX5_audible 10 = .ok (.aload_n 0, 1)) ∧ (decode cX5_audible 11 = .ok (.getfield 9, 3)) ∧ (decode cX5_audible 14 = .ok (.iload_n 2, 1)) ∧ (decode cX5_audible 15 = .ok (.iaload, 1)) ∧ (decode cX5_audible 16 = .ok (.aload_n 1, 1)) ∧ (decode cX5_audible 17 = .ok (.iload_n 2, 1)) ∧ (decode cX5_audible 18 = .ok (.iload_n 3, 1)) ∧ (decode cX5_audible 19 = .ok (.invokevirtual 59, 3)) ∧ (decode cX5_audible 22 = .ok (.imul, 1)) ∧ (decode cX5_audible 23 = .ok (.bipush 100, 2)) ∧ (decode cX5_audible 25 = .ok (.idiv, 1)) ∧ (decode cX5_audible 26 = .ok (.goto 4, 3)) := by decide +kernel
theorem dX5_audible_0 : decode cX5_audible 0 = .ok (.iload_n 2, 1) := db572.1
theorem dX5_audible_1 : decode cX5_audible 1 = .ok (.ifCond .lt 28, 3) := db572.2.1
theorem dX5_audible_29 : decode cX5_audible 29 = .ok (.iconst 0, 1) := db572.2.2.1
theorem dX5_audible_30 : decode cX5_audible 30 = .ok (.ireturn, 1) := db572.2.2.2.1
theorem dX5_audible_4 : decode cX5_audible 4 = .ok (.iload_n 2, 1) := db572.2.2.2.2.1
theorem dX5_audible_5 : decode cX5_audible 5 = .ok (.bipush 7, 2) := db572.2.2.2.2.2.1
theorem dX5_audible_7 : decode cX5_audible 7 = .ok (.if_icmp .ge 22, 3) := db572.2.2.2.2.2.2.1
theorem dX5_audible_10 : decode cX5_audible 10 = .ok (.aload_n 0, 1) := db572.2.2.2.2.2.2.2.1
theorem dX5_audible_11 : decode cX5_audible 11 = .ok (.getfield 9, 3) := db572.2.2.2.2.2.2.2.2.1
theorem dX5_audible_14 : decode cX5_audible 14 = .ok (.iload_n 2, 1) := db572.2.2.2.2.2.2.2.2.2.1
theorem dX5_audible_15 : decode cX5_audible 15 = .ok (.iaload, 1) := db572.2.2.2.2.2.2.2.2.2.2.1
theorem dX5_audible_16 : decode cX5_audible 16 = .ok (.aload_n 1, 1) := db572.2.2.2.2.2.2.2.2.2.2.2.1
theorem dX5_audible_17 : decode cX5_audible 17 = .ok (.iload_n 2, 1) := db572.2.2.2.2.2.2.2.2.2.2.2.2.1
theorem dX5_audible_18 : decode cX5_audible 18 = .ok (.iload_n 3, 1) := db572.2.2.2.2.2.2.2.2.2.2.2.2.2.1
theorem dX5_audible_19 : decode cX5_audible 19 = .ok (.invokevirtual 59, 3) := db572.2.2.2.2.2.2.2.2.2.2.2.2.2.2.1
theorem dX5_audible_22 : decode cX5_audible 22 = .ok (.imul, 1) := db572.2.2.2.2.2.2.2.2.2.2.2.2.2.2.2.1
theorem dX5_audible_23 : decode cX5_audible 23 = .ok (.bipush 100, 2) := db572.2.2.2.2.2.2.2.2.2.2.2.2.2.2.2.2.1
theorem dX5_audible_25 : decode cX5_audible 25 = .ok (.idiv, 1) := db572.2.2.2.2.2.2.2.2.2.2.2.2.2.2.2.2.2.1
theorem dX5_audible_26 : decode cX5_audible 26 = .ok (.goto 4, 3) := db572.2.2.2.2.2.2.2.2.2.2.2.2.2.2.2.2.2.2
theorem db573 : (decode cX5_begin 0 = .ok (.aload_n 1, 1)) ∧ (decode cX5_begin 1 = .ok (.invokevirtual 18, 3)) ∧ (decode cX5_begin 4 = .ok (.istore_n 2, 1)) ∧ (decode cX5_begin 5 = .ok (.ldc 24, 2)) ∧ (decode cX5_begin 7 = .ok (.istore_n 3, 1)) ∧ (decode cX5_begin 8 = .ok (.aload_n 0, 1)) ∧ (decode cX5_begin 9 = .ok (.getfield 9, 3)) ∧ (decode cX5_begin 12 = .ok (.iconst 0, 1)) ∧ (decode cX5_begin 13 = .ok (.invokestatic 25, 3)) ∧ (decode cX5_begin 16 = .ok (.iconst 0, 1)) ∧ (decode cX5_begin 17 = .ok (.istore 4, 2)) ∧ (decode cX5_begin 19 = .ok (.iload 4, 2)) ∧ (decode cX5_begin 21 = .ok (.aload_n 1, 1)) ∧ (decode cX5_begin 22 = .ok (.getfield 31, 3)) ∧ (decode cX5_begin 25 = .ok (.if_icmp .ge 52, 3)) ∧ (decode cX5_begin 77 = .ok (.aload_n 0, 1)) ∧ (decode cX5_begin 78 = .ok (.iload_n 3, 1)) ∧ (decode cX5_begin 79 = .ok (.putfield 41, 3)) ∧ (decode cX5_begin 82 = .ok (.aload_n 0, 1)) ∧ (decode cX5_begin 83 = .ok (.iconst 0, 1)) ∧ (decode cX5_begin 84 = .ok (.putfield 44, 3)) ∧ (decode cX5_begin 87 = .ok (.return_, 1)) ∧ (decode cX5_begin 28 = .ok (.aload_n 0, 1)) ∧ (decode cX5_begin 29 = .ok (.getfield 9, 3)) := by decide +kernel
theorem dX5_begin_0 : decode cX5_begin 0 = .ok (.aload_n 1, 1) := db573.1
theorem dX5_begin_1 : decode cX5_begin 1 = .ok (.invokevirtual 18, 3) := db573.2.1
theorem dX5_begin_4 : decode cX5_begin 4 = .ok (.istore_n 2, 1) := db573.2.2.1
theorem dX5_begin_5 : decode cX5_begin 5 = .ok (.ldc 24, 2) := db573.2.2.2.1
theorem dX5_begin_7 : decode cX5_begin 7 = .ok (.istore_n 3, 1) := db573.2.2.2.2.1
theorem dX5_begin_8 : decode cX5_begin 8 = .ok (.aload_n 0, 1) := db573.2.2.2.2.2.1
theorem dX5_begin_9 : decode cX5_begin 9 = .ok (.getfield 9, 3) := db573.2.2.2.2.2.2.1
theorem dX5_begin_12 : decode cX5_begin 12 = .ok (.iconst 0, 1) := db573.2.2.2.2.2.2.2.1
theorem dX5_begin_13 : decode cX5_begin 13 = .ok (.invokestatic 25, 3) := db573.2.2.2.2.2.2.2.2.1
theorem dX5_begin_16 : decode cX5_begin 16 = .ok (.iconst 0, 1) := db573.2.2.2.2.2.2.2.2.2.1
theorem dX5_begin_17 : decode cX5_begin 17 = .ok (.istore 4, 2) := db573.2.2.2.2.2.2.2.2.2.2.1
theorem dX5_begin_19 : decode cX5_begin 19 = .ok (.iload 4, 2) := db573.2.2.2.2.2.2.2.2.2.2.2.1
theorem dX5_begin_21 : decode cX5_begin 21 = .ok (.aload_n 1, 1) := db573.2.2.2.2.2.2.2.2.2.2.2.2.1
theorem dX5_begin_22 : decode cX5_begin 22 = .ok (.getfield 31, 3) := db573.2.2.2.2.2.2.2.2.2.2.2.2.2.1
theorem dX5_begin_25 : decode cX5_begin 25 = .ok (.if_icmp .ge 52, 3) := db573.2.2.2.2.2.2.2.2.2.2.2.2.2.2.1
theorem dX5_begin_77 : decode cX5_begin 77 = .ok (.aload_n 0, 1) := db573.2.2.2.2.2.2.2.2.2.2.2.2.2.2.2.1
theorem dX5_begin_78 : decode cX5_begin 78 = .ok (.iload_n 3, 1) := db573.2.2.2.2.2.2.2.2.2.2.2.2.2.2.2.2.1
theorem dX5_begin_79 : decode cX5_begin 79 = .ok (.putfield 41, 3) := db573.2.2.2.2.2.2.2.2.2.2.2.2.2.2.2.2.2.1
theorem dX5_begin_82 : decode cX5_begin 82 = .ok (.aload_n 0, 1) := db573.2.2.2.2.2.2.2.2.2.2.2.2.2.2.2.2.2.2.1
theorem dX5_begin_83 : decode cX5_begin 83 = .ok (.iconst 0, 1) := db573.2.2.2.2.2.2.2.2.2.2.2.2.2.2.2.2.2.2.2.1
theorem dX5_begin_84 : decode cX5_begin 84 = .ok (.putfield 44, 3) := db573.2.2.2.2.2.2.2.2.2.2.2.2.2.2.2.2.2.2.2.2.1
theorem dX5_begin_87 : decode cX5_begin 87 = .ok (.return_, 1) := db573.2.2.2.2.2.2.2.2.2.2.2.2.2.2.2.2.2.2.2.2.2.1
theorem dX5_begin_28 : decode cX5_begin 28 = .ok (.aload_n 0, 1) := db573.2.2.2.2.2.2.2.2.2.2.2.2.2.2.2.2.2.2.2.2.2.2.1
theorem dX5_begin_29 : decode cX5_begin 29 = .ok (.getfield 9, 3) := db573.2.2.2.2.2.2.2.2.2.2.2.2.2.2.2.2.2.2.2.2.2.2.2
theorem db574 : (decode cX5_begin 32 = .ok (.iload 4, 2)) ∧ (decode cX5_begin 34 = .ok (.iload_n 2, 1)) ∧ (decode cX5_begin 60 = .ok (.iastore, 1)) ∧ (decode cX5_begin 61 = .ok (.iload_n 3, 1)) ∧ (decode cX5_begin 62 = .ok (.aload_n 0, 1)) ∧ (decode cX5_begin 63 = .ok (.getfield 9, 3)) ∧ (decode cX5_begin 66 = .ok (.iload 4, 2)) ∧ (decode cX5_begin 68 = .ok (.iaload, 1)) ∧ (decode cX5_begin 69 = .ok (.isub, 1)) ∧ (decode cX5_begin 70 = .ok (.istore_n 3, 1)) ∧ (decode cX5_begin 71 = .ok (.iinc 4 1, 3)) ∧ (decode cX5_begin 74 = .ok (.goto (-55), 3)) ∧ (decode cX5_begin 35 = .ok (.ifCond .ne 7, 3)) ∧ (decode cX5_begin 42 = .ok (.aload_n 1, 1)) ∧ (decode cX5_begin 43 = .ok (.getfield 35, 3)) ∧ (decode cX5_begin 46 = .ok (.sipush 10000, 3)) ∧ (decode cX5_begin 49 = .ok (.imul, 1)) ∧ (decode cX5_begin 50 = .ok (.aload_n 1, 1)) ∧ (decode cX5_begin 51 = .ok (.getfield 38, 3)) ∧ (decode cX5_begin 54 = .ok (.iload 4, 2)) ∧ (decode cX5_begin 56 = .ok (.iaload, 1)) ∧ (decode cX5_begin 57 = .ok (.imul, 1)) ∧ (decode cX5_begin 58 = .ok (.iload_n 2, 1)) ∧ (decode cX5_begin 59 = .ok (.idiv, 1)) := by decide +kernel
theorem dX5_begin_32 : decode cX5_begin 32 = .ok (.iload 4, 2) := db574.1
theorem dX5_begin_34 : decode cX5_begin 34 = .ok (.iload_n 2, 1) := db574.2.1
theorem dX5_begin_60 : decode cX5_begin 60 = .ok (.iastore, 1) := db574.2.2.1
theorem dX5_begin_61 : decode cX5_begin 61 = .ok (.iload_n 3, 1) := db574.2.2.2.1
theorem dX5_begin_62 : decode cX5_begin 62 = .ok (.aload_n 0, 1) := db574.2.2.2.2.1
theorem dX5_begin_63 : decode cX5_begin 63 = .ok (.getfield 9, 3) := db574.2.2.2.2.2.1
theorem dX5_begin_66 : decode cX5_begin 66 = .ok (.iload 4, 2) := db574.2.2.2.2.2.2.1
theorem dX5_begin_68 : decode cX5_begin 68 = .ok (.iaload, 1) := db574.2.2.2.2.2.2.2.1
theorem dX5_begin_69 : decode cX5_begin 69 = .ok (.isub, 1) := db574.2.2.2.2.2.2.2.2.1
theorem dX5_begin_70 : decode cX5_begin 70 = .ok (.istore_n 3, 1) := db574.2.2.2.2.2.2.2.2.2.1
theorem dX5_begin_71 : decode cX5_begin 71 = .ok (.iinc 4 1, 3) := db574.2.2.2.2.2.2.2.2.2.2.1
theorem dX5_begin_74 : decode cX5_begin 74 = .ok (.goto (-55), 3) := db574.2.2.2.2.2.2.2.2.2.2.2.1
theorem dX5_begin_35 : decode cX5_begin 35 = .ok (.ifCond .ne 7, 3) := db574.2.2.2.2.2.2.2.2.2.2.2.2.1
theorem dX5_begin_42 : decode cX5_begin 42 = .ok (.aload_n 1, 1) := db574.2.2.2.2.2.2.2.2.2.2.2.2.2.1
theorem dX5_begin_43 : decode cX5_begin 43 = .ok (.getfield 35, 3) := db574.2.2.2.2.2.2.2.2.2.2.2.2.2.2.1
theorem dX5_begin_46 : decode cX5_begin 46 = .ok (.sipush 10000, 3) := db574.2.2.2.2.2.2.2.2.2.2.2.2.2.2.2.1
theorem dX5_begin_49 : decode cX5_begin 49 = .ok (.imul, 1) := db574.2.2.2.2.2.2.2.2.2.2.2.2.2.2.2.2.1
theorem dX5_begin_50 : decode cX5_begin 50 = .ok (.aload_n 1, 1) := db574.2.2.2.2.2.2.2.2.2.2.2.2.2.2.2.2.2.1
theorem dX5_begin_51 : decode cX5_begin 51 = .ok (.getfield 38, 3) := db574.2.2.2.2.2.2.2.2.2.2.2.2.2.2.2.2.2.2.1
theorem dX5_begin_54 : decode cX5_begin 54 = .ok (.iload 4, 2) := db574.2.2.2.2.2.2.2.2.2.2.2.2.2.2.2.2.2.2.2.1
theorem dX5_begin_56 : decode cX5_begin 56 = .ok (.iaload, 1) := db574.2.2.2.2.2.2.2.2.2.2.2.2.2.2.2.2.2.2.2.2.1
theorem dX5_begin_57 : decode cX5_begin 57 = .ok (.imul, 1) := db574.2.2.2.2.2.2.2.2.2.2.2.2.2.2.2.2.2.2.2.2.2.1
theorem dX5_begin_58 : decode cX5_begin 58 = .ok (.iload_n 2, 1) := db574.2.2.2.2.2.2.2.2.2.2.2.2.2.2.2.2.2.2.2.2.2.2.1
theorem dX5_begin_59 : decode cX5_begin 59 = .ok (.idiv, 1) := db574.2.2.2.2.2.2.2.2.2.2.2.2.2.2.2.2.2.2.2.2.2.2.2
theorem db575 : (decode cX5_begin 38 = .ok (.iconst 0, 1)) ∧ (decode cX5_begin 39 = .ok (.goto 21, 3)) := by decide +kernel
theorem dX5_begin_38 : decode cX5_begin 38 = .ok (.iconst 0, 1) := db575.1
theorem dX5_begin_39 : decode cX5_begin 39 = .ok (.goto 21, 3) := db575.2
theorem db576 : (decode cX5_chanceHere 0 = .ok (.aload_n 0, 1)) ∧ (decode cX5_chanceHere 1 = .ok (.ldc 24, 2)) ∧ (decode cX5_chanceHere 3 = .ok (.aload_n 0, 1)) ∧ (decode cX5_chanceHere 4 = .ok (.getfield 44, 3)) ∧ (decode cX5_chanceHere 7 = .ok (.isub, 1)) ∧ (decode cX5_chanceHere 8 = .ok (.aload_n 0, 1)) ∧ (decode cX5_chanceHere 9 = .ok (.getfield 41, 3)) ∧ (decode cX5_chanceHere 12 = .ok (.isub, 1)) ∧ (decode cX5_chanceHere 13 = .ok (.invokevirtual 55, 3)) ∧ (decode cX5_chanceHere 16 = .ok (.ireturn, 1)) := by decide +kernel
theorem dX5_chanceHere_0 : decode cX5_chanceHere 0 = .ok (.aload_n 0, 1) := db576.1
theorem dX5_chanceHere_1 : decode cX5_chanceHere 1 = .ok (.ldc 24, 2) := db576.2.1
theorem dX5_chanceHere_3 : decode cX5_chanceHere 3 = .ok (.aload_n 0, 1) := db576.2.2.1
theorem dX5_chanceHere_4 : decode cX5_chanceHere 4 = .ok (.getfield 44, 3) := db576.2.2.2.1
theorem dX5_chanceHere_7 : decode cX5_chanceHere 7 = .ok (.isub, 1) := db576.2.2.2.2.1
theorem dX5_chanceHere_8 : decode cX5_chanceHere 8 = .ok (.aload_n 0, 1) := db576.2.2.2.2.2.1
theorem dX5_chanceHere_9 : decode cX5_chanceHere 9 = .ok (.getfield 41, 3) := db576.2.2.2.2.2.2.1
theorem dX5_chanceHere_12 : decode cX5_chanceHere 12 = .ok (.isub, 1) := db576.2.2.2.2.2.2.2.1
theorem dX5_chanceHere_13 : decode cX5_chanceHere 13 = .ok (.invokevirtual 55, 3) := db576.2.2.2.2.2.2.2.2.1
theorem dX5_chanceHere_16 : decode cX5_chanceHere 16 = .ok (.ireturn, 1) := db576.2.2.2.2.2.2.2.2.2
theorem db577 : (decode cX5_chanceOf 0 = .ok (.ldc 24, 2)) ∧ (decode cX5_chanceOf 2 = .ok (.aload_n 0, 1)) ∧ (decode cX5_chanceOf 3 = .ok (.getfield 44, 3)) ∧ (decode cX5_chanceOf 6 = .ok (.isub, 1)) ∧ (decode cX5_chanceOf 7 = .ok (.istore_n 2, 1)) ∧ (decode cX5_chanceOf 8 = .ok (.iload_n 2, 1)) ∧ (decode cX5_chanceOf 9 = .ok (.ifCond .gt 7, 3)) ∧ (decode cX5_chanceOf 16 = .ok (.iload_n 1, 1)) ∧ (decode cX5_chanceOf 17 = .ok (.i2l, 1)) ∧ (decode cX5_chanceOf 18 = .ok (.ldc2_w 53, 3)) ∧ (decode cX5_chanceOf 21 = .ok (.lmul, 1)) ∧ (decode cX5_chanceOf 22 = .ok (.iload_n 2, 1)) ∧ (decode cX5_chanceOf 23 = .ok (.i2l, 1)) ∧ (decode cX5_chanceOf 24 = .ok (.ldiv, 1)) ∧ (decode cX5_chanceOf 25 = .ok (.l2i, 1)) ∧ (decode cX5_chanceOf 26 = .ok (.ireturn, 1)) ∧ (decode cX5_chanceOf 12 = .ok (.iconst 0, 1)) ∧ (decode cX5_chanceOf 13 = .ok (.goto 13, 3)) := by decide +kernel
theorem dX5_chanceOf_0 : decode cX5_chanceOf 0 = .ok (.ldc 24, 2) := db577.1
theorem dX5_chanceOf_2 : decode cX5_chanceOf 2 = .ok (.aload_n 0, 1) := db577.2.1
theorem dX5_chanceOf_3 : decode cX5_chanceOf 3 = .ok (.getfield 44, 3) := db577.2.2.1
theorem dX5_chanceOf_6 : decode cX5_chanceOf 6 = .ok (.isub, 1) := db577.2.2.2.1
theorem dX5_chanceOf_7 : decode cX5_chanceOf 7 = .ok (.istore_n 2, 1) := db577.2.2.2.2.1
theorem dX5_chanceOf_8 : decode cX5_chanceOf 8 = .ok (.iload_n 2, 1) := db577.2.2.2.2.2.1
theorem dX5_chanceOf_9 : decode cX5_chanceOf 9 = .ok (.ifCond .gt 7, 3) := db577.2.2.2.2.2.2.1
theorem dX5_chanceOf_16 : decode cX5_chanceOf 16 = .ok (.iload_n 1, 1) := db577.2.2.2.2.2.2.2.1
theorem dX5_chanceOf_17 : decode cX5_chanceOf 17 = .ok (.i2l, 1) := db577.2.2.2.2.2.2.2.2.1
theorem dX5_chanceOf_18 : decode cX5_chanceOf 18 = .ok (.ldc2_w 53, 3) := db577.2.2.2.2.2.2.2.2.2.1
theorem dX5_chanceOf_21 : decode cX5_chanceOf 21 = .ok (.lmul, 1) := db577.2.2.2.2.2.2.2.2.2.2.1
theorem dX5_chanceOf_22 : decode cX5_chanceOf 22 = .ok (.iload_n 2, 1) := db577.2.2.2.2.2.2.2.2.2.2.2.1
theorem dX5_chanceOf_23 : decode cX5_chanceOf 23 = .ok (.i2l, 1) := db577.2.2.2.2.2.2.2.2.2.2.2.2.1
theorem dX5_chanceOf_24 : decode cX5_chanceOf 24 = .ok (.ldiv, 1) := db577.2.2.2.2.2.2.2.2.2.2.2.2.2.1
theorem dX5_chanceOf_25 : decode cX5_chanceOf 25 = .ok (.l2i, 1) := db577.2.2.2.2.2.2.2.2.2.2.2.2.2.2.1
theorem dX5_chanceOf_26 : decode cX5_chanceOf 26 = .ok (.ireturn, 1) := db577.2.2.2.2.2.2.2.2.2.2.2.2.2.2.2.1
theorem dX5_chanceOf_12 : decode cX5_chanceOf 12 = .ok (.iconst 0, 1) := db577.2.2.2.2.2.2.2.2.2.2.2.2.2.2.2.2.1
theorem dX5_chanceOf_13 : decode cX5_chanceOf 13 = .ok (.goto 13, 3) := db577.2.2.2.2.2.2.2.2.2.2.2.2.2.2.2.2.2
theorem db578 : (decode cX5_copyFrom 0 = .ok (.aload_n 1, 1)) ∧ (decode cX5_copyFrom 1 = .ok (.getfield 9, 3)) ∧ (decode cX5_copyFrom 4 = .ok (.iconst 0, 1)) ∧ (decode cX5_copyFrom 5 = .ok (.aload_n 0, 1)) ∧ (decode cX5_copyFrom 6 = .ok (.getfield 9, 3)) ∧ (decode cX5_copyFrom 9 = .ok (.iconst 0, 1)) ∧ (decode cX5_copyFrom 10 = .ok (.bipush 7, 2)) ∧ (decode cX5_copyFrom 12 = .ok (.invokestatic 47, 3)) ∧ (decode cX5_copyFrom 15 = .ok (.aload_n 0, 1)) ∧ (decode cX5_copyFrom 16 = .ok (.aload_n 1, 1)) ∧ (decode cX5_copyFrom 17 = .ok (.getfield 41, 3)) ∧ (decode cX5_copyFrom 20 = .ok (.putfield 41, 3)) ∧ (decode cX5_copyFrom 23 = .ok (.aload_n 0, 1)) ∧ (decode cX5_copyFrom 24 = .ok (.aload_n 1, 1)) ∧ (decode cX5_copyFrom 25 = .ok (.getfield 44, 3)) ∧ (decode cX5_copyFrom 28 = .ok (.putfield 44, 3)) ∧ (decode cX5_copyFrom 31 = .ok (.return_, 1)) := by decide +kernel
theorem dX5_copyFrom_0 : decode cX5_copyFrom 0 = .ok (.aload_n 1, 1) := db578.1
theorem dX5_copyFrom_1 : decode cX5_copyFrom 1 = .ok (.getfield 9, 3) := db578.2.1
theorem dX5_copyFrom_4 : decode cX5_copyFrom 4 = .ok (.iconst 0, 1) := db578.2.2.1
theorem dX5_copyFrom_5 : decode cX5_copyFrom 5 = .ok (.aload_n 0, 1) := db578.2.2.2.1
theorem dX5_copyFrom_6 : decode cX5_copyFrom 6 = .ok (.getfield 9, 3) := db578.2.2.2.2.1
theorem dX5_copyFrom_9 : decode cX5_copyFrom 9 = .ok (.iconst 0, 1) := db578.2.2.2.2.2.1
theorem dX5_copyFrom_10 : decode cX5_copyFrom 10 = .ok (.bipush 7, 2) := db578.2.2.2.2.2.2.1
theorem dX5_copyFrom_12 : decode cX5_copyFrom 12 = .ok (.invokestatic 47, 3) := db578.2.2.2.2.2.2.2.1
theorem dX5_copyFrom_15 : decode cX5_copyFrom 15 = .ok (.aload_n 0, 1) := db578.2.2.2.2.2.2.2.2.1
theorem dX5_copyFrom_16 : decode cX5_copyFrom 16 = .ok (.aload_n 1, 1) := db578.2.2.2.2.2.2.2.2.2.1
theorem dX5_copyFrom_17 : decode cX5_copyFrom 17 = .ok (.getfield 41, 3) := db578.2.2.2.2.2.2.2.2.2.2.1
theorem dX5_copyFrom_20 : decode cX5_copyFrom 20 = .ok (.putfield 41, 3) := db578.2.2.2.2.2.2.2.2.2.2.2.1
theorem dX5_copyFrom_23 : decode cX5_copyFrom 23 = .ok (.aload_n 0, 1) := db578.2.2.2.2.2.2.2.2.2.2.2.2.1
theorem dX5_copyFrom_24 : decode cX5_copyFrom 24 = .ok (.aload_n 1, 1) := db578.2.2.2.2.2.2.2.2.2.2.2.2.2.1
theorem dX5_copyFrom_25 : decode cX5_copyFrom 25 = .ok (.getfield 44, 3) := db578.2.2.2.2.2.2.2.2.2.2.2.2.2.2.1
theorem dX5_copyFrom_28 : decode cX5_copyFrom 28 = .ok (.putfield 44, 3) := db578.2.2.2.2.2.2.2.2.2.2.2.2.2.2.2.1
theorem dX5_copyFrom_31 : decode cX5_copyFrom 31 = .ok (.return_, 1) := db578.2.2.2.2.2.2.2.2.2.2.2.2.2.2.2.2
theorem db579 : (decode cX5_init 0 = .ok (.aload_n 0, 1)) ∧ (decode cX5_init 1 = .ok (.invokespecial 3, 3)) ∧ (decode cX5_init 4 = .ok (.aload_n 0, 1)) ∧ (decode cX5_init 5 = .ok (.bipush 7, 2)) ∧ (decode cX5_init 7 = .ok (.newarray .int, 2)) ∧ (decode cX5_init 9 = .ok (.putfield 9, 3)) ∧ (decode cX5_init 12 = .ok (.aload_n 0, 1)) ∧ (decode cX5_init 13 = .ok (.bipush 7, 2)) ∧ (decode cX5_init 15 = .ok (.newarray .int, 2)) ∧ (decode cX5_init 17 = .ok (.putfield 15, 3)) ∧ (decode cX5_init 20 = .ok (.return_, 1)) := by decide +kernel
theorem dX5_init_0 : decode cX5_init 0 = .ok (.aload_n 0, 1) := db579.1
theorem dX5_init_1 : decode cX5_init 1 = .ok (.invokespecial 3, 3) := db579.2.1
theorem dX5_init_4 : decode cX5_init 4 = .ok (.aload_n 0, 1) := db579.2.2.1
theorem dX5_init_5 : decode cX5_init 5 = .ok (.bipush 7, 2) := db579.2.2.2.1
theorem dX5_init_7 : decode cX5_init 7 = .ok (.newarray .int, 2) := db579.2.2.2.2.1
theorem dX5_init_9 : decode cX5_init 9 = .ok (.putfield 9, 3) := db579.2.2.2.2.2.1
theorem dX5_init_12 : decode cX5_init 12 = .ok (.aload_n 0, 1) := db579.2.2.2.2.2.2.1
theorem dX5_init_13 : decode cX5_init 13 = .ok (.bipush 7, 2) := db579.2.2.2.2.2.2.2.1
theorem dX5_init_15 : decode cX5_init 15 = .ok (.newarray .int, 2) := db579.2.2.2.2.2.2.2.2.1
theorem dX5_init_17 : decode cX5_init 17 = .ok (.putfield 15, 3) := db579.2.2.2.2.2.2.2.2.2.1
theorem dX5_init_20 : decode cX5_init 20 = .ok (.return_, 1) := db579.2.2.2.2.2.2.2.2.2.2
theorem db580 : (decode cX5_leave 0 = .ok (.aload_n 1, 1)) ∧ (decode cX5_leave 1 = .ok (.getfield 75, 3)) ∧ (decode cX5_leave 4 = .ok (.iload_n 2, 1)) ∧ (decode cX5_leave 5 = .ok (.iaload, 1)) ∧ (decode cX5_leave 6 = .ok (.istore_n 3, 1)) ∧ (decode cX5_leave 7 = .ok (.iload_n 3, 1)) ∧ (decode cX5_leave 8 = .ok (.invokestatic 78, 3)) ∧ (decode cX5_leave 11 = .ok (.istore 4, 2)) ∧ (decode cX5_leave 13 = .ok (.iload 4, 2)) ∧ (decode cX5_leave 39 = .ok (.istore 5, 2)) ∧ (decode cX5_leave 41 = .ok (.iload 5, 2)) ∧ (decode cX5_leave 43 = .ok (.ifCond .ne 4, 3)) ∧ (decode cX5_leave 47 = .ok (.iconst 0, 1)) ∧ (decode cX5_leave 48 = .ok (.istore 6, 2)) ∧ (decode cX5_leave 50 = .ok (.iload 6, 2)) ∧ (decode cX5_leave 52 = .ok (.aload_n 1, 1)) ∧ (decode cX5_leave 53 = .ok (.getfield 31, 3)) ∧ (decode cX5_leave 56 = .ok (.if_icmp .ge 30, 3)) ∧ (decode cX5_leave 86 = .ok (.aload_n 0, 1)) ∧ (decode cX5_leave 87 = .ok (.getfield 15, 3)) ∧ (decode cX5_leave 90 = .ok (.iload_n 2, 1)) ∧ (decode cX5_leave 91 = .ok (.dup2, 1)) ∧ (decode cX5_leave 92 = .ok (.iaload, 1)) ∧ (decode cX5_leave 93 = .ok (.iload 5, 2)) := by decide +kernel
theorem dX5_leave_0 : decode cX5_leave 0 = .ok (.aload_n 1, 1) := db580.1
theorem dX5_leave_1 : decode cX5_leave 1 = .ok (.getfield 75, 3) := db580.2.1
theorem dX5_leave_4 : decode cX5_leave 4 = .ok (.iload_n 2, 1) := db580.2.2.1
theorem dX5_leave_5 : decode cX5_leave 5 = .ok (.iaload, 1) := db580.2.2.2.1
theorem dX5_leave_6 : decode cX5_leave 6 = .ok (.istore_n 3, 1) := db580.2.2.2.2.1
theorem dX5_leave_7 : decode cX5_leave 7 = .ok (.iload_n 3, 1) := db580.2.2.2.2.2.1
theorem dX5_leave_8 : decode cX5_leave 8 = .ok (.invokestatic 78, 3) := db580.2.2.2.2.2.2.1
theorem dX5_leave_11 : decode cX5_leave 11 = .ok (.istore 4, 2) := db580.2.2.2.2.2.2.2.1
theorem dX5_leave_13 : decode cX5_leave 13 = .ok (.iload 4, 2) := db580.2.2.2.2.2.2.2.2.1
theorem dX5_leave_39 : decode cX5_leave 39 = .ok (.istore 5, 2) := db580.2.2.2.2.2.2.2.2.2.1
theorem dX5_leave_41 : decode cX5_leave 41 = .ok (.iload 5, 2) := db580.2.2.2.2.2.2.2.2.2.2.1
theorem dX5_leave_43 : decode cX5_leave 43 = .ok (.ifCond .ne 4, 3) := db580.2.2.2.2.2.2.2.2.2.2.2.1
theorem dX5_leave_47 : decode cX5_leave 47 = .ok (.iconst 0, 1) := db580.2.2.2.2.2.2.2.2.2.2.2.2.1
theorem dX5_leave_48 : decode cX5_leave 48 = .ok (.istore 6, 2) := db580.2.2.2.2.2.2.2.2.2.2.2.2.2.1
theorem dX5_leave_50 : decode cX5_leave 50 = .ok (.iload 6, 2) := db580.2.2.2.2.2.2.2.2.2.2.2.2.2.2.1
theorem dX5_leave_52 : decode cX5_leave 52 = .ok (.aload_n 1, 1) := db580.2.2.2.2.2.2.2.2.2.2.2.2.2.2.2.1
theorem dX5_leave_53 : decode cX5_leave 53 = .ok (.getfield 31, 3) := db580.2.2.2.2.2.2.2.2.2.2.2.2.2.2.2.2.1
theorem dX5_leave_56 : decode cX5_leave 56 = .ok (.if_icmp .ge 30, 3) := db580.2.2.2.2.2.2.2.2.2.2.2.2.2.2.2.2.2.1
theorem dX5_leave_86 : decode cX5_leave 86 = .ok (.aload_n 0, 1) := db580.2.2.2.2.2.2.2.2.2.2.2.2.2.2.2.2.2.2.1
theorem dX5_leave_87 : decode cX5_leave 87 = .ok (.getfield 15, 3) := db580.2.2.2.2.2.2.2.2.2.2.2.2.2.2.2.2.2.2.2.1
theorem dX5_leave_90 : decode cX5_leave 90 = .ok (.iload_n 2, 1) := db580.2.2.2.2.2.2.2.2.2.2.2.2.2.2.2.2.2.2.2.2.1
theorem dX5_leave_91 : decode cX5_leave 91 = .ok (.dup2, 1) := db580.2.2.2.2.2.2.2.2.2.2.2.2.2.2.2.2.2.2.2.2.2.1
theorem dX5_leave_92 : decode cX5_leave 92 = .ok (.iaload, 1) := db580.2.2.2.2.2.2.2.2.2.2.2.2.2.2.2.2.2.2.2.2.2.2.1
theorem dX5_leave_93 : decode cX5_leave 93 = .ok (.iload 5, 2) := db580.2.2.2.2.2.2.2.2.2.2.2.2.2.2.2.2.2.2.2.2.2.2.2
theorem db581 : (decode cX5_leave 95 = .ok (.iload 4, 2)) ∧ (decode cX5_leave 97 = .ok (.imul, 1)) ∧ (decode cX5_leave 98 = .ok (.isub, 1)) ∧ (decode cX5_leave 99 = .ok (.iastore, 1)) ∧ (decode cX5_leave 100 = .ok (.return_, 1)) ∧ (decode cX5_leave 59 = .ok (.iload_n 3, 1)) ∧ (decode cX5_leave 60 = .ok (.iload 6, 2)) ∧ (decode cX5_leave 62 = .ok (.ishr, 1)) ∧ (decode cX5_leave 63 = .ok (.iconst 1, 1)) ∧ (decode cX5_leave 64 = .ok (.iand, 1)) ∧ (decode cX5_leave 80 = .ok (.iinc 6 1, 3)) ∧ (decode cX5_leave 83 = .ok (.goto (-33), 3)) ∧ (decode cX5_leave 65 = .ok (.ifCond .eq 15, 3)) ∧ (decode cX5_leave 68 = .ok (.aload_n 0, 1)) ∧ (decode cX5_leave 69 = .ok (.getfield 15, 3)) ∧ (decode cX5_leave 72 = .ok (.iload 6, 2)) ∧ (decode cX5_leave 74 = .ok (.dup2, 1)) ∧ (decode cX5_leave 75 = .ok (.iaload, 1)) ∧ (decode cX5_leave 76 = .ok (.iload 5, 2)) ∧ (decode cX5_leave 78 = .ok (.iadd, 1)) ∧ (decode cX5_leave 79 = .ok (.iastore, 1)) ∧ (decode cX5_leave 46 = .ok (.return_, 1)) ∧ (decode cX5_leave 15 = .ok (.ifCond .ne 7, 3)) ∧ (decode cX5_leave 22 = .ok (.aload_n 0, 1)) := by decide +kernel
theorem dX5_leave_95 : decode cX5_leave 95 = .ok (.iload 4, 2) := db581.1
theorem dX5_leave_97 : decode cX5_leave 97 = .ok (.imul, 1) := db581.2.1
theorem dX5_leave_98 : decode cX5_leave 98 = .ok (.isub, 1) := db581.2.2.1
theorem dX5_leave_99 : decode cX5_leave 99 = .ok (.iastore, 1) := db581.2.2.2.1
theorem dX5_leave_100 : decode cX5_leave 100 = .ok (.return_, 1) := db581.2.2.2.2.1
theorem dX5_leave_59 : decode cX5_leave 59 = .ok (.iload_n 3, 1) := db581.2.2.2.2.2.1
theorem dX5_leave_60 : decode cX5_leave 60 = .ok (.iload 6, 2) := db581.2.2.2.2.2.2.1
theorem dX5_leave_62 : decode cX5_leave 62 = .ok (.ishr, 1) := db581.2.2.2.2.2.2.2.1
theorem dX5_leave_63 : decode cX5_leave 63 = .ok (.iconst 1, 1) := db581.2.2.2.2.2.2.2.2.1
theorem dX5_leave_64 : decode cX5_leave 64 = .ok (.iand, 1) := db581.2.2.2.2.2.2.2.2.2.1
theorem dX5_leave_80 : decode cX5_leave 80 = .ok (.iinc 6 1, 3) := db581.2.2.2.2.2.2.2.2.2.2.1
theorem dX5_leave_83 : decode cX5_leave 83 = .ok (.goto (-33), 3) := db581.2.2.2.2.2.2.2.2.2.2.2.1
theorem dX5_leave_65 : decode cX5_leave 65 = .ok (.ifCond .eq 15, 3) := db581.2.2.2.2.2.2.2.2.2.2.2.2.1
theorem dX5_leave_68 : decode cX5_leave 68 = .ok (.aload_n 0, 1) := db581.2.2.2.2.2.2.2.2.2.2.2.2.2.1
theorem dX5_leave_69 : decode cX5_leave 69 = .ok (.getfield 15, 3) := db581.2.2.2.2.2.2.2.2.2.2.2.2.2.2.1
theorem dX5_leave_72 : decode cX5_leave 72 = .ok (.iload 6, 2) := db581.2.2.2.2.2.2.2.2.2.2.2.2.2.2.2.1
theorem dX5_leave_74 : decode cX5_leave 74 = .ok (.dup2, 1) := db581.2.2.2.2.2.2.2.2.2.2.2.2.2.2.2.2.1
theorem dX5_leave_75 : decode cX5_leave 75 = .ok (.iaload, 1) := db581.2.2.2.2.2.2.2.2.2.2.2.2.2.2.2.2.2.1
theorem dX5_leave_76 : decode cX5_leave 76 = .ok (.iload 5, 2) := db581.2.2.2.2.2.2.2.2.2.2.2.2.2.2.2.2.2.2.1
theorem dX5_leave_78 : decode cX5_leave 78 = .ok (.iadd, 1) := db581.2.2.2.2.2.2.2.2.2.2.2.2.2.2.2.2.2.2.2.1
theorem dX5_leave_79 : decode cX5_leave 79 = .ok (.iastore, 1) := db581.2.2.2.2.2.2.2.2.2.2.2.2.2.2.2.2.2.2.2.2.1
theorem dX5_leave_46 : decode cX5_leave 46 = .ok (.return_, 1) := db581.2.2.2.2.2.2.2.2.2.2.2.2.2.2.2.2.2.2.2.2.2.1
theorem dX5_leave_15 : decode cX5_leave 15 = .ok (.ifCond .ne 7, 3) := db581.2.2.2.2.2.2.2.2.2.2.2.2.2.2.2.2.2.2.2.2.2.2.1
theorem dX5_leave_22 : decode cX5_leave 22 = .ok (.aload_n 0, 1) := db581.2.2.2.2.2.2.2.2.2.2.2.2.2.2.2.2.2.2.2.2.2.2.2
theorem db582 : (decode cX5_leave 23 = .ok (.getfield 9, 3)) ∧ (decode cX5_leave 26 = .ok (.iload_n 2, 1)) ∧ (decode cX5_leave 27 = .ok (.iaload, 1)) ∧ (decode cX5_leave 28 = .ok (.aload_n 1, 1)) ∧ (decode cX5_leave 29 = .ok (.getfield 83, 3)) ∧ (decode cX5_leave 32 = .ok (.imul, 1)) ∧ (decode cX5_leave 33 = .ok (.bipush 100, 2)) ∧ (decode cX5_leave 35 = .ok (.idiv, 1)) ∧ (decode cX5_leave 36 = .ok (.iload 4, 2)) ∧ (decode cX5_leave 38 = .ok (.idiv, 1)) ∧ (decode cX5_leave 18 = .ok (.iconst 0, 1)) ∧ (decode cX5_leave 19 = .ok (.goto 20, 3)) := by decide +kernel
theorem dX5_leave_23 : decode cX5_leave 23 = .ok (.getfield 9, 3) := db582.1
theorem dX5_leave_26 : decode cX5_leave 26 = .ok (.iload_n 2, 1) := db582.2.1
theorem dX5_leave_27 : decode cX5_leave 27 = .ok (.iaload, 1) := db582.2.2.1
theorem dX5_leave_28 : decode cX5_leave 28 = .ok (.aload_n 1, 1) := db582.2.2.2.1
theorem dX5_leave_29 : decode cX5_leave 29 = .ok (.getfield 83, 3) := db582.2.2.2.2.1
theorem dX5_leave_32 : decode cX5_leave 32 = .ok (.imul, 1) := db582.2.2.2.2.2.1
theorem dX5_leave_33 : decode cX5_leave 33 = .ok (.bipush 100, 2) := db582.2.2.2.2.2.2.1
theorem dX5_leave_35 : decode cX5_leave 35 = .ok (.idiv, 1) := db582.2.2.2.2.2.2.2.1
theorem dX5_leave_36 : decode cX5_leave 36 = .ok (.iload 4, 2) := db582.2.2.2.2.2.2.2.2.1
theorem dX5_leave_38 : decode cX5_leave 38 = .ok (.idiv, 1) := db582.2.2.2.2.2.2.2.2.2.1
theorem dX5_leave_18 : decode cX5_leave 18 = .ok (.iconst 0, 1) := db582.2.2.2.2.2.2.2.2.2.2.1
theorem dX5_leave_19 : decode cX5_leave 19 = .ok (.goto 20, 3) := db582.2.2.2.2.2.2.2.2.2.2.2
theorem db583 : (decode cX5_live 0 = .ok (.aload_n 0, 1)) ∧ (decode cX5_live 1 = .ok (.aload_n 1, 1)) ∧ (decode cX5_live 2 = .ok (.iload_n 2, 1)) ∧ (decode cX5_live 3 = .ok (.iload_n 3, 1)) ∧ (decode cX5_live 4 = .ok (.invokevirtual 63, 3)) ∧ (decode cX5_live 7 = .ok (.istore 4, 2)) ∧ (decode cX5_live 9 = .ok (.iload 4, 2)) ∧ (decode cX5_live 36 = .ok (.aload_n 0, 1)) ∧ (decode cX5_live 37 = .ok (.aload_n 1, 1)) ∧ (decode cX5_live 38 = .ok (.iconst (-1), 1)) ∧ (decode cX5_live 39 = .ok (.invokevirtual 67, 3)) ∧ (decode cX5_live 42 = .ok (.pop, 1)) ∧ (decode cX5_live 43 = .ok (.iload 4, 2)) ∧ (decode cX5_live 45 = .ok (.ireturn, 1)) ∧ (decode cX5_live 11 = .ok (.ifCond .le 25, 3)) ∧ (decode cX5_live 14 = .ok (.aload_n 0, 1)) ∧ (decode cX5_live 15 = .ok (.getfield 9, 3)) ∧ (decode cX5_live 18 = .ok (.iload_n 2, 1)) ∧ (decode cX5_live 19 = .ok (.dup2, 1)) ∧ (decode cX5_live 20 = .ok (.iaload, 1)) ∧ (decode cX5_live 21 = .ok (.iload 4, 2)) ∧ (decode cX5_live 23 = .ok (.isub, 1)) ∧ (decode cX5_live 24 = .ok (.iastore, 1)) ∧ (decode cX5_live 25 = .ok (.aload_n 0, 1)) := by decide +kernel
theorem dX5_live_0 : decode cX5_live 0 = .ok (.aload_n 0, 1) := db583.1
theorem dX5_live_1 : decode cX5_live 1 = .ok (.aload_n 1, 1) := db583.2.1
theorem dX5_live_2 : decode cX5_live 2 = .ok (.iload_n 2, 1) := db583.2.2.1
theorem dX5_live_3 : decode cX5_live 3 = .ok (.iload_n 3, 1) := db583.2.2.2.1
theorem dX5_live_4 : decode cX5_live 4 = .ok (.invokevirtual 63, 3) := db583.2.2.2.2.1
theorem dX5_live_7 : decode cX5_live 7 = .ok (.istore 4, 2) := db583.2.2.2.2.2.1
theorem dX5_live_9 : decode cX5_live 9 = .ok (.iload 4, 2) := db583.2.2.2.2.2.2.1
theorem dX5_live_36 : decode cX5_live 36 = .ok (.aload_n 0, 1) := db583.2.2.2.2.2.2.2.1
theorem dX5_live_37 : decode cX5_live 37 = .ok (.aload_n 1, 1) := db583.2.2.2.2.2.2.2.2.1
theorem dX5_live_38 : decode cX5_live 38 = .ok (.iconst (-1), 1) := db583.2.2.2.2.2.2.2.2.2.1
theorem dX5_live_39 : decode cX5_live 39 = .ok (.invokevirtual 67, 3) := db583.2.2.2.2.2.2.2.2.2.2.1
theorem dX5_live_42 : decode cX5_live 42 = .ok (.pop, 1) := db583.2.2.2.2.2.2.2.2.2.2.2.1
theorem dX5_live_43 : decode cX5_live 43 = .ok (.iload 4, 2) := db583.2.2.2.2.2.2.2.2.2.2.2.2.1
theorem dX5_live_45 : decode cX5_live 45 = .ok (.ireturn, 1) := db583.2.2.2.2.2.2.2.2.2.2.2.2.2.1
theorem dX5_live_11 : decode cX5_live 11 = .ok (.ifCond .le 25, 3) := db583.2.2.2.2.2.2.2.2.2.2.2.2.2.2.1
theorem dX5_live_14 : decode cX5_live 14 = .ok (.aload_n 0, 1) := db583.2.2.2.2.2.2.2.2.2.2.2.2.2.2.2.1
theorem dX5_live_15 : decode cX5_live 15 = .ok (.getfield 9, 3) := db583.2.2.2.2.2.2.2.2.2.2.2.2.2.2.2.2.1
theorem dX5_live_18 : decode cX5_live 18 = .ok (.iload_n 2, 1) := db583.2.2.2.2.2.2.2.2.2.2.2.2.2.2.2.2.2.1
theorem dX5_live_19 : decode cX5_live 19 = .ok (.dup2, 1) := db583.2.2.2.2.2.2.2.2.2.2.2.2.2.2.2.2.2.2.1
theorem dX5_live_20 : decode cX5_live 20 = .ok (.iaload, 1) := db583.2.2.2.2.2.2.2.2.2.2.2.2.2.2.2.2.2.2.2.1
theorem dX5_live_21 : decode cX5_live 21 = .ok (.iload 4, 2) := db583.2.2.2.2.2.2.2.2.2.2.2.2.2.2.2.2.2.2.2.2.1
theorem dX5_live_23 : decode cX5_live 23 = .ok (.isub, 1) := db583.2.2.2.2.2.2.2.2.2.2.2.2.2.2.2.2.2.2.2.2.2.1
theorem dX5_live_24 : decode cX5_live 24 = .ok (.iastore, 1) := db583.2.2.2.2.2.2.2.2.2.2.2.2.2.2.2.2.2.2.2.2.2.2.1
theorem dX5_live_25 : decode cX5_live 25 = .ok (.aload_n 0, 1) := db583.2.2.2.2.2.2.2.2.2.2.2.2.2.2.2.2.2.2.2.2.2.2.2
theorem db584 : (decode cX5_live 26 = .ok (.dup, 1)) ∧ (decode cX5_live 27 = .ok (.getfield 44, 3)) ∧ (decode cX5_live 30 = .ok (.iload 4, 2)) ∧ (decode cX5_live 32 = .ok (.iadd, 1)) ∧ (decode cX5_live 33 = .ok (.putfield 44, 3)) := by decide +kernel
theorem dX5_live_26 : decode cX5_live 26 = .ok (.dup, 1) := db584.1
theorem dX5_live_27 : decode cX5_live 27 = .ok (.getfield 44, 3) := db584.2.1
theorem dX5_live_30 : decode cX5_live 30 = .ok (.iload 4, 2) := db584.2.2.1
theorem dX5_live_32 : decode cX5_live 32 = .ok (.iadd, 1) := db584.2.2.2.1
theorem dX5_live_33 : decode cX5_live 33 = .ok (.putfield 44, 3) := db584.2.2.2.2
theorem db585 : (decode cX5_of 0 = .ok (.iload_n 1, 1)) ∧ (decode cX5_of 1 = .ok (.ifCond .lt 18, 3)) ∧ (decode cX5_of 19 = .ok (.aload_n 0, 1)) ∧ (decode cX5_of 20 = .ok (.getfield 41, 3)) ∧ (decode cX5_of 23 = .ok (.ireturn, 1)) ∧ (decode cX5_of 4 = .ok (.iload_n 1, 1)) ∧ (decode cX5_of 5 = .ok (.bipush 7, 2)) ∧ (decode cX5_of 7 = .ok (.if_icmp .ge 12, 3)) ∧ (decode cX5_of 10 = .ok (.aload_n 0, 1)) ∧ (decode cX5_of 11 = .ok (.getfield 9, 3)) ∧ (decode cX5_of 14 = .ok (.iload_n 1, 1)) ∧ (decode cX5_of 15 = .ok (.iaload, 1)) ∧ (decode cX5_of 16 = .ok (.goto 7, 3)) := by decide +kernel
theorem dX5_of_0 : decode cX5_of 0 = .ok (.iload_n 1, 1) := db585.1
theorem dX5_of_1 : decode cX5_of 1 = .ok (.ifCond .lt 18, 3) := db585.2.1
theorem dX5_of_19 : decode cX5_of 19 = .ok (.aload_n 0, 1) := db585.2.2.1
theorem dX5_of_20 : decode cX5_of 20 = .ok (.getfield 41, 3) := db585.2.2.2.1
theorem dX5_of_23 : decode cX5_of 23 = .ok (.ireturn, 1) := db585.2.2.2.2.1
theorem dX5_of_4 : decode cX5_of 4 = .ok (.iload_n 1, 1) := db585.2.2.2.2.2.1
theorem dX5_of_5 : decode cX5_of 5 = .ok (.bipush 7, 2) := db585.2.2.2.2.2.2.1
theorem dX5_of_7 : decode cX5_of 7 = .ok (.if_icmp .ge 12, 3) := db585.2.2.2.2.2.2.2.1
theorem dX5_of_10 : decode cX5_of 10 = .ok (.aload_n 0, 1) := db585.2.2.2.2.2.2.2.2.1
theorem dX5_of_11 : decode cX5_of 11 = .ok (.getfield 9, 3) := db585.2.2.2.2.2.2.2.2.2.1
theorem dX5_of_14 : decode cX5_of 14 = .ok (.iload_n 1, 1) := db585.2.2.2.2.2.2.2.2.2.2.1
theorem dX5_of_15 : decode cX5_of 15 = .ok (.iaload, 1) := db585.2.2.2.2.2.2.2.2.2.2.2.1
theorem dX5_of_16 : decode cX5_of 16 = .ok (.goto 7, 3) := db585.2.2.2.2.2.2.2.2.2.2.2.2
theorem db586 : (decode cX5_pass 0 = .ok (.aload_n 0, 1)) ∧ (decode cX5_pass 1 = .ok (.getfield 15, 3)) ∧ (decode cX5_pass 4 = .ok (.iconst 0, 1)) ∧ (decode cX5_pass 5 = .ok (.invokestatic 25, 3)) ∧ (decode cX5_pass 8 = .ok (.iconst 0, 1)) ∧ (decode cX5_pass 9 = .ok (.istore_n 3, 1)) ∧ (decode cX5_pass 10 = .ok (.iload_n 3, 1)) ∧ (decode cX5_pass 11 = .ok (.aload_n 1, 1)) ∧ (decode cX5_pass 12 = .ok (.getfield 31, 3)) ∧ (decode cX5_pass 15 = .ok (.if_icmp .ge 20, 3)) ∧ (decode cX5_pass 35 = .ok (.iconst 0, 1)) ∧ (decode cX5_pass 36 = .ok (.istore_n 3, 1)) ∧ (decode cX5_pass 37 = .ok (.iconst 0, 1)) ∧ (decode cX5_pass 38 = .ok (.istore 4, 2)) ∧ (decode cX5_pass 40 = .ok (.iload 4, 2)) ∧ (decode cX5_pass 42 = .ok (.aload_n 1, 1)) ∧ (decode cX5_pass 43 = .ok (.getfield 31, 3)) ∧ (decode cX5_pass 46 = .ok (.if_icmp .ge 46, 3)) ∧ (decode cX5_pass 92 = .ok (.iload_n 3, 1)) ∧ (decode cX5_pass 93 = .ok (.ireturn, 1)) ∧ (decode cX5_pass 49 = .ok (.aload_n 0, 1)) ∧ (decode cX5_pass 50 = .ok (.getfield 9, 3)) ∧ (decode cX5_pass 53 = .ok (.iload 4, 2)) ∧ (decode cX5_pass 55 = .ok (.dup2, 1)) := by decide +kernel
theorem dX5_pass_0 : decode cX5_pass 0 = .ok (.aload_n 0, 1) := db586.1
theorem dX5_pass_1 : decode cX5_pass 1 = .ok (.getfield 15, 3) := db586.2.1
theorem dX5_pass_4 : decode cX5_pass 4 = .ok (.iconst 0, 1) := db586.2.2.1
theorem dX5_pass_5 : decode cX5_pass 5 = .ok (.invokestatic 25, 3) := db586.2.2.2.1
theorem dX5_pass_8 : decode cX5_pass 8 = .ok (.iconst 0, 1) := db586.2.2.2.2.1
theorem dX5_pass_9 : decode cX5_pass 9 = .ok (.istore_n 3, 1) := db586.2.2.2.2.2.1
theorem dX5_pass_10 : decode cX5_pass 10 = .ok (.iload_n 3, 1) := db586.2.2.2.2.2.2.1
theorem dX5_pass_11 : decode cX5_pass 11 = .ok (.aload_n 1, 1) := db586.2.2.2.2.2.2.2.1
theorem dX5_pass_12 : decode cX5_pass 12 = .ok (.getfield 31, 3) := db586.2.2.2.2.2.2.2.2.1
theorem dX5_pass_15 : decode cX5_pass 15 = .ok (.if_icmp .ge 20, 3) := db586.2.2.2.2.2.2.2.2.2.1
theorem dX5_pass_35 : decode cX5_pass 35 = .ok (.iconst 0, 1) := db586.2.2.2.2.2.2.2.2.2.2.1
theorem dX5_pass_36 : decode cX5_pass 36 = .ok (.istore_n 3, 1) := db586.2.2.2.2.2.2.2.2.2.2.2.1
theorem dX5_pass_37 : decode cX5_pass 37 = .ok (.iconst 0, 1) := db586.2.2.2.2.2.2.2.2.2.2.2.2.1
theorem dX5_pass_38 : decode cX5_pass 38 = .ok (.istore 4, 2) := db586.2.2.2.2.2.2.2.2.2.2.2.2.2.1
theorem dX5_pass_40 : decode cX5_pass 40 = .ok (.iload 4, 2) := db586.2.2.2.2.2.2.2.2.2.2.2.2.2.2.1
theorem dX5_pass_42 : decode cX5_pass 42 = .ok (.aload_n 1, 1) := db586.2.2.2.2.2.2.2.2.2.2.2.2.2.2.2.1
theorem dX5_pass_43 : decode cX5_pass 43 = .ok (.getfield 31, 3) := db586.2.2.2.2.2.2.2.2.2.2.2.2.2.2.2.2.1
theorem dX5_pass_46 : decode cX5_pass 46 = .ok (.if_icmp .ge 46, 3) := db586.2.2.2.2.2.2.2.2.2.2.2.2.2.2.2.2.2.1
theorem dX5_pass_92 : decode cX5_pass 92 = .ok (.iload_n 3, 1) := db586.2.2.2.2.2.2.2.2.2.2.2.2.2.2.2.2.2.2.1
theorem dX5_pass_93 : decode cX5_pass 93 = .ok (.ireturn, 1) := db586.2.2.2.2.2.2.2.2.2.2.2.2.2.2.2.2.2.2.2.1
theorem dX5_pass_49 : decode cX5_pass 49 = .ok (.aload_n 0, 1) := db586.2.2.2.2.2.2.2.2.2.2.2.2.2.2.2.2.2.2.2.2.1
theorem dX5_pass_50 : decode cX5_pass 50 = .ok (.getfield 9, 3) := db586.2.2.2.2.2.2.2.2.2.2.2.2.2.2.2.2.2.2.2.2.2.1
theorem dX5_pass_53 : decode cX5_pass 53 = .ok (.iload 4, 2) := db586.2.2.2.2.2.2.2.2.2.2.2.2.2.2.2.2.2.2.2.2.2.2.1
theorem dX5_pass_55 : decode cX5_pass 55 = .ok (.dup2, 1) := db586.2.2.2.2.2.2.2.2.2.2.2.2.2.2.2.2.2.2.2.2.2.2.2
theorem db587 : (decode cX5_pass 56 = .ok (.iaload, 1)) ∧ (decode cX5_pass 57 = .ok (.aload_n 0, 1)) ∧ (decode cX5_pass 58 = .ok (.getfield 15, 3)) ∧ (decode cX5_pass 61 = .ok (.iload 4, 2)) ∧ (decode cX5_pass 63 = .ok (.iaload, 1)) ∧ (decode cX5_pass 64 = .ok (.iadd, 1)) ∧ (decode cX5_pass 65 = .ok (.iastore, 1)) ∧ (decode cX5_pass 66 = .ok (.iload_n 3, 1)) ∧ (decode cX5_pass 85 = .ok (.istore_n 3, 1)) ∧ (decode cX5_pass 86 = .ok (.iinc 4 1, 3)) ∧ (decode cX5_pass 89 = .ok (.goto (-49), 3)) ∧ (decode cX5_pass 80 = .ok (.iconst 1, 1)) ∧ (decode cX5_pass 81 = .ok (.goto 4, 3)) ∧ (decode cX5_pass 67 = .ok (.ifCond .ne 13, 3)) ∧ (decode cX5_pass 70 = .ok (.aload_n 0, 1)) ∧ (decode cX5_pass 71 = .ok (.getfield 15, 3)) ∧ (decode cX5_pass 74 = .ok (.iload 4, 2)) ∧ (decode cX5_pass 76 = .ok (.iaload, 1)) ∧ (decode cX5_pass 77 = .ok (.ifCond .eq 7, 3)) ∧ (decode cX5_pass 84 = .ok (.iconst 0, 1)) ∧ (decode cX5_pass 18 = .ok (.iload_n 3, 1)) ∧ (decode cX5_pass 19 = .ok (.iload_n 2, 1)) ∧ (decode cX5_pass 29 = .ok (.iinc 3 1, 3)) ∧ (decode cX5_pass 32 = .ok (.goto (-22), 3)) := by decide +kernel
theorem dX5_pass_56 : decode cX5_pass 56 = .ok (.iaload, 1) := db587.1
theorem dX5_pass_57 : decode cX5_pass 57 = .ok (.aload_n 0, 1) := db587.2.1
theorem dX5_pass_58 : decode cX5_pass 58 = .ok (.getfield 15, 3) := db587.2.2.1
theorem dX5_pass_61 : decode cX5_pass 61 = .ok (.iload 4, 2) := db587.2.2.2.1
theorem dX5_pass_63 : decode cX5_pass 63 = .ok (.iaload, 1) := db587.2.2.2.2.1
theorem dX5_pass_64 : decode cX5_pass 64 = .ok (.iadd, 1) := db587.2.2.2.2.2.1
theorem dX5_pass_65 : decode cX5_pass 65 = .ok (.iastore, 1) := db587.2.2.2.2.2.2.1
theorem dX5_pass_66 : decode cX5_pass 66 = .ok (.iload_n 3, 1) := db587.2.2.2.2.2.2.2.1
theorem dX5_pass_85 : decode cX5_pass 85 = .ok (.istore_n 3, 1) := db587.2.2.2.2.2.2.2.2.1
theorem dX5_pass_86 : decode cX5_pass 86 = .ok (.iinc 4 1, 3) := db587.2.2.2.2.2.2.2.2.2.1
theorem dX5_pass_89 : decode cX5_pass 89 = .ok (.goto (-49), 3) := db587.2.2.2.2.2.2.2.2.2.2.1
theorem dX5_pass_80 : decode cX5_pass 80 = .ok (.iconst 1, 1) := db587.2.2.2.2.2.2.2.2.2.2.2.1
theorem dX5_pass_81 : decode cX5_pass 81 = .ok (.goto 4, 3) := db587.2.2.2.2.2.2.2.2.2.2.2.2.1
theorem dX5_pass_67 : decode cX5_pass 67 = .ok (.ifCond .ne 13, 3) := db587.2.2.2.2.2.2.2.2.2.2.2.2.2.1
theorem dX5_pass_70 : decode cX5_pass 70 = .ok (.aload_n 0, 1) := db587.2.2.2.2.2.2.2.2.2.2.2.2.2.2.1
theorem dX5_pass_71 : decode cX5_pass 71 = .ok (.getfield 15, 3) := db587.2.2.2.2.2.2.2.2.2.2.2.2.2.2.2.1
theorem dX5_pass_74 : decode cX5_pass 74 = .ok (.iload 4, 2) := db587.2.2.2.2.2.2.2.2.2.2.2.2.2.2.2.2.1
theorem dX5_pass_76 : decode cX5_pass 76 = .ok (.iaload, 1) := db587.2.2.2.2.2.2.2.2.2.2.2.2.2.2.2.2.2.1
theorem dX5_pass_77 : decode cX5_pass 77 = .ok (.ifCond .eq 7, 3) := db587.2.2.2.2.2.2.2.2.2.2.2.2.2.2.2.2.2.2.1
theorem dX5_pass_84 : decode cX5_pass 84 = .ok (.iconst 0, 1) := db587.2.2.2.2.2.2.2.2.2.2.2.2.2.2.2.2.2.2.2.1
theorem dX5_pass_18 : decode cX5_pass 18 = .ok (.iload_n 3, 1) := db587.2.2.2.2.2.2.2.2.2.2.2.2.2.2.2.2.2.2.2.2.1
theorem dX5_pass_19 : decode cX5_pass 19 = .ok (.iload_n 2, 1) := db587.2.2.2.2.2.2.2.2.2.2.2.2.2.2.2.2.2.2.2.2.2.1
theorem dX5_pass_29 : decode cX5_pass 29 = .ok (.iinc 3 1, 3) := db587.2.2.2.2.2.2.2.2.2.2.2.2.2.2.2.2.2.2.2.2.2.2.1
theorem dX5_pass_32 : decode cX5_pass 32 = .ok (.goto (-22), 3) := db587.2.2.2.2.2.2.2.2.2.2.2.2.2.2.2.2.2.2.2.2.2.2.2
theorem db588 : (decode cX5_pass 20 = .ok (.if_icmp .eq 9, 3)) ∧ (decode cX5_pass 23 = .ok (.aload_n 0, 1)) ∧ (decode cX5_pass 24 = .ok (.aload_n 1, 1)) ∧ (decode cX5_pass 25 = .ok (.iload_n 3, 1)) ∧ (decode cX5_pass 26 = .ok (.invokevirtual 71, 3)) := by decide +kernel
theorem dX5_pass_20 : decode cX5_pass 20 = .ok (.if_icmp .eq 9, 3) := db588.1
theorem dX5_pass_23 : decode cX5_pass 23 = .ok (.aload_n 0, 1) := db588.2.1
theorem dX5_pass_24 : decode cX5_pass 24 = .ok (.aload_n 1, 1) := db588.2.2.1
theorem dX5_pass_25 : decode cX5_pass 25 = .ok (.iload_n 3, 1) := db588.2.2.2.1
theorem dX5_pass_26 : decode cX5_pass 26 = .ok (.invokevirtual 71, 3) := db588.2.2.2.2
theorem db589 : (decode cX6_advance 0 = .ok (.aload_n 0, 1)) ∧ (decode cX6_advance 1 = .ok (.getfield 30, 3)) ∧ (decode cX6_advance 4 = .ok (.aload_n 0, 1)) ∧ (decode cX6_advance 5 = .ok (.getfield 12, 3)) ∧ (decode cX6_advance 8 = .ok (.getfield 165, 3)) ∧ (decode cX6_advance 45 = .ok (.aload_n 0, 1)) ∧ (decode cX6_advance 46 = .ok (.aload_n 0, 1)) ∧ (decode cX6_advance 47 = .ok (.getfield 30, 3)) ∧ (decode cX6_advance 50 = .ok (.putfield 150, 3)) ∧ (decode cX6_advance 53 = .ok (.aload_n 0, 1)) ∧ (decode cX6_advance 54 = .ok (.iconst 0, 1)) ∧ (decode cX6_advance 55 = .ok (.putfield 147, 3)) ∧ (decode cX6_advance 58 = .ok (.aload_n 0, 1)) ∧ (decode cX6_advance 59 = .ok (.aload_n 0, 1)) ∧ (decode cX6_advance 60 = .ok (.getfield 30, 3)) ∧ (decode cX6_advance 63 = .ok (.aload_n 0, 1)) ∧ (decode cX6_advance 64 = .ok (.getfield 12, 3)) ∧ (decode cX6_advance 67 = .ok (.getfield 165, 3)) ∧ (decode cX6_advance 92 = .ok (.putfield 36, 3)) ∧ (decode cX6_advance 95 = .ok (.aload_n 0, 1)) ∧ (decode cX6_advance 96 = .ok (.getfield 36, 3)) ∧ (decode cX6_advance 99 = .ok (.iconst 3, 1)) ∧ (decode cX6_advance 111 = .ok (.aload_n 0, 1)) ∧ (decode cX6_advance 112 = .ok (.dup, 1)) := by decide +kernel
theorem dX6_advance_0 : decode cX6_advance 0 = .ok (.aload_n 0, 1) := db589.1
theorem dX6_advance_1 : decode cX6_advance 1 = .ok (.getfield 30, 3) := db589.2.1
theorem dX6_advance_4 : decode cX6_advance 4 = .ok (.aload_n 0, 1) := db589.2.2.1
theorem dX6_advance_5 : decode cX6_advance 5 = .ok (.getfield 12, 3) := db589.2.2.2.1
theorem dX6_advance_8 : decode cX6_advance 8 = .ok (.getfield 165, 3) := db589.2.2.2.2.1
theorem dX6_advance_45 : decode cX6_advance 45 = .ok (.aload_n 0, 1) := db589.2.2.2.2.2.1
theorem dX6_advance_46 : decode cX6_advance 46 = .ok (.aload_n 0, 1) := db589.2.2.2.2.2.2.1
theorem dX6_advance_47 : decode cX6_advance 47 = .ok (.getfield 30, 3) := db589.2.2.2.2.2.2.2.1
theorem dX6_advance_50 : decode cX6_advance 50 = .ok (.putfield 150, 3) := db589.2.2.2.2.2.2.2.2.1
theorem dX6_advance_53 : decode cX6_advance 53 = .ok (.aload_n 0, 1) := db589.2.2.2.2.2.2.2.2.2.1
theorem dX6_advance_54 : decode cX6_advance 54 = .ok (.iconst 0, 1) := db589.2.2.2.2.2.2.2.2.2.2.1
theorem dX6_advance_55 : decode cX6_advance 55 = .ok (.putfield 147, 3) := db589.2.2.2.2.2.2.2.2.2.2.2.1
theorem dX6_advance_58 : decode cX6_advance 58 = .ok (.aload_n 0, 1) := db589.2.2.2.2.2.2.2.2.2.2.2.2.1
theorem dX6_advance_59 : decode cX6_advance 59 = .ok (.aload_n 0, 1) := db589.2.2.2.2.2.2.2.2.2.2.2.2.2.1
theorem dX6_advance_60 : decode cX6_advance 60 = .ok (.getfield 30, 3) := db589.2.2.2.2.2.2.2.2.2.2.2.2.2.2.1
theorem dX6_advance_63 : decode cX6_advance 63 = .ok (.aload_n 0, 1) := db589.2.2.2.2.2.2.2.2.2.2.2.2.2.2.2.1
theorem dX6_advance_64 : decode cX6_advance 64 = .ok (.getfield 12, 3) := db589.2.2.2.2.2.2.2.2.2.2.2.2.2.2.2.2.1
theorem dX6_advance_67 : decode cX6_advance 67 = .ok (.getfield 165, 3) := db589.2.2.2.2.2.2.2.2.2.2.2.2.2.2.2.2.2.1
theorem dX6_advance_92 : decode cX6_advance 92 = .ok (.putfield 36, 3) := db589.2.2.2.2.2.2.2.2.2.2.2.2.2.2.2.2.2.2.1
theorem dX6_advance_95 : decode cX6_advance 95 = .ok (.aload_n 0, 1) := db589.2.2.2.2.2.2.2.2.2.2.2.2.2.2.2.2.2.2.2.1
theorem dX6_advance_96 : decode cX6_advance 96 = .ok (.getfield 36, 3) := db589.2.2.2.2.2.2.2.2.2.2.2.2.2.2.2.2.2.2.2.2.1
theorem dX6_advance_99 : decode cX6_advance 99 = .ok (.iconst 3, 1) := db589.2.2.2.2.2.2.2.2.2.2.2.2.2.2.2.2.2.2.2.2.2.1
theorem dX6_advance_111 : decode cX6_advance 111 = .ok (.aload_n 0, 1) := db589.2.2.2.2.2.2.2.2.2.2.2.2.2.2.2.2.2.2.2.2.2.2.1
theorem dX6_advance_112 : decode cX6_advance 112 = .ok (.dup, 1) := db589.2.2.2.2.2.2.2.2.2.2.2.2.2.2.2.2.2.2.2.2.2.2.2
theorem db590 : (decode cX6_advance 113 = .ok (.getfield 30, 3)) ∧ (decode cX6_advance 116 = .ok (.iconst 1, 1)) ∧ (decode cX6_advance 117 = .ok (.iadd, 1)) ∧ (decode cX6_advance 118 = .ok (.putfield 30, 3)) ∧ (decode cX6_advance 121 = .ok (.return_, 1)) ∧ (decode cX6_advance 100 = .ok (.if_icmp .eq 11, 3)) ∧ (decode cX6_advance 103 = .ok (.aload_n 0, 1)) ∧ (decode cX6_advance 104 = .ok (.getfield 36, 3)) ∧ (decode cX6_advance 107 = .ok (.iconst 4, 1)) ∧ (decode cX6_advance 108 = .ok (.if_icmp .ne 14, 3)) ∧ (decode cX6_advance 122 = .ok (.aload_n 0, 1)) ∧ (decode cX6_advance 123 = .ok (.getfield 30, 3)) ∧ (decode cX6_advance 126 = .ok (.aload_n 0, 1)) ∧ (decode cX6_advance 127 = .ok (.getfield 12, 3)) ∧ (decode cX6_advance 130 = .ok (.getfield 165, 3)) ∧ (decode cX6_advance 133 = .ok (.if_icmp .ge 81, 3)) ∧ (decode cX6_advance 214 = .ok (.return_, 1)) ∧ (decode cX6_advance 136 = .ok (.aload_n 0, 1)) ∧ (decode cX6_advance 137 = .ok (.aload_n 0, 1)) ∧ (decode cX6_advance 138 = .ok (.getfield 12, 3)) ∧ (decode cX6_advance 141 = .ok (.aload_n 0, 1)) ∧ (decode cX6_advance 142 = .ok (.getfield 30, 3)) ∧ (decode cX6_advance 145 = .ok (.invokevirtual 158, 3)) ∧ (decode cX6_advance 148 = .ok (.invokevirtual 171, 3)) := by decide +kernel
theorem dX6_advance_113 : decode cX6_advance 113 = .ok (.getfield 30, 3) := db590.1
theorem dX6_advance_116 : decode cX6_advance 116 = .ok (.iconst 1, 1) := db590.2.1
theorem dX6_advance_117 : decode cX6_advance 117 = .ok (.iadd, 1) := db590.2.2.1
theorem dX6_advance_118 : decode cX6_advance 118 = .ok (.putfield 30, 3) := db590.2.2.2.1
theorem dX6_advance_121 : decode cX6_advance 121 = .ok (.return_, 1) := db590.2.2.2.2.1
theorem dX6_advance_100 : decode cX6_advance 100 = .ok (.if_icmp .eq 11, 3) := db590.2.2.2.2.2.1
theorem dX6_advance_103 : decode cX6_advance 103 = .ok (.aload_n 0, 1) := db590.2.2.2.2.2.2.1
theorem dX6_advance_104 : decode cX6_advance 104 = .ok (.getfield 36, 3) := db590.2.2.2.2.2.2.2.1
theorem dX6_advance_107 : decode cX6_advance 107 = .ok (.iconst 4, 1) := db590.2.2.2.2.2.2.2.2.1
theorem dX6_advance_108 : decode cX6_advance 108 = .ok (.if_icmp .ne 14, 3) := db590.2.2.2.2.2.2.2.2.2.1
theorem dX6_advance_122 : decode cX6_advance 122 = .ok (.aload_n 0, 1) := db590.2.2.2.2.2.2.2.2.2.2.1
theorem dX6_advance_123 : decode cX6_advance 123 = .ok (.getfield 30, 3) := db590.2.2.2.2.2.2.2.2.2.2.2.1
theorem dX6_advance_126 : decode cX6_advance 126 = .ok (.aload_n 0, 1) := db590.2.2.2.2.2.2.2.2.2.2.2.2.1
theorem dX6_advance_127 : decode cX6_advance 127 = .ok (.getfield 12, 3) := db590.2.2.2.2.2.2.2.2.2.2.2.2.2.1
theorem dX6_advance_130 : decode cX6_advance 130 = .ok (.getfield 165, 3) := db590.2.2.2.2.2.2.2.2.2.2.2.2.2.2.1
theorem dX6_advance_133 : decode cX6_advance 133 = .ok (.if_icmp .ge 81, 3) := db590.2.2.2.2.2.2.2.2.2.2.2.2.2.2.2.1
theorem dX6_advance_214 : decode cX6_advance 214 = .ok (.return_, 1) := db590.2.2.2.2.2.2.2.2.2.2.2.2.2.2.2.2.1
theorem dX6_advance_136 : decode cX6_advance 136 = .ok (.aload_n 0, 1) := db590.2.2.2.2.2.2.2.2.2.2.2.2.2.2.2.2.2.1
theorem dX6_advance_137 : decode cX6_advance 137 = .ok (.aload_n 0, 1) := db590.2.2.2.2.2.2.2.2.2.2.2.2.2.2.2.2.2.2.1
theorem dX6_advance_138 : decode cX6_advance 138 = .ok (.getfield 12, 3) := db590.2.2.2.2.2.2.2.2.2.2.2.2.2.2.2.2.2.2.2.1
theorem dX6_advance_141 : decode cX6_advance 141 = .ok (.aload_n 0, 1) := db590.2.2.2.2.2.2.2.2.2.2.2.2.2.2.2.2.2.2.2.2.1
theorem dX6_advance_142 : decode cX6_advance 142 = .ok (.getfield 30, 3) := db590.2.2.2.2.2.2.2.2.2.2.2.2.2.2.2.2.2.2.2.2.2.1
theorem dX6_advance_145 : decode cX6_advance 145 = .ok (.invokevirtual 158, 3) := db590.2.2.2.2.2.2.2.2.2.2.2.2.2.2.2.2.2.2.2.2.2.2.1
theorem dX6_advance_148 : decode cX6_advance 148 = .ok (.invokevirtual 171, 3) := db590.2.2.2.2.2.2.2.2.2.2.2.2.2.2.2.2.2.2.2.2.2.2.2
theorem db591 : (decode cX6_advance 151 = .ok (.aload_n 0, 1)) ∧ (decode cX6_advance 152 = .ok (.getfield 36, 3)) ∧ (decode cX6_advance 155 = .ok (.if_icmp .ne 59, 3)) ∧ (decode cX6_advance 158 = .ok (.aload_n 0, 1)) ∧ (decode cX6_advance 159 = .ok (.getfield 36, 3)) ∧ (decode cX6_advance 162 = .ok (.iconst 2, 1)) ∧ (decode cX6_advance 201 = .ok (.aload_n 0, 1)) ∧ (decode cX6_advance 202 = .ok (.dup, 1)) ∧ (decode cX6_advance 203 = .ok (.getfield 30, 3)) ∧ (decode cX6_advance 206 = .ok (.iconst 1, 1)) ∧ (decode cX6_advance 207 = .ok (.iadd, 1)) ∧ (decode cX6_advance 208 = .ok (.putfield 30, 3)) ∧ (decode cX6_advance 211 = .ok (.goto (-89), 3)) ∧ (decode cX6_advance 163 = .ok (.if_icmp .ne 38, 3)) ∧ (decode cX6_advance 166 = .ok (.aload_n 0, 1)) ∧ (decode cX6_advance 167 = .ok (.getfield 147, 3)) ∧ (decode cX6_advance 170 = .ok (.ldc 174, 2)) ∧ (decode cX6_advance 172 = .ok (.if_icmp .ge 29, 3)) ∧ (decode cX6_advance 175 = .ok (.aload_n 0, 1)) ∧ (decode cX6_advance 176 = .ok (.aload_n 0, 1)) ∧ (decode cX6_advance 177 = .ok (.getfield 147, 3)) ∧ (decode cX6_advance 180 = .ok (.bipush 10, 2)) ∧ (decode cX6_advance 182 = .ok (.imul, 1)) ∧ (decode cX6_advance 183 = .ok (.aload_n 0, 1)) := by decide +kernel
theorem dX6_advance_151 : decode cX6_advance 151 = .ok (.aload_n 0, 1) := db591.1
theorem dX6_advance_152 : decode cX6_advance 152 = .ok (.getfield 36, 3) := db591.2.1
theorem dX6_advance_155 : decode cX6_advance 155 = .ok (.if_icmp .ne 59, 3) := db591.2.2.1
theorem dX6_advance_158 : decode cX6_advance 158 = .ok (.aload_n 0, 1) := db591.2.2.2.1
theorem dX6_advance_159 : decode cX6_advance 159 = .ok (.getfield 36, 3) := db591.2.2.2.2.1
theorem dX6_advance_162 : decode cX6_advance 162 = .ok (.iconst 2, 1) := db591.2.2.2.2.2.1
theorem dX6_advance_201 : decode cX6_advance 201 = .ok (.aload_n 0, 1) := db591.2.2.2.2.2.2.1
theorem dX6_advance_202 : decode cX6_advance 202 = .ok (.dup, 1) := db591.2.2.2.2.2.2.2.1
theorem dX6_advance_203 : decode cX6_advance 203 = .ok (.getfield 30, 3) := db591.2.2.2.2.2.2.2.2.1
theorem dX6_advance_206 : decode cX6_advance 206 = .ok (.iconst 1, 1) := db591.2.2.2.2.2.2.2.2.2.1
theorem dX6_advance_207 : decode cX6_advance 207 = .ok (.iadd, 1) := db591.2.2.2.2.2.2.2.2.2.2.1
theorem dX6_advance_208 : decode cX6_advance 208 = .ok (.putfield 30, 3) := db591.2.2.2.2.2.2.2.2.2.2.2.1
theorem dX6_advance_211 : decode cX6_advance 211 = .ok (.goto (-89), 3) := db591.2.2.2.2.2.2.2.2.2.2.2.2.1
theorem dX6_advance_163 : decode cX6_advance 163 = .ok (.if_icmp .ne 38, 3) := db591.2.2.2.2.2.2.2.2.2.2.2.2.2.1
theorem dX6_advance_166 : decode cX6_advance 166 = .ok (.aload_n 0, 1) := db591.2.2.2.2.2.2.2.2.2.2.2.2.2.2.1
theorem dX6_advance_167 : decode cX6_advance 167 = .ok (.getfield 147, 3) := db591.2.2.2.2.2.2.2.2.2.2.2.2.2.2.2.1
theorem dX6_advance_170 : decode cX6_advance 170 = .ok (.ldc 174, 2) := db591.2.2.2.2.2.2.2.2.2.2.2.2.2.2.2.2.1
theorem dX6_advance_172 : decode cX6_advance 172 = .ok (.if_icmp .ge 29, 3) := db591.2.2.2.2.2.2.2.2.2.2.2.2.2.2.2.2.2.1
theorem dX6_advance_175 : decode cX6_advance 175 = .ok (.aload_n 0, 1) := db591.2.2.2.2.2.2.2.2.2.2.2.2.2.2.2.2.2.2.1
theorem dX6_advance_176 : decode cX6_advance 176 = .ok (.aload_n 0, 1) := db591.2.2.2.2.2.2.2.2.2.2.2.2.2.2.2.2.2.2.2.1
theorem dX6_advance_177 : decode cX6_advance 177 = .ok (.getfield 147, 3) := db591.2.2.2.2.2.2.2.2.2.2.2.2.2.2.2.2.2.2.2.2.1
theorem dX6_advance_180 : decode cX6_advance 180 = .ok (.bipush 10, 2) := db591.2.2.2.2.2.2.2.2.2.2.2.2.2.2.2.2.2.2.2.2.2.1
theorem dX6_advance_182 : decode cX6_advance 182 = .ok (.imul, 1) := db591.2.2.2.2.2.2.2.2.2.2.2.2.2.2.2.2.2.2.2.2.2.2.1
theorem dX6_advance_183 : decode cX6_advance 183 = .ok (.aload_n 0, 1) := db591.2.2.2.2.2.2.2.2.2.2.2.2.2.2.2.2.2.2.2.2.2.2.2
theorem db592 : (decode cX6_advance 184 = .ok (.getfield 12, 3)) ∧ (decode cX6_advance 187 = .ok (.aload_n 0, 1)) ∧ (decode cX6_advance 188 = .ok (.getfield 30, 3)) ∧ (decode cX6_advance 191 = .ok (.invokevirtual 158, 3)) ∧ (decode cX6_advance 194 = .ok (.iadd, 1)) ∧ (decode cX6_advance 195 = .ok (.bipush 48, 2)) ∧ (decode cX6_advance 197 = .ok (.isub, 1)) ∧ (decode cX6_advance 198 = .ok (.putfield 147, 3)) ∧ (decode cX6_advance 70 = .ok (.if_icmp .ge 21, 3)) ∧ (decode cX6_advance 91 = .ok (.iconst 0, 1)) ∧ (decode cX6_advance 73 = .ok (.aload_n 0, 1)) ∧ (decode cX6_advance 74 = .ok (.aload_n 0, 1)) ∧ (decode cX6_advance 75 = .ok (.getfield 12, 3)) ∧ (decode cX6_advance 78 = .ok (.aload_n 0, 1)) ∧ (decode cX6_advance 79 = .ok (.getfield 30, 3)) ∧ (decode cX6_advance 82 = .ok (.invokevirtual 158, 3)) ∧ (decode cX6_advance 85 = .ok (.invokevirtual 171, 3)) ∧ (decode cX6_advance 88 = .ok (.goto 4, 3)) ∧ (decode cX6_advance 11 = .ok (.if_icmp .ge 34, 3)) ∧ (decode cX6_advance 14 = .ok (.aload_n 0, 1)) ∧ (decode cX6_advance 15 = .ok (.aload_n 0, 1)) ∧ (decode cX6_advance 16 = .ok (.getfield 12, 3)) ∧ (decode cX6_advance 19 = .ok (.aload_n 0, 1)) ∧ (decode cX6_advance 20 = .ok (.getfield 30, 3)) := by decide +kernel
theorem dX6_advance_184 : decode cX6_advance 184 = .ok (.getfield 12, 3) := db592.1
theorem dX6_advance_187 : decode cX6_advance 187 = .ok (.aload_n 0, 1) := db592.2.1
theorem dX6_advance_188 : decode cX6_advance 188 = .ok (.getfield 30, 3) := db592.2.2.1
theorem dX6_advance_191 : decode cX6_advance 191 = .ok (.invokevirtual 158, 3) := db592.2.2.2.1
theorem dX6_advance_194 : decode cX6_advance 194 = .ok (.iadd, 1) := db592.2.2.2.2.1
theorem dX6_advance_195 : decode cX6_advance 195 = .ok (.bipush 48, 2) := db592.2.2.2.2.2.1
theorem dX6_advance_197 : decode cX6_advance 197 = .ok (.isub, 1) := db592.2.2.2.2.2.2.1
theorem dX6_advance_198 : decode cX6_advance 198 = .ok (.putfield 147, 3) := db592.2.2.2.2.2.2.2.1
theorem dX6_advance_70 : decode cX6_advance 70 = .ok (.if_icmp .ge 21, 3) := db592.2.2.2.2.2.2.2.2.1
theorem dX6_advance_91 : decode cX6_advance 91 = .ok (.iconst 0, 1) := db592.2.2.2.2.2.2.2.2.2.1
theorem dX6_advance_73 : decode cX6_advance 73 = .ok (.aload_n 0, 1) := db592.2.2.2.2.2.2.2.2.2.2.1
theorem dX6_advance_74 : decode cX6_advance 74 = .ok (.aload_n 0, 1) := db592.2.2.2.2.2.2.2.2.2.2.2.1
theorem dX6_advance_75 : decode cX6_advance 75 = .ok (.getfield 12, 3) := db592.2.2.2.2.2.2.2.2.2.2.2.2.1
theorem dX6_advance_78 : decode cX6_advance 78 = .ok (.aload_n 0, 1) := db592.2.2.2.2.2.2.2.2.2.2.2.2.2.1
theorem dX6_advance_79 : decode cX6_advance 79 = .ok (.getfield 30, 3) := db592.2.2.2.2.2.2.2.2.2.2.2.2.2.2.1
theorem dX6_advance_82 : decode cX6_advance 82 = .ok (.invokevirtual 158, 3) := db592.2.2.2.2.2.2.2.2.2.2.2.2.2.2.2.1
theorem dX6_advance_85 : decode cX6_advance 85 = .ok (.invokevirtual 171, 3) := db592.2.2.2.2.2.2.2.2.2.2.2.2.2.2.2.2.1
theorem dX6_advance_88 : decode cX6_advance 88 = .ok (.goto 4, 3) := db592.2.2.2.2.2.2.2.2.2.2.2.2.2.2.2.2.2.1
theorem dX6_advance_11 : decode cX6_advance 11 = .ok (.if_icmp .ge 34, 3) := db592.2.2.2.2.2.2.2.2.2.2.2.2.2.2.2.2.2.2.1
theorem dX6_advance_14 : decode cX6_advance 14 = .ok (.aload_n 0, 1) := db592.2.2.2.2.2.2.2.2.2.2.2.2.2.2.2.2.2.2.2.1
theorem dX6_advance_15 : decode cX6_advance 15 = .ok (.aload_n 0, 1) := db592.2.2.2.2.2.2.2.2.2.2.2.2.2.2.2.2.2.2.2.2.1
theorem dX6_advance_16 : decode cX6_advance 16 = .ok (.getfield 12, 3) := db592.2.2.2.2.2.2.2.2.2.2.2.2.2.2.2.2.2.2.2.2.2.1
theorem dX6_advance_19 : decode cX6_advance 19 = .ok (.aload_n 0, 1) := db592.2.2.2.2.2.2.2.2.2.2.2.2.2.2.2.2.2.2.2.2.2.2.1
theorem dX6_advance_20 : decode cX6_advance 20 = .ok (.getfield 30, 3) := db592.2.2.2.2.2.2.2.2.2.2.2.2.2.2.2.2.2.2.2.2.2.2.2
theorem db593 : (decode cX6_advance 23 = .ok (.invokevirtual 158, 3)) ∧ (decode cX6_advance 26 = .ok (.invokevirtual 168, 3)) ∧ (decode cX6_advance 29 = .ok (.ifCond .eq 16, 3)) ∧ (decode cX6_advance 32 = .ok (.aload_n 0, 1)) ∧ (decode cX6_advance 33 = .ok (.dup, 1)) ∧ (decode cX6_advance 34 = .ok (.getfield 30, 3)) ∧ (decode cX6_advance 37 = .ok (.iconst 1, 1)) ∧ (decode cX6_advance 38 = .ok (.iadd, 1)) ∧ (decode cX6_advance 39 = .ok (.putfield 30, 3)) ∧ (decode cX6_advance 42 = .ok (.goto (-42), 3)) := by decide +kernel
theorem dX6_advance_23 : decode cX6_advance 23 = .ok (.invokevirtual 158, 3) := db593.1
theorem dX6_advance_26 : decode cX6_advance 26 = .ok (.invokevirtual 168, 3) := db593.2.1
theorem dX6_advance_29 : decode cX6_advance 29 = .ok (.ifCond .eq 16, 3) := db593.2.2.1
theorem dX6_advance_32 : decode cX6_advance 32 = .ok (.aload_n 0, 1) := db593.2.2.2.1
theorem dX6_advance_33 : decode cX6_advance 33 = .ok (.dup, 1) := db593.2.2.2.2.1
theorem dX6_advance_34 : decode cX6_advance 34 = .ok (.getfield 30, 3) := db593.2.2.2.2.2.1
theorem dX6_advance_37 : decode cX6_advance 37 = .ok (.iconst 1, 1) := db593.2.2.2.2.2.2.1
theorem dX6_advance_38 : decode cX6_advance 38 = .ok (.iadd, 1) := db593.2.2.2.2.2.2.2.1
theorem dX6_advance_39 : decode cX6_advance 39 = .ok (.putfield 30, 3) := db593.2.2.2.2.2.2.2.2.1
theorem dX6_advance_42 : decode cX6_advance 42 = .ok (.goto (-42), 3) := db593.2.2.2.2.2.2.2.2.2
theorem db594 : (decode cX6_fail 0 = .ok (.aload_n 0, 1)) ∧ (decode cX6_fail 1 = .ok (.iload_n 1, 1)) ∧ (decode cX6_fail 2 = .ok (.putfield 27, 3)) ∧ (decode cX6_fail 5 = .ok (.aload_n 0, 1)) ∧ (decode cX6_fail 6 = .ok (.aload_n 0, 1)) ∧ (decode cX6_fail 7 = .ok (.getfield 150, 3)) ∧ (decode cX6_fail 10 = .ok (.putfield 18, 3)) ∧ (decode cX6_fail 13 = .ok (.iconst 0, 1)) ∧ (decode cX6_fail 14 = .ok (.ireturn, 1)) := by decide +kernel
theorem dX6_fail_0 : decode cX6_fail 0 = .ok (.aload_n 0, 1) := db594.1
theorem dX6_fail_1 : decode cX6_fail 1 = .ok (.iload_n 1, 1) := db594.2.1
theorem dX6_fail_2 : decode cX6_fail 2 = .ok (.putfield 27, 3) := db594.2.2.1
theorem dX6_fail_5 : decode cX6_fail 5 = .ok (.aload_n 0, 1) := db594.2.2.2.1
theorem dX6_fail_6 : decode cX6_fail 6 = .ok (.aload_n 0, 1) := db594.2.2.2.2.1
theorem dX6_fail_7 : decode cX6_fail 7 = .ok (.getfield 150, 3) := db594.2.2.2.2.2.1
theorem dX6_fail_10 : decode cX6_fail 10 = .ok (.putfield 18, 3) := db594.2.2.2.2.2.2.1
theorem dX6_fail_13 : decode cX6_fail 13 = .ok (.iconst 0, 1) := db594.2.2.2.2.2.2.2.1
theorem dX6_fail_14 : decode cX6_fail 14 = .ok (.ireturn, 1) := db594.2.2.2.2.2.2.2.2
theorem db595 : (decode cX6_init 0 = .ok (.aload_n 0, 1)) ∧ (decode cX6_init 1 = .ok (.invokespecial 3, 3)) ∧ (decode cX6_init 4 = .ok (.aload_n 0, 1)) ∧ (decode cX6_init 5 = .ok (.new 9, 3)) ∧ (decode cX6_init 8 = .ok (.dup, 1)) ∧ (decode cX6_init 9 = .ok (.invokespecial 11, 3)) ∧ (decode cX6_init 12 = .ok (.putfield 12, 3)) ∧ (decode cX6_init 15 = .ok (.aload_n 0, 1)) ∧ (decode cX6_init 16 = .ok (.iconst (-1), 1)) ∧ (decode cX6_init 17 = .ok (.putfield 18, 3)) ∧ (decode cX6_init 20 = .ok (.return_, 1)) := by decide +kernel
theorem dX6_init_0 : decode cX6_init 0 = .ok (.aload_n 0, 1) := db595.1
theorem dX6_init_1 : decode cX6_init 1 = .ok (.invokespecial 3, 3) := db595.2.1
theorem dX6_init_4 : decode cX6_init 4 = .ok (.aload_n 0, 1) := db595.2.2.1
theorem dX6_init_5 : decode cX6_init 5 = .ok (.new 9, 3) := db595.2.2.2.1
theorem dX6_init_8 : decode cX6_init 8 = .ok (.dup, 1) := db595.2.2.2.2.1
theorem dX6_init_9 : decode cX6_init 9 = .ok (.invokespecial 11, 3) := db595.2.2.2.2.2.1
theorem dX6_init_12 : decode cX6_init 12 = .ok (.putfield 12, 3) := db595.2.2.2.2.2.2.1
theorem dX6_init_15 : decode cX6_init 15 = .ok (.aload_n 0, 1) := db595.2.2.2.2.2.2.2.1
theorem dX6_init_16 : decode cX6_init 16 = .ok (.iconst (-1), 1) := db595.2.2.2.2.2.2.2.2.1
theorem dX6_init_17 : decode cX6_init 17 = .ok (.putfield 18, 3) := db595.2.2.2.2.2.2.2.2.2.1
theorem dX6_init_20 : decode cX6_init 20 = .ok (.return_, 1) := db595.2.2.2.2.2.2.2.2.2.2
theorem db596 : (decode cX6_isBlank 0 = .ok (.iload_n 1, 1)) ∧ (decode cX6_isBlank 1 = .ok (.bipush 32, 2)) ∧ (decode cX6_isBlank 3 = .ok (.if_icmp .eq 9, 3)) ∧ (decode cX6_isBlank 12 = .ok (.iconst 1, 1)) ∧ (decode cX6_isBlank 13 = .ok (.goto 4, 3)) ∧ (decode cX6_isBlank 17 = .ok (.ireturn, 1)) ∧ (decode cX6_isBlank 6 = .ok (.iload_n 1, 1)) ∧ (decode cX6_isBlank 7 = .ok (.bipush 10, 2)) ∧ (decode cX6_isBlank 9 = .ok (.if_icmp .ne 7, 3)) ∧ (decode cX6_isBlank 16 = .ok (.iconst 0, 1)) := by decide +kernel
theorem dX6_isBlank_0 : decode cX6_isBlank 0 = .ok (.iload_n 1, 1) := db596.1
theorem dX6_isBlank_1 : decode cX6_isBlank 1 = .ok (.bipush 32, 2) := db596.2.1
theorem dX6_isBlank_3 : decode cX6_isBlank 3 = .ok (.if_icmp .eq 9, 3) := db596.2.2.1
theorem dX6_isBlank_12 : decode cX6_isBlank 12 = .ok (.iconst 1, 1) := db596.2.2.2.1
theorem dX6_isBlank_13 : decode cX6_isBlank 13 = .ok (.goto 4, 3) := db596.2.2.2.2.1
theorem dX6_isBlank_17 : decode cX6_isBlank 17 = .ok (.ireturn, 1) := db596.2.2.2.2.2.1
theorem dX6_isBlank_6 : decode cX6_isBlank 6 = .ok (.iload_n 1, 1) := db596.2.2.2.2.2.2.1
theorem dX6_isBlank_7 : decode cX6_isBlank 7 = .ok (.bipush 10, 2) := db596.2.2.2.2.2.2.2.1
theorem dX6_isBlank_9 : decode cX6_isBlank 9 = .ok (.if_icmp .ne 7, 3) := db596.2.2.2.2.2.2.2.2.1
theorem dX6_isBlank_16 : decode cX6_isBlank 16 = .ok (.iconst 0, 1) := db596.2.2.2.2.2.2.2.2.2
theorem db597 : (decode cX6_isWord 0 = .ok (.aload_n 0, 1)) ∧ (decode cX6_isWord 1 = .ok (.getfield 36, 3)) ∧ (decode cX6_isWord 4 = .ok (.iconst 1, 1)) ∧ (decode cX6_isWord 5 = .ok (.if_icmp .ne 19, 3)) ∧ (decode cX6_isWord 24 = .ok (.iconst 0, 1)) ∧ (decode cX6_isWord 25 = .ok (.ireturn, 1)) ∧ (decode cX6_isWord 8 = .ok (.aload_n 0, 1)) ∧ (decode cX6_isWord 9 = .ok (.getfield 30, 3)) ∧ (decode cX6_isWord 12 = .ok (.aload_n 0, 1)) ∧ (decode cX6_isWord 13 = .ok (.getfield 150, 3)) ∧ (decode cX6_isWord 16 = .ok (.isub, 1)) ∧ (decode cX6_isWord 17 = .ok (.aload_n 1, 1)) ∧ (decode cX6_isWord 18 = .ok (.invokevirtual 153, 3)) ∧ (decode cX6_isWord 21 = .ok (.if_icmp .eq 5, 3)) ∧ (decode cX6_isWord 26 = .ok (.iconst 0, 1)) ∧ (decode cX6_isWord 27 = .ok (.istore_n 2, 1)) ∧ (decode cX6_isWord 28 = .ok (.iload_n 2, 1)) ∧ (decode cX6_isWord 29 = .ok (.aload_n 1, 1)) ∧ (decode cX6_isWord 30 = .ok (.invokevirtual 153, 3)) ∧ (decode cX6_isWord 33 = .ok (.if_icmp .ge 32, 3)) ∧ (decode cX6_isWord 65 = .ok (.iconst 1, 1)) ∧ (decode cX6_isWord 66 = .ok (.ireturn, 1)) ∧ (decode cX6_isWord 36 = .ok (.aload_n 0, 1)) ∧ (decode cX6_isWord 37 = .ok (.getfield 12, 3)) := by decide +kernel
theorem dX6_isWord_0 : decode cX6_isWord 0 = .ok (.aload_n 0, 1) := db597.1
theorem dX6_isWord_1 : decode cX6_isWord 1 = .ok (.getfield 36, 3) := db597.2.1
theorem dX6_isWord_4 : decode cX6_isWord 4 = .ok (.iconst 1, 1) := db597.2.2.1
theorem dX6_isWord_5 : decode cX6_isWord 5 = .ok (.if_icmp .ne 19, 3) := db597.2.2.2.1
theorem dX6_isWord_24 : decode cX6_isWord 24 = .ok (.iconst 0, 1) := db597.2.2.2.2.1
theorem dX6_isWord_25 : decode cX6_isWord 25 = .ok (.ireturn, 1) := db597.2.2.2.2.2.1
theorem dX6_isWord_8 : decode cX6_isWord 8 = .ok (.aload_n 0, 1) := db597.2.2.2.2.2.2.1
theorem dX6_isWord_9 : decode cX6_isWord 9 = .ok (.getfield 30, 3) := db597.2.2.2.2.2.2.2.1
theorem dX6_isWord_12 : decode cX6_isWord 12 = .ok (.aload_n 0, 1) := db597.2.2.2.2.2.2.2.2.1
theorem dX6_isWord_13 : decode cX6_isWord 13 = .ok (.getfield 150, 3) := db597.2.2.2.2.2.2.2.2.2.1
theorem dX6_isWord_16 : decode cX6_isWord 16 = .ok (.isub, 1) := db597.2.2.2.2.2.2.2.2.2.2.1
theorem dX6_isWord_17 : decode cX6_isWord 17 = .ok (.aload_n 1, 1) := db597.2.2.2.2.2.2.2.2.2.2.2.1
theorem dX6_isWord_18 : decode cX6_isWord 18 = .ok (.invokevirtual 153, 3) := db597.2.2.2.2.2.2.2.2.2.2.2.2.1
theorem dX6_isWord_21 : decode cX6_isWord 21 = .ok (.if_icmp .eq 5, 3) := db597.2.2.2.2.2.2.2.2.2.2.2.2.2.1
theorem dX6_isWord_26 : decode cX6_isWord 26 = .ok (.iconst 0, 1) := db597.2.2.2.2.2.2.2.2.2.2.2.2.2.2.1
theorem dX6_isWord_27 : decode cX6_isWord 27 = .ok (.istore_n 2, 1) := db597.2.2.2.2.2.2.2.2.2.2.2.2.2.2.2.1
theorem dX6_isWord_28 : decode cX6_isWord 28 = .ok (.iload_n 2, 1) := db597.2.2.2.2.2.2.2.2.2.2.2.2.2.2.2.2.1
theorem dX6_isWord_29 : decode cX6_isWord 29 = .ok (.aload_n 1, 1) := db597.2.2.2.2.2.2.2.2.2.2.2.2.2.2.2.2.2.1
theorem dX6_isWord_30 : decode cX6_isWord 30 = .ok (.invokevirtual 153, 3) := db597.2.2.2.2.2.2.2.2.2.2.2.2.2.2.2.2.2.2.1
theorem dX6_isWord_33 : decode cX6_isWord 33 = .ok (.if_icmp .ge 32, 3) := db597.2.2.2.2.2.2.2.2.2.2.2.2.2.2.2.2.2.2.2.1
theorem dX6_isWord_65 : decode cX6_isWord 65 = .ok (.iconst 1, 1) := db597.2.2.2.2.2.2.2.2.2.2.2.2.2.2.2.2.2.2.2.2.1
theorem dX6_isWord_66 : decode cX6_isWord 66 = .ok (.ireturn, 1) := db597.2.2.2.2.2.2.2.2.2.2.2.2.2.2.2.2.2.2.2.2.2.1
theorem dX6_isWord_36 : decode cX6_isWord 36 = .ok (.aload_n 0, 1) := db597.2.2.2.2.2.2.2.2.2.2.2.2.2.2.2.2.2.2.2.2.2.2.1
theorem dX6_isWord_37 : decode cX6_isWord 37 = .ok (.getfield 12, 3) := db597.2.2.2.2.2.2.2.2.2.2.2.2.2.2.2.2.2.2.2.2.2.2.2
theorem db598 : (decode cX6_isWord 40 = .ok (.aload_n 0, 1)) ∧ (decode cX6_isWord 41 = .ok (.getfield 150, 3)) ∧ (decode cX6_isWord 44 = .ok (.iload_n 2, 1)) ∧ (decode cX6_isWord 45 = .ok (.iadd, 1)) ∧ (decode cX6_isWord 46 = .ok (.invokevirtual 158, 3)) ∧ (decode cX6_isWord 49 = .ok (.aload_n 1, 1)) ∧ (decode cX6_isWord 50 = .ok (.iload_n 2, 1)) ∧ (decode cX6_isWord 51 = .ok (.invokevirtual 161, 3)) ∧ (decode cX6_isWord 54 = .ok (.if_icmp .eq 5, 3)) ∧ (decode cX6_isWord 59 = .ok (.iinc 2 1, 3)) ∧ (decode cX6_isWord 62 = .ok (.goto (-34), 3)) ∧ (decode cX6_isWord 57 = .ok (.iconst 0, 1)) ∧ (decode cX6_isWord 58 = .ok (.ireturn, 1)) := by decide +kernel
theorem dX6_isWord_40 : decode cX6_isWord 40 = .ok (.aload_n 0, 1) := db598.1
theorem dX6_isWord_41 : decode cX6_isWord 41 = .ok (.getfield 150, 3) := db598.2.1
theorem dX6_isWord_44 : decode cX6_isWord 44 = .ok (.iload_n 2, 1) := db598.2.2.1
theorem dX6_isWord_45 : decode cX6_isWord 45 = .ok (.iadd, 1) := db598.2.2.2.1
theorem dX6_isWord_46 : decode cX6_isWord 46 = .ok (.invokevirtual 158, 3) := db598.2.2.2.2.1
theorem dX6_isWord_49 : decode cX6_isWord 49 = .ok (.aload_n 1, 1) := db598.2.2.2.2.2.1
theorem dX6_isWord_50 : decode cX6_isWord 50 = .ok (.iload_n 2, 1) := db598.2.2.2.2.2.2.1
theorem dX6_isWord_51 : decode cX6_isWord 51 = .ok (.invokevirtual 161, 3) := db598.2.2.2.2.2.2.2.1
theorem dX6_isWord_54 : decode cX6_isWord 54 = .ok (.if_icmp .eq 5, 3) := db598.2.2.2.2.2.2.2.2.1
theorem dX6_isWord_59 : decode cX6_isWord 59 = .ok (.iinc 2 1, 3) := db598.2.2.2.2.2.2.2.2.2.1
theorem dX6_isWord_62 : decode cX6_isWord 62 = .ok (.goto (-34), 3) := db598.2.2.2.2.2.2.2.2.2.2.1
theorem dX6_isWord_57 : decode cX6_isWord 57 = .ok (.iconst 0, 1) := db598.2.2.2.2.2.2.2.2.2.2.2.1
theorem dX6_isWord_58 : decode cX6_isWord 58 = .ok (.ireturn, 1) := db598.2.2.2.2.2.2.2.2.2.2.2.2
theorem db599 : (decode cX6_kindOf 0 = .ok (.iload_n 1, 1)) ∧ (decode cX6_kindOf 1 = .ok (.bipush 97, 2)) ∧ (decode cX6_kindOf 14 = .ok (.iload_n 1, 1)) ∧ (decode cX6_kindOf 15 = .ok (.bipush 48, 2)) ∧ (decode cX6_kindOf 28 = .ok (.iload_n 1, 1)) ∧ (decode cX6_kindOf 29 = .ok (.bipush 59, 2)) ∧ (decode cX6_kindOf 31 = .ok (.if_icmp .ne 7, 3)) ∧ (decode cX6_kindOf 38 = .ok (.iconst 4, 1)) ∧ (decode cX6_kindOf 39 = .ok (.ireturn, 1)) ∧ (decode cX6_kindOf 34 = .ok (.iconst 3, 1)) ∧ (decode cX6_kindOf 35 = .ok (.goto 4, 3)) ∧ (decode cX6_kindOf 17 = .ok (.if_icmp .lt 11, 3)) ∧ (decode cX6_kindOf 20 = .ok (.iload_n 1, 1)) ∧ (decode cX6_kindOf 21 = .ok (.bipush 57, 2)) ∧ (decode cX6_kindOf 23 = .ok (.if_icmp .gt 5, 3)) ∧ (decode cX6_kindOf 26 = .ok (.iconst 2, 1)) ∧ (decode cX6_kindOf 27 = .ok (.ireturn, 1)) ∧ (decode cX6_kindOf 3 = .ok (.if_icmp .lt 11, 3)) ∧ (decode cX6_kindOf 6 = .ok (.iload_n 1, 1)) ∧ (decode cX6_kindOf 7 = .ok (.bipush 122, 2)) ∧ (decode cX6_kindOf 9 = .ok (.if_icmp .gt 5, 3)) ∧ (decode cX6_kindOf 12 = .ok (.iconst 1, 1)) ∧ (decode cX6_kindOf 13 = .ok (.ireturn, 1)) := by decide +kernel
theorem dX6_kindOf_0 : decode cX6_kindOf 0 = .ok (.iload_n 1, 1) := db599.1
theorem dX6_kindOf_1 : decode cX6_kindOf 1 = .ok (.bipush 97, 2) := db599.2.1
theorem dX6_kindOf_14 : decode cX6_kindOf 14 = .ok (.iload_n 1, 1) := db599.2.2.1
theorem dX6_kindOf_15 : decode cX6_kindOf 15 = .ok (.bipush 48, 2) := db599.2.2.2.1
theorem dX6_kindOf_28 : decode cX6_kindOf 28 = .ok (.iload_n 1, 1) := db599.2.2.2.2.1
theorem dX6_kindOf_29 : decode cX6_kindOf 29 = .ok (.bipush 59, 2) := db599.2.2.2.2.2.1
theorem dX6_kindOf_31 : decode cX6_kindOf 31 = .ok (.if_icmp .ne 7, 3) := db599.2.2.2.2.2.2.1
theorem dX6_kindOf_38 : decode cX6_kindOf 38 = .ok (.iconst 4, 1) := db599.2.2.2.2.2.2.2.1
theorem dX6_kindOf_39 : decode cX6_kindOf 39 = .ok (.ireturn, 1) := db599.2.2.2.2.2.2.2.2.1
theorem dX6_kindOf_34 : decode cX6_kindOf 34 = .ok (.iconst 3, 1) := db599.2.2.2.2.2.2.2.2.2.1
theorem dX6_kindOf_35 : decode cX6_kindOf 35 = .ok (.goto 4, 3) := db599.2.2.2.2.2.2.2.2.2.2.1
theorem dX6_kindOf_17 : decode cX6_kindOf 17 = .ok (.if_icmp .lt 11, 3) := db599.2.2.2.2.2.2.2.2.2.2.2.1
theorem dX6_kindOf_20 : decode cX6_kindOf 20 = .ok (.iload_n 1, 1) := db599.2.2.2.2.2.2.2.2.2.2.2.2.1
theorem dX6_kindOf_21 : decode cX6_kindOf 21 = .ok (.bipush 57, 2) := db599.2.2.2.2.2.2.2.2.2.2.2.2.2.1
theorem dX6_kindOf_23 : decode cX6_kindOf 23 = .ok (.if_icmp .gt 5, 3) := db599.2.2.2.2.2.2.2.2.2.2.2.2.2.2.1
theorem dX6_kindOf_26 : decode cX6_kindOf 26 = .ok (.iconst 2, 1) := db599.2.2.2.2.2.2.2.2.2.2.2.2.2.2.2.1
theorem dX6_kindOf_27 : decode cX6_kindOf 27 = .ok (.ireturn, 1) := db599.2.2.2.2.2.2.2.2.2.2.2.2.2.2.2.2.1
theorem dX6_kindOf_3 : decode cX6_kindOf 3 = .ok (.if_icmp .lt 11, 3) := db599.2.2.2.2.2.2.2.2.2.2.2.2.2.2.2.2.2.1
theorem dX6_kindOf_6 : decode cX6_kindOf 6 = .ok (.iload_n 1, 1) := db599.2.2.2.2.2.2.2.2.2.2.2.2.2.2.2.2.2.2.1
theorem dX6_kindOf_7 : decode cX6_kindOf 7 = .ok (.bipush 122, 2) := db599.2.2.2.2.2.2.2.2.2.2.2.2.2.2.2.2.2.2.2.1
theorem dX6_kindOf_9 : decode cX6_kindOf 9 = .ok (.if_icmp .gt 5, 3) := db599.2.2.2.2.2.2.2.2.2.2.2.2.2.2.2.2.2.2.2.2.1
theorem dX6_kindOf_12 : decode cX6_kindOf 12 = .ok (.iconst 1, 1) := db599.2.2.2.2.2.2.2.2.2.2.2.2.2.2.2.2.2.2.2.2.2.1
theorem dX6_kindOf_13 : decode cX6_kindOf 13 = .ok (.ireturn, 1) := db599.2.2.2.2.2.2.2.2.2.2.2.2.2.2.2.2.2.2.2.2.2.2
theorem db600 : (decode cX6_readDoor 0 = .ok (.aload_n 0, 1)) ∧ (decode cX6_readDoor 1 = .ok (.invokevirtual 33, 3)) ∧ (decode cX6_readDoor 4 = .ok (.aload_n 0, 1)) ∧ (decode cX6_readDoor 5 = .ok (.iconst 0, 1)) ∧ (decode cX6_readDoor 6 = .ok (.aload_n 1, 1)) ∧ (decode cX6_readDoor 7 = .ok (.getfield 103, 3)) ∧ (decode cX6_readDoor 10 = .ok (.iconst 1, 1)) ∧ (decode cX6_readDoor 11 = .ok (.isub, 1)) ∧ (decode cX6_readDoor 12 = .ok (.iconst (-1), 1)) ∧ (decode cX6_readDoor 13 = .ok (.invokevirtual 120, 3)) ∧ (decode cX6_readDoor 16 = .ok (.istore_n 2, 1)) ∧ (decode cX6_readDoor 17 = .ok (.aload_n 0, 1)) ∧ (decode cX6_readDoor 18 = .ok (.getfield 27, 3)) ∧ (decode cX6_readDoor 40 = .ok (.istore_n 3, 1)) ∧ (decode cX6_readDoor 41 = .ok (.aload_n 0, 1)) ∧ (decode cX6_readDoor 42 = .ok (.getfield 27, 3)) ∧ (decode cX6_readDoor 45 = .ok (.ifCond .eq 5, 3)) ∧ (decode cX6_readDoor 50 = .ok (.aload_n 1, 1)) ∧ (decode cX6_readDoor 51 = .ok (.iload_n 2, 1)) ∧ (decode cX6_readDoor 52 = .ok (.iload_n 3, 1)) ∧ (decode cX6_readDoor 53 = .ok (.invokevirtual 124, 3)) ∧ (decode cX6_readDoor 56 = .ok (.iconst 1, 1)) ∧ (decode cX6_readDoor 57 = .ok (.ireturn, 1)) ∧ (decode cX6_readDoor 48 = .ok (.iconst 0, 1)) := by decide +kernel
theorem dX6_readDoor_0 : decode cX6_readDoor 0 = .ok (.aload_n 0, 1) := db600.1
theorem dX6_readDoor_1 : decode cX6_readDoor 1 = .ok (.invokevirtual 33, 3) := db600.2.1
theorem dX6_readDoor_4 : decode cX6_readDoor 4 = .ok (.aload_n 0, 1) := db600.2.2.1
theorem dX6_readDoor_5 : decode cX6_readDoor 5 = .ok (.iconst 0, 1) := db600.2.2.2.1
theorem dX6_readDoor_6 : decode cX6_readDoor 6 = .ok (.aload_n 1, 1) := db600.2.2.2.2.1
theorem dX6_readDoor_7 : decode cX6_readDoor 7 = .ok (.getfield 103, 3) := db600.2.2.2.2.2.1
theorem dX6_readDoor_10 : decode cX6_readDoor 10 = .ok (.iconst 1, 1) := db600.2.2.2.2.2.2.1
theorem dX6_readDoor_11 : decode cX6_readDoor 11 = .ok (.isub, 1) := db600.2.2.2.2.2.2.2.1
theorem dX6_readDoor_12 : decode cX6_readDoor 12 = .ok (.iconst (-1), 1) := db600.2.2.2.2.2.2.2.2.1
theorem dX6_readDoor_13 : decode cX6_readDoor 13 = .ok (.invokevirtual 120, 3) := db600.2.2.2.2.2.2.2.2.2.1
theorem dX6_readDoor_16 : decode cX6_readDoor 16 = .ok (.istore_n 2, 1) := db600.2.2.2.2.2.2.2.2.2.2.1
theorem dX6_readDoor_17 : decode cX6_readDoor 17 = .ok (.aload_n 0, 1) := db600.2.2.2.2.2.2.2.2.2.2.2.1
theorem dX6_readDoor_18 : decode cX6_readDoor 18 = .ok (.getfield 27, 3) := db600.2.2.2.2.2.2.2.2.2.2.2.2.1
theorem dX6_readDoor_40 : decode cX6_readDoor 40 = .ok (.istore_n 3, 1) := db600.2.2.2.2.2.2.2.2.2.2.2.2.2.1
theorem dX6_readDoor_41 : decode cX6_readDoor 41 = .ok (.aload_n 0, 1) := db600.2.2.2.2.2.2.2.2.2.2.2.2.2.2.1
theorem dX6_readDoor_42 : decode cX6_readDoor 42 = .ok (.getfield 27, 3) := db600.2.2.2.2.2.2.2.2.2.2.2.2.2.2.2.1
theorem dX6_readDoor_45 : decode cX6_readDoor 45 = .ok (.ifCond .eq 5, 3) := db600.2.2.2.2.2.2.2.2.2.2.2.2.2.2.2.2.1
theorem dX6_readDoor_50 : decode cX6_readDoor 50 = .ok (.aload_n 1, 1) := db600.2.2.2.2.2.2.2.2.2.2.2.2.2.2.2.2.2.1
theorem dX6_readDoor_51 : decode cX6_readDoor 51 = .ok (.iload_n 2, 1) := db600.2.2.2.2.2.2.2.2.2.2.2.2.2.2.2.2.2.2.1
theorem dX6_readDoor_52 : decode cX6_readDoor 52 = .ok (.iload_n 3, 1) := db600.2.2.2.2.2.2.2.2.2.2.2.2.2.2.2.2.2.2.2.1
theorem dX6_readDoor_53 : decode cX6_readDoor 53 = .ok (.invokevirtual 124, 3) := db600.2.2.2.2.2.2.2.2.2.2.2.2.2.2.2.2.2.2.2.2.1
theorem dX6_readDoor_56 : decode cX6_readDoor 56 = .ok (.iconst 1, 1) := db600.2.2.2.2.2.2.2.2.2.2.2.2.2.2.2.2.2.2.2.2.2.1
theorem dX6_readDoor_57 : decode cX6_readDoor 57 = .ok (.ireturn, 1) := db600.2.2.2.2.2.2.2.2.2.2.2.2.2.2.2.2.2.2.2.2.2.2.1
theorem dX6_readDoor_48 : decode cX6_readDoor 48 = .ok (.iconst 0, 1) := db600.2.2.2.2.2.2.2.2.2.2.2.2.2.2.2.2.2.2.2.2.2.2.2
theorem db601 : (decode cX6_readDoor 49 = .ok (.ireturn, 1)) ∧ (decode cX6_readDoor 21 = .ok (.ifCond .ne 18, 3)) ∧ (decode cX6_readDoor 39 = .ok (.iconst (-1), 1)) ∧ (decode cX6_readDoor 24 = .ok (.aload_n 0, 1)) ∧ (decode cX6_readDoor 25 = .ok (.iconst 0, 1)) ∧ (decode cX6_readDoor 26 = .ok (.aload_n 1, 1)) ∧ (decode cX6_readDoor 27 = .ok (.getfield 103, 3)) ∧ (decode cX6_readDoor 30 = .ok (.iconst 1, 1)) ∧ (decode cX6_readDoor 31 = .ok (.isub, 1)) ∧ (decode cX6_readDoor 32 = .ok (.iload_n 2, 1)) ∧ (decode cX6_readDoor 33 = .ok (.invokevirtual 120, 3)) ∧ (decode cX6_readDoor 36 = .ok (.goto 4, 3)) := by decide +kernel
theorem dX6_readDoor_49 : decode cX6_readDoor 49 = .ok (.ireturn, 1) := db601.1
theorem dX6_readDoor_21 : decode cX6_readDoor 21 = .ok (.ifCond .ne 18, 3) := db601.2.1
theorem dX6_readDoor_39 : decode cX6_readDoor 39 = .ok (.iconst (-1), 1) := db601.2.2.1
theorem dX6_readDoor_24 : decode cX6_readDoor 24 = .ok (.aload_n 0, 1) := db601.2.2.2.1
theorem dX6_readDoor_25 : decode cX6_readDoor 25 = .ok (.iconst 0, 1) := db601.2.2.2.2.1
theorem dX6_readDoor_26 : decode cX6_readDoor 26 = .ok (.aload_n 1, 1) := db601.2.2.2.2.2.1
theorem dX6_readDoor_27 : decode cX6_readDoor 27 = .ok (.getfield 103, 3) := db601.2.2.2.2.2.2.1
theorem dX6_readDoor_30 : decode cX6_readDoor 30 = .ok (.iconst 1, 1) := db601.2.2.2.2.2.2.2.1
theorem dX6_readDoor_31 : decode cX6_readDoor 31 = .ok (.isub, 1) := db601.2.2.2.2.2.2.2.2.1
theorem dX6_readDoor_32 : decode cX6_readDoor 32 = .ok (.iload_n 2, 1) := db601.2.2.2.2.2.2.2.2.2.1
theorem dX6_readDoor_33 : decode cX6_readDoor 33 = .ok (.invokevirtual 120, 3) := db601.2.2.2.2.2.2.2.2.2.2.1
theorem dX6_readDoor_36 : decode cX6_readDoor 36 = .ok (.goto 4, 3) := db601.2.2.2.2.2.2.2.2.2.2.2
theorem db602 : (decode cX6_readFirst 0 = .ok (.aload_n 0, 1)) ∧ (decode cX6_readFirst 1 = .ok (.invokevirtual 33, 3)) ∧ (decode cX6_readFirst 4 = .ok (.aload_n 1, 1)) ∧ (decode cX6_readFirst 5 = .ok (.aload_n 0, 1)) ∧ (decode cX6_readFirst 6 = .ok (.ldc 83, 2)) ∧ (decode cX6_readFirst 8 = .ok (.iconst 0, 1)) ∧ (decode cX6_readFirst 9 = .ok (.bipush 100, 2)) ∧ (decode cX6_readFirst 11 = .ok (.invokevirtual 85, 3)) ∧ (decode cX6_readFirst 14 = .ok (.putfield 89, 3)) ∧ (decode cX6_readFirst 17 = .ok (.aload_n 1, 1)) ∧ (decode cX6_readFirst 18 = .ok (.aload_n 0, 1)) ∧ (decode cX6_readFirst 19 = .ok (.getfield 27, 3)) ∧ (decode cX6_readFirst 38 = .ok (.putfield 93, 3)) ∧ (decode cX6_readFirst 41 = .ok (.aload_n 1, 1)) ∧ (decode cX6_readFirst 42 = .ok (.aload_n 0, 1)) ∧ (decode cX6_readFirst 43 = .ok (.getfield 27, 3)) ∧ (decode cX6_readFirst 63 = .ok (.putfield 97, 3)) ∧ (decode cX6_readFirst 66 = .ok (.aload_n 1, 1)) ∧ (decode cX6_readFirst 67 = .ok (.aload_n 0, 1)) ∧ (decode cX6_readFirst 68 = .ok (.getfield 27, 3)) ∧ (decode cX6_readFirst 88 = .ok (.putfield 101, 3)) ∧ (decode cX6_readFirst 91 = .ok (.aload_n 0, 1)) ∧ (decode cX6_readFirst 92 = .ok (.getfield 27, 3)) ∧ (decode cX6_readFirst 95 = .ok (.ifCond .ne 7, 3)) := by decide +kernel
theorem dX6_readFirst_0 : decode cX6_readFirst 0 = .ok (.aload_n 0, 1) := db602.1
theorem dX6_readFirst_1 : decode cX6_readFirst 1 = .ok (.invokevirtual 33, 3) := db602.2.1
theorem dX6_readFirst_4 : decode cX6_readFirst 4 = .ok (.aload_n 1, 1) := db602.2.2.1
theorem dX6_readFirst_5 : decode cX6_readFirst 5 = .ok (.aload_n 0, 1) := db602.2.2.2.1
theorem dX6_readFirst_6 : decode cX6_readFirst 6 = .ok (.ldc 83, 2) := db602.2.2.2.2.1
theorem dX6_readFirst_8 : decode cX6_readFirst 8 = .ok (.iconst 0, 1) := db602.2.2.2.2.2.1
theorem dX6_readFirst_9 : decode cX6_readFirst 9 = .ok (.bipush 100, 2) := db602.2.2.2.2.2.2.1
theorem dX6_readFirst_11 : decode cX6_readFirst 11 = .ok (.invokevirtual 85, 3) := db602.2.2.2.2.2.2.2.1
theorem dX6_readFirst_14 : decode cX6_readFirst 14 = .ok (.putfield 89, 3) := db602.2.2.2.2.2.2.2.2.1
theorem dX6_readFirst_17 : decode cX6_readFirst 17 = .ok (.aload_n 1, 1) := db602.2.2.2.2.2.2.2.2.2.1
theorem dX6_readFirst_18 : decode cX6_readFirst 18 = .ok (.aload_n 0, 1) := db602.2.2.2.2.2.2.2.2.2.2.1
theorem dX6_readFirst_19 : decode cX6_readFirst 19 = .ok (.getfield 27, 3) := db602.2.2.2.2.2.2.2.2.2.2.2.1
theorem dX6_readFirst_38 : decode cX6_readFirst 38 = .ok (.putfield 93, 3) := db602.2.2.2.2.2.2.2.2.2.2.2.2.1
theorem dX6_readFirst_41 : decode cX6_readFirst 41 = .ok (.aload_n 1, 1) := db602.2.2.2.2.2.2.2.2.2.2.2.2.2.1
theorem dX6_readFirst_42 : decode cX6_readFirst 42 = .ok (.aload_n 0, 1) := db602.2.2.2.2.2.2.2.2.2.2.2.2.2.2.1
theorem dX6_readFirst_43 : decode cX6_readFirst 43 = .ok (.getfield 27, 3) := db602.2.2.2.2.2.2.2.2.2.2.2.2.2.2.2.1
theorem dX6_readFirst_63 : decode cX6_readFirst 63 = .ok (.putfield 97, 3) := db602.2.2.2.2.2.2.2.2.2.2.2.2.2.2.2.2.1
theorem dX6_readFirst_66 : decode cX6_readFirst 66 = .ok (.aload_n 1, 1) := db602.2.2.2.2.2.2.2.2.2.2.2.2.2.2.2.2.2.1
theorem dX6_readFirst_67 : decode cX6_readFirst 67 = .ok (.aload_n 0, 1) := db602.2.2.2.2.2.2.2.2.2.2.2.2.2.2.2.2.2.2.1
theorem dX6_readFirst_68 : decode cX6_readFirst 68 = .ok (.getfield 27, 3) := db602.2.2.2.2.2.2.2.2.2.2.2.2.2.2.2.2.2.2.2.1
theorem dX6_readFirst_88 : decode cX6_readFirst 88 = .ok (.putfield 101, 3) := db602.2.2.2.2.2.2.2.2.2.2.2.2.2.2.2.2.2.2.2.2.1
theorem dX6_readFirst_91 : decode cX6_readFirst 91 = .ok (.aload_n 0, 1) := db602.2.2.2.2.2.2.2.2.2.2.2.2.2.2.2.2.2.2.2.2.2.1
theorem dX6_readFirst_92 : decode cX6_readFirst 92 = .ok (.getfield 27, 3) := db602.2.2.2.2.2.2.2.2.2.2.2.2.2.2.2.2.2.2.2.2.2.2.1
theorem dX6_readFirst_95 : decode cX6_readFirst 95 = .ok (.ifCond .ne 7, 3) := db602.2.2.2.2.2.2.2.2.2.2.2.2.2.2.2.2.2.2.2.2.2.2.2
theorem db603 : (decode cX6_readFirst 102 = .ok (.iconst 0, 1)) ∧ (decode cX6_readFirst 103 = .ok (.ireturn, 1)) ∧ (decode cX6_readFirst 98 = .ok (.iconst 1, 1)) ∧ (decode cX6_readFirst 99 = .ok (.goto 4, 3)) ∧ (decode cX6_readFirst 71 = .ok (.ifCond .ne 16, 3)) ∧ (decode cX6_readFirst 87 = .ok (.iconst (-1), 1)) ∧ (decode cX6_readFirst 74 = .ok (.aload_n 0, 1)) ∧ (decode cX6_readFirst 75 = .ok (.ldc 99, 2)) ∧ (decode cX6_readFirst 77 = .ok (.iconst 0, 1)) ∧ (decode cX6_readFirst 78 = .ok (.sipush 999, 3)) ∧ (decode cX6_readFirst 81 = .ok (.invokevirtual 85, 3)) ∧ (decode cX6_readFirst 84 = .ok (.goto 4, 3)) ∧ (decode cX6_readFirst 46 = .ok (.ifCond .ne 16, 3)) ∧ (decode cX6_readFirst 62 = .ok (.iconst (-1), 1)) ∧ (decode cX6_readFirst 49 = .ok (.aload_n 0, 1)) ∧ (decode cX6_readFirst 50 = .ok (.ldc 95, 2)) ∧ (decode cX6_readFirst 52 = .ok (.iconst 0, 1)) ∧ (decode cX6_readFirst 53 = .ok (.sipush 999, 3)) ∧ (decode cX6_readFirst 56 = .ok (.invokevirtual 85, 3)) ∧ (decode cX6_readFirst 59 = .ok (.goto 4, 3)) ∧ (decode cX6_readFirst 22 = .ok (.ifCond .ne 15, 3)) ∧ (decode cX6_readFirst 37 = .ok (.iconst (-1), 1)) ∧ (decode cX6_readFirst 25 = .ok (.aload_n 0, 1)) ∧ (decode cX6_readFirst 26 = .ok (.ldc 91, 2)) := by decide +kernel
theorem dX6_readFirst_102 : decode cX6_readFirst 102 = .ok (.iconst 0, 1) := db603.1
theorem dX6_readFirst_103 : decode cX6_readFirst 103 = .ok (.ireturn, 1) := db603.2.1
theorem dX6_readFirst_98 : decode cX6_readFirst 98 = .ok (.iconst 1, 1) := db603.2.2.1
theorem dX6_readFirst_99 : decode cX6_readFirst 99 = .ok (.goto 4, 3) := db603.2.2.2.1
theorem dX6_readFirst_71 : decode cX6_readFirst 71 = .ok (.ifCond .ne 16, 3) := db603.2.2.2.2.1
theorem dX6_readFirst_87 : decode cX6_readFirst 87 = .ok (.iconst (-1), 1) := db603.2.2.2.2.2.1
theorem dX6_readFirst_74 : decode cX6_readFirst 74 = .ok (.aload_n 0, 1) := db603.2.2.2.2.2.2.1
theorem dX6_readFirst_75 : decode cX6_readFirst 75 = .ok (.ldc 99, 2) := db603.2.2.2.2.2.2.2.1
theorem dX6_readFirst_77 : decode cX6_readFirst 77 = .ok (.iconst 0, 1) := db603.2.2.2.2.2.2.2.2.1
theorem dX6_readFirst_78 : decode cX6_readFirst 78 = .ok (.sipush 999, 3) := db603.2.2.2.2.2.2.2.2.2.1
theorem dX6_readFirst_81 : decode cX6_readFirst 81 = .ok (.invokevirtual 85, 3) := db603.2.2.2.2.2.2.2.2.2.2.1
theorem dX6_readFirst_84 : decode cX6_readFirst 84 = .ok (.goto 4, 3) := db603.2.2.2.2.2.2.2.2.2.2.2.1
theorem dX6_readFirst_46 : decode cX6_readFirst 46 = .ok (.ifCond .ne 16, 3) := db603.2.2.2.2.2.2.2.2.2.2.2.2.1
theorem dX6_readFirst_62 : decode cX6_readFirst 62 = .ok (.iconst (-1), 1) := db603.2.2.2.2.2.2.2.2.2.2.2.2.2.1
theorem dX6_readFirst_49 : decode cX6_readFirst 49 = .ok (.aload_n 0, 1) := db603.2.2.2.2.2.2.2.2.2.2.2.2.2.2.1
theorem dX6_readFirst_50 : decode cX6_readFirst 50 = .ok (.ldc 95, 2) := db603.2.2.2.2.2.2.2.2.2.2.2.2.2.2.2.1
theorem dX6_readFirst_52 : decode cX6_readFirst 52 = .ok (.iconst 0, 1) := db603.2.2.2.2.2.2.2.2.2.2.2.2.2.2.2.2.1
theorem dX6_readFirst_53 : decode cX6_readFirst 53 = .ok (.sipush 999, 3) := db603.2.2.2.2.2.2.2.2.2.2.2.2.2.2.2.2.2.1
theorem dX6_readFirst_56 : decode cX6_readFirst 56 = .ok (.invokevirtual 85, 3) := db603.2.2.2.2.2.2.2.2.2.2.2.2.2.2.2.2.2.2.1
theorem dX6_readFirst_59 : decode cX6_readFirst 59 = .ok (.goto 4, 3) := db603.2.2.2.2.2.2.2.2.2.2.2.2.2.2.2.2.2.2.2.1
theorem dX6_readFirst_22 : decode cX6_readFirst 22 = .ok (.ifCond .ne 15, 3) := db603.2.2.2.2.2.2.2.2.2.2.2.2.2.2.2.2.2.2.2.2.1
theorem dX6_readFirst_37 : decode cX6_readFirst 37 = .ok (.iconst (-1), 1) := db603.2.2.2.2.2.2.2.2.2.2.2.2.2.2.2.2.2.2.2.2.2.1
theorem dX6_readFirst_25 : decode cX6_readFirst 25 = .ok (.aload_n 0, 1) := db603.2.2.2.2.2.2.2.2.2.2.2.2.2.2.2.2.2.2.2.2.2.2.1
theorem dX6_readFirst_26 : decode cX6_readFirst 26 = .ok (.ldc 91, 2) := db603.2.2.2.2.2.2.2.2.2.2.2.2.2.2.2.2.2.2.2.2.2.2.2
theorem db604 : (decode cX6_readFirst 28 = .ok (.iconst 0, 1)) ∧ (decode cX6_readFirst 29 = .ok (.bipush 100, 2)) ∧ (decode cX6_readFirst 31 = .ok (.invokevirtual 85, 3)) ∧ (decode cX6_readFirst 34 = .ok (.goto 4, 3)) := by decide +kernel
theorem dX6_readFirst_28 : decode cX6_readFirst 28 = .ok (.iconst 0, 1) := db604.1
theorem dX6_readFirst_29 : decode cX6_readFirst 29 = .ok (.bipush 100, 2) := db604.2.1
theorem dX6_readFirst_31 : decode cX6_readFirst 31 = .ok (.invokevirtual 85, 3) := db604.2.2.1
theorem dX6_readFirst_34 : decode cX6_readFirst 34 = .ok (.goto 4, 3) := db604.2.2.2
theorem db605 : (decode cX6_readHouse 0 = .ok (.aload_n 1, 1)) ∧ (decode cX6_readHouse 1 = .ok (.invokevirtual 22, 3)) ∧ (decode cX6_readHouse 4 = .ok (.aload_n 0, 1)) ∧ (decode cX6_readHouse 5 = .ok (.iconst 0, 1)) ∧ (decode cX6_readHouse 6 = .ok (.putfield 27, 3)) ∧ (decode cX6_readHouse 9 = .ok (.aload_n 0, 1)) ∧ (decode cX6_readHouse 10 = .ok (.iconst (-1), 1)) ∧ (decode cX6_readHouse 11 = .ok (.putfield 18, 3)) ∧ (decode cX6_readHouse 14 = .ok (.aload_n 0, 1)) ∧ (decode cX6_readHouse 15 = .ok (.iconst 0, 1)) ∧ (decode cX6_readHouse 16 = .ok (.putfield 30, 3)) ∧ (decode cX6_readHouse 19 = .ok (.aload_n 0, 1)) ∧ (decode cX6_readHouse 20 = .ok (.invokevirtual 33, 3)) ∧ (decode cX6_readHouse 23 = .ok (.iconst 0, 1)) ∧ (decode cX6_readHouse 24 = .ok (.istore_n 2, 1)) ∧ (decode cX6_readHouse 25 = .ok (.iload_n 2, 1)) ∧ (decode cX6_readHouse 26 = .ok (.sipush 900, 3)) ∧ (decode cX6_readHouse 29 = .ok (.if_icmp .gt 26, 3)) ∧ (decode cX6_readHouse 55 = .ok (.iconst 1, 1)) ∧ (decode cX6_readHouse 56 = .ok (.ireturn, 1)) ∧ (decode cX6_readHouse 32 = .ok (.aload_n 0, 1)) ∧ (decode cX6_readHouse 33 = .ok (.getfield 36, 3)) ∧ (decode cX6_readHouse 36 = .ok (.ifCond .eq 19, 3)) ∧ (decode cX6_readHouse 39 = .ok (.aload_n 0, 1)) := by decide +kernel
theorem dX6_readHouse_0 : decode cX6_readHouse 0 = .ok (.aload_n 1, 1) := db605.1
theorem dX6_readHouse_1 : decode cX6_readHouse 1 = .ok (.invokevirtual 22, 3) := db605.2.1
theorem dX6_readHouse_4 : decode cX6_readHouse 4 = .ok (.aload_n 0, 1) := db605.2.2.1
theorem dX6_readHouse_5 : decode cX6_readHouse 5 = .ok (.iconst 0, 1) := db605.2.2.2.1
theorem dX6_readHouse_6 : decode cX6_readHouse 6 = .ok (.putfield 27, 3) := db605.2.2.2.2.1
theorem dX6_readHouse_9 : decode cX6_readHouse 9 = .ok (.aload_n 0, 1) := db605.2.2.2.2.2.1
theorem dX6_readHouse_10 : decode cX6_readHouse 10 = .ok (.iconst (-1), 1) := db605.2.2.2.2.2.2.1
theorem dX6_readHouse_11 : decode cX6_readHouse 11 = .ok (.putfield 18, 3) := db605.2.2.2.2.2.2.2.1
theorem dX6_readHouse_14 : decode cX6_readHouse 14 = .ok (.aload_n 0, 1) := db605.2.2.2.2.2.2.2.2.1
theorem dX6_readHouse_15 : decode cX6_readHouse 15 = .ok (.iconst 0, 1) := db605.2.2.2.2.2.2.2.2.2.1
theorem dX6_readHouse_16 : decode cX6_readHouse 16 = .ok (.putfield 30, 3) := db605.2.2.2.2.2.2.2.2.2.2.1
theorem dX6_readHouse_19 : decode cX6_readHouse 19 = .ok (.aload_n 0, 1) := db605.2.2.2.2.2.2.2.2.2.2.2.1
theorem dX6_readHouse_20 : decode cX6_readHouse 20 = .ok (.invokevirtual 33, 3) := db605.2.2.2.2.2.2.2.2.2.2.2.2.1
theorem dX6_readHouse_23 : decode cX6_readHouse 23 = .ok (.iconst 0, 1) := db605.2.2.2.2.2.2.2.2.2.2.2.2.2.1
theorem dX6_readHouse_24 : decode cX6_readHouse 24 = .ok (.istore_n 2, 1) := db605.2.2.2.2.2.2.2.2.2.2.2.2.2.2.1
theorem dX6_readHouse_25 : decode cX6_readHouse 25 = .ok (.iload_n 2, 1) := db605.2.2.2.2.2.2.2.2.2.2.2.2.2.2.2.1
theorem dX6_readHouse_26 : decode cX6_readHouse 26 = .ok (.sipush 900, 3) := db605.2.2.2.2.2.2.2.2.2.2.2.2.2.2.2.2.1
theorem dX6_readHouse_29 : decode cX6_readHouse 29 = .ok (.if_icmp .gt 26, 3) := db605.2.2.2.2.2.2.2.2.2.2.2.2.2.2.2.2.2.1
theorem dX6_readHouse_55 : decode cX6_readHouse 55 = .ok (.iconst 1, 1) := db605.2.2.2.2.2.2.2.2.2.2.2.2.2.2.2.2.2.2.1
theorem dX6_readHouse_56 : decode cX6_readHouse 56 = .ok (.ireturn, 1) := db605.2.2.2.2.2.2.2.2.2.2.2.2.2.2.2.2.2.2.2.1
theorem dX6_readHouse_32 : decode cX6_readHouse 32 = .ok (.aload_n 0, 1) := db605.2.2.2.2.2.2.2.2.2.2.2.2.2.2.2.2.2.2.2.2.1
theorem dX6_readHouse_33 : decode cX6_readHouse 33 = .ok (.getfield 36, 3) := db605.2.2.2.2.2.2.2.2.2.2.2.2.2.2.2.2.2.2.2.2.2.1
theorem dX6_readHouse_36 : decode cX6_readHouse 36 = .ok (.ifCond .eq 19, 3) := db605.2.2.2.2.2.2.2.2.2.2.2.2.2.2.2.2.2.2.2.2.2.2.1
theorem dX6_readHouse_39 : decode cX6_readHouse 39 = .ok (.aload_n 0, 1) := db605.2.2.2.2.2.2.2.2.2.2.2.2.2.2.2.2.2.2.2.2.2.2.2
theorem db606 : (decode cX6_readHouse 40 = .ok (.aload_n 1, 1)) ∧ (decode cX6_readHouse 41 = .ok (.invokevirtual 39, 3)) ∧ (decode cX6_readHouse 44 = .ok (.ifCond .ne 5, 3)) ∧ (decode cX6_readHouse 49 = .ok (.iinc 2 1, 3)) ∧ (decode cX6_readHouse 52 = .ok (.goto (-27), 3)) ∧ (decode cX6_readHouse 47 = .ok (.iconst 0, 1)) ∧ (decode cX6_readHouse 48 = .ok (.ireturn, 1)) := by decide +kernel
theorem dX6_readHouse_40 : decode cX6_readHouse 40 = .ok (.aload_n 1, 1) := db606.1
theorem dX6_readHouse_41 : decode cX6_readHouse 41 = .ok (.invokevirtual 39, 3) := db606.2.1
theorem dX6_readHouse_44 : decode cX6_readHouse 44 = .ok (.ifCond .ne 5, 3) := db606.2.2.1
theorem dX6_readHouse_49 : decode cX6_readHouse 49 = .ok (.iinc 2 1, 3) := db606.2.2.2.1
theorem dX6_readHouse_52 : decode cX6_readHouse 52 = .ok (.goto (-27), 3) := db606.2.2.2.2.1
theorem dX6_readHouse_47 : decode cX6_readHouse 47 = .ok (.iconst 0, 1) := db606.2.2.2.2.2.1
theorem dX6_readHouse_48 : decode cX6_readHouse 48 = .ok (.ireturn, 1) := db606.2.2.2.2.2.2
theorem db607 : (decode cX6_readLine 0 = .ok (.aload_n 1, 1)) ∧ (decode cX6_readLine 1 = .ok (.getfield 43, 3)) ∧ (decode cX6_readLine 12 = .ok (.istore_n 2, 1)) ∧ (decode cX6_readLine 13 = .ok (.iload_n 2, 1)) ∧ (decode cX6_readLine 14 = .ok (.aload_n 0, 1)) ∧ (decode cX6_readLine 15 = .ok (.ldc 46, 2)) ∧ (decode cX6_readLine 17 = .ok (.invokevirtual 48, 3)) ∧ (decode cX6_readLine 123 = .ok (.iload_n 3, 1)) ∧ (decode cX6_readLine 124 = .ok (.ifCond .eq 10, 3)) ∧ (decode cX6_readLine 134 = .ok (.iconst 0, 1)) ∧ (decode cX6_readLine 135 = .ok (.ireturn, 1)) ∧ (decode cX6_readLine 127 = .ok (.aload_n 0, 1)) ∧ (decode cX6_readLine 128 = .ok (.invokevirtual 79, 3)) ∧ (decode cX6_readLine 131 = .ok (.ifCond .ne 5, 3)) ∧ (decode cX6_readLine 136 = .ok (.aload_n 1, 1)) ∧ (decode cX6_readLine 137 = .ok (.dup, 1)) ∧ (decode cX6_readLine 138 = .ok (.getfield 43, 3)) ∧ (decode cX6_readLine 141 = .ok (.iconst 1, 1)) ∧ (decode cX6_readLine 142 = .ok (.iadd, 1)) ∧ (decode cX6_readLine 143 = .ok (.putfield 43, 3)) ∧ (decode cX6_readLine 146 = .ok (.iconst 1, 1)) ∧ (decode cX6_readLine 147 = .ok (.ireturn, 1)) ∧ (decode cX6_readLine 20 = .ok (.if_icmp .eq 12, 3)) ∧ (decode cX6_readLine 32 = .ok (.iload_n 2, 1)) := by decide +kernel
theorem dX6_readLine_0 : decode cX6_readLine 0 = .ok (.aload_n 1, 1) := db607.1
theorem dX6_readLine_1 : decode cX6_readLine 1 = .ok (.getfield 43, 3) := db607.2.1
theorem dX6_readLine_12 : decode cX6_readLine 12 = .ok (.istore_n 2, 1) := db607.2.2.1
theorem dX6_readLine_13 : decode cX6_readLine 13 = .ok (.iload_n 2, 1) := db607.2.2.2.1
theorem dX6_readLine_14 : decode cX6_readLine 14 = .ok (.aload_n 0, 1) := db607.2.2.2.2.1
theorem dX6_readLine_15 : decode cX6_readLine 15 = .ok (.ldc 46, 2) := db607.2.2.2.2.2.1
theorem dX6_readLine_17 : decode cX6_readLine 17 = .ok (.invokevirtual 48, 3) := db607.2.2.2.2.2.2.1
theorem dX6_readLine_123 : decode cX6_readLine 123 = .ok (.iload_n 3, 1) := db607.2.2.2.2.2.2.2.1
theorem dX6_readLine_124 : decode cX6_readLine 124 = .ok (.ifCond .eq 10, 3) := db607.2.2.2.2.2.2.2.2.1
theorem dX6_readLine_134 : decode cX6_readLine 134 = .ok (.iconst 0, 1) := db607.2.2.2.2.2.2.2.2.2.1
theorem dX6_readLine_135 : decode cX6_readLine 135 = .ok (.ireturn, 1) := db607.2.2.2.2.2.2.2.2.2.2.1
theorem dX6_readLine_127 : decode cX6_readLine 127 = .ok (.aload_n 0, 1) := db607.2.2.2.2.2.2.2.2.2.2.2.1
theorem dX6_readLine_128 : decode cX6_readLine 128 = .ok (.invokevirtual 79, 3) := db607.2.2.2.2.2.2.2.2.2.2.2.2.1
theorem dX6_readLine_131 : decode cX6_readLine 131 = .ok (.ifCond .ne 5, 3) := db607.2.2.2.2.2.2.2.2.2.2.2.2.2.1
theorem dX6_readLine_136 : decode cX6_readLine 136 = .ok (.aload_n 1, 1) := db607.2.2.2.2.2.2.2.2.2.2.2.2.2.2.1
theorem dX6_readLine_137 : decode cX6_readLine 137 = .ok (.dup, 1) := db607.2.2.2.2.2.2.2.2.2.2.2.2.2.2.2.1
theorem dX6_readLine_138 : decode cX6_readLine 138 = .ok (.getfield 43, 3) := db607.2.2.2.2.2.2.2.2.2.2.2.2.2.2.2.2.1
theorem dX6_readLine_141 : decode cX6_readLine 141 = .ok (.iconst 1, 1) := db607.2.2.2.2.2.2.2.2.2.2.2.2.2.2.2.2.2.1
theorem dX6_readLine_142 : decode cX6_readLine 142 = .ok (.iadd, 1) := db607.2.2.2.2.2.2.2.2.2.2.2.2.2.2.2.2.2.2.1
theorem dX6_readLine_143 : decode cX6_readLine 143 = .ok (.putfield 43, 3) := db607.2.2.2.2.2.2.2.2.2.2.2.2.2.2.2.2.2.2.2.1
theorem dX6_readLine_146 : decode cX6_readLine 146 = .ok (.iconst 1, 1) := db607.2.2.2.2.2.2.2.2.2.2.2.2.2.2.2.2.2.2.2.2.1
theorem dX6_readLine_147 : decode cX6_readLine 147 = .ok (.ireturn, 1) := db607.2.2.2.2.2.2.2.2.2.2.2.2.2.2.2.2.2.2.2.2.2.1
theorem dX6_readLine_20 : decode cX6_readLine 20 = .ok (.if_icmp .eq 12, 3) := db607.2.2.2.2.2.2.2.2.2.2.2.2.2.2.2.2.2.2.2.2.2.2.1
theorem dX6_readLine_32 : decode cX6_readLine 32 = .ok (.iload_n 2, 1) := db607.2.2.2.2.2.2.2.2.2.2.2.2.2.2.2.2.2.2.2.2.2.2.2
theorem db608 : (decode cX6_readLine 33 = .ok (.ifCond .eq 12, 3)) ∧ (decode cX6_readLine 45 = .ok (.aload_n 0, 1)) ∧ (decode cX6_readLine 46 = .ok (.ldc 59, 2)) ∧ (decode cX6_readLine 48 = .ok (.invokevirtual 48, 3)) ∧ (decode cX6_readLine 51 = .ok (.ifCond .eq 12, 3)) ∧ (decode cX6_readLine 63 = .ok (.aload_n 0, 1)) ∧ (decode cX6_readLine 64 = .ok (.ldc 64, 2)) ∧ (decode cX6_readLine 66 = .ok (.invokevirtual 48, 3)) ∧ (decode cX6_readLine 69 = .ok (.ifCond .eq 12, 3)) ∧ (decode cX6_readLine 81 = .ok (.aload_n 0, 1)) ∧ (decode cX6_readLine 82 = .ok (.ldc 69, 2)) ∧ (decode cX6_readLine 84 = .ok (.invokevirtual 48, 3)) ∧ (decode cX6_readLine 87 = .ok (.ifCond .eq 12, 3)) ∧ (decode cX6_readLine 99 = .ok (.aload_n 0, 1)) ∧ (decode cX6_readLine 100 = .ok (.ldc 74, 2)) ∧ (decode cX6_readLine 102 = .ok (.invokevirtual 48, 3)) ∧ (decode cX6_readLine 105 = .ok (.ifCond .eq 12, 3)) ∧ (decode cX6_readLine 117 = .ok (.aload_n 0, 1)) ∧ (decode cX6_readLine 118 = .ok (.iconst 1, 1)) ∧ (decode cX6_readLine 119 = .ok (.invokevirtual 52, 3)) ∧ (decode cX6_readLine 122 = .ok (.istore_n 3, 1)) ∧ (decode cX6_readLine 108 = .ok (.aload_n 0, 1)) ∧ (decode cX6_readLine 109 = .ok (.aload_n 1, 1)) ∧ (decode cX6_readLine 110 = .ok (.invokevirtual 76, 3)) := by decide +kernel
theorem dX6_readLine_33 : decode cX6_readLine 33 = .ok (.ifCond .eq 12, 3) := db608.1
theorem dX6_readLine_45 : decode cX6_readLine 45 = .ok (.aload_n 0, 1) := db608.2.1
theorem dX6_readLine_46 : decode cX6_readLine 46 = .ok (.ldc 59, 2) := db608.2.2.1
theorem dX6_readLine_48 : decode cX6_readLine 48 = .ok (.invokevirtual 48, 3) := db608.2.2.2.1
theorem dX6_readLine_51 : decode cX6_readLine 51 = .ok (.ifCond .eq 12, 3) := db608.2.2.2.2.1
theorem dX6_readLine_63 : decode cX6_readLine 63 = .ok (.aload_n 0, 1) := db608.2.2.2.2.2.1
theorem dX6_readLine_64 : decode cX6_readLine 64 = .ok (.ldc 64, 2) := db608.2.2.2.2.2.2.1
theorem dX6_readLine_66 : decode cX6_readLine 66 = .ok (.invokevirtual 48, 3) := db608.2.2.2.2.2.2.2.1
theorem dX6_readLine_69 : decode cX6_readLine 69 = .ok (.ifCond .eq 12, 3) := db608.2.2.2.2.2.2.2.2.1
theorem dX6_readLine_81 : decode cX6_readLine 81 = .ok (.aload_n 0, 1) := db608.2.2.2.2.2.2.2.2.2.1
theorem dX6_readLine_82 : decode cX6_readLine 82 = .ok (.ldc 69, 2) := db608.2.2.2.2.2.2.2.2.2.2.1
theorem dX6_readLine_84 : decode cX6_readLine 84 = .ok (.invokevirtual 48, 3) := db608.2.2.2.2.2.2.2.2.2.2.2.1
theorem dX6_readLine_87 : decode cX6_readLine 87 = .ok (.ifCond .eq 12, 3) := db608.2.2.2.2.2.2.2.2.2.2.2.2.1
theorem dX6_readLine_99 : decode cX6_readLine 99 = .ok (.aload_n 0, 1) := db608.2.2.2.2.2.2.2.2.2.2.2.2.2.1
theorem dX6_readLine_100 : decode cX6_readLine 100 = .ok (.ldc 74, 2) := db608.2.2.2.2.2.2.2.2.2.2.2.2.2.2.1
theorem dX6_readLine_102 : decode cX6_readLine 102 = .ok (.invokevirtual 48, 3) := db608.2.2.2.2.2.2.2.2.2.2.2.2.2.2.2.1
theorem dX6_readLine_105 : decode cX6_readLine 105 = .ok (.ifCond .eq 12, 3) := db608.2.2.2.2.2.2.2.2.2.2.2.2.2.2.2.2.1
theorem dX6_readLine_117 : decode cX6_readLine 117 = .ok (.aload_n 0, 1) := db608.2.2.2.2.2.2.2.2.2.2.2.2.2.2.2.2.2.1
theorem dX6_readLine_118 : decode cX6_readLine 118 = .ok (.iconst 1, 1) := db608.2.2.2.2.2.2.2.2.2.2.2.2.2.2.2.2.2.2.1
theorem dX6_readLine_119 : decode cX6_readLine 119 = .ok (.invokevirtual 52, 3) := db608.2.2.2.2.2.2.2.2.2.2.2.2.2.2.2.2.2.2.2.1
theorem dX6_readLine_122 : decode cX6_readLine 122 = .ok (.istore_n 3, 1) := db608.2.2.2.2.2.2.2.2.2.2.2.2.2.2.2.2.2.2.2.2.1
theorem dX6_readLine_108 : decode cX6_readLine 108 = .ok (.aload_n 0, 1) := db608.2.2.2.2.2.2.2.2.2.2.2.2.2.2.2.2.2.2.2.2.2.1
theorem dX6_readLine_109 : decode cX6_readLine 109 = .ok (.aload_n 1, 1) := db608.2.2.2.2.2.2.2.2.2.2.2.2.2.2.2.2.2.2.2.2.2.2.1
theorem dX6_readLine_110 : decode cX6_readLine 110 = .ok (.invokevirtual 76, 3) := db608.2.2.2.2.2.2.2.2.2.2.2.2.2.2.2.2.2.2.2.2.2.2.2
theorem db609 : (decode cX6_readLine 113 = .ok (.istore_n 3, 1)) ∧ (decode cX6_readLine 114 = .ok (.goto 9, 3)) ∧ (decode cX6_readLine 90 = .ok (.aload_n 0, 1)) ∧ (decode cX6_readLine 91 = .ok (.aload_n 1, 1)) ∧ (decode cX6_readLine 92 = .ok (.invokevirtual 71, 3)) ∧ (decode cX6_readLine 95 = .ok (.istore_n 3, 1)) ∧ (decode cX6_readLine 96 = .ok (.goto 27, 3)) ∧ (decode cX6_readLine 72 = .ok (.aload_n 0, 1)) ∧ (decode cX6_readLine 73 = .ok (.aload_n 1, 1)) ∧ (decode cX6_readLine 74 = .ok (.invokevirtual 66, 3)) ∧ (decode cX6_readLine 77 = .ok (.istore_n 3, 1)) ∧ (decode cX6_readLine 78 = .ok (.goto 45, 3)) ∧ (decode cX6_readLine 54 = .ok (.aload_n 0, 1)) ∧ (decode cX6_readLine 55 = .ok (.aload_n 1, 1)) ∧ (decode cX6_readLine 56 = .ok (.invokevirtual 61, 3)) ∧ (decode cX6_readLine 59 = .ok (.istore_n 3, 1)) ∧ (decode cX6_readLine 60 = .ok (.goto 63, 3)) ∧ (decode cX6_readLine 36 = .ok (.aload_n 0, 1)) ∧ (decode cX6_readLine 37 = .ok (.aload_n 1, 1)) ∧ (decode cX6_readLine 38 = .ok (.invokevirtual 56, 3)) ∧ (decode cX6_readLine 41 = .ok (.istore_n 3, 1)) ∧ (decode cX6_readLine 42 = .ok (.goto 81, 3)) ∧ (decode cX6_readLine 23 = .ok (.aload_n 0, 1)) ∧ (decode cX6_readLine 24 = .ok (.iconst 1, 1)) := by decide +kernel
theorem dX6_readLine_113 : decode cX6_readLine 113 = .ok (.istore_n 3, 1) := db609.1
theorem dX6_readLine_114 : decode cX6_readLine 114 = .ok (.goto 9, 3) := db609.2.1
theorem dX6_readLine_90 : decode cX6_readLine 90 = .ok (.aload_n 0, 1) := db609.2.2.1
theorem dX6_readLine_91 : decode cX6_readLine 91 = .ok (.aload_n 1, 1) := db609.2.2.2.1
theorem dX6_readLine_92 : decode cX6_readLine 92 = .ok (.invokevirtual 71, 3) := db609.2.2.2.2.1
theorem dX6_readLine_95 : decode cX6_readLine 95 = .ok (.istore_n 3, 1) := db609.2.2.2.2.2.1
theorem dX6_readLine_96 : decode cX6_readLine 96 = .ok (.goto 27, 3) := db609.2.2.2.2.2.2.1
theorem dX6_readLine_72 : decode cX6_readLine 72 = .ok (.aload_n 0, 1) := db609.2.2.2.2.2.2.2.1
theorem dX6_readLine_73 : decode cX6_readLine 73 = .ok (.aload_n 1, 1) := db609.2.2.2.2.2.2.2.2.1
theorem dX6_readLine_74 : decode cX6_readLine 74 = .ok (.invokevirtual 66, 3) := db609.2.2.2.2.2.2.2.2.2.1
theorem dX6_readLine_77 : decode cX6_readLine 77 = .ok (.istore_n 3, 1) := db609.2.2.2.2.2.2.2.2.2.2.1
theorem dX6_readLine_78 : decode cX6_readLine 78 = .ok (.goto 45, 3) := db609.2.2.2.2.2.2.2.2.2.2.2.1
theorem dX6_readLine_54 : decode cX6_readLine 54 = .ok (.aload_n 0, 1) := db609.2.2.2.2.2.2.2.2.2.2.2.2.1
theorem dX6_readLine_55 : decode cX6_readLine 55 = .ok (.aload_n 1, 1) := db609.2.2.2.2.2.2.2.2.2.2.2.2.2.1
theorem dX6_readLine_56 : decode cX6_readLine 56 = .ok (.invokevirtual 61, 3) := db609.2.2.2.2.2.2.2.2.2.2.2.2.2.2.1
theorem dX6_readLine_59 : decode cX6_readLine 59 = .ok (.istore_n 3, 1) := db609.2.2.2.2.2.2.2.2.2.2.2.2.2.2.2.1
theorem dX6_readLine_60 : decode cX6_readLine 60 = .ok (.goto 63, 3) := db609.2.2.2.2.2.2.2.2.2.2.2.2.2.2.2.2.1
theorem dX6_readLine_36 : decode cX6_readLine 36 = .ok (.aload_n 0, 1) := db609.2.2.2.2.2.2.2.2.2.2.2.2.2.2.2.2.2.1
theorem dX6_readLine_37 : decode cX6_readLine 37 = .ok (.aload_n 1, 1) := db609.2.2.2.2.2.2.2.2.2.2.2.2.2.2.2.2.2.2.1
theorem dX6_readLine_38 : decode cX6_readLine 38 = .ok (.invokevirtual 56, 3) := db609.2.2.2.2.2.2.2.2.2.2.2.2.2.2.2.2.2.2.2.1
theorem dX6_readLine_41 : decode cX6_readLine 41 = .ok (.istore_n 3, 1) := db609.2.2.2.2.2.2.2.2.2.2.2.2.2.2.2.2.2.2.2.2.1
theorem dX6_readLine_42 : decode cX6_readLine 42 = .ok (.goto 81, 3) := db609.2.2.2.2.2.2.2.2.2.2.2.2.2.2.2.2.2.2.2.2.2.1
theorem dX6_readLine_23 : decode cX6_readLine 23 = .ok (.aload_n 0, 1) := db609.2.2.2.2.2.2.2.2.2.2.2.2.2.2.2.2.2.2.2.2.2.2.1
theorem dX6_readLine_24 : decode cX6_readLine 24 = .ok (.iconst 1, 1) := db609.2.2.2.2.2.2.2.2.2.2.2.2.2.2.2.2.2.2.2.2.2.2.2
theorem db610 : (decode cX6_readLine 25 = .ok (.invokevirtual 52, 3)) ∧ (decode cX6_readLine 28 = .ok (.istore_n 3, 1)) ∧ (decode cX6_readLine 29 = .ok (.goto 94, 3)) ∧ (decode cX6_readLine 4 = .ok (.ifCond .ne 7, 3)) ∧ (decode cX6_readLine 11 = .ok (.iconst 0, 1)) ∧ (decode cX6_readLine 7 = .ok (.iconst 1, 1)) ∧ (decode cX6_readLine 8 = .ok (.goto 4, 3)) := by decide +kernel
theorem dX6_readLine_25 : decode cX6_readLine 25 = .ok (.invokevirtual 52, 3) := db610.1
theorem dX6_readLine_28 : decode cX6_readLine 28 = .ok (.istore_n 3, 1) := db610.2.1
theorem dX6_readLine_29 : decode cX6_readLine 29 = .ok (.goto 94, 3) := db610.2.2.1
theorem dX6_readLine_4 : decode cX6_readLine 4 = .ok (.ifCond .ne 7, 3) := db610.2.2.2.1
theorem dX6_readLine_11 : decode cX6_readLine 11 = .ok (.iconst 0, 1) := db610.2.2.2.2.1
theorem dX6_readLine_7 : decode cX6_readLine 7 = .ok (.iconst 1, 1) := db610.2.2.2.2.2.1
theorem dX6_readLine_8 : decode cX6_readLine 8 = .ok (.goto 4, 3) := db610.2.2.2.2.2.2
theorem db611 : (decode cX6_readMan 0 = .ok (.aload_n 1, 1)) ∧ (decode cX6_readMan 1 = .ok (.getfield 128, 3)) ∧ (decode cX6_readMan 4 = .ok (.bipush 6, 2)) ∧ (decode cX6_readMan 6 = .ok (.if_icmp .lt 9, 3)) ∧ (decode cX6_readMan 15 = .ok (.aload_n 0, 1)) ∧ (decode cX6_readMan 16 = .ok (.invokevirtual 33, 3)) ∧ (decode cX6_readMan 19 = .ok (.aload_n 0, 1)) ∧ (decode cX6_readMan 20 = .ok (.ldc 131, 2)) ∧ (decode cX6_readMan 22 = .ok (.iconst 1, 1)) ∧ (decode cX6_readMan 23 = .ok (.bipush 99, 2)) ∧ (decode cX6_readMan 25 = .ok (.invokevirtual 85, 3)) ∧ (decode cX6_readMan 28 = .ok (.istore_n 2, 1)) ∧ (decode cX6_readMan 29 = .ok (.iconst 0, 1)) ∧ (decode cX6_readMan 30 = .ok (.istore_n 3, 1)) ∧ (decode cX6_readMan 31 = .ok (.aload_n 0, 1)) ∧ (decode cX6_readMan 32 = .ok (.getfield 27, 3)) ∧ (decode cX6_readMan 56 = .ok (.aload_n 0, 1)) ∧ (decode cX6_readMan 57 = .ok (.getfield 27, 3)) ∧ (decode cX6_readMan 60 = .ok (.ifCond .eq 5, 3)) ∧ (decode cX6_readMan 65 = .ok (.aload_n 1, 1)) ∧ (decode cX6_readMan 66 = .ok (.iload_n 2, 1)) ∧ (decode cX6_readMan 67 = .ok (.iload_n 3, 1)) ∧ (decode cX6_readMan 68 = .ok (.invokevirtual 139, 3)) ∧ (decode cX6_readMan 71 = .ok (.iconst 1, 1)) := by decide +kernel
theorem dX6_readMan_0 : decode cX6_readMan 0 = .ok (.aload_n 1, 1) := db611.1
theorem dX6_readMan_1 : decode cX6_readMan 1 = .ok (.getfield 128, 3) := db611.2.1
theorem dX6_readMan_4 : decode cX6_readMan 4 = .ok (.bipush 6, 2) := db611.2.2.1
theorem dX6_readMan_6 : decode cX6_readMan 6 = .ok (.if_icmp .lt 9, 3) := db611.2.2.2.1
theorem dX6_readMan_15 : decode cX6_readMan 15 = .ok (.aload_n 0, 1) := db611.2.2.2.2.1
theorem dX6_readMan_16 : decode cX6_readMan 16 = .ok (.invokevirtual 33, 3) := db611.2.2.2.2.2.1
theorem dX6_readMan_19 : decode cX6_readMan 19 = .ok (.aload_n 0, 1) := db611.2.2.2.2.2.2.1
theorem dX6_readMan_20 : decode cX6_readMan 20 = .ok (.ldc 131, 2) := db611.2.2.2.2.2.2.2.1
theorem dX6_readMan_22 : decode cX6_readMan 22 = .ok (.iconst 1, 1) := db611.2.2.2.2.2.2.2.2.1
theorem dX6_readMan_23 : decode cX6_readMan 23 = .ok (.bipush 99, 2) := db611.2.2.2.2.2.2.2.2.2.1
theorem dX6_readMan_25 : decode cX6_readMan 25 = .ok (.invokevirtual 85, 3) := db611.2.2.2.2.2.2.2.2.2.2.1
theorem dX6_readMan_28 : decode cX6_readMan 28 = .ok (.istore_n 2, 1) := db611.2.2.2.2.2.2.2.2.2.2.2.1
theorem dX6_readMan_29 : decode cX6_readMan 29 = .ok (.iconst 0, 1) := db611.2.2.2.2.2.2.2.2.2.2.2.2.1
theorem dX6_readMan_30 : decode cX6_readMan 30 = .ok (.istore_n 3, 1) := db611.2.2.2.2.2.2.2.2.2.2.2.2.2.1
theorem dX6_readMan_31 : decode cX6_readMan 31 = .ok (.aload_n 0, 1) := db611.2.2.2.2.2.2.2.2.2.2.2.2.2.2.1
theorem dX6_readMan_32 : decode cX6_readMan 32 = .ok (.getfield 27, 3) := db611.2.2.2.2.2.2.2.2.2.2.2.2.2.2.2.1
theorem dX6_readMan_56 : decode cX6_readMan 56 = .ok (.aload_n 0, 1) := db611.2.2.2.2.2.2.2.2.2.2.2.2.2.2.2.2.1
theorem dX6_readMan_57 : decode cX6_readMan 57 = .ok (.getfield 27, 3) := db611.2.2.2.2.2.2.2.2.2.2.2.2.2.2.2.2.2.1
theorem dX6_readMan_60 : decode cX6_readMan 60 = .ok (.ifCond .eq 5, 3) := db611.2.2.2.2.2.2.2.2.2.2.2.2.2.2.2.2.2.2.1
theorem dX6_readMan_65 : decode cX6_readMan 65 = .ok (.aload_n 1, 1) := db611.2.2.2.2.2.2.2.2.2.2.2.2.2.2.2.2.2.2.2.1
theorem dX6_readMan_66 : decode cX6_readMan 66 = .ok (.iload_n 2, 1) := db611.2.2.2.2.2.2.2.2.2.2.2.2.2.2.2.2.2.2.2.2.1
theorem dX6_readMan_67 : decode cX6_readMan 67 = .ok (.iload_n 3, 1) := db611.2.2.2.2.2.2.2.2.2.2.2.2.2.2.2.2.2.2.2.2.2.1
theorem dX6_readMan_68 : decode cX6_readMan 68 = .ok (.invokevirtual 139, 3) := db611.2.2.2.2.2.2.2.2.2.2.2.2.2.2.2.2.2.2.2.2.2.2.1
theorem dX6_readMan_71 : decode cX6_readMan 71 = .ok (.iconst 1, 1) := db611.2.2.2.2.2.2.2.2.2.2.2.2.2.2.2.2.2.2.2.2.2.2.2
theorem db612 : (decode cX6_readMan 72 = .ok (.ireturn, 1)) ∧ (decode cX6_readMan 63 = .ok (.iconst 0, 1)) ∧ (decode cX6_readMan 64 = .ok (.ireturn, 1)) ∧ (decode cX6_readMan 35 = .ok (.ifCond .ne 21, 3)) ∧ (decode cX6_readMan 38 = .ok (.aload_n 0, 1)) ∧ (decode cX6_readMan 39 = .ok (.ldc 133, 2)) ∧ (decode cX6_readMan 41 = .ok (.invokevirtual 48, 3)) ∧ (decode cX6_readMan 44 = .ok (.ifCond .eq 12, 3)) ∧ (decode cX6_readMan 47 = .ok (.aload_n 0, 1)) ∧ (decode cX6_readMan 48 = .ok (.invokevirtual 33, 3)) ∧ (decode cX6_readMan 51 = .ok (.aload_n 0, 1)) ∧ (decode cX6_readMan 52 = .ok (.invokevirtual 135, 3)) ∧ (decode cX6_readMan 55 = .ok (.istore_n 3, 1)) ∧ (decode cX6_readMan 9 = .ok (.aload_n 0, 1)) ∧ (decode cX6_readMan 10 = .ok (.iconst 3, 1)) ∧ (decode cX6_readMan 11 = .ok (.invokevirtual 52, 3)) ∧ (decode cX6_readMan 14 = .ok (.ireturn, 1)) := by decide +kernel
theorem dX6_readMan_72 : decode cX6_readMan 72 = .ok (.ireturn, 1) := db612.1
theorem dX6_readMan_63 : decode cX6_readMan 63 = .ok (.iconst 0, 1) := db612.2.1
theorem dX6_readMan_64 : decode cX6_readMan 64 = .ok (.ireturn, 1) := db612.2.2.1
theorem dX6_readMan_35 : decode cX6_readMan 35 = .ok (.ifCond .ne 21, 3) := db612.2.2.2.1
theorem dX6_readMan_38 : decode cX6_readMan 38 = .ok (.aload_n 0, 1) := db612.2.2.2.2.1
theorem dX6_readMan_39 : decode cX6_readMan 39 = .ok (.ldc 133, 2) := db612.2.2.2.2.2.1
theorem dX6_readMan_41 : decode cX6_readMan 41 = .ok (.invokevirtual 48, 3) := db612.2.2.2.2.2.2.1
theorem dX6_readMan_44 : decode cX6_readMan 44 = .ok (.ifCond .eq 12, 3) := db612.2.2.2.2.2.2.2.1
theorem dX6_readMan_47 : decode cX6_readMan 47 = .ok (.aload_n 0, 1) := db612.2.2.2.2.2.2.2.2.1
theorem dX6_readMan_48 : decode cX6_readMan 48 = .ok (.invokevirtual 33, 3) := db612.2.2.2.2.2.2.2.2.2.1
theorem dX6_readMan_51 : decode cX6_readMan 51 = .ok (.aload_n 0, 1) := db612.2.2.2.2.2.2.2.2.2.2.1
theorem dX6_readMan_52 : decode cX6_readMan 52 = .ok (.invokevirtual 135, 3) := db612.2.2.2.2.2.2.2.2.2.2.2.1
theorem dX6_readMan_55 : decode cX6_readMan 55 = .ok (.istore_n 3, 1) := db612.2.2.2.2.2.2.2.2.2.2.2.2.1
theorem dX6_readMan_9 : decode cX6_readMan 9 = .ok (.aload_n 0, 1) := db612.2.2.2.2.2.2.2.2.2.2.2.2.2.1
theorem dX6_readMan_10 : decode cX6_readMan 10 = .ok (.iconst 3, 1) := db612.2.2.2.2.2.2.2.2.2.2.2.2.2.2.1
theorem dX6_readMan_11 : decode cX6_readMan 11 = .ok (.invokevirtual 52, 3) := db612.2.2.2.2.2.2.2.2.2.2.2.2.2.2.2.1
theorem dX6_readMan_14 : decode cX6_readMan 14 = .ok (.ireturn, 1) := db612.2.2.2.2.2.2.2.2.2.2.2.2.2.2.2.2
theorem db613 : (decode cX6_readRoom 0 = .ok (.aload_n 1, 1)) ∧ (decode cX6_readRoom 1 = .ok (.getfield 103, 3)) ∧ (decode cX6_readRoom 4 = .ok (.bipush 7, 2)) ∧ (decode cX6_readRoom 6 = .ok (.if_icmp .lt 9, 3)) ∧ (decode cX6_readRoom 15 = .ok (.aload_n 0, 1)) ∧ (decode cX6_readRoom 16 = .ok (.invokevirtual 33, 3)) ∧ (decode cX6_readRoom 19 = .ok (.aload_n 0, 1)) ∧ (decode cX6_readRoom 20 = .ok (.ldc 106, 2)) ∧ (decode cX6_readRoom 22 = .ok (.iconst 0, 1)) ∧ (decode cX6_readRoom 23 = .ok (.iconst 0, 1)) ∧ (decode cX6_readRoom 24 = .ok (.invokestatic 108, 3)) ∧ (decode cX6_readRoom 27 = .ok (.invokevirtual 85, 3)) ∧ (decode cX6_readRoom 30 = .ok (.istore_n 2, 1)) ∧ (decode cX6_readRoom 31 = .ok (.aload_n 0, 1)) ∧ (decode cX6_readRoom 32 = .ok (.getfield 27, 3)) ∧ (decode cX6_readRoom 53 = .ok (.istore_n 3, 1)) ∧ (decode cX6_readRoom 54 = .ok (.aload_n 0, 1)) ∧ (decode cX6_readRoom 55 = .ok (.getfield 27, 3)) ∧ (decode cX6_readRoom 76 = .ok (.istore 4, 2)) ∧ (decode cX6_readRoom 78 = .ok (.aload_n 0, 1)) ∧ (decode cX6_readRoom 79 = .ok (.getfield 27, 3)) ∧ (decode cX6_readRoom 82 = .ok (.ifCond .eq 5, 3)) ∧ (decode cX6_readRoom 87 = .ok (.aload_n 1, 1)) ∧ (decode cX6_readRoom 88 = .ok (.iload_n 2, 1)) := by decide +kernel
theorem dX6_readRoom_0 : decode cX6_readRoom 0 = .ok (.aload_n 1, 1) := db613.1
theorem dX6_readRoom_1 : decode cX6_readRoom 1 = .ok (.getfield 103, 3) := db613.2.1
theorem dX6_readRoom_4 : decode cX6_readRoom 4 = .ok (.bipush 7, 2) := db613.2.2.1
theorem dX6_readRoom_6 : decode cX6_readRoom 6 = .ok (.if_icmp .lt 9, 3) := db613.2.2.2.1
theorem dX6_readRoom_15 : decode cX6_readRoom 15 = .ok (.aload_n 0, 1) := db613.2.2.2.2.1
theorem dX6_readRoom_16 : decode cX6_readRoom 16 = .ok (.invokevirtual 33, 3) := db613.2.2.2.2.2.1
theorem dX6_readRoom_19 : decode cX6_readRoom 19 = .ok (.aload_n 0, 1) := db613.2.2.2.2.2.2.1
theorem dX6_readRoom_20 : decode cX6_readRoom 20 = .ok (.ldc 106, 2) := db613.2.2.2.2.2.2.2.1
theorem dX6_readRoom_22 : decode cX6_readRoom 22 = .ok (.iconst 0, 1) := db613.2.2.2.2.2.2.2.2.1
theorem dX6_readRoom_23 : decode cX6_readRoom 23 = .ok (.iconst 0, 1) := db613.2.2.2.2.2.2.2.2.2.1
theorem dX6_readRoom_24 : decode cX6_readRoom 24 = .ok (.invokestatic 108, 3) := db613.2.2.2.2.2.2.2.2.2.2.1
theorem dX6_readRoom_27 : decode cX6_readRoom 27 = .ok (.invokevirtual 85, 3) := db613.2.2.2.2.2.2.2.2.2.2.2.1
theorem dX6_readRoom_30 : decode cX6_readRoom 30 = .ok (.istore_n 2, 1) := db613.2.2.2.2.2.2.2.2.2.2.2.2.1
theorem dX6_readRoom_31 : decode cX6_readRoom 31 = .ok (.aload_n 0, 1) := db613.2.2.2.2.2.2.2.2.2.2.2.2.2.1
theorem dX6_readRoom_32 : decode cX6_readRoom 32 = .ok (.getfield 27, 3) := db613.2.2.2.2.2.2.2.2.2.2.2.2.2.2.1
theorem dX6_readRoom_53 : decode cX6_readRoom 53 = .ok (.istore_n 3, 1) := db613.2.2.2.2.2.2.2.2.2.2.2.2.2.2.2.1
theorem dX6_readRoom_54 : decode cX6_readRoom 54 = .ok (.aload_n 0, 1) := db613.2.2.2.2.2.2.2.2.2.2.2.2.2.2.2.2.1
theorem dX6_readRoom_55 : decode cX6_readRoom 55 = .ok (.getfield 27, 3) := db613.2.2.2.2.2.2.2.2.2.2.2.2.2.2.2.2.2.1
theorem dX6_readRoom_76 : decode cX6_readRoom 76 = .ok (.istore 4, 2) := db613.2.2.2.2.2.2.2.2.2.2.2.2.2.2.2.2.2.2.1
theorem dX6_readRoom_78 : decode cX6_readRoom 78 = .ok (.aload_n 0, 1) := db613.2.2.2.2.2.2.2.2.2.2.2.2.2.2.2.2.2.2.2.1
theorem dX6_readRoom_79 : decode cX6_readRoom 79 = .ok (.getfield 27, 3) := db613.2.2.2.2.2.2.2.2.2.2.2.2.2.2.2.2.2.2.2.2.1
theorem dX6_readRoom_82 : decode cX6_readRoom 82 = .ok (.ifCond .eq 5, 3) := db613.2.2.2.2.2.2.2.2.2.2.2.2.2.2.2.2.2.2.2.2.2.1
theorem dX6_readRoom_87 : decode cX6_readRoom 87 = .ok (.aload_n 1, 1) := db613.2.2.2.2.2.2.2.2.2.2.2.2.2.2.2.2.2.2.2.2.2.2.1
theorem dX6_readRoom_88 : decode cX6_readRoom 88 = .ok (.iload_n 2, 1) := db613.2.2.2.2.2.2.2.2.2.2.2.2.2.2.2.2.2.2.2.2.2.2.2
theorem db614 : (decode cX6_readRoom 89 = .ok (.iload_n 3, 1)) ∧ (decode cX6_readRoom 90 = .ok (.iload 4, 2)) ∧ (decode cX6_readRoom 92 = .ok (.invokevirtual 116, 3)) ∧ (decode cX6_readRoom 95 = .ok (.iconst 1, 1)) ∧ (decode cX6_readRoom 96 = .ok (.ireturn, 1)) ∧ (decode cX6_readRoom 85 = .ok (.iconst 0, 1)) ∧ (decode cX6_readRoom 86 = .ok (.ireturn, 1)) ∧ (decode cX6_readRoom 58 = .ok (.ifCond .ne 17, 3)) ∧ (decode cX6_readRoom 75 = .ok (.iconst (-1), 1)) ∧ (decode cX6_readRoom 61 = .ok (.aload_n 0, 1)) ∧ (decode cX6_readRoom 62 = .ok (.ldc 114, 2)) ∧ (decode cX6_readRoom 64 = .ok (.iconst 0, 1)) ∧ (decode cX6_readRoom 65 = .ok (.iconst 2, 1)) ∧ (decode cX6_readRoom 66 = .ok (.invokestatic 108, 3)) ∧ (decode cX6_readRoom 69 = .ok (.invokevirtual 85, 3)) ∧ (decode cX6_readRoom 72 = .ok (.goto 4, 3)) ∧ (decode cX6_readRoom 35 = .ok (.ifCond .ne 17, 3)) ∧ (decode cX6_readRoom 52 = .ok (.iconst (-1), 1)) ∧ (decode cX6_readRoom 38 = .ok (.aload_n 0, 1)) ∧ (decode cX6_readRoom 39 = .ok (.ldc 112, 2)) ∧ (decode cX6_readRoom 41 = .ok (.iconst 0, 1)) ∧ (decode cX6_readRoom 42 = .ok (.iconst 1, 1)) ∧ (decode cX6_readRoom 43 = .ok (.invokestatic 108, 3)) ∧ (decode cX6_readRoom 46 = .ok (.invokevirtual 85, 3)) := by decide +kernel
theorem dX6_readRoom_89 : decode cX6_readRoom 89 = .ok (.iload_n 3, 1) := db614.1
theorem dX6_readRoom_90 : decode cX6_readRoom 90 = .ok (.iload 4, 2) := db614.2.1
theorem dX6_readRoom_92 : decode cX6_readRoom 92 = .ok (.invokevirtual 116, 3) := db614.2.2.1
theorem dX6_readRoom_95 : decode cX6_readRoom 95 = .ok (.iconst 1, 1) := db614.2.2.2.1
theorem dX6_readRoom_96 : decode cX6_readRoom 96 = .ok (.ireturn, 1) := db614.2.2.2.2.1
theorem dX6_readRoom_85 : decode cX6_readRoom 85 = .ok (.iconst 0, 1) := db614.2.2.2.2.2.1
theorem dX6_readRoom_86 : decode cX6_readRoom 86 = .ok (.ireturn, 1) := db614.2.2.2.2.2.2.1
theorem dX6_readRoom_58 : decode cX6_readRoom 58 = .ok (.ifCond .ne 17, 3) := db614.2.2.2.2.2.2.2.1
theorem dX6_readRoom_75 : decode cX6_readRoom 75 = .ok (.iconst (-1), 1) := db614.2.2.2.2.2.2.2.2.1
theorem dX6_readRoom_61 : decode cX6_readRoom 61 = .ok (.aload_n 0, 1) := db614.2.2.2.2.2.2.2.2.2.1
theorem dX6_readRoom_62 : decode cX6_readRoom 62 = .ok (.ldc 114, 2) := db614.2.2.2.2.2.2.2.2.2.2.1
theorem dX6_readRoom_64 : decode cX6_readRoom 64 = .ok (.iconst 0, 1) := db614.2.2.2.2.2.2.2.2.2.2.2.1
theorem dX6_readRoom_65 : decode cX6_readRoom 65 = .ok (.iconst 2, 1) := db614.2.2.2.2.2.2.2.2.2.2.2.2.1
theorem dX6_readRoom_66 : decode cX6_readRoom 66 = .ok (.invokestatic 108, 3) := db614.2.2.2.2.2.2.2.2.2.2.2.2.2.1
theorem dX6_readRoom_69 : decode cX6_readRoom 69 = .ok (.invokevirtual 85, 3) := db614.2.2.2.2.2.2.2.2.2.2.2.2.2.2.1
theorem dX6_readRoom_72 : decode cX6_readRoom 72 = .ok (.goto 4, 3) := db614.2.2.2.2.2.2.2.2.2.2.2.2.2.2.2.1
theorem dX6_readRoom_35 : decode cX6_readRoom 35 = .ok (.ifCond .ne 17, 3) := db614.2.2.2.2.2.2.2.2.2.2.2.2.2.2.2.2.1
theorem dX6_readRoom_52 : decode cX6_readRoom 52 = .ok (.iconst (-1), 1) := db614.2.2.2.2.2.2.2.2.2.2.2.2.2.2.2.2.2.1
theorem dX6_readRoom_38 : decode cX6_readRoom 38 = .ok (.aload_n 0, 1) := db614.2.2.2.2.2.2.2.2.2.2.2.2.2.2.2.2.2.2.1
theorem dX6_readRoom_39 : decode cX6_readRoom 39 = .ok (.ldc 112, 2) := db614.2.2.2.2.2.2.2.2.2.2.2.2.2.2.2.2.2.2.2.1
theorem dX6_readRoom_41 : decode cX6_readRoom 41 = .ok (.iconst 0, 1) := db614.2.2.2.2.2.2.2.2.2.2.2.2.2.2.2.2.2.2.2.2.1
theorem dX6_readRoom_42 : decode cX6_readRoom 42 = .ok (.iconst 1, 1) := db614.2.2.2.2.2.2.2.2.2.2.2.2.2.2.2.2.2.2.2.2.2.1
theorem dX6_readRoom_43 : decode cX6_readRoom 43 = .ok (.invokestatic 108, 3) := db614.2.2.2.2.2.2.2.2.2.2.2.2.2.2.2.2.2.2.2.2.2.2.1
theorem dX6_readRoom_46 : decode cX6_readRoom 46 = .ok (.invokevirtual 85, 3) := db614.2.2.2.2.2.2.2.2.2.2.2.2.2.2.2.2.2.2.2.2.2.2.2
theorem db615 : (decode cX6_readRoom 49 = .ok (.goto 4, 3)) ∧ (decode cX6_readRoom 9 = .ok (.aload_n 0, 1)) ∧ (decode cX6_readRoom 10 = .ok (.iconst 3, 1)) ∧ (decode cX6_readRoom 11 = .ok (.invokevirtual 52, 3)) ∧ (decode cX6_readRoom 14 = .ok (.ireturn, 1)) := by decide +kernel
theorem dX6_readRoom_49 : decode cX6_readRoom 49 = .ok (.goto 4, 3) := db615.1
theorem dX6_readRoom_9 : decode cX6_readRoom 9 = .ok (.aload_n 0, 1) := db615.2.1
theorem dX6_readRoom_10 : decode cX6_readRoom 10 = .ok (.iconst 3, 1) := db615.2.2.1
theorem dX6_readRoom_11 : decode cX6_readRoom 11 = .ok (.invokevirtual 52, 3) := db615.2.2.2.1
theorem dX6_readRoom_14 : decode cX6_readRoom 14 = .ok (.ireturn, 1) := db615.2.2.2.2
theorem db616 : (decode cX6_readSlate 0 = .ok (.aload_n 0, 1)) ∧ (decode cX6_readSlate 1 = .ok (.invokevirtual 33, 3)) ∧ (decode cX6_readSlate 4 = .ok (.aload_n 0, 1)) ∧ (decode cX6_readSlate 5 = .ok (.iconst 0, 1)) ∧ (decode cX6_readSlate 6 = .ok (.aload_n 1, 1)) ∧ (decode cX6_readSlate 7 = .ok (.getfield 128, 3)) ∧ (decode cX6_readSlate 10 = .ok (.iconst 1, 1)) ∧ (decode cX6_readSlate 11 = .ok (.isub, 1)) ∧ (decode cX6_readSlate 12 = .ok (.iconst (-1), 1)) ∧ (decode cX6_readSlate 13 = .ok (.invokevirtual 120, 3)) ∧ (decode cX6_readSlate 16 = .ok (.istore_n 2, 1)) ∧ (decode cX6_readSlate 17 = .ok (.aload_n 0, 1)) ∧ (decode cX6_readSlate 18 = .ok (.getfield 27, 3)) ∧ (decode cX6_readSlate 41 = .ok (.istore_n 3, 1)) ∧ (decode cX6_readSlate 42 = .ok (.aload_n 0, 1)) ∧ (decode cX6_readSlate 43 = .ok (.getfield 27, 3)) ∧ (decode cX6_readSlate 61 = .ok (.istore 4, 2)) ∧ (decode cX6_readSlate 63 = .ok (.aload_n 0, 1)) ∧ (decode cX6_readSlate 64 = .ok (.getfield 27, 3)) ∧ (decode cX6_readSlate 67 = .ok (.ifCond .eq 5, 3)) ∧ (decode cX6_readSlate 72 = .ok (.aload_n 1, 1)) ∧ (decode cX6_readSlate 73 = .ok (.iload_n 2, 1)) ∧ (decode cX6_readSlate 74 = .ok (.iload_n 3, 1)) ∧ (decode cX6_readSlate 75 = .ok (.iload 4, 2)) := by decide +kernel
theorem dX6_readSlate_0 : decode cX6_readSlate 0 = .ok (.aload_n 0, 1) := db616.1
theorem dX6_readSlate_1 : decode cX6_readSlate 1 = .ok (.invokevirtual 33, 3) := db616.2.1
theorem dX6_readSlate_4 : decode cX6_readSlate 4 = .ok (.aload_n 0, 1) := db616.2.2.1
theorem dX6_readSlate_5 : decode cX6_readSlate 5 = .ok (.iconst 0, 1) := db616.2.2.2.1
theorem dX6_readSlate_6 : decode cX6_readSlate 6 = .ok (.aload_n 1, 1) := db616.2.2.2.2.1
theorem dX6_readSlate_7 : decode cX6_readSlate 7 = .ok (.getfield 128, 3) := db616.2.2.2.2.2.1
theorem dX6_readSlate_10 : decode cX6_readSlate 10 = .ok (.iconst 1, 1) := db616.2.2.2.2.2.2.1
theorem dX6_readSlate_11 : decode cX6_readSlate 11 = .ok (.isub, 1) := db616.2.2.2.2.2.2.2.1
theorem dX6_readSlate_12 : decode cX6_readSlate 12 = .ok (.iconst (-1), 1) := db616.2.2.2.2.2.2.2.2.1
theorem dX6_readSlate_13 : decode cX6_readSlate 13 = .ok (.invokevirtual 120, 3) := db616.2.2.2.2.2.2.2.2.2.1
theorem dX6_readSlate_16 : decode cX6_readSlate 16 = .ok (.istore_n 2, 1) := db616.2.2.2.2.2.2.2.2.2.2.1
theorem dX6_readSlate_17 : decode cX6_readSlate 17 = .ok (.aload_n 0, 1) := db616.2.2.2.2.2.2.2.2.2.2.2.1
theorem dX6_readSlate_18 : decode cX6_readSlate 18 = .ok (.getfield 27, 3) := db616.2.2.2.2.2.2.2.2.2.2.2.2.1
theorem dX6_readSlate_41 : decode cX6_readSlate 41 = .ok (.istore_n 3, 1) := db616.2.2.2.2.2.2.2.2.2.2.2.2.2.1
theorem dX6_readSlate_42 : decode cX6_readSlate 42 = .ok (.aload_n 0, 1) := db616.2.2.2.2.2.2.2.2.2.2.2.2.2.2.1
theorem dX6_readSlate_43 : decode cX6_readSlate 43 = .ok (.getfield 27, 3) := db616.2.2.2.2.2.2.2.2.2.2.2.2.2.2.2.1
theorem dX6_readSlate_61 : decode cX6_readSlate 61 = .ok (.istore 4, 2) := db616.2.2.2.2.2.2.2.2.2.2.2.2.2.2.2.2.1
theorem dX6_readSlate_63 : decode cX6_readSlate 63 = .ok (.aload_n 0, 1) := db616.2.2.2.2.2.2.2.2.2.2.2.2.2.2.2.2.2.1
theorem dX6_readSlate_64 : decode cX6_readSlate 64 = .ok (.getfield 27, 3) := db616.2.2.2.2.2.2.2.2.2.2.2.2.2.2.2.2.2.2.1
theorem dX6_readSlate_67 : decode cX6_readSlate 67 = .ok (.ifCond .eq 5, 3) := db616.2.2.2.2.2.2.2.2.2.2.2.2.2.2.2.2.2.2.2.1
theorem dX6_readSlate_72 : decode cX6_readSlate 72 = .ok (.aload_n 1, 1) := db616.2.2.2.2.2.2.2.2.2.2.2.2.2.2.2.2.2.2.2.2.1
theorem dX6_readSlate_73 : decode cX6_readSlate 73 = .ok (.iload_n 2, 1) := db616.2.2.2.2.2.2.2.2.2.2.2.2.2.2.2.2.2.2.2.2.2.1
theorem dX6_readSlate_74 : decode cX6_readSlate 74 = .ok (.iload_n 3, 1) := db616.2.2.2.2.2.2.2.2.2.2.2.2.2.2.2.2.2.2.2.2.2.2.1
theorem dX6_readSlate_75 : decode cX6_readSlate 75 = .ok (.iload 4, 2) := db616.2.2.2.2.2.2.2.2.2.2.2.2.2.2.2.2.2.2.2.2.2.2.2
theorem db617 : (decode cX6_readSlate 77 = .ok (.invokevirtual 144, 3)) ∧ (decode cX6_readSlate 80 = .ok (.iconst 1, 1)) ∧ (decode cX6_readSlate 81 = .ok (.ireturn, 1)) ∧ (decode cX6_readSlate 70 = .ok (.iconst 0, 1)) ∧ (decode cX6_readSlate 71 = .ok (.ireturn, 1)) ∧ (decode cX6_readSlate 46 = .ok (.ifCond .ne 14, 3)) ∧ (decode cX6_readSlate 60 = .ok (.iconst (-1), 1)) ∧ (decode cX6_readSlate 49 = .ok (.aload_n 0, 1)) ∧ (decode cX6_readSlate 50 = .ok (.iconst 0, 1)) ∧ (decode cX6_readSlate 51 = .ok (.bipush 9, 2)) ∧ (decode cX6_readSlate 53 = .ok (.iconst (-1), 1)) ∧ (decode cX6_readSlate 54 = .ok (.invokevirtual 120, 3)) ∧ (decode cX6_readSlate 57 = .ok (.goto 4, 3)) ∧ (decode cX6_readSlate 21 = .ok (.ifCond .ne 19, 3)) ∧ (decode cX6_readSlate 40 = .ok (.iconst (-1), 1)) ∧ (decode cX6_readSlate 24 = .ok (.aload_n 0, 1)) ∧ (decode cX6_readSlate 25 = .ok (.ldc 142, 2)) ∧ (decode cX6_readSlate 27 = .ok (.iconst 0, 1)) ∧ (decode cX6_readSlate 28 = .ok (.aload_n 1, 1)) ∧ (decode cX6_readSlate 29 = .ok (.getfield 128, 3)) ∧ (decode cX6_readSlate 32 = .ok (.iconst 1, 1)) ∧ (decode cX6_readSlate 33 = .ok (.isub, 1)) ∧ (decode cX6_readSlate 34 = .ok (.invokevirtual 85, 3)) ∧ (decode cX6_readSlate 37 = .ok (.goto 4, 3)) := by decide +kernel
theorem dX6_readSlate_77 : decode cX6_readSlate 77 = .ok (.invokevirtual 144, 3) := db617.1
theorem dX6_readSlate_80 : decode cX6_readSlate 80 = .ok (.iconst 1, 1) := db617.2.1
theorem dX6_readSlate_81 : decode cX6_readSlate 81 = .ok (.ireturn, 1) := db617.2.2.1
theorem dX6_readSlate_70 : decode cX6_readSlate 70 = .ok (.iconst 0, 1) := db617.2.2.2.1
theorem dX6_readSlate_71 : decode cX6_readSlate 71 = .ok (.ireturn, 1) := db617.2.2.2.2.1
theorem dX6_readSlate_46 : decode cX6_readSlate 46 = .ok (.ifCond .ne 14, 3) := db617.2.2.2.2.2.1
theorem dX6_readSlate_60 : decode cX6_readSlate 60 = .ok (.iconst (-1), 1) := db617.2.2.2.2.2.2.1
theorem dX6_readSlate_49 : decode cX6_readSlate 49 = .ok (.aload_n 0, 1) := db617.2.2.2.2.2.2.2.1
theorem dX6_readSlate_50 : decode cX6_readSlate 50 = .ok (.iconst 0, 1) := db617.2.2.2.2.2.2.2.2.1
theorem dX6_readSlate_51 : decode cX6_readSlate 51 = .ok (.bipush 9, 2) := db617.2.2.2.2.2.2.2.2.2.1
theorem dX6_readSlate_53 : decode cX6_readSlate 53 = .ok (.iconst (-1), 1) := db617.2.2.2.2.2.2.2.2.2.2.1
theorem dX6_readSlate_54 : decode cX6_readSlate 54 = .ok (.invokevirtual 120, 3) := db617.2.2.2.2.2.2.2.2.2.2.2.1
theorem dX6_readSlate_57 : decode cX6_readSlate 57 = .ok (.goto 4, 3) := db617.2.2.2.2.2.2.2.2.2.2.2.2.1
theorem dX6_readSlate_21 : decode cX6_readSlate 21 = .ok (.ifCond .ne 19, 3) := db617.2.2.2.2.2.2.2.2.2.2.2.2.2.1
theorem dX6_readSlate_40 : decode cX6_readSlate 40 = .ok (.iconst (-1), 1) := db617.2.2.2.2.2.2.2.2.2.2.2.2.2.2.1
theorem dX6_readSlate_24 : decode cX6_readSlate 24 = .ok (.aload_n 0, 1) := db617.2.2.2.2.2.2.2.2.2.2.2.2.2.2.2.1
theorem dX6_readSlate_25 : decode cX6_readSlate 25 = .ok (.ldc 142, 2) := db617.2.2.2.2.2.2.2.2.2.2.2.2.2.2.2.2.1
theorem dX6_readSlate_27 : decode cX6_readSlate 27 = .ok (.iconst 0, 1) := db617.2.2.2.2.2.2.2.2.2.2.2.2.2.2.2.2.2.1
theorem dX6_readSlate_28 : decode cX6_readSlate 28 = .ok (.aload_n 1, 1) := db617.2.2.2.2.2.2.2.2.2.2.2.2.2.2.2.2.2.2.1
theorem dX6_readSlate_29 : decode cX6_readSlate 29 = .ok (.getfield 128, 3) := db617.2.2.2.2.2.2.2.2.2.2.2.2.2.2.2.2.2.2.2.1
theorem dX6_readSlate_32 : decode cX6_readSlate 32 = .ok (.iconst 1, 1) := db617.2.2.2.2.2.2.2.2.2.2.2.2.2.2.2.2.2.2.2.2.1
theorem dX6_readSlate_33 : decode cX6_readSlate 33 = .ok (.isub, 1) := db617.2.2.2.2.2.2.2.2.2.2.2.2.2.2.2.2.2.2.2.2.2.1
theorem dX6_readSlate_34 : decode cX6_readSlate 34 = .ok (.invokevirtual 85, 3) := db617.2.2.2.2.2.2.2.2.2.2.2.2.2.2.2.2.2.2.2.2.2.2.1
theorem dX6_readSlate_37 : decode cX6_readSlate 37 = .ok (.goto 4, 3) := db617.2.2.2.2.2.2.2.2.2.2.2.2.2.2.2.2.2.2.2.2.2.2.2
theorem db618 : (decode cX6_takeNamed 0 = .ok (.aload_n 0, 1)) ∧ (decode cX6_takeNamed 1 = .ok (.aload_n 1, 1)) ∧ (decode cX6_takeNamed 2 = .ok (.invokevirtual 48, 3)) ∧ (decode cX6_takeNamed 5 = .ok (.ifCond .ne 11, 3)) ∧ (decode cX6_takeNamed 16 = .ok (.aload_n 0, 1)) ∧ (decode cX6_takeNamed 17 = .ok (.invokevirtual 33, 3)) ∧ (decode cX6_takeNamed 20 = .ok (.aload_n 0, 1)) ∧ (decode cX6_takeNamed 21 = .ok (.iload_n 2, 1)) ∧ (decode cX6_takeNamed 22 = .ok (.iload_n 3, 1)) ∧ (decode cX6_takeNamed 23 = .ok (.iconst (-1), 1)) ∧ (decode cX6_takeNamed 24 = .ok (.invokevirtual 120, 3)) ∧ (decode cX6_takeNamed 27 = .ok (.ireturn, 1)) ∧ (decode cX6_takeNamed 8 = .ok (.aload_n 0, 1)) ∧ (decode cX6_takeNamed 9 = .ok (.iconst 1, 1)) ∧ (decode cX6_takeNamed 10 = .ok (.invokevirtual 52, 3)) ∧ (decode cX6_takeNamed 13 = .ok (.pop, 1)) ∧ (decode cX6_takeNamed 14 = .ok (.iconst (-1), 1)) ∧ (decode cX6_takeNamed 15 = .ok (.ireturn, 1)) := by decide +kernel
theorem dX6_takeNamed_0 : decode cX6_takeNamed 0 = .ok (.aload_n 0, 1) := db618.1
theorem dX6_takeNamed_1 : decode cX6_takeNamed 1 = .ok (.aload_n 1, 1) := db618.2.1
theorem dX6_takeNamed_2 : decode cX6_takeNamed 2 = .ok (.invokevirtual 48, 3) := db618.2.2.1
theorem dX6_takeNamed_5 : decode cX6_takeNamed 5 = .ok (.ifCond .ne 11, 3) := db618.2.2.2.1
theorem dX6_takeNamed_16 : decode cX6_takeNamed 16 = .ok (.aload_n 0, 1) := db618.2.2.2.2.1
theorem dX6_takeNamed_17 : decode cX6_takeNamed 17 = .ok (.invokevirtual 33, 3) := db618.2.2.2.2.2.1
theorem dX6_takeNamed_20 : decode cX6_takeNamed 20 = .ok (.aload_n 0, 1) := db618.2.2.2.2.2.2.1
theorem dX6_takeNamed_21 : decode cX6_takeNamed 21 = .ok (.iload_n 2, 1) := db618.2.2.2.2.2.2.2.1
theorem dX6_takeNamed_22 : decode cX6_takeNamed 22 = .ok (.iload_n 3, 1) := db618.2.2.2.2.2.2.2.2.1
theorem dX6_takeNamed_23 : decode cX6_takeNamed 23 = .ok (.iconst (-1), 1) := db618.2.2.2.2.2.2.2.2.2.1
theorem dX6_takeNamed_24 : decode cX6_takeNamed 24 = .ok (.invokevirtual 120, 3) := db618.2.2.2.2.2.2.2.2.2.2.1
theorem dX6_takeNamed_27 : decode cX6_takeNamed 27 = .ok (.ireturn, 1) := db618.2.2.2.2.2.2.2.2.2.2.2.1
theorem dX6_takeNamed_8 : decode cX6_takeNamed 8 = .ok (.aload_n 0, 1) := db618.2.2.2.2.2.2.2.2.2.2.2.2.1
theorem dX6_takeNamed_9 : decode cX6_takeNamed 9 = .ok (.iconst 1, 1) := db618.2.2.2.2.2.2.2.2.2.2.2.2.2.1
theorem dX6_takeNamed_10 : decode cX6_takeNamed 10 = .ok (.invokevirtual 52, 3) := db618.2.2.2.2.2.2.2.2.2.2.2.2.2.2.1
theorem dX6_takeNamed_13 : decode cX6_takeNamed 13 = .ok (.pop, 1) := db618.2.2.2.2.2.2.2.2.2.2.2.2.2.2.2.1
theorem dX6_takeNamed_14 : decode cX6_takeNamed 14 = .ok (.iconst (-1), 1) := db618.2.2.2.2.2.2.2.2.2.2.2.2.2.2.2.2.1
theorem dX6_takeNamed_15 : decode cX6_takeNamed 15 = .ok (.ireturn, 1) := db618.2.2.2.2.2.2.2.2.2.2.2.2.2.2.2.2.2
theorem db619 : (decode cX6_takeNumber 0 = .ok (.aload_n 0, 1)) ∧ (decode cX6_takeNumber 1 = .ok (.getfield 36, 3)) ∧ (decode cX6_takeNumber 4 = .ok (.iconst 2, 1)) ∧ (decode cX6_takeNumber 5 = .ok (.if_icmp .eq 11, 3)) ∧ (decode cX6_takeNumber 16 = .ok (.aload_n 0, 1)) ∧ (decode cX6_takeNumber 17 = .ok (.getfield 147, 3)) ∧ (decode cX6_takeNumber 20 = .ok (.iload_n 1, 1)) ∧ (decode cX6_takeNumber 21 = .ok (.if_icmp .lt 19, 3)) ∧ (decode cX6_takeNumber 40 = .ok (.aload_n 0, 1)) ∧ (decode cX6_takeNumber 41 = .ok (.iconst 2, 1)) ∧ (decode cX6_takeNumber 42 = .ok (.invokevirtual 52, 3)) ∧ (decode cX6_takeNumber 45 = .ok (.pop, 1)) ∧ (decode cX6_takeNumber 46 = .ok (.iconst (-1), 1)) ∧ (decode cX6_takeNumber 47 = .ok (.ireturn, 1)) ∧ (decode cX6_takeNumber 24 = .ok (.aload_n 0, 1)) ∧ (decode cX6_takeNumber 25 = .ok (.getfield 147, 3)) ∧ (decode cX6_takeNumber 28 = .ok (.iload_n 2, 1)) ∧ (decode cX6_takeNumber 29 = .ok (.if_icmp .gt 11, 3)) ∧ (decode cX6_takeNumber 32 = .ok (.aload_n 0, 1)) ∧ (decode cX6_takeNumber 33 = .ok (.getfield 147, 3)) ∧ (decode cX6_takeNumber 36 = .ok (.iload_n 3, 1)) ∧ (decode cX6_takeNumber 37 = .ok (.if_icmp .ne 11, 3)) ∧ (decode cX6_takeNumber 48 = .ok (.aload_n 0, 1)) ∧ (decode cX6_takeNumber 49 = .ok (.getfield 147, 3)) := by decide +kernel
theorem dX6_takeNumber_0 : decode cX6_takeNumber 0 = .ok (.aload_n 0, 1) := db619.1
theorem dX6_takeNumber_1 : decode cX6_takeNumber 1 = .ok (.getfield 36, 3) := db619.2.1
theorem dX6_takeNumber_4 : decode cX6_takeNumber 4 = .ok (.iconst 2, 1) := db619.2.2.1
theorem dX6_takeNumber_5 : decode cX6_takeNumber 5 = .ok (.if_icmp .eq 11, 3) := db619.2.2.2.1
theorem dX6_takeNumber_16 : decode cX6_takeNumber 16 = .ok (.aload_n 0, 1) := db619.2.2.2.2.1
theorem dX6_takeNumber_17 : decode cX6_takeNumber 17 = .ok (.getfield 147, 3) := db619.2.2.2.2.2.1
theorem dX6_takeNumber_20 : decode cX6_takeNumber 20 = .ok (.iload_n 1, 1) := db619.2.2.2.2.2.2.1
theorem dX6_takeNumber_21 : decode cX6_takeNumber 21 = .ok (.if_icmp .lt 19, 3) := db619.2.2.2.2.2.2.2.1
theorem dX6_takeNumber_40 : decode cX6_takeNumber 40 = .ok (.aload_n 0, 1) := db619.2.2.2.2.2.2.2.2.1
theorem dX6_takeNumber_41 : decode cX6_takeNumber 41 = .ok (.iconst 2, 1) := db619.2.2.2.2.2.2.2.2.2.1
theorem dX6_takeNumber_42 : decode cX6_takeNumber 42 = .ok (.invokevirtual 52, 3) := db619.2.2.2.2.2.2.2.2.2.2.1
theorem dX6_takeNumber_45 : decode cX6_takeNumber 45 = .ok (.pop, 1) := db619.2.2.2.2.2.2.2.2.2.2.2.1
theorem dX6_takeNumber_46 : decode cX6_takeNumber 46 = .ok (.iconst (-1), 1) := db619.2.2.2.2.2.2.2.2.2.2.2.2.1
theorem dX6_takeNumber_47 : decode cX6_takeNumber 47 = .ok (.ireturn, 1) := db619.2.2.2.2.2.2.2.2.2.2.2.2.2.1
theorem dX6_takeNumber_24 : decode cX6_takeNumber 24 = .ok (.aload_n 0, 1) := db619.2.2.2.2.2.2.2.2.2.2.2.2.2.2.1
theorem dX6_takeNumber_25 : decode cX6_takeNumber 25 = .ok (.getfield 147, 3) := db619.2.2.2.2.2.2.2.2.2.2.2.2.2.2.2.1
theorem dX6_takeNumber_28 : decode cX6_takeNumber 28 = .ok (.iload_n 2, 1) := db619.2.2.2.2.2.2.2.2.2.2.2.2.2.2.2.2.1
theorem dX6_takeNumber_29 : decode cX6_takeNumber 29 = .ok (.if_icmp .gt 11, 3) := db619.2.2.2.2.2.2.2.2.2.2.2.2.2.2.2.2.2.1
theorem dX6_takeNumber_32 : decode cX6_takeNumber 32 = .ok (.aload_n 0, 1) := db619.2.2.2.2.2.2.2.2.2.2.2.2.2.2.2.2.2.2.1
theorem dX6_takeNumber_33 : decode cX6_takeNumber 33 = .ok (.getfield 147, 3) := db619.2.2.2.2.2.2.2.2.2.2.2.2.2.2.2.2.2.2.2.1
theorem dX6_takeNumber_36 : decode cX6_takeNumber 36 = .ok (.iload_n 3, 1) := db619.2.2.2.2.2.2.2.2.2.2.2.2.2.2.2.2.2.2.2.2.1
theorem dX6_takeNumber_37 : decode cX6_takeNumber 37 = .ok (.if_icmp .ne 11, 3) := db619.2.2.2.2.2.2.2.2.2.2.2.2.2.2.2.2.2.2.2.2.2.1
theorem dX6_takeNumber_48 : decode cX6_takeNumber 48 = .ok (.aload_n 0, 1) := db619.2.2.2.2.2.2.2.2.2.2.2.2.2.2.2.2.2.2.2.2.2.2.1
theorem dX6_takeNumber_49 : decode cX6_takeNumber 49 = .ok (.getfield 147, 3) := db619.2.2.2.2.2.2.2.2.2.2.2.2.2.2.2.2.2.2.2.2.2.2.2
theorem db620 : (decode cX6_takeNumber 52 = .ok (.istore 4, 2)) ∧ (decode cX6_takeNumber 54 = .ok (.aload_n 0, 1)) ∧ (decode cX6_takeNumber 55 = .ok (.invokevirtual 33, 3)) ∧ (decode cX6_takeNumber 58 = .ok (.iload 4, 2)) ∧ (decode cX6_takeNumber 60 = .ok (.ireturn, 1)) ∧ (decode cX6_takeNumber 8 = .ok (.aload_n 0, 1)) ∧ (decode cX6_takeNumber 9 = .ok (.iconst 1, 1)) ∧ (decode cX6_takeNumber 10 = .ok (.invokevirtual 52, 3)) ∧ (decode cX6_takeNumber 13 = .ok (.pop, 1)) ∧ (decode cX6_takeNumber 14 = .ok (.iconst (-1), 1)) ∧ (decode cX6_takeNumber 15 = .ok (.ireturn, 1)) := by decide +kernel
theorem dX6_takeNumber_52 : decode cX6_takeNumber 52 = .ok (.istore 4, 2) := db620.1
theorem dX6_takeNumber_54 : decode cX6_takeNumber 54 = .ok (.aload_n 0, 1) := db620.2.1
theorem dX6_takeNumber_55 : decode cX6_takeNumber 55 = .ok (.invokevirtual 33, 3) := db620.2.2.1
theorem dX6_takeNumber_58 : decode cX6_takeNumber 58 = .ok (.iload 4, 2) := db620.2.2.2.1
theorem dX6_takeNumber_60 : decode cX6_takeNumber 60 = .ok (.ireturn, 1) := db620.2.2.2.2.1
theorem dX6_takeNumber_8 : decode cX6_takeNumber 8 = .ok (.aload_n 0, 1) := db620.2.2.2.2.2.1
theorem dX6_takeNumber_9 : decode cX6_takeNumber 9 = .ok (.iconst 1, 1) := db620.2.2.2.2.2.2.1
theorem dX6_takeNumber_10 : decode cX6_takeNumber 10 = .ok (.invokevirtual 52, 3) := db620.2.2.2.2.2.2.2.1
theorem dX6_takeNumber_13 : decode cX6_takeNumber 13 = .ok (.pop, 1) := db620.2.2.2.2.2.2.2.2.1
theorem dX6_takeNumber_14 : decode cX6_takeNumber 14 = .ok (.iconst (-1), 1) := db620.2.2.2.2.2.2.2.2.2.1
theorem dX6_takeNumber_15 : decode cX6_takeNumber 15 = .ok (.ireturn, 1) := db620.2.2.2.2.2.2.2.2.2.2
theorem db621 : (decode cX6_takeQuestions 0 = .ok (.iconst 0, 1)) ∧ (decode cX6_takeQuestions 1 = .ok (.istore_n 1, 1)) ∧ (decode cX6_takeQuestions 2 = .ok (.iconst 0, 1)) ∧ (decode cX6_takeQuestions 3 = .ok (.istore_n 2, 1)) ∧ (decode cX6_takeQuestions 4 = .ok (.iload_n 2, 1)) ∧ (decode cX6_takeQuestions 5 = .ok (.sipush 900, 3)) ∧ (decode cX6_takeQuestions 8 = .ok (.if_icmp .gt 42, 3)) ∧ (decode cX6_takeQuestions 50 = .ok (.iload_n 1, 1)) ∧ (decode cX6_takeQuestions 51 = .ok (.ireturn, 1)) ∧ (decode cX6_takeQuestions 11 = .ok (.iload_n 2, 1)) ∧ (decode cX6_takeQuestions 23 = .ok (.aload_n 0, 1)) ∧ (decode cX6_takeQuestions 24 = .ok (.iconst 0, 1)) ∧ (decode cX6_takeQuestions 25 = .ok (.iconst 5, 1)) ∧ (decode cX6_takeQuestions 26 = .ok (.iconst (-1), 1)) ∧ (decode cX6_takeQuestions 27 = .ok (.invokevirtual 120, 3)) ∧ (decode cX6_takeQuestions 30 = .ok (.istore_n 3, 1)) ∧ (decode cX6_takeQuestions 31 = .ok (.iload_n 3, 1)) ∧ (decode cX6_takeQuestions 32 = .ok (.iconst (-1), 1)) ∧ (decode cX6_takeQuestions 33 = .ok (.if_icmp .ne 5, 3)) ∧ (decode cX6_takeQuestions 38 = .ok (.iload_n 1, 1)) ∧ (decode cX6_takeQuestions 39 = .ok (.iconst 1, 1)) ∧ (decode cX6_takeQuestions 40 = .ok (.iload_n 3, 1)) ∧ (decode cX6_takeQuestions 41 = .ok (.ishl, 1)) ∧ (decode cX6_takeQuestions 42 = .ok (.ior, 1)) := by decide +kernel
theorem dX6_takeQuestions_0 : decode cX6_takeQuestions 0 = .ok (.iconst 0, 1) := db621.1
theorem dX6_takeQuestions_1 : decode cX6_takeQuestions 1 = .ok (.istore_n 1, 1) := db621.2.1
theorem dX6_takeQuestions_2 : decode cX6_takeQuestions 2 = .ok (.iconst 0, 1) := db621.2.2.1
theorem dX6_takeQuestions_3 : decode cX6_takeQuestions 3 = .ok (.istore_n 2, 1) := db621.2.2.2.1
theorem dX6_takeQuestions_4 : decode cX6_takeQuestions 4 = .ok (.iload_n 2, 1) := db621.2.2.2.2.1
theorem dX6_takeQuestions_5 : decode cX6_takeQuestions 5 = .ok (.sipush 900, 3) := db621.2.2.2.2.2.1
theorem dX6_takeQuestions_8 : decode cX6_takeQuestions 8 = .ok (.if_icmp .gt 42, 3) := db621.2.2.2.2.2.2.1
theorem dX6_takeQuestions_50 : decode cX6_takeQuestions 50 = .ok (.iload_n 1, 1) := db621.2.2.2.2.2.2.2.1
theorem dX6_takeQuestions_51 : decode cX6_takeQuestions 51 = .ok (.ireturn, 1) := db621.2.2.2.2.2.2.2.2.1
theorem dX6_takeQuestions_11 : decode cX6_takeQuestions 11 = .ok (.iload_n 2, 1) := db621.2.2.2.2.2.2.2.2.2.1
theorem dX6_takeQuestions_23 : decode cX6_takeQuestions 23 = .ok (.aload_n 0, 1) := db621.2.2.2.2.2.2.2.2.2.2.1
theorem dX6_takeQuestions_24 : decode cX6_takeQuestions 24 = .ok (.iconst 0, 1) := db621.2.2.2.2.2.2.2.2.2.2.2.1
theorem dX6_takeQuestions_25 : decode cX6_takeQuestions 25 = .ok (.iconst 5, 1) := db621.2.2.2.2.2.2.2.2.2.2.2.2.1
theorem dX6_takeQuestions_26 : decode cX6_takeQuestions 26 = .ok (.iconst (-1), 1) := db621.2.2.2.2.2.2.2.2.2.2.2.2.2.1
theorem dX6_takeQuestions_27 : decode cX6_takeQuestions 27 = .ok (.invokevirtual 120, 3) := db621.2.2.2.2.2.2.2.2.2.2.2.2.2.2.1
theorem dX6_takeQuestions_30 : decode cX6_takeQuestions 30 = .ok (.istore_n 3, 1) := db621.2.2.2.2.2.2.2.2.2.2.2.2.2.2.2.1
theorem dX6_takeQuestions_31 : decode cX6_takeQuestions 31 = .ok (.iload_n 3, 1) := db621.2.2.2.2.2.2.2.2.2.2.2.2.2.2.2.2.1
theorem dX6_takeQuestions_32 : decode cX6_takeQuestions 32 = .ok (.iconst (-1), 1) := db621.2.2.2.2.2.2.2.2.2.2.2.2.2.2.2.2.2.1
theorem dX6_takeQuestions_33 : decode cX6_takeQuestions 33 = .ok (.if_icmp .ne 5, 3) := db621.2.2.2.2.2.2.2.2.2.2.2.2.2.2.2.2.2.2.1
theorem dX6_takeQuestions_38 : decode cX6_takeQuestions 38 = .ok (.iload_n 1, 1) := db621.2.2.2.2.2.2.2.2.2.2.2.2.2.2.2.2.2.2.2.1
theorem dX6_takeQuestions_39 : decode cX6_takeQuestions 39 = .ok (.iconst 1, 1) := db621.2.2.2.2.2.2.2.2.2.2.2.2.2.2.2.2.2.2.2.2.1
theorem dX6_takeQuestions_40 : decode cX6_takeQuestions 40 = .ok (.iload_n 3, 1) := db621.2.2.2.2.2.2.2.2.2.2.2.2.2.2.2.2.2.2.2.2.2.1
theorem dX6_takeQuestions_41 : decode cX6_takeQuestions 41 = .ok (.ishl, 1) := db621.2.2.2.2.2.2.2.2.2.2.2.2.2.2.2.2.2.2.2.2.2.2.1
theorem dX6_takeQuestions_42 : decode cX6_takeQuestions 42 = .ok (.ior, 1) := db621.2.2.2.2.2.2.2.2.2.2.2.2.2.2.2.2.2.2.2.2.2.2.2
theorem db622 : (decode cX6_takeQuestions 43 = .ok (.istore_n 1, 1)) ∧ (decode cX6_takeQuestions 44 = .ok (.iinc 2 1, 3)) ∧ (decode cX6_takeQuestions 47 = .ok (.goto (-43), 3)) ∧ (decode cX6_takeQuestions 36 = .ok (.iconst 0, 1)) ∧ (decode cX6_takeQuestions 37 = .ok (.ireturn, 1)) ∧ (decode cX6_takeQuestions 12 = .ok (.ifCond .eq 11, 3)) ∧ (decode cX6_takeQuestions 15 = .ok (.aload_n 0, 1)) ∧ (decode cX6_takeQuestions 16 = .ok (.getfield 36, 3)) ∧ (decode cX6_takeQuestions 19 = .ok (.iconst 2, 1)) ∧ (decode cX6_takeQuestions 20 = .ok (.if_icmp .ne 30, 3)) := by decide +kernel
theorem dX6_takeQuestions_43 : decode cX6_takeQuestions 43 = .ok (.istore_n 1, 1) := db622.1
theorem dX6_takeQuestions_44 : decode cX6_takeQuestions 44 = .ok (.iinc 2 1, 3) := db622.2.1
theorem dX6_takeQuestions_47 : decode cX6_takeQuestions 47 = .ok (.goto (-43), 3) := db622.2.2.1
theorem dX6_takeQuestions_36 : decode cX6_takeQuestions 36 = .ok (.iconst 0, 1) := db622.2.2.2.1
theorem dX6_takeQuestions_37 : decode cX6_takeQuestions 37 = .ok (.ireturn, 1) := db622.2.2.2.2.1
theorem dX6_takeQuestions_12 : decode cX6_takeQuestions 12 = .ok (.ifCond .eq 11, 3) := db622.2.2.2.2.2.1
theorem dX6_takeQuestions_15 : decode cX6_takeQuestions 15 = .ok (.aload_n 0, 1) := db622.2.2.2.2.2.2.1
theorem dX6_takeQuestions_16 : decode cX6_takeQuestions 16 = .ok (.getfield 36, 3) := db622.2.2.2.2.2.2.2.1
theorem dX6_takeQuestions_19 : decode cX6_takeQuestions 19 = .ok (.iconst 2, 1) := db622.2.2.2.2.2.2.2.2.1
theorem dX6_takeQuestions_20 : decode cX6_takeQuestions 20 = .ok (.if_icmp .ne 30, 3) := db622.2.2.2.2.2.2.2.2.2
theorem db623 : (decode cX6_takeSign 0 = .ok (.aload_n 0, 1)) ∧ (decode cX6_takeSign 1 = .ok (.getfield 36, 3)) ∧ (decode cX6_takeSign 4 = .ok (.iconst 3, 1)) ∧ (decode cX6_takeSign 5 = .ok (.if_icmp .eq 9, 3)) ∧ (decode cX6_takeSign 14 = .ok (.aload_n 0, 1)) ∧ (decode cX6_takeSign 15 = .ok (.invokevirtual 33, 3)) ∧ (decode cX6_takeSign 18 = .ok (.iconst 1, 1)) ∧ (decode cX6_takeSign 19 = .ok (.ireturn, 1)) ∧ (decode cX6_takeSign 8 = .ok (.aload_n 0, 1)) ∧ (decode cX6_takeSign 9 = .ok (.iconst 1, 1)) ∧ (decode cX6_takeSign 10 = .ok (.invokevirtual 52, 3)) ∧ (decode cX6_takeSign 13 = .ok (.ireturn, 1)) := by decide +kernel
theorem dX6_takeSign_0 : decode cX6_takeSign 0 = .ok (.aload_n 0, 1) := db623.1
theorem dX6_takeSign_1 : decode cX6_takeSign 1 = .ok (.getfield 36, 3) := db623.2.1
theorem dX6_takeSign_4 : decode cX6_takeSign 4 = .ok (.iconst 3, 1) := db623.2.2.1
theorem dX6_takeSign_5 : decode cX6_takeSign 5 = .ok (.if_icmp .eq 9, 3) := db623.2.2.2.1
theorem dX6_takeSign_14 : decode cX6_takeSign 14 = .ok (.aload_n 0, 1) := db623.2.2.2.2.1
theorem dX6_takeSign_15 : decode cX6_takeSign 15 = .ok (.invokevirtual 33, 3) := db623.2.2.2.2.2.1
theorem dX6_takeSign_18 : decode cX6_takeSign 18 = .ok (.iconst 1, 1) := db623.2.2.2.2.2.2.1
theorem dX6_takeSign_19 : decode cX6_takeSign 19 = .ok (.ireturn, 1) := db623.2.2.2.2.2.2.2.1
theorem dX6_takeSign_8 : decode cX6_takeSign 8 = .ok (.aload_n 0, 1) := db623.2.2.2.2.2.2.2.2.1
theorem dX6_takeSign_9 : decode cX6_takeSign 9 = .ok (.iconst 1, 1) := db623.2.2.2.2.2.2.2.2.2.1
theorem dX6_takeSign_10 : decode cX6_takeSign 10 = .ok (.invokevirtual 52, 3) := db623.2.2.2.2.2.2.2.2.2.2.1
theorem dX6_takeSign_13 : decode cX6_takeSign 13 = .ok (.ireturn, 1) := db623.2.2.2.2.2.2.2.2.2.2.2
theorem db624 : (decode cX7_callCount 0 = .ok (.iconst 0, 1)) ∧ (decode cX7_callCount 1 = .ok (.istore_n 1, 1)) ∧ (decode cX7_callCount 2 = .ok (.iconst 0, 1)) ∧ (decode cX7_callCount 3 = .ok (.istore_n 2, 1)) ∧ (decode cX7_callCount 4 = .ok (.iload_n 2, 1)) ∧ (decode cX7_callCount 5 = .ok (.aload_n 0, 1)) ∧ (decode cX7_callCount 6 = .ok (.getfield 23, 3)) ∧ (decode cX7_callCount 9 = .ok (.if_icmp .ge 25, 3)) ∧ (decode cX7_callCount 34 = .ok (.iload_n 1, 1)) ∧ (decode cX7_callCount 35 = .ok (.ireturn, 1)) ∧ (decode cX7_callCount 12 = .ok (.aload_n 0, 1)) ∧ (decode cX7_callCount 13 = .ok (.getfield 9, 3)) ∧ (decode cX7_callCount 16 = .ok (.iload_n 2, 1)) ∧ (decode cX7_callCount 17 = .ok (.laload, 1)) ∧ (decode cX7_callCount 18 = .ok (.ldc2_w 32, 3)) ∧ (decode cX7_callCount 21 = .ok (.lcmp, 1)) ∧ (decode cX7_callCount 28 = .ok (.iinc 2 1, 3)) ∧ (decode cX7_callCount 31 = .ok (.goto (-27), 3)) ∧ (decode cX7_callCount 22 = .ok (.ifCond .eq 6, 3)) ∧ (decode cX7_callCount 25 = .ok (.iinc 1 1, 3)) := by decide +kernel
theorem dX7_callCount_0 : decode cX7_callCount 0 = .ok (.iconst 0, 1) := db624.1
theorem dX7_callCount_1 : decode cX7_callCount 1 = .ok (.istore_n 1, 1) := db624.2.1
theorem dX7_callCount_2 : decode cX7_callCount 2 = .ok (.iconst 0, 1) := db624.2.2.1
theorem dX7_callCount_3 : decode cX7_callCount 3 = .ok (.istore_n 2, 1) := db624.2.2.2.1
theorem dX7_callCount_4 : decode cX7_callCount 4 = .ok (.iload_n 2, 1) := db624.2.2.2.2.1
theorem dX7_callCount_5 : decode cX7_callCount 5 = .ok (.aload_n 0, 1) := db624.2.2.2.2.2.1
theorem dX7_callCount_6 : decode cX7_callCount 6 = .ok (.getfield 23, 3) := db624.2.2.2.2.2.2.1
theorem dX7_callCount_9 : decode cX7_callCount 9 = .ok (.if_icmp .ge 25, 3) := db624.2.2.2.2.2.2.2.1
theorem dX7_callCount_34 : decode cX7_callCount 34 = .ok (.iload_n 1, 1) := db624.2.2.2.2.2.2.2.2.1
theorem dX7_callCount_35 : decode cX7_callCount 35 = .ok (.ireturn, 1) := db624.2.2.2.2.2.2.2.2.2.1
theorem dX7_callCount_12 : decode cX7_callCount 12 = .ok (.aload_n 0, 1) := db624.2.2.2.2.2.2.2.2.2.2.1
theorem dX7_callCount_13 : decode cX7_callCount 13 = .ok (.getfield 9, 3) := db624.2.2.2.2.2.2.2.2.2.2.2.1
theorem dX7_callCount_16 : decode cX7_callCount 16 = .ok (.iload_n 2, 1) := db624.2.2.2.2.2.2.2.2.2.2.2.2.1
theorem dX7_callCount_17 : decode cX7_callCount 17 = .ok (.laload, 1) := db624.2.2.2.2.2.2.2.2.2.2.2.2.2.1
theorem dX7_callCount_18 : decode cX7_callCount 18 = .ok (.ldc2_w 32, 3) := db624.2.2.2.2.2.2.2.2.2.2.2.2.2.2.1
theorem dX7_callCount_21 : decode cX7_callCount 21 = .ok (.lcmp, 1) := db624.2.2.2.2.2.2.2.2.2.2.2.2.2.2.2.1
theorem dX7_callCount_28 : decode cX7_callCount 28 = .ok (.iinc 2 1, 3) := db624.2.2.2.2.2.2.2.2.2.2.2.2.2.2.2.2.1
theorem dX7_callCount_31 : decode cX7_callCount 31 = .ok (.goto (-27), 3) := db624.2.2.2.2.2.2.2.2.2.2.2.2.2.2.2.2.2.1
theorem dX7_callCount_22 : decode cX7_callCount 22 = .ok (.ifCond .eq 6, 3) := db624.2.2.2.2.2.2.2.2.2.2.2.2.2.2.2.2.2.2.1
theorem dX7_callCount_25 : decode cX7_callCount 25 = .ok (.iinc 1 1, 3) := db624.2.2.2.2.2.2.2.2.2.2.2.2.2.2.2.2.2.2.2
theorem db625 : (decode cX7_comesAgain 0 = .ok (.iconst 0, 1)) ∧ (decode cX7_comesAgain 1 = .ok (.istore_n 2, 1)) ∧ (decode cX7_comesAgain 2 = .ok (.iload_n 1, 1)) ∧ (decode cX7_comesAgain 3 = .ok (.ifCond .lt 39, 3)) ∧ (decode cX7_comesAgain 6 = .ok (.iload_n 2, 1)) ∧ (decode cX7_comesAgain 7 = .ok (.iload_n 1, 1)) ∧ (decode cX7_comesAgain 8 = .ok (.iadd, 1)) ∧ (decode cX7_comesAgain 9 = .ok (.aload_n 0, 1)) ∧ (decode cX7_comesAgain 10 = .ok (.getfield 23, 3)) ∧ (decode cX7_comesAgain 13 = .ok (.if_icmp .ge 29, 3)) ∧ (decode cX7_comesAgain 42 = .ok (.iconst 1, 1)) ∧ (decode cX7_comesAgain 43 = .ok (.ireturn, 1)) ∧ (decode cX7_comesAgain 16 = .ok (.aload_n 0, 1)) ∧ (decode cX7_comesAgain 17 = .ok (.getfield 9, 3)) ∧ (decode cX7_comesAgain 20 = .ok (.iload_n 2, 1)) ∧ (decode cX7_comesAgain 21 = .ok (.laload, 1)) ∧ (decode cX7_comesAgain 22 = .ok (.aload_n 0, 1)) ∧ (decode cX7_comesAgain 23 = .ok (.getfield 9, 3)) ∧ (decode cX7_comesAgain 26 = .ok (.iload_n 2, 1)) ∧ (decode cX7_comesAgain 27 = .ok (.iload_n 1, 1)) ∧ (decode cX7_comesAgain 28 = .ok (.iadd, 1)) ∧ (decode cX7_comesAgain 29 = .ok (.laload, 1)) ∧ (decode cX7_comesAgain 30 = .ok (.lcmp, 1)) ∧ (decode cX7_comesAgain 31 = .ok (.ifCond .eq 5, 3)) := by decide +kernel
theorem dX7_comesAgain_0 : decode cX7_comesAgain 0 = .ok (.iconst 0, 1) := db625.1
theorem dX7_comesAgain_1 : decode cX7_comesAgain 1 = .ok (.istore_n 2, 1) := db625.2.1
theorem dX7_comesAgain_2 : decode cX7_comesAgain 2 = .ok (.iload_n 1, 1) := db625.2.2.1
theorem dX7_comesAgain_3 : decode cX7_comesAgain 3 = .ok (.ifCond .lt 39, 3) := db625.2.2.2.1
theorem dX7_comesAgain_6 : decode cX7_comesAgain 6 = .ok (.iload_n 2, 1) := db625.2.2.2.2.1
theorem dX7_comesAgain_7 : decode cX7_comesAgain 7 = .ok (.iload_n 1, 1) := db625.2.2.2.2.2.1
theorem dX7_comesAgain_8 : decode cX7_comesAgain 8 = .ok (.iadd, 1) := db625.2.2.2.2.2.2.1
theorem dX7_comesAgain_9 : decode cX7_comesAgain 9 = .ok (.aload_n 0, 1) := db625.2.2.2.2.2.2.2.1
theorem dX7_comesAgain_10 : decode cX7_comesAgain 10 = .ok (.getfield 23, 3) := db625.2.2.2.2.2.2.2.2.1
theorem dX7_comesAgain_13 : decode cX7_comesAgain 13 = .ok (.if_icmp .ge 29, 3) := db625.2.2.2.2.2.2.2.2.2.1
theorem dX7_comesAgain_42 : decode cX7_comesAgain 42 = .ok (.iconst 1, 1) := db625.2.2.2.2.2.2.2.2.2.2.1
theorem dX7_comesAgain_43 : decode cX7_comesAgain 43 = .ok (.ireturn, 1) := db625.2.2.2.2.2.2.2.2.2.2.2.1
theorem dX7_comesAgain_16 : decode cX7_comesAgain 16 = .ok (.aload_n 0, 1) := db625.2.2.2.2.2.2.2.2.2.2.2.2.1
theorem dX7_comesAgain_17 : decode cX7_comesAgain 17 = .ok (.getfield 9, 3) := db625.2.2.2.2.2.2.2.2.2.2.2.2.2.1
theorem dX7_comesAgain_20 : decode cX7_comesAgain 20 = .ok (.iload_n 2, 1) := db625.2.2.2.2.2.2.2.2.2.2.2.2.2.2.1
theorem dX7_comesAgain_21 : decode cX7_comesAgain 21 = .ok (.laload, 1) := db625.2.2.2.2.2.2.2.2.2.2.2.2.2.2.2.1
theorem dX7_comesAgain_22 : decode cX7_comesAgain 22 = .ok (.aload_n 0, 1) := db625.2.2.2.2.2.2.2.2.2.2.2.2.2.2.2.2.1
theorem dX7_comesAgain_23 : decode cX7_comesAgain 23 = .ok (.getfield 9, 3) := db625.2.2.2.2.2.2.2.2.2.2.2.2.2.2.2.2.2.1
theorem dX7_comesAgain_26 : decode cX7_comesAgain 26 = .ok (.iload_n 2, 1) := db625.2.2.2.2.2.2.2.2.2.2.2.2.2.2.2.2.2.2.1
theorem dX7_comesAgain_27 : decode cX7_comesAgain 27 = .ok (.iload_n 1, 1) := db625.2.2.2.2.2.2.2.2.2.2.2.2.2.2.2.2.2.2.2.1
theorem dX7_comesAgain_28 : decode cX7_comesAgain 28 = .ok (.iadd, 1) := db625.2.2.2.2.2.2.2.2.2.2.2.2.2.2.2.2.2.2.2.2.1
theorem dX7_comesAgain_29 : decode cX7_comesAgain 29 = .ok (.laload, 1) := db625.2.2.2.2.2.2.2.2.2.2.2.2.2.2.2.2.2.2.2.2.2.1
theorem dX7_comesAgain_30 : decode cX7_comesAgain 30 = .ok (.lcmp, 1) := db625.2.2.2.2.2.2.2.2.2.2.2.2.2.2.2.2.2.2.2.2.2.2.1
theorem dX7_comesAgain_31 : decode cX7_comesAgain 31 = .ok (.ifCond .eq 5, 3) := db625.2.2.2.2.2.2.2.2.2.2.2.2.2.2.2.2.2.2.2.2.2.2.2
theorem db626 : (decode cX7_comesAgain 36 = .ok (.iinc 2 1, 3)) ∧ (decode cX7_comesAgain 39 = .ok (.goto (-37), 3)) ∧ (decode cX7_comesAgain 34 = .ok (.iconst 0, 1)) ∧ (decode cX7_comesAgain 35 = .ok (.ireturn, 1)) := by decide +kernel
theorem dX7_comesAgain_36 : decode cX7_comesAgain 36 = .ok (.iinc 2 1, 3) := db626.1
theorem dX7_comesAgain_39 : decode cX7_comesAgain 39 = .ok (.goto (-37), 3) := db626.2.1
theorem dX7_comesAgain_34 : decode cX7_comesAgain 34 = .ok (.iconst 0, 1) := db626.2.2.1
theorem dX7_comesAgain_35 : decode cX7_comesAgain 35 = .ok (.ireturn, 1) := db626.2.2.2
theorem db627 : (decode cX7_countOf 0 = .ok (.iconst 0, 1)) ∧ (decode cX7_countOf 1 = .ok (.istore_n 3, 1)) ∧ (decode cX7_countOf 2 = .ok (.iconst 0, 1)) ∧ (decode cX7_countOf 3 = .ok (.istore 4, 2)) ∧ (decode cX7_countOf 5 = .ok (.iload 4, 2)) ∧ (decode cX7_countOf 7 = .ok (.aload_n 0, 1)) ∧ (decode cX7_countOf 8 = .ok (.getfield 23, 3)) ∧ (decode cX7_countOf 11 = .ok (.if_icmp .ge 50, 3)) ∧ (decode cX7_countOf 61 = .ok (.iload_n 3, 1)) ∧ (decode cX7_countOf 62 = .ok (.ireturn, 1)) ∧ (decode cX7_countOf 14 = .ok (.aload_n 0, 1)) ∧ (decode cX7_countOf 15 = .ok (.getfield 9, 3)) ∧ (decode cX7_countOf 18 = .ok (.iload 4, 2)) ∧ (decode cX7_countOf 20 = .ok (.laload, 1)) ∧ (decode cX7_countOf 21 = .ok (.iload_n 1, 1)) ∧ (decode cX7_countOf 22 = .ok (.i2l, 1)) ∧ (decode cX7_countOf 23 = .ok (.lcmp, 1)) ∧ (decode cX7_countOf 55 = .ok (.iinc 4 1, 3)) ∧ (decode cX7_countOf 58 = .ok (.goto (-53), 3)) ∧ (decode cX7_countOf 24 = .ok (.ifCond .ne 31, 3)) ∧ (decode cX7_countOf 27 = .ok (.iload_n 2, 1)) ∧ (decode cX7_countOf 28 = .ok (.iconst (-1), 1)) ∧ (decode cX7_countOf 52 = .ok (.iinc 3 1, 3)) ∧ (decode cX7_countOf 29 = .ok (.if_icmp .eq 23, 3)) := by decide +kernel
theorem dX7_countOf_0 : decode cX7_countOf 0 = .ok (.iconst 0, 1) := db627.1
theorem dX7_countOf_1 : decode cX7_countOf 1 = .ok (.istore_n 3, 1) := db627.2.1
theorem dX7_countOf_2 : decode cX7_countOf 2 = .ok (.iconst 0, 1) := db627.2.2.1
theorem dX7_countOf_3 : decode cX7_countOf 3 = .ok (.istore 4, 2) := db627.2.2.2.1
theorem dX7_countOf_5 : decode cX7_countOf 5 = .ok (.iload 4, 2) := db627.2.2.2.2.1
theorem dX7_countOf_7 : decode cX7_countOf 7 = .ok (.aload_n 0, 1) := db627.2.2.2.2.2.1
theorem dX7_countOf_8 : decode cX7_countOf 8 = .ok (.getfield 23, 3) := db627.2.2.2.2.2.2.1
theorem dX7_countOf_11 : decode cX7_countOf 11 = .ok (.if_icmp .ge 50, 3) := db627.2.2.2.2.2.2.2.1
theorem dX7_countOf_61 : decode cX7_countOf 61 = .ok (.iload_n 3, 1) := db627.2.2.2.2.2.2.2.2.1
theorem dX7_countOf_62 : decode cX7_countOf 62 = .ok (.ireturn, 1) := db627.2.2.2.2.2.2.2.2.2.1
theorem dX7_countOf_14 : decode cX7_countOf 14 = .ok (.aload_n 0, 1) := db627.2.2.2.2.2.2.2.2.2.2.1
theorem dX7_countOf_15 : decode cX7_countOf 15 = .ok (.getfield 9, 3) := db627.2.2.2.2.2.2.2.2.2.2.2.1
theorem dX7_countOf_18 : decode cX7_countOf 18 = .ok (.iload 4, 2) := db627.2.2.2.2.2.2.2.2.2.2.2.2.1
theorem dX7_countOf_20 : decode cX7_countOf 20 = .ok (.laload, 1) := db627.2.2.2.2.2.2.2.2.2.2.2.2.2.1
theorem dX7_countOf_21 : decode cX7_countOf 21 = .ok (.iload_n 1, 1) := db627.2.2.2.2.2.2.2.2.2.2.2.2.2.2.1
theorem dX7_countOf_22 : decode cX7_countOf 22 = .ok (.i2l, 1) := db627.2.2.2.2.2.2.2.2.2.2.2.2.2.2.2.1
theorem dX7_countOf_23 : decode cX7_countOf 23 = .ok (.lcmp, 1) := db627.2.2.2.2.2.2.2.2.2.2.2.2.2.2.2.2.1
theorem dX7_countOf_55 : decode cX7_countOf 55 = .ok (.iinc 4 1, 3) := db627.2.2.2.2.2.2.2.2.2.2.2.2.2.2.2.2.2.1
theorem dX7_countOf_58 : decode cX7_countOf 58 = .ok (.goto (-53), 3) := db627.2.2.2.2.2.2.2.2.2.2.2.2.2.2.2.2.2.2.1
theorem dX7_countOf_24 : decode cX7_countOf 24 = .ok (.ifCond .ne 31, 3) := db627.2.2.2.2.2.2.2.2.2.2.2.2.2.2.2.2.2.2.2.1
theorem dX7_countOf_27 : decode cX7_countOf 27 = .ok (.iload_n 2, 1) := db627.2.2.2.2.2.2.2.2.2.2.2.2.2.2.2.2.2.2.2.2.1
theorem dX7_countOf_28 : decode cX7_countOf 28 = .ok (.iconst (-1), 1) := db627.2.2.2.2.2.2.2.2.2.2.2.2.2.2.2.2.2.2.2.2.2.1
theorem dX7_countOf_52 : decode cX7_countOf 52 = .ok (.iinc 3 1, 3) := db627.2.2.2.2.2.2.2.2.2.2.2.2.2.2.2.2.2.2.2.2.2.2.1
theorem dX7_countOf_29 : decode cX7_countOf 29 = .ok (.if_icmp .eq 23, 3) := db627.2.2.2.2.2.2.2.2.2.2.2.2.2.2.2.2.2.2.2.2.2.2.2
theorem db628 : (decode cX7_countOf 32 = .ok (.iload 4, 2)) ∧ (decode cX7_countOf 34 = .ok (.ifCond .le 21, 3)) ∧ (decode cX7_countOf 37 = .ok (.aload_n 0, 1)) ∧ (decode cX7_countOf 38 = .ok (.getfield 9, 3)) ∧ (decode cX7_countOf 41 = .ok (.iload 4, 2)) ∧ (decode cX7_countOf 43 = .ok (.iconst 1, 1)) ∧ (decode cX7_countOf 44 = .ok (.isub, 1)) ∧ (decode cX7_countOf 45 = .ok (.laload, 1)) ∧ (decode cX7_countOf 46 = .ok (.iload_n 2, 1)) ∧ (decode cX7_countOf 47 = .ok (.i2l, 1)) ∧ (decode cX7_countOf 48 = .ok (.lcmp, 1)) ∧ (decode cX7_countOf 49 = .ok (.ifCond .ne 6, 3)) := by decide +kernel
theorem dX7_countOf_32 : decode cX7_countOf 32 = .ok (.iload 4, 2) := db628.1
theorem dX7_countOf_34 : decode cX7_countOf 34 = .ok (.ifCond .le 21, 3) := db628.2.1
theorem dX7_countOf_37 : decode cX7_countOf 37 = .ok (.aload_n 0, 1) := db628.2.2.1
theorem dX7_countOf_38 : decode cX7_countOf 38 = .ok (.getfield 9, 3) := db628.2.2.2.1
theorem dX7_countOf_41 : decode cX7_countOf 41 = .ok (.iload 4, 2) := db628.2.2.2.2.1
theorem dX7_countOf_43 : decode cX7_countOf 43 = .ok (.iconst 1, 1) := db628.2.2.2.2.2.1
theorem dX7_countOf_44 : decode cX7_countOf 44 = .ok (.isub, 1) := db628.2.2.2.2.2.2.1
theorem dX7_countOf_45 : decode cX7_countOf 45 = .ok (.laload, 1) := db628.2.2.2.2.2.2.2.1
theorem dX7_countOf_46 : decode cX7_countOf 46 = .ok (.iload_n 2, 1) := db628.2.2.2.2.2.2.2.2.1
theorem dX7_countOf_47 : decode cX7_countOf 47 = .ok (.i2l, 1) := db628.2.2.2.2.2.2.2.2.2.1
theorem dX7_countOf_48 : decode cX7_countOf 48 = .ok (.lcmp, 1) := db628.2.2.2.2.2.2.2.2.2.2.1
theorem dX7_countOf_49 : decode cX7_countOf 49 = .ok (.ifCond .ne 6, 3) := db628.2.2.2.2.2.2.2.2.2.2.2
theorem db629 : (decode cX7_cut 0 = .ok (.aload_n 0, 1)) ∧ (decode cX7_cut 1 = .ok (.getfield 19, 3)) ∧ (decode cX7_cut 4 = .ok (.tableswitch 42 0 2 #[28, 33, 38], 28)) ∧ (decode cX7_cut 46 = .ok (.lload_n 1, 1)) ∧ (decode cX7_cut 47 = .ok (.lreturn, 1)) ∧ (decode cX7_cut 32 = .ok (.lload_n 1, 1)) ∧ (decode cX7_cut 33 = .ok (.l2i, 1)) ∧ (decode cX7_cut 34 = .ok (.i2b, 1)) ∧ (decode cX7_cut 35 = .ok (.i2l, 1)) ∧ (decode cX7_cut 36 = .ok (.lreturn, 1)) ∧ (decode cX7_cut 37 = .ok (.lload_n 1, 1)) ∧ (decode cX7_cut 38 = .ok (.l2i, 1)) ∧ (decode cX7_cut 39 = .ok (.i2s, 1)) ∧ (decode cX7_cut 40 = .ok (.i2l, 1)) ∧ (decode cX7_cut 41 = .ok (.lreturn, 1)) ∧ (decode cX7_cut 42 = .ok (.lload_n 1, 1)) ∧ (decode cX7_cut 43 = .ok (.l2i, 1)) ∧ (decode cX7_cut 44 = .ok (.i2l, 1)) ∧ (decode cX7_cut 45 = .ok (.lreturn, 1)) := by decide +kernel
theorem dX7_cut_0 : decode cX7_cut 0 = .ok (.aload_n 0, 1) := db629.1
theorem dX7_cut_1 : decode cX7_cut 1 = .ok (.getfield 19, 3) := db629.2.1
theorem dX7_cut_4 : decode cX7_cut 4 = .ok (.tableswitch 42 0 2 #[28, 33, 38], 28) := db629.2.2.1
theorem dX7_cut_46 : decode cX7_cut 46 = .ok (.lload_n 1, 1) := db629.2.2.2.1
theorem dX7_cut_47 : decode cX7_cut 47 = .ok (.lreturn, 1) := db629.2.2.2.2.1
theorem dX7_cut_32 : decode cX7_cut 32 = .ok (.lload_n 1, 1) := db629.2.2.2.2.2.1
theorem dX7_cut_33 : decode cX7_cut 33 = .ok (.l2i, 1) := db629.2.2.2.2.2.2.1
theorem dX7_cut_34 : decode cX7_cut 34 = .ok (.i2b, 1) := db629.2.2.2.2.2.2.2.1
theorem dX7_cut_35 : decode cX7_cut 35 = .ok (.i2l, 1) := db629.2.2.2.2.2.2.2.2.1
theorem dX7_cut_36 : decode cX7_cut 36 = .ok (.lreturn, 1) := db629.2.2.2.2.2.2.2.2.2.1
theorem dX7_cut_37 : decode cX7_cut 37 = .ok (.lload_n 1, 1) := db629.2.2.2.2.2.2.2.2.2.2.1
theorem dX7_cut_38 : decode cX7_cut 38 = .ok (.l2i, 1) := db629.2.2.2.2.2.2.2.2.2.2.2.1
theorem dX7_cut_39 : decode cX7_cut 39 = .ok (.i2s, 1) := db629.2.2.2.2.2.2.2.2.2.2.2.2.1
theorem dX7_cut_40 : decode cX7_cut 40 = .ok (.i2l, 1) := db629.2.2.2.2.2.2.2.2.2.2.2.2.2.1
theorem dX7_cut_41 : decode cX7_cut 41 = .ok (.lreturn, 1) := db629.2.2.2.2.2.2.2.2.2.2.2.2.2.2.1
theorem dX7_cut_42 : decode cX7_cut 42 = .ok (.lload_n 1, 1) := db629.2.2.2.2.2.2.2.2.2.2.2.2.2.2.2.1
theorem dX7_cut_43 : decode cX7_cut 43 = .ok (.l2i, 1) := db629.2.2.2.2.2.2.2.2.2.2.2.2.2.2.2.2.1
theorem dX7_cut_44 : decode cX7_cut 44 = .ok (.i2l, 1) := db629.2.2.2.2.2.2.2.2.2.2.2.2.2.2.2.2.2.1
theorem dX7_cut_45 : decode cX7_cut 45 = .ok (.lreturn, 1) := db629.2.2.2.2.2.2.2.2.2.2.2.2.2.2.2.2.2.2
theorem db630 : (decode cX7_holds 0 = .ok (.iload_n 1, 1)) ∧ (decode cX7_holds 1 = .ok (.ifCond .lt 25, 3)) ∧ (decode cX7_holds 26 = .ok (.iconst 0, 1)) ∧ (decode cX7_holds 27 = .ok (.ireturn, 1)) ∧ (decode cX7_holds 4 = .ok (.iload_n 2, 1)) ∧ (decode cX7_holds 5 = .ok (.ifCond .lt 21, 3)) ∧ (decode cX7_holds 8 = .ok (.iload_n 1, 1)) ∧ (decode cX7_holds 9 = .ok (.i2l, 1)) ∧ (decode cX7_holds 10 = .ok (.iload_n 2, 1)) ∧ (decode cX7_holds 11 = .ok (.i2l, 1)) ∧ (decode cX7_holds 12 = .ok (.ladd, 1)) ∧ (decode cX7_holds 13 = .ok (.aload_n 0, 1)) ∧ (decode cX7_holds 14 = .ok (.getfield 23, 3)) ∧ (decode cX7_holds 17 = .ok (.i2l, 1)) ∧ (decode cX7_holds 18 = .ok (.lcmp, 1)) ∧ (decode cX7_holds 19 = .ok (.ifCond .gt 7, 3)) ∧ (decode cX7_holds 22 = .ok (.iconst 1, 1)) ∧ (decode cX7_holds 23 = .ok (.goto 4, 3)) := by decide +kernel
theorem dX7_holds_0 : decode cX7_holds 0 = .ok (.iload_n 1, 1) := db630.1
theorem dX7_holds_1 : decode cX7_holds 1 = .ok (.ifCond .lt 25, 3) := db630.2.1
theorem dX7_holds_26 : decode cX7_holds 26 = .ok (.iconst 0, 1) := db630.2.2.1
theorem dX7_holds_27 : decode cX7_holds 27 = .ok (.ireturn, 1) := db630.2.2.2.1
theorem dX7_holds_4 : decode cX7_holds 4 = .ok (.iload_n 2, 1) := db630.2.2.2.2.1
theorem dX7_holds_5 : decode cX7_holds 5 = .ok (.ifCond .lt 21, 3) := db630.2.2.2.2.2.1
theorem dX7_holds_8 : decode cX7_holds 8 = .ok (.iload_n 1, 1) := db630.2.2.2.2.2.2.1
theorem dX7_holds_9 : decode cX7_holds 9 = .ok (.i2l, 1) := db630.2.2.2.2.2.2.2.1
theorem dX7_holds_10 : decode cX7_holds 10 = .ok (.iload_n 2, 1) := db630.2.2.2.2.2.2.2.2.1
theorem dX7_holds_11 : decode cX7_holds 11 = .ok (.i2l, 1) := db630.2.2.2.2.2.2.2.2.2.1
theorem dX7_holds_12 : decode cX7_holds 12 = .ok (.ladd, 1) := db630.2.2.2.2.2.2.2.2.2.2.1
theorem dX7_holds_13 : decode cX7_holds 13 = .ok (.aload_n 0, 1) := db630.2.2.2.2.2.2.2.2.2.2.2.1
theorem dX7_holds_14 : decode cX7_holds 14 = .ok (.getfield 23, 3) := db630.2.2.2.2.2.2.2.2.2.2.2.2.1
theorem dX7_holds_17 : decode cX7_holds 17 = .ok (.i2l, 1) := db630.2.2.2.2.2.2.2.2.2.2.2.2.2.1
theorem dX7_holds_18 : decode cX7_holds 18 = .ok (.lcmp, 1) := db630.2.2.2.2.2.2.2.2.2.2.2.2.2.2.1
theorem dX7_holds_19 : decode cX7_holds 19 = .ok (.ifCond .gt 7, 3) := db630.2.2.2.2.2.2.2.2.2.2.2.2.2.2.2.1
theorem dX7_holds_22 : decode cX7_holds 22 = .ok (.iconst 1, 1) := db630.2.2.2.2.2.2.2.2.2.2.2.2.2.2.2.2.1
theorem dX7_holds_23 : decode cX7_holds 23 = .ok (.goto 4, 3) := db630.2.2.2.2.2.2.2.2.2.2.2.2.2.2.2.2.2
theorem db631 : (decode cX7_init 0 = .ok (.aload_n 0, 1)) ∧ (decode cX7_init 1 = .ok (.invokespecial 3, 3)) ∧ (decode cX7_init 4 = .ok (.aload_n 0, 1)) ∧ (decode cX7_init 5 = .ok (.bipush 60, 2)) ∧ (decode cX7_init 7 = .ok (.newarray .long, 2)) ∧ (decode cX7_init 9 = .ok (.putfield 9, 3)) ∧ (decode cX7_init 12 = .ok (.return_, 1)) := by decide +kernel
theorem dX7_init_0 : decode cX7_init 0 = .ok (.aload_n 0, 1) := db631.1
theorem dX7_init_1 : decode cX7_init 1 = .ok (.invokespecial 3, 3) := db631.2.1
theorem dX7_init_4 : decode cX7_init 4 = .ok (.aload_n 0, 1) := db631.2.2.1
theorem dX7_init_5 : decode cX7_init 5 = .ok (.bipush 60, 2) := db631.2.2.2.1
theorem dX7_init_7 : decode cX7_init 7 = .ok (.newarray .long, 2) := db631.2.2.2.2.1
theorem dX7_init_9 : decode cX7_init 9 = .ok (.putfield 9, 3) := db631.2.2.2.2.2.1
theorem dX7_init_12 : decode cX7_init 12 = .ok (.return_, 1) := db631.2.2.2.2.2.2
theorem db632 : (decode cX7_isWithin 0 = .ok (.iconst 0, 1)) ∧ (decode cX7_isWithin 1 = .ok (.istore_n 3, 1)) ∧ (decode cX7_isWithin 2 = .ok (.iload_n 3, 1)) ∧ (decode cX7_isWithin 3 = .ok (.aload_n 0, 1)) ∧ (decode cX7_isWithin 4 = .ok (.getfield 23, 3)) ∧ (decode cX7_isWithin 7 = .ok (.if_icmp .ge 35, 3)) ∧ (decode cX7_isWithin 42 = .ok (.iconst 1, 1)) ∧ (decode cX7_isWithin 43 = .ok (.ireturn, 1)) ∧ (decode cX7_isWithin 10 = .ok (.aload_n 0, 1)) ∧ (decode cX7_isWithin 11 = .ok (.getfield 9, 3)) ∧ (decode cX7_isWithin 14 = .ok (.iload_n 3, 1)) ∧ (decode cX7_isWithin 15 = .ok (.laload, 1)) ∧ (decode cX7_isWithin 16 = .ok (.iload_n 1, 1)) ∧ (decode cX7_isWithin 17 = .ok (.i2l, 1)) ∧ (decode cX7_isWithin 18 = .ok (.lcmp, 1)) ∧ (decode cX7_isWithin 19 = .ok (.ifCond .lt 15, 3)) ∧ (decode cX7_isWithin 34 = .ok (.iconst 0, 1)) ∧ (decode cX7_isWithin 35 = .ok (.ireturn, 1)) ∧ (decode cX7_isWithin 22 = .ok (.aload_n 0, 1)) ∧ (decode cX7_isWithin 23 = .ok (.getfield 9, 3)) ∧ (decode cX7_isWithin 26 = .ok (.iload_n 3, 1)) ∧ (decode cX7_isWithin 27 = .ok (.laload, 1)) ∧ (decode cX7_isWithin 28 = .ok (.iload_n 2, 1)) ∧ (decode cX7_isWithin 29 = .ok (.i2l, 1)) := by decide +kernel
theorem dX7_isWithin_0 : decode cX7_isWithin 0 = .ok (.iconst 0, 1) := db632.1
theorem dX7_isWithin_1 : decode cX7_isWithin 1 = .ok (.istore_n 3, 1) := db632.2.1
theorem dX7_isWithin_2 : decode cX7_isWithin 2 = .ok (.iload_n 3, 1) := db632.2.2.1
theorem dX7_isWithin_3 : decode cX7_isWithin 3 = .ok (.aload_n 0, 1) := db632.2.2.2.1
theorem dX7_isWithin_4 : decode cX7_isWithin 4 = .ok (.getfield 23, 3) := db632.2.2.2.2.1
theorem dX7_isWithin_7 : decode cX7_isWithin 7 = .ok (.if_icmp .ge 35, 3) := db632.2.2.2.2.2.1
theorem dX7_isWithin_42 : decode cX7_isWithin 42 = .ok (.iconst 1, 1) := db632.2.2.2.2.2.2.1
theorem dX7_isWithin_43 : decode cX7_isWithin 43 = .ok (.ireturn, 1) := db632.2.2.2.2.2.2.2.1
theorem dX7_isWithin_10 : decode cX7_isWithin 10 = .ok (.aload_n 0, 1) := db632.2.2.2.2.2.2.2.2.1
theorem dX7_isWithin_11 : decode cX7_isWithin 11 = .ok (.getfield 9, 3) := db632.2.2.2.2.2.2.2.2.2.1
theorem dX7_isWithin_14 : decode cX7_isWithin 14 = .ok (.iload_n 3, 1) := db632.2.2.2.2.2.2.2.2.2.2.1
theorem dX7_isWithin_15 : decode cX7_isWithin 15 = .ok (.laload, 1) := db632.2.2.2.2.2.2.2.2.2.2.2.1
theorem dX7_isWithin_16 : decode cX7_isWithin 16 = .ok (.iload_n 1, 1) := db632.2.2.2.2.2.2.2.2.2.2.2.2.1
theorem dX7_isWithin_17 : decode cX7_isWithin 17 = .ok (.i2l, 1) := db632.2.2.2.2.2.2.2.2.2.2.2.2.2.1
theorem dX7_isWithin_18 : decode cX7_isWithin 18 = .ok (.lcmp, 1) := db632.2.2.2.2.2.2.2.2.2.2.2.2.2.2.1
theorem dX7_isWithin_19 : decode cX7_isWithin 19 = .ok (.ifCond .lt 15, 3) := db632.2.2.2.2.2.2.2.2.2.2.2.2.2.2.2.1
theorem dX7_isWithin_34 : decode cX7_isWithin 34 = .ok (.iconst 0, 1) := db632.2.2.2.2.2.2.2.2.2.2.2.2.2.2.2.2.1
theorem dX7_isWithin_35 : decode cX7_isWithin 35 = .ok (.ireturn, 1) := db632.2.2.2.2.2.2.2.2.2.2.2.2.2.2.2.2.2.1
theorem dX7_isWithin_22 : decode cX7_isWithin 22 = .ok (.aload_n 0, 1) := db632.2.2.2.2.2.2.2.2.2.2.2.2.2.2.2.2.2.2.1
theorem dX7_isWithin_23 : decode cX7_isWithin 23 = .ok (.getfield 9, 3) := db632.2.2.2.2.2.2.2.2.2.2.2.2.2.2.2.2.2.2.2.1
theorem dX7_isWithin_26 : decode cX7_isWithin 26 = .ok (.iload_n 3, 1) := db632.2.2.2.2.2.2.2.2.2.2.2.2.2.2.2.2.2.2.2.2.1
theorem dX7_isWithin_27 : decode cX7_isWithin 27 = .ok (.laload, 1) := db632.2.2.2.2.2.2.2.2.2.2.2.2.2.2.2.2.2.2.2.2.2.1
theorem dX7_isWithin_28 : decode cX7_isWithin 28 = .ok (.iload_n 2, 1) := db632.2.2.2.2.2.2.2.2.2.2.2.2.2.2.2.2.2.2.2.2.2.2.1
theorem dX7_isWithin_29 : decode cX7_isWithin 29 = .ok (.i2l, 1) := db632.2.2.2.2.2.2.2.2.2.2.2.2.2.2.2.2.2.2.2.2.2.2.2
