theorem db1 : (decode cJ0_charAt_5068e 0 = .ok (.aload_n 0, 1)) ∧ (decode cJ0_charAt_5068e 1 = .ok (.invokevirtual 492, 3)) ∧ (decode cJ0_charAt_5068e 4 = .ok (.ifCond .eq 12, 3)) ∧ (decode cJ0_charAt_5068e 7 = .ok (.aload_n 0, 1)) ∧ (decode cJ0_charAt_5068e 8 = .ok (.getfield 9, 3)) ∧ (decode cJ0_charAt_5068e 11 = .ok (.iload_n 1, 1)) ∧ (decode cJ0_charAt_5068e 12 = .ok (.invokestatic 495, 3)) ∧ (decode cJ0_charAt_5068e 15 = .ok (.ireturn, 1)) := by decide +kernel
theorem dJ0_charAt_5068e_0 : decode cJ0_charAt_5068e 0 = .ok (.aload_n 0, 1) := db1.1
theorem dJ0_charAt_5068e_1 : decode cJ0_charAt_5068e 1 = .ok (.invokevirtual 492, 3) := db1.2.1
theorem dJ0_charAt_5068e_4 : decode cJ0_charAt_5068e 4 = .ok (.ifCond .eq 12, 3) := db1.2.2.1
theorem dJ0_charAt_5068e_7 : decode cJ0_charAt_5068e 7 = .ok (.aload_n 0, 1) := db1.2.2.2.1
theorem dJ0_charAt_5068e_8 : decode cJ0_charAt_5068e 8 = .ok (.getfield 9, 3) := db1.2.2.2.2.1
theorem dJ0_charAt_5068e_11 : decode cJ0_charAt_5068e 11 = .ok (.iload_n 1, 1) := db1.2.2.2.2.2.1
theorem dJ0_charAt_5068e_12 : decode cJ0_charAt_5068e 12 = .ok (.invokestatic 495, 3) := db1.2.2.2.2.2.2.1
theorem dJ0_charAt_5068e_15 : decode cJ0_charAt_5068e 15 = .ok (.ireturn, 1) := db1.2.2.2.2.2.2.2
theorem db2 : (decode cJ0_checkIndex_df160 0 = .ok (.iload_n 0, 1)) ∧ (decode cJ0_checkIndex_df160 1 = .ok (.iload_n 1, 1)) ∧ (decode cJ0_checkIndex_df160 2 = .ok (.getstatic 1053, 3)) ∧ (decode cJ0_checkIndex_df160 5 = .ok (.invokestatic 1059, 3)) ∧ (decode cJ0_checkIndex_df160 8 = .ok (.pop, 1)) ∧ (decode cJ0_checkIndex_df160 9 = .ok (.return_, 1)) := by decide +kernel
theorem dJ0_checkIndex_df160_0 : decode cJ0_checkIndex_df160 0 = .ok (.iload_n 0, 1) := db2.1
theorem dJ0_checkIndex_df160_1 : decode cJ0_checkIndex_df160 1 = .ok (.iload_n 1, 1) := db2.2.1
theorem dJ0_checkIndex_df160_2 : decode cJ0_checkIndex_df160 2 = .ok (.getstatic 1053, 3) := db2.2.2.1
theorem dJ0_checkIndex_df160_5 : decode cJ0_checkIndex_df160 5 = .ok (.invokestatic 1059, 3) := db2.2.2.2.1
theorem dJ0_checkIndex_df160_8 : decode cJ0_checkIndex_df160 8 = .ok (.pop, 1) := db2.2.2.2.2.1
theorem dJ0_checkIndex_df160_9 : decode cJ0_checkIndex_df160 9 = .ok (.return_, 1) := db2.2.2.2.2.2
theorem db3 : (decode cJ0_coder_7d493 0 = .ok (.getstatic 38, 3)) ∧ (decode cJ0_coder_7d493 3 = .ok (.ifCond .eq 10, 3)) ∧ (decode cJ0_coder_7d493 6 = .ok (.aload_n 0, 1)) ∧ (decode cJ0_coder_7d493 7 = .ok (.getfield 15, 3)) ∧ (decode cJ0_coder_7d493 10 = .ok (.goto 4, 3)) ∧ (decode cJ0_coder_7d493 14 = .ok (.ireturn, 1)) := by decide +kernel
theorem dJ0_coder_7d493_0 : decode cJ0_coder_7d493 0 = .ok (.getstatic 38, 3) := db3.1
theorem dJ0_coder_7d493_3 : decode cJ0_coder_7d493 3 = .ok (.ifCond .eq 10, 3) := db3.2.1
theorem dJ0_coder_7d493_6 : decode cJ0_coder_7d493 6 = .ok (.aload_n 0, 1) := db3.2.2.1
theorem dJ0_coder_7d493_7 : decode cJ0_coder_7d493 7 = .ok (.getfield 15, 3) := db3.2.2.2.1
theorem dJ0_coder_7d493_10 : decode cJ0_coder_7d493 10 = .ok (.goto 4, 3) := db3.2.2.2.2.1
theorem dJ0_coder_7d493_14 : decode cJ0_coder_7d493 14 = .ok (.ireturn, 1) := db3.2.2.2.2.2
theorem db4 : (decode cJ0_isLatin1_aae02 0 = .ok (.getstatic 38, 3)) ∧ (decode cJ0_isLatin1_aae02 3 = .ok (.ifCond .eq 14, 3)) ∧ (decode cJ0_isLatin1_aae02 6 = .ok (.aload_n 0, 1)) ∧ (decode cJ0_isLatin1_aae02 7 = .ok (.getfield 15, 3)) ∧ (decode cJ0_isLatin1_aae02 10 = .ok (.ifCond .ne 7, 3)) ∧ (decode cJ0_isLatin1_aae02 13 = .ok (.iconst 1, 1)) ∧ (decode cJ0_isLatin1_aae02 14 = .ok (.goto 4, 3)) ∧ (decode cJ0_isLatin1_aae02 18 = .ok (.ireturn, 1)) := by decide +kernel
theorem dJ0_isLatin1_aae02_0 : decode cJ0_isLatin1_aae02 0 = .ok (.getstatic 38, 3) := db4.1
theorem dJ0_isLatin1_aae02_3 : decode cJ0_isLatin1_aae02 3 = .ok (.ifCond .eq 14, 3) := db4.2.1
theorem dJ0_isLatin1_aae02_6 : decode cJ0_isLatin1_aae02 6 = .ok (.aload_n 0, 1) := db4.2.2.1
theorem dJ0_isLatin1_aae02_7 : decode cJ0_isLatin1_aae02 7 = .ok (.getfield 15, 3) := db4.2.2.2.1
theorem dJ0_isLatin1_aae02_10 : decode cJ0_isLatin1_aae02 10 = .ok (.ifCond .ne 7, 3) := db4.2.2.2.2.1
theorem dJ0_isLatin1_aae02_13 : decode cJ0_isLatin1_aae02 13 = .ok (.iconst 1, 1) := db4.2.2.2.2.2.1
theorem dJ0_isLatin1_aae02_14 : decode cJ0_isLatin1_aae02 14 = .ok (.goto 4, 3) := db4.2.2.2.2.2.2.1
theorem dJ0_isLatin1_aae02_18 : decode cJ0_isLatin1_aae02 18 = .ok (.ireturn, 1) := db4.2.2.2.2.2.2.2
theorem db5 : (decode cJ0_length_8abf5 0 = .ok (.aload_n 0, 1)) ∧ (decode cJ0_length_8abf5 1 = .ok (.getfield 9, 3)) ∧ (decode cJ0_length_8abf5 4 = .ok (.arraylength, 1)) ∧ (decode cJ0_length_8abf5 5 = .ok (.aload_n 0, 1)) ∧ (decode cJ0_length_8abf5 6 = .ok (.invokevirtual 335, 3)) ∧ (decode cJ0_length_8abf5 9 = .ok (.ishr, 1)) ∧ (decode cJ0_length_8abf5 10 = .ok (.ireturn, 1)) := by decide +kernel
theorem dJ0_length_8abf5_0 : decode cJ0_length_8abf5 0 = .ok (.aload_n 0, 1) := db5.1
theorem dJ0_length_8abf5_1 : decode cJ0_length_8abf5 1 = .ok (.getfield 9, 3) := db5.2.1
theorem dJ0_length_8abf5_4 : decode cJ0_length_8abf5 4 = .ok (.arraylength, 1) := db5.2.2.1
theorem dJ0_length_8abf5_5 : decode cJ0_length_8abf5 5 = .ok (.aload_n 0, 1) := db5.2.2.2.1
theorem dJ0_length_8abf5_6 : decode cJ0_length_8abf5 6 = .ok (.invokevirtual 335, 3) := db5.2.2.2.2.1
theorem dJ0_length_8abf5_9 : decode cJ0_length_8abf5 9 = .ok (.ishr, 1) := db5.2.2.2.2.2.1
theorem dJ0_length_8abf5_10 : decode cJ0_length_8abf5 10 = .ok (.ireturn, 1) := db5.2.2.2.2.2.2
theorem db6 : (decode cJ1_charAt_3b067 0 = .ok (.iload_n 1, 1)) ∧ (decode cJ1_charAt_3b067 1 = .ok (.aload_n 0, 1)) ∧ (decode cJ1_charAt_3b067 2 = .ok (.arraylength, 1)) ∧ (decode cJ1_charAt_3b067 3 = .ok (.invokestatic 9, 3)) ∧ (decode cJ1_charAt_3b067 6 = .ok (.aload_n 0, 1)) ∧ (decode cJ1_charAt_3b067 7 = .ok (.iload_n 1, 1)) ∧ (decode cJ1_charAt_3b067 8 = .ok (.baload, 1)) ∧ (decode cJ1_charAt_3b067 9 = .ok (.sipush 255, 3)) ∧ (decode cJ1_charAt_3b067 12 = .ok (.iand, 1)) ∧ (decode cJ1_charAt_3b067 13 = .ok (.i2c, 1)) ∧ (decode cJ1_charAt_3b067 14 = .ok (.ireturn, 1)) := by decide +kernel
theorem dJ1_charAt_3b067_0 : decode cJ1_charAt_3b067 0 = .ok (.iload_n 1, 1) := db6.1
theorem dJ1_charAt_3b067_1 : decode cJ1_charAt_3b067 1 = .ok (.aload_n 0, 1) := db6.2.1
theorem dJ1_charAt_3b067_2 : decode cJ1_charAt_3b067 2 = .ok (.arraylength, 1) := db6.2.2.1
theorem dJ1_charAt_3b067_3 : decode cJ1_charAt_3b067 3 = .ok (.invokestatic 9, 3) := db6.2.2.2.1
theorem dJ1_charAt_3b067_6 : decode cJ1_charAt_3b067 6 = .ok (.aload_n 0, 1) := db6.2.2.2.2.1
theorem dJ1_charAt_3b067_7 : decode cJ1_charAt_3b067 7 = .ok (.iload_n 1, 1) := db6.2.2.2.2.2.1
theorem dJ1_charAt_3b067_8 : decode cJ1_charAt_3b067 8 = .ok (.baload, 1) := db6.2.2.2.2.2.2.1
theorem dJ1_charAt_3b067_9 : decode cJ1_charAt_3b067 9 = .ok (.sipush 255, 3) := db6.2.2.2.2.2.2.2.1
theorem dJ1_charAt_3b067_12 : decode cJ1_charAt_3b067 12 = .ok (.iand, 1) := db6.2.2.2.2.2.2.2.2.1
theorem dJ1_charAt_3b067_13 : decode cJ1_charAt_3b067 13 = .ok (.i2c, 1) := db6.2.2.2.2.2.2.2.2.2.1
theorem dJ1_charAt_3b067_14 : decode cJ1_charAt_3b067 14 = .ok (.ireturn, 1) := db6.2.2.2.2.2.2.2.2.2.2
theorem db7 : (decode cJ3_checkIndex_8e157 0 = .ok (.iload_n 0, 1)) ∧ (decode cJ3_checkIndex_8e157 1 = .ok (.ifCond .lt 8, 3)) ∧ (decode cJ3_checkIndex_8e157 4 = .ok (.iload_n 0, 1)) ∧ (decode cJ3_checkIndex_8e157 5 = .ok (.iload_n 1, 1)) ∧ (decode cJ3_checkIndex_8e157 6 = .ok (.if_icmp .lt 10, 3)) ∧ (decode cJ3_checkIndex_8e157 16 = .ok (.iload_n 0, 1)) ∧ (decode cJ3_checkIndex_8e157 17 = .ok (.ireturn, 1)) := by decide +kernel
theorem dJ3_checkIndex_8e157_0 : decode cJ3_checkIndex_8e157 0 = .ok (.iload_n 0, 1) := db7.1
theorem dJ3_checkIndex_8e157_1 : decode cJ3_checkIndex_8e157 1 = .ok (.ifCond .lt 8, 3) := db7.2.1
theorem dJ3_checkIndex_8e157_4 : decode cJ3_checkIndex_8e157 4 = .ok (.iload_n 0, 1) := db7.2.2.1
theorem dJ3_checkIndex_8e157_5 : decode cJ3_checkIndex_8e157 5 = .ok (.iload_n 1, 1) := db7.2.2.2.1
theorem dJ3_checkIndex_8e157_6 : decode cJ3_checkIndex_8e157 6 = .ok (.if_icmp .lt 10, 3) := db7.2.2.2.2.1
theorem dJ3_checkIndex_8e157_16 : decode cJ3_checkIndex_8e157 16 = .ok (.iload_n 0, 1) := db7.2.2.2.2.2.1
theorem dJ3_checkIndex_8e157_17 : decode cJ3_checkIndex_8e157 17 = .ok (.ireturn, 1) := db7.2.2.2.2.2.2
theorem db8 : (decode cJ6_bitCount_0f7a4 0 = .ok (.iload_n 0, 1)) ∧ (decode cJ6_bitCount_0f7a4 1 = .ok (.iload_n 0, 1)) ∧ (decode cJ6_bitCount_0f7a4 2 = .ok (.iconst 1, 1)) ∧ (decode cJ6_bitCount_0f7a4 3 = .ok (.iushr, 1)) ∧ (decode cJ6_bitCount_0f7a4 4 = .ok (.ldc_w 265, 3)) ∧ (decode cJ6_bitCount_0f7a4 7 = .ok (.iand, 1)) ∧ (decode cJ6_bitCount_0f7a4 8 = .ok (.isub, 1)) ∧ (decode cJ6_bitCount_0f7a4 9 = .ok (.istore_n 0, 1)) ∧ (decode cJ6_bitCount_0f7a4 10 = .ok (.iload_n 0, 1)) ∧ (decode cJ6_bitCount_0f7a4 11 = .ok (.ldc_w 266, 3)) ∧ (decode cJ6_bitCount_0f7a4 14 = .ok (.iand, 1)) ∧ (decode cJ6_bitCount_0f7a4 15 = .ok (.iload_n 0, 1)) ∧ (decode cJ6_bitCount_0f7a4 16 = .ok (.iconst 2, 1)) ∧ (decode cJ6_bitCount_0f7a4 17 = .ok (.iushr, 1)) ∧ (decode cJ6_bitCount_0f7a4 18 = .ok (.ldc_w 266, 3)) ∧ (decode cJ6_bitCount_0f7a4 21 = .ok (.iand, 1)) ∧ (decode cJ6_bitCount_0f7a4 22 = .ok (.iadd, 1)) ∧ (decode cJ6_bitCount_0f7a4 23 = .ok (.istore_n 0, 1)) ∧ (decode cJ6_bitCount_0f7a4 24 = .ok (.iload_n 0, 1)) ∧ (decode cJ6_bitCount_0f7a4 25 = .ok (.iload_n 0, 1)) ∧ (decode cJ6_bitCount_0f7a4 26 = .ok (.iconst 4, 1)) ∧ (decode cJ6_bitCount_0f7a4 27 = .ok (.iushr, 1)) ∧ (decode cJ6_bitCount_0f7a4 28 = .ok (.iadd, 1)) ∧ (decode cJ6_bitCount_0f7a4 29 = .ok (.ldc_w 267, 3)) := by decide +kernel
theorem dJ6_bitCount_0f7a4_0 : decode cJ6_bitCount_0f7a4 0 = .ok (.iload_n 0, 1) := db8.1
theorem dJ6_bitCount_0f7a4_1 : decode cJ6_bitCount_0f7a4 1 = .ok (.iload_n 0, 1) := db8.2.1
theorem dJ6_bitCount_0f7a4_2 : decode cJ6_bitCount_0f7a4 2 = .ok (.iconst 1, 1) := db8.2.2.1
theorem dJ6_bitCount_0f7a4_3 : decode cJ6_bitCount_0f7a4 3 = .ok (.iushr, 1) := db8.2.2.2.1
theorem dJ6_bitCount_0f7a4_4 : decode cJ6_bitCount_0f7a4 4 = .ok (.ldc_w 265, 3) := db8.2.2.2.2.1
theorem dJ6_bitCount_0f7a4_7 : decode cJ6_bitCount_0f7a4 7 = .ok (.iand, 1) := db8.2.2.2.2.2.1
theorem dJ6_bitCount_0f7a4_8 : decode cJ6_bitCount_0f7a4 8 = .ok (.isub, 1) := db8.2.2.2.2.2.2.1
theorem dJ6_bitCount_0f7a4_9 : decode cJ6_bitCount_0f7a4 9 = .ok (.istore_n 0, 1) := db8.2.2.2.2.2.2.2.1
theorem dJ6_bitCount_0f7a4_10 : decode cJ6_bitCount_0f7a4 10 = .ok (.iload_n 0, 1) := db8.2.2.2.2.2.2.2.2.1
theorem dJ6_bitCount_0f7a4_11 : decode cJ6_bitCount_0f7a4 11 = .ok (.ldc_w 266, 3) := db8.2.2.2.2.2.2.2.2.2.1
theorem dJ6_bitCount_0f7a4_14 : decode cJ6_bitCount_0f7a4 14 = .ok (.iand, 1) := db8.2.2.2.2.2.2.2.2.2.2.1
theorem dJ6_bitCount_0f7a4_15 : decode cJ6_bitCount_0f7a4 15 = .ok (.iload_n 0, 1) := db8.2.2.2.2.2.2.2.2.2.2.2.1
theorem dJ6_bitCount_0f7a4_16 : decode cJ6_bitCount_0f7a4 16 = .ok (.iconst 2, 1) := db8.2.2.2.2.2.2.2.2.2.2.2.2.1
theorem dJ6_bitCount_0f7a4_17 : decode cJ6_bitCount_0f7a4 17 = .ok (.iushr, 1) := db8.2.2.2.2.2.2.2.2.2.2.2.2.2.1
theorem dJ6_bitCount_0f7a4_18 : decode cJ6_bitCount_0f7a4 18 = .ok (.ldc_w 266, 3) := db8.2.2.2.2.2.2.2.2.2.2.2.2.2.2.1
theorem dJ6_bitCount_0f7a4_21 : decode cJ6_bitCount_0f7a4 21 = .ok (.iand, 1) := db8.2.2.2.2.2.2.2.2.2.2.2.2.2.2.2.1
theorem dJ6_bitCount_0f7a4_22 : decode cJ6_bitCount_0f7a4 22 = .ok (.iadd, 1) := db8.2.2.2.2.2.2.2.2.2.2.2.2.2.2.2.2.1
theorem dJ6_bitCount_0f7a4_23 : decode cJ6_bitCount_0f7a4 23 = .ok (.istore_n 0, 1) := db8.2.2.2.2.2.2.2.2.2.2.2.2.2.2.2.2.2.1
theorem dJ6_bitCount_0f7a4_24 : decode cJ6_bitCount_0f7a4 24 = .ok (.iload_n 0, 1) := db8.2.2.2.2.2.2.2.2.2.2.2.2.2.2.2.2.2.2.1
theorem dJ6_bitCount_0f7a4_25 : decode cJ6_bitCount_0f7a4 25 = .ok (.iload_n 0, 1) := db8.2.2.2.2.2.2.2.2.2.2.2.2.2.2.2.2.2.2.2.1
theorem dJ6_bitCount_0f7a4_26 : decode cJ6_bitCount_0f7a4 26 = .ok (.iconst 4, 1) := db8.2.2.2.2.2.2.2.2.2.2.2.2.2.2.2.2.2.2.2.2.1
theorem dJ6_bitCount_0f7a4_27 : decode cJ6_bitCount_0f7a4 27 = .ok (.iushr, 1) := db8.2.2.2.2.2.2.2.2.2.2.2.2.2.2.2.2.2.2.2.2.2.1
theorem dJ6_bitCount_0f7a4_28 : decode cJ6_bitCount_0f7a4 28 = .ok (.iadd, 1) := db8.2.2.2.2.2.2.2.2.2.2.2.2.2.2.2.2.2.2.2.2.2.2.1
theorem dJ6_bitCount_0f7a4_29 : decode cJ6_bitCount_0f7a4 29 = .ok (.ldc_w 267, 3) := db8.2.2.2.2.2.2.2.2.2.2.2.2.2.2.2.2.2.2.2.2.2.2.2
theorem db9 : (decode cJ6_bitCount_0f7a4 32 = .ok (.iand, 1)) ∧ (decode cJ6_bitCount_0f7a4 33 = .ok (.istore_n 0, 1)) ∧ (decode cJ6_bitCount_0f7a4 34 = .ok (.iload_n 0, 1)) ∧ (decode cJ6_bitCount_0f7a4 35 = .ok (.iload_n 0, 1)) ∧ (decode cJ6_bitCount_0f7a4 36 = .ok (.bipush 8, 2)) ∧ (decode cJ6_bitCount_0f7a4 38 = .ok (.iushr, 1)) ∧ (decode cJ6_bitCount_0f7a4 39 = .ok (.iadd, 1)) ∧ (decode cJ6_bitCount_0f7a4 40 = .ok (.istore_n 0, 1)) ∧ (decode cJ6_bitCount_0f7a4 41 = .ok (.iload_n 0, 1)) ∧ (decode cJ6_bitCount_0f7a4 42 = .ok (.iload_n 0, 1)) ∧ (decode cJ6_bitCount_0f7a4 43 = .ok (.bipush 16, 2)) ∧ (decode cJ6_bitCount_0f7a4 45 = .ok (.iushr, 1)) ∧ (decode cJ6_bitCount_0f7a4 46 = .ok (.iadd, 1)) ∧ (decode cJ6_bitCount_0f7a4 47 = .ok (.istore_n 0, 1)) ∧ (decode cJ6_bitCount_0f7a4 48 = .ok (.iload_n 0, 1)) ∧ (decode cJ6_bitCount_0f7a4 49 = .ok (.bipush 63, 2)) ∧ (decode cJ6_bitCount_0f7a4 51 = .ok (.iand, 1)) ∧ (decode cJ6_bitCount_0f7a4 52 = .ok (.ireturn, 1)) := by decide +kernel
theorem dJ6_bitCount_0f7a4_32 : decode cJ6_bitCount_0f7a4 32 = .ok (.iand, 1) := db9.1
theorem dJ6_bitCount_0f7a4_33 : decode cJ6_bitCount_0f7a4 33 = .ok (.istore_n 0, 1) := db9.2.1
theorem dJ6_bitCount_0f7a4_34 : decode cJ6_bitCount_0f7a4 34 = .ok (.iload_n 0, 1) := db9.2.2.1
theorem dJ6_bitCount_0f7a4_35 : decode cJ6_bitCount_0f7a4 35 = .ok (.iload_n 0, 1) := db9.2.2.2.1
theorem dJ6_bitCount_0f7a4_36 : decode cJ6_bitCount_0f7a4 36 = .ok (.bipush 8, 2) := db9.2.2.2.2.1
theorem dJ6_bitCount_0f7a4_38 : decode cJ6_bitCount_0f7a4 38 = .ok (.iushr, 1) := db9.2.2.2.2.2.1
theorem dJ6_bitCount_0f7a4_39 : decode cJ6_bitCount_0f7a4 39 = .ok (.iadd, 1) := db9.2.2.2.2.2.2.1
theorem dJ6_bitCount_0f7a4_40 : decode cJ6_bitCount_0f7a4 40 = .ok (.istore_n 0, 1) := db9.2.2.2.2.2.2.2.1
theorem dJ6_bitCount_0f7a4_41 : decode cJ6_bitCount_0f7a4 41 = .ok (.iload_n 0, 1) := db9.2.2.2.2.2.2.2.2.1
theorem dJ6_bitCount_0f7a4_42 : decode cJ6_bitCount_0f7a4 42 = .ok (.iload_n 0, 1) := db9.2.2.2.2.2.2.2.2.2.1
theorem dJ6_bitCount_0f7a4_43 : decode cJ6_bitCount_0f7a4 43 = .ok (.bipush 16, 2) := db9.2.2.2.2.2.2.2.2.2.2.1
theorem dJ6_bitCount_0f7a4_45 : decode cJ6_bitCount_0f7a4 45 = .ok (.iushr, 1) := db9.2.2.2.2.2.2.2.2.2.2.2.1
theorem dJ6_bitCount_0f7a4_46 : decode cJ6_bitCount_0f7a4 46 = .ok (.iadd, 1) := db9.2.2.2.2.2.2.2.2.2.2.2.2.1
theorem dJ6_bitCount_0f7a4_47 : decode cJ6_bitCount_0f7a4 47 = .ok (.istore_n 0, 1) := db9.2.2.2.2.2.2.2.2.2.2.2.2.2.1
theorem dJ6_bitCount_0f7a4_48 : decode cJ6_bitCount_0f7a4 48 = .ok (.iload_n 0, 1) := db9.2.2.2.2.2.2.2.2.2.2.2.2.2.2.1
theorem dJ6_bitCount_0f7a4_49 : decode cJ6_bitCount_0f7a4 49 = .ok (.bipush 63, 2) := db9.2.2.2.2.2.2.2.2.2.2.2.2.2.2.2.1
theorem dJ6_bitCount_0f7a4_51 : decode cJ6_bitCount_0f7a4 51 = .ok (.iand, 1) := db9.2.2.2.2.2.2.2.2.2.2.2.2.2.2.2.2.1
theorem dJ6_bitCount_0f7a4_52 : decode cJ6_bitCount_0f7a4 52 = .ok (.ireturn, 1) := db9.2.2.2.2.2.2.2.2.2.2.2.2.2.2.2.2.2
theorem db10 : (decode cJ6_numberOfTrailingZeros_0f7a4 0 = .ok (.iload_n 0, 1)) ∧ (decode cJ6_numberOfTrailingZeros_0f7a4 1 = .ok (.iconst (-1), 1)) ∧ (decode cJ6_numberOfTrailingZeros_0f7a4 2 = .ok (.ixor, 1)) ∧ (decode cJ6_numberOfTrailingZeros_0f7a4 3 = .ok (.iload_n 0, 1)) ∧ (decode cJ6_numberOfTrailingZeros_0f7a4 4 = .ok (.iconst 1, 1)) ∧ (decode cJ6_numberOfTrailingZeros_0f7a4 5 = .ok (.isub, 1)) ∧ (decode cJ6_numberOfTrailingZeros_0f7a4 6 = .ok (.iand, 1)) ∧ (decode cJ6_numberOfTrailingZeros_0f7a4 7 = .ok (.istore_n 0, 1)) ∧ (decode cJ6_numberOfTrailingZeros_0f7a4 8 = .ok (.iload_n 0, 1)) ∧ (decode cJ6_numberOfTrailingZeros_0f7a4 9 = .ok (.ifCond .gt 8, 3)) ∧ (decode cJ6_numberOfTrailingZeros_0f7a4 17 = .ok (.iconst 1, 1)) ∧ (decode cJ6_numberOfTrailingZeros_0f7a4 18 = .ok (.istore_n 1, 1)) ∧ (decode cJ6_numberOfTrailingZeros_0f7a4 19 = .ok (.iload_n 0, 1)) ∧ (decode cJ6_numberOfTrailingZeros_0f7a4 20 = .ok (.ldc_w 264, 3)) ∧ (decode cJ6_numberOfTrailingZeros_0f7a4 34 = .ok (.iload_n 0, 1)) ∧ (decode cJ6_numberOfTrailingZeros_0f7a4 35 = .ok (.sipush 256, 3)) ∧ (decode cJ6_numberOfTrailingZeros_0f7a4 49 = .ok (.iload_n 0, 1)) ∧ (decode cJ6_numberOfTrailingZeros_0f7a4 50 = .ok (.bipush 16, 2)) ∧ (decode cJ6_numberOfTrailingZeros_0f7a4 62 = .ok (.iload_n 0, 1)) ∧ (decode cJ6_numberOfTrailingZeros_0f7a4 63 = .ok (.iconst 4, 1)) ∧ (decode cJ6_numberOfTrailingZeros_0f7a4 64 = .ok (.if_icmp .le 10, 3)) ∧ (decode cJ6_numberOfTrailingZeros_0f7a4 74 = .ok (.iload_n 1, 1)) ∧ (decode cJ6_numberOfTrailingZeros_0f7a4 75 = .ok (.iload_n 0, 1)) ∧ (decode cJ6_numberOfTrailingZeros_0f7a4 76 = .ok (.iconst 1, 1)) := by decide +kernel
theorem dJ6_numberOfTrailingZeros_0f7a4_0 : decode cJ6_numberOfTrailingZeros_0f7a4 0 = .ok (.iload_n 0, 1) := db10.1
theorem dJ6_numberOfTrailingZeros_0f7a4_1 : decode cJ6_numberOfTrailingZeros_0f7a4 1 = .ok (.iconst (-1), 1) := db10.2.1
theorem dJ6_numberOfTrailingZeros_0f7a4_2 : decode cJ6_numberOfTrailingZeros_0f7a4 2 = .ok (.ixor, 1) := db10.2.2.1
theorem dJ6_numberOfTrailingZeros_0f7a4_3 : decode cJ6_numberOfTrailingZeros_0f7a4 3 = .ok (.iload_n 0, 1) := db10.2.2.2.1
theorem dJ6_numberOfTrailingZeros_0f7a4_4 : decode cJ6_numberOfTrailingZeros_0f7a4 4 = .ok (.iconst 1, 1) := db10.2.2.2.2.1
theorem dJ6_numberOfTrailingZeros_0f7a4_5 : decode cJ6_numberOfTrailingZeros_0f7a4 5 = .ok (.isub, 1) := db10.2.2.2.2.2.1
theorem dJ6_numberOfTrailingZeros_0f7a4_6 : decode cJ6_numberOfTrailingZeros_0f7a4 6 = .ok (.iand, 1) := db10.2.2.2.2.2.2.1
theorem dJ6_numberOfTrailingZeros_0f7a4_7 : decode cJ6_numberOfTrailingZeros_0f7a4 7 = .ok (.istore_n 0, 1) := db10.2.2.2.2.2.2.2.1
theorem dJ6_numberOfTrailingZeros_0f7a4_8 : decode cJ6_numberOfTrailingZeros_0f7a4 8 = .ok (.iload_n 0, 1) := db10.2.2.2.2.2.2.2.2.1
theorem dJ6_numberOfTrailingZeros_0f7a4_9 : decode cJ6_numberOfTrailingZeros_0f7a4 9 = .ok (.ifCond .gt 8, 3) := db10.2.2.2.2.2.2.2.2.2.1
theorem dJ6_numberOfTrailingZeros_0f7a4_17 : decode cJ6_numberOfTrailingZeros_0f7a4 17 = .ok (.iconst 1, 1) := db10.2.2.2.2.2.2.2.2.2.2.1
theorem dJ6_numberOfTrailingZeros_0f7a4_18 : decode cJ6_numberOfTrailingZeros_0f7a4 18 = .ok (.istore_n 1, 1) := db10.2.2.2.2.2.2.2.2.2.2.2.1
theorem dJ6_numberOfTrailingZeros_0f7a4_19 : decode cJ6_numberOfTrailingZeros_0f7a4 19 = .ok (.iload_n 0, 1) := db10.2.2.2.2.2.2.2.2.2.2.2.2.1
theorem dJ6_numberOfTrailingZeros_0f7a4_20 : decode cJ6_numberOfTrailingZeros_0f7a4 20 = .ok (.ldc_w 264, 3) := db10.2.2.2.2.2.2.2.2.2.2.2.2.2.1
theorem dJ6_numberOfTrailingZeros_0f7a4_34 : decode cJ6_numberOfTrailingZeros_0f7a4 34 = .ok (.iload_n 0, 1) := db10.2.2.2.2.2.2.2.2.2.2.2.2.2.2.1
theorem dJ6_numberOfTrailingZeros_0f7a4_35 : decode cJ6_numberOfTrailingZeros_0f7a4 35 = .ok (.sipush 256, 3) := db10.2.2.2.2.2.2.2.2.2.2.2.2.2.2.2.1
theorem dJ6_numberOfTrailingZeros_0f7a4_49 : decode cJ6_numberOfTrailingZeros_0f7a4 49 = .ok (.iload_n 0, 1) := db10.2.2.2.2.2.2.2.2.2.2.2.2.2.2.2.2.1
theorem dJ6_numberOfTrailingZeros_0f7a4_50 : decode cJ6_numberOfTrailingZeros_0f7a4 50 = .ok (.bipush 16, 2) := db10.2.2.2.2.2.2.2.2.2.2.2.2.2.2.2.2.2.1
theorem dJ6_numberOfTrailingZeros_0f7a4_62 : decode cJ6_numberOfTrailingZeros_0f7a4 62 = .ok (.iload_n 0, 1) := db10.2.2.2.2.2.2.2.2.2.2.2.2.2.2.2.2.2.2.1
theorem dJ6_numberOfTrailingZeros_0f7a4_63 : decode cJ6_numberOfTrailingZeros_0f7a4 63 = .ok (.iconst 4, 1) := db10.2.2.2.2.2.2.2.2.2.2.2.2.2.2.2.2.2.2.2.1
theorem dJ6_numberOfTrailingZeros_0f7a4_64 : decode cJ6_numberOfTrailingZeros_0f7a4 64 = .ok (.if_icmp .le 10, 3) := db10.2.2.2.2.2.2.2.2.2.2.2.2.2.2.2.2.2.2.2.2.1
theorem dJ6_numberOfTrailingZeros_0f7a4_74 : decode cJ6_numberOfTrailingZeros_0f7a4 74 = .ok (.iload_n 1, 1) := db10.2.2.2.2.2.2.2.2.2.2.2.2.2.2.2.2.2.2.2.2.2.1
theorem dJ6_numberOfTrailingZeros_0f7a4_75 : decode cJ6_numberOfTrailingZeros_0f7a4 75 = .ok (.iload_n 0, 1) := db10.2.2.2.2.2.2.2.2.2.2.2.2.2.2.2.2.2.2.2.2.2.2.1
theorem dJ6_numberOfTrailingZeros_0f7a4_76 : decode cJ6_numberOfTrailingZeros_0f7a4 76 = .ok (.iconst 1, 1) := db10.2.2.2.2.2.2.2.2.2.2.2.2.2.2.2.2.2.2.2.2.2.2.2
theorem db11 : (decode cJ6_numberOfTrailingZeros_0f7a4 77 = .ok (.iushr, 1)) ∧ (decode cJ6_numberOfTrailingZeros_0f7a4 78 = .ok (.iadd, 1)) ∧ (decode cJ6_numberOfTrailingZeros_0f7a4 79 = .ok (.ireturn, 1)) ∧ (decode cJ6_numberOfTrailingZeros_0f7a4 67 = .ok (.iinc 1 2, 3)) ∧ (decode cJ6_numberOfTrailingZeros_0f7a4 70 = .ok (.iload_n 0, 1)) ∧ (decode cJ6_numberOfTrailingZeros_0f7a4 71 = .ok (.iconst 2, 1)) ∧ (decode cJ6_numberOfTrailingZeros_0f7a4 72 = .ok (.iushr, 1)) ∧ (decode cJ6_numberOfTrailingZeros_0f7a4 73 = .ok (.istore_n 0, 1)) ∧ (decode cJ6_numberOfTrailingZeros_0f7a4 52 = .ok (.if_icmp .le 10, 3)) ∧ (decode cJ6_numberOfTrailingZeros_0f7a4 55 = .ok (.iinc 1 4, 3)) ∧ (decode cJ6_numberOfTrailingZeros_0f7a4 58 = .ok (.iload_n 0, 1)) ∧ (decode cJ6_numberOfTrailingZeros_0f7a4 59 = .ok (.iconst 4, 1)) ∧ (decode cJ6_numberOfTrailingZeros_0f7a4 60 = .ok (.iushr, 1)) ∧ (decode cJ6_numberOfTrailingZeros_0f7a4 61 = .ok (.istore_n 0, 1)) ∧ (decode cJ6_numberOfTrailingZeros_0f7a4 38 = .ok (.if_icmp .le 11, 3)) ∧ (decode cJ6_numberOfTrailingZeros_0f7a4 23 = .ok (.if_icmp .le 11, 3)) ∧ (decode cJ6_numberOfTrailingZeros_0f7a4 12 = .ok (.iload_n 0, 1)) ∧ (decode cJ6_numberOfTrailingZeros_0f7a4 13 = .ok (.bipush 32, 2)) ∧ (decode cJ6_numberOfTrailingZeros_0f7a4 15 = .ok (.iand, 1)) ∧ (decode cJ6_numberOfTrailingZeros_0f7a4 16 = .ok (.ireturn, 1)) := by decide +kernel
theorem dJ6_numberOfTrailingZeros_0f7a4_77 : decode cJ6_numberOfTrailingZeros_0f7a4 77 = .ok (.iushr, 1) := db11.1
theorem dJ6_numberOfTrailingZeros_0f7a4_78 : decode cJ6_numberOfTrailingZeros_0f7a4 78 = .ok (.iadd, 1) := db11.2.1
theorem dJ6_numberOfTrailingZeros_0f7a4_79 : decode cJ6_numberOfTrailingZeros_0f7a4 79 = .ok (.ireturn, 1) := db11.2.2.1
theorem dJ6_numberOfTrailingZeros_0f7a4_67 : decode cJ6_numberOfTrailingZeros_0f7a4 67 = .ok (.iinc 1 2, 3) := db11.2.2.2.1
theorem dJ6_numberOfTrailingZeros_0f7a4_70 : decode cJ6_numberOfTrailingZeros_0f7a4 70 = .ok (.iload_n 0, 1) := db11.2.2.2.2.1
theorem dJ6_numberOfTrailingZeros_0f7a4_71 : decode cJ6_numberOfTrailingZeros_0f7a4 71 = .ok (.iconst 2, 1) := db11.2.2.2.2.2.1
theorem dJ6_numberOfTrailingZeros_0f7a4_72 : decode cJ6_numberOfTrailingZeros_0f7a4 72 = .ok (.iushr, 1) := db11.2.2.2.2.2.2.1
theorem dJ6_numberOfTrailingZeros_0f7a4_73 : decode cJ6_numberOfTrailingZeros_0f7a4 73 = .ok (.istore_n 0, 1) := db11.2.2.2.2.2.2.2.1
theorem dJ6_numberOfTrailingZeros_0f7a4_52 : decode cJ6_numberOfTrailingZeros_0f7a4 52 = .ok (.if_icmp .le 10, 3) := db11.2.2.2.2.2.2.2.2.1
theorem dJ6_numberOfTrailingZeros_0f7a4_55 : decode cJ6_numberOfTrailingZeros_0f7a4 55 = .ok (.iinc 1 4, 3) := db11.2.2.2.2.2.2.2.2.2.1
theorem dJ6_numberOfTrailingZeros_0f7a4_58 : decode cJ6_numberOfTrailingZeros_0f7a4 58 = .ok (.iload_n 0, 1) := db11.2.2.2.2.2.2.2.2.2.2.1
theorem dJ6_numberOfTrailingZeros_0f7a4_59 : decode cJ6_numberOfTrailingZeros_0f7a4 59 = .ok (.iconst 4, 1) := db11.2.2.2.2.2.2.2.2.2.2.2.1
theorem dJ6_numberOfTrailingZeros_0f7a4_60 : decode cJ6_numberOfTrailingZeros_0f7a4 60 = .ok (.iushr, 1) := db11.2.2.2.2.2.2.2.2.2.2.2.2.1
theorem dJ6_numberOfTrailingZeros_0f7a4_61 : decode cJ6_numberOfTrailingZeros_0f7a4 61 = .ok (.istore_n 0, 1) := db11.2.2.2.2.2.2.2.2.2.2.2.2.2.1
theorem dJ6_numberOfTrailingZeros_0f7a4_38 : decode cJ6_numberOfTrailingZeros_0f7a4 38 = .ok (.if_icmp .le 11, 3) := db11.2.2.2.2.2.2.2.2.2.2.2.2.2.2.1
theorem dJ6_numberOfTrailingZeros_0f7a4_23 : decode cJ6_numberOfTrailingZeros_0f7a4 23 = .ok (.if_icmp .le 11, 3) := db11.2.2.2.2.2.2.2.2.2.2.2.2.2.2.2.1
theorem dJ6_numberOfTrailingZeros_0f7a4_12 : decode cJ6_numberOfTrailingZeros_0f7a4 12 = .ok (.iload_n 0, 1) := db11.2.2.2.2.2.2.2.2.2.2.2.2.2.2.2.2.1
theorem dJ6_numberOfTrailingZeros_0f7a4_13 : decode cJ6_numberOfTrailingZeros_0f7a4 13 = .ok (.bipush 32, 2) := db11.2.2.2.2.2.2.2.2.2.2.2.2.2.2.2.2.2.1
theorem dJ6_numberOfTrailingZeros_0f7a4_15 : decode cJ6_numberOfTrailingZeros_0f7a4 15 = .ok (.iand, 1) := db11.2.2.2.2.2.2.2.2.2.2.2.2.2.2.2.2.2.2.1
theorem dJ6_numberOfTrailingZeros_0f7a4_16 : decode cJ6_numberOfTrailingZeros_0f7a4 16 = .ok (.ireturn, 1) := db11.2.2.2.2.2.2.2.2.2.2.2.2.2.2.2.2.2.2.2
theorem db12 : (decode cJ7_fill_53178 0 = .ok (.iconst 0, 1)) ∧ (decode cJ7_fill_53178 1 = .ok (.istore_n 2, 1)) ∧ (decode cJ7_fill_53178 2 = .ok (.aload_n 0, 1)) ∧ (decode cJ7_fill_53178 3 = .ok (.arraylength, 1)) ∧ (decode cJ7_fill_53178 4 = .ok (.istore_n 3, 1)) ∧ (decode cJ7_fill_53178 5 = .ok (.iload_n 2, 1)) ∧ (decode cJ7_fill_53178 6 = .ok (.iload_n 3, 1)) ∧ (decode cJ7_fill_53178 7 = .ok (.if_icmp .ge 13, 3)) ∧ (decode cJ7_fill_53178 10 = .ok (.aload_n 0, 1)) ∧ (decode cJ7_fill_53178 11 = .ok (.iload_n 2, 1)) ∧ (decode cJ7_fill_53178 12 = .ok (.iload_n 1, 1)) ∧ (decode cJ7_fill_53178 13 = .ok (.iastore, 1)) ∧ (decode cJ7_fill_53178 14 = .ok (.iinc 2 1, 3)) ∧ (decode cJ7_fill_53178 17 = .ok (.goto (-12), 3)) ∧ (decode cJ7_fill_53178 20 = .ok (.return_, 1)) := by decide +kernel
theorem dJ7_fill_53178_0 : decode cJ7_fill_53178 0 = .ok (.iconst 0, 1) := db12.1
theorem dJ7_fill_53178_1 : decode cJ7_fill_53178 1 = .ok (.istore_n 2, 1) := db12.2.1
theorem dJ7_fill_53178_2 : decode cJ7_fill_53178 2 = .ok (.aload_n 0, 1) := db12.2.2.1
theorem dJ7_fill_53178_3 : decode cJ7_fill_53178 3 = .ok (.arraylength, 1) := db12.2.2.2.1
theorem dJ7_fill_53178_4 : decode cJ7_fill_53178 4 = .ok (.istore_n 3, 1) := db12.2.2.2.2.1
theorem dJ7_fill_53178_5 : decode cJ7_fill_53178 5 = .ok (.iload_n 2, 1) := db12.2.2.2.2.2.1
theorem dJ7_fill_53178_6 : decode cJ7_fill_53178 6 = .ok (.iload_n 3, 1) := db12.2.2.2.2.2.2.1
theorem dJ7_fill_53178_7 : decode cJ7_fill_53178 7 = .ok (.if_icmp .ge 13, 3) := db12.2.2.2.2.2.2.2.1
theorem dJ7_fill_53178_10 : decode cJ7_fill_53178 10 = .ok (.aload_n 0, 1) := db12.2.2.2.2.2.2.2.2.1
theorem dJ7_fill_53178_11 : decode cJ7_fill_53178 11 = .ok (.iload_n 2, 1) := db12.2.2.2.2.2.2.2.2.2.1
theorem dJ7_fill_53178_12 : decode cJ7_fill_53178 12 = .ok (.iload_n 1, 1) := db12.2.2.2.2.2.2.2.2.2.2.1
theorem dJ7_fill_53178_13 : decode cJ7_fill_53178 13 = .ok (.iastore, 1) := db12.2.2.2.2.2.2.2.2.2.2.2.1
theorem dJ7_fill_53178_14 : decode cJ7_fill_53178 14 = .ok (.iinc 2 1, 3) := db12.2.2.2.2.2.2.2.2.2.2.2.2.1
theorem dJ7_fill_53178_17 : decode cJ7_fill_53178 17 = .ok (.goto (-12), 3) := db12.2.2.2.2.2.2.2.2.2.2.2.2.2.1
theorem dJ7_fill_53178_20 : decode cJ7_fill_53178 20 = .ok (.return_, 1) := db12.2.2.2.2.2.2.2.2.2.2.2.2.2.2
theorem db13 : (decode cJ7_fill_d0a16 0 = .ok (.iconst 0, 1)) ∧ (decode cJ7_fill_d0a16 1 = .ok (.istore_n 3, 1)) ∧ (decode cJ7_fill_d0a16 2 = .ok (.aload_n 0, 1)) ∧ (decode cJ7_fill_d0a16 3 = .ok (.arraylength, 1)) ∧ (decode cJ7_fill_d0a16 4 = .ok (.istore 4, 2)) ∧ (decode cJ7_fill_d0a16 6 = .ok (.iload_n 3, 1)) ∧ (decode cJ7_fill_d0a16 7 = .ok (.iload 4, 2)) ∧ (decode cJ7_fill_d0a16 9 = .ok (.if_icmp .ge 13, 3)) ∧ (decode cJ7_fill_d0a16 12 = .ok (.aload_n 0, 1)) ∧ (decode cJ7_fill_d0a16 13 = .ok (.iload_n 3, 1)) ∧ (decode cJ7_fill_d0a16 14 = .ok (.lload_n 1, 1)) ∧ (decode cJ7_fill_d0a16 15 = .ok (.lastore, 1)) ∧ (decode cJ7_fill_d0a16 16 = .ok (.iinc 3 1, 3)) ∧ (decode cJ7_fill_d0a16 19 = .ok (.goto (-13), 3)) ∧ (decode cJ7_fill_d0a16 22 = .ok (.return_, 1)) := by decide +kernel
theorem dJ7_fill_d0a16_0 : decode cJ7_fill_d0a16 0 = .ok (.iconst 0, 1) := db13.1
theorem dJ7_fill_d0a16_1 : decode cJ7_fill_d0a16 1 = .ok (.istore_n 3, 1) := db13.2.1
theorem dJ7_fill_d0a16_2 : decode cJ7_fill_d0a16 2 = .ok (.aload_n 0, 1) := db13.2.2.1
theorem dJ7_fill_d0a16_3 : decode cJ7_fill_d0a16 3 = .ok (.arraylength, 1) := db13.2.2.2.1
theorem dJ7_fill_d0a16_4 : decode cJ7_fill_d0a16 4 = .ok (.istore 4, 2) := db13.2.2.2.2.1
theorem dJ7_fill_d0a16_6 : decode cJ7_fill_d0a16 6 = .ok (.iload_n 3, 1) := db13.2.2.2.2.2.1
theorem dJ7_fill_d0a16_7 : decode cJ7_fill_d0a16 7 = .ok (.iload 4, 2) := db13.2.2.2.2.2.2.1
theorem dJ7_fill_d0a16_9 : decode cJ7_fill_d0a16 9 = .ok (.if_icmp .ge 13, 3) := db13.2.2.2.2.2.2.2.1
theorem dJ7_fill_d0a16_12 : decode cJ7_fill_d0a16 12 = .ok (.aload_n 0, 1) := db13.2.2.2.2.2.2.2.2.1
theorem dJ7_fill_d0a16_13 : decode cJ7_fill_d0a16 13 = .ok (.iload_n 3, 1) := db13.2.2.2.2.2.2.2.2.2.1
theorem dJ7_fill_d0a16_14 : decode cJ7_fill_d0a16 14 = .ok (.lload_n 1, 1) := db13.2.2.2.2.2.2.2.2.2.2.1
theorem dJ7_fill_d0a16_15 : decode cJ7_fill_d0a16 15 = .ok (.lastore, 1) := db13.2.2.2.2.2.2.2.2.2.2.2.1
theorem dJ7_fill_d0a16_16 : decode cJ7_fill_d0a16 16 = .ok (.iinc 3 1, 3) := db13.2.2.2.2.2.2.2.2.2.2.2.2.1
theorem dJ7_fill_d0a16_19 : decode cJ7_fill_d0a16 19 = .ok (.goto (-13), 3) := db13.2.2.2.2.2.2.2.2.2.2.2.2.2.1
theorem dJ7_fill_d0a16_22 : decode cJ7_fill_d0a16 22 = .ok (.return_, 1) := db13.2.2.2.2.2.2.2.2.2.2.2.2.2.2
theorem db14 : (decode cL_law 33 = .ok (.tableswitch 2123 0 63 #[271, 334, 357, 370, 393, 426, 459, 492, 525, 548, 561, 574, 587, 610, 633, 646, 659, 692, 715, 748, 771, 794, 817, 850, 883, 906, 939, 982, 1005, 1038, 1071, 1094, 1107, 1120, 1143, 1166, 1199, 1222, 1245, 1278, 1331, 1364, 1377, 1390, 1413, 1436, 1469, 1492, 1535, 1578, 1601, 1624, 1647, 1680, 1703, 1746, 1789, 1832, 1875, 1898, 1921, 1944, 1987, 2060], 271)) ∧ (decode cL_law 304 = .ok (.aload_n 1, 1)) ∧ (decode cL_law 305 = .ok (.aload_n 0, 1)) ∧ (decode cL_law 306 = .ok (.iload_n 3, 1)) ∧ (decode cL_law 307 = .ok (.iconst 1, 1)) ∧ (decode cL_law 308 = .ok (.iadd, 1)) ∧ (decode cL_law 309 = .ok (.iaload, 1)) ∧ (decode cL_law 310 = .ok (.aload_n 0, 1)) ∧ (decode cL_law 311 = .ok (.iload_n 3, 1)) ∧ (decode cL_law 312 = .ok (.iconst 2, 1)) ∧ (decode cL_law 313 = .ok (.iadd, 1)) ∧ (decode cL_law 314 = .ok (.iaload, 1)) ∧ (decode cL_law 315 = .ok (.aload_n 0, 1)) ∧ (decode cL_law 316 = .ok (.iload_n 3, 1)) ∧ (decode cL_law 317 = .ok (.iconst 3, 1)) ∧ (decode cL_law 318 = .ok (.iadd, 1)) ∧ (decode cL_law 319 = .ok (.iaload, 1)) ∧ (decode cL_law 320 = .ok (.aload_n 0, 1)) ∧ (decode cL_law 321 = .ok (.iload_n 3, 1)) ∧ (decode cL_law 322 = .ok (.iconst 4, 1)) ∧ (decode cL_law 323 = .ok (.iadd, 1)) ∧ (decode cL_law 324 = .ok (.iaload, 1)) ∧ (decode cL_law 325 = .ok (.aload_n 0, 1)) ∧ (decode cL_law 326 = .ok (.iload_n 3, 1)) := by decide +kernel
theorem dL_law_33 : decode cL_law 33 = .ok (.tableswitch 2123 0 63 #[271, 334, 357, 370, 393, 426, 459, 492, 525, 548, 561, 574, 587, 610, 633, 646, 659, 692, 715, 748, 771, 794, 817, 850, 883, 906, 939, 982, 1005, 1038, 1071, 1094, 1107, 1120, 1143, 1166, 1199, 1222, 1245, 1278, 1331, 1364, 1377, 1390, 1413, 1436, 1469, 1492, 1535, 1578, 1601, 1624, 1647, 1680, 1703, 1746, 1789, 1832, 1875, 1898, 1921, 1944, 1987, 2060], 271) := db14.1
theorem dL_law_304 : decode cL_law 304 = .ok (.aload_n 1, 1) := db14.2.1
theorem dL_law_305 : decode cL_law 305 = .ok (.aload_n 0, 1) := db14.2.2.1
theorem dL_law_306 : decode cL_law 306 = .ok (.iload_n 3, 1) := db14.2.2.2.1
theorem dL_law_307 : decode cL_law 307 = .ok (.iconst 1, 1) := db14.2.2.2.2.1
theorem dL_law_308 : decode cL_law 308 = .ok (.iadd, 1) := db14.2.2.2.2.2.1
theorem dL_law_309 : decode cL_law 309 = .ok (.iaload, 1) := db14.2.2.2.2.2.2.1
theorem dL_law_310 : decode cL_law 310 = .ok (.aload_n 0, 1) := db14.2.2.2.2.2.2.2.1
theorem dL_law_311 : decode cL_law 311 = .ok (.iload_n 3, 1) := db14.2.2.2.2.2.2.2.2.1
theorem dL_law_312 : decode cL_law 312 = .ok (.iconst 2, 1) := db14.2.2.2.2.2.2.2.2.2.1
theorem dL_law_313 : decode cL_law 313 = .ok (.iadd, 1) := db14.2.2.2.2.2.2.2.2.2.2.1
theorem dL_law_314 : decode cL_law 314 = .ok (.iaload, 1) := db14.2.2.2.2.2.2.2.2.2.2.2.1
theorem dL_law_315 : decode cL_law 315 = .ok (.aload_n 0, 1) := db14.2.2.2.2.2.2.2.2.2.2.2.2.1
theorem dL_law_316 : decode cL_law 316 = .ok (.iload_n 3, 1) := db14.2.2.2.2.2.2.2.2.2.2.2.2.2.1
theorem dL_law_317 : decode cL_law 317 = .ok (.iconst 3, 1) := db14.2.2.2.2.2.2.2.2.2.2.2.2.2.2.1
theorem dL_law_318 : decode cL_law 318 = .ok (.iadd, 1) := db14.2.2.2.2.2.2.2.2.2.2.2.2.2.2.2.1
theorem dL_law_319 : decode cL_law 319 = .ok (.iaload, 1) := db14.2.2.2.2.2.2.2.2.2.2.2.2.2.2.2.2.1
theorem dL_law_320 : decode cL_law 320 = .ok (.aload_n 0, 1) := db14.2.2.2.2.2.2.2.2.2.2.2.2.2.2.2.2.2.1
theorem dL_law_321 : decode cL_law 321 = .ok (.iload_n 3, 1) := db14.2.2.2.2.2.2.2.2.2.2.2.2.2.2.2.2.2.2.1
theorem dL_law_322 : decode cL_law 322 = .ok (.iconst 4, 1) := db14.2.2.2.2.2.2.2.2.2.2.2.2.2.2.2.2.2.2.2.1
theorem dL_law_323 : decode cL_law 323 = .ok (.iadd, 1) := db14.2.2.2.2.2.2.2.2.2.2.2.2.2.2.2.2.2.2.2.2.1
theorem dL_law_324 : decode cL_law 324 = .ok (.iaload, 1) := db14.2.2.2.2.2.2.2.2.2.2.2.2.2.2.2.2.2.2.2.2.2.1
theorem dL_law_325 : decode cL_law 325 = .ok (.aload_n 0, 1) := db14.2.2.2.2.2.2.2.2.2.2.2.2.2.2.2.2.2.2.2.2.2.2.1
theorem dL_law_326 : decode cL_law 326 = .ok (.iload_n 3, 1) := db14.2.2.2.2.2.2.2.2.2.2.2.2.2.2.2.2.2.2.2.2.2.2.2
theorem db15 : (decode cL_law 327 = .ok (.iconst 5, 1)) ∧ (decode cL_law 328 = .ok (.iadd, 1)) ∧ (decode cL_law 329 = .ok (.iaload, 1)) ∧ (decode cL_law 330 = .ok (.invokevirtual 13, 3)) ∧ (decode cL_law 333 = .ok (.pop, 1)) ∧ (decode cL_law 334 = .ok (.aload_n 2, 1)) ∧ (decode cL_law 335 = .ok (.aload_n 0, 1)) ∧ (decode cL_law 336 = .ok (.iload_n 3, 1)) ∧ (decode cL_law 337 = .ok (.iconst 1, 1)) ∧ (decode cL_law 338 = .ok (.iadd, 1)) ∧ (decode cL_law 339 = .ok (.iaload, 1)) ∧ (decode cL_law 340 = .ok (.aload_n 0, 1)) ∧ (decode cL_law 341 = .ok (.iload_n 3, 1)) ∧ (decode cL_law 342 = .ok (.iconst 2, 1)) ∧ (decode cL_law 343 = .ok (.iadd, 1)) ∧ (decode cL_law 344 = .ok (.iaload, 1)) ∧ (decode cL_law 345 = .ok (.aload_n 0, 1)) ∧ (decode cL_law 346 = .ok (.iload_n 3, 1)) ∧ (decode cL_law 347 = .ok (.iconst 3, 1)) ∧ (decode cL_law 348 = .ok (.iadd, 1)) ∧ (decode cL_law 349 = .ok (.iaload, 1)) ∧ (decode cL_law 350 = .ok (.aload_n 0, 1)) ∧ (decode cL_law 351 = .ok (.iload_n 3, 1)) ∧ (decode cL_law 352 = .ok (.iconst 4, 1)) := by decide +kernel
theorem dL_law_327 : decode cL_law 327 = .ok (.iconst 5, 1) := db15.1
theorem dL_law_328 : decode cL_law 328 = .ok (.iadd, 1) := db15.2.1
theorem dL_law_329 : decode cL_law 329 = .ok (.iaload, 1) := db15.2.2.1
theorem dL_law_330 : decode cL_law 330 = .ok (.invokevirtual 13, 3) := db15.2.2.2.1
theorem dL_law_333 : decode cL_law 333 = .ok (.pop, 1) := db15.2.2.2.2.1
theorem dL_law_334 : decode cL_law 334 = .ok (.aload_n 2, 1) := db15.2.2.2.2.2.1
theorem dL_law_335 : decode cL_law 335 = .ok (.aload_n 0, 1) := db15.2.2.2.2.2.2.1
theorem dL_law_336 : decode cL_law 336 = .ok (.iload_n 3, 1) := db15.2.2.2.2.2.2.2.1
theorem dL_law_337 : decode cL_law 337 = .ok (.iconst 1, 1) := db15.2.2.2.2.2.2.2.2.1
theorem dL_law_338 : decode cL_law 338 = .ok (.iadd, 1) := db15.2.2.2.2.2.2.2.2.2.1
theorem dL_law_339 : decode cL_law 339 = .ok (.iaload, 1) := db15.2.2.2.2.2.2.2.2.2.2.1
theorem dL_law_340 : decode cL_law 340 = .ok (.aload_n 0, 1) := db15.2.2.2.2.2.2.2.2.2.2.2.1
theorem dL_law_341 : decode cL_law 341 = .ok (.iload_n 3, 1) := db15.2.2.2.2.2.2.2.2.2.2.2.2.1
theorem dL_law_342 : decode cL_law 342 = .ok (.iconst 2, 1) := db15.2.2.2.2.2.2.2.2.2.2.2.2.2.1
theorem dL_law_343 : decode cL_law 343 = .ok (.iadd, 1) := db15.2.2.2.2.2.2.2.2.2.2.2.2.2.2.1
theorem dL_law_344 : decode cL_law 344 = .ok (.iaload, 1) := db15.2.2.2.2.2.2.2.2.2.2.2.2.2.2.2.1
theorem dL_law_345 : decode cL_law 345 = .ok (.aload_n 0, 1) := db15.2.2.2.2.2.2.2.2.2.2.2.2.2.2.2.2.1
theorem dL_law_346 : decode cL_law 346 = .ok (.iload_n 3, 1) := db15.2.2.2.2.2.2.2.2.2.2.2.2.2.2.2.2.2.1
theorem dL_law_347 : decode cL_law 347 = .ok (.iconst 3, 1) := db15.2.2.2.2.2.2.2.2.2.2.2.2.2.2.2.2.2.2.1
theorem dL_law_348 : decode cL_law 348 = .ok (.iadd, 1) := db15.2.2.2.2.2.2.2.2.2.2.2.2.2.2.2.2.2.2.2.1
theorem dL_law_349 : decode cL_law 349 = .ok (.iaload, 1) := db15.2.2.2.2.2.2.2.2.2.2.2.2.2.2.2.2.2.2.2.2.1
theorem dL_law_350 : decode cL_law 350 = .ok (.aload_n 0, 1) := db15.2.2.2.2.2.2.2.2.2.2.2.2.2.2.2.2.2.2.2.2.2.1
theorem dL_law_351 : decode cL_law 351 = .ok (.iload_n 3, 1) := db15.2.2.2.2.2.2.2.2.2.2.2.2.2.2.2.2.2.2.2.2.2.2.1
theorem dL_law_352 : decode cL_law 352 = .ok (.iconst 4, 1) := db15.2.2.2.2.2.2.2.2.2.2.2.2.2.2.2.2.2.2.2.2.2.2.2
theorem db16 : (decode cL_law 353 = .ok (.iadd, 1)) ∧ (decode cL_law 354 = .ok (.iaload, 1)) ∧ (decode cL_law 355 = .ok (.aload_n 0, 1)) ∧ (decode cL_law 356 = .ok (.iload_n 3, 1)) ∧ (decode cL_law 357 = .ok (.iconst 5, 1)) ∧ (decode cL_law 358 = .ok (.iadd, 1)) ∧ (decode cL_law 359 = .ok (.iaload, 1)) ∧ (decode cL_law 360 = .ok (.invokevirtual 17, 3)) ∧ (decode cL_law 363 = .ok (.pop, 1)) ∧ (decode cL_law 364 = .ok (.goto 1792, 3)) ∧ (decode cL_law 2156 = .ok (.iinc 3 6, 3)) ∧ (decode cL_law 367 = .ok (.aload_n 1, 1)) ∧ (decode cL_law 368 = .ok (.aload_n 0, 1)) ∧ (decode cL_law 369 = .ok (.iload_n 3, 1)) ∧ (decode cL_law 370 = .ok (.iconst 1, 1)) ∧ (decode cL_law 371 = .ok (.iadd, 1)) ∧ (decode cL_law 372 = .ok (.iaload, 1)) ∧ (decode cL_law 373 = .ok (.invokevirtual 18, 3)) ∧ (decode cL_law 376 = .ok (.pop, 1)) ∧ (decode cL_law 377 = .ok (.aload_n 2, 1)) ∧ (decode cL_law 378 = .ok (.aload_n 0, 1)) ∧ (decode cL_law 379 = .ok (.iload_n 3, 1)) ∧ (decode cL_law 380 = .ok (.iconst 1, 1)) ∧ (decode cL_law 381 = .ok (.iadd, 1)) := by decide +kernel
theorem dL_law_353 : decode cL_law 353 = .ok (.iadd, 1) := db16.1
theorem dL_law_354 : decode cL_law 354 = .ok (.iaload, 1) := db16.2.1
theorem dL_law_355 : decode cL_law 355 = .ok (.aload_n 0, 1) := db16.2.2.1
theorem dL_law_356 : decode cL_law 356 = .ok (.iload_n 3, 1) := db16.2.2.2.1
theorem dL_law_357 : decode cL_law 357 = .ok (.iconst 5, 1) := db16.2.2.2.2.1
theorem dL_law_358 : decode cL_law 358 = .ok (.iadd, 1) := db16.2.2.2.2.2.1
theorem dL_law_359 : decode cL_law 359 = .ok (.iaload, 1) := db16.2.2.2.2.2.2.1
theorem dL_law_360 : decode cL_law 360 = .ok (.invokevirtual 17, 3) := db16.2.2.2.2.2.2.2.1
theorem dL_law_363 : decode cL_law 363 = .ok (.pop, 1) := db16.2.2.2.2.2.2.2.2.1
theorem dL_law_364 : decode cL_law 364 = .ok (.goto 1792, 3) := db16.2.2.2.2.2.2.2.2.2.1
theorem dL_law_2156 : decode cL_law 2156 = .ok (.iinc 3 6, 3) := db16.2.2.2.2.2.2.2.2.2.2.1
theorem dL_law_367 : decode cL_law 367 = .ok (.aload_n 1, 1) := db16.2.2.2.2.2.2.2.2.2.2.2.1
theorem dL_law_368 : decode cL_law 368 = .ok (.aload_n 0, 1) := db16.2.2.2.2.2.2.2.2.2.2.2.2.1
theorem dL_law_369 : decode cL_law 369 = .ok (.iload_n 3, 1) := db16.2.2.2.2.2.2.2.2.2.2.2.2.2.1
theorem dL_law_370 : decode cL_law 370 = .ok (.iconst 1, 1) := db16.2.2.2.2.2.2.2.2.2.2.2.2.2.2.1
theorem dL_law_371 : decode cL_law 371 = .ok (.iadd, 1) := db16.2.2.2.2.2.2.2.2.2.2.2.2.2.2.2.1
theorem dL_law_372 : decode cL_law 372 = .ok (.iaload, 1) := db16.2.2.2.2.2.2.2.2.2.2.2.2.2.2.2.2.1
theorem dL_law_373 : decode cL_law 373 = .ok (.invokevirtual 18, 3) := db16.2.2.2.2.2.2.2.2.2.2.2.2.2.2.2.2.2.1
theorem dL_law_376 : decode cL_law 376 = .ok (.pop, 1) := db16.2.2.2.2.2.2.2.2.2.2.2.2.2.2.2.2.2.2.1
theorem dL_law_377 : decode cL_law 377 = .ok (.aload_n 2, 1) := db16.2.2.2.2.2.2.2.2.2.2.2.2.2.2.2.2.2.2.2.1
theorem dL_law_378 : decode cL_law 378 = .ok (.aload_n 0, 1) := db16.2.2.2.2.2.2.2.2.2.2.2.2.2.2.2.2.2.2.2.2.1
theorem dL_law_379 : decode cL_law 379 = .ok (.iload_n 3, 1) := db16.2.2.2.2.2.2.2.2.2.2.2.2.2.2.2.2.2.2.2.2.2.1
theorem dL_law_380 : decode cL_law 380 = .ok (.iconst 1, 1) := db16.2.2.2.2.2.2.2.2.2.2.2.2.2.2.2.2.2.2.2.2.2.2.1
theorem dL_law_381 : decode cL_law 381 = .ok (.iadd, 1) := db16.2.2.2.2.2.2.2.2.2.2.2.2.2.2.2.2.2.2.2.2.2.2.2
theorem db17 : (decode cL_law 382 = .ok (.iaload, 1)) ∧ (decode cL_law 383 = .ok (.invokevirtual 22, 3)) ∧ (decode cL_law 386 = .ok (.pop, 1)) ∧ (decode cL_law 387 = .ok (.goto 1769, 3)) ∧ (decode cL_law 390 = .ok (.aload_n 1, 1)) ∧ (decode cL_law 391 = .ok (.invokevirtual 23, 3)) ∧ (decode cL_law 394 = .ok (.pop, 1)) ∧ (decode cL_law 395 = .ok (.aload_n 2, 1)) ∧ (decode cL_law 396 = .ok (.invokevirtual 27, 3)) ∧ (decode cL_law 399 = .ok (.pop, 1)) ∧ (decode cL_law 400 = .ok (.goto 1756, 3)) ∧ (decode cL_law 403 = .ok (.aload_n 1, 1)) ∧ (decode cL_law 404 = .ok (.aload_n 0, 1)) ∧ (decode cL_law 405 = .ok (.iload_n 3, 1)) ∧ (decode cL_law 406 = .ok (.iconst 1, 1)) ∧ (decode cL_law 407 = .ok (.iadd, 1)) ∧ (decode cL_law 408 = .ok (.iaload, 1)) ∧ (decode cL_law 409 = .ok (.invokevirtual 28, 3)) ∧ (decode cL_law 412 = .ok (.pop, 1)) ∧ (decode cL_law 413 = .ok (.aload_n 2, 1)) ∧ (decode cL_law 414 = .ok (.aload_n 0, 1)) ∧ (decode cL_law 415 = .ok (.iload_n 3, 1)) ∧ (decode cL_law 416 = .ok (.iconst 1, 1)) ∧ (decode cL_law 417 = .ok (.iadd, 1)) := by decide +kernel
theorem dL_law_382 : decode cL_law 382 = .ok (.iaload, 1) := db17.1
theorem dL_law_383 : decode cL_law 383 = .ok (.invokevirtual 22, 3) := db17.2.1
theorem dL_law_386 : decode cL_law 386 = .ok (.pop, 1) := db17.2.2.1
theorem dL_law_387 : decode cL_law 387 = .ok (.goto 1769, 3) := db17.2.2.2.1
theorem dL_law_390 : decode cL_law 390 = .ok (.aload_n 1, 1) := db17.2.2.2.2.1
theorem dL_law_391 : decode cL_law 391 = .ok (.invokevirtual 23, 3) := db17.2.2.2.2.2.1
theorem dL_law_394 : decode cL_law 394 = .ok (.pop, 1) := db17.2.2.2.2.2.2.1
theorem dL_law_395 : decode cL_law 395 = .ok (.aload_n 2, 1) := db17.2.2.2.2.2.2.2.1
theorem dL_law_396 : decode cL_law 396 = .ok (.invokevirtual 27, 3) := db17.2.2.2.2.2.2.2.2.1
theorem dL_law_399 : decode cL_law 399 = .ok (.pop, 1) := db17.2.2.2.2.2.2.2.2.2.1
theorem dL_law_400 : decode cL_law 400 = .ok (.goto 1756, 3) := db17.2.2.2.2.2.2.2.2.2.2.1
theorem dL_law_403 : decode cL_law 403 = .ok (.aload_n 1, 1) := db17.2.2.2.2.2.2.2.2.2.2.2.1
theorem dL_law_404 : decode cL_law 404 = .ok (.aload_n 0, 1) := db17.2.2.2.2.2.2.2.2.2.2.2.2.1
theorem dL_law_405 : decode cL_law 405 = .ok (.iload_n 3, 1) := db17.2.2.2.2.2.2.2.2.2.2.2.2.2.1
theorem dL_law_406 : decode cL_law 406 = .ok (.iconst 1, 1) := db17.2.2.2.2.2.2.2.2.2.2.2.2.2.2.1
theorem dL_law_407 : decode cL_law 407 = .ok (.iadd, 1) := db17.2.2.2.2.2.2.2.2.2.2.2.2.2.2.2.1
theorem dL_law_408 : decode cL_law 408 = .ok (.iaload, 1) := db17.2.2.2.2.2.2.2.2.2.2.2.2.2.2.2.2.1
theorem dL_law_409 : decode cL_law 409 = .ok (.invokevirtual 28, 3) := db17.2.2.2.2.2.2.2.2.2.2.2.2.2.2.2.2.2.1
theorem dL_law_412 : decode cL_law 412 = .ok (.pop, 1) := db17.2.2.2.2.2.2.2.2.2.2.2.2.2.2.2.2.2.2.1
theorem dL_law_413 : decode cL_law 413 = .ok (.aload_n 2, 1) := db17.2.2.2.2.2.2.2.2.2.2.2.2.2.2.2.2.2.2.2.1
theorem dL_law_414 : decode cL_law 414 = .ok (.aload_n 0, 1) := db17.2.2.2.2.2.2.2.2.2.2.2.2.2.2.2.2.2.2.2.2.1
theorem dL_law_415 : decode cL_law 415 = .ok (.iload_n 3, 1) := db17.2.2.2.2.2.2.2.2.2.2.2.2.2.2.2.2.2.2.2.2.2.1
theorem dL_law_416 : decode cL_law 416 = .ok (.iconst 1, 1) := db17.2.2.2.2.2.2.2.2.2.2.2.2.2.2.2.2.2.2.2.2.2.2.1
theorem dL_law_417 : decode cL_law 417 = .ok (.iadd, 1) := db17.2.2.2.2.2.2.2.2.2.2.2.2.2.2.2.2.2.2.2.2.2.2.2
theorem db18 : (decode cL_law 418 = .ok (.iaload, 1)) ∧ (decode cL_law 419 = .ok (.invokevirtual 31, 3)) ∧ (decode cL_law 422 = .ok (.pop, 1)) ∧ (decode cL_law 423 = .ok (.goto 1733, 3)) ∧ (decode cL_law 426 = .ok (.aload_n 1, 1)) ∧ (decode cL_law 427 = .ok (.aload_n 0, 1)) ∧ (decode cL_law 428 = .ok (.iload_n 3, 1)) ∧ (decode cL_law 429 = .ok (.iconst 1, 1)) ∧ (decode cL_law 430 = .ok (.iadd, 1)) ∧ (decode cL_law 431 = .ok (.iaload, 1)) ∧ (decode cL_law 432 = .ok (.aload_n 0, 1)) ∧ (decode cL_law 433 = .ok (.iload_n 3, 1)) ∧ (decode cL_law 434 = .ok (.iconst 2, 1)) ∧ (decode cL_law 435 = .ok (.iadd, 1)) ∧ (decode cL_law 436 = .ok (.iaload, 1)) ∧ (decode cL_law 437 = .ok (.invokevirtual 32, 3)) ∧ (decode cL_law 440 = .ok (.pop, 1)) ∧ (decode cL_law 441 = .ok (.aload_n 2, 1)) ∧ (decode cL_law 442 = .ok (.aload_n 0, 1)) ∧ (decode cL_law 443 = .ok (.iload_n 3, 1)) ∧ (decode cL_law 444 = .ok (.iconst 1, 1)) ∧ (decode cL_law 445 = .ok (.iadd, 1)) ∧ (decode cL_law 446 = .ok (.iaload, 1)) ∧ (decode cL_law 447 = .ok (.aload_n 0, 1)) := by decide +kernel
theorem dL_law_418 : decode cL_law 418 = .ok (.iaload, 1) := db18.1
theorem dL_law_419 : decode cL_law 419 = .ok (.invokevirtual 31, 3) := db18.2.1
theorem dL_law_422 : decode cL_law 422 = .ok (.pop, 1) := db18.2.2.1
theorem dL_law_423 : decode cL_law 423 = .ok (.goto 1733, 3) := db18.2.2.2.1
theorem dL_law_426 : decode cL_law 426 = .ok (.aload_n 1, 1) := db18.2.2.2.2.1
theorem dL_law_427 : decode cL_law 427 = .ok (.aload_n 0, 1) := db18.2.2.2.2.2.1
theorem dL_law_428 : decode cL_law 428 = .ok (.iload_n 3, 1) := db18.2.2.2.2.2.2.1
theorem dL_law_429 : decode cL_law 429 = .ok (.iconst 1, 1) := db18.2.2.2.2.2.2.2.1
theorem dL_law_430 : decode cL_law 430 = .ok (.iadd, 1) := db18.2.2.2.2.2.2.2.2.1
theorem dL_law_431 : decode cL_law 431 = .ok (.iaload, 1) := db18.2.2.2.2.2.2.2.2.2.1
theorem dL_law_432 : decode cL_law 432 = .ok (.aload_n 0, 1) := db18.2.2.2.2.2.2.2.2.2.2.1
theorem dL_law_433 : decode cL_law 433 = .ok (.iload_n 3, 1) := db18.2.2.2.2.2.2.2.2.2.2.2.1
theorem dL_law_434 : decode cL_law 434 = .ok (.iconst 2, 1) := db18.2.2.2.2.2.2.2.2.2.2.2.2.1
theorem dL_law_435 : decode cL_law 435 = .ok (.iadd, 1) := db18.2.2.2.2.2.2.2.2.2.2.2.2.2.1
theorem dL_law_436 : decode cL_law 436 = .ok (.iaload, 1) := db18.2.2.2.2.2.2.2.2.2.2.2.2.2.2.1
theorem dL_law_437 : decode cL_law 437 = .ok (.invokevirtual 32, 3) := db18.2.2.2.2.2.2.2.2.2.2.2.2.2.2.2.1
theorem dL_law_440 : decode cL_law 440 = .ok (.pop, 1) := db18.2.2.2.2.2.2.2.2.2.2.2.2.2.2.2.2.1
theorem dL_law_441 : decode cL_law 441 = .ok (.aload_n 2, 1) := db18.2.2.2.2.2.2.2.2.2.2.2.2.2.2.2.2.2.1
theorem dL_law_442 : decode cL_law 442 = .ok (.aload_n 0, 1) := db18.2.2.2.2.2.2.2.2.2.2.2.2.2.2.2.2.2.2.1
theorem dL_law_443 : decode cL_law 443 = .ok (.iload_n 3, 1) := db18.2.2.2.2.2.2.2.2.2.2.2.2.2.2.2.2.2.2.2.1
theorem dL_law_444 : decode cL_law 444 = .ok (.iconst 1, 1) := db18.2.2.2.2.2.2.2.2.2.2.2.2.2.2.2.2.2.2.2.2.1
theorem dL_law_445 : decode cL_law 445 = .ok (.iadd, 1) := db18.2.2.2.2.2.2.2.2.2.2.2.2.2.2.2.2.2.2.2.2.2.1
theorem dL_law_446 : decode cL_law 446 = .ok (.iaload, 1) := db18.2.2.2.2.2.2.2.2.2.2.2.2.2.2.2.2.2.2.2.2.2.2.1
theorem dL_law_447 : decode cL_law 447 = .ok (.aload_n 0, 1) := db18.2.2.2.2.2.2.2.2.2.2.2.2.2.2.2.2.2.2.2.2.2.2.2
theorem db19 : (decode cL_law 448 = .ok (.iload_n 3, 1)) ∧ (decode cL_law 449 = .ok (.iconst 2, 1)) ∧ (decode cL_law 450 = .ok (.iadd, 1)) ∧ (decode cL_law 451 = .ok (.iaload, 1)) ∧ (decode cL_law 452 = .ok (.invokevirtual 36, 3)) ∧ (decode cL_law 455 = .ok (.pop, 1)) ∧ (decode cL_law 456 = .ok (.goto 1700, 3)) ∧ (decode cL_law 459 = .ok (.aload_n 1, 1)) ∧ (decode cL_law 460 = .ok (.aload_n 0, 1)) ∧ (decode cL_law 461 = .ok (.iload_n 3, 1)) ∧ (decode cL_law 462 = .ok (.iconst 1, 1)) ∧ (decode cL_law 463 = .ok (.iadd, 1)) ∧ (decode cL_law 464 = .ok (.iaload, 1)) ∧ (decode cL_law 465 = .ok (.aload_n 0, 1)) ∧ (decode cL_law 466 = .ok (.iload_n 3, 1)) ∧ (decode cL_law 467 = .ok (.iconst 2, 1)) ∧ (decode cL_law 468 = .ok (.iadd, 1)) ∧ (decode cL_law 469 = .ok (.iaload, 1)) ∧ (decode cL_law 470 = .ok (.invokevirtual 37, 3)) ∧ (decode cL_law 473 = .ok (.pop, 1)) ∧ (decode cL_law 474 = .ok (.aload_n 2, 1)) ∧ (decode cL_law 475 = .ok (.aload_n 0, 1)) ∧ (decode cL_law 476 = .ok (.iload_n 3, 1)) ∧ (decode cL_law 477 = .ok (.iconst 1, 1)) := by decide +kernel
theorem dL_law_448 : decode cL_law 448 = .ok (.iload_n 3, 1) := db19.1
theorem dL_law_449 : decode cL_law 449 = .ok (.iconst 2, 1) := db19.2.1
theorem dL_law_450 : decode cL_law 450 = .ok (.iadd, 1) := db19.2.2.1
theorem dL_law_451 : decode cL_law 451 = .ok (.iaload, 1) := db19.2.2.2.1
theorem dL_law_452 : decode cL_law 452 = .ok (.invokevirtual 36, 3) := db19.2.2.2.2.1
theorem dL_law_455 : decode cL_law 455 = .ok (.pop, 1) := db19.2.2.2.2.2.1
theorem dL_law_456 : decode cL_law 456 = .ok (.goto 1700, 3) := db19.2.2.2.2.2.2.1
theorem dL_law_459 : decode cL_law 459 = .ok (.aload_n 1, 1) := db19.2.2.2.2.2.2.2.1
theorem dL_law_460 : decode cL_law 460 = .ok (.aload_n 0, 1) := db19.2.2.2.2.2.2.2.2.1
theorem dL_law_461 : decode cL_law 461 = .ok (.iload_n 3, 1) := db19.2.2.2.2.2.2.2.2.2.1
theorem dL_law_462 : decode cL_law 462 = .ok (.iconst 1, 1) := db19.2.2.2.2.2.2.2.2.2.2.1
theorem dL_law_463 : decode cL_law 463 = .ok (.iadd, 1) := db19.2.2.2.2.2.2.2.2.2.2.2.1
theorem dL_law_464 : decode cL_law 464 = .ok (.iaload, 1) := db19.2.2.2.2.2.2.2.2.2.2.2.2.1
theorem dL_law_465 : decode cL_law 465 = .ok (.aload_n 0, 1) := db19.2.2.2.2.2.2.2.2.2.2.2.2.2.1
theorem dL_law_466 : decode cL_law 466 = .ok (.iload_n 3, 1) := db19.2.2.2.2.2.2.2.2.2.2.2.2.2.2.1
theorem dL_law_467 : decode cL_law 467 = .ok (.iconst 2, 1) := db19.2.2.2.2.2.2.2.2.2.2.2.2.2.2.2.1
theorem dL_law_468 : decode cL_law 468 = .ok (.iadd, 1) := db19.2.2.2.2.2.2.2.2.2.2.2.2.2.2.2.2.1
theorem dL_law_469 : decode cL_law 469 = .ok (.iaload, 1) := db19.2.2.2.2.2.2.2.2.2.2.2.2.2.2.2.2.2.1
theorem dL_law_470 : decode cL_law 470 = .ok (.invokevirtual 37, 3) := db19.2.2.2.2.2.2.2.2.2.2.2.2.2.2.2.2.2.2.1
theorem dL_law_473 : decode cL_law 473 = .ok (.pop, 1) := db19.2.2.2.2.2.2.2.2.2.2.2.2.2.2.2.2.2.2.2.1
theorem dL_law_474 : decode cL_law 474 = .ok (.aload_n 2, 1) := db19.2.2.2.2.2.2.2.2.2.2.2.2.2.2.2.2.2.2.2.2.1
theorem dL_law_475 : decode cL_law 475 = .ok (.aload_n 0, 1) := db19.2.2.2.2.2.2.2.2.2.2.2.2.2.2.2.2.2.2.2.2.2.1
theorem dL_law_476 : decode cL_law 476 = .ok (.iload_n 3, 1) := db19.2.2.2.2.2.2.2.2.2.2.2.2.2.2.2.2.2.2.2.2.2.2.1
theorem dL_law_477 : decode cL_law 477 = .ok (.iconst 1, 1) := db19.2.2.2.2.2.2.2.2.2.2.2.2.2.2.2.2.2.2.2.2.2.2.2
theorem db20 : (decode cL_law 478 = .ok (.iadd, 1)) ∧ (decode cL_law 479 = .ok (.iaload, 1)) ∧ (decode cL_law 480 = .ok (.aload_n 0, 1)) ∧ (decode cL_law 481 = .ok (.iload_n 3, 1)) ∧ (decode cL_law 482 = .ok (.iconst 2, 1)) ∧ (decode cL_law 483 = .ok (.iadd, 1)) ∧ (decode cL_law 484 = .ok (.iaload, 1)) ∧ (decode cL_law 485 = .ok (.invokevirtual 40, 3)) ∧ (decode cL_law 488 = .ok (.pop, 1)) ∧ (decode cL_law 489 = .ok (.goto 1667, 3)) ∧ (decode cL_law 492 = .ok (.aload_n 1, 1)) ∧ (decode cL_law 493 = .ok (.aload_n 0, 1)) ∧ (decode cL_law 494 = .ok (.iload_n 3, 1)) ∧ (decode cL_law 495 = .ok (.iconst 1, 1)) ∧ (decode cL_law 496 = .ok (.iadd, 1)) ∧ (decode cL_law 497 = .ok (.iaload, 1)) ∧ (decode cL_law 498 = .ok (.aload_n 0, 1)) ∧ (decode cL_law 499 = .ok (.iload_n 3, 1)) ∧ (decode cL_law 500 = .ok (.iconst 2, 1)) ∧ (decode cL_law 501 = .ok (.iadd, 1)) ∧ (decode cL_law 502 = .ok (.iaload, 1)) ∧ (decode cL_law 503 = .ok (.invokevirtual 41, 3)) ∧ (decode cL_law 506 = .ok (.pop, 1)) ∧ (decode cL_law 507 = .ok (.aload_n 2, 1)) := by decide +kernel
theorem dL_law_478 : decode cL_law 478 = .ok (.iadd, 1) := db20.1
theorem dL_law_479 : decode cL_law 479 = .ok (.iaload, 1) := db20.2.1
theorem dL_law_480 : decode cL_law 480 = .ok (.aload_n 0, 1) := db20.2.2.1
theorem dL_law_481 : decode cL_law 481 = .ok (.iload_n 3, 1) := db20.2.2.2.1
theorem dL_law_482 : decode cL_law 482 = .ok (.iconst 2, 1) := db20.2.2.2.2.1
theorem dL_law_483 : decode cL_law 483 = .ok (.iadd, 1) := db20.2.2.2.2.2.1
theorem dL_law_484 : decode cL_law 484 = .ok (.iaload, 1) := db20.2.2.2.2.2.2.1
theorem dL_law_485 : decode cL_law 485 = .ok (.invokevirtual 40, 3) := db20.2.2.2.2.2.2.2.1
theorem dL_law_488 : decode cL_law 488 = .ok (.pop, 1) := db20.2.2.2.2.2.2.2.2.1
theorem dL_law_489 : decode cL_law 489 = .ok (.goto 1667, 3) := db20.2.2.2.2.2.2.2.2.2.1
theorem dL_law_492 : decode cL_law 492 = .ok (.aload_n 1, 1) := db20.2.2.2.2.2.2.2.2.2.2.1
theorem dL_law_493 : decode cL_law 493 = .ok (.aload_n 0, 1) := db20.2.2.2.2.2.2.2.2.2.2.2.1
theorem dL_law_494 : decode cL_law 494 = .ok (.iload_n 3, 1) := db20.2.2.2.2.2.2.2.2.2.2.2.2.1
theorem dL_law_495 : decode cL_law 495 = .ok (.iconst 1, 1) := db20.2.2.2.2.2.2.2.2.2.2.2.2.2.1
theorem dL_law_496 : decode cL_law 496 = .ok (.iadd, 1) := db20.2.2.2.2.2.2.2.2.2.2.2.2.2.2.1
theorem dL_law_497 : decode cL_law 497 = .ok (.iaload, 1) := db20.2.2.2.2.2.2.2.2.2.2.2.2.2.2.2.1
theorem dL_law_498 : decode cL_law 498 = .ok (.aload_n 0, 1) := db20.2.2.2.2.2.2.2.2.2.2.2.2.2.2.2.2.1
theorem dL_law_499 : decode cL_law 499 = .ok (.iload_n 3, 1) := db20.2.2.2.2.2.2.2.2.2.2.2.2.2.2.2.2.2.1
theorem dL_law_500 : decode cL_law 500 = .ok (.iconst 2, 1) := db20.2.2.2.2.2.2.2.2.2.2.2.2.2.2.2.2.2.2.1
theorem dL_law_501 : decode cL_law 501 = .ok (.iadd, 1) := db20.2.2.2.2.2.2.2.2.2.2.2.2.2.2.2.2.2.2.2.1
theorem dL_law_502 : decode cL_law 502 = .ok (.iaload, 1) := db20.2.2.2.2.2.2.2.2.2.2.2.2.2.2.2.2.2.2.2.2.1
theorem dL_law_503 : decode cL_law 503 = .ok (.invokevirtual 41, 3) := db20.2.2.2.2.2.2.2.2.2.2.2.2.2.2.2.2.2.2.2.2.2.1
theorem dL_law_506 : decode cL_law 506 = .ok (.pop, 1) := db20.2.2.2.2.2.2.2.2.2.2.2.2.2.2.2.2.2.2.2.2.2.2.1
theorem dL_law_507 : decode cL_law 507 = .ok (.aload_n 2, 1) := db20.2.2.2.2.2.2.2.2.2.2.2.2.2.2.2.2.2.2.2.2.2.2.2
theorem db21 : (decode cL_law 508 = .ok (.aload_n 0, 1)) ∧ (decode cL_law 509 = .ok (.iload_n 3, 1)) ∧ (decode cL_law 510 = .ok (.iconst 1, 1)) ∧ (decode cL_law 511 = .ok (.iadd, 1)) ∧ (decode cL_law 512 = .ok (.iaload, 1)) ∧ (decode cL_law 513 = .ok (.aload_n 0, 1)) ∧ (decode cL_law 514 = .ok (.iload_n 3, 1)) ∧ (decode cL_law 515 = .ok (.iconst 2, 1)) ∧ (decode cL_law 516 = .ok (.iadd, 1)) ∧ (decode cL_law 517 = .ok (.iaload, 1)) ∧ (decode cL_law 518 = .ok (.invokevirtual 44, 3)) ∧ (decode cL_law 521 = .ok (.pop, 1)) ∧ (decode cL_law 522 = .ok (.goto 1634, 3)) ∧ (decode cL_law 525 = .ok (.aload_n 1, 1)) ∧ (decode cL_law 526 = .ok (.aload_n 0, 1)) ∧ (decode cL_law 527 = .ok (.iload_n 3, 1)) ∧ (decode cL_law 528 = .ok (.iconst 1, 1)) ∧ (decode cL_law 529 = .ok (.iadd, 1)) ∧ (decode cL_law 530 = .ok (.iaload, 1)) ∧ (decode cL_law 531 = .ok (.aload_n 0, 1)) ∧ (decode cL_law 532 = .ok (.iload_n 3, 1)) ∧ (decode cL_law 533 = .ok (.iconst 2, 1)) ∧ (decode cL_law 534 = .ok (.iadd, 1)) ∧ (decode cL_law 535 = .ok (.iaload, 1)) := by decide +kernel
theorem dL_law_508 : decode cL_law 508 = .ok (.aload_n 0, 1) := db21.1
theorem dL_law_509 : decode cL_law 509 = .ok (.iload_n 3, 1) := db21.2.1
theorem dL_law_510 : decode cL_law 510 = .ok (.iconst 1, 1) := db21.2.2.1
theorem dL_law_511 : decode cL_law 511 = .ok (.iadd, 1) := db21.2.2.2.1
theorem dL_law_512 : decode cL_law 512 = .ok (.iaload, 1) := db21.2.2.2.2.1
theorem dL_law_513 : decode cL_law 513 = .ok (.aload_n 0, 1) := db21.2.2.2.2.2.1
theorem dL_law_514 : decode cL_law 514 = .ok (.iload_n 3, 1) := db21.2.2.2.2.2.2.1
theorem dL_law_515 : decode cL_law 515 = .ok (.iconst 2, 1) := db21.2.2.2.2.2.2.2.1
theorem dL_law_516 : decode cL_law 516 = .ok (.iadd, 1) := db21.2.2.2.2.2.2.2.2.1
theorem dL_law_517 : decode cL_law 517 = .ok (.iaload, 1) := db21.2.2.2.2.2.2.2.2.2.1
theorem dL_law_518 : decode cL_law 518 = .ok (.invokevirtual 44, 3) := db21.2.2.2.2.2.2.2.2.2.2.1
theorem dL_law_521 : decode cL_law 521 = .ok (.pop, 1) := db21.2.2.2.2.2.2.2.2.2.2.2.1
theorem dL_law_522 : decode cL_law 522 = .ok (.goto 1634, 3) := db21.2.2.2.2.2.2.2.2.2.2.2.2.1
theorem dL_law_525 : decode cL_law 525 = .ok (.aload_n 1, 1) := db21.2.2.2.2.2.2.2.2.2.2.2.2.2.1
theorem dL_law_526 : decode cL_law 526 = .ok (.aload_n 0, 1) := db21.2.2.2.2.2.2.2.2.2.2.2.2.2.2.1
theorem dL_law_527 : decode cL_law 527 = .ok (.iload_n 3, 1) := db21.2.2.2.2.2.2.2.2.2.2.2.2.2.2.2.1
theorem dL_law_528 : decode cL_law 528 = .ok (.iconst 1, 1) := db21.2.2.2.2.2.2.2.2.2.2.2.2.2.2.2.2.1
theorem dL_law_529 : decode cL_law 529 = .ok (.iadd, 1) := db21.2.2.2.2.2.2.2.2.2.2.2.2.2.2.2.2.2.1
theorem dL_law_530 : decode cL_law 530 = .ok (.iaload, 1) := db21.2.2.2.2.2.2.2.2.2.2.2.2.2.2.2.2.2.2.1
theorem dL_law_531 : decode cL_law 531 = .ok (.aload_n 0, 1) := db21.2.2.2.2.2.2.2.2.2.2.2.2.2.2.2.2.2.2.2.1
theorem dL_law_532 : decode cL_law 532 = .ok (.iload_n 3, 1) := db21.2.2.2.2.2.2.2.2.2.2.2.2.2.2.2.2.2.2.2.2.1
theorem dL_law_533 : decode cL_law 533 = .ok (.iconst 2, 1) := db21.2.2.2.2.2.2.2.2.2.2.2.2.2.2.2.2.2.2.2.2.2.1
theorem dL_law_534 : decode cL_law 534 = .ok (.iadd, 1) := db21.2.2.2.2.2.2.2.2.2.2.2.2.2.2.2.2.2.2.2.2.2.2.1
theorem dL_law_535 : decode cL_law 535 = .ok (.iaload, 1) := db21.2.2.2.2.2.2.2.2.2.2.2.2.2.2.2.2.2.2.2.2.2.2.2
theorem db22 : (decode cL_law 536 = .ok (.invokevirtual 45, 3)) ∧ (decode cL_law 539 = .ok (.pop, 1)) ∧ (decode cL_law 540 = .ok (.aload_n 2, 1)) ∧ (decode cL_law 541 = .ok (.aload_n 0, 1)) ∧ (decode cL_law 542 = .ok (.iload_n 3, 1)) ∧ (decode cL_law 543 = .ok (.iconst 1, 1)) ∧ (decode cL_law 544 = .ok (.iadd, 1)) ∧ (decode cL_law 545 = .ok (.iaload, 1)) ∧ (decode cL_law 546 = .ok (.aload_n 0, 1)) ∧ (decode cL_law 547 = .ok (.iload_n 3, 1)) ∧ (decode cL_law 548 = .ok (.iconst 2, 1)) ∧ (decode cL_law 549 = .ok (.iadd, 1)) ∧ (decode cL_law 550 = .ok (.iaload, 1)) ∧ (decode cL_law 551 = .ok (.invokevirtual 48, 3)) ∧ (decode cL_law 554 = .ok (.pop, 1)) ∧ (decode cL_law 555 = .ok (.goto 1601, 3)) ∧ (decode cL_law 558 = .ok (.aload_n 1, 1)) ∧ (decode cL_law 559 = .ok (.aload_n 0, 1)) ∧ (decode cL_law 560 = .ok (.iload_n 3, 1)) ∧ (decode cL_law 561 = .ok (.iconst 1, 1)) ∧ (decode cL_law 562 = .ok (.iadd, 1)) ∧ (decode cL_law 563 = .ok (.iaload, 1)) ∧ (decode cL_law 564 = .ok (.invokevirtual 49, 3)) ∧ (decode cL_law 567 = .ok (.pop, 1)) := by decide +kernel
theorem dL_law_536 : decode cL_law 536 = .ok (.invokevirtual 45, 3) := db22.1
theorem dL_law_539 : decode cL_law 539 = .ok (.pop, 1) := db22.2.1
theorem dL_law_540 : decode cL_law 540 = .ok (.aload_n 2, 1) := db22.2.2.1
theorem dL_law_541 : decode cL_law 541 = .ok (.aload_n 0, 1) := db22.2.2.2.1
theorem dL_law_542 : decode cL_law 542 = .ok (.iload_n 3, 1) := db22.2.2.2.2.1
theorem dL_law_543 : decode cL_law 543 = .ok (.iconst 1, 1) := db22.2.2.2.2.2.1
theorem dL_law_544 : decode cL_law 544 = .ok (.iadd, 1) := db22.2.2.2.2.2.2.1
theorem dL_law_545 : decode cL_law 545 = .ok (.iaload, 1) := db22.2.2.2.2.2.2.2.1
theorem dL_law_546 : decode cL_law 546 = .ok (.aload_n 0, 1) := db22.2.2.2.2.2.2.2.2.1
theorem dL_law_547 : decode cL_law 547 = .ok (.iload_n 3, 1) := db22.2.2.2.2.2.2.2.2.2.1
theorem dL_law_548 : decode cL_law 548 = .ok (.iconst 2, 1) := db22.2.2.2.2.2.2.2.2.2.2.1
theorem dL_law_549 : decode cL_law 549 = .ok (.iadd, 1) := db22.2.2.2.2.2.2.2.2.2.2.2.1
theorem dL_law_550 : decode cL_law 550 = .ok (.iaload, 1) := db22.2.2.2.2.2.2.2.2.2.2.2.2.1
theorem dL_law_551 : decode cL_law 551 = .ok (.invokevirtual 48, 3) := db22.2.2.2.2.2.2.2.2.2.2.2.2.2.1
theorem dL_law_554 : decode cL_law 554 = .ok (.pop, 1) := db22.2.2.2.2.2.2.2.2.2.2.2.2.2.2.1
theorem dL_law_555 : decode cL_law 555 = .ok (.goto 1601, 3) := db22.2.2.2.2.2.2.2.2.2.2.2.2.2.2.2.1
theorem dL_law_558 : decode cL_law 558 = .ok (.aload_n 1, 1) := db22.2.2.2.2.2.2.2.2.2.2.2.2.2.2.2.2.1
theorem dL_law_559 : decode cL_law 559 = .ok (.aload_n 0, 1) := db22.2.2.2.2.2.2.2.2.2.2.2.2.2.2.2.2.2.1
theorem dL_law_560 : decode cL_law 560 = .ok (.iload_n 3, 1) := db22.2.2.2.2.2.2.2.2.2.2.2.2.2.2.2.2.2.2.1
theorem dL_law_561 : decode cL_law 561 = .ok (.iconst 1, 1) := db22.2.2.2.2.2.2.2.2.2.2.2.2.2.2.2.2.2.2.2.1
theorem dL_law_562 : decode cL_law 562 = .ok (.iadd, 1) := db22.2.2.2.2.2.2.2.2.2.2.2.2.2.2.2.2.2.2.2.2.1
theorem dL_law_563 : decode cL_law 563 = .ok (.iaload, 1) := db22.2.2.2.2.2.2.2.2.2.2.2.2.2.2.2.2.2.2.2.2.2.1
theorem dL_law_564 : decode cL_law 564 = .ok (.invokevirtual 49, 3) := db22.2.2.2.2.2.2.2.2.2.2.2.2.2.2.2.2.2.2.2.2.2.2.1
theorem dL_law_567 : decode cL_law 567 = .ok (.pop, 1) := db22.2.2.2.2.2.2.2.2.2.2.2.2.2.2.2.2.2.2.2.2.2.2.2
theorem db23 : (decode cL_law 568 = .ok (.aload_n 2, 1)) ∧ (decode cL_law 569 = .ok (.aload_n 0, 1)) ∧ (decode cL_law 570 = .ok (.iload_n 3, 1)) ∧ (decode cL_law 571 = .ok (.iconst 1, 1)) ∧ (decode cL_law 572 = .ok (.iadd, 1)) ∧ (decode cL_law 573 = .ok (.iaload, 1)) ∧ (decode cL_law 574 = .ok (.invokevirtual 52, 3)) ∧ (decode cL_law 577 = .ok (.pop, 1)) ∧ (decode cL_law 578 = .ok (.goto 1578, 3)) ∧ (decode cL_law 581 = .ok (.aload_n 1, 1)) ∧ (decode cL_law 582 = .ok (.invokevirtual 53, 3)) ∧ (decode cL_law 585 = .ok (.pop, 1)) ∧ (decode cL_law 586 = .ok (.aload_n 2, 1)) ∧ (decode cL_law 587 = .ok (.invokevirtual 56, 3)) ∧ (decode cL_law 590 = .ok (.pop, 1)) ∧ (decode cL_law 591 = .ok (.goto 1565, 3)) ∧ (decode cL_law 594 = .ok (.aload_n 1, 1)) ∧ (decode cL_law 595 = .ok (.invokevirtual 57, 3)) ∧ (decode cL_law 598 = .ok (.pop, 1)) ∧ (decode cL_law 599 = .ok (.aload_n 2, 1)) ∧ (decode cL_law 600 = .ok (.invokevirtual 60, 3)) ∧ (decode cL_law 603 = .ok (.pop, 1)) ∧ (decode cL_law 604 = .ok (.goto 1552, 3)) ∧ (decode cL_law 607 = .ok (.aload_n 1, 1)) := by decide +kernel
theorem dL_law_568 : decode cL_law 568 = .ok (.aload_n 2, 1) := db23.1
theorem dL_law_569 : decode cL_law 569 = .ok (.aload_n 0, 1) := db23.2.1
theorem dL_law_570 : decode cL_law 570 = .ok (.iload_n 3, 1) := db23.2.2.1
theorem dL_law_571 : decode cL_law 571 = .ok (.iconst 1, 1) := db23.2.2.2.1
theorem dL_law_572 : decode cL_law 572 = .ok (.iadd, 1) := db23.2.2.2.2.1
theorem dL_law_573 : decode cL_law 573 = .ok (.iaload, 1) := db23.2.2.2.2.2.1
theorem dL_law_574 : decode cL_law 574 = .ok (.invokevirtual 52, 3) := db23.2.2.2.2.2.2.1
theorem dL_law_577 : decode cL_law 577 = .ok (.pop, 1) := db23.2.2.2.2.2.2.2.1
theorem dL_law_578 : decode cL_law 578 = .ok (.goto 1578, 3) := db23.2.2.2.2.2.2.2.2.1
theorem dL_law_581 : decode cL_law 581 = .ok (.aload_n 1, 1) := db23.2.2.2.2.2.2.2.2.2.1
theorem dL_law_582 : decode cL_law 582 = .ok (.invokevirtual 53, 3) := db23.2.2.2.2.2.2.2.2.2.2.1
theorem dL_law_585 : decode cL_law 585 = .ok (.pop, 1) := db23.2.2.2.2.2.2.2.2.2.2.2.1
theorem dL_law_586 : decode cL_law 586 = .ok (.aload_n 2, 1) := db23.2.2.2.2.2.2.2.2.2.2.2.2.1
theorem dL_law_587 : decode cL_law 587 = .ok (.invokevirtual 56, 3) := db23.2.2.2.2.2.2.2.2.2.2.2.2.2.1
theorem dL_law_590 : decode cL_law 590 = .ok (.pop, 1) := db23.2.2.2.2.2.2.2.2.2.2.2.2.2.2.1
theorem dL_law_591 : decode cL_law 591 = .ok (.goto 1565, 3) := db23.2.2.2.2.2.2.2.2.2.2.2.2.2.2.2.1
theorem dL_law_594 : decode cL_law 594 = .ok (.aload_n 1, 1) := db23.2.2.2.2.2.2.2.2.2.2.2.2.2.2.2.2.1
theorem dL_law_595 : decode cL_law 595 = .ok (.invokevirtual 57, 3) := db23.2.2.2.2.2.2.2.2.2.2.2.2.2.2.2.2.2.1
theorem dL_law_598 : decode cL_law 598 = .ok (.pop, 1) := db23.2.2.2.2.2.2.2.2.2.2.2.2.2.2.2.2.2.2.1
theorem dL_law_599 : decode cL_law 599 = .ok (.aload_n 2, 1) := db23.2.2.2.2.2.2.2.2.2.2.2.2.2.2.2.2.2.2.2.1
theorem dL_law_600 : decode cL_law 600 = .ok (.invokevirtual 60, 3) := db23.2.2.2.2.2.2.2.2.2.2.2.2.2.2.2.2.2.2.2.2.1
theorem dL_law_603 : decode cL_law 603 = .ok (.pop, 1) := db23.2.2.2.2.2.2.2.2.2.2.2.2.2.2.2.2.2.2.2.2.2.1
theorem dL_law_604 : decode cL_law 604 = .ok (.goto 1552, 3) := db23.2.2.2.2.2.2.2.2.2.2.2.2.2.2.2.2.2.2.2.2.2.2.1
theorem dL_law_607 : decode cL_law 607 = .ok (.aload_n 1, 1) := db23.2.2.2.2.2.2.2.2.2.2.2.2.2.2.2.2.2.2.2.2.2.2.2
theorem db24 : (decode cL_law 608 = .ok (.invokevirtual 61, 3)) ∧ (decode cL_law 611 = .ok (.pop, 1)) ∧ (decode cL_law 612 = .ok (.aload_n 2, 1)) ∧ (decode cL_law 613 = .ok (.invokevirtual 64, 3)) ∧ (decode cL_law 616 = .ok (.pop, 1)) ∧ (decode cL_law 617 = .ok (.goto 1539, 3)) ∧ (decode cL_law 620 = .ok (.aload_n 1, 1)) ∧ (decode cL_law 621 = .ok (.aload_n 0, 1)) ∧ (decode cL_law 622 = .ok (.iload_n 3, 1)) ∧ (decode cL_law 623 = .ok (.iconst 1, 1)) ∧ (decode cL_law 624 = .ok (.iadd, 1)) ∧ (decode cL_law 625 = .ok (.iaload, 1)) ∧ (decode cL_law 626 = .ok (.invokevirtual 65, 3)) ∧ (decode cL_law 629 = .ok (.pop, 1)) ∧ (decode cL_law 630 = .ok (.aload_n 2, 1)) ∧ (decode cL_law 631 = .ok (.aload_n 0, 1)) ∧ (decode cL_law 632 = .ok (.iload_n 3, 1)) ∧ (decode cL_law 633 = .ok (.iconst 1, 1)) ∧ (decode cL_law 634 = .ok (.iadd, 1)) ∧ (decode cL_law 635 = .ok (.iaload, 1)) ∧ (decode cL_law 636 = .ok (.invokevirtual 68, 3)) ∧ (decode cL_law 639 = .ok (.pop, 1)) ∧ (decode cL_law 640 = .ok (.goto 1516, 3)) ∧ (decode cL_law 643 = .ok (.aload_n 1, 1)) := by decide +kernel
theorem dL_law_608 : decode cL_law 608 = .ok (.invokevirtual 61, 3) := db24.1
theorem dL_law_611 : decode cL_law 611 = .ok (.pop, 1) := db24.2.1
theorem dL_law_612 : decode cL_law 612 = .ok (.aload_n 2, 1) := db24.2.2.1
theorem dL_law_613 : decode cL_law 613 = .ok (.invokevirtual 64, 3) := db24.2.2.2.1
theorem dL_law_616 : decode cL_law 616 = .ok (.pop, 1) := db24.2.2.2.2.1
theorem dL_law_617 : decode cL_law 617 = .ok (.goto 1539, 3) := db24.2.2.2.2.2.1
theorem dL_law_620 : decode cL_law 620 = .ok (.aload_n 1, 1) := db24.2.2.2.2.2.2.1
theorem dL_law_621 : decode cL_law 621 = .ok (.aload_n 0, 1) := db24.2.2.2.2.2.2.2.1
theorem dL_law_622 : decode cL_law 622 = .ok (.iload_n 3, 1) := db24.2.2.2.2.2.2.2.2.1
theorem dL_law_623 : decode cL_law 623 = .ok (.iconst 1, 1) := db24.2.2.2.2.2.2.2.2.2.1
theorem dL_law_624 : decode cL_law 624 = .ok (.iadd, 1) := db24.2.2.2.2.2.2.2.2.2.2.1
theorem dL_law_625 : decode cL_law 625 = .ok (.iaload, 1) := db24.2.2.2.2.2.2.2.2.2.2.2.1
theorem dL_law_626 : decode cL_law 626 = .ok (.invokevirtual 65, 3) := db24.2.2.2.2.2.2.2.2.2.2.2.2.1
theorem dL_law_629 : decode cL_law 629 = .ok (.pop, 1) := db24.2.2.2.2.2.2.2.2.2.2.2.2.2.1
theorem dL_law_630 : decode cL_law 630 = .ok (.aload_n 2, 1) := db24.2.2.2.2.2.2.2.2.2.2.2.2.2.2.1
theorem dL_law_631 : decode cL_law 631 = .ok (.aload_n 0, 1) := db24.2.2.2.2.2.2.2.2.2.2.2.2.2.2.2.1
theorem dL_law_632 : decode cL_law 632 = .ok (.iload_n 3, 1) := db24.2.2.2.2.2.2.2.2.2.2.2.2.2.2.2.2.1
theorem dL_law_633 : decode cL_law 633 = .ok (.iconst 1, 1) := db24.2.2.2.2.2.2.2.2.2.2.2.2.2.2.2.2.2.1
theorem dL_law_634 : decode cL_law 634 = .ok (.iadd, 1) := db24.2.2.2.2.2.2.2.2.2.2.2.2.2.2.2.2.2.2.1
theorem dL_law_635 : decode cL_law 635 = .ok (.iaload, 1) := db24.2.2.2.2.2.2.2.2.2.2.2.2.2.2.2.2.2.2.2.1
theorem dL_law_636 : decode cL_law 636 = .ok (.invokevirtual 68, 3) := db24.2.2.2.2.2.2.2.2.2.2.2.2.2.2.2.2.2.2.2.2.1
theorem dL_law_639 : decode cL_law 639 = .ok (.pop, 1) := db24.2.2.2.2.2.2.2.2.2.2.2.2.2.2.2.2.2.2.2.2.2.1
theorem dL_law_640 : decode cL_law 640 = .ok (.goto 1516, 3) := db24.2.2.2.2.2.2.2.2.2.2.2.2.2.2.2.2.2.2.2.2.2.2.1
theorem dL_law_643 : decode cL_law 643 = .ok (.aload_n 1, 1) := db24.2.2.2.2.2.2.2.2.2.2.2.2.2.2.2.2.2.2.2.2.2.2.2
theorem db25 : (decode cL_law 644 = .ok (.aload_n 0, 1)) ∧ (decode cL_law 645 = .ok (.iload_n 3, 1)) ∧ (decode cL_law 646 = .ok (.iconst 1, 1)) ∧ (decode cL_law 647 = .ok (.iadd, 1)) ∧ (decode cL_law 648 = .ok (.iaload, 1)) ∧ (decode cL_law 649 = .ok (.invokevirtual 69, 3)) ∧ (decode cL_law 652 = .ok (.pop, 1)) ∧ (decode cL_law 653 = .ok (.aload_n 2, 1)) ∧ (decode cL_law 654 = .ok (.aload_n 0, 1)) ∧ (decode cL_law 655 = .ok (.iload_n 3, 1)) ∧ (decode cL_law 656 = .ok (.iconst 1, 1)) ∧ (decode cL_law 657 = .ok (.iadd, 1)) ∧ (decode cL_law 658 = .ok (.iaload, 1)) ∧ (decode cL_law 659 = .ok (.invokevirtual 72, 3)) ∧ (decode cL_law 662 = .ok (.pop, 1)) ∧ (decode cL_law 663 = .ok (.goto 1493, 3)) ∧ (decode cL_law 666 = .ok (.aload_n 1, 1)) ∧ (decode cL_law 667 = .ok (.invokevirtual 73, 3)) ∧ (decode cL_law 670 = .ok (.pop, 1)) ∧ (decode cL_law 671 = .ok (.aload_n 2, 1)) ∧ (decode cL_law 672 = .ok (.invokevirtual 76, 3)) ∧ (decode cL_law 675 = .ok (.pop, 1)) ∧ (decode cL_law 676 = .ok (.goto 1480, 3)) ∧ (decode cL_law 679 = .ok (.aload_n 1, 1)) := by decide +kernel
theorem dL_law_644 : decode cL_law 644 = .ok (.aload_n 0, 1) := db25.1
theorem dL_law_645 : decode cL_law 645 = .ok (.iload_n 3, 1) := db25.2.1
theorem dL_law_646 : decode cL_law 646 = .ok (.iconst 1, 1) := db25.2.2.1
theorem dL_law_647 : decode cL_law 647 = .ok (.iadd, 1) := db25.2.2.2.1
theorem dL_law_648 : decode cL_law 648 = .ok (.iaload, 1) := db25.2.2.2.2.1
theorem dL_law_649 : decode cL_law 649 = .ok (.invokevirtual 69, 3) := db25.2.2.2.2.2.1
theorem dL_law_652 : decode cL_law 652 = .ok (.pop, 1) := db25.2.2.2.2.2.2.1
theorem dL_law_653 : decode cL_law 653 = .ok (.aload_n 2, 1) := db25.2.2.2.2.2.2.2.1
theorem dL_law_654 : decode cL_law 654 = .ok (.aload_n 0, 1) := db25.2.2.2.2.2.2.2.2.1
theorem dL_law_655 : decode cL_law 655 = .ok (.iload_n 3, 1) := db25.2.2.2.2.2.2.2.2.2.1
theorem dL_law_656 : decode cL_law 656 = .ok (.iconst 1, 1) := db25.2.2.2.2.2.2.2.2.2.2.1
theorem dL_law_657 : decode cL_law 657 = .ok (.iadd, 1) := db25.2.2.2.2.2.2.2.2.2.2.2.1
theorem dL_law_658 : decode cL_law 658 = .ok (.iaload, 1) := db25.2.2.2.2.2.2.2.2.2.2.2.2.1
theorem dL_law_659 : decode cL_law 659 = .ok (.invokevirtual 72, 3) := db25.2.2.2.2.2.2.2.2.2.2.2.2.2.1
theorem dL_law_662 : decode cL_law 662 = .ok (.pop, 1) := db25.2.2.2.2.2.2.2.2.2.2.2.2.2.2.1
theorem dL_law_663 : decode cL_law 663 = .ok (.goto 1493, 3) := db25.2.2.2.2.2.2.2.2.2.2.2.2.2.2.2.1
theorem dL_law_666 : decode cL_law 666 = .ok (.aload_n 1, 1) := db25.2.2.2.2.2.2.2.2.2.2.2.2.2.2.2.2.1
theorem dL_law_667 : decode cL_law 667 = .ok (.invokevirtual 73, 3) := db25.2.2.2.2.2.2.2.2.2.2.2.2.2.2.2.2.2.1
theorem dL_law_670 : decode cL_law 670 = .ok (.pop, 1) := db25.2.2.2.2.2.2.2.2.2.2.2.2.2.2.2.2.2.2.1
theorem dL_law_671 : decode cL_law 671 = .ok (.aload_n 2, 1) := db25.2.2.2.2.2.2.2.2.2.2.2.2.2.2.2.2.2.2.2.1
theorem dL_law_672 : decode cL_law 672 = .ok (.invokevirtual 76, 3) := db25.2.2.2.2.2.2.2.2.2.2.2.2.2.2.2.2.2.2.2.2.1
theorem dL_law_675 : decode cL_law 675 = .ok (.pop, 1) := db25.2.2.2.2.2.2.2.2.2.2.2.2.2.2.2.2.2.2.2.2.2.1
theorem dL_law_676 : decode cL_law 676 = .ok (.goto 1480, 3) := db25.2.2.2.2.2.2.2.2.2.2.2.2.2.2.2.2.2.2.2.2.2.2.1
theorem dL_law_679 : decode cL_law 679 = .ok (.aload_n 1, 1) := db25.2.2.2.2.2.2.2.2.2.2.2.2.2.2.2.2.2.2.2.2.2.2.2
theorem db26 : (decode cL_law 680 = .ok (.invokevirtual 77, 3)) ∧ (decode cL_law 683 = .ok (.pop, 1)) ∧ (decode cL_law 684 = .ok (.aload_n 2, 1)) ∧ (decode cL_law 685 = .ok (.invokevirtual 80, 3)) ∧ (decode cL_law 688 = .ok (.pop, 1)) ∧ (decode cL_law 689 = .ok (.goto 1467, 3)) ∧ (decode cL_law 692 = .ok (.aload_n 1, 1)) ∧ (decode cL_law 693 = .ok (.aload_n 0, 1)) ∧ (decode cL_law 694 = .ok (.iload_n 3, 1)) ∧ (decode cL_law 695 = .ok (.iconst 1, 1)) ∧ (decode cL_law 696 = .ok (.iadd, 1)) ∧ (decode cL_law 697 = .ok (.iaload, 1)) ∧ (decode cL_law 698 = .ok (.aload_n 0, 1)) ∧ (decode cL_law 699 = .ok (.iload_n 3, 1)) ∧ (decode cL_law 700 = .ok (.iconst 2, 1)) ∧ (decode cL_law 701 = .ok (.iadd, 1)) ∧ (decode cL_law 702 = .ok (.iaload, 1)) ∧ (decode cL_law 703 = .ok (.invokevirtual 81, 3)) ∧ (decode cL_law 706 = .ok (.pop, 1)) ∧ (decode cL_law 707 = .ok (.aload_n 2, 1)) ∧ (decode cL_law 708 = .ok (.aload_n 0, 1)) ∧ (decode cL_law 709 = .ok (.iload_n 3, 1)) ∧ (decode cL_law 710 = .ok (.iconst 1, 1)) ∧ (decode cL_law 711 = .ok (.iadd, 1)) := by decide +kernel
theorem dL_law_680 : decode cL_law 680 = .ok (.invokevirtual 77, 3) := db26.1
theorem dL_law_683 : decode cL_law 683 = .ok (.pop, 1) := db26.2.1
theorem dL_law_684 : decode cL_law 684 = .ok (.aload_n 2, 1) := db26.2.2.1
theorem dL_law_685 : decode cL_law 685 = .ok (.invokevirtual 80, 3) := db26.2.2.2.1
theorem dL_law_688 : decode cL_law 688 = .ok (.pop, 1) := db26.2.2.2.2.1
theorem dL_law_689 : decode cL_law 689 = .ok (.goto 1467, 3) := db26.2.2.2.2.2.1
theorem dL_law_692 : decode cL_law 692 = .ok (.aload_n 1, 1) := db26.2.2.2.2.2.2.1
theorem dL_law_693 : decode cL_law 693 = .ok (.aload_n 0, 1) := db26.2.2.2.2.2.2.2.1
theorem dL_law_694 : decode cL_law 694 = .ok (.iload_n 3, 1) := db26.2.2.2.2.2.2.2.2.1
theorem dL_law_695 : decode cL_law 695 = .ok (.iconst 1, 1) := db26.2.2.2.2.2.2.2.2.2.1
theorem dL_law_696 : decode cL_law 696 = .ok (.iadd, 1) := db26.2.2.2.2.2.2.2.2.2.2.1
theorem dL_law_697 : decode cL_law 697 = .ok (.iaload, 1) := db26.2.2.2.2.2.2.2.2.2.2.2.1
theorem dL_law_698 : decode cL_law 698 = .ok (.aload_n 0, 1) := db26.2.2.2.2.2.2.2.2.2.2.2.2.1
theorem dL_law_699 : decode cL_law 699 = .ok (.iload_n 3, 1) := db26.2.2.2.2.2.2.2.2.2.2.2.2.2.1
theorem dL_law_700 : decode cL_law 700 = .ok (.iconst 2, 1) := db26.2.2.2.2.2.2.2.2.2.2.2.2.2.2.1
theorem dL_law_701 : decode cL_law 701 = .ok (.iadd, 1) := db26.2.2.2.2.2.2.2.2.2.2.2.2.2.2.2.1
theorem dL_law_702 : decode cL_law 702 = .ok (.iaload, 1) := db26.2.2.2.2.2.2.2.2.2.2.2.2.2.2.2.2.1
theorem dL_law_703 : decode cL_law 703 = .ok (.invokevirtual 81, 3) := db26.2.2.2.2.2.2.2.2.2.2.2.2.2.2.2.2.2.1
theorem dL_law_706 : decode cL_law 706 = .ok (.pop, 1) := db26.2.2.2.2.2.2.2.2.2.2.2.2.2.2.2.2.2.2.1
theorem dL_law_707 : decode cL_law 707 = .ok (.aload_n 2, 1) := db26.2.2.2.2.2.2.2.2.2.2.2.2.2.2.2.2.2.2.2.1
theorem dL_law_708 : decode cL_law 708 = .ok (.aload_n 0, 1) := db26.2.2.2.2.2.2.2.2.2.2.2.2.2.2.2.2.2.2.2.2.1
theorem dL_law_709 : decode cL_law 709 = .ok (.iload_n 3, 1) := db26.2.2.2.2.2.2.2.2.2.2.2.2.2.2.2.2.2.2.2.2.2.1
theorem dL_law_710 : decode cL_law 710 = .ok (.iconst 1, 1) := db26.2.2.2.2.2.2.2.2.2.2.2.2.2.2.2.2.2.2.2.2.2.2.1
theorem dL_law_711 : decode cL_law 711 = .ok (.iadd, 1) := db26.2.2.2.2.2.2.2.2.2.2.2.2.2.2.2.2.2.2.2.2.2.2.2
theorem db27 : (decode cL_law 712 = .ok (.iaload, 1)) ∧ (decode cL_law 713 = .ok (.aload_n 0, 1)) ∧ (decode cL_law 714 = .ok (.iload_n 3, 1)) ∧ (decode cL_law 715 = .ok (.iconst 2, 1)) ∧ (decode cL_law 716 = .ok (.iadd, 1)) ∧ (decode cL_law 717 = .ok (.iaload, 1)) ∧ (decode cL_law 718 = .ok (.invokevirtual 84, 3)) ∧ (decode cL_law 721 = .ok (.pop, 1)) ∧ (decode cL_law 722 = .ok (.goto 1434, 3)) ∧ (decode cL_law 725 = .ok (.aload_n 1, 1)) ∧ (decode cL_law 726 = .ok (.aload_n 0, 1)) ∧ (decode cL_law 727 = .ok (.iload_n 3, 1)) ∧ (decode cL_law 728 = .ok (.iconst 1, 1)) ∧ (decode cL_law 729 = .ok (.iadd, 1)) ∧ (decode cL_law 730 = .ok (.iaload, 1)) ∧ (decode cL_law 731 = .ok (.invokevirtual 85, 3)) ∧ (decode cL_law 734 = .ok (.pop, 1)) ∧ (decode cL_law 735 = .ok (.aload_n 2, 1)) ∧ (decode cL_law 736 = .ok (.aload_n 0, 1)) ∧ (decode cL_law 737 = .ok (.iload_n 3, 1)) ∧ (decode cL_law 738 = .ok (.iconst 1, 1)) ∧ (decode cL_law 739 = .ok (.iadd, 1)) ∧ (decode cL_law 740 = .ok (.iaload, 1)) ∧ (decode cL_law 741 = .ok (.invokevirtual 88, 3)) := by decide +kernel
theorem dL_law_712 : decode cL_law 712 = .ok (.iaload, 1) := db27.1
theorem dL_law_713 : decode cL_law 713 = .ok (.aload_n 0, 1) := db27.2.1
theorem dL_law_714 : decode cL_law 714 = .ok (.iload_n 3, 1) := db27.2.2.1
theorem dL_law_715 : decode cL_law 715 = .ok (.iconst 2, 1) := db27.2.2.2.1
theorem dL_law_716 : decode cL_law 716 = .ok (.iadd, 1) := db27.2.2.2.2.1
theorem dL_law_717 : decode cL_law 717 = .ok (.iaload, 1) := db27.2.2.2.2.2.1
theorem dL_law_718 : decode cL_law 718 = .ok (.invokevirtual 84, 3) := db27.2.2.2.2.2.2.1
theorem dL_law_721 : decode cL_law 721 = .ok (.pop, 1) := db27.2.2.2.2.2.2.2.1
theorem dL_law_722 : decode cL_law 722 = .ok (.goto 1434, 3) := db27.2.2.2.2.2.2.2.2.1
theorem dL_law_725 : decode cL_law 725 = .ok (.aload_n 1, 1) := db27.2.2.2.2.2.2.2.2.2.1
theorem dL_law_726 : decode cL_law 726 = .ok (.aload_n 0, 1) := db27.2.2.2.2.2.2.2.2.2.2.1
theorem dL_law_727 : decode cL_law 727 = .ok (.iload_n 3, 1) := db27.2.2.2.2.2.2.2.2.2.2.2.1
theorem dL_law_728 : decode cL_law 728 = .ok (.iconst 1, 1) := db27.2.2.2.2.2.2.2.2.2.2.2.2.1
theorem dL_law_729 : decode cL_law 729 = .ok (.iadd, 1) := db27.2.2.2.2.2.2.2.2.2.2.2.2.2.1
theorem dL_law_730 : decode cL_law 730 = .ok (.iaload, 1) := db27.2.2.2.2.2.2.2.2.2.2.2.2.2.2.1
theorem dL_law_731 : decode cL_law 731 = .ok (.invokevirtual 85, 3) := db27.2.2.2.2.2.2.2.2.2.2.2.2.2.2.2.1
theorem dL_law_734 : decode cL_law 734 = .ok (.pop, 1) := db27.2.2.2.2.2.2.2.2.2.2.2.2.2.2.2.2.1
theorem dL_law_735 : decode cL_law 735 = .ok (.aload_n 2, 1) := db27.2.2.2.2.2.2.2.2.2.2.2.2.2.2.2.2.2.1
theorem dL_law_736 : decode cL_law 736 = .ok (.aload_n 0, 1) := db27.2.2.2.2.2.2.2.2.2.2.2.2.2.2.2.2.2.2.1
theorem dL_law_737 : decode cL_law 737 = .ok (.iload_n 3, 1) := db27.2.2.2.2.2.2.2.2.2.2.2.2.2.2.2.2.2.2.2.1
theorem dL_law_738 : decode cL_law 738 = .ok (.iconst 1, 1) := db27.2.2.2.2.2.2.2.2.2.2.2.2.2.2.2.2.2.2.2.2.1
theorem dL_law_739 : decode cL_law 739 = .ok (.iadd, 1) := db27.2.2.2.2.2.2.2.2.2.2.2.2.2.2.2.2.2.2.2.2.2.1
theorem dL_law_740 : decode cL_law 740 = .ok (.iaload, 1) := db27.2.2.2.2.2.2.2.2.2.2.2.2.2.2.2.2.2.2.2.2.2.2.1
theorem dL_law_741 : decode cL_law 741 = .ok (.invokevirtual 88, 3) := db27.2.2.2.2.2.2.2.2.2.2.2.2.2.2.2.2.2.2.2.2.2.2.2
theorem db28 : (decode cL_law 744 = .ok (.pop, 1)) ∧ (decode cL_law 745 = .ok (.goto 1411, 3)) ∧ (decode cL_law 748 = .ok (.aload_n 1, 1)) ∧ (decode cL_law 749 = .ok (.aload_n 0, 1)) ∧ (decode cL_law 750 = .ok (.iload_n 3, 1)) ∧ (decode cL_law 751 = .ok (.iconst 1, 1)) ∧ (decode cL_law 752 = .ok (.iadd, 1)) ∧ (decode cL_law 753 = .ok (.iaload, 1)) ∧ (decode cL_law 754 = .ok (.aload_n 0, 1)) ∧ (decode cL_law 755 = .ok (.iload_n 3, 1)) ∧ (decode cL_law 756 = .ok (.iconst 2, 1)) ∧ (decode cL_law 757 = .ok (.iadd, 1)) ∧ (decode cL_law 758 = .ok (.iaload, 1)) ∧ (decode cL_law 759 = .ok (.invokevirtual 89, 3)) ∧ (decode cL_law 762 = .ok (.pop, 1)) ∧ (decode cL_law 763 = .ok (.aload_n 2, 1)) ∧ (decode cL_law 764 = .ok (.aload_n 0, 1)) ∧ (decode cL_law 765 = .ok (.iload_n 3, 1)) ∧ (decode cL_law 766 = .ok (.iconst 1, 1)) ∧ (decode cL_law 767 = .ok (.iadd, 1)) ∧ (decode cL_law 768 = .ok (.iaload, 1)) ∧ (decode cL_law 769 = .ok (.aload_n 0, 1)) ∧ (decode cL_law 770 = .ok (.iload_n 3, 1)) ∧ (decode cL_law 771 = .ok (.iconst 2, 1)) := by decide +kernel
theorem dL_law_744 : decode cL_law 744 = .ok (.pop, 1) := db28.1
theorem dL_law_745 : decode cL_law 745 = .ok (.goto 1411, 3) := db28.2.1
theorem dL_law_748 : decode cL_law 748 = .ok (.aload_n 1, 1) := db28.2.2.1
theorem dL_law_749 : decode cL_law 749 = .ok (.aload_n 0, 1) := db28.2.2.2.1
theorem dL_law_750 : decode cL_law 750 = .ok (.iload_n 3, 1) := db28.2.2.2.2.1
theorem dL_law_751 : decode cL_law 751 = .ok (.iconst 1, 1) := db28.2.2.2.2.2.1
theorem dL_law_752 : decode cL_law 752 = .ok (.iadd, 1) := db28.2.2.2.2.2.2.1
theorem dL_law_753 : decode cL_law 753 = .ok (.iaload, 1) := db28.2.2.2.2.2.2.2.1
theorem dL_law_754 : decode cL_law 754 = .ok (.aload_n 0, 1) := db28.2.2.2.2.2.2.2.2.1
theorem dL_law_755 : decode cL_law 755 = .ok (.iload_n 3, 1) := db28.2.2.2.2.2.2.2.2.2.1
theorem dL_law_756 : decode cL_law 756 = .ok (.iconst 2, 1) := db28.2.2.2.2.2.2.2.2.2.2.1
theorem dL_law_757 : decode cL_law 757 = .ok (.iadd, 1) := db28.2.2.2.2.2.2.2.2.2.2.2.1
theorem dL_law_758 : decode cL_law 758 = .ok (.iaload, 1) := db28.2.2.2.2.2.2.2.2.2.2.2.2.1
theorem dL_law_759 : decode cL_law 759 = .ok (.invokevirtual 89, 3) := db28.2.2.2.2.2.2.2.2.2.2.2.2.2.1
theorem dL_law_762 : decode cL_law 762 = .ok (.pop, 1) := db28.2.2.2.2.2.2.2.2.2.2.2.2.2.2.1
theorem dL_law_763 : decode cL_law 763 = .ok (.aload_n 2, 1) := db28.2.2.2.2.2.2.2.2.2.2.2.2.2.2.2.1
theorem dL_law_764 : decode cL_law 764 = .ok (.aload_n 0, 1) := db28.2.2.2.2.2.2.2.2.2.2.2.2.2.2.2.2.1
theorem dL_law_765 : decode cL_law 765 = .ok (.iload_n 3, 1) := db28.2.2.2.2.2.2.2.2.2.2.2.2.2.2.2.2.2.1
theorem dL_law_766 : decode cL_law 766 = .ok (.iconst 1, 1) := db28.2.2.2.2.2.2.2.2.2.2.2.2.2.2.2.2.2.2.1
theorem dL_law_767 : decode cL_law 767 = .ok (.iadd, 1) := db28.2.2.2.2.2.2.2.2.2.2.2.2.2.2.2.2.2.2.2.1
theorem dL_law_768 : decode cL_law 768 = .ok (.iaload, 1) := db28.2.2.2.2.2.2.2.2.2.2.2.2.2.2.2.2.2.2.2.2.1
theorem dL_law_769 : decode cL_law 769 = .ok (.aload_n 0, 1) := db28.2.2.2.2.2.2.2.2.2.2.2.2.2.2.2.2.2.2.2.2.2.1
theorem dL_law_770 : decode cL_law 770 = .ok (.iload_n 3, 1) := db28.2.2.2.2.2.2.2.2.2.2.2.2.2.2.2.2.2.2.2.2.2.2.1
theorem dL_law_771 : decode cL_law 771 = .ok (.iconst 2, 1) := db28.2.2.2.2.2.2.2.2.2.2.2.2.2.2.2.2.2.2.2.2.2.2.2
theorem db29 : (decode cL_law 772 = .ok (.iadd, 1)) ∧ (decode cL_law 773 = .ok (.iaload, 1)) ∧ (decode cL_law 774 = .ok (.invokevirtual 92, 3)) ∧ (decode cL_law 777 = .ok (.pop, 1)) ∧ (decode cL_law 778 = .ok (.goto 1378, 3)) ∧ (decode cL_law 781 = .ok (.aload_n 1, 1)) ∧ (decode cL_law 782 = .ok (.aload_n 0, 1)) ∧ (decode cL_law 783 = .ok (.iload_n 3, 1)) ∧ (decode cL_law 784 = .ok (.iconst 1, 1)) ∧ (decode cL_law 785 = .ok (.iadd, 1)) ∧ (decode cL_law 786 = .ok (.iaload, 1)) ∧ (decode cL_law 787 = .ok (.invokevirtual 93, 3)) ∧ (decode cL_law 790 = .ok (.pop, 1)) ∧ (decode cL_law 791 = .ok (.aload_n 2, 1)) ∧ (decode cL_law 792 = .ok (.aload_n 0, 1)) ∧ (decode cL_law 793 = .ok (.iload_n 3, 1)) ∧ (decode cL_law 794 = .ok (.iconst 1, 1)) ∧ (decode cL_law 795 = .ok (.iadd, 1)) ∧ (decode cL_law 796 = .ok (.iaload, 1)) ∧ (decode cL_law 797 = .ok (.invokevirtual 96, 3)) ∧ (decode cL_law 800 = .ok (.pop, 1)) ∧ (decode cL_law 801 = .ok (.goto 1355, 3)) ∧ (decode cL_law 804 = .ok (.aload_n 1, 1)) ∧ (decode cL_law 805 = .ok (.aload_n 0, 1)) := by decide +kernel
theorem dL_law_772 : decode cL_law 772 = .ok (.iadd, 1) := db29.1
theorem dL_law_773 : decode cL_law 773 = .ok (.iaload, 1) := db29.2.1
theorem dL_law_774 : decode cL_law 774 = .ok (.invokevirtual 92, 3) := db29.2.2.1
theorem dL_law_777 : decode cL_law 777 = .ok (.pop, 1) := db29.2.2.2.1
theorem dL_law_778 : decode cL_law 778 = .ok (.goto 1378, 3) := db29.2.2.2.2.1
theorem dL_law_781 : decode cL_law 781 = .ok (.aload_n 1, 1) := db29.2.2.2.2.2.1
theorem dL_law_782 : decode cL_law 782 = .ok (.aload_n 0, 1) := db29.2.2.2.2.2.2.1
theorem dL_law_783 : decode cL_law 783 = .ok (.iload_n 3, 1) := db29.2.2.2.2.2.2.2.1
theorem dL_law_784 : decode cL_law 784 = .ok (.iconst 1, 1) := db29.2.2.2.2.2.2.2.2.1
theorem dL_law_785 : decode cL_law 785 = .ok (.iadd, 1) := db29.2.2.2.2.2.2.2.2.2.1
theorem dL_law_786 : decode cL_law 786 = .ok (.iaload, 1) := db29.2.2.2.2.2.2.2.2.2.2.1
theorem dL_law_787 : decode cL_law 787 = .ok (.invokevirtual 93, 3) := db29.2.2.2.2.2.2.2.2.2.2.2.1
theorem dL_law_790 : decode cL_law 790 = .ok (.pop, 1) := db29.2.2.2.2.2.2.2.2.2.2.2.2.1
theorem dL_law_791 : decode cL_law 791 = .ok (.aload_n 2, 1) := db29.2.2.2.2.2.2.2.2.2.2.2.2.2.1
theorem dL_law_792 : decode cL_law 792 = .ok (.aload_n 0, 1) := db29.2.2.2.2.2.2.2.2.2.2.2.2.2.2.1
theorem dL_law_793 : decode cL_law 793 = .ok (.iload_n 3, 1) := db29.2.2.2.2.2.2.2.2.2.2.2.2.2.2.2.1
theorem dL_law_794 : decode cL_law 794 = .ok (.iconst 1, 1) := db29.2.2.2.2.2.2.2.2.2.2.2.2.2.2.2.2.1
theorem dL_law_795 : decode cL_law 795 = .ok (.iadd, 1) := db29.2.2.2.2.2.2.2.2.2.2.2.2.2.2.2.2.2.1
theorem dL_law_796 : decode cL_law 796 = .ok (.iaload, 1) := db29.2.2.2.2.2.2.2.2.2.2.2.2.2.2.2.2.2.2.1
theorem dL_law_797 : decode cL_law 797 = .ok (.invokevirtual 96, 3) := db29.2.2.2.2.2.2.2.2.2.2.2.2.2.2.2.2.2.2.2.1
theorem dL_law_800 : decode cL_law 800 = .ok (.pop, 1) := db29.2.2.2.2.2.2.2.2.2.2.2.2.2.2.2.2.2.2.2.2.1
theorem dL_law_801 : decode cL_law 801 = .ok (.goto 1355, 3) := db29.2.2.2.2.2.2.2.2.2.2.2.2.2.2.2.2.2.2.2.2.2.1
theorem dL_law_804 : decode cL_law 804 = .ok (.aload_n 1, 1) := db29.2.2.2.2.2.2.2.2.2.2.2.2.2.2.2.2.2.2.2.2.2.2.1
theorem dL_law_805 : decode cL_law 805 = .ok (.aload_n 0, 1) := db29.2.2.2.2.2.2.2.2.2.2.2.2.2.2.2.2.2.2.2.2.2.2.2
theorem db30 : (decode cL_law 806 = .ok (.iload_n 3, 1)) ∧ (decode cL_law 807 = .ok (.iconst 1, 1)) ∧ (decode cL_law 808 = .ok (.iadd, 1)) ∧ (decode cL_law 809 = .ok (.iaload, 1)) ∧ (decode cL_law 810 = .ok (.invokevirtual 97, 3)) ∧ (decode cL_law 813 = .ok (.pop, 1)) ∧ (decode cL_law 814 = .ok (.aload_n 2, 1)) ∧ (decode cL_law 815 = .ok (.aload_n 0, 1)) ∧ (decode cL_law 816 = .ok (.iload_n 3, 1)) ∧ (decode cL_law 817 = .ok (.iconst 1, 1)) ∧ (decode cL_law 818 = .ok (.iadd, 1)) ∧ (decode cL_law 819 = .ok (.iaload, 1)) ∧ (decode cL_law 820 = .ok (.invokevirtual 100, 3)) ∧ (decode cL_law 823 = .ok (.pop, 1)) ∧ (decode cL_law 824 = .ok (.goto 1332, 3)) ∧ (decode cL_law 827 = .ok (.aload_n 1, 1)) ∧ (decode cL_law 828 = .ok (.aload_n 0, 1)) ∧ (decode cL_law 829 = .ok (.iload_n 3, 1)) ∧ (decode cL_law 830 = .ok (.iconst 1, 1)) ∧ (decode cL_law 831 = .ok (.iadd, 1)) ∧ (decode cL_law 832 = .ok (.iaload, 1)) ∧ (decode cL_law 833 = .ok (.invokevirtual 101, 3)) ∧ (decode cL_law 836 = .ok (.pop, 1)) ∧ (decode cL_law 837 = .ok (.aload_n 2, 1)) := by decide +kernel
theorem dL_law_806 : decode cL_law 806 = .ok (.iload_n 3, 1) := db30.1
theorem dL_law_807 : decode cL_law 807 = .ok (.iconst 1, 1) := db30.2.1
theorem dL_law_808 : decode cL_law 808 = .ok (.iadd, 1) := db30.2.2.1
theorem dL_law_809 : decode cL_law 809 = .ok (.iaload, 1) := db30.2.2.2.1
theorem dL_law_810 : decode cL_law 810 = .ok (.invokevirtual 97, 3) := db30.2.2.2.2.1
theorem dL_law_813 : decode cL_law 813 = .ok (.pop, 1) := db30.2.2.2.2.2.1
theorem dL_law_814 : decode cL_law 814 = .ok (.aload_n 2, 1) := db30.2.2.2.2.2.2.1
theorem dL_law_815 : decode cL_law 815 = .ok (.aload_n 0, 1) := db30.2.2.2.2.2.2.2.1
theorem dL_law_816 : decode cL_law 816 = .ok (.iload_n 3, 1) := db30.2.2.2.2.2.2.2.2.1
theorem dL_law_817 : decode cL_law 817 = .ok (.iconst 1, 1) := db30.2.2.2.2.2.2.2.2.2.1
theorem dL_law_818 : decode cL_law 818 = .ok (.iadd, 1) := db30.2.2.2.2.2.2.2.2.2.2.1
theorem dL_law_819 : decode cL_law 819 = .ok (.iaload, 1) := db30.2.2.2.2.2.2.2.2.2.2.2.1
theorem dL_law_820 : decode cL_law 820 = .ok (.invokevirtual 100, 3) := db30.2.2.2.2.2.2.2.2.2.2.2.2.1
theorem dL_law_823 : decode cL_law 823 = .ok (.pop, 1) := db30.2.2.2.2.2.2.2.2.2.2.2.2.2.1
theorem dL_law_824 : decode cL_law 824 = .ok (.goto 1332, 3) := db30.2.2.2.2.2.2.2.2.2.2.2.2.2.2.1
theorem dL_law_827 : decode cL_law 827 = .ok (.aload_n 1, 1) := db30.2.2.2.2.2.2.2.2.2.2.2.2.2.2.2.1
theorem dL_law_828 : decode cL_law 828 = .ok (.aload_n 0, 1) := db30.2.2.2.2.2.2.2.2.2.2.2.2.2.2.2.2.1
theorem dL_law_829 : decode cL_law 829 = .ok (.iload_n 3, 1) := db30.2.2.2.2.2.2.2.2.2.2.2.2.2.2.2.2.2.1
theorem dL_law_830 : decode cL_law 830 = .ok (.iconst 1, 1) := db30.2.2.2.2.2.2.2.2.2.2.2.2.2.2.2.2.2.2.1
theorem dL_law_831 : decode cL_law 831 = .ok (.iadd, 1) := db30.2.2.2.2.2.2.2.2.2.2.2.2.2.2.2.2.2.2.2.1
theorem dL_law_832 : decode cL_law 832 = .ok (.iaload, 1) := db30.2.2.2.2.2.2.2.2.2.2.2.2.2.2.2.2.2.2.2.2.1
theorem dL_law_833 : decode cL_law 833 = .ok (.invokevirtual 101, 3) := db30.2.2.2.2.2.2.2.2.2.2.2.2.2.2.2.2.2.2.2.2.2.1
theorem dL_law_836 : decode cL_law 836 = .ok (.pop, 1) := db30.2.2.2.2.2.2.2.2.2.2.2.2.2.2.2.2.2.2.2.2.2.2.1
theorem dL_law_837 : decode cL_law 837 = .ok (.aload_n 2, 1) := db30.2.2.2.2.2.2.2.2.2.2.2.2.2.2.2.2.2.2.2.2.2.2.2
theorem db31 : (decode cL_law 838 = .ok (.aload_n 0, 1)) ∧ (decode cL_law 839 = .ok (.iload_n 3, 1)) ∧ (decode cL_law 840 = .ok (.iconst 1, 1)) ∧ (decode cL_law 841 = .ok (.iadd, 1)) ∧ (decode cL_law 842 = .ok (.iaload, 1)) ∧ (decode cL_law 843 = .ok (.invokevirtual 104, 3)) ∧ (decode cL_law 846 = .ok (.pop, 1)) ∧ (decode cL_law 847 = .ok (.goto 1309, 3)) ∧ (decode cL_law 850 = .ok (.aload_n 1, 1)) ∧ (decode cL_law 851 = .ok (.aload_n 0, 1)) ∧ (decode cL_law 852 = .ok (.iload_n 3, 1)) ∧ (decode cL_law 853 = .ok (.iconst 1, 1)) ∧ (decode cL_law 854 = .ok (.iadd, 1)) ∧ (decode cL_law 855 = .ok (.iaload, 1)) ∧ (decode cL_law 856 = .ok (.aload_n 0, 1)) ∧ (decode cL_law 857 = .ok (.iload_n 3, 1)) ∧ (decode cL_law 858 = .ok (.iconst 2, 1)) ∧ (decode cL_law 859 = .ok (.iadd, 1)) ∧ (decode cL_law 860 = .ok (.iaload, 1)) ∧ (decode cL_law 861 = .ok (.invokevirtual 105, 3)) ∧ (decode cL_law 864 = .ok (.pop, 1)) ∧ (decode cL_law 865 = .ok (.aload_n 2, 1)) ∧ (decode cL_law 866 = .ok (.aload_n 0, 1)) ∧ (decode cL_law 867 = .ok (.iload_n 3, 1)) := by decide +kernel
theorem dL_law_838 : decode cL_law 838 = .ok (.aload_n 0, 1) := db31.1
theorem dL_law_839 : decode cL_law 839 = .ok (.iload_n 3, 1) := db31.2.1
theorem dL_law_840 : decode cL_law 840 = .ok (.iconst 1, 1) := db31.2.2.1
theorem dL_law_841 : decode cL_law 841 = .ok (.iadd, 1) := db31.2.2.2.1
theorem dL_law_842 : decode cL_law 842 = .ok (.iaload, 1) := db31.2.2.2.2.1
theorem dL_law_843 : decode cL_law 843 = .ok (.invokevirtual 104, 3) := db31.2.2.2.2.2.1
theorem dL_law_846 : decode cL_law 846 = .ok (.pop, 1) := db31.2.2.2.2.2.2.1
theorem dL_law_847 : decode cL_law 847 = .ok (.goto 1309, 3) := db31.2.2.2.2.2.2.2.1
theorem dL_law_850 : decode cL_law 850 = .ok (.aload_n 1, 1) := db31.2.2.2.2.2.2.2.2.1
theorem dL_law_851 : decode cL_law 851 = .ok (.aload_n 0, 1) := db31.2.2.2.2.2.2.2.2.2.1
theorem dL_law_852 : decode cL_law 852 = .ok (.iload_n 3, 1) := db31.2.2.2.2.2.2.2.2.2.2.1
theorem dL_law_853 : decode cL_law 853 = .ok (.iconst 1, 1) := db31.2.2.2.2.2.2.2.2.2.2.2.1
theorem dL_law_854 : decode cL_law 854 = .ok (.iadd, 1) := db31.2.2.2.2.2.2.2.2.2.2.2.2.1
theorem dL_law_855 : decode cL_law 855 = .ok (.iaload, 1) := db31.2.2.2.2.2.2.2.2.2.2.2.2.2.1
theorem dL_law_856 : decode cL_law 856 = .ok (.aload_n 0, 1) := db31.2.2.2.2.2.2.2.2.2.2.2.2.2.2.1
theorem dL_law_857 : decode cL_law 857 = .ok (.iload_n 3, 1) := db31.2.2.2.2.2.2.2.2.2.2.2.2.2.2.2.1
theorem dL_law_858 : decode cL_law 858 = .ok (.iconst 2, 1) := db31.2.2.2.2.2.2.2.2.2.2.2.2.2.2.2.2.1
theorem dL_law_859 : decode cL_law 859 = .ok (.iadd, 1) := db31.2.2.2.2.2.2.2.2.2.2.2.2.2.2.2.2.2.1
theorem dL_law_860 : decode cL_law 860 = .ok (.iaload, 1) := db31.2.2.2.2.2.2.2.2.2.2.2.2.2.2.2.2.2.2.1
theorem dL_law_861 : decode cL_law 861 = .ok (.invokevirtual 105, 3) := db31.2.2.2.2.2.2.2.2.2.2.2.2.2.2.2.2.2.2.2.1
theorem dL_law_864 : decode cL_law 864 = .ok (.pop, 1) := db31.2.2.2.2.2.2.2.2.2.2.2.2.2.2.2.2.2.2.2.2.1
theorem dL_law_865 : decode cL_law 865 = .ok (.aload_n 2, 1) := db31.2.2.2.2.2.2.2.2.2.2.2.2.2.2.2.2.2.2.2.2.2.1
theorem dL_law_866 : decode cL_law 866 = .ok (.aload_n 0, 1) := db31.2.2.2.2.2.2.2.2.2.2.2.2.2.2.2.2.2.2.2.2.2.2.1
theorem dL_law_867 : decode cL_law 867 = .ok (.iload_n 3, 1) := db31.2.2.2.2.2.2.2.2.2.2.2.2.2.2.2.2.2.2.2.2.2.2.2
theorem db32 : (decode cL_law 868 = .ok (.iconst 1, 1)) ∧ (decode cL_law 869 = .ok (.iadd, 1)) ∧ (decode cL_law 870 = .ok (.iaload, 1)) ∧ (decode cL_law 871 = .ok (.aload_n 0, 1)) ∧ (decode cL_law 872 = .ok (.iload_n 3, 1)) ∧ (decode cL_law 873 = .ok (.iconst 2, 1)) ∧ (decode cL_law 874 = .ok (.iadd, 1)) ∧ (decode cL_law 875 = .ok (.iaload, 1)) ∧ (decode cL_law 876 = .ok (.invokevirtual 108, 3)) ∧ (decode cL_law 879 = .ok (.pop, 1)) ∧ (decode cL_law 880 = .ok (.goto 1276, 3)) ∧ (decode cL_law 883 = .ok (.aload_n 1, 1)) ∧ (decode cL_law 884 = .ok (.aload_n 0, 1)) ∧ (decode cL_law 885 = .ok (.iload_n 3, 1)) ∧ (decode cL_law 886 = .ok (.iconst 1, 1)) ∧ (decode cL_law 887 = .ok (.iadd, 1)) ∧ (decode cL_law 888 = .ok (.iaload, 1)) ∧ (decode cL_law 889 = .ok (.aload_n 0, 1)) ∧ (decode cL_law 890 = .ok (.iload_n 3, 1)) ∧ (decode cL_law 891 = .ok (.iconst 2, 1)) ∧ (decode cL_law 892 = .ok (.iadd, 1)) ∧ (decode cL_law 893 = .ok (.iaload, 1)) ∧ (decode cL_law 894 = .ok (.invokevirtual 109, 3)) ∧ (decode cL_law 897 = .ok (.pop, 1)) := by decide +kernel
theorem dL_law_868 : decode cL_law 868 = .ok (.iconst 1, 1) := db32.1
theorem dL_law_869 : decode cL_law 869 = .ok (.iadd, 1) := db32.2.1
theorem dL_law_870 : decode cL_law 870 = .ok (.iaload, 1) := db32.2.2.1
theorem dL_law_871 : decode cL_law 871 = .ok (.aload_n 0, 1) := db32.2.2.2.1
theorem dL_law_872 : decode cL_law 872 = .ok (.iload_n 3, 1) := db32.2.2.2.2.1
theorem dL_law_873 : decode cL_law 873 = .ok (.iconst 2, 1) := db32.2.2.2.2.2.1
theorem dL_law_874 : decode cL_law 874 = .ok (.iadd, 1) := db32.2.2.2.2.2.2.1
theorem dL_law_875 : decode cL_law 875 = .ok (.iaload, 1) := db32.2.2.2.2.2.2.2.1
theorem dL_law_876 : decode cL_law 876 = .ok (.invokevirtual 108, 3) := db32.2.2.2.2.2.2.2.2.1
theorem dL_law_879 : decode cL_law 879 = .ok (.pop, 1) := db32.2.2.2.2.2.2.2.2.2.1
theorem dL_law_880 : decode cL_law 880 = .ok (.goto 1276, 3) := db32.2.2.2.2.2.2.2.2.2.2.1
theorem dL_law_883 : decode cL_law 883 = .ok (.aload_n 1, 1) := db32.2.2.2.2.2.2.2.2.2.2.2.1
theorem dL_law_884 : decode cL_law 884 = .ok (.aload_n 0, 1) := db32.2.2.2.2.2.2.2.2.2.2.2.2.1
theorem dL_law_885 : decode cL_law 885 = .ok (.iload_n 3, 1) := db32.2.2.2.2.2.2.2.2.2.2.2.2.2.1
theorem dL_law_886 : decode cL_law 886 = .ok (.iconst 1, 1) := db32.2.2.2.2.2.2.2.2.2.2.2.2.2.2.1
theorem dL_law_887 : decode cL_law 887 = .ok (.iadd, 1) := db32.2.2.2.2.2.2.2.2.2.2.2.2.2.2.2.1
theorem dL_law_888 : decode cL_law 888 = .ok (.iaload, 1) := db32.2.2.2.2.2.2.2.2.2.2.2.2.2.2.2.2.1
theorem dL_law_889 : decode cL_law 889 = .ok (.aload_n 0, 1) := db32.2.2.2.2.2.2.2.2.2.2.2.2.2.2.2.2.2.1
theorem dL_law_890 : decode cL_law 890 = .ok (.iload_n 3, 1) := db32.2.2.2.2.2.2.2.2.2.2.2.2.2.2.2.2.2.2.1
theorem dL_law_891 : decode cL_law 891 = .ok (.iconst 2, 1) := db32.2.2.2.2.2.2.2.2.2.2.2.2.2.2.2.2.2.2.2.1
theorem dL_law_892 : decode cL_law 892 = .ok (.iadd, 1) := db32.2.2.2.2.2.2.2.2.2.2.2.2.2.2.2.2.2.2.2.2.1
theorem dL_law_893 : decode cL_law 893 = .ok (.iaload, 1) := db32.2.2.2.2.2.2.2.2.2.2.2.2.2.2.2.2.2.2.2.2.2.1
theorem dL_law_894 : decode cL_law 894 = .ok (.invokevirtual 109, 3) := db32.2.2.2.2.2.2.2.2.2.2.2.2.2.2.2.2.2.2.2.2.2.2.1
theorem dL_law_897 : decode cL_law 897 = .ok (.pop, 1) := db32.2.2.2.2.2.2.2.2.2.2.2.2.2.2.2.2.2.2.2.2.2.2.2
theorem db33 : (decode cL_law 898 = .ok (.aload_n 2, 1)) ∧ (decode cL_law 899 = .ok (.aload_n 0, 1)) ∧ (decode cL_law 900 = .ok (.iload_n 3, 1)) ∧ (decode cL_law 901 = .ok (.iconst 1, 1)) ∧ (decode cL_law 902 = .ok (.iadd, 1)) ∧ (decode cL_law 903 = .ok (.iaload, 1)) ∧ (decode cL_law 904 = .ok (.aload_n 0, 1)) ∧ (decode cL_law 905 = .ok (.iload_n 3, 1)) ∧ (decode cL_law 906 = .ok (.iconst 2, 1)) ∧ (decode cL_law 907 = .ok (.iadd, 1)) ∧ (decode cL_law 908 = .ok (.iaload, 1)) ∧ (decode cL_law 909 = .ok (.invokevirtual 112, 3)) ∧ (decode cL_law 912 = .ok (.pop, 1)) ∧ (decode cL_law 913 = .ok (.goto 1243, 3)) ∧ (decode cL_law 916 = .ok (.aload_n 1, 1)) ∧ (decode cL_law 917 = .ok (.aload_n 0, 1)) ∧ (decode cL_law 918 = .ok (.iload_n 3, 1)) ∧ (decode cL_law 919 = .ok (.iconst 1, 1)) ∧ (decode cL_law 920 = .ok (.iadd, 1)) ∧ (decode cL_law 921 = .ok (.iaload, 1)) ∧ (decode cL_law 922 = .ok (.invokevirtual 113, 3)) ∧ (decode cL_law 925 = .ok (.pop, 1)) ∧ (decode cL_law 926 = .ok (.aload_n 2, 1)) ∧ (decode cL_law 927 = .ok (.aload_n 0, 1)) := by decide +kernel
theorem dL_law_898 : decode cL_law 898 = .ok (.aload_n 2, 1) := db33.1
theorem dL_law_899 : decode cL_law 899 = .ok (.aload_n 0, 1) := db33.2.1
theorem dL_law_900 : decode cL_law 900 = .ok (.iload_n 3, 1) := db33.2.2.1
theorem dL_law_901 : decode cL_law 901 = .ok (.iconst 1, 1) := db33.2.2.2.1
theorem dL_law_902 : decode cL_law 902 = .ok (.iadd, 1) := db33.2.2.2.2.1
theorem dL_law_903 : decode cL_law 903 = .ok (.iaload, 1) := db33.2.2.2.2.2.1
theorem dL_law_904 : decode cL_law 904 = .ok (.aload_n 0, 1) := db33.2.2.2.2.2.2.1
theorem dL_law_905 : decode cL_law 905 = .ok (.iload_n 3, 1) := db33.2.2.2.2.2.2.2.1
theorem dL_law_906 : decode cL_law 906 = .ok (.iconst 2, 1) := db33.2.2.2.2.2.2.2.2.1
theorem dL_law_907 : decode cL_law 907 = .ok (.iadd, 1) := db33.2.2.2.2.2.2.2.2.2.1
theorem dL_law_908 : decode cL_law 908 = .ok (.iaload, 1) := db33.2.2.2.2.2.2.2.2.2.2.1
theorem dL_law_909 : decode cL_law 909 = .ok (.invokevirtual 112, 3) := db33.2.2.2.2.2.2.2.2.2.2.2.1
theorem dL_law_912 : decode cL_law 912 = .ok (.pop, 1) := db33.2.2.2.2.2.2.2.2.2.2.2.2.1
theorem dL_law_913 : decode cL_law 913 = .ok (.goto 1243, 3) := db33.2.2.2.2.2.2.2.2.2.2.2.2.2.1
theorem dL_law_916 : decode cL_law 916 = .ok (.aload_n 1, 1) := db33.2.2.2.2.2.2.2.2.2.2.2.2.2.2.1
theorem dL_law_917 : decode cL_law 917 = .ok (.aload_n 0, 1) := db33.2.2.2.2.2.2.2.2.2.2.2.2.2.2.2.1
theorem dL_law_918 : decode cL_law 918 = .ok (.iload_n 3, 1) := db33.2.2.2.2.2.2.2.2.2.2.2.2.2.2.2.2.1
theorem dL_law_919 : decode cL_law 919 = .ok (.iconst 1, 1) := db33.2.2.2.2.2.2.2.2.2.2.2.2.2.2.2.2.2.1
theorem dL_law_920 : decode cL_law 920 = .ok (.iadd, 1) := db33.2.2.2.2.2.2.2.2.2.2.2.2.2.2.2.2.2.2.1
theorem dL_law_921 : decode cL_law 921 = .ok (.iaload, 1) := db33.2.2.2.2.2.2.2.2.2.2.2.2.2.2.2.2.2.2.2.1
theorem dL_law_922 : decode cL_law 922 = .ok (.invokevirtual 113, 3) := db33.2.2.2.2.2.2.2.2.2.2.2.2.2.2.2.2.2.2.2.2.1
theorem dL_law_925 : decode cL_law 925 = .ok (.pop, 1) := db33.2.2.2.2.2.2.2.2.2.2.2.2.2.2.2.2.2.2.2.2.2.1
theorem dL_law_926 : decode cL_law 926 = .ok (.aload_n 2, 1) := db33.2.2.2.2.2.2.2.2.2.2.2.2.2.2.2.2.2.2.2.2.2.2.1
theorem dL_law_927 : decode cL_law 927 = .ok (.aload_n 0, 1) := db33.2.2.2.2.2.2.2.2.2.2.2.2.2.2.2.2.2.2.2.2.2.2.2
theorem db34 : (decode cL_law 928 = .ok (.iload_n 3, 1)) ∧ (decode cL_law 929 = .ok (.iconst 1, 1)) ∧ (decode cL_law 930 = .ok (.iadd, 1)) ∧ (decode cL_law 931 = .ok (.iaload, 1)) ∧ (decode cL_law 932 = .ok (.invokevirtual 116, 3)) ∧ (decode cL_law 935 = .ok (.pop, 1)) ∧ (decode cL_law 936 = .ok (.goto 1220, 3)) ∧ (decode cL_law 939 = .ok (.aload_n 1, 1)) ∧ (decode cL_law 940 = .ok (.aload_n 0, 1)) ∧ (decode cL_law 941 = .ok (.iload_n 3, 1)) ∧ (decode cL_law 942 = .ok (.iconst 1, 1)) ∧ (decode cL_law 943 = .ok (.iadd, 1)) ∧ (decode cL_law 944 = .ok (.iaload, 1)) ∧ (decode cL_law 945 = .ok (.aload_n 0, 1)) ∧ (decode cL_law 946 = .ok (.iload_n 3, 1)) ∧ (decode cL_law 947 = .ok (.iconst 2, 1)) ∧ (decode cL_law 948 = .ok (.iadd, 1)) ∧ (decode cL_law 949 = .ok (.iaload, 1)) ∧ (decode cL_law 950 = .ok (.invokevirtual 117, 3)) ∧ (decode cL_law 953 = .ok (.pop, 1)) ∧ (decode cL_law 954 = .ok (.aload_n 2, 1)) ∧ (decode cL_law 955 = .ok (.aload_n 0, 1)) ∧ (decode cL_law 956 = .ok (.iload_n 3, 1)) ∧ (decode cL_law 957 = .ok (.iconst 1, 1)) := by decide +kernel
theorem dL_law_928 : decode cL_law 928 = .ok (.iload_n 3, 1) := db34.1
theorem dL_law_929 : decode cL_law 929 = .ok (.iconst 1, 1) := db34.2.1
theorem dL_law_930 : decode cL_law 930 = .ok (.iadd, 1) := db34.2.2.1
theorem dL_law_931 : decode cL_law 931 = .ok (.iaload, 1) := db34.2.2.2.1
theorem dL_law_932 : decode cL_law 932 = .ok (.invokevirtual 116, 3) := db34.2.2.2.2.1
theorem dL_law_935 : decode cL_law 935 = .ok (.pop, 1) := db34.2.2.2.2.2.1
theorem dL_law_936 : decode cL_law 936 = .ok (.goto 1220, 3) := db34.2.2.2.2.2.2.1
theorem dL_law_939 : decode cL_law 939 = .ok (.aload_n 1, 1) := db34.2.2.2.2.2.2.2.1
theorem dL_law_940 : decode cL_law 940 = .ok (.aload_n 0, 1) := db34.2.2.2.2.2.2.2.2.1
theorem dL_law_941 : decode cL_law 941 = .ok (.iload_n 3, 1) := db34.2.2.2.2.2.2.2.2.2.1
theorem dL_law_942 : decode cL_law 942 = .ok (.iconst 1, 1) := db34.2.2.2.2.2.2.2.2.2.2.1
theorem dL_law_943 : decode cL_law 943 = .ok (.iadd, 1) := db34.2.2.2.2.2.2.2.2.2.2.2.1
theorem dL_law_944 : decode cL_law 944 = .ok (.iaload, 1) := db34.2.2.2.2.2.2.2.2.2.2.2.2.1
theorem dL_law_945 : decode cL_law 945 = .ok (.aload_n 0, 1) := db34.2.2.2.2.2.2.2.2.2.2.2.2.2.1
theorem dL_law_946 : decode cL_law 946 = .ok (.iload_n 3, 1) := db34.2.2.2.2.2.2.2.2.2.2.2.2.2.2.1
theorem dL_law_947 : decode cL_law 947 = .ok (.iconst 2, 1) := db34.2.2.2.2.2.2.2.2.2.2.2.2.2.2.2.1
theorem dL_law_948 : decode cL_law 948 = .ok (.iadd, 1) := db34.2.2.2.2.2.2.2.2.2.2.2.2.2.2.2.2.1
theorem dL_law_949 : decode cL_law 949 = .ok (.iaload, 1) := db34.2.2.2.2.2.2.2.2.2.2.2.2.2.2.2.2.2.1
theorem dL_law_950 : decode cL_law 950 = .ok (.invokevirtual 117, 3) := db34.2.2.2.2.2.2.2.2.2.2.2.2.2.2.2.2.2.2.1
theorem dL_law_953 : decode cL_law 953 = .ok (.pop, 1) := db34.2.2.2.2.2.2.2.2.2.2.2.2.2.2.2.2.2.2.2.1
theorem dL_law_954 : decode cL_law 954 = .ok (.aload_n 2, 1) := db34.2.2.2.2.2.2.2.2.2.2.2.2.2.2.2.2.2.2.2.2.1
theorem dL_law_955 : decode cL_law 955 = .ok (.aload_n 0, 1) := db34.2.2.2.2.2.2.2.2.2.2.2.2.2.2.2.2.2.2.2.2.2.1
theorem dL_law_956 : decode cL_law 956 = .ok (.iload_n 3, 1) := db34.2.2.2.2.2.2.2.2.2.2.2.2.2.2.2.2.2.2.2.2.2.2.1
theorem dL_law_957 : decode cL_law 957 = .ok (.iconst 1, 1) := db34.2.2.2.2.2.2.2.2.2.2.2.2.2.2.2.2.2.2.2.2.2.2.2
theorem db35 : (decode cL_law 958 = .ok (.iadd, 1)) ∧ (decode cL_law 959 = .ok (.iaload, 1)) ∧ (decode cL_law 960 = .ok (.aload_n 0, 1)) ∧ (decode cL_law 961 = .ok (.iload_n 3, 1)) ∧ (decode cL_law 962 = .ok (.iconst 2, 1)) ∧ (decode cL_law 963 = .ok (.iadd, 1)) ∧ (decode cL_law 964 = .ok (.iaload, 1)) ∧ (decode cL_law 965 = .ok (.invokevirtual 120, 3)) ∧ (decode cL_law 968 = .ok (.pop, 1)) ∧ (decode cL_law 969 = .ok (.goto 1187, 3)) ∧ (decode cL_law 972 = .ok (.aload_n 1, 1)) ∧ (decode cL_law 973 = .ok (.aload_n 0, 1)) ∧ (decode cL_law 974 = .ok (.iload_n 3, 1)) ∧ (decode cL_law 975 = .ok (.iconst 1, 1)) ∧ (decode cL_law 976 = .ok (.iadd, 1)) ∧ (decode cL_law 977 = .ok (.iaload, 1)) ∧ (decode cL_law 978 = .ok (.aload_n 0, 1)) ∧ (decode cL_law 979 = .ok (.iload_n 3, 1)) ∧ (decode cL_law 980 = .ok (.iconst 2, 1)) ∧ (decode cL_law 981 = .ok (.iadd, 1)) ∧ (decode cL_law 982 = .ok (.iaload, 1)) ∧ (decode cL_law 983 = .ok (.aload_n 0, 1)) ∧ (decode cL_law 984 = .ok (.iload_n 3, 1)) ∧ (decode cL_law 985 = .ok (.iconst 3, 1)) := by decide +kernel
theorem dL_law_958 : decode cL_law 958 = .ok (.iadd, 1) := db35.1
theorem dL_law_959 : decode cL_law 959 = .ok (.iaload, 1) := db35.2.1
theorem dL_law_960 : decode cL_law 960 = .ok (.aload_n 0, 1) := db35.2.2.1
theorem dL_law_961 : decode cL_law 961 = .ok (.iload_n 3, 1) := db35.2.2.2.1
theorem dL_law_962 : decode cL_law 962 = .ok (.iconst 2, 1) := db35.2.2.2.2.1
theorem dL_law_963 : decode cL_law 963 = .ok (.iadd, 1) := db35.2.2.2.2.2.1
theorem dL_law_964 : decode cL_law 964 = .ok (.iaload, 1) := db35.2.2.2.2.2.2.1
theorem dL_law_965 : decode cL_law 965 = .ok (.invokevirtual 120, 3) := db35.2.2.2.2.2.2.2.1
theorem dL_law_968 : decode cL_law 968 = .ok (.pop, 1) := db35.2.2.2.2.2.2.2.2.1
theorem dL_law_969 : decode cL_law 969 = .ok (.goto 1187, 3) := db35.2.2.2.2.2.2.2.2.2.1
theorem dL_law_972 : decode cL_law 972 = .ok (.aload_n 1, 1) := db35.2.2.2.2.2.2.2.2.2.2.1
theorem dL_law_973 : decode cL_law 973 = .ok (.aload_n 0, 1) := db35.2.2.2.2.2.2.2.2.2.2.2.1
theorem dL_law_974 : decode cL_law 974 = .ok (.iload_n 3, 1) := db35.2.2.2.2.2.2.2.2.2.2.2.2.1
theorem dL_law_975 : decode cL_law 975 = .ok (.iconst 1, 1) := db35.2.2.2.2.2.2.2.2.2.2.2.2.2.1
theorem dL_law_976 : decode cL_law 976 = .ok (.iadd, 1) := db35.2.2.2.2.2.2.2.2.2.2.2.2.2.2.1
theorem dL_law_977 : decode cL_law 977 = .ok (.iaload, 1) := db35.2.2.2.2.2.2.2.2.2.2.2.2.2.2.2.1
theorem dL_law_978 : decode cL_law 978 = .ok (.aload_n 0, 1) := db35.2.2.2.2.2.2.2.2.2.2.2.2.2.2.2.2.1
theorem dL_law_979 : decode cL_law 979 = .ok (.iload_n 3, 1) := db35.2.2.2.2.2.2.2.2.2.2.2.2.2.2.2.2.2.1
theorem dL_law_980 : decode cL_law 980 = .ok (.iconst 2, 1) := db35.2.2.2.2.2.2.2.2.2.2.2.2.2.2.2.2.2.2.1
theorem dL_law_981 : decode cL_law 981 = .ok (.iadd, 1) := db35.2.2.2.2.2.2.2.2.2.2.2.2.2.2.2.2.2.2.2.1
theorem dL_law_982 : decode cL_law 982 = .ok (.iaload, 1) := db35.2.2.2.2.2.2.2.2.2.2.2.2.2.2.2.2.2.2.2.2.1
theorem dL_law_983 : decode cL_law 983 = .ok (.aload_n 0, 1) := db35.2.2.2.2.2.2.2.2.2.2.2.2.2.2.2.2.2.2.2.2.2.1
theorem dL_law_984 : decode cL_law 984 = .ok (.iload_n 3, 1) := db35.2.2.2.2.2.2.2.2.2.2.2.2.2.2.2.2.2.2.2.2.2.2.1
theorem dL_law_985 : decode cL_law 985 = .ok (.iconst 3, 1) := db35.2.2.2.2.2.2.2.2.2.2.2.2.2.2.2.2.2.2.2.2.2.2.2
theorem db36 : (decode cL_law 986 = .ok (.iadd, 1)) ∧ (decode cL_law 987 = .ok (.iaload, 1)) ∧ (decode cL_law 988 = .ok (.invokevirtual 121, 3)) ∧ (decode cL_law 991 = .ok (.pop, 1)) ∧ (decode cL_law 992 = .ok (.aload_n 2, 1)) ∧ (decode cL_law 993 = .ok (.aload_n 0, 1)) ∧ (decode cL_law 994 = .ok (.iload_n 3, 1)) ∧ (decode cL_law 995 = .ok (.iconst 1, 1)) ∧ (decode cL_law 996 = .ok (.iadd, 1)) ∧ (decode cL_law 997 = .ok (.iaload, 1)) ∧ (decode cL_law 998 = .ok (.aload_n 0, 1)) ∧ (decode cL_law 999 = .ok (.iload_n 3, 1)) ∧ (decode cL_law 1000 = .ok (.iconst 2, 1)) ∧ (decode cL_law 1001 = .ok (.iadd, 1)) ∧ (decode cL_law 1002 = .ok (.iaload, 1)) ∧ (decode cL_law 1003 = .ok (.aload_n 0, 1)) ∧ (decode cL_law 1004 = .ok (.iload_n 3, 1)) ∧ (decode cL_law 1005 = .ok (.iconst 3, 1)) ∧ (decode cL_law 1006 = .ok (.iadd, 1)) ∧ (decode cL_law 1007 = .ok (.iaload, 1)) ∧ (decode cL_law 1008 = .ok (.invokevirtual 125, 3)) ∧ (decode cL_law 1011 = .ok (.pop, 1)) ∧ (decode cL_law 1012 = .ok (.goto 1144, 3)) ∧ (decode cL_law 1015 = .ok (.aload_n 1, 1)) := by decide +kernel
theorem dL_law_986 : decode cL_law 986 = .ok (.iadd, 1) := db36.1
theorem dL_law_987 : decode cL_law 987 = .ok (.iaload, 1) := db36.2.1
theorem dL_law_988 : decode cL_law 988 = .ok (.invokevirtual 121, 3) := db36.2.2.1
theorem dL_law_991 : decode cL_law 991 = .ok (.pop, 1) := db36.2.2.2.1
theorem dL_law_992 : decode cL_law 992 = .ok (.aload_n 2, 1) := db36.2.2.2.2.1
theorem dL_law_993 : decode cL_law 993 = .ok (.aload_n 0, 1) := db36.2.2.2.2.2.1
theorem dL_law_994 : decode cL_law 994 = .ok (.iload_n 3, 1) := db36.2.2.2.2.2.2.1
theorem dL_law_995 : decode cL_law 995 = .ok (.iconst 1, 1) := db36.2.2.2.2.2.2.2.1
theorem dL_law_996 : decode cL_law 996 = .ok (.iadd, 1) := db36.2.2.2.2.2.2.2.2.1
theorem dL_law_997 : decode cL_law 997 = .ok (.iaload, 1) := db36.2.2.2.2.2.2.2.2.2.1
theorem dL_law_998 : decode cL_law 998 = .ok (.aload_n 0, 1) := db36.2.2.2.2.2.2.2.2.2.2.1
theorem dL_law_999 : decode cL_law 999 = .ok (.iload_n 3, 1) := db36.2.2.2.2.2.2.2.2.2.2.2.1
theorem dL_law_1000 : decode cL_law 1000 = .ok (.iconst 2, 1) := db36.2.2.2.2.2.2.2.2.2.2.2.2.1
theorem dL_law_1001 : decode cL_law 1001 = .ok (.iadd, 1) := db36.2.2.2.2.2.2.2.2.2.2.2.2.2.1
theorem dL_law_1002 : decode cL_law 1002 = .ok (.iaload, 1) := db36.2.2.2.2.2.2.2.2.2.2.2.2.2.2.1
theorem dL_law_1003 : decode cL_law 1003 = .ok (.aload_n 0, 1) := db36.2.2.2.2.2.2.2.2.2.2.2.2.2.2.2.1
theorem dL_law_1004 : decode cL_law 1004 = .ok (.iload_n 3, 1) := db36.2.2.2.2.2.2.2.2.2.2.2.2.2.2.2.2.1
theorem dL_law_1005 : decode cL_law 1005 = .ok (.iconst 3, 1) := db36.2.2.2.2.2.2.2.2.2.2.2.2.2.2.2.2.2.1
theorem dL_law_1006 : decode cL_law 1006 = .ok (.iadd, 1) := db36.2.2.2.2.2.2.2.2.2.2.2.2.2.2.2.2.2.2.1
theorem dL_law_1007 : decode cL_law 1007 = .ok (.iaload, 1) := db36.2.2.2.2.2.2.2.2.2.2.2.2.2.2.2.2.2.2.2.1
theorem dL_law_1008 : decode cL_law 1008 = .ok (.invokevirtual 125, 3) := db36.2.2.2.2.2.2.2.2.2.2.2.2.2.2.2.2.2.2.2.2.1
theorem dL_law_1011 : decode cL_law 1011 = .ok (.pop, 1) := db36.2.2.2.2.2.2.2.2.2.2.2.2.2.2.2.2.2.2.2.2.2.1
theorem dL_law_1012 : decode cL_law 1012 = .ok (.goto 1144, 3) := db36.2.2.2.2.2.2.2.2.2.2.2.2.2.2.2.2.2.2.2.2.2.2.1
theorem dL_law_1015 : decode cL_law 1015 = .ok (.aload_n 1, 1) := db36.2.2.2.2.2.2.2.2.2.2.2.2.2.2.2.2.2.2.2.2.2.2.2
theorem db37 : (decode cL_law 1016 = .ok (.aload_n 0, 1)) ∧ (decode cL_law 1017 = .ok (.iload_n 3, 1)) ∧ (decode cL_law 1018 = .ok (.iconst 1, 1)) ∧ (decode cL_law 1019 = .ok (.iadd, 1)) ∧ (decode cL_law 1020 = .ok (.iaload, 1)) ∧ (decode cL_law 1021 = .ok (.invokevirtual 126, 3)) ∧ (decode cL_law 1024 = .ok (.pop, 1)) ∧ (decode cL_law 1025 = .ok (.aload_n 2, 1)) ∧ (decode cL_law 1026 = .ok (.aload_n 0, 1)) ∧ (decode cL_law 1027 = .ok (.iload_n 3, 1)) ∧ (decode cL_law 1028 = .ok (.iconst 1, 1)) ∧ (decode cL_law 1029 = .ok (.iadd, 1)) ∧ (decode cL_law 1030 = .ok (.iaload, 1)) ∧ (decode cL_law 1031 = .ok (.invokevirtual 129, 3)) ∧ (decode cL_law 1034 = .ok (.pop, 1)) ∧ (decode cL_law 1035 = .ok (.goto 1121, 3)) ∧ (decode cL_law 1038 = .ok (.aload_n 1, 1)) ∧ (decode cL_law 1039 = .ok (.aload_n 0, 1)) ∧ (decode cL_law 1040 = .ok (.iload_n 3, 1)) ∧ (decode cL_law 1041 = .ok (.iconst 1, 1)) ∧ (decode cL_law 1042 = .ok (.iadd, 1)) ∧ (decode cL_law 1043 = .ok (.iaload, 1)) ∧ (decode cL_law 1044 = .ok (.aload_n 0, 1)) ∧ (decode cL_law 1045 = .ok (.iload_n 3, 1)) := by decide +kernel
theorem dL_law_1016 : decode cL_law 1016 = .ok (.aload_n 0, 1) := db37.1
theorem dL_law_1017 : decode cL_law 1017 = .ok (.iload_n 3, 1) := db37.2.1
theorem dL_law_1018 : decode cL_law 1018 = .ok (.iconst 1, 1) := db37.2.2.1
theorem dL_law_1019 : decode cL_law 1019 = .ok (.iadd, 1) := db37.2.2.2.1
theorem dL_law_1020 : decode cL_law 1020 = .ok (.iaload, 1) := db37.2.2.2.2.1
theorem dL_law_1021 : decode cL_law 1021 = .ok (.invokevirtual 126, 3) := db37.2.2.2.2.2.1
theorem dL_law_1024 : decode cL_law 1024 = .ok (.pop, 1) := db37.2.2.2.2.2.2.1
theorem dL_law_1025 : decode cL_law 1025 = .ok (.aload_n 2, 1) := db37.2.2.2.2.2.2.2.1
theorem dL_law_1026 : decode cL_law 1026 = .ok (.aload_n 0, 1) := db37.2.2.2.2.2.2.2.2.1
theorem dL_law_1027 : decode cL_law 1027 = .ok (.iload_n 3, 1) := db37.2.2.2.2.2.2.2.2.2.1
theorem dL_law_1028 : decode cL_law 1028 = .ok (.iconst 1, 1) := db37.2.2.2.2.2.2.2.2.2.2.1
theorem dL_law_1029 : decode cL_law 1029 = .ok (.iadd, 1) := db37.2.2.2.2.2.2.2.2.2.2.2.1
theorem dL_law_1030 : decode cL_law 1030 = .ok (.iaload, 1) := db37.2.2.2.2.2.2.2.2.2.2.2.2.1
theorem dL_law_1031 : decode cL_law 1031 = .ok (.invokevirtual 129, 3) := db37.2.2.2.2.2.2.2.2.2.2.2.2.2.1
theorem dL_law_1034 : decode cL_law 1034 = .ok (.pop, 1) := db37.2.2.2.2.2.2.2.2.2.2.2.2.2.2.1
theorem dL_law_1035 : decode cL_law 1035 = .ok (.goto 1121, 3) := db37.2.2.2.2.2.2.2.2.2.2.2.2.2.2.2.1
theorem dL_law_1038 : decode cL_law 1038 = .ok (.aload_n 1, 1) := db37.2.2.2.2.2.2.2.2.2.2.2.2.2.2.2.2.1
theorem dL_law_1039 : decode cL_law 1039 = .ok (.aload_n 0, 1) := db37.2.2.2.2.2.2.2.2.2.2.2.2.2.2.2.2.2.1
theorem dL_law_1040 : decode cL_law 1040 = .ok (.iload_n 3, 1) := db37.2.2.2.2.2.2.2.2.2.2.2.2.2.2.2.2.2.2.1
theorem dL_law_1041 : decode cL_law 1041 = .ok (.iconst 1, 1) := db37.2.2.2.2.2.2.2.2.2.2.2.2.2.2.2.2.2.2.2.1
theorem dL_law_1042 : decode cL_law 1042 = .ok (.iadd, 1) := db37.2.2.2.2.2.2.2.2.2.2.2.2.2.2.2.2.2.2.2.2.1
theorem dL_law_1043 : decode cL_law 1043 = .ok (.iaload, 1) := db37.2.2.2.2.2.2.2.2.2.2.2.2.2.2.2.2.2.2.2.2.2.1
theorem dL_law_1044 : decode cL_law 1044 = .ok (.aload_n 0, 1) := db37.2.2.2.2.2.2.2.2.2.2.2.2.2.2.2.2.2.2.2.2.2.2.1
theorem dL_law_1045 : decode cL_law 1045 = .ok (.iload_n 3, 1) := db37.2.2.2.2.2.2.2.2.2.2.2.2.2.2.2.2.2.2.2.2.2.2.2
theorem db38 : (decode cL_law 1046 = .ok (.iconst 2, 1)) ∧ (decode cL_law 1047 = .ok (.iadd, 1)) ∧ (decode cL_law 1048 = .ok (.iaload, 1)) ∧ (decode cL_law 1049 = .ok (.invokevirtual 130, 3)) ∧ (decode cL_law 1052 = .ok (.pop, 1)) ∧ (decode cL_law 1053 = .ok (.aload_n 2, 1)) ∧ (decode cL_law 1054 = .ok (.aload_n 0, 1)) ∧ (decode cL_law 1055 = .ok (.iload_n 3, 1)) ∧ (decode cL_law 1056 = .ok (.iconst 1, 1)) ∧ (decode cL_law 1057 = .ok (.iadd, 1)) ∧ (decode cL_law 1058 = .ok (.iaload, 1)) ∧ (decode cL_law 1059 = .ok (.aload_n 0, 1)) ∧ (decode cL_law 1060 = .ok (.iload_n 3, 1)) ∧ (decode cL_law 1061 = .ok (.iconst 2, 1)) ∧ (decode cL_law 1062 = .ok (.iadd, 1)) ∧ (decode cL_law 1063 = .ok (.iaload, 1)) ∧ (decode cL_law 1064 = .ok (.invokevirtual 133, 3)) ∧ (decode cL_law 1067 = .ok (.pop, 1)) ∧ (decode cL_law 1068 = .ok (.goto 1088, 3)) ∧ (decode cL_law 1071 = .ok (.aload_n 1, 1)) ∧ (decode cL_law 1072 = .ok (.aload_n 0, 1)) ∧ (decode cL_law 1073 = .ok (.iload_n 3, 1)) ∧ (decode cL_law 1074 = .ok (.iconst 1, 1)) ∧ (decode cL_law 1075 = .ok (.iadd, 1)) := by decide +kernel
theorem dL_law_1046 : decode cL_law 1046 = .ok (.iconst 2, 1) := db38.1
theorem dL_law_1047 : decode cL_law 1047 = .ok (.iadd, 1) := db38.2.1
theorem dL_law_1048 : decode cL_law 1048 = .ok (.iaload, 1) := db38.2.2.1
theorem dL_law_1049 : decode cL_law 1049 = .ok (.invokevirtual 130, 3) := db38.2.2.2.1
theorem dL_law_1052 : decode cL_law 1052 = .ok (.pop, 1) := db38.2.2.2.2.1
theorem dL_law_1053 : decode cL_law 1053 = .ok (.aload_n 2, 1) := db38.2.2.2.2.2.1
theorem dL_law_1054 : decode cL_law 1054 = .ok (.aload_n 0, 1) := db38.2.2.2.2.2.2.1
theorem dL_law_1055 : decode cL_law 1055 = .ok (.iload_n 3, 1) := db38.2.2.2.2.2.2.2.1
theorem dL_law_1056 : decode cL_law 1056 = .ok (.iconst 1, 1) := db38.2.2.2.2.2.2.2.2.1
theorem dL_law_1057 : decode cL_law 1057 = .ok (.iadd, 1) := db38.2.2.2.2.2.2.2.2.2.1
theorem dL_law_1058 : decode cL_law 1058 = .ok (.iaload, 1) := db38.2.2.2.2.2.2.2.2.2.2.1
theorem dL_law_1059 : decode cL_law 1059 = .ok (.aload_n 0, 1) := db38.2.2.2.2.2.2.2.2.2.2.2.1
theorem dL_law_1060 : decode cL_law 1060 = .ok (.iload_n 3, 1) := db38.2.2.2.2.2.2.2.2.2.2.2.2.1
theorem dL_law_1061 : decode cL_law 1061 = .ok (.iconst 2, 1) := db38.2.2.2.2.2.2.2.2.2.2.2.2.2.1
theorem dL_law_1062 : decode cL_law 1062 = .ok (.iadd, 1) := db38.2.2.2.2.2.2.2.2.2.2.2.2.2.2.1
theorem dL_law_1063 : decode cL_law 1063 = .ok (.iaload, 1) := db38.2.2.2.2.2.2.2.2.2.2.2.2.2.2.2.1
theorem dL_law_1064 : decode cL_law 1064 = .ok (.invokevirtual 133, 3) := db38.2.2.2.2.2.2.2.2.2.2.2.2.2.2.2.2.1
theorem dL_law_1067 : decode cL_law 1067 = .ok (.pop, 1) := db38.2.2.2.2.2.2.2.2.2.2.2.2.2.2.2.2.2.1
theorem dL_law_1068 : decode cL_law 1068 = .ok (.goto 1088, 3) := db38.2.2.2.2.2.2.2.2.2.2.2.2.2.2.2.2.2.2.1
theorem dL_law_1071 : decode cL_law 1071 = .ok (.aload_n 1, 1) := db38.2.2.2.2.2.2.2.2.2.2.2.2.2.2.2.2.2.2.2.1
theorem dL_law_1072 : decode cL_law 1072 = .ok (.aload_n 0, 1) := db38.2.2.2.2.2.2.2.2.2.2.2.2.2.2.2.2.2.2.2.2.1
theorem dL_law_1073 : decode cL_law 1073 = .ok (.iload_n 3, 1) := db38.2.2.2.2.2.2.2.2.2.2.2.2.2.2.2.2.2.2.2.2.2.1
theorem dL_law_1074 : decode cL_law 1074 = .ok (.iconst 1, 1) := db38.2.2.2.2.2.2.2.2.2.2.2.2.2.2.2.2.2.2.2.2.2.2.1
theorem dL_law_1075 : decode cL_law 1075 = .ok (.iadd, 1) := db38.2.2.2.2.2.2.2.2.2.2.2.2.2.2.2.2.2.2.2.2.2.2.2
theorem db39 : (decode cL_law 1076 = .ok (.iaload, 1)) ∧ (decode cL_law 1077 = .ok (.aload_n 0, 1)) ∧ (decode cL_law 1078 = .ok (.iload_n 3, 1)) ∧ (decode cL_law 1079 = .ok (.iconst 2, 1)) ∧ (decode cL_law 1080 = .ok (.iadd, 1)) ∧ (decode cL_law 1081 = .ok (.iaload, 1)) ∧ (decode cL_law 1082 = .ok (.invokevirtual 134, 3)) ∧ (decode cL_law 1085 = .ok (.pop, 1)) ∧ (decode cL_law 1086 = .ok (.aload_n 2, 1)) ∧ (decode cL_law 1087 = .ok (.aload_n 0, 1)) ∧ (decode cL_law 1088 = .ok (.iload_n 3, 1)) ∧ (decode cL_law 1089 = .ok (.iconst 1, 1)) ∧ (decode cL_law 1090 = .ok (.iadd, 1)) ∧ (decode cL_law 1091 = .ok (.iaload, 1)) ∧ (decode cL_law 1092 = .ok (.aload_n 0, 1)) ∧ (decode cL_law 1093 = .ok (.iload_n 3, 1)) ∧ (decode cL_law 1094 = .ok (.iconst 2, 1)) ∧ (decode cL_law 1095 = .ok (.iadd, 1)) ∧ (decode cL_law 1096 = .ok (.iaload, 1)) ∧ (decode cL_law 1097 = .ok (.invokevirtual 137, 3)) ∧ (decode cL_law 1100 = .ok (.pop, 1)) ∧ (decode cL_law 1101 = .ok (.goto 1055, 3)) ∧ (decode cL_law 1104 = .ok (.aload_n 1, 1)) ∧ (decode cL_law 1105 = .ok (.aload_n 0, 1)) := by decide +kernel
theorem dL_law_1076 : decode cL_law 1076 = .ok (.iaload, 1) := db39.1
theorem dL_law_1077 : decode cL_law 1077 = .ok (.aload_n 0, 1) := db39.2.1
theorem dL_law_1078 : decode cL_law 1078 = .ok (.iload_n 3, 1) := db39.2.2.1
theorem dL_law_1079 : decode cL_law 1079 = .ok (.iconst 2, 1) := db39.2.2.2.1
theorem dL_law_1080 : decode cL_law 1080 = .ok (.iadd, 1) := db39.2.2.2.2.1
theorem dL_law_1081 : decode cL_law 1081 = .ok (.iaload, 1) := db39.2.2.2.2.2.1
theorem dL_law_1082 : decode cL_law 1082 = .ok (.invokevirtual 134, 3) := db39.2.2.2.2.2.2.1
theorem dL_law_1085 : decode cL_law 1085 = .ok (.pop, 1) := db39.2.2.2.2.2.2.2.1
theorem dL_law_1086 : decode cL_law 1086 = .ok (.aload_n 2, 1) := db39.2.2.2.2.2.2.2.2.1
theorem dL_law_1087 : decode cL_law 1087 = .ok (.aload_n 0, 1) := db39.2.2.2.2.2.2.2.2.2.1
theorem dL_law_1088 : decode cL_law 1088 = .ok (.iload_n 3, 1) := db39.2.2.2.2.2.2.2.2.2.2.1
theorem dL_law_1089 : decode cL_law 1089 = .ok (.iconst 1, 1) := db39.2.2.2.2.2.2.2.2.2.2.2.1
theorem dL_law_1090 : decode cL_law 1090 = .ok (.iadd, 1) := db39.2.2.2.2.2.2.2.2.2.2.2.2.1
theorem dL_law_1091 : decode cL_law 1091 = .ok (.iaload, 1) := db39.2.2.2.2.2.2.2.2.2.2.2.2.2.1
theorem dL_law_1092 : decode cL_law 1092 = .ok (.aload_n 0, 1) := db39.2.2.2.2.2.2.2.2.2.2.2.2.2.2.1
theorem dL_law_1093 : decode cL_law 1093 = .ok (.iload_n 3, 1) := db39.2.2.2.2.2.2.2.2.2.2.2.2.2.2.2.1
theorem dL_law_1094 : decode cL_law 1094 = .ok (.iconst 2, 1) := db39.2.2.2.2.2.2.2.2.2.2.2.2.2.2.2.2.1
theorem dL_law_1095 : decode cL_law 1095 = .ok (.iadd, 1) := db39.2.2.2.2.2.2.2.2.2.2.2.2.2.2.2.2.2.1
theorem dL_law_1096 : decode cL_law 1096 = .ok (.iaload, 1) := db39.2.2.2.2.2.2.2.2.2.2.2.2.2.2.2.2.2.2.1
theorem dL_law_1097 : decode cL_law 1097 = .ok (.invokevirtual 137, 3) := db39.2.2.2.2.2.2.2.2.2.2.2.2.2.2.2.2.2.2.2.1
theorem dL_law_1100 : decode cL_law 1100 = .ok (.pop, 1) := db39.2.2.2.2.2.2.2.2.2.2.2.2.2.2.2.2.2.2.2.2.1
theorem dL_law_1101 : decode cL_law 1101 = .ok (.goto 1055, 3) := db39.2.2.2.2.2.2.2.2.2.2.2.2.2.2.2.2.2.2.2.2.2.1
theorem dL_law_1104 : decode cL_law 1104 = .ok (.aload_n 1, 1) := db39.2.2.2.2.2.2.2.2.2.2.2.2.2.2.2.2.2.2.2.2.2.2.1
theorem dL_law_1105 : decode cL_law 1105 = .ok (.aload_n 0, 1) := db39.2.2.2.2.2.2.2.2.2.2.2.2.2.2.2.2.2.2.2.2.2.2.2
theorem db40 : (decode cL_law 1106 = .ok (.iload_n 3, 1)) ∧ (decode cL_law 1107 = .ok (.iconst 1, 1)) ∧ (decode cL_law 1108 = .ok (.iadd, 1)) ∧ (decode cL_law 1109 = .ok (.iaload, 1)) ∧ (decode cL_law 1110 = .ok (.invokevirtual 138, 3)) ∧ (decode cL_law 1113 = .ok (.pop, 1)) ∧ (decode cL_law 1114 = .ok (.aload_n 2, 1)) ∧ (decode cL_law 1115 = .ok (.aload_n 0, 1)) ∧ (decode cL_law 1116 = .ok (.iload_n 3, 1)) ∧ (decode cL_law 1117 = .ok (.iconst 1, 1)) ∧ (decode cL_law 1118 = .ok (.iadd, 1)) ∧ (decode cL_law 1119 = .ok (.iaload, 1)) ∧ (decode cL_law 1120 = .ok (.invokevirtual 141, 3)) ∧ (decode cL_law 1123 = .ok (.pop, 1)) ∧ (decode cL_law 1124 = .ok (.goto 1032, 3)) ∧ (decode cL_law 1127 = .ok (.aload_n 1, 1)) ∧ (decode cL_law 1128 = .ok (.invokevirtual 142, 3)) ∧ (decode cL_law 1131 = .ok (.pop, 1)) ∧ (decode cL_law 1132 = .ok (.aload_n 2, 1)) ∧ (decode cL_law 1133 = .ok (.invokevirtual 145, 3)) ∧ (decode cL_law 1136 = .ok (.pop, 1)) ∧ (decode cL_law 1137 = .ok (.goto 1019, 3)) ∧ (decode cL_law 1140 = .ok (.aload_n 1, 1)) ∧ (decode cL_law 1141 = .ok (.invokevirtual 146, 3)) := by decide +kernel
theorem dL_law_1106 : decode cL_law 1106 = .ok (.iload_n 3, 1) := db40.1
theorem dL_law_1107 : decode cL_law 1107 = .ok (.iconst 1, 1) := db40.2.1
theorem dL_law_1108 : decode cL_law 1108 = .ok (.iadd, 1) := db40.2.2.1
theorem dL_law_1109 : decode cL_law 1109 = .ok (.iaload, 1) := db40.2.2.2.1
theorem dL_law_1110 : decode cL_law 1110 = .ok (.invokevirtual 138, 3) := db40.2.2.2.2.1
theorem dL_law_1113 : decode cL_law 1113 = .ok (.pop, 1) := db40.2.2.2.2.2.1
theorem dL_law_1114 : decode cL_law 1114 = .ok (.aload_n 2, 1) := db40.2.2.2.2.2.2.1
theorem dL_law_1115 : decode cL_law 1115 = .ok (.aload_n 0, 1) := db40.2.2.2.2.2.2.2.1
theorem dL_law_1116 : decode cL_law 1116 = .ok (.iload_n 3, 1) := db40.2.2.2.2.2.2.2.2.1
theorem dL_law_1117 : decode cL_law 1117 = .ok (.iconst 1, 1) := db40.2.2.2.2.2.2.2.2.2.1
theorem dL_law_1118 : decode cL_law 1118 = .ok (.iadd, 1) := db40.2.2.2.2.2.2.2.2.2.2.1
theorem dL_law_1119 : decode cL_law 1119 = .ok (.iaload, 1) := db40.2.2.2.2.2.2.2.2.2.2.2.1
theorem dL_law_1120 : decode cL_law 1120 = .ok (.invokevirtual 141, 3) := db40.2.2.2.2.2.2.2.2.2.2.2.2.1
theorem dL_law_1123 : decode cL_law 1123 = .ok (.pop, 1) := db40.2.2.2.2.2.2.2.2.2.2.2.2.2.1
theorem dL_law_1124 : decode cL_law 1124 = .ok (.goto 1032, 3) := db40.2.2.2.2.2.2.2.2.2.2.2.2.2.2.1
theorem dL_law_1127 : decode cL_law 1127 = .ok (.aload_n 1, 1) := db40.2.2.2.2.2.2.2.2.2.2.2.2.2.2.2.1
theorem dL_law_1128 : decode cL_law 1128 = .ok (.invokevirtual 142, 3) := db40.2.2.2.2.2.2.2.2.2.2.2.2.2.2.2.2.1
theorem dL_law_1131 : decode cL_law 1131 = .ok (.pop, 1) := db40.2.2.2.2.2.2.2.2.2.2.2.2.2.2.2.2.2.1
theorem dL_law_1132 : decode cL_law 1132 = .ok (.aload_n 2, 1) := db40.2.2.2.2.2.2.2.2.2.2.2.2.2.2.2.2.2.2.1
theorem dL_law_1133 : decode cL_law 1133 = .ok (.invokevirtual 145, 3) := db40.2.2.2.2.2.2.2.2.2.2.2.2.2.2.2.2.2.2.2.1
theorem dL_law_1136 : decode cL_law 1136 = .ok (.pop, 1) := db40.2.2.2.2.2.2.2.2.2.2.2.2.2.2.2.2.2.2.2.2.1
theorem dL_law_1137 : decode cL_law 1137 = .ok (.goto 1019, 3) := db40.2.2.2.2.2.2.2.2.2.2.2.2.2.2.2.2.2.2.2.2.2.1
theorem dL_law_1140 : decode cL_law 1140 = .ok (.aload_n 1, 1) := db40.2.2.2.2.2.2.2.2.2.2.2.2.2.2.2.2.2.2.2.2.2.2.1
theorem dL_law_1141 : decode cL_law 1141 = .ok (.invokevirtual 146, 3) := db40.2.2.2.2.2.2.2.2.2.2.2.2.2.2.2.2.2.2.2.2.2.2.2
theorem db41 : (decode cL_law 1144 = .ok (.pop, 1)) ∧ (decode cL_law 1145 = .ok (.aload_n 2, 1)) ∧ (decode cL_law 1146 = .ok (.invokevirtual 149, 3)) ∧ (decode cL_law 1149 = .ok (.pop, 1)) ∧ (decode cL_law 1150 = .ok (.goto 1006, 3)) ∧ (decode cL_law 1153 = .ok (.aload_n 1, 1)) ∧ (decode cL_law 1154 = .ok (.aload_n 0, 1)) ∧ (decode cL_law 1155 = .ok (.iload_n 3, 1)) ∧ (decode cL_law 1156 = .ok (.iconst 1, 1)) ∧ (decode cL_law 1157 = .ok (.iadd, 1)) ∧ (decode cL_law 1158 = .ok (.iaload, 1)) ∧ (decode cL_law 1159 = .ok (.invokevirtual 150, 3)) ∧ (decode cL_law 1162 = .ok (.pop, 1)) ∧ (decode cL_law 1163 = .ok (.aload_n 2, 1)) ∧ (decode cL_law 1164 = .ok (.aload_n 0, 1)) ∧ (decode cL_law 1165 = .ok (.iload_n 3, 1)) ∧ (decode cL_law 1166 = .ok (.iconst 1, 1)) ∧ (decode cL_law 1167 = .ok (.iadd, 1)) ∧ (decode cL_law 1168 = .ok (.iaload, 1)) ∧ (decode cL_law 1169 = .ok (.invokevirtual 153, 3)) ∧ (decode cL_law 1172 = .ok (.pop, 1)) ∧ (decode cL_law 1173 = .ok (.goto 983, 3)) ∧ (decode cL_law 1176 = .ok (.aload_n 1, 1)) ∧ (decode cL_law 1177 = .ok (.aload_n 0, 1)) := by decide +kernel
theorem dL_law_1144 : decode cL_law 1144 = .ok (.pop, 1) := db41.1
theorem dL_law_1145 : decode cL_law 1145 = .ok (.aload_n 2, 1) := db41.2.1
theorem dL_law_1146 : decode cL_law 1146 = .ok (.invokevirtual 149, 3) := db41.2.2.1
theorem dL_law_1149 : decode cL_law 1149 = .ok (.pop, 1) := db41.2.2.2.1
theorem dL_law_1150 : decode cL_law 1150 = .ok (.goto 1006, 3) := db41.2.2.2.2.1
theorem dL_law_1153 : decode cL_law 1153 = .ok (.aload_n 1, 1) := db41.2.2.2.2.2.1
theorem dL_law_1154 : decode cL_law 1154 = .ok (.aload_n 0, 1) := db41.2.2.2.2.2.2.1
theorem dL_law_1155 : decode cL_law 1155 = .ok (.iload_n 3, 1) := db41.2.2.2.2.2.2.2.1
theorem dL_law_1156 : decode cL_law 1156 = .ok (.iconst 1, 1) := db41.2.2.2.2.2.2.2.2.1
theorem dL_law_1157 : decode cL_law 1157 = .ok (.iadd, 1) := db41.2.2.2.2.2.2.2.2.2.1
theorem dL_law_1158 : decode cL_law 1158 = .ok (.iaload, 1) := db41.2.2.2.2.2.2.2.2.2.2.1
theorem dL_law_1159 : decode cL_law 1159 = .ok (.invokevirtual 150, 3) := db41.2.2.2.2.2.2.2.2.2.2.2.1
theorem dL_law_1162 : decode cL_law 1162 = .ok (.pop, 1) := db41.2.2.2.2.2.2.2.2.2.2.2.2.1
theorem dL_law_1163 : decode cL_law 1163 = .ok (.aload_n 2, 1) := db41.2.2.2.2.2.2.2.2.2.2.2.2.2.1
theorem dL_law_1164 : decode cL_law 1164 = .ok (.aload_n 0, 1) := db41.2.2.2.2.2.2.2.2.2.2.2.2.2.2.1
theorem dL_law_1165 : decode cL_law 1165 = .ok (.iload_n 3, 1) := db41.2.2.2.2.2.2.2.2.2.2.2.2.2.2.2.1
theorem dL_law_1166 : decode cL_law 1166 = .ok (.iconst 1, 1) := db41.2.2.2.2.2.2.2.2.2.2.2.2.2.2.2.2.1
theorem dL_law_1167 : decode cL_law 1167 = .ok (.iadd, 1) := db41.2.2.2.2.2.2.2.2.2.2.2.2.2.2.2.2.2.1
theorem dL_law_1168 : decode cL_law 1168 = .ok (.iaload, 1) := db41.2.2.2.2.2.2.2.2.2.2.2.2.2.2.2.2.2.2.1
theorem dL_law_1169 : decode cL_law 1169 = .ok (.invokevirtual 153, 3) := db41.2.2.2.2.2.2.2.2.2.2.2.2.2.2.2.2.2.2.2.1
theorem dL_law_1172 : decode cL_law 1172 = .ok (.pop, 1) := db41.2.2.2.2.2.2.2.2.2.2.2.2.2.2.2.2.2.2.2.2.1
theorem dL_law_1173 : decode cL_law 1173 = .ok (.goto 983, 3) := db41.2.2.2.2.2.2.2.2.2.2.2.2.2.2.2.2.2.2.2.2.2.1
theorem dL_law_1176 : decode cL_law 1176 = .ok (.aload_n 1, 1) := db41.2.2.2.2.2.2.2.2.2.2.2.2.2.2.2.2.2.2.2.2.2.2.1
theorem dL_law_1177 : decode cL_law 1177 = .ok (.aload_n 0, 1) := db41.2.2.2.2.2.2.2.2.2.2.2.2.2.2.2.2.2.2.2.2.2.2.2
theorem db42 : (decode cL_law 1178 = .ok (.iload_n 3, 1)) ∧ (decode cL_law 1179 = .ok (.iconst 1, 1)) ∧ (decode cL_law 1180 = .ok (.iadd, 1)) ∧ (decode cL_law 1181 = .ok (.iaload, 1)) ∧ (decode cL_law 1182 = .ok (.invokevirtual 154, 3)) ∧ (decode cL_law 1185 = .ok (.pop, 1)) ∧ (decode cL_law 1186 = .ok (.aload_n 2, 1)) ∧ (decode cL_law 1187 = .ok (.aload_n 0, 1)) ∧ (decode cL_law 1188 = .ok (.iload_n 3, 1)) ∧ (decode cL_law 1189 = .ok (.iconst 1, 1)) ∧ (decode cL_law 1190 = .ok (.iadd, 1)) ∧ (decode cL_law 1191 = .ok (.iaload, 1)) ∧ (decode cL_law 1192 = .ok (.invokevirtual 157, 3)) ∧ (decode cL_law 1195 = .ok (.pop, 1)) ∧ (decode cL_law 1196 = .ok (.goto 960, 3)) ∧ (decode cL_law 1199 = .ok (.aload_n 1, 1)) ∧ (decode cL_law 1200 = .ok (.aload_n 0, 1)) ∧ (decode cL_law 1201 = .ok (.iload_n 3, 1)) ∧ (decode cL_law 1202 = .ok (.iconst 1, 1)) ∧ (decode cL_law 1203 = .ok (.iadd, 1)) ∧ (decode cL_law 1204 = .ok (.iaload, 1)) ∧ (decode cL_law 1205 = .ok (.aload_n 0, 1)) ∧ (decode cL_law 1206 = .ok (.iload_n 3, 1)) ∧ (decode cL_law 1207 = .ok (.iconst 2, 1)) := by decide +kernel
theorem dL_law_1178 : decode cL_law 1178 = .ok (.iload_n 3, 1) := db42.1
theorem dL_law_1179 : decode cL_law 1179 = .ok (.iconst 1, 1) := db42.2.1
theorem dL_law_1180 : decode cL_law 1180 = .ok (.iadd, 1) := db42.2.2.1
theorem dL_law_1181 : decode cL_law 1181 = .ok (.iaload, 1) := db42.2.2.2.1
theorem dL_law_1182 : decode cL_law 1182 = .ok (.invokevirtual 154, 3) := db42.2.2.2.2.1
theorem dL_law_1185 : decode cL_law 1185 = .ok (.pop, 1) := db42.2.2.2.2.2.1
theorem dL_law_1186 : decode cL_law 1186 = .ok (.aload_n 2, 1) := db42.2.2.2.2.2.2.1
theorem dL_law_1187 : decode cL_law 1187 = .ok (.aload_n 0, 1) := db42.2.2.2.2.2.2.2.1
theorem dL_law_1188 : decode cL_law 1188 = .ok (.iload_n 3, 1) := db42.2.2.2.2.2.2.2.2.1
theorem dL_law_1189 : decode cL_law 1189 = .ok (.iconst 1, 1) := db42.2.2.2.2.2.2.2.2.2.1
theorem dL_law_1190 : decode cL_law 1190 = .ok (.iadd, 1) := db42.2.2.2.2.2.2.2.2.2.2.1
theorem dL_law_1191 : decode cL_law 1191 = .ok (.iaload, 1) := db42.2.2.2.2.2.2.2.2.2.2.2.1
theorem dL_law_1192 : decode cL_law 1192 = .ok (.invokevirtual 157, 3) := db42.2.2.2.2.2.2.2.2.2.2.2.2.1
theorem dL_law_1195 : decode cL_law 1195 = .ok (.pop, 1) := db42.2.2.2.2.2.2.2.2.2.2.2.2.2.1
theorem dL_law_1196 : decode cL_law 1196 = .ok (.goto 960, 3) := db42.2.2.2.2.2.2.2.2.2.2.2.2.2.2.1
theorem dL_law_1199 : decode cL_law 1199 = .ok (.aload_n 1, 1) := db42.2.2.2.2.2.2.2.2.2.2.2.2.2.2.2.1
theorem dL_law_1200 : decode cL_law 1200 = .ok (.aload_n 0, 1) := db42.2.2.2.2.2.2.2.2.2.2.2.2.2.2.2.2.1
theorem dL_law_1201 : decode cL_law 1201 = .ok (.iload_n 3, 1) := db42.2.2.2.2.2.2.2.2.2.2.2.2.2.2.2.2.2.1
theorem dL_law_1202 : decode cL_law 1202 = .ok (.iconst 1, 1) := db42.2.2.2.2.2.2.2.2.2.2.2.2.2.2.2.2.2.2.1
theorem dL_law_1203 : decode cL_law 1203 = .ok (.iadd, 1) := db42.2.2.2.2.2.2.2.2.2.2.2.2.2.2.2.2.2.2.2.1
theorem dL_law_1204 : decode cL_law 1204 = .ok (.iaload, 1) := db42.2.2.2.2.2.2.2.2.2.2.2.2.2.2.2.2.2.2.2.2.1
theorem dL_law_1205 : decode cL_law 1205 = .ok (.aload_n 0, 1) := db42.2.2.2.2.2.2.2.2.2.2.2.2.2.2.2.2.2.2.2.2.2.1
theorem dL_law_1206 : decode cL_law 1206 = .ok (.iload_n 3, 1) := db42.2.2.2.2.2.2.2.2.2.2.2.2.2.2.2.2.2.2.2.2.2.2.1
theorem dL_law_1207 : decode cL_law 1207 = .ok (.iconst 2, 1) := db42.2.2.2.2.2.2.2.2.2.2.2.2.2.2.2.2.2.2.2.2.2.2.2
theorem db43 : (decode cL_law 1208 = .ok (.iadd, 1)) ∧ (decode cL_law 1209 = .ok (.iaload, 1)) ∧ (decode cL_law 1210 = .ok (.invokevirtual 158, 3)) ∧ (decode cL_law 1213 = .ok (.pop, 1)) ∧ (decode cL_law 1214 = .ok (.aload_n 2, 1)) ∧ (decode cL_law 1215 = .ok (.aload_n 0, 1)) ∧ (decode cL_law 1216 = .ok (.iload_n 3, 1)) ∧ (decode cL_law 1217 = .ok (.iconst 1, 1)) ∧ (decode cL_law 1218 = .ok (.iadd, 1)) ∧ (decode cL_law 1219 = .ok (.iaload, 1)) ∧ (decode cL_law 1220 = .ok (.aload_n 0, 1)) ∧ (decode cL_law 1221 = .ok (.iload_n 3, 1)) ∧ (decode cL_law 1222 = .ok (.iconst 2, 1)) ∧ (decode cL_law 1223 = .ok (.iadd, 1)) ∧ (decode cL_law 1224 = .ok (.iaload, 1)) ∧ (decode cL_law 1225 = .ok (.invokevirtual 161, 3)) ∧ (decode cL_law 1228 = .ok (.pop, 1)) ∧ (decode cL_law 1229 = .ok (.goto 927, 3)) ∧ (decode cL_law 1232 = .ok (.aload_n 1, 1)) ∧ (decode cL_law 1233 = .ok (.aload_n 0, 1)) ∧ (decode cL_law 1234 = .ok (.iload_n 3, 1)) ∧ (decode cL_law 1235 = .ok (.iconst 1, 1)) ∧ (decode cL_law 1236 = .ok (.iadd, 1)) ∧ (decode cL_law 1237 = .ok (.iaload, 1)) := by decide +kernel
theorem dL_law_1208 : decode cL_law 1208 = .ok (.iadd, 1) := db43.1
theorem dL_law_1209 : decode cL_law 1209 = .ok (.iaload, 1) := db43.2.1
theorem dL_law_1210 : decode cL_law 1210 = .ok (.invokevirtual 158, 3) := db43.2.2.1
theorem dL_law_1213 : decode cL_law 1213 = .ok (.pop, 1) := db43.2.2.2.1
theorem dL_law_1214 : decode cL_law 1214 = .ok (.aload_n 2, 1) := db43.2.2.2.2.1
theorem dL_law_1215 : decode cL_law 1215 = .ok (.aload_n 0, 1) := db43.2.2.2.2.2.1
theorem dL_law_1216 : decode cL_law 1216 = .ok (.iload_n 3, 1) := db43.2.2.2.2.2.2.1
theorem dL_law_1217 : decode cL_law 1217 = .ok (.iconst 1, 1) := db43.2.2.2.2.2.2.2.1
theorem dL_law_1218 : decode cL_law 1218 = .ok (.iadd, 1) := db43.2.2.2.2.2.2.2.2.1
theorem dL_law_1219 : decode cL_law 1219 = .ok (.iaload, 1) := db43.2.2.2.2.2.2.2.2.2.1
theorem dL_law_1220 : decode cL_law 1220 = .ok (.aload_n 0, 1) := db43.2.2.2.2.2.2.2.2.2.2.1
theorem dL_law_1221 : decode cL_law 1221 = .ok (.iload_n 3, 1) := db43.2.2.2.2.2.2.2.2.2.2.2.1
theorem dL_law_1222 : decode cL_law 1222 = .ok (.iconst 2, 1) := db43.2.2.2.2.2.2.2.2.2.2.2.2.1
theorem dL_law_1223 : decode cL_law 1223 = .ok (.iadd, 1) := db43.2.2.2.2.2.2.2.2.2.2.2.2.2.1
theorem dL_law_1224 : decode cL_law 1224 = .ok (.iaload, 1) := db43.2.2.2.2.2.2.2.2.2.2.2.2.2.2.1
theorem dL_law_1225 : decode cL_law 1225 = .ok (.invokevirtual 161, 3) := db43.2.2.2.2.2.2.2.2.2.2.2.2.2.2.2.1
theorem dL_law_1228 : decode cL_law 1228 = .ok (.pop, 1) := db43.2.2.2.2.2.2.2.2.2.2.2.2.2.2.2.2.1
theorem dL_law_1229 : decode cL_law 1229 = .ok (.goto 927, 3) := db43.2.2.2.2.2.2.2.2.2.2.2.2.2.2.2.2.2.1
theorem dL_law_1232 : decode cL_law 1232 = .ok (.aload_n 1, 1) := db43.2.2.2.2.2.2.2.2.2.2.2.2.2.2.2.2.2.2.1
theorem dL_law_1233 : decode cL_law 1233 = .ok (.aload_n 0, 1) := db43.2.2.2.2.2.2.2.2.2.2.2.2.2.2.2.2.2.2.2.1
theorem dL_law_1234 : decode cL_law 1234 = .ok (.iload_n 3, 1) := db43.2.2.2.2.2.2.2.2.2.2.2.2.2.2.2.2.2.2.2.2.1
theorem dL_law_1235 : decode cL_law 1235 = .ok (.iconst 1, 1) := db43.2.2.2.2.2.2.2.2.2.2.2.2.2.2.2.2.2.2.2.2.2.1
theorem dL_law_1236 : decode cL_law 1236 = .ok (.iadd, 1) := db43.2.2.2.2.2.2.2.2.2.2.2.2.2.2.2.2.2.2.2.2.2.2.1
theorem dL_law_1237 : decode cL_law 1237 = .ok (.iaload, 1) := db43.2.2.2.2.2.2.2.2.2.2.2.2.2.2.2.2.2.2.2.2.2.2.2
theorem db44 : (decode cL_law 1238 = .ok (.invokevirtual 162, 3)) ∧ (decode cL_law 1241 = .ok (.pop, 1)) ∧ (decode cL_law 1242 = .ok (.aload_n 2, 1)) ∧ (decode cL_law 1243 = .ok (.aload_n 0, 1)) ∧ (decode cL_law 1244 = .ok (.iload_n 3, 1)) ∧ (decode cL_law 1245 = .ok (.iconst 1, 1)) ∧ (decode cL_law 1246 = .ok (.iadd, 1)) ∧ (decode cL_law 1247 = .ok (.iaload, 1)) ∧ (decode cL_law 1248 = .ok (.invokevirtual 165, 3)) ∧ (decode cL_law 1251 = .ok (.pop, 1)) ∧ (decode cL_law 1252 = .ok (.goto 904, 3)) ∧ (decode cL_law 1255 = .ok (.aload_n 1, 1)) ∧ (decode cL_law 1256 = .ok (.aload_n 0, 1)) ∧ (decode cL_law 1257 = .ok (.iload_n 3, 1)) ∧ (decode cL_law 1258 = .ok (.iconst 1, 1)) ∧ (decode cL_law 1259 = .ok (.iadd, 1)) ∧ (decode cL_law 1260 = .ok (.iaload, 1)) ∧ (decode cL_law 1261 = .ok (.invokevirtual 166, 3)) ∧ (decode cL_law 1264 = .ok (.pop, 1)) ∧ (decode cL_law 1265 = .ok (.aload_n 2, 1)) ∧ (decode cL_law 1266 = .ok (.aload_n 0, 1)) ∧ (decode cL_law 1267 = .ok (.iload_n 3, 1)) ∧ (decode cL_law 1268 = .ok (.iconst 1, 1)) ∧ (decode cL_law 1269 = .ok (.iadd, 1)) := by decide +kernel
theorem dL_law_1238 : decode cL_law 1238 = .ok (.invokevirtual 162, 3) := db44.1
theorem dL_law_1241 : decode cL_law 1241 = .ok (.pop, 1) := db44.2.1
theorem dL_law_1242 : decode cL_law 1242 = .ok (.aload_n 2, 1) := db44.2.2.1
theorem dL_law_1243 : decode cL_law 1243 = .ok (.aload_n 0, 1) := db44.2.2.2.1
theorem dL_law_1244 : decode cL_law 1244 = .ok (.iload_n 3, 1) := db44.2.2.2.2.1
theorem dL_law_1245 : decode cL_law 1245 = .ok (.iconst 1, 1) := db44.2.2.2.2.2.1
theorem dL_law_1246 : decode cL_law 1246 = .ok (.iadd, 1) := db44.2.2.2.2.2.2.1
theorem dL_law_1247 : decode cL_law 1247 = .ok (.iaload, 1) := db44.2.2.2.2.2.2.2.1
theorem dL_law_1248 : decode cL_law 1248 = .ok (.invokevirtual 165, 3) := db44.2.2.2.2.2.2.2.2.1
theorem dL_law_1251 : decode cL_law 1251 = .ok (.pop, 1) := db44.2.2.2.2.2.2.2.2.2.1
theorem dL_law_1252 : decode cL_law 1252 = .ok (.goto 904, 3) := db44.2.2.2.2.2.2.2.2.2.2.1
theorem dL_law_1255 : decode cL_law 1255 = .ok (.aload_n 1, 1) := db44.2.2.2.2.2.2.2.2.2.2.2.1
theorem dL_law_1256 : decode cL_law 1256 = .ok (.aload_n 0, 1) := db44.2.2.2.2.2.2.2.2.2.2.2.2.1
theorem dL_law_1257 : decode cL_law 1257 = .ok (.iload_n 3, 1) := db44.2.2.2.2.2.2.2.2.2.2.2.2.2.1
theorem dL_law_1258 : decode cL_law 1258 = .ok (.iconst 1, 1) := db44.2.2.2.2.2.2.2.2.2.2.2.2.2.2.1
theorem dL_law_1259 : decode cL_law 1259 = .ok (.iadd, 1) := db44.2.2.2.2.2.2.2.2.2.2.2.2.2.2.2.1
theorem dL_law_1260 : decode cL_law 1260 = .ok (.iaload, 1) := db44.2.2.2.2.2.2.2.2.2.2.2.2.2.2.2.2.1
theorem dL_law_1261 : decode cL_law 1261 = .ok (.invokevirtual 166, 3) := db44.2.2.2.2.2.2.2.2.2.2.2.2.2.2.2.2.2.1
theorem dL_law_1264 : decode cL_law 1264 = .ok (.pop, 1) := db44.2.2.2.2.2.2.2.2.2.2.2.2.2.2.2.2.2.2.1
theorem dL_law_1265 : decode cL_law 1265 = .ok (.aload_n 2, 1) := db44.2.2.2.2.2.2.2.2.2.2.2.2.2.2.2.2.2.2.2.1
theorem dL_law_1266 : decode cL_law 1266 = .ok (.aload_n 0, 1) := db44.2.2.2.2.2.2.2.2.2.2.2.2.2.2.2.2.2.2.2.2.1
theorem dL_law_1267 : decode cL_law 1267 = .ok (.iload_n 3, 1) := db44.2.2.2.2.2.2.2.2.2.2.2.2.2.2.2.2.2.2.2.2.2.1
theorem dL_law_1268 : decode cL_law 1268 = .ok (.iconst 1, 1) := db44.2.2.2.2.2.2.2.2.2.2.2.2.2.2.2.2.2.2.2.2.2.2.1
theorem dL_law_1269 : decode cL_law 1269 = .ok (.iadd, 1) := db44.2.2.2.2.2.2.2.2.2.2.2.2.2.2.2.2.2.2.2.2.2.2.2
theorem db45 : (decode cL_law 1270 = .ok (.iaload, 1)) ∧ (decode cL_law 1271 = .ok (.invokevirtual 169, 3)) ∧ (decode cL_law 1274 = .ok (.pop, 1)) ∧ (decode cL_law 1275 = .ok (.goto 881, 3)) ∧ (decode cL_law 1278 = .ok (.aload_n 1, 1)) ∧ (decode cL_law 1279 = .ok (.aload_n 0, 1)) ∧ (decode cL_law 1280 = .ok (.iload_n 3, 1)) ∧ (decode cL_law 1281 = .ok (.iconst 1, 1)) ∧ (decode cL_law 1282 = .ok (.iadd, 1)) ∧ (decode cL_law 1283 = .ok (.iaload, 1)) ∧ (decode cL_law 1284 = .ok (.aload_n 0, 1)) ∧ (decode cL_law 1285 = .ok (.iload_n 3, 1)) ∧ (decode cL_law 1286 = .ok (.iconst 2, 1)) ∧ (decode cL_law 1287 = .ok (.iadd, 1)) ∧ (decode cL_law 1288 = .ok (.iaload, 1)) ∧ (decode cL_law 1289 = .ok (.invokevirtual 170, 3)) ∧ (decode cL_law 1292 = .ok (.pop, 1)) ∧ (decode cL_law 1293 = .ok (.aload_n 2, 1)) ∧ (decode cL_law 1294 = .ok (.aload_n 0, 1)) ∧ (decode cL_law 1295 = .ok (.iload_n 3, 1)) ∧ (decode cL_law 1296 = .ok (.iconst 1, 1)) ∧ (decode cL_law 1297 = .ok (.iadd, 1)) ∧ (decode cL_law 1298 = .ok (.iaload, 1)) ∧ (decode cL_law 1299 = .ok (.aload_n 0, 1)) := by decide +kernel
theorem dL_law_1270 : decode cL_law 1270 = .ok (.iaload, 1) := db45.1
theorem dL_law_1271 : decode cL_law 1271 = .ok (.invokevirtual 169, 3) := db45.2.1
theorem dL_law_1274 : decode cL_law 1274 = .ok (.pop, 1) := db45.2.2.1
theorem dL_law_1275 : decode cL_law 1275 = .ok (.goto 881, 3) := db45.2.2.2.1
theorem dL_law_1278 : decode cL_law 1278 = .ok (.aload_n 1, 1) := db45.2.2.2.2.1
theorem dL_law_1279 : decode cL_law 1279 = .ok (.aload_n 0, 1) := db45.2.2.2.2.2.1
theorem dL_law_1280 : decode cL_law 1280 = .ok (.iload_n 3, 1) := db45.2.2.2.2.2.2.1
theorem dL_law_1281 : decode cL_law 1281 = .ok (.iconst 1, 1) := db45.2.2.2.2.2.2.2.1
theorem dL_law_1282 : decode cL_law 1282 = .ok (.iadd, 1) := db45.2.2.2.2.2.2.2.2.1
theorem dL_law_1283 : decode cL_law 1283 = .ok (.iaload, 1) := db45.2.2.2.2.2.2.2.2.2.1
theorem dL_law_1284 : decode cL_law 1284 = .ok (.aload_n 0, 1) := db45.2.2.2.2.2.2.2.2.2.2.1
theorem dL_law_1285 : decode cL_law 1285 = .ok (.iload_n 3, 1) := db45.2.2.2.2.2.2.2.2.2.2.2.1
theorem dL_law_1286 : decode cL_law 1286 = .ok (.iconst 2, 1) := db45.2.2.2.2.2.2.2.2.2.2.2.2.1
theorem dL_law_1287 : decode cL_law 1287 = .ok (.iadd, 1) := db45.2.2.2.2.2.2.2.2.2.2.2.2.2.1
theorem dL_law_1288 : decode cL_law 1288 = .ok (.iaload, 1) := db45.2.2.2.2.2.2.2.2.2.2.2.2.2.2.1
theorem dL_law_1289 : decode cL_law 1289 = .ok (.invokevirtual 170, 3) := db45.2.2.2.2.2.2.2.2.2.2.2.2.2.2.2.1
theorem dL_law_1292 : decode cL_law 1292 = .ok (.pop, 1) := db45.2.2.2.2.2.2.2.2.2.2.2.2.2.2.2.2.1
theorem dL_law_1293 : decode cL_law 1293 = .ok (.aload_n 2, 1) := db45.2.2.2.2.2.2.2.2.2.2.2.2.2.2.2.2.2.1
theorem dL_law_1294 : decode cL_law 1294 = .ok (.aload_n 0, 1) := db45.2.2.2.2.2.2.2.2.2.2.2.2.2.2.2.2.2.2.1
theorem dL_law_1295 : decode cL_law 1295 = .ok (.iload_n 3, 1) := db45.2.2.2.2.2.2.2.2.2.2.2.2.2.2.2.2.2.2.2.1
theorem dL_law_1296 : decode cL_law 1296 = .ok (.iconst 1, 1) := db45.2.2.2.2.2.2.2.2.2.2.2.2.2.2.2.2.2.2.2.2.1
theorem dL_law_1297 : decode cL_law 1297 = .ok (.iadd, 1) := db45.2.2.2.2.2.2.2.2.2.2.2.2.2.2.2.2.2.2.2.2.2.1
theorem dL_law_1298 : decode cL_law 1298 = .ok (.iaload, 1) := db45.2.2.2.2.2.2.2.2.2.2.2.2.2.2.2.2.2.2.2.2.2.2.1
theorem dL_law_1299 : decode cL_law 1299 = .ok (.aload_n 0, 1) := db45.2.2.2.2.2.2.2.2.2.2.2.2.2.2.2.2.2.2.2.2.2.2.2
theorem db46 : (decode cL_law 1300 = .ok (.iload_n 3, 1)) ∧ (decode cL_law 1301 = .ok (.iconst 2, 1)) ∧ (decode cL_law 1302 = .ok (.iadd, 1)) ∧ (decode cL_law 1303 = .ok (.iaload, 1)) ∧ (decode cL_law 1304 = .ok (.invokevirtual 173, 3)) ∧ (decode cL_law 1307 = .ok (.pop, 1)) ∧ (decode cL_law 1308 = .ok (.goto 848, 3)) ∧ (decode cL_law 1311 = .ok (.aload_n 1, 1)) ∧ (decode cL_law 1312 = .ok (.aload_n 0, 1)) ∧ (decode cL_law 1313 = .ok (.iload_n 3, 1)) ∧ (decode cL_law 1314 = .ok (.iconst 1, 1)) ∧ (decode cL_law 1315 = .ok (.iadd, 1)) ∧ (decode cL_law 1316 = .ok (.iaload, 1)) ∧ (decode cL_law 1317 = .ok (.aload_n 0, 1)) ∧ (decode cL_law 1318 = .ok (.iload_n 3, 1)) ∧ (decode cL_law 1319 = .ok (.iconst 2, 1)) ∧ (decode cL_law 1320 = .ok (.iadd, 1)) ∧ (decode cL_law 1321 = .ok (.iaload, 1)) ∧ (decode cL_law 1322 = .ok (.aload_n 0, 1)) ∧ (decode cL_law 1323 = .ok (.iload_n 3, 1)) ∧ (decode cL_law 1324 = .ok (.iconst 3, 1)) ∧ (decode cL_law 1325 = .ok (.iadd, 1)) ∧ (decode cL_law 1326 = .ok (.iaload, 1)) ∧ (decode cL_law 1327 = .ok (.aload_n 0, 1)) := by decide +kernel
theorem dL_law_1300 : decode cL_law 1300 = .ok (.iload_n 3, 1) := db46.1
theorem dL_law_1301 : decode cL_law 1301 = .ok (.iconst 2, 1) := db46.2.1
theorem dL_law_1302 : decode cL_law 1302 = .ok (.iadd, 1) := db46.2.2.1
theorem dL_law_1303 : decode cL_law 1303 = .ok (.iaload, 1) := db46.2.2.2.1
theorem dL_law_1304 : decode cL_law 1304 = .ok (.invokevirtual 173, 3) := db46.2.2.2.2.1
theorem dL_law_1307 : decode cL_law 1307 = .ok (.pop, 1) := db46.2.2.2.2.2.1
theorem dL_law_1308 : decode cL_law 1308 = .ok (.goto 848, 3) := db46.2.2.2.2.2.2.1
theorem dL_law_1311 : decode cL_law 1311 = .ok (.aload_n 1, 1) := db46.2.2.2.2.2.2.2.1
theorem dL_law_1312 : decode cL_law 1312 = .ok (.aload_n 0, 1) := db46.2.2.2.2.2.2.2.2.1
theorem dL_law_1313 : decode cL_law 1313 = .ok (.iload_n 3, 1) := db46.2.2.2.2.2.2.2.2.2.1
theorem dL_law_1314 : decode cL_law 1314 = .ok (.iconst 1, 1) := db46.2.2.2.2.2.2.2.2.2.2.1
theorem dL_law_1315 : decode cL_law 1315 = .ok (.iadd, 1) := db46.2.2.2.2.2.2.2.2.2.2.2.1
theorem dL_law_1316 : decode cL_law 1316 = .ok (.iaload, 1) := db46.2.2.2.2.2.2.2.2.2.2.2.2.1
theorem dL_law_1317 : decode cL_law 1317 = .ok (.aload_n 0, 1) := db46.2.2.2.2.2.2.2.2.2.2.2.2.2.1
theorem dL_law_1318 : decode cL_law 1318 = .ok (.iload_n 3, 1) := db46.2.2.2.2.2.2.2.2.2.2.2.2.2.2.1
theorem dL_law_1319 : decode cL_law 1319 = .ok (.iconst 2, 1) := db46.2.2.2.2.2.2.2.2.2.2.2.2.2.2.2.1
theorem dL_law_1320 : decode cL_law 1320 = .ok (.iadd, 1) := db46.2.2.2.2.2.2.2.2.2.2.2.2.2.2.2.2.1
theorem dL_law_1321 : decode cL_law 1321 = .ok (.iaload, 1) := db46.2.2.2.2.2.2.2.2.2.2.2.2.2.2.2.2.2.1
theorem dL_law_1322 : decode cL_law 1322 = .ok (.aload_n 0, 1) := db46.2.2.2.2.2.2.2.2.2.2.2.2.2.2.2.2.2.2.1
theorem dL_law_1323 : decode cL_law 1323 = .ok (.iload_n 3, 1) := db46.2.2.2.2.2.2.2.2.2.2.2.2.2.2.2.2.2.2.2.1
theorem dL_law_1324 : decode cL_law 1324 = .ok (.iconst 3, 1) := db46.2.2.2.2.2.2.2.2.2.2.2.2.2.2.2.2.2.2.2.2.1
theorem dL_law_1325 : decode cL_law 1325 = .ok (.iadd, 1) := db46.2.2.2.2.2.2.2.2.2.2.2.2.2.2.2.2.2.2.2.2.2.1
theorem dL_law_1326 : decode cL_law 1326 = .ok (.iaload, 1) := db46.2.2.2.2.2.2.2.2.2.2.2.2.2.2.2.2.2.2.2.2.2.2.1
theorem dL_law_1327 : decode cL_law 1327 = .ok (.aload_n 0, 1) := db46.2.2.2.2.2.2.2.2.2.2.2.2.2.2.2.2.2.2.2.2.2.2.2
theorem db47 : (decode cL_law 1328 = .ok (.iload_n 3, 1)) ∧ (decode cL_law 1329 = .ok (.iconst 4, 1)) ∧ (decode cL_law 1330 = .ok (.iadd, 1)) ∧ (decode cL_law 1331 = .ok (.iaload, 1)) ∧ (decode cL_law 1332 = .ok (.invokevirtual 174, 3)) ∧ (decode cL_law 1335 = .ok (.pop, 1)) ∧ (decode cL_law 1336 = .ok (.aload_n 2, 1)) ∧ (decode cL_law 1337 = .ok (.aload_n 0, 1)) ∧ (decode cL_law 1338 = .ok (.iload_n 3, 1)) ∧ (decode cL_law 1339 = .ok (.iconst 1, 1)) ∧ (decode cL_law 1340 = .ok (.iadd, 1)) ∧ (decode cL_law 1341 = .ok (.iaload, 1)) ∧ (decode cL_law 1342 = .ok (.aload_n 0, 1)) ∧ (decode cL_law 1343 = .ok (.iload_n 3, 1)) ∧ (decode cL_law 1344 = .ok (.iconst 2, 1)) ∧ (decode cL_law 1345 = .ok (.iadd, 1)) ∧ (decode cL_law 1346 = .ok (.iaload, 1)) ∧ (decode cL_law 1347 = .ok (.aload_n 0, 1)) ∧ (decode cL_law 1348 = .ok (.iload_n 3, 1)) ∧ (decode cL_law 1349 = .ok (.iconst 3, 1)) ∧ (decode cL_law 1350 = .ok (.iadd, 1)) ∧ (decode cL_law 1351 = .ok (.iaload, 1)) ∧ (decode cL_law 1352 = .ok (.aload_n 0, 1)) ∧ (decode cL_law 1353 = .ok (.iload_n 3, 1)) := by decide +kernel
theorem dL_law_1328 : decode cL_law 1328 = .ok (.iload_n 3, 1) := db47.1
theorem dL_law_1329 : decode cL_law 1329 = .ok (.iconst 4, 1) := db47.2.1
theorem dL_law_1330 : decode cL_law 1330 = .ok (.iadd, 1) := db47.2.2.1
theorem dL_law_1331 : decode cL_law 1331 = .ok (.iaload, 1) := db47.2.2.2.1
theorem dL_law_1332 : decode cL_law 1332 = .ok (.invokevirtual 174, 3) := db47.2.2.2.2.1
theorem dL_law_1335 : decode cL_law 1335 = .ok (.pop, 1) := db47.2.2.2.2.2.1
theorem dL_law_1336 : decode cL_law 1336 = .ok (.aload_n 2, 1) := db47.2.2.2.2.2.2.1
theorem dL_law_1337 : decode cL_law 1337 = .ok (.aload_n 0, 1) := db47.2.2.2.2.2.2.2.1
theorem dL_law_1338 : decode cL_law 1338 = .ok (.iload_n 3, 1) := db47.2.2.2.2.2.2.2.2.1
theorem dL_law_1339 : decode cL_law 1339 = .ok (.iconst 1, 1) := db47.2.2.2.2.2.2.2.2.2.1
theorem dL_law_1340 : decode cL_law 1340 = .ok (.iadd, 1) := db47.2.2.2.2.2.2.2.2.2.2.1
theorem dL_law_1341 : decode cL_law 1341 = .ok (.iaload, 1) := db47.2.2.2.2.2.2.2.2.2.2.2.1
theorem dL_law_1342 : decode cL_law 1342 = .ok (.aload_n 0, 1) := db47.2.2.2.2.2.2.2.2.2.2.2.2.1
theorem dL_law_1343 : decode cL_law 1343 = .ok (.iload_n 3, 1) := db47.2.2.2.2.2.2.2.2.2.2.2.2.2.1
theorem dL_law_1344 : decode cL_law 1344 = .ok (.iconst 2, 1) := db47.2.2.2.2.2.2.2.2.2.2.2.2.2.2.1
theorem dL_law_1345 : decode cL_law 1345 = .ok (.iadd, 1) := db47.2.2.2.2.2.2.2.2.2.2.2.2.2.2.2.1
theorem dL_law_1346 : decode cL_law 1346 = .ok (.iaload, 1) := db47.2.2.2.2.2.2.2.2.2.2.2.2.2.2.2.2.1
theorem dL_law_1347 : decode cL_law 1347 = .ok (.aload_n 0, 1) := db47.2.2.2.2.2.2.2.2.2.2.2.2.2.2.2.2.2.1
theorem dL_law_1348 : decode cL_law 1348 = .ok (.iload_n 3, 1) := db47.2.2.2.2.2.2.2.2.2.2.2.2.2.2.2.2.2.2.1
theorem dL_law_1349 : decode cL_law 1349 = .ok (.iconst 3, 1) := db47.2.2.2.2.2.2.2.2.2.2.2.2.2.2.2.2.2.2.2.1
theorem dL_law_1350 : decode cL_law 1350 = .ok (.iadd, 1) := db47.2.2.2.2.2.2.2.2.2.2.2.2.2.2.2.2.2.2.2.2.1
theorem dL_law_1351 : decode cL_law 1351 = .ok (.iaload, 1) := db47.2.2.2.2.2.2.2.2.2.2.2.2.2.2.2.2.2.2.2.2.2.1
theorem dL_law_1352 : decode cL_law 1352 = .ok (.aload_n 0, 1) := db47.2.2.2.2.2.2.2.2.2.2.2.2.2.2.2.2.2.2.2.2.2.2.1
theorem dL_law_1353 : decode cL_law 1353 = .ok (.iload_n 3, 1) := db47.2.2.2.2.2.2.2.2.2.2.2.2.2.2.2.2.2.2.2.2.2.2.2
theorem db48 : (decode cL_law 1354 = .ok (.iconst 4, 1)) ∧ (decode cL_law 1355 = .ok (.iadd, 1)) ∧ (decode cL_law 1356 = .ok (.iaload, 1)) ∧ (decode cL_law 1357 = .ok (.invokevirtual 178, 3)) ∧ (decode cL_law 1360 = .ok (.pop, 1)) ∧ (decode cL_law 1361 = .ok (.goto 795, 3)) ∧ (decode cL_law 1364 = .ok (.aload_n 1, 1)) ∧ (decode cL_law 1365 = .ok (.aload_n 0, 1)) ∧ (decode cL_law 1366 = .ok (.iload_n 3, 1)) ∧ (decode cL_law 1367 = .ok (.iconst 1, 1)) ∧ (decode cL_law 1368 = .ok (.iadd, 1)) ∧ (decode cL_law 1369 = .ok (.iaload, 1)) ∧ (decode cL_law 1370 = .ok (.aload_n 0, 1)) ∧ (decode cL_law 1371 = .ok (.iload_n 3, 1)) ∧ (decode cL_law 1372 = .ok (.iconst 2, 1)) ∧ (decode cL_law 1373 = .ok (.iadd, 1)) ∧ (decode cL_law 1374 = .ok (.iaload, 1)) ∧ (decode cL_law 1375 = .ok (.invokevirtual 179, 3)) ∧ (decode cL_law 1378 = .ok (.pop, 1)) ∧ (decode cL_law 1379 = .ok (.aload_n 2, 1)) ∧ (decode cL_law 1380 = .ok (.aload_n 0, 1)) ∧ (decode cL_law 1381 = .ok (.iload_n 3, 1)) ∧ (decode cL_law 1382 = .ok (.iconst 1, 1)) ∧ (decode cL_law 1383 = .ok (.iadd, 1)) := by decide +kernel
theorem dL_law_1354 : decode cL_law 1354 = .ok (.iconst 4, 1) := db48.1
theorem dL_law_1355 : decode cL_law 1355 = .ok (.iadd, 1) := db48.2.1
theorem dL_law_1356 : decode cL_law 1356 = .ok (.iaload, 1) := db48.2.2.1
theorem dL_law_1357 : decode cL_law 1357 = .ok (.invokevirtual 178, 3) := db48.2.2.2.1
theorem dL_law_1360 : decode cL_law 1360 = .ok (.pop, 1) := db48.2.2.2.2.1
theorem dL_law_1361 : decode cL_law 1361 = .ok (.goto 795, 3) := db48.2.2.2.2.2.1
theorem dL_law_1364 : decode cL_law 1364 = .ok (.aload_n 1, 1) := db48.2.2.2.2.2.2.1
theorem dL_law_1365 : decode cL_law 1365 = .ok (.aload_n 0, 1) := db48.2.2.2.2.2.2.2.1
theorem dL_law_1366 : decode cL_law 1366 = .ok (.iload_n 3, 1) := db48.2.2.2.2.2.2.2.2.1
theorem dL_law_1367 : decode cL_law 1367 = .ok (.iconst 1, 1) := db48.2.2.2.2.2.2.2.2.2.1
theorem dL_law_1368 : decode cL_law 1368 = .ok (.iadd, 1) := db48.2.2.2.2.2.2.2.2.2.2.1
theorem dL_law_1369 : decode cL_law 1369 = .ok (.iaload, 1) := db48.2.2.2.2.2.2.2.2.2.2.2.1
theorem dL_law_1370 : decode cL_law 1370 = .ok (.aload_n 0, 1) := db48.2.2.2.2.2.2.2.2.2.2.2.2.1
theorem dL_law_1371 : decode cL_law 1371 = .ok (.iload_n 3, 1) := db48.2.2.2.2.2.2.2.2.2.2.2.2.2.1
theorem dL_law_1372 : decode cL_law 1372 = .ok (.iconst 2, 1) := db48.2.2.2.2.2.2.2.2.2.2.2.2.2.2.1
theorem dL_law_1373 : decode cL_law 1373 = .ok (.iadd, 1) := db48.2.2.2.2.2.2.2.2.2.2.2.2.2.2.2.1
theorem dL_law_1374 : decode cL_law 1374 = .ok (.iaload, 1) := db48.2.2.2.2.2.2.2.2.2.2.2.2.2.2.2.2.1
theorem dL_law_1375 : decode cL_law 1375 = .ok (.invokevirtual 179, 3) := db48.2.2.2.2.2.2.2.2.2.2.2.2.2.2.2.2.2.1
theorem dL_law_1378 : decode cL_law 1378 = .ok (.pop, 1) := db48.2.2.2.2.2.2.2.2.2.2.2.2.2.2.2.2.2.2.1
theorem dL_law_1379 : decode cL_law 1379 = .ok (.aload_n 2, 1) := db48.2.2.2.2.2.2.2.2.2.2.2.2.2.2.2.2.2.2.2.1
theorem dL_law_1380 : decode cL_law 1380 = .ok (.aload_n 0, 1) := db48.2.2.2.2.2.2.2.2.2.2.2.2.2.2.2.2.2.2.2.2.1
theorem dL_law_1381 : decode cL_law 1381 = .ok (.iload_n 3, 1) := db48.2.2.2.2.2.2.2.2.2.2.2.2.2.2.2.2.2.2.2.2.2.1
theorem dL_law_1382 : decode cL_law 1382 = .ok (.iconst 1, 1) := db48.2.2.2.2.2.2.2.2.2.2.2.2.2.2.2.2.2.2.2.2.2.2.1
theorem dL_law_1383 : decode cL_law 1383 = .ok (.iadd, 1) := db48.2.2.2.2.2.2.2.2.2.2.2.2.2.2.2.2.2.2.2.2.2.2.2
theorem db49 : (decode cL_law 1384 = .ok (.iaload, 1)) ∧ (decode cL_law 1385 = .ok (.aload_n 0, 1)) ∧ (decode cL_law 1386 = .ok (.iload_n 3, 1)) ∧ (decode cL_law 1387 = .ok (.iconst 2, 1)) ∧ (decode cL_law 1388 = .ok (.iadd, 1)) ∧ (decode cL_law 1389 = .ok (.iaload, 1)) ∧ (decode cL_law 1390 = .ok (.invokevirtual 182, 3)) ∧ (decode cL_law 1393 = .ok (.pop, 1)) ∧ (decode cL_law 1394 = .ok (.goto 762, 3)) ∧ (decode cL_law 1397 = .ok (.aload_n 1, 1)) ∧ (decode cL_law 1398 = .ok (.invokevirtual 183, 3)) ∧ (decode cL_law 1401 = .ok (.pop, 1)) ∧ (decode cL_law 1402 = .ok (.aload_n 2, 1)) ∧ (decode cL_law 1403 = .ok (.invokevirtual 186, 3)) ∧ (decode cL_law 1406 = .ok (.pop, 1)) ∧ (decode cL_law 1407 = .ok (.goto 749, 3)) ∧ (decode cL_law 1410 = .ok (.aload_n 1, 1)) ∧ (decode cL_law 1411 = .ok (.invokevirtual 187, 3)) ∧ (decode cL_law 1414 = .ok (.pop, 1)) ∧ (decode cL_law 1415 = .ok (.aload_n 2, 1)) ∧ (decode cL_law 1416 = .ok (.invokevirtual 190, 3)) ∧ (decode cL_law 1419 = .ok (.pop, 1)) ∧ (decode cL_law 1420 = .ok (.goto 736, 3)) ∧ (decode cL_law 1423 = .ok (.aload_n 1, 1)) := by decide +kernel
theorem dL_law_1384 : decode cL_law 1384 = .ok (.iaload, 1) := db49.1
theorem dL_law_1385 : decode cL_law 1385 = .ok (.aload_n 0, 1) := db49.2.1
theorem dL_law_1386 : decode cL_law 1386 = .ok (.iload_n 3, 1) := db49.2.2.1
theorem dL_law_1387 : decode cL_law 1387 = .ok (.iconst 2, 1) := db49.2.2.2.1
theorem dL_law_1388 : decode cL_law 1388 = .ok (.iadd, 1) := db49.2.2.2.2.1
theorem dL_law_1389 : decode cL_law 1389 = .ok (.iaload, 1) := db49.2.2.2.2.2.1
theorem dL_law_1390 : decode cL_law 1390 = .ok (.invokevirtual 182, 3) := db49.2.2.2.2.2.2.1
theorem dL_law_1393 : decode cL_law 1393 = .ok (.pop, 1) := db49.2.2.2.2.2.2.2.1
theorem dL_law_1394 : decode cL_law 1394 = .ok (.goto 762, 3) := db49.2.2.2.2.2.2.2.2.1
theorem dL_law_1397 : decode cL_law 1397 = .ok (.aload_n 1, 1) := db49.2.2.2.2.2.2.2.2.2.1
theorem dL_law_1398 : decode cL_law 1398 = .ok (.invokevirtual 183, 3) := db49.2.2.2.2.2.2.2.2.2.2.1
theorem dL_law_1401 : decode cL_law 1401 = .ok (.pop, 1) := db49.2.2.2.2.2.2.2.2.2.2.2.1
theorem dL_law_1402 : decode cL_law 1402 = .ok (.aload_n 2, 1) := db49.2.2.2.2.2.2.2.2.2.2.2.2.1
theorem dL_law_1403 : decode cL_law 1403 = .ok (.invokevirtual 186, 3) := db49.2.2.2.2.2.2.2.2.2.2.2.2.2.1
theorem dL_law_1406 : decode cL_law 1406 = .ok (.pop, 1) := db49.2.2.2.2.2.2.2.2.2.2.2.2.2.2.1
theorem dL_law_1407 : decode cL_law 1407 = .ok (.goto 749, 3) := db49.2.2.2.2.2.2.2.2.2.2.2.2.2.2.2.1
theorem dL_law_1410 : decode cL_law 1410 = .ok (.aload_n 1, 1) := db49.2.2.2.2.2.2.2.2.2.2.2.2.2.2.2.2.1
theorem dL_law_1411 : decode cL_law 1411 = .ok (.invokevirtual 187, 3) := db49.2.2.2.2.2.2.2.2.2.2.2.2.2.2.2.2.2.1
theorem dL_law_1414 : decode cL_law 1414 = .ok (.pop, 1) := db49.2.2.2.2.2.2.2.2.2.2.2.2.2.2.2.2.2.2.1
theorem dL_law_1415 : decode cL_law 1415 = .ok (.aload_n 2, 1) := db49.2.2.2.2.2.2.2.2.2.2.2.2.2.2.2.2.2.2.2.1
theorem dL_law_1416 : decode cL_law 1416 = .ok (.invokevirtual 190, 3) := db49.2.2.2.2.2.2.2.2.2.2.2.2.2.2.2.2.2.2.2.2.1
theorem dL_law_1419 : decode cL_law 1419 = .ok (.pop, 1) := db49.2.2.2.2.2.2.2.2.2.2.2.2.2.2.2.2.2.2.2.2.2.1
theorem dL_law_1420 : decode cL_law 1420 = .ok (.goto 736, 3) := db49.2.2.2.2.2.2.2.2.2.2.2.2.2.2.2.2.2.2.2.2.2.2.1
theorem dL_law_1423 : decode cL_law 1423 = .ok (.aload_n 1, 1) := db49.2.2.2.2.2.2.2.2.2.2.2.2.2.2.2.2.2.2.2.2.2.2.2
theorem db50 : (decode cL_law 1424 = .ok (.aload_n 0, 1)) ∧ (decode cL_law 1425 = .ok (.iload_n 3, 1)) ∧ (decode cL_law 1426 = .ok (.iconst 1, 1)) ∧ (decode cL_law 1427 = .ok (.iadd, 1)) ∧ (decode cL_law 1428 = .ok (.iaload, 1)) ∧ (decode cL_law 1429 = .ok (.invokevirtual 191, 3)) ∧ (decode cL_law 1432 = .ok (.pop, 1)) ∧ (decode cL_law 1433 = .ok (.aload_n 2, 1)) ∧ (decode cL_law 1434 = .ok (.aload_n 0, 1)) ∧ (decode cL_law 1435 = .ok (.iload_n 3, 1)) ∧ (decode cL_law 1436 = .ok (.iconst 1, 1)) ∧ (decode cL_law 1437 = .ok (.iadd, 1)) ∧ (decode cL_law 1438 = .ok (.iaload, 1)) ∧ (decode cL_law 1439 = .ok (.invokevirtual 194, 3)) ∧ (decode cL_law 1442 = .ok (.pop, 1)) ∧ (decode cL_law 1443 = .ok (.goto 713, 3)) ∧ (decode cL_law 1446 = .ok (.aload_n 1, 1)) ∧ (decode cL_law 1447 = .ok (.aload_n 0, 1)) ∧ (decode cL_law 1448 = .ok (.iload_n 3, 1)) ∧ (decode cL_law 1449 = .ok (.iconst 1, 1)) ∧ (decode cL_law 1450 = .ok (.iadd, 1)) ∧ (decode cL_law 1451 = .ok (.iaload, 1)) ∧ (decode cL_law 1452 = .ok (.invokevirtual 195, 3)) ∧ (decode cL_law 1455 = .ok (.pop, 1)) := by decide +kernel
theorem dL_law_1424 : decode cL_law 1424 = .ok (.aload_n 0, 1) := db50.1
theorem dL_law_1425 : decode cL_law 1425 = .ok (.iload_n 3, 1) := db50.2.1
theorem dL_law_1426 : decode cL_law 1426 = .ok (.iconst 1, 1) := db50.2.2.1
theorem dL_law_1427 : decode cL_law 1427 = .ok (.iadd, 1) := db50.2.2.2.1
theorem dL_law_1428 : decode cL_law 1428 = .ok (.iaload, 1) := db50.2.2.2.2.1
theorem dL_law_1429 : decode cL_law 1429 = .ok (.invokevirtual 191, 3) := db50.2.2.2.2.2.1
theorem dL_law_1432 : decode cL_law 1432 = .ok (.pop, 1) := db50.2.2.2.2.2.2.1
theorem dL_law_1433 : decode cL_law 1433 = .ok (.aload_n 2, 1) := db50.2.2.2.2.2.2.2.1
theorem dL_law_1434 : decode cL_law 1434 = .ok (.aload_n 0, 1) := db50.2.2.2.2.2.2.2.2.1
theorem dL_law_1435 : decode cL_law 1435 = .ok (.iload_n 3, 1) := db50.2.2.2.2.2.2.2.2.2.1
theorem dL_law_1436 : decode cL_law 1436 = .ok (.iconst 1, 1) := db50.2.2.2.2.2.2.2.2.2.2.1
theorem dL_law_1437 : decode cL_law 1437 = .ok (.iadd, 1) := db50.2.2.2.2.2.2.2.2.2.2.2.1
theorem dL_law_1438 : decode cL_law 1438 = .ok (.iaload, 1) := db50.2.2.2.2.2.2.2.2.2.2.2.2.1
theorem dL_law_1439 : decode cL_law 1439 = .ok (.invokevirtual 194, 3) := db50.2.2.2.2.2.2.2.2.2.2.2.2.2.1
theorem dL_law_1442 : decode cL_law 1442 = .ok (.pop, 1) := db50.2.2.2.2.2.2.2.2.2.2.2.2.2.2.1
theorem dL_law_1443 : decode cL_law 1443 = .ok (.goto 713, 3) := db50.2.2.2.2.2.2.2.2.2.2.2.2.2.2.2.1
theorem dL_law_1446 : decode cL_law 1446 = .ok (.aload_n 1, 1) := db50.2.2.2.2.2.2.2.2.2.2.2.2.2.2.2.2.1
theorem dL_law_1447 : decode cL_law 1447 = .ok (.aload_n 0, 1) := db50.2.2.2.2.2.2.2.2.2.2.2.2.2.2.2.2.2.1
theorem dL_law_1448 : decode cL_law 1448 = .ok (.iload_n 3, 1) := db50.2.2.2.2.2.2.2.2.2.2.2.2.2.2.2.2.2.2.1
theorem dL_law_1449 : decode cL_law 1449 = .ok (.iconst 1, 1) := db50.2.2.2.2.2.2.2.2.2.2.2.2.2.2.2.2.2.2.2.1
theorem dL_law_1450 : decode cL_law 1450 = .ok (.iadd, 1) := db50.2.2.2.2.2.2.2.2.2.2.2.2.2.2.2.2.2.2.2.2.1
theorem dL_law_1451 : decode cL_law 1451 = .ok (.iaload, 1) := db50.2.2.2.2.2.2.2.2.2.2.2.2.2.2.2.2.2.2.2.2.2.1
theorem dL_law_1452 : decode cL_law 1452 = .ok (.invokevirtual 195, 3) := db50.2.2.2.2.2.2.2.2.2.2.2.2.2.2.2.2.2.2.2.2.2.2.1
theorem dL_law_1455 : decode cL_law 1455 = .ok (.pop, 1) := db50.2.2.2.2.2.2.2.2.2.2.2.2.2.2.2.2.2.2.2.2.2.2.2
theorem db51 : (decode cL_law 1456 = .ok (.aload_n 2, 1)) ∧ (decode cL_law 1457 = .ok (.aload_n 0, 1)) ∧ (decode cL_law 1458 = .ok (.iload_n 3, 1)) ∧ (decode cL_law 1459 = .ok (.iconst 1, 1)) ∧ (decode cL_law 1460 = .ok (.iadd, 1)) ∧ (decode cL_law 1461 = .ok (.iaload, 1)) ∧ (decode cL_law 1462 = .ok (.invokevirtual 198, 3)) ∧ (decode cL_law 1465 = .ok (.pop, 1)) ∧ (decode cL_law 1466 = .ok (.goto 690, 3)) ∧ (decode cL_law 1469 = .ok (.aload_n 1, 1)) ∧ (decode cL_law 1470 = .ok (.aload_n 0, 1)) ∧ (decode cL_law 1471 = .ok (.iload_n 3, 1)) ∧ (decode cL_law 1472 = .ok (.iconst 1, 1)) ∧ (decode cL_law 1473 = .ok (.iadd, 1)) ∧ (decode cL_law 1474 = .ok (.iaload, 1)) ∧ (decode cL_law 1475 = .ok (.aload_n 0, 1)) ∧ (decode cL_law 1476 = .ok (.iload_n 3, 1)) ∧ (decode cL_law 1477 = .ok (.iconst 2, 1)) ∧ (decode cL_law 1478 = .ok (.iadd, 1)) ∧ (decode cL_law 1479 = .ok (.iaload, 1)) ∧ (decode cL_law 1480 = .ok (.invokevirtual 199, 3)) ∧ (decode cL_law 1483 = .ok (.pop, 1)) ∧ (decode cL_law 1484 = .ok (.aload_n 2, 1)) ∧ (decode cL_law 1485 = .ok (.aload_n 0, 1)) := by decide +kernel
theorem dL_law_1456 : decode cL_law 1456 = .ok (.aload_n 2, 1) := db51.1
theorem dL_law_1457 : decode cL_law 1457 = .ok (.aload_n 0, 1) := db51.2.1
theorem dL_law_1458 : decode cL_law 1458 = .ok (.iload_n 3, 1) := db51.2.2.1
theorem dL_law_1459 : decode cL_law 1459 = .ok (.iconst 1, 1) := db51.2.2.2.1
theorem dL_law_1460 : decode cL_law 1460 = .ok (.iadd, 1) := db51.2.2.2.2.1
theorem dL_law_1461 : decode cL_law 1461 = .ok (.iaload, 1) := db51.2.2.2.2.2.1
theorem dL_law_1462 : decode cL_law 1462 = .ok (.invokevirtual 198, 3) := db51.2.2.2.2.2.2.1
theorem dL_law_1465 : decode cL_law 1465 = .ok (.pop, 1) := db51.2.2.2.2.2.2.2.1
theorem dL_law_1466 : decode cL_law 1466 = .ok (.goto 690, 3) := db51.2.2.2.2.2.2.2.2.1
theorem dL_law_1469 : decode cL_law 1469 = .ok (.aload_n 1, 1) := db51.2.2.2.2.2.2.2.2.2.1
theorem dL_law_1470 : decode cL_law 1470 = .ok (.aload_n 0, 1) := db51.2.2.2.2.2.2.2.2.2.2.1
theorem dL_law_1471 : decode cL_law 1471 = .ok (.iload_n 3, 1) := db51.2.2.2.2.2.2.2.2.2.2.2.1
theorem dL_law_1472 : decode cL_law 1472 = .ok (.iconst 1, 1) := db51.2.2.2.2.2.2.2.2.2.2.2.2.1
theorem dL_law_1473 : decode cL_law 1473 = .ok (.iadd, 1) := db51.2.2.2.2.2.2.2.2.2.2.2.2.2.1
theorem dL_law_1474 : decode cL_law 1474 = .ok (.iaload, 1) := db51.2.2.2.2.2.2.2.2.2.2.2.2.2.2.1
theorem dL_law_1475 : decode cL_law 1475 = .ok (.aload_n 0, 1) := db51.2.2.2.2.2.2.2.2.2.2.2.2.2.2.2.1
theorem dL_law_1476 : decode cL_law 1476 = .ok (.iload_n 3, 1) := db51.2.2.2.2.2.2.2.2.2.2.2.2.2.2.2.2.1
theorem dL_law_1477 : decode cL_law 1477 = .ok (.iconst 2, 1) := db51.2.2.2.2.2.2.2.2.2.2.2.2.2.2.2.2.2.1
theorem dL_law_1478 : decode cL_law 1478 = .ok (.iadd, 1) := db51.2.2.2.2.2.2.2.2.2.2.2.2.2.2.2.2.2.2.1
theorem dL_law_1479 : decode cL_law 1479 = .ok (.iaload, 1) := db51.2.2.2.2.2.2.2.2.2.2.2.2.2.2.2.2.2.2.2.1
theorem dL_law_1480 : decode cL_law 1480 = .ok (.invokevirtual 199, 3) := db51.2.2.2.2.2.2.2.2.2.2.2.2.2.2.2.2.2.2.2.2.1
theorem dL_law_1483 : decode cL_law 1483 = .ok (.pop, 1) := db51.2.2.2.2.2.2.2.2.2.2.2.2.2.2.2.2.2.2.2.2.2.1
theorem dL_law_1484 : decode cL_law 1484 = .ok (.aload_n 2, 1) := db51.2.2.2.2.2.2.2.2.2.2.2.2.2.2.2.2.2.2.2.2.2.2.1
theorem dL_law_1485 : decode cL_law 1485 = .ok (.aload_n 0, 1) := db51.2.2.2.2.2.2.2.2.2.2.2.2.2.2.2.2.2.2.2.2.2.2.2
theorem db52 : (decode cL_law 1486 = .ok (.iload_n 3, 1)) ∧ (decode cL_law 1487 = .ok (.iconst 1, 1)) ∧ (decode cL_law 1488 = .ok (.iadd, 1)) ∧ (decode cL_law 1489 = .ok (.iaload, 1)) ∧ (decode cL_law 1490 = .ok (.aload_n 0, 1)) ∧ (decode cL_law 1491 = .ok (.iload_n 3, 1)) ∧ (decode cL_law 1492 = .ok (.iconst 2, 1)) ∧ (decode cL_law 1493 = .ok (.iadd, 1)) ∧ (decode cL_law 1494 = .ok (.iaload, 1)) ∧ (decode cL_law 1495 = .ok (.invokevirtual 202, 3)) ∧ (decode cL_law 1498 = .ok (.pop, 1)) ∧ (decode cL_law 1499 = .ok (.goto 657, 3)) ∧ (decode cL_law 1502 = .ok (.aload_n 1, 1)) ∧ (decode cL_law 1503 = .ok (.aload_n 0, 1)) ∧ (decode cL_law 1504 = .ok (.iload_n 3, 1)) ∧ (decode cL_law 1505 = .ok (.iconst 1, 1)) ∧ (decode cL_law 1506 = .ok (.iadd, 1)) ∧ (decode cL_law 1507 = .ok (.iaload, 1)) ∧ (decode cL_law 1508 = .ok (.invokevirtual 203, 3)) ∧ (decode cL_law 1511 = .ok (.pop, 1)) ∧ (decode cL_law 1512 = .ok (.aload_n 2, 1)) ∧ (decode cL_law 1513 = .ok (.aload_n 0, 1)) ∧ (decode cL_law 1514 = .ok (.iload_n 3, 1)) ∧ (decode cL_law 1515 = .ok (.iconst 1, 1)) := by decide +kernel
theorem dL_law_1486 : decode cL_law 1486 = .ok (.iload_n 3, 1) := db52.1
theorem dL_law_1487 : decode cL_law 1487 = .ok (.iconst 1, 1) := db52.2.1
theorem dL_law_1488 : decode cL_law 1488 = .ok (.iadd, 1) := db52.2.2.1
theorem dL_law_1489 : decode cL_law 1489 = .ok (.iaload, 1) := db52.2.2.2.1
theorem dL_law_1490 : decode cL_law 1490 = .ok (.aload_n 0, 1) := db52.2.2.2.2.1
theorem dL_law_1491 : decode cL_law 1491 = .ok (.iload_n 3, 1) := db52.2.2.2.2.2.1
theorem dL_law_1492 : decode cL_law 1492 = .ok (.iconst 2, 1) := db52.2.2.2.2.2.2.1
theorem dL_law_1493 : decode cL_law 1493 = .ok (.iadd, 1) := db52.2.2.2.2.2.2.2.1
theorem dL_law_1494 : decode cL_law 1494 = .ok (.iaload, 1) := db52.2.2.2.2.2.2.2.2.1
theorem dL_law_1495 : decode cL_law 1495 = .ok (.invokevirtual 202, 3) := db52.2.2.2.2.2.2.2.2.2.1
theorem dL_law_1498 : decode cL_law 1498 = .ok (.pop, 1) := db52.2.2.2.2.2.2.2.2.2.2.1
theorem dL_law_1499 : decode cL_law 1499 = .ok (.goto 657, 3) := db52.2.2.2.2.2.2.2.2.2.2.2.1
theorem dL_law_1502 : decode cL_law 1502 = .ok (.aload_n 1, 1) := db52.2.2.2.2.2.2.2.2.2.2.2.2.1
theorem dL_law_1503 : decode cL_law 1503 = .ok (.aload_n 0, 1) := db52.2.2.2.2.2.2.2.2.2.2.2.2.2.1
theorem dL_law_1504 : decode cL_law 1504 = .ok (.iload_n 3, 1) := db52.2.2.2.2.2.2.2.2.2.2.2.2.2.2.1
theorem dL_law_1505 : decode cL_law 1505 = .ok (.iconst 1, 1) := db52.2.2.2.2.2.2.2.2.2.2.2.2.2.2.2.1
theorem dL_law_1506 : decode cL_law 1506 = .ok (.iadd, 1) := db52.2.2.2.2.2.2.2.2.2.2.2.2.2.2.2.2.1
theorem dL_law_1507 : decode cL_law 1507 = .ok (.iaload, 1) := db52.2.2.2.2.2.2.2.2.2.2.2.2.2.2.2.2.2.1
theorem dL_law_1508 : decode cL_law 1508 = .ok (.invokevirtual 203, 3) := db52.2.2.2.2.2.2.2.2.2.2.2.2.2.2.2.2.2.2.1
theorem dL_law_1511 : decode cL_law 1511 = .ok (.pop, 1) := db52.2.2.2.2.2.2.2.2.2.2.2.2.2.2.2.2.2.2.2.1
theorem dL_law_1512 : decode cL_law 1512 = .ok (.aload_n 2, 1) := db52.2.2.2.2.2.2.2.2.2.2.2.2.2.2.2.2.2.2.2.2.1
theorem dL_law_1513 : decode cL_law 1513 = .ok (.aload_n 0, 1) := db52.2.2.2.2.2.2.2.2.2.2.2.2.2.2.2.2.2.2.2.2.2.1
theorem dL_law_1514 : decode cL_law 1514 = .ok (.iload_n 3, 1) := db52.2.2.2.2.2.2.2.2.2.2.2.2.2.2.2.2.2.2.2.2.2.2.1
theorem dL_law_1515 : decode cL_law 1515 = .ok (.iconst 1, 1) := db52.2.2.2.2.2.2.2.2.2.2.2.2.2.2.2.2.2.2.2.2.2.2.2
theorem db53 : (decode cL_law 1516 = .ok (.iadd, 1)) ∧ (decode cL_law 1517 = .ok (.iaload, 1)) ∧ (decode cL_law 1518 = .ok (.invokevirtual 206, 3)) ∧ (decode cL_law 1521 = .ok (.pop, 1)) ∧ (decode cL_law 1522 = .ok (.goto 634, 3)) ∧ (decode cL_law 1525 = .ok (.aload_n 1, 1)) ∧ (decode cL_law 1526 = .ok (.aload_n 0, 1)) ∧ (decode cL_law 1527 = .ok (.iload_n 3, 1)) ∧ (decode cL_law 1528 = .ok (.iconst 1, 1)) ∧ (decode cL_law 1529 = .ok (.iadd, 1)) ∧ (decode cL_law 1530 = .ok (.iaload, 1)) ∧ (decode cL_law 1531 = .ok (.aload_n 0, 1)) ∧ (decode cL_law 1532 = .ok (.iload_n 3, 1)) ∧ (decode cL_law 1533 = .ok (.iconst 2, 1)) ∧ (decode cL_law 1534 = .ok (.iadd, 1)) ∧ (decode cL_law 1535 = .ok (.iaload, 1)) ∧ (decode cL_law 1536 = .ok (.aload_n 0, 1)) ∧ (decode cL_law 1537 = .ok (.iload_n 3, 1)) ∧ (decode cL_law 1538 = .ok (.iconst 3, 1)) ∧ (decode cL_law 1539 = .ok (.iadd, 1)) ∧ (decode cL_law 1540 = .ok (.iaload, 1)) ∧ (decode cL_law 1541 = .ok (.invokevirtual 207, 3)) ∧ (decode cL_law 1544 = .ok (.pop, 1)) ∧ (decode cL_law 1545 = .ok (.aload_n 2, 1)) := by decide +kernel
theorem dL_law_1516 : decode cL_law 1516 = .ok (.iadd, 1) := db53.1
theorem dL_law_1517 : decode cL_law 1517 = .ok (.iaload, 1) := db53.2.1
theorem dL_law_1518 : decode cL_law 1518 = .ok (.invokevirtual 206, 3) := db53.2.2.1
theorem dL_law_1521 : decode cL_law 1521 = .ok (.pop, 1) := db53.2.2.2.1
theorem dL_law_1522 : decode cL_law 1522 = .ok (.goto 634, 3) := db53.2.2.2.2.1
theorem dL_law_1525 : decode cL_law 1525 = .ok (.aload_n 1, 1) := db53.2.2.2.2.2.1
theorem dL_law_1526 : decode cL_law 1526 = .ok (.aload_n 0, 1) := db53.2.2.2.2.2.2.1
theorem dL_law_1527 : decode cL_law 1527 = .ok (.iload_n 3, 1) := db53.2.2.2.2.2.2.2.1
theorem dL_law_1528 : decode cL_law 1528 = .ok (.iconst 1, 1) := db53.2.2.2.2.2.2.2.2.1
theorem dL_law_1529 : decode cL_law 1529 = .ok (.iadd, 1) := db53.2.2.2.2.2.2.2.2.2.1
theorem dL_law_1530 : decode cL_law 1530 = .ok (.iaload, 1) := db53.2.2.2.2.2.2.2.2.2.2.1
theorem dL_law_1531 : decode cL_law 1531 = .ok (.aload_n 0, 1) := db53.2.2.2.2.2.2.2.2.2.2.2.1
theorem dL_law_1532 : decode cL_law 1532 = .ok (.iload_n 3, 1) := db53.2.2.2.2.2.2.2.2.2.2.2.2.1
theorem dL_law_1533 : decode cL_law 1533 = .ok (.iconst 2, 1) := db53.2.2.2.2.2.2.2.2.2.2.2.2.2.1
theorem dL_law_1534 : decode cL_law 1534 = .ok (.iadd, 1) := db53.2.2.2.2.2.2.2.2.2.2.2.2.2.2.1
theorem dL_law_1535 : decode cL_law 1535 = .ok (.iaload, 1) := db53.2.2.2.2.2.2.2.2.2.2.2.2.2.2.2.1
theorem dL_law_1536 : decode cL_law 1536 = .ok (.aload_n 0, 1) := db53.2.2.2.2.2.2.2.2.2.2.2.2.2.2.2.2.1
theorem dL_law_1537 : decode cL_law 1537 = .ok (.iload_n 3, 1) := db53.2.2.2.2.2.2.2.2.2.2.2.2.2.2.2.2.2.1
theorem dL_law_1538 : decode cL_law 1538 = .ok (.iconst 3, 1) := db53.2.2.2.2.2.2.2.2.2.2.2.2.2.2.2.2.2.2.1
theorem dL_law_1539 : decode cL_law 1539 = .ok (.iadd, 1) := db53.2.2.2.2.2.2.2.2.2.2.2.2.2.2.2.2.2.2.2.1
theorem dL_law_1540 : decode cL_law 1540 = .ok (.iaload, 1) := db53.2.2.2.2.2.2.2.2.2.2.2.2.2.2.2.2.2.2.2.2.1
theorem dL_law_1541 : decode cL_law 1541 = .ok (.invokevirtual 207, 3) := db53.2.2.2.2.2.2.2.2.2.2.2.2.2.2.2.2.2.2.2.2.2.1
theorem dL_law_1544 : decode cL_law 1544 = .ok (.pop, 1) := db53.2.2.2.2.2.2.2.2.2.2.2.2.2.2.2.2.2.2.2.2.2.2.1
theorem dL_law_1545 : decode cL_law 1545 = .ok (.aload_n 2, 1) := db53.2.2.2.2.2.2.2.2.2.2.2.2.2.2.2.2.2.2.2.2.2.2.2
theorem db54 : (decode cL_law 1546 = .ok (.aload_n 0, 1)) ∧ (decode cL_law 1547 = .ok (.iload_n 3, 1)) ∧ (decode cL_law 1548 = .ok (.iconst 1, 1)) ∧ (decode cL_law 1549 = .ok (.iadd, 1)) ∧ (decode cL_law 1550 = .ok (.iaload, 1)) ∧ (decode cL_law 1551 = .ok (.aload_n 0, 1)) ∧ (decode cL_law 1552 = .ok (.iload_n 3, 1)) ∧ (decode cL_law 1553 = .ok (.iconst 2, 1)) ∧ (decode cL_law 1554 = .ok (.iadd, 1)) ∧ (decode cL_law 1555 = .ok (.iaload, 1)) ∧ (decode cL_law 1556 = .ok (.aload_n 0, 1)) ∧ (decode cL_law 1557 = .ok (.iload_n 3, 1)) ∧ (decode cL_law 1558 = .ok (.iconst 3, 1)) ∧ (decode cL_law 1559 = .ok (.iadd, 1)) ∧ (decode cL_law 1560 = .ok (.iaload, 1)) ∧ (decode cL_law 1561 = .ok (.invokevirtual 210, 3)) ∧ (decode cL_law 1564 = .ok (.pop, 1)) ∧ (decode cL_law 1565 = .ok (.goto 591, 3)) ∧ (decode cL_law 1568 = .ok (.aload_n 1, 1)) ∧ (decode cL_law 1569 = .ok (.aload_n 0, 1)) ∧ (decode cL_law 1570 = .ok (.iload_n 3, 1)) ∧ (decode cL_law 1571 = .ok (.iconst 1, 1)) ∧ (decode cL_law 1572 = .ok (.iadd, 1)) ∧ (decode cL_law 1573 = .ok (.iaload, 1)) := by decide +kernel
theorem dL_law_1546 : decode cL_law 1546 = .ok (.aload_n 0, 1) := db54.1
theorem dL_law_1547 : decode cL_law 1547 = .ok (.iload_n 3, 1) := db54.2.1
theorem dL_law_1548 : decode cL_law 1548 = .ok (.iconst 1, 1) := db54.2.2.1
theorem dL_law_1549 : decode cL_law 1549 = .ok (.iadd, 1) := db54.2.2.2.1
theorem dL_law_1550 : decode cL_law 1550 = .ok (.iaload, 1) := db54.2.2.2.2.1
theorem dL_law_1551 : decode cL_law 1551 = .ok (.aload_n 0, 1) := db54.2.2.2.2.2.1
theorem dL_law_1552 : decode cL_law 1552 = .ok (.iload_n 3, 1) := db54.2.2.2.2.2.2.1
theorem dL_law_1553 : decode cL_law 1553 = .ok (.iconst 2, 1) := db54.2.2.2.2.2.2.2.1
theorem dL_law_1554 : decode cL_law 1554 = .ok (.iadd, 1) := db54.2.2.2.2.2.2.2.2.1
theorem dL_law_1555 : decode cL_law 1555 = .ok (.iaload, 1) := db54.2.2.2.2.2.2.2.2.2.1
theorem dL_law_1556 : decode cL_law 1556 = .ok (.aload_n 0, 1) := db54.2.2.2.2.2.2.2.2.2.2.1
theorem dL_law_1557 : decode cL_law 1557 = .ok (.iload_n 3, 1) := db54.2.2.2.2.2.2.2.2.2.2.2.1
theorem dL_law_1558 : decode cL_law 1558 = .ok (.iconst 3, 1) := db54.2.2.2.2.2.2.2.2.2.2.2.2.1
theorem dL_law_1559 : decode cL_law 1559 = .ok (.iadd, 1) := db54.2.2.2.2.2.2.2.2.2.2.2.2.2.1
theorem dL_law_1560 : decode cL_law 1560 = .ok (.iaload, 1) := db54.2.2.2.2.2.2.2.2.2.2.2.2.2.2.1
theorem dL_law_1561 : decode cL_law 1561 = .ok (.invokevirtual 210, 3) := db54.2.2.2.2.2.2.2.2.2.2.2.2.2.2.2.1
theorem dL_law_1564 : decode cL_law 1564 = .ok (.pop, 1) := db54.2.2.2.2.2.2.2.2.2.2.2.2.2.2.2.2.1
theorem dL_law_1565 : decode cL_law 1565 = .ok (.goto 591, 3) := db54.2.2.2.2.2.2.2.2.2.2.2.2.2.2.2.2.2.1
theorem dL_law_1568 : decode cL_law 1568 = .ok (.aload_n 1, 1) := db54.2.2.2.2.2.2.2.2.2.2.2.2.2.2.2.2.2.2.1
theorem dL_law_1569 : decode cL_law 1569 = .ok (.aload_n 0, 1) := db54.2.2.2.2.2.2.2.2.2.2.2.2.2.2.2.2.2.2.2.1
theorem dL_law_1570 : decode cL_law 1570 = .ok (.iload_n 3, 1) := db54.2.2.2.2.2.2.2.2.2.2.2.2.2.2.2.2.2.2.2.2.1
theorem dL_law_1571 : decode cL_law 1571 = .ok (.iconst 1, 1) := db54.2.2.2.2.2.2.2.2.2.2.2.2.2.2.2.2.2.2.2.2.2.1
theorem dL_law_1572 : decode cL_law 1572 = .ok (.iadd, 1) := db54.2.2.2.2.2.2.2.2.2.2.2.2.2.2.2.2.2.2.2.2.2.2.1
theorem dL_law_1573 : decode cL_law 1573 = .ok (.iaload, 1) := db54.2.2.2.2.2.2.2.2.2.2.2.2.2.2.2.2.2.2.2.2.2.2.2
theorem db55 : (decode cL_law 1574 = .ok (.aload_n 0, 1)) ∧ (decode cL_law 1575 = .ok (.iload_n 3, 1)) ∧ (decode cL_law 1576 = .ok (.iconst 2, 1)) ∧ (decode cL_law 1577 = .ok (.iadd, 1)) ∧ (decode cL_law 1578 = .ok (.iaload, 1)) ∧ (decode cL_law 1579 = .ok (.aload_n 0, 1)) ∧ (decode cL_law 1580 = .ok (.iload_n 3, 1)) ∧ (decode cL_law 1581 = .ok (.iconst 3, 1)) ∧ (decode cL_law 1582 = .ok (.iadd, 1)) ∧ (decode cL_law 1583 = .ok (.iaload, 1)) ∧ (decode cL_law 1584 = .ok (.invokevirtual 211, 3)) ∧ (decode cL_law 1587 = .ok (.pop2, 1)) ∧ (decode cL_law 1588 = .ok (.aload_n 2, 1)) ∧ (decode cL_law 1589 = .ok (.aload_n 0, 1)) ∧ (decode cL_law 1590 = .ok (.iload_n 3, 1)) ∧ (decode cL_law 1591 = .ok (.iconst 1, 1)) ∧ (decode cL_law 1592 = .ok (.iadd, 1)) ∧ (decode cL_law 1593 = .ok (.iaload, 1)) ∧ (decode cL_law 1594 = .ok (.aload_n 0, 1)) ∧ (decode cL_law 1595 = .ok (.iload_n 3, 1)) ∧ (decode cL_law 1596 = .ok (.iconst 2, 1)) ∧ (decode cL_law 1597 = .ok (.iadd, 1)) ∧ (decode cL_law 1598 = .ok (.iaload, 1)) ∧ (decode cL_law 1599 = .ok (.aload_n 0, 1)) := by decide +kernel
theorem dL_law_1574 : decode cL_law 1574 = .ok (.aload_n 0, 1) := db55.1
theorem dL_law_1575 : decode cL_law 1575 = .ok (.iload_n 3, 1) := db55.2.1
theorem dL_law_1576 : decode cL_law 1576 = .ok (.iconst 2, 1) := db55.2.2.1
theorem dL_law_1577 : decode cL_law 1577 = .ok (.iadd, 1) := db55.2.2.2.1
theorem dL_law_1578 : decode cL_law 1578 = .ok (.iaload, 1) := db55.2.2.2.2.1
theorem dL_law_1579 : decode cL_law 1579 = .ok (.aload_n 0, 1) := db55.2.2.2.2.2.1
theorem dL_law_1580 : decode cL_law 1580 = .ok (.iload_n 3, 1) := db55.2.2.2.2.2.2.1
theorem dL_law_1581 : decode cL_law 1581 = .ok (.iconst 3, 1) := db55.2.2.2.2.2.2.2.1
theorem dL_law_1582 : decode cL_law 1582 = .ok (.iadd, 1) := db55.2.2.2.2.2.2.2.2.1
theorem dL_law_1583 : decode cL_law 1583 = .ok (.iaload, 1) := db55.2.2.2.2.2.2.2.2.2.1
theorem dL_law_1584 : decode cL_law 1584 = .ok (.invokevirtual 211, 3) := db55.2.2.2.2.2.2.2.2.2.2.1
theorem dL_law_1587 : decode cL_law 1587 = .ok (.pop2, 1) := db55.2.2.2.2.2.2.2.2.2.2.2.1
theorem dL_law_1588 : decode cL_law 1588 = .ok (.aload_n 2, 1) := db55.2.2.2.2.2.2.2.2.2.2.2.2.1
theorem dL_law_1589 : decode cL_law 1589 = .ok (.aload_n 0, 1) := db55.2.2.2.2.2.2.2.2.2.2.2.2.2.1
theorem dL_law_1590 : decode cL_law 1590 = .ok (.iload_n 3, 1) := db55.2.2.2.2.2.2.2.2.2.2.2.2.2.2.1
theorem dL_law_1591 : decode cL_law 1591 = .ok (.iconst 1, 1) := db55.2.2.2.2.2.2.2.2.2.2.2.2.2.2.2.1
theorem dL_law_1592 : decode cL_law 1592 = .ok (.iadd, 1) := db55.2.2.2.2.2.2.2.2.2.2.2.2.2.2.2.2.1
theorem dL_law_1593 : decode cL_law 1593 = .ok (.iaload, 1) := db55.2.2.2.2.2.2.2.2.2.2.2.2.2.2.2.2.2.1
theorem dL_law_1594 : decode cL_law 1594 = .ok (.aload_n 0, 1) := db55.2.2.2.2.2.2.2.2.2.2.2.2.2.2.2.2.2.2.1
theorem dL_law_1595 : decode cL_law 1595 = .ok (.iload_n 3, 1) := db55.2.2.2.2.2.2.2.2.2.2.2.2.2.2.2.2.2.2.2.1
theorem dL_law_1596 : decode cL_law 1596 = .ok (.iconst 2, 1) := db55.2.2.2.2.2.2.2.2.2.2.2.2.2.2.2.2.2.2.2.2.1
theorem dL_law_1597 : decode cL_law 1597 = .ok (.iadd, 1) := db55.2.2.2.2.2.2.2.2.2.2.2.2.2.2.2.2.2.2.2.2.2.1
theorem dL_law_1598 : decode cL_law 1598 = .ok (.iaload, 1) := db55.2.2.2.2.2.2.2.2.2.2.2.2.2.2.2.2.2.2.2.2.2.2.1
theorem dL_law_1599 : decode cL_law 1599 = .ok (.aload_n 0, 1) := db55.2.2.2.2.2.2.2.2.2.2.2.2.2.2.2.2.2.2.2.2.2.2.2
theorem db56 : (decode cL_law 1600 = .ok (.iload_n 3, 1)) ∧ (decode cL_law 1601 = .ok (.iconst 3, 1)) ∧ (decode cL_law 1602 = .ok (.iadd, 1)) ∧ (decode cL_law 1603 = .ok (.iaload, 1)) ∧ (decode cL_law 1604 = .ok (.invokevirtual 215, 3)) ∧ (decode cL_law 1607 = .ok (.pop2, 1)) ∧ (decode cL_law 1608 = .ok (.goto 548, 3)) ∧ (decode cL_law 1611 = .ok (.aload_n 1, 1)) ∧ (decode cL_law 1612 = .ok (.aload_n 0, 1)) ∧ (decode cL_law 1613 = .ok (.iload_n 3, 1)) ∧ (decode cL_law 1614 = .ok (.iconst 1, 1)) ∧ (decode cL_law 1615 = .ok (.iadd, 1)) ∧ (decode cL_law 1616 = .ok (.iaload, 1)) ∧ (decode cL_law 1617 = .ok (.invokevirtual 216, 3)) ∧ (decode cL_law 1620 = .ok (.pop, 1)) ∧ (decode cL_law 1621 = .ok (.aload_n 2, 1)) ∧ (decode cL_law 1622 = .ok (.aload_n 0, 1)) ∧ (decode cL_law 1623 = .ok (.iload_n 3, 1)) ∧ (decode cL_law 1624 = .ok (.iconst 1, 1)) ∧ (decode cL_law 1625 = .ok (.iadd, 1)) ∧ (decode cL_law 1626 = .ok (.iaload, 1)) ∧ (decode cL_law 1627 = .ok (.invokevirtual 219, 3)) ∧ (decode cL_law 1630 = .ok (.pop, 1)) ∧ (decode cL_law 1631 = .ok (.goto 525, 3)) := by decide +kernel
theorem dL_law_1600 : decode cL_law 1600 = .ok (.iload_n 3, 1) := db56.1
theorem dL_law_1601 : decode cL_law 1601 = .ok (.iconst 3, 1) := db56.2.1
theorem dL_law_1602 : decode cL_law 1602 = .ok (.iadd, 1) := db56.2.2.1
theorem dL_law_1603 : decode cL_law 1603 = .ok (.iaload, 1) := db56.2.2.2.1
theorem dL_law_1604 : decode cL_law 1604 = .ok (.invokevirtual 215, 3) := db56.2.2.2.2.1
theorem dL_law_1607 : decode cL_law 1607 = .ok (.pop2, 1) := db56.2.2.2.2.2.1
theorem dL_law_1608 : decode cL_law 1608 = .ok (.goto 548, 3) := db56.2.2.2.2.2.2.1
theorem dL_law_1611 : decode cL_law 1611 = .ok (.aload_n 1, 1) := db56.2.2.2.2.2.2.2.1
theorem dL_law_1612 : decode cL_law 1612 = .ok (.aload_n 0, 1) := db56.2.2.2.2.2.2.2.2.1
theorem dL_law_1613 : decode cL_law 1613 = .ok (.iload_n 3, 1) := db56.2.2.2.2.2.2.2.2.2.1
theorem dL_law_1614 : decode cL_law 1614 = .ok (.iconst 1, 1) := db56.2.2.2.2.2.2.2.2.2.2.1
theorem dL_law_1615 : decode cL_law 1615 = .ok (.iadd, 1) := db56.2.2.2.2.2.2.2.2.2.2.2.1
theorem dL_law_1616 : decode cL_law 1616 = .ok (.iaload, 1) := db56.2.2.2.2.2.2.2.2.2.2.2.2.1
theorem dL_law_1617 : decode cL_law 1617 = .ok (.invokevirtual 216, 3) := db56.2.2.2.2.2.2.2.2.2.2.2.2.2.1
theorem dL_law_1620 : decode cL_law 1620 = .ok (.pop, 1) := db56.2.2.2.2.2.2.2.2.2.2.2.2.2.2.1
theorem dL_law_1621 : decode cL_law 1621 = .ok (.aload_n 2, 1) := db56.2.2.2.2.2.2.2.2.2.2.2.2.2.2.2.1
theorem dL_law_1622 : decode cL_law 1622 = .ok (.aload_n 0, 1) := db56.2.2.2.2.2.2.2.2.2.2.2.2.2.2.2.2.1
theorem dL_law_1623 : decode cL_law 1623 = .ok (.iload_n 3, 1) := db56.2.2.2.2.2.2.2.2.2.2.2.2.2.2.2.2.2.1
theorem dL_law_1624 : decode cL_law 1624 = .ok (.iconst 1, 1) := db56.2.2.2.2.2.2.2.2.2.2.2.2.2.2.2.2.2.2.1
theorem dL_law_1625 : decode cL_law 1625 = .ok (.iadd, 1) := db56.2.2.2.2.2.2.2.2.2.2.2.2.2.2.2.2.2.2.2.1
theorem dL_law_1626 : decode cL_law 1626 = .ok (.iaload, 1) := db56.2.2.2.2.2.2.2.2.2.2.2.2.2.2.2.2.2.2.2.2.1
theorem dL_law_1627 : decode cL_law 1627 = .ok (.invokevirtual 219, 3) := db56.2.2.2.2.2.2.2.2.2.2.2.2.2.2.2.2.2.2.2.2.2.1
theorem dL_law_1630 : decode cL_law 1630 = .ok (.pop, 1) := db56.2.2.2.2.2.2.2.2.2.2.2.2.2.2.2.2.2.2.2.2.2.2.1
theorem dL_law_1631 : decode cL_law 1631 = .ok (.goto 525, 3) := db56.2.2.2.2.2.2.2.2.2.2.2.2.2.2.2.2.2.2.2.2.2.2.2
theorem db57 : (decode cL_law 1634 = .ok (.aload_n 1, 1)) ∧ (decode cL_law 1635 = .ok (.aload_n 0, 1)) ∧ (decode cL_law 1636 = .ok (.iload_n 3, 1)) ∧ (decode cL_law 1637 = .ok (.iconst 1, 1)) ∧ (decode cL_law 1638 = .ok (.iadd, 1)) ∧ (decode cL_law 1639 = .ok (.iaload, 1)) ∧ (decode cL_law 1640 = .ok (.invokevirtual 220, 3)) ∧ (decode cL_law 1643 = .ok (.pop2, 1)) ∧ (decode cL_law 1644 = .ok (.aload_n 2, 1)) ∧ (decode cL_law 1645 = .ok (.aload_n 0, 1)) ∧ (decode cL_law 1646 = .ok (.iload_n 3, 1)) ∧ (decode cL_law 1647 = .ok (.iconst 1, 1)) ∧ (decode cL_law 1648 = .ok (.iadd, 1)) ∧ (decode cL_law 1649 = .ok (.iaload, 1)) ∧ (decode cL_law 1650 = .ok (.invokevirtual 224, 3)) ∧ (decode cL_law 1653 = .ok (.pop2, 1)) ∧ (decode cL_law 1654 = .ok (.goto 502, 3)) ∧ (decode cL_law 1657 = .ok (.aload_n 1, 1)) ∧ (decode cL_law 1658 = .ok (.aload_n 0, 1)) ∧ (decode cL_law 1659 = .ok (.iload_n 3, 1)) ∧ (decode cL_law 1660 = .ok (.iconst 1, 1)) ∧ (decode cL_law 1661 = .ok (.iadd, 1)) ∧ (decode cL_law 1662 = .ok (.iaload, 1)) ∧ (decode cL_law 1663 = .ok (.invokevirtual 225, 3)) := by decide +kernel
theorem dL_law_1634 : decode cL_law 1634 = .ok (.aload_n 1, 1) := db57.1
theorem dL_law_1635 : decode cL_law 1635 = .ok (.aload_n 0, 1) := db57.2.1
theorem dL_law_1636 : decode cL_law 1636 = .ok (.iload_n 3, 1) := db57.2.2.1
theorem dL_law_1637 : decode cL_law 1637 = .ok (.iconst 1, 1) := db57.2.2.2.1
theorem dL_law_1638 : decode cL_law 1638 = .ok (.iadd, 1) := db57.2.2.2.2.1
theorem dL_law_1639 : decode cL_law 1639 = .ok (.iaload, 1) := db57.2.2.2.2.2.1
theorem dL_law_1640 : decode cL_law 1640 = .ok (.invokevirtual 220, 3) := db57.2.2.2.2.2.2.1
theorem dL_law_1643 : decode cL_law 1643 = .ok (.pop2, 1) := db57.2.2.2.2.2.2.2.1
theorem dL_law_1644 : decode cL_law 1644 = .ok (.aload_n 2, 1) := db57.2.2.2.2.2.2.2.2.1
theorem dL_law_1645 : decode cL_law 1645 = .ok (.aload_n 0, 1) := db57.2.2.2.2.2.2.2.2.2.1
theorem dL_law_1646 : decode cL_law 1646 = .ok (.iload_n 3, 1) := db57.2.2.2.2.2.2.2.2.2.2.1
theorem dL_law_1647 : decode cL_law 1647 = .ok (.iconst 1, 1) := db57.2.2.2.2.2.2.2.2.2.2.2.1
theorem dL_law_1648 : decode cL_law 1648 = .ok (.iadd, 1) := db57.2.2.2.2.2.2.2.2.2.2.2.2.1
theorem dL_law_1649 : decode cL_law 1649 = .ok (.iaload, 1) := db57.2.2.2.2.2.2.2.2.2.2.2.2.2.1
theorem dL_law_1650 : decode cL_law 1650 = .ok (.invokevirtual 224, 3) := db57.2.2.2.2.2.2.2.2.2.2.2.2.2.2.1
theorem dL_law_1653 : decode cL_law 1653 = .ok (.pop2, 1) := db57.2.2.2.2.2.2.2.2.2.2.2.2.2.2.2.1
theorem dL_law_1654 : decode cL_law 1654 = .ok (.goto 502, 3) := db57.2.2.2.2.2.2.2.2.2.2.2.2.2.2.2.2.1
theorem dL_law_1657 : decode cL_law 1657 = .ok (.aload_n 1, 1) := db57.2.2.2.2.2.2.2.2.2.2.2.2.2.2.2.2.2.1
theorem dL_law_1658 : decode cL_law 1658 = .ok (.aload_n 0, 1) := db57.2.2.2.2.2.2.2.2.2.2.2.2.2.2.2.2.2.2.1
theorem dL_law_1659 : decode cL_law 1659 = .ok (.iload_n 3, 1) := db57.2.2.2.2.2.2.2.2.2.2.2.2.2.2.2.2.2.2.2.1
theorem dL_law_1660 : decode cL_law 1660 = .ok (.iconst 1, 1) := db57.2.2.2.2.2.2.2.2.2.2.2.2.2.2.2.2.2.2.2.2.1
theorem dL_law_1661 : decode cL_law 1661 = .ok (.iadd, 1) := db57.2.2.2.2.2.2.2.2.2.2.2.2.2.2.2.2.2.2.2.2.2.1
theorem dL_law_1662 : decode cL_law 1662 = .ok (.iaload, 1) := db57.2.2.2.2.2.2.2.2.2.2.2.2.2.2.2.2.2.2.2.2.2.2.1
theorem dL_law_1663 : decode cL_law 1663 = .ok (.invokevirtual 225, 3) := db57.2.2.2.2.2.2.2.2.2.2.2.2.2.2.2.2.2.2.2.2.2.2.2
theorem db58 : (decode cL_law 1666 = .ok (.pop, 1)) ∧ (decode cL_law 1667 = .ok (.aload_n 2, 1)) ∧ (decode cL_law 1668 = .ok (.aload_n 0, 1)) ∧ (decode cL_law 1669 = .ok (.iload_n 3, 1)) ∧ (decode cL_law 1670 = .ok (.iconst 1, 1)) ∧ (decode cL_law 1671 = .ok (.iadd, 1)) ∧ (decode cL_law 1672 = .ok (.iaload, 1)) ∧ (decode cL_law 1673 = .ok (.invokevirtual 228, 3)) ∧ (decode cL_law 1676 = .ok (.pop, 1)) ∧ (decode cL_law 1677 = .ok (.goto 479, 3)) ∧ (decode cL_law 1680 = .ok (.aload_n 1, 1)) ∧ (decode cL_law 1681 = .ok (.aload_n 0, 1)) ∧ (decode cL_law 1682 = .ok (.iload_n 3, 1)) ∧ (decode cL_law 1683 = .ok (.iconst 1, 1)) ∧ (decode cL_law 1684 = .ok (.iadd, 1)) ∧ (decode cL_law 1685 = .ok (.iaload, 1)) ∧ (decode cL_law 1686 = .ok (.aload_n 0, 1)) ∧ (decode cL_law 1687 = .ok (.iload_n 3, 1)) ∧ (decode cL_law 1688 = .ok (.iconst 2, 1)) ∧ (decode cL_law 1689 = .ok (.iadd, 1)) ∧ (decode cL_law 1690 = .ok (.iaload, 1)) ∧ (decode cL_law 1691 = .ok (.invokevirtual 229, 3)) ∧ (decode cL_law 1694 = .ok (.pop, 1)) ∧ (decode cL_law 1695 = .ok (.aload_n 2, 1)) := by decide +kernel
theorem dL_law_1666 : decode cL_law 1666 = .ok (.pop, 1) := db58.1
theorem dL_law_1667 : decode cL_law 1667 = .ok (.aload_n 2, 1) := db58.2.1
theorem dL_law_1668 : decode cL_law 1668 = .ok (.aload_n 0, 1) := db58.2.2.1
theorem dL_law_1669 : decode cL_law 1669 = .ok (.iload_n 3, 1) := db58.2.2.2.1
theorem dL_law_1670 : decode cL_law 1670 = .ok (.iconst 1, 1) := db58.2.2.2.2.1
theorem dL_law_1671 : decode cL_law 1671 = .ok (.iadd, 1) := db58.2.2.2.2.2.1
theorem dL_law_1672 : decode cL_law 1672 = .ok (.iaload, 1) := db58.2.2.2.2.2.2.1
theorem dL_law_1673 : decode cL_law 1673 = .ok (.invokevirtual 228, 3) := db58.2.2.2.2.2.2.2.1
theorem dL_law_1676 : decode cL_law 1676 = .ok (.pop, 1) := db58.2.2.2.2.2.2.2.2.1
theorem dL_law_1677 : decode cL_law 1677 = .ok (.goto 479, 3) := db58.2.2.2.2.2.2.2.2.2.1
theorem dL_law_1680 : decode cL_law 1680 = .ok (.aload_n 1, 1) := db58.2.2.2.2.2.2.2.2.2.2.1
theorem dL_law_1681 : decode cL_law 1681 = .ok (.aload_n 0, 1) := db58.2.2.2.2.2.2.2.2.2.2.2.1
theorem dL_law_1682 : decode cL_law 1682 = .ok (.iload_n 3, 1) := db58.2.2.2.2.2.2.2.2.2.2.2.2.1
theorem dL_law_1683 : decode cL_law 1683 = .ok (.iconst 1, 1) := db58.2.2.2.2.2.2.2.2.2.2.2.2.2.1
theorem dL_law_1684 : decode cL_law 1684 = .ok (.iadd, 1) := db58.2.2.2.2.2.2.2.2.2.2.2.2.2.2.1
theorem dL_law_1685 : decode cL_law 1685 = .ok (.iaload, 1) := db58.2.2.2.2.2.2.2.2.2.2.2.2.2.2.2.1
theorem dL_law_1686 : decode cL_law 1686 = .ok (.aload_n 0, 1) := db58.2.2.2.2.2.2.2.2.2.2.2.2.2.2.2.2.1
theorem dL_law_1687 : decode cL_law 1687 = .ok (.iload_n 3, 1) := db58.2.2.2.2.2.2.2.2.2.2.2.2.2.2.2.2.2.1
theorem dL_law_1688 : decode cL_law 1688 = .ok (.iconst 2, 1) := db58.2.2.2.2.2.2.2.2.2.2.2.2.2.2.2.2.2.2.1
theorem dL_law_1689 : decode cL_law 1689 = .ok (.iadd, 1) := db58.2.2.2.2.2.2.2.2.2.2.2.2.2.2.2.2.2.2.2.1
theorem dL_law_1690 : decode cL_law 1690 = .ok (.iaload, 1) := db58.2.2.2.2.2.2.2.2.2.2.2.2.2.2.2.2.2.2.2.2.1
theorem dL_law_1691 : decode cL_law 1691 = .ok (.invokevirtual 229, 3) := db58.2.2.2.2.2.2.2.2.2.2.2.2.2.2.2.2.2.2.2.2.2.1
theorem dL_law_1694 : decode cL_law 1694 = .ok (.pop, 1) := db58.2.2.2.2.2.2.2.2.2.2.2.2.2.2.2.2.2.2.2.2.2.2.1
theorem dL_law_1695 : decode cL_law 1695 = .ok (.aload_n 2, 1) := db58.2.2.2.2.2.2.2.2.2.2.2.2.2.2.2.2.2.2.2.2.2.2.2
theorem db59 : (decode cL_law 1696 = .ok (.aload_n 0, 1)) ∧ (decode cL_law 1697 = .ok (.iload_n 3, 1)) ∧ (decode cL_law 1698 = .ok (.iconst 1, 1)) ∧ (decode cL_law 1699 = .ok (.iadd, 1)) ∧ (decode cL_law 1700 = .ok (.iaload, 1)) ∧ (decode cL_law 1701 = .ok (.aload_n 0, 1)) ∧ (decode cL_law 1702 = .ok (.iload_n 3, 1)) ∧ (decode cL_law 1703 = .ok (.iconst 2, 1)) ∧ (decode cL_law 1704 = .ok (.iadd, 1)) ∧ (decode cL_law 1705 = .ok (.iaload, 1)) ∧ (decode cL_law 1706 = .ok (.invokevirtual 232, 3)) ∧ (decode cL_law 1709 = .ok (.pop, 1)) ∧ (decode cL_law 1710 = .ok (.goto 446, 3)) ∧ (decode cL_law 1713 = .ok (.aload_n 1, 1)) ∧ (decode cL_law 1714 = .ok (.aload_n 0, 1)) ∧ (decode cL_law 1715 = .ok (.iload_n 3, 1)) ∧ (decode cL_law 1716 = .ok (.iconst 1, 1)) ∧ (decode cL_law 1717 = .ok (.iadd, 1)) ∧ (decode cL_law 1718 = .ok (.iaload, 1)) ∧ (decode cL_law 1719 = .ok (.invokevirtual 233, 3)) ∧ (decode cL_law 1722 = .ok (.pop, 1)) ∧ (decode cL_law 1723 = .ok (.aload_n 2, 1)) ∧ (decode cL_law 1724 = .ok (.aload_n 0, 1)) ∧ (decode cL_law 1725 = .ok (.iload_n 3, 1)) := by decide +kernel
theorem dL_law_1696 : decode cL_law 1696 = .ok (.aload_n 0, 1) := db59.1
theorem dL_law_1697 : decode cL_law 1697 = .ok (.iload_n 3, 1) := db59.2.1
theorem dL_law_1698 : decode cL_law 1698 = .ok (.iconst 1, 1) := db59.2.2.1
theorem dL_law_1699 : decode cL_law 1699 = .ok (.iadd, 1) := db59.2.2.2.1
theorem dL_law_1700 : decode cL_law 1700 = .ok (.iaload, 1) := db59.2.2.2.2.1
theorem dL_law_1701 : decode cL_law 1701 = .ok (.aload_n 0, 1) := db59.2.2.2.2.2.1
theorem dL_law_1702 : decode cL_law 1702 = .ok (.iload_n 3, 1) := db59.2.2.2.2.2.2.1
theorem dL_law_1703 : decode cL_law 1703 = .ok (.iconst 2, 1) := db59.2.2.2.2.2.2.2.1
theorem dL_law_1704 : decode cL_law 1704 = .ok (.iadd, 1) := db59.2.2.2.2.2.2.2.2.1
theorem dL_law_1705 : decode cL_law 1705 = .ok (.iaload, 1) := db59.2.2.2.2.2.2.2.2.2.1
theorem dL_law_1706 : decode cL_law 1706 = .ok (.invokevirtual 232, 3) := db59.2.2.2.2.2.2.2.2.2.2.1
theorem dL_law_1709 : decode cL_law 1709 = .ok (.pop, 1) := db59.2.2.2.2.2.2.2.2.2.2.2.1
theorem dL_law_1710 : decode cL_law 1710 = .ok (.goto 446, 3) := db59.2.2.2.2.2.2.2.2.2.2.2.2.1
theorem dL_law_1713 : decode cL_law 1713 = .ok (.aload_n 1, 1) := db59.2.2.2.2.2.2.2.2.2.2.2.2.2.1
theorem dL_law_1714 : decode cL_law 1714 = .ok (.aload_n 0, 1) := db59.2.2.2.2.2.2.2.2.2.2.2.2.2.2.1
theorem dL_law_1715 : decode cL_law 1715 = .ok (.iload_n 3, 1) := db59.2.2.2.2.2.2.2.2.2.2.2.2.2.2.2.1
theorem dL_law_1716 : decode cL_law 1716 = .ok (.iconst 1, 1) := db59.2.2.2.2.2.2.2.2.2.2.2.2.2.2.2.2.1
theorem dL_law_1717 : decode cL_law 1717 = .ok (.iadd, 1) := db59.2.2.2.2.2.2.2.2.2.2.2.2.2.2.2.2.2.1
theorem dL_law_1718 : decode cL_law 1718 = .ok (.iaload, 1) := db59.2.2.2.2.2.2.2.2.2.2.2.2.2.2.2.2.2.2.1
theorem dL_law_1719 : decode cL_law 1719 = .ok (.invokevirtual 233, 3) := db59.2.2.2.2.2.2.2.2.2.2.2.2.2.2.2.2.2.2.2.1
theorem dL_law_1722 : decode cL_law 1722 = .ok (.pop, 1) := db59.2.2.2.2.2.2.2.2.2.2.2.2.2.2.2.2.2.2.2.2.1
theorem dL_law_1723 : decode cL_law 1723 = .ok (.aload_n 2, 1) := db59.2.2.2.2.2.2.2.2.2.2.2.2.2.2.2.2.2.2.2.2.2.1
theorem dL_law_1724 : decode cL_law 1724 = .ok (.aload_n 0, 1) := db59.2.2.2.2.2.2.2.2.2.2.2.2.2.2.2.2.2.2.2.2.2.2.1
theorem dL_law_1725 : decode cL_law 1725 = .ok (.iload_n 3, 1) := db59.2.2.2.2.2.2.2.2.2.2.2.2.2.2.2.2.2.2.2.2.2.2.2
theorem db60 : (decode cL_law 1726 = .ok (.iconst 1, 1)) ∧ (decode cL_law 1727 = .ok (.iadd, 1)) ∧ (decode cL_law 1728 = .ok (.iaload, 1)) ∧ (decode cL_law 1729 = .ok (.invokevirtual 236, 3)) ∧ (decode cL_law 1732 = .ok (.pop, 1)) ∧ (decode cL_law 1733 = .ok (.goto 423, 3)) ∧ (decode cL_law 1736 = .ok (.aload_n 1, 1)) ∧ (decode cL_law 1737 = .ok (.aload_n 0, 1)) ∧ (decode cL_law 1738 = .ok (.iload_n 3, 1)) ∧ (decode cL_law 1739 = .ok (.iconst 1, 1)) ∧ (decode cL_law 1740 = .ok (.iadd, 1)) ∧ (decode cL_law 1741 = .ok (.iaload, 1)) ∧ (decode cL_law 1742 = .ok (.aload_n 0, 1)) ∧ (decode cL_law 1743 = .ok (.iload_n 3, 1)) ∧ (decode cL_law 1744 = .ok (.iconst 2, 1)) ∧ (decode cL_law 1745 = .ok (.iadd, 1)) ∧ (decode cL_law 1746 = .ok (.iaload, 1)) ∧ (decode cL_law 1747 = .ok (.aload_n 0, 1)) ∧ (decode cL_law 1748 = .ok (.iload_n 3, 1)) ∧ (decode cL_law 1749 = .ok (.iconst 3, 1)) ∧ (decode cL_law 1750 = .ok (.iadd, 1)) ∧ (decode cL_law 1751 = .ok (.iaload, 1)) ∧ (decode cL_law 1752 = .ok (.invokevirtual 237, 3)) ∧ (decode cL_law 1755 = .ok (.pop, 1)) := by decide +kernel
theorem dL_law_1726 : decode cL_law 1726 = .ok (.iconst 1, 1) := db60.1
theorem dL_law_1727 : decode cL_law 1727 = .ok (.iadd, 1) := db60.2.1
theorem dL_law_1728 : decode cL_law 1728 = .ok (.iaload, 1) := db60.2.2.1
theorem dL_law_1729 : decode cL_law 1729 = .ok (.invokevirtual 236, 3) := db60.2.2.2.1
theorem dL_law_1732 : decode cL_law 1732 = .ok (.pop, 1) := db60.2.2.2.2.1
theorem dL_law_1733 : decode cL_law 1733 = .ok (.goto 423, 3) := db60.2.2.2.2.2.1
theorem dL_law_1736 : decode cL_law 1736 = .ok (.aload_n 1, 1) := db60.2.2.2.2.2.2.1
theorem dL_law_1737 : decode cL_law 1737 = .ok (.aload_n 0, 1) := db60.2.2.2.2.2.2.2.1
theorem dL_law_1738 : decode cL_law 1738 = .ok (.iload_n 3, 1) := db60.2.2.2.2.2.2.2.2.1
theorem dL_law_1739 : decode cL_law 1739 = .ok (.iconst 1, 1) := db60.2.2.2.2.2.2.2.2.2.1
theorem dL_law_1740 : decode cL_law 1740 = .ok (.iadd, 1) := db60.2.2.2.2.2.2.2.2.2.2.1
theorem dL_law_1741 : decode cL_law 1741 = .ok (.iaload, 1) := db60.2.2.2.2.2.2.2.2.2.2.2.1
theorem dL_law_1742 : decode cL_law 1742 = .ok (.aload_n 0, 1) := db60.2.2.2.2.2.2.2.2.2.2.2.2.1
theorem dL_law_1743 : decode cL_law 1743 = .ok (.iload_n 3, 1) := db60.2.2.2.2.2.2.2.2.2.2.2.2.2.1
theorem dL_law_1744 : decode cL_law 1744 = .ok (.iconst 2, 1) := db60.2.2.2.2.2.2.2.2.2.2.2.2.2.2.1
theorem dL_law_1745 : decode cL_law 1745 = .ok (.iadd, 1) := db60.2.2.2.2.2.2.2.2.2.2.2.2.2.2.2.1
theorem dL_law_1746 : decode cL_law 1746 = .ok (.iaload, 1) := db60.2.2.2.2.2.2.2.2.2.2.2.2.2.2.2.2.1
theorem dL_law_1747 : decode cL_law 1747 = .ok (.aload_n 0, 1) := db60.2.2.2.2.2.2.2.2.2.2.2.2.2.2.2.2.2.1
theorem dL_law_1748 : decode cL_law 1748 = .ok (.iload_n 3, 1) := db60.2.2.2.2.2.2.2.2.2.2.2.2.2.2.2.2.2.2.1
theorem dL_law_1749 : decode cL_law 1749 = .ok (.iconst 3, 1) := db60.2.2.2.2.2.2.2.2.2.2.2.2.2.2.2.2.2.2.2.1
theorem dL_law_1750 : decode cL_law 1750 = .ok (.iadd, 1) := db60.2.2.2.2.2.2.2.2.2.2.2.2.2.2.2.2.2.2.2.2.1
theorem dL_law_1751 : decode cL_law 1751 = .ok (.iaload, 1) := db60.2.2.2.2.2.2.2.2.2.2.2.2.2.2.2.2.2.2.2.2.2.1
theorem dL_law_1752 : decode cL_law 1752 = .ok (.invokevirtual 237, 3) := db60.2.2.2.2.2.2.2.2.2.2.2.2.2.2.2.2.2.2.2.2.2.2.1
theorem dL_law_1755 : decode cL_law 1755 = .ok (.pop, 1) := db60.2.2.2.2.2.2.2.2.2.2.2.2.2.2.2.2.2.2.2.2.2.2.2
theorem db61 : (decode cL_law 1756 = .ok (.aload_n 2, 1)) ∧ (decode cL_law 1757 = .ok (.aload_n 0, 1)) ∧ (decode cL_law 1758 = .ok (.iload_n 3, 1)) ∧ (decode cL_law 1759 = .ok (.iconst 1, 1)) ∧ (decode cL_law 1760 = .ok (.iadd, 1)) ∧ (decode cL_law 1761 = .ok (.iaload, 1)) ∧ (decode cL_law 1762 = .ok (.aload_n 0, 1)) ∧ (decode cL_law 1763 = .ok (.iload_n 3, 1)) ∧ (decode cL_law 1764 = .ok (.iconst 2, 1)) ∧ (decode cL_law 1765 = .ok (.iadd, 1)) ∧ (decode cL_law 1766 = .ok (.iaload, 1)) ∧ (decode cL_law 1767 = .ok (.aload_n 0, 1)) ∧ (decode cL_law 1768 = .ok (.iload_n 3, 1)) ∧ (decode cL_law 1769 = .ok (.iconst 3, 1)) ∧ (decode cL_law 1770 = .ok (.iadd, 1)) ∧ (decode cL_law 1771 = .ok (.iaload, 1)) ∧ (decode cL_law 1772 = .ok (.invokevirtual 240, 3)) ∧ (decode cL_law 1775 = .ok (.pop, 1)) ∧ (decode cL_law 1776 = .ok (.goto 380, 3)) ∧ (decode cL_law 1779 = .ok (.aload_n 1, 1)) ∧ (decode cL_law 1780 = .ok (.aload_n 0, 1)) ∧ (decode cL_law 1781 = .ok (.iload_n 3, 1)) ∧ (decode cL_law 1782 = .ok (.iconst 1, 1)) ∧ (decode cL_law 1783 = .ok (.iadd, 1)) := by decide +kernel
theorem dL_law_1756 : decode cL_law 1756 = .ok (.aload_n 2, 1) := db61.1
theorem dL_law_1757 : decode cL_law 1757 = .ok (.aload_n 0, 1) := db61.2.1
theorem dL_law_1758 : decode cL_law 1758 = .ok (.iload_n 3, 1) := db61.2.2.1
theorem dL_law_1759 : decode cL_law 1759 = .ok (.iconst 1, 1) := db61.2.2.2.1
theorem dL_law_1760 : decode cL_law 1760 = .ok (.iadd, 1) := db61.2.2.2.2.1
theorem dL_law_1761 : decode cL_law 1761 = .ok (.iaload, 1) := db61.2.2.2.2.2.1
theorem dL_law_1762 : decode cL_law 1762 = .ok (.aload_n 0, 1) := db61.2.2.2.2.2.2.1
theorem dL_law_1763 : decode cL_law 1763 = .ok (.iload_n 3, 1) := db61.2.2.2.2.2.2.2.1
theorem dL_law_1764 : decode cL_law 1764 = .ok (.iconst 2, 1) := db61.2.2.2.2.2.2.2.2.1
theorem dL_law_1765 : decode cL_law 1765 = .ok (.iadd, 1) := db61.2.2.2.2.2.2.2.2.2.1
theorem dL_law_1766 : decode cL_law 1766 = .ok (.iaload, 1) := db61.2.2.2.2.2.2.2.2.2.2.1
theorem dL_law_1767 : decode cL_law 1767 = .ok (.aload_n 0, 1) := db61.2.2.2.2.2.2.2.2.2.2.2.1
theorem dL_law_1768 : decode cL_law 1768 = .ok (.iload_n 3, 1) := db61.2.2.2.2.2.2.2.2.2.2.2.2.1
theorem dL_law_1769 : decode cL_law 1769 = .ok (.iconst 3, 1) := db61.2.2.2.2.2.2.2.2.2.2.2.2.2.1
theorem dL_law_1770 : decode cL_law 1770 = .ok (.iadd, 1) := db61.2.2.2.2.2.2.2.2.2.2.2.2.2.2.1
theorem dL_law_1771 : decode cL_law 1771 = .ok (.iaload, 1) := db61.2.2.2.2.2.2.2.2.2.2.2.2.2.2.2.1
theorem dL_law_1772 : decode cL_law 1772 = .ok (.invokevirtual 240, 3) := db61.2.2.2.2.2.2.2.2.2.2.2.2.2.2.2.2.1
theorem dL_law_1775 : decode cL_law 1775 = .ok (.pop, 1) := db61.2.2.2.2.2.2.2.2.2.2.2.2.2.2.2.2.2.1
theorem dL_law_1776 : decode cL_law 1776 = .ok (.goto 380, 3) := db61.2.2.2.2.2.2.2.2.2.2.2.2.2.2.2.2.2.2.1
theorem dL_law_1779 : decode cL_law 1779 = .ok (.aload_n 1, 1) := db61.2.2.2.2.2.2.2.2.2.2.2.2.2.2.2.2.2.2.2.1
theorem dL_law_1780 : decode cL_law 1780 = .ok (.aload_n 0, 1) := db61.2.2.2.2.2.2.2.2.2.2.2.2.2.2.2.2.2.2.2.2.1
theorem dL_law_1781 : decode cL_law 1781 = .ok (.iload_n 3, 1) := db61.2.2.2.2.2.2.2.2.2.2.2.2.2.2.2.2.2.2.2.2.2.1
theorem dL_law_1782 : decode cL_law 1782 = .ok (.iconst 1, 1) := db61.2.2.2.2.2.2.2.2.2.2.2.2.2.2.2.2.2.2.2.2.2.2.1
theorem dL_law_1783 : decode cL_law 1783 = .ok (.iadd, 1) := db61.2.2.2.2.2.2.2.2.2.2.2.2.2.2.2.2.2.2.2.2.2.2.2
theorem db62 : (decode cL_law 1784 = .ok (.iaload, 1)) ∧ (decode cL_law 1785 = .ok (.aload_n 0, 1)) ∧ (decode cL_law 1786 = .ok (.iload_n 3, 1)) ∧ (decode cL_law 1787 = .ok (.iconst 2, 1)) ∧ (decode cL_law 1788 = .ok (.iadd, 1)) ∧ (decode cL_law 1789 = .ok (.iaload, 1)) ∧ (decode cL_law 1790 = .ok (.aload_n 0, 1)) ∧ (decode cL_law 1791 = .ok (.iload_n 3, 1)) ∧ (decode cL_law 1792 = .ok (.iconst 3, 1)) ∧ (decode cL_law 1793 = .ok (.iadd, 1)) ∧ (decode cL_law 1794 = .ok (.iaload, 1)) ∧ (decode cL_law 1795 = .ok (.invokevirtual 241, 3)) ∧ (decode cL_law 1798 = .ok (.pop, 1)) ∧ (decode cL_law 1799 = .ok (.aload_n 2, 1)) ∧ (decode cL_law 1800 = .ok (.aload_n 0, 1)) ∧ (decode cL_law 1801 = .ok (.iload_n 3, 1)) ∧ (decode cL_law 1802 = .ok (.iconst 1, 1)) ∧ (decode cL_law 1803 = .ok (.iadd, 1)) ∧ (decode cL_law 1804 = .ok (.iaload, 1)) ∧ (decode cL_law 1805 = .ok (.aload_n 0, 1)) ∧ (decode cL_law 1806 = .ok (.iload_n 3, 1)) ∧ (decode cL_law 1807 = .ok (.iconst 2, 1)) ∧ (decode cL_law 1808 = .ok (.iadd, 1)) ∧ (decode cL_law 1809 = .ok (.iaload, 1)) := by decide +kernel
theorem dL_law_1784 : decode cL_law 1784 = .ok (.iaload, 1) := db62.1
theorem dL_law_1785 : decode cL_law 1785 = .ok (.aload_n 0, 1) := db62.2.1
theorem dL_law_1786 : decode cL_law 1786 = .ok (.iload_n 3, 1) := db62.2.2.1
theorem dL_law_1787 : decode cL_law 1787 = .ok (.iconst 2, 1) := db62.2.2.2.1
theorem dL_law_1788 : decode cL_law 1788 = .ok (.iadd, 1) := db62.2.2.2.2.1
theorem dL_law_1789 : decode cL_law 1789 = .ok (.iaload, 1) := db62.2.2.2.2.2.1
theorem dL_law_1790 : decode cL_law 1790 = .ok (.aload_n 0, 1) := db62.2.2.2.2.2.2.1
theorem dL_law_1791 : decode cL_law 1791 = .ok (.iload_n 3, 1) := db62.2.2.2.2.2.2.2.1
theorem dL_law_1792 : decode cL_law 1792 = .ok (.iconst 3, 1) := db62.2.2.2.2.2.2.2.2.1
theorem dL_law_1793 : decode cL_law 1793 = .ok (.iadd, 1) := db62.2.2.2.2.2.2.2.2.2.1
theorem dL_law_1794 : decode cL_law 1794 = .ok (.iaload, 1) := db62.2.2.2.2.2.2.2.2.2.2.1
theorem dL_law_1795 : decode cL_law 1795 = .ok (.invokevirtual 241, 3) := db62.2.2.2.2.2.2.2.2.2.2.2.1
theorem dL_law_1798 : decode cL_law 1798 = .ok (.pop, 1) := db62.2.2.2.2.2.2.2.2.2.2.2.2.1
theorem dL_law_1799 : decode cL_law 1799 = .ok (.aload_n 2, 1) := db62.2.2.2.2.2.2.2.2.2.2.2.2.2.1
theorem dL_law_1800 : decode cL_law 1800 = .ok (.aload_n 0, 1) := db62.2.2.2.2.2.2.2.2.2.2.2.2.2.2.1
theorem dL_law_1801 : decode cL_law 1801 = .ok (.iload_n 3, 1) := db62.2.2.2.2.2.2.2.2.2.2.2.2.2.2.2.1
theorem dL_law_1802 : decode cL_law 1802 = .ok (.iconst 1, 1) := db62.2.2.2.2.2.2.2.2.2.2.2.2.2.2.2.2.1
theorem dL_law_1803 : decode cL_law 1803 = .ok (.iadd, 1) := db62.2.2.2.2.2.2.2.2.2.2.2.2.2.2.2.2.2.1
theorem dL_law_1804 : decode cL_law 1804 = .ok (.iaload, 1) := db62.2.2.2.2.2.2.2.2.2.2.2.2.2.2.2.2.2.2.1
theorem dL_law_1805 : decode cL_law 1805 = .ok (.aload_n 0, 1) := db62.2.2.2.2.2.2.2.2.2.2.2.2.2.2.2.2.2.2.2.1
theorem dL_law_1806 : decode cL_law 1806 = .ok (.iload_n 3, 1) := db62.2.2.2.2.2.2.2.2.2.2.2.2.2.2.2.2.2.2.2.2.1
theorem dL_law_1807 : decode cL_law 1807 = .ok (.iconst 2, 1) := db62.2.2.2.2.2.2.2.2.2.2.2.2.2.2.2.2.2.2.2.2.2.1
theorem dL_law_1808 : decode cL_law 1808 = .ok (.iadd, 1) := db62.2.2.2.2.2.2.2.2.2.2.2.2.2.2.2.2.2.2.2.2.2.2.1
theorem dL_law_1809 : decode cL_law 1809 = .ok (.iaload, 1) := db62.2.2.2.2.2.2.2.2.2.2.2.2.2.2.2.2.2.2.2.2.2.2.2
theorem db63 : (decode cL_law 1810 = .ok (.aload_n 0, 1)) ∧ (decode cL_law 1811 = .ok (.iload_n 3, 1)) ∧ (decode cL_law 1812 = .ok (.iconst 3, 1)) ∧ (decode cL_law 1813 = .ok (.iadd, 1)) ∧ (decode cL_law 1814 = .ok (.iaload, 1)) ∧ (decode cL_law 1815 = .ok (.invokevirtual 244, 3)) ∧ (decode cL_law 1818 = .ok (.pop, 1)) ∧ (decode cL_law 1819 = .ok (.goto 337, 3)) ∧ (decode cL_law 1822 = .ok (.aload_n 1, 1)) ∧ (decode cL_law 1823 = .ok (.aload_n 0, 1)) ∧ (decode cL_law 1824 = .ok (.iload_n 3, 1)) ∧ (decode cL_law 1825 = .ok (.iconst 1, 1)) ∧ (decode cL_law 1826 = .ok (.iadd, 1)) ∧ (decode cL_law 1827 = .ok (.iaload, 1)) ∧ (decode cL_law 1828 = .ok (.aload_n 0, 1)) ∧ (decode cL_law 1829 = .ok (.iload_n 3, 1)) ∧ (decode cL_law 1830 = .ok (.iconst 2, 1)) ∧ (decode cL_law 1831 = .ok (.iadd, 1)) ∧ (decode cL_law 1832 = .ok (.iaload, 1)) ∧ (decode cL_law 1833 = .ok (.aload_n 0, 1)) ∧ (decode cL_law 1834 = .ok (.iload_n 3, 1)) ∧ (decode cL_law 1835 = .ok (.iconst 3, 1)) ∧ (decode cL_law 1836 = .ok (.iadd, 1)) ∧ (decode cL_law 1837 = .ok (.iaload, 1)) := by decide +kernel
theorem dL_law_1810 : decode cL_law 1810 = .ok (.aload_n 0, 1) := db63.1
theorem dL_law_1811 : decode cL_law 1811 = .ok (.iload_n 3, 1) := db63.2.1
theorem dL_law_1812 : decode cL_law 1812 = .ok (.iconst 3, 1) := db63.2.2.1
theorem dL_law_1813 : decode cL_law 1813 = .ok (.iadd, 1) := db63.2.2.2.1
theorem dL_law_1814 : decode cL_law 1814 = .ok (.iaload, 1) := db63.2.2.2.2.1
theorem dL_law_1815 : decode cL_law 1815 = .ok (.invokevirtual 244, 3) := db63.2.2.2.2.2.1
theorem dL_law_1818 : decode cL_law 1818 = .ok (.pop, 1) := db63.2.2.2.2.2.2.1
theorem dL_law_1819 : decode cL_law 1819 = .ok (.goto 337, 3) := db63.2.2.2.2.2.2.2.1
theorem dL_law_1822 : decode cL_law 1822 = .ok (.aload_n 1, 1) := db63.2.2.2.2.2.2.2.2.1
theorem dL_law_1823 : decode cL_law 1823 = .ok (.aload_n 0, 1) := db63.2.2.2.2.2.2.2.2.2.1
theorem dL_law_1824 : decode cL_law 1824 = .ok (.iload_n 3, 1) := db63.2.2.2.2.2.2.2.2.2.2.1
theorem dL_law_1825 : decode cL_law 1825 = .ok (.iconst 1, 1) := db63.2.2.2.2.2.2.2.2.2.2.2.1
theorem dL_law_1826 : decode cL_law 1826 = .ok (.iadd, 1) := db63.2.2.2.2.2.2.2.2.2.2.2.2.1
theorem dL_law_1827 : decode cL_law 1827 = .ok (.iaload, 1) := db63.2.2.2.2.2.2.2.2.2.2.2.2.2.1
theorem dL_law_1828 : decode cL_law 1828 = .ok (.aload_n 0, 1) := db63.2.2.2.2.2.2.2.2.2.2.2.2.2.2.1
theorem dL_law_1829 : decode cL_law 1829 = .ok (.iload_n 3, 1) := db63.2.2.2.2.2.2.2.2.2.2.2.2.2.2.2.1
theorem dL_law_1830 : decode cL_law 1830 = .ok (.iconst 2, 1) := db63.2.2.2.2.2.2.2.2.2.2.2.2.2.2.2.2.1
theorem dL_law_1831 : decode cL_law 1831 = .ok (.iadd, 1) := db63.2.2.2.2.2.2.2.2.2.2.2.2.2.2.2.2.2.1
theorem dL_law_1832 : decode cL_law 1832 = .ok (.iaload, 1) := db63.2.2.2.2.2.2.2.2.2.2.2.2.2.2.2.2.2.2.1
theorem dL_law_1833 : decode cL_law 1833 = .ok (.aload_n 0, 1) := db63.2.2.2.2.2.2.2.2.2.2.2.2.2.2.2.2.2.2.2.1
theorem dL_law_1834 : decode cL_law 1834 = .ok (.iload_n 3, 1) := db63.2.2.2.2.2.2.2.2.2.2.2.2.2.2.2.2.2.2.2.2.1
theorem dL_law_1835 : decode cL_law 1835 = .ok (.iconst 3, 1) := db63.2.2.2.2.2.2.2.2.2.2.2.2.2.2.2.2.2.2.2.2.2.1
theorem dL_law_1836 : decode cL_law 1836 = .ok (.iadd, 1) := db63.2.2.2.2.2.2.2.2.2.2.2.2.2.2.2.2.2.2.2.2.2.2.1
theorem dL_law_1837 : decode cL_law 1837 = .ok (.iaload, 1) := db63.2.2.2.2.2.2.2.2.2.2.2.2.2.2.2.2.2.2.2.2.2.2.2
theorem db64 : (decode cL_law 1838 = .ok (.invokevirtual 245, 3)) ∧ (decode cL_law 1841 = .ok (.pop, 1)) ∧ (decode cL_law 1842 = .ok (.aload_n 2, 1)) ∧ (decode cL_law 1843 = .ok (.aload_n 0, 1)) ∧ (decode cL_law 1844 = .ok (.iload_n 3, 1)) ∧ (decode cL_law 1845 = .ok (.iconst 1, 1)) ∧ (decode cL_law 1846 = .ok (.iadd, 1)) ∧ (decode cL_law 1847 = .ok (.iaload, 1)) ∧ (decode cL_law 1848 = .ok (.aload_n 0, 1)) ∧ (decode cL_law 1849 = .ok (.iload_n 3, 1)) ∧ (decode cL_law 1850 = .ok (.iconst 2, 1)) ∧ (decode cL_law 1851 = .ok (.iadd, 1)) ∧ (decode cL_law 1852 = .ok (.iaload, 1)) ∧ (decode cL_law 1853 = .ok (.aload_n 0, 1)) ∧ (decode cL_law 1854 = .ok (.iload_n 3, 1)) ∧ (decode cL_law 1855 = .ok (.iconst 3, 1)) ∧ (decode cL_law 1856 = .ok (.iadd, 1)) ∧ (decode cL_law 1857 = .ok (.iaload, 1)) ∧ (decode cL_law 1858 = .ok (.invokevirtual 248, 3)) ∧ (decode cL_law 1861 = .ok (.pop, 1)) ∧ (decode cL_law 1862 = .ok (.goto 294, 3)) ∧ (decode cL_law 1865 = .ok (.aload_n 1, 1)) ∧ (decode cL_law 1866 = .ok (.aload_n 0, 1)) ∧ (decode cL_law 1867 = .ok (.iload_n 3, 1)) := by decide +kernel
theorem dL_law_1838 : decode cL_law 1838 = .ok (.invokevirtual 245, 3) := db64.1
theorem dL_law_1841 : decode cL_law 1841 = .ok (.pop, 1) := db64.2.1
theorem dL_law_1842 : decode cL_law 1842 = .ok (.aload_n 2, 1) := db64.2.2.1
theorem dL_law_1843 : decode cL_law 1843 = .ok (.aload_n 0, 1) := db64.2.2.2.1
theorem dL_law_1844 : decode cL_law 1844 = .ok (.iload_n 3, 1) := db64.2.2.2.2.1
theorem dL_law_1845 : decode cL_law 1845 = .ok (.iconst 1, 1) := db64.2.2.2.2.2.1
theorem dL_law_1846 : decode cL_law 1846 = .ok (.iadd, 1) := db64.2.2.2.2.2.2.1
theorem dL_law_1847 : decode cL_law 1847 = .ok (.iaload, 1) := db64.2.2.2.2.2.2.2.1
theorem dL_law_1848 : decode cL_law 1848 = .ok (.aload_n 0, 1) := db64.2.2.2.2.2.2.2.2.1
theorem dL_law_1849 : decode cL_law 1849 = .ok (.iload_n 3, 1) := db64.2.2.2.2.2.2.2.2.2.1
theorem dL_law_1850 : decode cL_law 1850 = .ok (.iconst 2, 1) := db64.2.2.2.2.2.2.2.2.2.2.1
theorem dL_law_1851 : decode cL_law 1851 = .ok (.iadd, 1) := db64.2.2.2.2.2.2.2.2.2.2.2.1
theorem dL_law_1852 : decode cL_law 1852 = .ok (.iaload, 1) := db64.2.2.2.2.2.2.2.2.2.2.2.2.1
theorem dL_law_1853 : decode cL_law 1853 = .ok (.aload_n 0, 1) := db64.2.2.2.2.2.2.2.2.2.2.2.2.2.1
theorem dL_law_1854 : decode cL_law 1854 = .ok (.iload_n 3, 1) := db64.2.2.2.2.2.2.2.2.2.2.2.2.2.2.1
theorem dL_law_1855 : decode cL_law 1855 = .ok (.iconst 3, 1) := db64.2.2.2.2.2.2.2.2.2.2.2.2.2.2.2.1
theorem dL_law_1856 : decode cL_law 1856 = .ok (.iadd, 1) := db64.2.2.2.2.2.2.2.2.2.2.2.2.2.2.2.2.1
theorem dL_law_1857 : decode cL_law 1857 = .ok (.iaload, 1) := db64.2.2.2.2.2.2.2.2.2.2.2.2.2.2.2.2.2.1
theorem dL_law_1858 : decode cL_law 1858 = .ok (.invokevirtual 248, 3) := db64.2.2.2.2.2.2.2.2.2.2.2.2.2.2.2.2.2.2.1
theorem dL_law_1861 : decode cL_law 1861 = .ok (.pop, 1) := db64.2.2.2.2.2.2.2.2.2.2.2.2.2.2.2.2.2.2.2.1
theorem dL_law_1862 : decode cL_law 1862 = .ok (.goto 294, 3) := db64.2.2.2.2.2.2.2.2.2.2.2.2.2.2.2.2.2.2.2.2.1
theorem dL_law_1865 : decode cL_law 1865 = .ok (.aload_n 1, 1) := db64.2.2.2.2.2.2.2.2.2.2.2.2.2.2.2.2.2.2.2.2.2.1
theorem dL_law_1866 : decode cL_law 1866 = .ok (.aload_n 0, 1) := db64.2.2.2.2.2.2.2.2.2.2.2.2.2.2.2.2.2.2.2.2.2.2.1
theorem dL_law_1867 : decode cL_law 1867 = .ok (.iload_n 3, 1) := db64.2.2.2.2.2.2.2.2.2.2.2.2.2.2.2.2.2.2.2.2.2.2.2
theorem db65 : (decode cL_law 1868 = .ok (.iconst 1, 1)) ∧ (decode cL_law 1869 = .ok (.iadd, 1)) ∧ (decode cL_law 1870 = .ok (.iaload, 1)) ∧ (decode cL_law 1871 = .ok (.aload_n 0, 1)) ∧ (decode cL_law 1872 = .ok (.iload_n 3, 1)) ∧ (decode cL_law 1873 = .ok (.iconst 2, 1)) ∧ (decode cL_law 1874 = .ok (.iadd, 1)) ∧ (decode cL_law 1875 = .ok (.iaload, 1)) ∧ (decode cL_law 1876 = .ok (.aload_n 0, 1)) ∧ (decode cL_law 1877 = .ok (.iload_n 3, 1)) ∧ (decode cL_law 1878 = .ok (.iconst 3, 1)) ∧ (decode cL_law 1879 = .ok (.iadd, 1)) ∧ (decode cL_law 1880 = .ok (.iaload, 1)) ∧ (decode cL_law 1881 = .ok (.invokevirtual 249, 3)) ∧ (decode cL_law 1884 = .ok (.pop, 1)) ∧ (decode cL_law 1885 = .ok (.aload_n 2, 1)) ∧ (decode cL_law 1886 = .ok (.aload_n 0, 1)) ∧ (decode cL_law 1887 = .ok (.iload_n 3, 1)) ∧ (decode cL_law 1888 = .ok (.iconst 1, 1)) ∧ (decode cL_law 1889 = .ok (.iadd, 1)) ∧ (decode cL_law 1890 = .ok (.iaload, 1)) ∧ (decode cL_law 1891 = .ok (.aload_n 0, 1)) ∧ (decode cL_law 1892 = .ok (.iload_n 3, 1)) ∧ (decode cL_law 1893 = .ok (.iconst 2, 1)) := by decide +kernel
theorem dL_law_1868 : decode cL_law 1868 = .ok (.iconst 1, 1) := db65.1
theorem dL_law_1869 : decode cL_law 1869 = .ok (.iadd, 1) := db65.2.1
theorem dL_law_1870 : decode cL_law 1870 = .ok (.iaload, 1) := db65.2.2.1
theorem dL_law_1871 : decode cL_law 1871 = .ok (.aload_n 0, 1) := db65.2.2.2.1
theorem dL_law_1872 : decode cL_law 1872 = .ok (.iload_n 3, 1) := db65.2.2.2.2.1
theorem dL_law_1873 : decode cL_law 1873 = .ok (.iconst 2, 1) := db65.2.2.2.2.2.1
theorem dL_law_1874 : decode cL_law 1874 = .ok (.iadd, 1) := db65.2.2.2.2.2.2.1
theorem dL_law_1875 : decode cL_law 1875 = .ok (.iaload, 1) := db65.2.2.2.2.2.2.2.1
theorem dL_law_1876 : decode cL_law 1876 = .ok (.aload_n 0, 1) := db65.2.2.2.2.2.2.2.2.1
theorem dL_law_1877 : decode cL_law 1877 = .ok (.iload_n 3, 1) := db65.2.2.2.2.2.2.2.2.2.1
theorem dL_law_1878 : decode cL_law 1878 = .ok (.iconst 3, 1) := db65.2.2.2.2.2.2.2.2.2.2.1
theorem dL_law_1879 : decode cL_law 1879 = .ok (.iadd, 1) := db65.2.2.2.2.2.2.2.2.2.2.2.1
theorem dL_law_1880 : decode cL_law 1880 = .ok (.iaload, 1) := db65.2.2.2.2.2.2.2.2.2.2.2.2.1
theorem dL_law_1881 : decode cL_law 1881 = .ok (.invokevirtual 249, 3) := db65.2.2.2.2.2.2.2.2.2.2.2.2.2.1
theorem dL_law_1884 : decode cL_law 1884 = .ok (.pop, 1) := db65.2.2.2.2.2.2.2.2.2.2.2.2.2.2.1
theorem dL_law_1885 : decode cL_law 1885 = .ok (.aload_n 2, 1) := db65.2.2.2.2.2.2.2.2.2.2.2.2.2.2.2.1
theorem dL_law_1886 : decode cL_law 1886 = .ok (.aload_n 0, 1) := db65.2.2.2.2.2.2.2.2.2.2.2.2.2.2.2.2.1
theorem dL_law_1887 : decode cL_law 1887 = .ok (.iload_n 3, 1) := db65.2.2.2.2.2.2.2.2.2.2.2.2.2.2.2.2.2.1
theorem dL_law_1888 : decode cL_law 1888 = .ok (.iconst 1, 1) := db65.2.2.2.2.2.2.2.2.2.2.2.2.2.2.2.2.2.2.1
theorem dL_law_1889 : decode cL_law 1889 = .ok (.iadd, 1) := db65.2.2.2.2.2.2.2.2.2.2.2.2.2.2.2.2.2.2.2.1
theorem dL_law_1890 : decode cL_law 1890 = .ok (.iaload, 1) := db65.2.2.2.2.2.2.2.2.2.2.2.2.2.2.2.2.2.2.2.2.1
theorem dL_law_1891 : decode cL_law 1891 = .ok (.aload_n 0, 1) := db65.2.2.2.2.2.2.2.2.2.2.2.2.2.2.2.2.2.2.2.2.2.1
theorem dL_law_1892 : decode cL_law 1892 = .ok (.iload_n 3, 1) := db65.2.2.2.2.2.2.2.2.2.2.2.2.2.2.2.2.2.2.2.2.2.2.1
theorem dL_law_1893 : decode cL_law 1893 = .ok (.iconst 2, 1) := db65.2.2.2.2.2.2.2.2.2.2.2.2.2.2.2.2.2.2.2.2.2.2.2
theorem db66 : (decode cL_law 1894 = .ok (.iadd, 1)) ∧ (decode cL_law 1895 = .ok (.iaload, 1)) ∧ (decode cL_law 1896 = .ok (.aload_n 0, 1)) ∧ (decode cL_law 1897 = .ok (.iload_n 3, 1)) ∧ (decode cL_law 1898 = .ok (.iconst 3, 1)) ∧ (decode cL_law 1899 = .ok (.iadd, 1)) ∧ (decode cL_law 1900 = .ok (.iaload, 1)) ∧ (decode cL_law 1901 = .ok (.invokevirtual 252, 3)) ∧ (decode cL_law 1904 = .ok (.pop, 1)) ∧ (decode cL_law 1905 = .ok (.goto 251, 3)) ∧ (decode cL_law 1908 = .ok (.aload_n 1, 1)) ∧ (decode cL_law 1909 = .ok (.aload_n 0, 1)) ∧ (decode cL_law 1910 = .ok (.iload_n 3, 1)) ∧ (decode cL_law 1911 = .ok (.iconst 1, 1)) ∧ (decode cL_law 1912 = .ok (.iadd, 1)) ∧ (decode cL_law 1913 = .ok (.iaload, 1)) ∧ (decode cL_law 1914 = .ok (.invokevirtual 253, 3)) ∧ (decode cL_law 1917 = .ok (.pop, 1)) ∧ (decode cL_law 1918 = .ok (.aload_n 2, 1)) ∧ (decode cL_law 1919 = .ok (.aload_n 0, 1)) ∧ (decode cL_law 1920 = .ok (.iload_n 3, 1)) ∧ (decode cL_law 1921 = .ok (.iconst 1, 1)) ∧ (decode cL_law 1922 = .ok (.iadd, 1)) ∧ (decode cL_law 1923 = .ok (.iaload, 1)) := by decide +kernel
theorem dL_law_1894 : decode cL_law 1894 = .ok (.iadd, 1) := db66.1
theorem dL_law_1895 : decode cL_law 1895 = .ok (.iaload, 1) := db66.2.1
theorem dL_law_1896 : decode cL_law 1896 = .ok (.aload_n 0, 1) := db66.2.2.1
theorem dL_law_1897 : decode cL_law 1897 = .ok (.iload_n 3, 1) := db66.2.2.2.1
theorem dL_law_1898 : decode cL_law 1898 = .ok (.iconst 3, 1) := db66.2.2.2.2.1
theorem dL_law_1899 : decode cL_law 1899 = .ok (.iadd, 1) := db66.2.2.2.2.2.1
theorem dL_law_1900 : decode cL_law 1900 = .ok (.iaload, 1) := db66.2.2.2.2.2.2.1
theorem dL_law_1901 : decode cL_law 1901 = .ok (.invokevirtual 252, 3) := db66.2.2.2.2.2.2.2.1
theorem dL_law_1904 : decode cL_law 1904 = .ok (.pop, 1) := db66.2.2.2.2.2.2.2.2.1
theorem dL_law_1905 : decode cL_law 1905 = .ok (.goto 251, 3) := db66.2.2.2.2.2.2.2.2.2.1
theorem dL_law_1908 : decode cL_law 1908 = .ok (.aload_n 1, 1) := db66.2.2.2.2.2.2.2.2.2.2.1
theorem dL_law_1909 : decode cL_law 1909 = .ok (.aload_n 0, 1) := db66.2.2.2.2.2.2.2.2.2.2.2.1
theorem dL_law_1910 : decode cL_law 1910 = .ok (.iload_n 3, 1) := db66.2.2.2.2.2.2.2.2.2.2.2.2.1
theorem dL_law_1911 : decode cL_law 1911 = .ok (.iconst 1, 1) := db66.2.2.2.2.2.2.2.2.2.2.2.2.2.1
theorem dL_law_1912 : decode cL_law 1912 = .ok (.iadd, 1) := db66.2.2.2.2.2.2.2.2.2.2.2.2.2.2.1
theorem dL_law_1913 : decode cL_law 1913 = .ok (.iaload, 1) := db66.2.2.2.2.2.2.2.2.2.2.2.2.2.2.2.1
theorem dL_law_1914 : decode cL_law 1914 = .ok (.invokevirtual 253, 3) := db66.2.2.2.2.2.2.2.2.2.2.2.2.2.2.2.2.1
theorem dL_law_1917 : decode cL_law 1917 = .ok (.pop, 1) := db66.2.2.2.2.2.2.2.2.2.2.2.2.2.2.2.2.2.1
theorem dL_law_1918 : decode cL_law 1918 = .ok (.aload_n 2, 1) := db66.2.2.2.2.2.2.2.2.2.2.2.2.2.2.2.2.2.2.1
theorem dL_law_1919 : decode cL_law 1919 = .ok (.aload_n 0, 1) := db66.2.2.2.2.2.2.2.2.2.2.2.2.2.2.2.2.2.2.2.1
theorem dL_law_1920 : decode cL_law 1920 = .ok (.iload_n 3, 1) := db66.2.2.2.2.2.2.2.2.2.2.2.2.2.2.2.2.2.2.2.2.1
theorem dL_law_1921 : decode cL_law 1921 = .ok (.iconst 1, 1) := db66.2.2.2.2.2.2.2.2.2.2.2.2.2.2.2.2.2.2.2.2.2.1
theorem dL_law_1922 : decode cL_law 1922 = .ok (.iadd, 1) := db66.2.2.2.2.2.2.2.2.2.2.2.2.2.2.2.2.2.2.2.2.2.2.1
theorem dL_law_1923 : decode cL_law 1923 = .ok (.iaload, 1) := db66.2.2.2.2.2.2.2.2.2.2.2.2.2.2.2.2.2.2.2.2.2.2.2
theorem db67 : (decode cL_law 1924 = .ok (.invokevirtual 256, 3)) ∧ (decode cL_law 1927 = .ok (.pop, 1)) ∧ (decode cL_law 1928 = .ok (.goto 228, 3)) ∧ (decode cL_law 1931 = .ok (.aload_n 1, 1)) ∧ (decode cL_law 1932 = .ok (.aload_n 0, 1)) ∧ (decode cL_law 1933 = .ok (.iload_n 3, 1)) ∧ (decode cL_law 1934 = .ok (.iconst 1, 1)) ∧ (decode cL_law 1935 = .ok (.iadd, 1)) ∧ (decode cL_law 1936 = .ok (.iaload, 1)) ∧ (decode cL_law 1937 = .ok (.invokevirtual 257, 3)) ∧ (decode cL_law 1940 = .ok (.aload_n 2, 1)) ∧ (decode cL_law 1941 = .ok (.aload_n 0, 1)) ∧ (decode cL_law 1942 = .ok (.iload_n 3, 1)) ∧ (decode cL_law 1943 = .ok (.iconst 1, 1)) ∧ (decode cL_law 1944 = .ok (.iadd, 1)) ∧ (decode cL_law 1945 = .ok (.iaload, 1)) ∧ (decode cL_law 1946 = .ok (.invokevirtual 260, 3)) ∧ (decode cL_law 1949 = .ok (.if_icmp .eq 207, 3)) ∧ (decode cL_law 1954 = .ok (.aload_n 1, 1)) ∧ (decode cL_law 1955 = .ok (.aload_n 0, 1)) ∧ (decode cL_law 1956 = .ok (.iload_n 3, 1)) ∧ (decode cL_law 1957 = .ok (.iconst 1, 1)) ∧ (decode cL_law 1958 = .ok (.iadd, 1)) ∧ (decode cL_law 1959 = .ok (.iaload, 1)) := by decide +kernel
theorem dL_law_1924 : decode cL_law 1924 = .ok (.invokevirtual 256, 3) := db67.1
theorem dL_law_1927 : decode cL_law 1927 = .ok (.pop, 1) := db67.2.1
theorem dL_law_1928 : decode cL_law 1928 = .ok (.goto 228, 3) := db67.2.2.1
theorem dL_law_1931 : decode cL_law 1931 = .ok (.aload_n 1, 1) := db67.2.2.2.1
theorem dL_law_1932 : decode cL_law 1932 = .ok (.aload_n 0, 1) := db67.2.2.2.2.1
theorem dL_law_1933 : decode cL_law 1933 = .ok (.iload_n 3, 1) := db67.2.2.2.2.2.1
theorem dL_law_1934 : decode cL_law 1934 = .ok (.iconst 1, 1) := db67.2.2.2.2.2.2.1
theorem dL_law_1935 : decode cL_law 1935 = .ok (.iadd, 1) := db67.2.2.2.2.2.2.2.1
theorem dL_law_1936 : decode cL_law 1936 = .ok (.iaload, 1) := db67.2.2.2.2.2.2.2.2.1
theorem dL_law_1937 : decode cL_law 1937 = .ok (.invokevirtual 257, 3) := db67.2.2.2.2.2.2.2.2.2.1
theorem dL_law_1940 : decode cL_law 1940 = .ok (.aload_n 2, 1) := db67.2.2.2.2.2.2.2.2.2.2.1
theorem dL_law_1941 : decode cL_law 1941 = .ok (.aload_n 0, 1) := db67.2.2.2.2.2.2.2.2.2.2.2.1
theorem dL_law_1942 : decode cL_law 1942 = .ok (.iload_n 3, 1) := db67.2.2.2.2.2.2.2.2.2.2.2.2.1
theorem dL_law_1943 : decode cL_law 1943 = .ok (.iconst 1, 1) := db67.2.2.2.2.2.2.2.2.2.2.2.2.2.1
theorem dL_law_1944 : decode cL_law 1944 = .ok (.iadd, 1) := db67.2.2.2.2.2.2.2.2.2.2.2.2.2.2.1
theorem dL_law_1945 : decode cL_law 1945 = .ok (.iaload, 1) := db67.2.2.2.2.2.2.2.2.2.2.2.2.2.2.2.1
theorem dL_law_1946 : decode cL_law 1946 = .ok (.invokevirtual 260, 3) := db67.2.2.2.2.2.2.2.2.2.2.2.2.2.2.2.2.1
theorem dL_law_1949 : decode cL_law 1949 = .ok (.if_icmp .eq 207, 3) := db67.2.2.2.2.2.2.2.2.2.2.2.2.2.2.2.2.2.1
theorem dL_law_1954 : decode cL_law 1954 = .ok (.aload_n 1, 1) := db67.2.2.2.2.2.2.2.2.2.2.2.2.2.2.2.2.2.2.1
theorem dL_law_1955 : decode cL_law 1955 = .ok (.aload_n 0, 1) := db67.2.2.2.2.2.2.2.2.2.2.2.2.2.2.2.2.2.2.2.1
theorem dL_law_1956 : decode cL_law 1956 = .ok (.iload_n 3, 1) := db67.2.2.2.2.2.2.2.2.2.2.2.2.2.2.2.2.2.2.2.2.1
theorem dL_law_1957 : decode cL_law 1957 = .ok (.iconst 1, 1) := db67.2.2.2.2.2.2.2.2.2.2.2.2.2.2.2.2.2.2.2.2.2.1
theorem dL_law_1958 : decode cL_law 1958 = .ok (.iadd, 1) := db67.2.2.2.2.2.2.2.2.2.2.2.2.2.2.2.2.2.2.2.2.2.2.1
theorem dL_law_1959 : decode cL_law 1959 = .ok (.iaload, 1) := db67.2.2.2.2.2.2.2.2.2.2.2.2.2.2.2.2.2.2.2.2.2.2.2
theorem db68 : (decode cL_law 1960 = .ok (.invokevirtual 261, 3)) ∧ (decode cL_law 1963 = .ok (.pop, 1)) ∧ (decode cL_law 1964 = .ok (.aload_n 2, 1)) ∧ (decode cL_law 1965 = .ok (.aload_n 0, 1)) ∧ (decode cL_law 1966 = .ok (.iload_n 3, 1)) ∧ (decode cL_law 1967 = .ok (.iconst 1, 1)) ∧ (decode cL_law 1968 = .ok (.iadd, 1)) ∧ (decode cL_law 1969 = .ok (.iaload, 1)) ∧ (decode cL_law 1970 = .ok (.invokevirtual 264, 3)) ∧ (decode cL_law 1973 = .ok (.pop, 1)) ∧ (decode cL_law 1974 = .ok (.goto 182, 3)) ∧ (decode cL_law 1977 = .ok (.aload_n 1, 1)) ∧ (decode cL_law 1978 = .ok (.aload_n 0, 1)) ∧ (decode cL_law 1979 = .ok (.iload_n 3, 1)) ∧ (decode cL_law 1980 = .ok (.iconst 1, 1)) ∧ (decode cL_law 1981 = .ok (.iadd, 1)) ∧ (decode cL_law 1982 = .ok (.iaload, 1)) ∧ (decode cL_law 1983 = .ok (.aload_n 0, 1)) ∧ (decode cL_law 1984 = .ok (.iload_n 3, 1)) ∧ (decode cL_law 1985 = .ok (.iconst 2, 1)) ∧ (decode cL_law 1986 = .ok (.iadd, 1)) ∧ (decode cL_law 1987 = .ok (.iaload, 1)) ∧ (decode cL_law 1988 = .ok (.aload_n 0, 1)) ∧ (decode cL_law 1989 = .ok (.iload_n 3, 1)) := by decide +kernel
theorem dL_law_1960 : decode cL_law 1960 = .ok (.invokevirtual 261, 3) := db68.1
theorem dL_law_1963 : decode cL_law 1963 = .ok (.pop, 1) := db68.2.1
theorem dL_law_1964 : decode cL_law 1964 = .ok (.aload_n 2, 1) := db68.2.2.1
theorem dL_law_1965 : decode cL_law 1965 = .ok (.aload_n 0, 1) := db68.2.2.2.1
theorem dL_law_1966 : decode cL_law 1966 = .ok (.iload_n 3, 1) := db68.2.2.2.2.1
theorem dL_law_1967 : decode cL_law 1967 = .ok (.iconst 1, 1) := db68.2.2.2.2.2.1
theorem dL_law_1968 : decode cL_law 1968 = .ok (.iadd, 1) := db68.2.2.2.2.2.2.1
theorem dL_law_1969 : decode cL_law 1969 = .ok (.iaload, 1) := db68.2.2.2.2.2.2.2.1
theorem dL_law_1970 : decode cL_law 1970 = .ok (.invokevirtual 264, 3) := db68.2.2.2.2.2.2.2.2.1
theorem dL_law_1973 : decode cL_law 1973 = .ok (.pop, 1) := db68.2.2.2.2.2.2.2.2.2.1
theorem dL_law_1974 : decode cL_law 1974 = .ok (.goto 182, 3) := db68.2.2.2.2.2.2.2.2.2.2.1
theorem dL_law_1977 : decode cL_law 1977 = .ok (.aload_n 1, 1) := db68.2.2.2.2.2.2.2.2.2.2.2.1
theorem dL_law_1978 : decode cL_law 1978 = .ok (.aload_n 0, 1) := db68.2.2.2.2.2.2.2.2.2.2.2.2.1
theorem dL_law_1979 : decode cL_law 1979 = .ok (.iload_n 3, 1) := db68.2.2.2.2.2.2.2.2.2.2.2.2.2.1
theorem dL_law_1980 : decode cL_law 1980 = .ok (.iconst 1, 1) := db68.2.2.2.2.2.2.2.2.2.2.2.2.2.2.1
theorem dL_law_1981 : decode cL_law 1981 = .ok (.iadd, 1) := db68.2.2.2.2.2.2.2.2.2.2.2.2.2.2.2.1
theorem dL_law_1982 : decode cL_law 1982 = .ok (.iaload, 1) := db68.2.2.2.2.2.2.2.2.2.2.2.2.2.2.2.2.1
theorem dL_law_1983 : decode cL_law 1983 = .ok (.aload_n 0, 1) := db68.2.2.2.2.2.2.2.2.2.2.2.2.2.2.2.2.2.1
theorem dL_law_1984 : decode cL_law 1984 = .ok (.iload_n 3, 1) := db68.2.2.2.2.2.2.2.2.2.2.2.2.2.2.2.2.2.2.1
theorem dL_law_1985 : decode cL_law 1985 = .ok (.iconst 2, 1) := db68.2.2.2.2.2.2.2.2.2.2.2.2.2.2.2.2.2.2.2.1
theorem dL_law_1986 : decode cL_law 1986 = .ok (.iadd, 1) := db68.2.2.2.2.2.2.2.2.2.2.2.2.2.2.2.2.2.2.2.2.1
theorem dL_law_1987 : decode cL_law 1987 = .ok (.iaload, 1) := db68.2.2.2.2.2.2.2.2.2.2.2.2.2.2.2.2.2.2.2.2.2.1
theorem dL_law_1988 : decode cL_law 1988 = .ok (.aload_n 0, 1) := db68.2.2.2.2.2.2.2.2.2.2.2.2.2.2.2.2.2.2.2.2.2.2.1
theorem dL_law_1989 : decode cL_law 1989 = .ok (.iload_n 3, 1) := db68.2.2.2.2.2.2.2.2.2.2.2.2.2.2.2.2.2.2.2.2.2.2.2
theorem db69 : (decode cL_law 1990 = .ok (.iconst 3, 1)) ∧ (decode cL_law 1991 = .ok (.iadd, 1)) ∧ (decode cL_law 1992 = .ok (.iaload, 1)) ∧ (decode cL_law 1993 = .ok (.invokevirtual 265, 3)) ∧ (decode cL_law 1996 = .ok (.pop, 1)) ∧ (decode cL_law 1997 = .ok (.aload_n 2, 1)) ∧ (decode cL_law 1998 = .ok (.aload_n 0, 1)) ∧ (decode cL_law 1999 = .ok (.iload_n 3, 1)) ∧ (decode cL_law 2000 = .ok (.iconst 1, 1)) ∧ (decode cL_law 2001 = .ok (.iadd, 1)) ∧ (decode cL_law 2002 = .ok (.iaload, 1)) ∧ (decode cL_law 2003 = .ok (.aload_n 0, 1)) ∧ (decode cL_law 2004 = .ok (.iload_n 3, 1)) ∧ (decode cL_law 2005 = .ok (.iconst 2, 1)) ∧ (decode cL_law 2006 = .ok (.iadd, 1)) ∧ (decode cL_law 2007 = .ok (.iaload, 1)) ∧ (decode cL_law 2008 = .ok (.aload_n 0, 1)) ∧ (decode cL_law 2009 = .ok (.iload_n 3, 1)) ∧ (decode cL_law 2010 = .ok (.iconst 3, 1)) ∧ (decode cL_law 2011 = .ok (.iadd, 1)) ∧ (decode cL_law 2012 = .ok (.iaload, 1)) ∧ (decode cL_law 2013 = .ok (.invokevirtual 268, 3)) ∧ (decode cL_law 2016 = .ok (.pop, 1)) ∧ (decode cL_law 2017 = .ok (.goto 139, 3)) := by decide +kernel
theorem dL_law_1990 : decode cL_law 1990 = .ok (.iconst 3, 1) := db69.1
theorem dL_law_1991 : decode cL_law 1991 = .ok (.iadd, 1) := db69.2.1
theorem dL_law_1992 : decode cL_law 1992 = .ok (.iaload, 1) := db69.2.2.1
theorem dL_law_1993 : decode cL_law 1993 = .ok (.invokevirtual 265, 3) := db69.2.2.2.1
theorem dL_law_1996 : decode cL_law 1996 = .ok (.pop, 1) := db69.2.2.2.2.1
theorem dL_law_1997 : decode cL_law 1997 = .ok (.aload_n 2, 1) := db69.2.2.2.2.2.1
theorem dL_law_1998 : decode cL_law 1998 = .ok (.aload_n 0, 1) := db69.2.2.2.2.2.2.1
theorem dL_law_1999 : decode cL_law 1999 = .ok (.iload_n 3, 1) := db69.2.2.2.2.2.2.2.1
theorem dL_law_2000 : decode cL_law 2000 = .ok (.iconst 1, 1) := db69.2.2.2.2.2.2.2.2.1
theorem dL_law_2001 : decode cL_law 2001 = .ok (.iadd, 1) := db69.2.2.2.2.2.2.2.2.2.1
theorem dL_law_2002 : decode cL_law 2002 = .ok (.iaload, 1) := db69.2.2.2.2.2.2.2.2.2.2.1
theorem dL_law_2003 : decode cL_law 2003 = .ok (.aload_n 0, 1) := db69.2.2.2.2.2.2.2.2.2.2.2.1
theorem dL_law_2004 : decode cL_law 2004 = .ok (.iload_n 3, 1) := db69.2.2.2.2.2.2.2.2.2.2.2.2.1
theorem dL_law_2005 : decode cL_law 2005 = .ok (.iconst 2, 1) := db69.2.2.2.2.2.2.2.2.2.2.2.2.2.1
theorem dL_law_2006 : decode cL_law 2006 = .ok (.iadd, 1) := db69.2.2.2.2.2.2.2.2.2.2.2.2.2.2.1
theorem dL_law_2007 : decode cL_law 2007 = .ok (.iaload, 1) := db69.2.2.2.2.2.2.2.2.2.2.2.2.2.2.2.1
theorem dL_law_2008 : decode cL_law 2008 = .ok (.aload_n 0, 1) := db69.2.2.2.2.2.2.2.2.2.2.2.2.2.2.2.2.1
theorem dL_law_2009 : decode cL_law 2009 = .ok (.iload_n 3, 1) := db69.2.2.2.2.2.2.2.2.2.2.2.2.2.2.2.2.2.1
theorem dL_law_2010 : decode cL_law 2010 = .ok (.iconst 3, 1) := db69.2.2.2.2.2.2.2.2.2.2.2.2.2.2.2.2.2.2.1
theorem dL_law_2011 : decode cL_law 2011 = .ok (.iadd, 1) := db69.2.2.2.2.2.2.2.2.2.2.2.2.2.2.2.2.2.2.2.1
theorem dL_law_2012 : decode cL_law 2012 = .ok (.iaload, 1) := db69.2.2.2.2.2.2.2.2.2.2.2.2.2.2.2.2.2.2.2.2.1
theorem dL_law_2013 : decode cL_law 2013 = .ok (.invokevirtual 268, 3) := db69.2.2.2.2.2.2.2.2.2.2.2.2.2.2.2.2.2.2.2.2.2.1
theorem dL_law_2016 : decode cL_law 2016 = .ok (.pop, 1) := db69.2.2.2.2.2.2.2.2.2.2.2.2.2.2.2.2.2.2.2.2.2.2.1
theorem dL_law_2017 : decode cL_law 2017 = .ok (.goto 139, 3) := db69.2.2.2.2.2.2.2.2.2.2.2.2.2.2.2.2.2.2.2.2.2.2.2
theorem db70 : (decode cL_law 2020 = .ok (.aload_n 1, 1)) ∧ (decode cL_law 2021 = .ok (.aload_n 0, 1)) ∧ (decode cL_law 2022 = .ok (.iload_n 3, 1)) ∧ (decode cL_law 2023 = .ok (.iconst 1, 1)) ∧ (decode cL_law 2024 = .ok (.iadd, 1)) ∧ (decode cL_law 2025 = .ok (.iaload, 1)) ∧ (decode cL_law 2026 = .ok (.aload_n 0, 1)) ∧ (decode cL_law 2027 = .ok (.iload_n 3, 1)) ∧ (decode cL_law 2028 = .ok (.iconst 2, 1)) ∧ (decode cL_law 2029 = .ok (.iadd, 1)) ∧ (decode cL_law 2030 = .ok (.iaload, 1)) ∧ (decode cL_law 2031 = .ok (.aload_n 0, 1)) ∧ (decode cL_law 2032 = .ok (.iload_n 3, 1)) ∧ (decode cL_law 2033 = .ok (.iconst 3, 1)) ∧ (decode cL_law 2034 = .ok (.iadd, 1)) ∧ (decode cL_law 2035 = .ok (.iaload, 1)) ∧ (decode cL_law 2036 = .ok (.i2l, 1)) ∧ (decode cL_law 2037 = .ok (.bipush 32, 2)) ∧ (decode cL_law 2039 = .ok (.lshl, 1)) ∧ (decode cL_law 2040 = .ok (.aload_n 0, 1)) ∧ (decode cL_law 2041 = .ok (.iload_n 3, 1)) ∧ (decode cL_law 2042 = .ok (.iconst 4, 1)) ∧ (decode cL_law 2043 = .ok (.iadd, 1)) ∧ (decode cL_law 2044 = .ok (.iaload, 1)) := by decide +kernel
theorem dL_law_2020 : decode cL_law 2020 = .ok (.aload_n 1, 1) := db70.1
theorem dL_law_2021 : decode cL_law 2021 = .ok (.aload_n 0, 1) := db70.2.1
theorem dL_law_2022 : decode cL_law 2022 = .ok (.iload_n 3, 1) := db70.2.2.1
theorem dL_law_2023 : decode cL_law 2023 = .ok (.iconst 1, 1) := db70.2.2.2.1
theorem dL_law_2024 : decode cL_law 2024 = .ok (.iadd, 1) := db70.2.2.2.2.1
theorem dL_law_2025 : decode cL_law 2025 = .ok (.iaload, 1) := db70.2.2.2.2.2.1
theorem dL_law_2026 : decode cL_law 2026 = .ok (.aload_n 0, 1) := db70.2.2.2.2.2.2.1
theorem dL_law_2027 : decode cL_law 2027 = .ok (.iload_n 3, 1) := db70.2.2.2.2.2.2.2.1
theorem dL_law_2028 : decode cL_law 2028 = .ok (.iconst 2, 1) := db70.2.2.2.2.2.2.2.2.1
theorem dL_law_2029 : decode cL_law 2029 = .ok (.iadd, 1) := db70.2.2.2.2.2.2.2.2.2.1
theorem dL_law_2030 : decode cL_law 2030 = .ok (.iaload, 1) := db70.2.2.2.2.2.2.2.2.2.2.1
theorem dL_law_2031 : decode cL_law 2031 = .ok (.aload_n 0, 1) := db70.2.2.2.2.2.2.2.2.2.2.2.1
theorem dL_law_2032 : decode cL_law 2032 = .ok (.iload_n 3, 1) := db70.2.2.2.2.2.2.2.2.2.2.2.2.1
theorem dL_law_2033 : decode cL_law 2033 = .ok (.iconst 3, 1) := db70.2.2.2.2.2.2.2.2.2.2.2.2.2.1
theorem dL_law_2034 : decode cL_law 2034 = .ok (.iadd, 1) := db70.2.2.2.2.2.2.2.2.2.2.2.2.2.2.1
theorem dL_law_2035 : decode cL_law 2035 = .ok (.iaload, 1) := db70.2.2.2.2.2.2.2.2.2.2.2.2.2.2.2.1
theorem dL_law_2036 : decode cL_law 2036 = .ok (.i2l, 1) := db70.2.2.2.2.2.2.2.2.2.2.2.2.2.2.2.2.1
theorem dL_law_2037 : decode cL_law 2037 = .ok (.bipush 32, 2) := db70.2.2.2.2.2.2.2.2.2.2.2.2.2.2.2.2.2.1
theorem dL_law_2039 : decode cL_law 2039 = .ok (.lshl, 1) := db70.2.2.2.2.2.2.2.2.2.2.2.2.2.2.2.2.2.2.1
theorem dL_law_2040 : decode cL_law 2040 = .ok (.aload_n 0, 1) := db70.2.2.2.2.2.2.2.2.2.2.2.2.2.2.2.2.2.2.2.1
theorem dL_law_2041 : decode cL_law 2041 = .ok (.iload_n 3, 1) := db70.2.2.2.2.2.2.2.2.2.2.2.2.2.2.2.2.2.2.2.2.1
theorem dL_law_2042 : decode cL_law 2042 = .ok (.iconst 4, 1) := db70.2.2.2.2.2.2.2.2.2.2.2.2.2.2.2.2.2.2.2.2.2.1
theorem dL_law_2043 : decode cL_law 2043 = .ok (.iadd, 1) := db70.2.2.2.2.2.2.2.2.2.2.2.2.2.2.2.2.2.2.2.2.2.2.1
theorem dL_law_2044 : decode cL_law 2044 = .ok (.iaload, 1) := db70.2.2.2.2.2.2.2.2.2.2.2.2.2.2.2.2.2.2.2.2.2.2.2
theorem db71 : (decode cL_law 2045 = .ok (.i2l, 1)) ∧ (decode cL_law 2046 = .ok (.ldc2_w 269, 3)) ∧ (decode cL_law 2049 = .ok (.land, 1)) ∧ (decode cL_law 2050 = .ok (.lor, 1)) ∧ (decode cL_law 2051 = .ok (.invokevirtual 271, 3)) ∧ (decode cL_law 2054 = .ok (.pop, 1)) ∧ (decode cL_law 2055 = .ok (.aload_n 2, 1)) ∧ (decode cL_law 2056 = .ok (.aload_n 0, 1)) ∧ (decode cL_law 2057 = .ok (.iload_n 3, 1)) ∧ (decode cL_law 2058 = .ok (.iconst 1, 1)) ∧ (decode cL_law 2059 = .ok (.iadd, 1)) ∧ (decode cL_law 2060 = .ok (.iaload, 1)) ∧ (decode cL_law 2061 = .ok (.aload_n 0, 1)) ∧ (decode cL_law 2062 = .ok (.iload_n 3, 1)) ∧ (decode cL_law 2063 = .ok (.iconst 2, 1)) ∧ (decode cL_law 2064 = .ok (.iadd, 1)) ∧ (decode cL_law 2065 = .ok (.iaload, 1)) ∧ (decode cL_law 2066 = .ok (.aload_n 0, 1)) ∧ (decode cL_law 2067 = .ok (.iload_n 3, 1)) ∧ (decode cL_law 2068 = .ok (.iconst 3, 1)) ∧ (decode cL_law 2069 = .ok (.iadd, 1)) ∧ (decode cL_law 2070 = .ok (.iaload, 1)) ∧ (decode cL_law 2071 = .ok (.i2l, 1)) ∧ (decode cL_law 2072 = .ok (.bipush 32, 2)) := by decide +kernel
theorem dL_law_2045 : decode cL_law 2045 = .ok (.i2l, 1) := db71.1
theorem dL_law_2046 : decode cL_law 2046 = .ok (.ldc2_w 269, 3) := db71.2.1
theorem dL_law_2049 : decode cL_law 2049 = .ok (.land, 1) := db71.2.2.1
theorem dL_law_2050 : decode cL_law 2050 = .ok (.lor, 1) := db71.2.2.2.1
theorem dL_law_2051 : decode cL_law 2051 = .ok (.invokevirtual 271, 3) := db71.2.2.2.2.1
theorem dL_law_2054 : decode cL_law 2054 = .ok (.pop, 1) := db71.2.2.2.2.2.1
theorem dL_law_2055 : decode cL_law 2055 = .ok (.aload_n 2, 1) := db71.2.2.2.2.2.2.1
theorem dL_law_2056 : decode cL_law 2056 = .ok (.aload_n 0, 1) := db71.2.2.2.2.2.2.2.1
theorem dL_law_2057 : decode cL_law 2057 = .ok (.iload_n 3, 1) := db71.2.2.2.2.2.2.2.2.1
theorem dL_law_2058 : decode cL_law 2058 = .ok (.iconst 1, 1) := db71.2.2.2.2.2.2.2.2.2.1
theorem dL_law_2059 : decode cL_law 2059 = .ok (.iadd, 1) := db71.2.2.2.2.2.2.2.2.2.2.1
theorem dL_law_2060 : decode cL_law 2060 = .ok (.iaload, 1) := db71.2.2.2.2.2.2.2.2.2.2.2.1
theorem dL_law_2061 : decode cL_law 2061 = .ok (.aload_n 0, 1) := db71.2.2.2.2.2.2.2.2.2.2.2.2.1
theorem dL_law_2062 : decode cL_law 2062 = .ok (.iload_n 3, 1) := db71.2.2.2.2.2.2.2.2.2.2.2.2.2.1
theorem dL_law_2063 : decode cL_law 2063 = .ok (.iconst 2, 1) := db71.2.2.2.2.2.2.2.2.2.2.2.2.2.2.1
theorem dL_law_2064 : decode cL_law 2064 = .ok (.iadd, 1) := db71.2.2.2.2.2.2.2.2.2.2.2.2.2.2.2.1
theorem dL_law_2065 : decode cL_law 2065 = .ok (.iaload, 1) := db71.2.2.2.2.2.2.2.2.2.2.2.2.2.2.2.2.1
theorem dL_law_2066 : decode cL_law 2066 = .ok (.aload_n 0, 1) := db71.2.2.2.2.2.2.2.2.2.2.2.2.2.2.2.2.2.1
theorem dL_law_2067 : decode cL_law 2067 = .ok (.iload_n 3, 1) := db71.2.2.2.2.2.2.2.2.2.2.2.2.2.2.2.2.2.2.1
theorem dL_law_2068 : decode cL_law 2068 = .ok (.iconst 3, 1) := db71.2.2.2.2.2.2.2.2.2.2.2.2.2.2.2.2.2.2.2.1
theorem dL_law_2069 : decode cL_law 2069 = .ok (.iadd, 1) := db71.2.2.2.2.2.2.2.2.2.2.2.2.2.2.2.2.2.2.2.2.1
theorem dL_law_2070 : decode cL_law 2070 = .ok (.iaload, 1) := db71.2.2.2.2.2.2.2.2.2.2.2.2.2.2.2.2.2.2.2.2.2.1
theorem dL_law_2071 : decode cL_law 2071 = .ok (.i2l, 1) := db71.2.2.2.2.2.2.2.2.2.2.2.2.2.2.2.2.2.2.2.2.2.2.1
theorem dL_law_2072 : decode cL_law 2072 = .ok (.bipush 32, 2) := db71.2.2.2.2.2.2.2.2.2.2.2.2.2.2.2.2.2.2.2.2.2.2.2
theorem db72 : (decode cL_law 2074 = .ok (.lshl, 1)) ∧ (decode cL_law 2075 = .ok (.aload_n 0, 1)) ∧ (decode cL_law 2076 = .ok (.iload_n 3, 1)) ∧ (decode cL_law 2077 = .ok (.iconst 4, 1)) ∧ (decode cL_law 2078 = .ok (.iadd, 1)) ∧ (decode cL_law 2079 = .ok (.iaload, 1)) ∧ (decode cL_law 2080 = .ok (.i2l, 1)) ∧ (decode cL_law 2081 = .ok (.ldc2_w 269, 3)) ∧ (decode cL_law 2084 = .ok (.land, 1)) ∧ (decode cL_law 2085 = .ok (.lor, 1)) ∧ (decode cL_law 2086 = .ok (.invokevirtual 275, 3)) ∧ (decode cL_law 2089 = .ok (.pop, 1)) ∧ (decode cL_law 2090 = .ok (.goto 66, 3)) ∧ (decode cL_law 2093 = .ok (.aload_n 1, 1)) ∧ (decode cL_law 2094 = .ok (.aload_n 0, 1)) ∧ (decode cL_law 2095 = .ok (.iload_n 3, 1)) ∧ (decode cL_law 2096 = .ok (.iconst 1, 1)) ∧ (decode cL_law 2097 = .ok (.iadd, 1)) ∧ (decode cL_law 2098 = .ok (.iaload, 1)) ∧ (decode cL_law 2099 = .ok (.aload_n 0, 1)) ∧ (decode cL_law 2100 = .ok (.iload_n 3, 1)) ∧ (decode cL_law 2101 = .ok (.iconst 2, 1)) ∧ (decode cL_law 2102 = .ok (.iadd, 1)) ∧ (decode cL_law 2103 = .ok (.iaload, 1)) := by decide +kernel
theorem dL_law_2074 : decode cL_law 2074 = .ok (.lshl, 1) := db72.1
theorem dL_law_2075 : decode cL_law 2075 = .ok (.aload_n 0, 1) := db72.2.1
theorem dL_law_2076 : decode cL_law 2076 = .ok (.iload_n 3, 1) := db72.2.2.1
theorem dL_law_2077 : decode cL_law 2077 = .ok (.iconst 4, 1) := db72.2.2.2.1
theorem dL_law_2078 : decode cL_law 2078 = .ok (.iadd, 1) := db72.2.2.2.2.1
theorem dL_law_2079 : decode cL_law 2079 = .ok (.iaload, 1) := db72.2.2.2.2.2.1
theorem dL_law_2080 : decode cL_law 2080 = .ok (.i2l, 1) := db72.2.2.2.2.2.2.1
theorem dL_law_2081 : decode cL_law 2081 = .ok (.ldc2_w 269, 3) := db72.2.2.2.2.2.2.2.1
theorem dL_law_2084 : decode cL_law 2084 = .ok (.land, 1) := db72.2.2.2.2.2.2.2.2.1
theorem dL_law_2085 : decode cL_law 2085 = .ok (.lor, 1) := db72.2.2.2.2.2.2.2.2.2.1
theorem dL_law_2086 : decode cL_law 2086 = .ok (.invokevirtual 275, 3) := db72.2.2.2.2.2.2.2.2.2.2.1
theorem dL_law_2089 : decode cL_law 2089 = .ok (.pop, 1) := db72.2.2.2.2.2.2.2.2.2.2.2.1
theorem dL_law_2090 : decode cL_law 2090 = .ok (.goto 66, 3) := db72.2.2.2.2.2.2.2.2.2.2.2.2.1
theorem dL_law_2093 : decode cL_law 2093 = .ok (.aload_n 1, 1) := db72.2.2.2.2.2.2.2.2.2.2.2.2.2.1
theorem dL_law_2094 : decode cL_law 2094 = .ok (.aload_n 0, 1) := db72.2.2.2.2.2.2.2.2.2.2.2.2.2.2.1
theorem dL_law_2095 : decode cL_law 2095 = .ok (.iload_n 3, 1) := db72.2.2.2.2.2.2.2.2.2.2.2.2.2.2.2.1
theorem dL_law_2096 : decode cL_law 2096 = .ok (.iconst 1, 1) := db72.2.2.2.2.2.2.2.2.2.2.2.2.2.2.2.2.1
theorem dL_law_2097 : decode cL_law 2097 = .ok (.iadd, 1) := db72.2.2.2.2.2.2.2.2.2.2.2.2.2.2.2.2.2.1
theorem dL_law_2098 : decode cL_law 2098 = .ok (.iaload, 1) := db72.2.2.2.2.2.2.2.2.2.2.2.2.2.2.2.2.2.2.1
theorem dL_law_2099 : decode cL_law 2099 = .ok (.aload_n 0, 1) := db72.2.2.2.2.2.2.2.2.2.2.2.2.2.2.2.2.2.2.2.1
theorem dL_law_2100 : decode cL_law 2100 = .ok (.iload_n 3, 1) := db72.2.2.2.2.2.2.2.2.2.2.2.2.2.2.2.2.2.2.2.2.1
theorem dL_law_2101 : decode cL_law 2101 = .ok (.iconst 2, 1) := db72.2.2.2.2.2.2.2.2.2.2.2.2.2.2.2.2.2.2.2.2.2.1
theorem dL_law_2102 : decode cL_law 2102 = .ok (.iadd, 1) := db72.2.2.2.2.2.2.2.2.2.2.2.2.2.2.2.2.2.2.2.2.2.2.1
theorem dL_law_2103 : decode cL_law 2103 = .ok (.iaload, 1) := db72.2.2.2.2.2.2.2.2.2.2.2.2.2.2.2.2.2.2.2.2.2.2.2
theorem db73 : (decode cL_law 2104 = .ok (.aload_n 0, 1)) ∧ (decode cL_law 2105 = .ok (.iload_n 3, 1)) ∧ (decode cL_law 2106 = .ok (.iconst 3, 1)) ∧ (decode cL_law 2107 = .ok (.iadd, 1)) ∧ (decode cL_law 2108 = .ok (.iaload, 1)) ∧ (decode cL_law 2109 = .ok (.aload_n 0, 1)) ∧ (decode cL_law 2110 = .ok (.iload_n 3, 1)) ∧ (decode cL_law 2111 = .ok (.iconst 4, 1)) ∧ (decode cL_law 2112 = .ok (.iadd, 1)) ∧ (decode cL_law 2113 = .ok (.iaload, 1)) ∧ (decode cL_law 2114 = .ok (.aload_n 0, 1)) ∧ (decode cL_law 2115 = .ok (.iload_n 3, 1)) ∧ (decode cL_law 2116 = .ok (.iconst 5, 1)) ∧ (decode cL_law 2117 = .ok (.iadd, 1)) ∧ (decode cL_law 2118 = .ok (.iaload, 1)) ∧ (decode cL_law 2119 = .ok (.invokevirtual 276, 3)) ∧ (decode cL_law 2122 = .ok (.pop, 1)) ∧ (decode cL_law 2123 = .ok (.aload_n 2, 1)) ∧ (decode cL_law 2124 = .ok (.aload_n 0, 1)) ∧ (decode cL_law 2125 = .ok (.iload_n 3, 1)) ∧ (decode cL_law 2126 = .ok (.iconst 1, 1)) ∧ (decode cL_law 2127 = .ok (.iadd, 1)) ∧ (decode cL_law 2128 = .ok (.iaload, 1)) ∧ (decode cL_law 2129 = .ok (.aload_n 0, 1)) := by decide +kernel
theorem dL_law_2104 : decode cL_law 2104 = .ok (.aload_n 0, 1) := db73.1
theorem dL_law_2105 : decode cL_law 2105 = .ok (.iload_n 3, 1) := db73.2.1
theorem dL_law_2106 : decode cL_law 2106 = .ok (.iconst 3, 1) := db73.2.2.1
theorem dL_law_2107 : decode cL_law 2107 = .ok (.iadd, 1) := db73.2.2.2.1
theorem dL_law_2108 : decode cL_law 2108 = .ok (.iaload, 1) := db73.2.2.2.2.1
theorem dL_law_2109 : decode cL_law 2109 = .ok (.aload_n 0, 1) := db73.2.2.2.2.2.1
theorem dL_law_2110 : decode cL_law 2110 = .ok (.iload_n 3, 1) := db73.2.2.2.2.2.2.1
theorem dL_law_2111 : decode cL_law 2111 = .ok (.iconst 4, 1) := db73.2.2.2.2.2.2.2.1
theorem dL_law_2112 : decode cL_law 2112 = .ok (.iadd, 1) := db73.2.2.2.2.2.2.2.2.1
theorem dL_law_2113 : decode cL_law 2113 = .ok (.iaload, 1) := db73.2.2.2.2.2.2.2.2.2.1
theorem dL_law_2114 : decode cL_law 2114 = .ok (.aload_n 0, 1) := db73.2.2.2.2.2.2.2.2.2.2.1
theorem dL_law_2115 : decode cL_law 2115 = .ok (.iload_n 3, 1) := db73.2.2.2.2.2.2.2.2.2.2.2.1
theorem dL_law_2116 : decode cL_law 2116 = .ok (.iconst 5, 1) := db73.2.2.2.2.2.2.2.2.2.2.2.2.1
theorem dL_law_2117 : decode cL_law 2117 = .ok (.iadd, 1) := db73.2.2.2.2.2.2.2.2.2.2.2.2.2.1
theorem dL_law_2118 : decode cL_law 2118 = .ok (.iaload, 1) := db73.2.2.2.2.2.2.2.2.2.2.2.2.2.2.1
theorem dL_law_2119 : decode cL_law 2119 = .ok (.invokevirtual 276, 3) := db73.2.2.2.2.2.2.2.2.2.2.2.2.2.2.2.1
theorem dL_law_2122 : decode cL_law 2122 = .ok (.pop, 1) := db73.2.2.2.2.2.2.2.2.2.2.2.2.2.2.2.2.1
theorem dL_law_2123 : decode cL_law 2123 = .ok (.aload_n 2, 1) := db73.2.2.2.2.2.2.2.2.2.2.2.2.2.2.2.2.2.1
theorem dL_law_2124 : decode cL_law 2124 = .ok (.aload_n 0, 1) := db73.2.2.2.2.2.2.2.2.2.2.2.2.2.2.2.2.2.2.1
theorem dL_law_2125 : decode cL_law 2125 = .ok (.iload_n 3, 1) := db73.2.2.2.2.2.2.2.2.2.2.2.2.2.2.2.2.2.2.2.1
theorem dL_law_2126 : decode cL_law 2126 = .ok (.iconst 1, 1) := db73.2.2.2.2.2.2.2.2.2.2.2.2.2.2.2.2.2.2.2.2.1
theorem dL_law_2127 : decode cL_law 2127 = .ok (.iadd, 1) := db73.2.2.2.2.2.2.2.2.2.2.2.2.2.2.2.2.2.2.2.2.2.1
theorem dL_law_2128 : decode cL_law 2128 = .ok (.iaload, 1) := db73.2.2.2.2.2.2.2.2.2.2.2.2.2.2.2.2.2.2.2.2.2.2.1
theorem dL_law_2129 : decode cL_law 2129 = .ok (.aload_n 0, 1) := db73.2.2.2.2.2.2.2.2.2.2.2.2.2.2.2.2.2.2.2.2.2.2.2
theorem db74 : (decode cL_law 2130 = .ok (.iload_n 3, 1)) ∧ (decode cL_law 2131 = .ok (.iconst 2, 1)) ∧ (decode cL_law 2132 = .ok (.iadd, 1)) ∧ (decode cL_law 2133 = .ok (.iaload, 1)) ∧ (decode cL_law 2134 = .ok (.aload_n 0, 1)) ∧ (decode cL_law 2135 = .ok (.iload_n 3, 1)) ∧ (decode cL_law 2136 = .ok (.iconst 3, 1)) ∧ (decode cL_law 2137 = .ok (.iadd, 1)) ∧ (decode cL_law 2138 = .ok (.iaload, 1)) ∧ (decode cL_law 2139 = .ok (.aload_n 0, 1)) ∧ (decode cL_law 2140 = .ok (.iload_n 3, 1)) ∧ (decode cL_law 2141 = .ok (.iconst 4, 1)) ∧ (decode cL_law 2142 = .ok (.iadd, 1)) ∧ (decode cL_law 2143 = .ok (.iaload, 1)) ∧ (decode cL_law 2144 = .ok (.aload_n 0, 1)) ∧ (decode cL_law 2145 = .ok (.iload_n 3, 1)) ∧ (decode cL_law 2146 = .ok (.iconst 5, 1)) ∧ (decode cL_law 2147 = .ok (.iadd, 1)) ∧ (decode cL_law 2148 = .ok (.iaload, 1)) ∧ (decode cL_law 2149 = .ok (.invokevirtual 279, 3)) ∧ (decode cL_law 2152 = .ok (.pop, 1)) ∧ (decode cL_law 2153 = .ok (.goto 3, 3)) ∧ (decode cL_law 0 = .ok (.new 7, 3)) ∧ (decode cL_law 3 = .ok (.dup, 1)) := by decide +kernel
theorem dL_law_2130 : decode cL_law 2130 = .ok (.iload_n 3, 1) := db74.1
theorem dL_law_2131 : decode cL_law 2131 = .ok (.iconst 2, 1) := db74.2.1
theorem dL_law_2132 : decode cL_law 2132 = .ok (.iadd, 1) := db74.2.2.1
theorem dL_law_2133 : decode cL_law 2133 = .ok (.iaload, 1) := db74.2.2.2.1
theorem dL_law_2134 : decode cL_law 2134 = .ok (.aload_n 0, 1) := db74.2.2.2.2.1
theorem dL_law_2135 : decode cL_law 2135 = .ok (.iload_n 3, 1) := db74.2.2.2.2.2.1
theorem dL_law_2136 : decode cL_law 2136 = .ok (.iconst 3, 1) := db74.2.2.2.2.2.2.1
theorem dL_law_2137 : decode cL_law 2137 = .ok (.iadd, 1) := db74.2.2.2.2.2.2.2.1
theorem dL_law_2138 : decode cL_law 2138 = .ok (.iaload, 1) := db74.2.2.2.2.2.2.2.2.1
theorem dL_law_2139 : decode cL_law 2139 = .ok (.aload_n 0, 1) := db74.2.2.2.2.2.2.2.2.2.1
theorem dL_law_2140 : decode cL_law 2140 = .ok (.iload_n 3, 1) := db74.2.2.2.2.2.2.2.2.2.2.1
theorem dL_law_2141 : decode cL_law 2141 = .ok (.iconst 4, 1) := db74.2.2.2.2.2.2.2.2.2.2.2.1
theorem dL_law_2142 : decode cL_law 2142 = .ok (.iadd, 1) := db74.2.2.2.2.2.2.2.2.2.2.2.2.1
theorem dL_law_2143 : decode cL_law 2143 = .ok (.iaload, 1) := db74.2.2.2.2.2.2.2.2.2.2.2.2.2.1
theorem dL_law_2144 : decode cL_law 2144 = .ok (.aload_n 0, 1) := db74.2.2.2.2.2.2.2.2.2.2.2.2.2.2.1
theorem dL_law_2145 : decode cL_law 2145 = .ok (.iload_n 3, 1) := db74.2.2.2.2.2.2.2.2.2.2.2.2.2.2.2.1
theorem dL_law_2146 : decode cL_law 2146 = .ok (.iconst 5, 1) := db74.2.2.2.2.2.2.2.2.2.2.2.2.2.2.2.2.1
theorem dL_law_2147 : decode cL_law 2147 = .ok (.iadd, 1) := db74.2.2.2.2.2.2.2.2.2.2.2.2.2.2.2.2.2.1
theorem dL_law_2148 : decode cL_law 2148 = .ok (.iaload, 1) := db74.2.2.2.2.2.2.2.2.2.2.2.2.2.2.2.2.2.2.1
theorem dL_law_2149 : decode cL_law 2149 = .ok (.invokevirtual 279, 3) := db74.2.2.2.2.2.2.2.2.2.2.2.2.2.2.2.2.2.2.2.1
theorem dL_law_2152 : decode cL_law 2152 = .ok (.pop, 1) := db74.2.2.2.2.2.2.2.2.2.2.2.2.2.2.2.2.2.2.2.2.1
theorem dL_law_2153 : decode cL_law 2153 = .ok (.goto 3, 3) := db74.2.2.2.2.2.2.2.2.2.2.2.2.2.2.2.2.2.2.2.2.2.1
theorem dL_law_0 : decode cL_law 0 = .ok (.new 7, 3) := db74.2.2.2.2.2.2.2.2.2.2.2.2.2.2.2.2.2.2.2.2.2.2.1
theorem dL_law_3 : decode cL_law 3 = .ok (.dup, 1) := db74.2.2.2.2.2.2.2.2.2.2.2.2.2.2.2.2.2.2.2.2.2.2.2
theorem db75 : (decode cL_law 4 = .ok (.invokespecial 9, 3)) ∧ (decode cL_law 7 = .ok (.astore_n 1, 1)) ∧ (decode cL_law 8 = .ok (.new 10, 3)) ∧ (decode cL_law 11 = .ok (.dup, 1)) ∧ (decode cL_law 12 = .ok (.invokespecial 12, 3)) ∧ (decode cL_law 15 = .ok (.astore_n 2, 1)) ∧ (decode cL_law 16 = .ok (.iconst 0, 1)) ∧ (decode cL_law 17 = .ok (.istore_n 3, 1)) ∧ (decode cL_law 18 = .ok (.iload_n 3, 1)) ∧ (decode cL_law 19 = .ok (.aload_n 0, 1)) ∧ (decode cL_law 20 = .ok (.arraylength, 1)) ∧ (decode cL_law 21 = .ok (.bipush 6, 2)) ∧ (decode cL_law 23 = .ok (.isub, 1)) ∧ (decode cL_law 24 = .ok (.if_icmp .gt 2138, 3)) ∧ (decode cL_law 2162 = .ok (.iconst 1, 1)) ∧ (decode cL_law 2163 = .ok (.ireturn, 1)) ∧ (decode cL_law 27 = .ok (.aload_n 0, 1)) ∧ (decode cL_law 28 = .ok (.iload_n 3, 1)) ∧ (decode cL_law 29 = .ok (.iaload, 1)) ∧ (decode cL_law 30 = .ok (.bipush 63, 2)) ∧ (decode cL_law 32 = .ok (.iand, 1)) ∧ (decode cL_law 2159 = .ok (.goto (-2141), 3)) := by decide +kernel
theorem dL_law_4 : decode cL_law 4 = .ok (.invokespecial 9, 3) := db75.1
theorem dL_law_7 : decode cL_law 7 = .ok (.astore_n 1, 1) := db75.2.1
theorem dL_law_8 : decode cL_law 8 = .ok (.new 10, 3) := db75.2.2.1
theorem dL_law_11 : decode cL_law 11 = .ok (.dup, 1) := db75.2.2.2.1
theorem dL_law_12 : decode cL_law 12 = .ok (.invokespecial 12, 3) := db75.2.2.2.2.1
theorem dL_law_15 : decode cL_law 15 = .ok (.astore_n 2, 1) := db75.2.2.2.2.2.1
theorem dL_law_16 : decode cL_law 16 = .ok (.iconst 0, 1) := db75.2.2.2.2.2.2.1
theorem dL_law_17 : decode cL_law 17 = .ok (.istore_n 3, 1) := db75.2.2.2.2.2.2.2.1
theorem dL_law_18 : decode cL_law 18 = .ok (.iload_n 3, 1) := db75.2.2.2.2.2.2.2.2.1
theorem dL_law_19 : decode cL_law 19 = .ok (.aload_n 0, 1) := db75.2.2.2.2.2.2.2.2.2.1
theorem dL_law_20 : decode cL_law 20 = .ok (.arraylength, 1) := db75.2.2.2.2.2.2.2.2.2.2.1
theorem dL_law_21 : decode cL_law 21 = .ok (.bipush 6, 2) := db75.2.2.2.2.2.2.2.2.2.2.2.1
theorem dL_law_23 : decode cL_law 23 = .ok (.isub, 1) := db75.2.2.2.2.2.2.2.2.2.2.2.2.1
theorem dL_law_24 : decode cL_law 24 = .ok (.if_icmp .gt 2138, 3) := db75.2.2.2.2.2.2.2.2.2.2.2.2.2.1
theorem dL_law_2162 : decode cL_law 2162 = .ok (.iconst 1, 1) := db75.2.2.2.2.2.2.2.2.2.2.2.2.2.2.1
theorem dL_law_2163 : decode cL_law 2163 = .ok (.ireturn, 1) := db75.2.2.2.2.2.2.2.2.2.2.2.2.2.2.2.1
theorem dL_law_27 : decode cL_law 27 = .ok (.aload_n 0, 1) := db75.2.2.2.2.2.2.2.2.2.2.2.2.2.2.2.2.1
theorem dL_law_28 : decode cL_law 28 = .ok (.iload_n 3, 1) := db75.2.2.2.2.2.2.2.2.2.2.2.2.2.2.2.2.2.1
theorem dL_law_29 : decode cL_law 29 = .ok (.iaload, 1) := db75.2.2.2.2.2.2.2.2.2.2.2.2.2.2.2.2.2.2.1
theorem dL_law_30 : decode cL_law 30 = .ok (.bipush 63, 2) := db75.2.2.2.2.2.2.2.2.2.2.2.2.2.2.2.2.2.2.2.1
theorem dL_law_32 : decode cL_law 32 = .ok (.iand, 1) := db75.2.2.2.2.2.2.2.2.2.2.2.2.2.2.2.2.2.2.2.2.1
theorem dL_law_2159 : decode cL_law 2159 = .ok (.goto (-2141), 3) := db75.2.2.2.2.2.2.2.2.2.2.2.2.2.2.2.2.2.2.2.2.2
theorem db76 : (decode cX0_bestStart 0 = .ok (.aload_n 0, 1)) ∧ (decode cX0_bestStart 1 = .ok (.getfield 11, 3)) ∧ (decode cX0_bestStart 4 = .ok (.iconst 0, 1)) ∧ (decode cX0_bestStart 5 = .ok (.aaload, 1)) ∧ (decode cX0_bestStart 6 = .ok (.aload_n 2, 1)) ∧ (decode cX0_bestStart 7 = .ok (.invokevirtual 27, 3)) ∧ (decode cX0_bestStart 10 = .ok (.iconst 0, 1)) ∧ (decode cX0_bestStart 11 = .ok (.istore 4, 2)) ∧ (decode cX0_bestStart 13 = .ok (.iload 4, 2)) ∧ (decode cX0_bestStart 15 = .ok (.aload_n 1, 1)) ∧ (decode cX0_bestStart 16 = .ok (.getfield 35, 3)) ∧ (decode cX0_bestStart 19 = .ok (.if_icmp .ge 34, 3)) ∧ (decode cX0_bestStart 53 = .ok (.iconst 0, 1)) ∧ (decode cX0_bestStart 54 = .ok (.istore 4, 2)) ∧ (decode cX0_bestStart 56 = .ok (.iconst (-1), 1)) ∧ (decode cX0_bestStart 57 = .ok (.istore 5, 2)) ∧ (decode cX0_bestStart 59 = .ok (.iconst 0, 1)) ∧ (decode cX0_bestStart 60 = .ok (.istore 6, 2)) ∧ (decode cX0_bestStart 62 = .ok (.iload 6, 2)) ∧ (decode cX0_bestStart 64 = .ok (.aload_n 1, 1)) ∧ (decode cX0_bestStart 65 = .ok (.getfield 35, 3)) ∧ (decode cX0_bestStart 68 = .ok (.if_icmp .ge 63, 3)) ∧ (decode cX0_bestStart 131 = .ok (.iload 4, 2)) ∧ (decode cX0_bestStart 133 = .ok (.ireturn, 1)) := by decide +kernel
theorem dX0_bestStart_0 : decode cX0_bestStart 0 = .ok (.aload_n 0, 1) := db76.1
theorem dX0_bestStart_1 : decode cX0_bestStart 1 = .ok (.getfield 11, 3) := db76.2.1
theorem dX0_bestStart_4 : decode cX0_bestStart 4 = .ok (.iconst 0, 1) := db76.2.2.1
theorem dX0_bestStart_5 : decode cX0_bestStart 5 = .ok (.aaload, 1) := db76.2.2.2.1
theorem dX0_bestStart_6 : decode cX0_bestStart 6 = .ok (.aload_n 2, 1) := db76.2.2.2.2.1
theorem dX0_bestStart_7 : decode cX0_bestStart 7 = .ok (.invokevirtual 27, 3) := db76.2.2.2.2.2.1
theorem dX0_bestStart_10 : decode cX0_bestStart 10 = .ok (.iconst 0, 1) := db76.2.2.2.2.2.2.1
theorem dX0_bestStart_11 : decode cX0_bestStart 11 = .ok (.istore 4, 2) := db76.2.2.2.2.2.2.2.1
theorem dX0_bestStart_13 : decode cX0_bestStart 13 = .ok (.iload 4, 2) := db76.2.2.2.2.2.2.2.2.1
theorem dX0_bestStart_15 : decode cX0_bestStart 15 = .ok (.aload_n 1, 1) := db76.2.2.2.2.2.2.2.2.2.1
theorem dX0_bestStart_16 : decode cX0_bestStart 16 = .ok (.getfield 35, 3) := db76.2.2.2.2.2.2.2.2.2.2.1
theorem dX0_bestStart_19 : decode cX0_bestStart 19 = .ok (.if_icmp .ge 34, 3) := db76.2.2.2.2.2.2.2.2.2.2.2.1
theorem dX0_bestStart_53 : decode cX0_bestStart 53 = .ok (.iconst 0, 1) := db76.2.2.2.2.2.2.2.2.2.2.2.2.1
theorem dX0_bestStart_54 : decode cX0_bestStart 54 = .ok (.istore 4, 2) := db76.2.2.2.2.2.2.2.2.2.2.2.2.2.1
theorem dX0_bestStart_56 : decode cX0_bestStart 56 = .ok (.iconst (-1), 1) := db76.2.2.2.2.2.2.2.2.2.2.2.2.2.2.1
theorem dX0_bestStart_57 : decode cX0_bestStart 57 = .ok (.istore 5, 2) := db76.2.2.2.2.2.2.2.2.2.2.2.2.2.2.2.1
theorem dX0_bestStart_59 : decode cX0_bestStart 59 = .ok (.iconst 0, 1) := db76.2.2.2.2.2.2.2.2.2.2.2.2.2.2.2.2.1
theorem dX0_bestStart_60 : decode cX0_bestStart 60 = .ok (.istore 6, 2) := db76.2.2.2.2.2.2.2.2.2.2.2.2.2.2.2.2.2.1
theorem dX0_bestStart_62 : decode cX0_bestStart 62 = .ok (.iload 6, 2) := db76.2.2.2.2.2.2.2.2.2.2.2.2.2.2.2.2.2.2.1
theorem dX0_bestStart_64 : decode cX0_bestStart 64 = .ok (.aload_n 1, 1) := db76.2.2.2.2.2.2.2.2.2.2.2.2.2.2.2.2.2.2.2.1
theorem dX0_bestStart_65 : decode cX0_bestStart 65 = .ok (.getfield 35, 3) := db76.2.2.2.2.2.2.2.2.2.2.2.2.2.2.2.2.2.2.2.2.1
theorem dX0_bestStart_68 : decode cX0_bestStart 68 = .ok (.if_icmp .ge 63, 3) := db76.2.2.2.2.2.2.2.2.2.2.2.2.2.2.2.2.2.2.2.2.2.1
theorem dX0_bestStart_131 : decode cX0_bestStart 131 = .ok (.iload 4, 2) := db76.2.2.2.2.2.2.2.2.2.2.2.2.2.2.2.2.2.2.2.2.2.2.1
theorem dX0_bestStart_133 : decode cX0_bestStart 133 = .ok (.ireturn, 1) := db76.2.2.2.2.2.2.2.2.2.2.2.2.2.2.2.2.2.2.2.2.2.2.2
theorem db77 : (decode cX0_bestStart 71 = .ok (.iconst 0, 1)) ∧ (decode cX0_bestStart 72 = .ok (.istore 7, 2)) ∧ (decode cX0_bestStart 74 = .ok (.iload 7, 2)) ∧ (decode cX0_bestStart 76 = .ok (.aload_n 1, 1)) ∧ (decode cX0_bestStart 77 = .ok (.getfield 35, 3)) ∧ (decode cX0_bestStart 80 = .ok (.if_icmp .ge 45, 3)) ∧ (decode cX0_bestStart 125 = .ok (.iinc 6 1, 3)) ∧ (decode cX0_bestStart 128 = .ok (.goto (-66), 3)) ∧ (decode cX0_bestStart 83 = .ok (.aload_n 1, 1)) ∧ (decode cX0_bestStart 84 = .ok (.iload 6, 2)) ∧ (decode cX0_bestStart 86 = .ok (.iload 7, 2)) ∧ (decode cX0_bestStart 88 = .ok (.invokevirtual 44, 3)) ∧ (decode cX0_bestStart 119 = .ok (.iinc 7 1, 3)) ∧ (decode cX0_bestStart 122 = .ok (.goto (-48), 3)) ∧ (decode cX0_bestStart 91 = .ok (.ifCond .eq 28, 3)) ∧ (decode cX0_bestStart 94 = .ok (.aload_n 0, 1)) ∧ (decode cX0_bestStart 95 = .ok (.getfield 22, 3)) ∧ (decode cX0_bestStart 98 = .ok (.iload 7, 2)) ∧ (decode cX0_bestStart 100 = .ok (.iaload, 1)) ∧ (decode cX0_bestStart 101 = .ok (.iload 5, 2)) ∧ (decode cX0_bestStart 103 = .ok (.if_icmp .le 16, 3)) ∧ (decode cX0_bestStart 106 = .ok (.aload_n 0, 1)) ∧ (decode cX0_bestStart 107 = .ok (.getfield 22, 3)) ∧ (decode cX0_bestStart 110 = .ok (.iload 7, 2)) := by decide +kernel
theorem dX0_bestStart_71 : decode cX0_bestStart 71 = .ok (.iconst 0, 1) := db77.1
theorem dX0_bestStart_72 : decode cX0_bestStart 72 = .ok (.istore 7, 2) := db77.2.1
theorem dX0_bestStart_74 : decode cX0_bestStart 74 = .ok (.iload 7, 2) := db77.2.2.1
theorem dX0_bestStart_76 : decode cX0_bestStart 76 = .ok (.aload_n 1, 1) := db77.2.2.2.1
theorem dX0_bestStart_77 : decode cX0_bestStart 77 = .ok (.getfield 35, 3) := db77.2.2.2.2.1
theorem dX0_bestStart_80 : decode cX0_bestStart 80 = .ok (.if_icmp .ge 45, 3) := db77.2.2.2.2.2.1
theorem dX0_bestStart_125 : decode cX0_bestStart 125 = .ok (.iinc 6 1, 3) := db77.2.2.2.2.2.2.1
theorem dX0_bestStart_128 : decode cX0_bestStart 128 = .ok (.goto (-66), 3) := db77.2.2.2.2.2.2.2.1
theorem dX0_bestStart_83 : decode cX0_bestStart 83 = .ok (.aload_n 1, 1) := db77.2.2.2.2.2.2.2.2.1
theorem dX0_bestStart_84 : decode cX0_bestStart 84 = .ok (.iload 6, 2) := db77.2.2.2.2.2.2.2.2.2.1
theorem dX0_bestStart_86 : decode cX0_bestStart 86 = .ok (.iload 7, 2) := db77.2.2.2.2.2.2.2.2.2.2.1
theorem dX0_bestStart_88 : decode cX0_bestStart 88 = .ok (.invokevirtual 44, 3) := db77.2.2.2.2.2.2.2.2.2.2.2.1
theorem dX0_bestStart_119 : decode cX0_bestStart 119 = .ok (.iinc 7 1, 3) := db77.2.2.2.2.2.2.2.2.2.2.2.2.1
theorem dX0_bestStart_122 : decode cX0_bestStart 122 = .ok (.goto (-48), 3) := db77.2.2.2.2.2.2.2.2.2.2.2.2.2.1
theorem dX0_bestStart_91 : decode cX0_bestStart 91 = .ok (.ifCond .eq 28, 3) := db77.2.2.2.2.2.2.2.2.2.2.2.2.2.2.1
theorem dX0_bestStart_94 : decode cX0_bestStart 94 = .ok (.aload_n 0, 1) := db77.2.2.2.2.2.2.2.2.2.2.2.2.2.2.2.1
theorem dX0_bestStart_95 : decode cX0_bestStart 95 = .ok (.getfield 22, 3) := db77.2.2.2.2.2.2.2.2.2.2.2.2.2.2.2.2.1
theorem dX0_bestStart_98 : decode cX0_bestStart 98 = .ok (.iload 7, 2) := db77.2.2.2.2.2.2.2.2.2.2.2.2.2.2.2.2.2.1
theorem dX0_bestStart_100 : decode cX0_bestStart 100 = .ok (.iaload, 1) := db77.2.2.2.2.2.2.2.2.2.2.2.2.2.2.2.2.2.2.1
theorem dX0_bestStart_101 : decode cX0_bestStart 101 = .ok (.iload 5, 2) := db77.2.2.2.2.2.2.2.2.2.2.2.2.2.2.2.2.2.2.2.1
theorem dX0_bestStart_103 : decode cX0_bestStart 103 = .ok (.if_icmp .le 16, 3) := db77.2.2.2.2.2.2.2.2.2.2.2.2.2.2.2.2.2.2.2.2.1
theorem dX0_bestStart_106 : decode cX0_bestStart 106 = .ok (.aload_n 0, 1) := db77.2.2.2.2.2.2.2.2.2.2.2.2.2.2.2.2.2.2.2.2.2.1
theorem dX0_bestStart_107 : decode cX0_bestStart 107 = .ok (.getfield 22, 3) := db77.2.2.2.2.2.2.2.2.2.2.2.2.2.2.2.2.2.2.2.2.2.2.1
theorem dX0_bestStart_110 : decode cX0_bestStart 110 = .ok (.iload 7, 2) := db77.2.2.2.2.2.2.2.2.2.2.2.2.2.2.2.2.2.2.2.2.2.2.2
theorem db78 : (decode cX0_bestStart 112 = .ok (.iaload, 1)) ∧ (decode cX0_bestStart 113 = .ok (.istore 5, 2)) ∧ (decode cX0_bestStart 115 = .ok (.iload 6, 2)) ∧ (decode cX0_bestStart 117 = .ok (.istore 4, 2)) ∧ (decode cX0_bestStart 22 = .ok (.aload_n 0, 1)) ∧ (decode cX0_bestStart 23 = .ok (.getfield 22, 3)) ∧ (decode cX0_bestStart 26 = .ok (.iload 4, 2)) ∧ (decode cX0_bestStart 28 = .ok (.iload_n 3, 1)) ∧ (decode cX0_bestStart 29 = .ok (.iconst 1, 1)) ∧ (decode cX0_bestStart 46 = .ok (.iastore, 1)) ∧ (decode cX0_bestStart 47 = .ok (.iinc 4 1, 3)) ∧ (decode cX0_bestStart 50 = .ok (.goto (-37), 3)) ∧ (decode cX0_bestStart 30 = .ok (.if_icmp .ge 7, 3)) ∧ (decode cX0_bestStart 37 = .ok (.aload_n 0, 1)) ∧ (decode cX0_bestStart 38 = .ok (.aload_n 1, 1)) ∧ (decode cX0_bestStart 39 = .ok (.iload 4, 2)) ∧ (decode cX0_bestStart 41 = .ok (.iconst 0, 1)) ∧ (decode cX0_bestStart 42 = .ok (.iload_n 3, 1)) ∧ (decode cX0_bestStart 43 = .ok (.invokevirtual 41, 3)) ∧ (decode cX0_bestStart 33 = .ok (.iconst 0, 1)) ∧ (decode cX0_bestStart 34 = .ok (.goto 12, 3)) := by decide +kernel
theorem dX0_bestStart_112 : decode cX0_bestStart 112 = .ok (.iaload, 1) := db78.1
theorem dX0_bestStart_113 : decode cX0_bestStart 113 = .ok (.istore 5, 2) := db78.2.1
theorem dX0_bestStart_115 : decode cX0_bestStart 115 = .ok (.iload 6, 2) := db78.2.2.1
theorem dX0_bestStart_117 : decode cX0_bestStart 117 = .ok (.istore 4, 2) := db78.2.2.2.1
theorem dX0_bestStart_22 : decode cX0_bestStart 22 = .ok (.aload_n 0, 1) := db78.2.2.2.2.1
theorem dX0_bestStart_23 : decode cX0_bestStart 23 = .ok (.getfield 22, 3) := db78.2.2.2.2.2.1
theorem dX0_bestStart_26 : decode cX0_bestStart 26 = .ok (.iload 4, 2) := db78.2.2.2.2.2.2.1
theorem dX0_bestStart_28 : decode cX0_bestStart 28 = .ok (.iload_n 3, 1) := db78.2.2.2.2.2.2.2.1
theorem dX0_bestStart_29 : decode cX0_bestStart 29 = .ok (.iconst 1, 1) := db78.2.2.2.2.2.2.2.2.1
theorem dX0_bestStart_46 : decode cX0_bestStart 46 = .ok (.iastore, 1) := db78.2.2.2.2.2.2.2.2.2.1
theorem dX0_bestStart_47 : decode cX0_bestStart 47 = .ok (.iinc 4 1, 3) := db78.2.2.2.2.2.2.2.2.2.2.1
theorem dX0_bestStart_50 : decode cX0_bestStart 50 = .ok (.goto (-37), 3) := db78.2.2.2.2.2.2.2.2.2.2.2.1
theorem dX0_bestStart_30 : decode cX0_bestStart 30 = .ok (.if_icmp .ge 7, 3) := db78.2.2.2.2.2.2.2.2.2.2.2.2.1
theorem dX0_bestStart_37 : decode cX0_bestStart 37 = .ok (.aload_n 0, 1) := db78.2.2.2.2.2.2.2.2.2.2.2.2.2.1
theorem dX0_bestStart_38 : decode cX0_bestStart 38 = .ok (.aload_n 1, 1) := db78.2.2.2.2.2.2.2.2.2.2.2.2.2.2.1
theorem dX0_bestStart_39 : decode cX0_bestStart 39 = .ok (.iload 4, 2) := db78.2.2.2.2.2.2.2.2.2.2.2.2.2.2.2.1
theorem dX0_bestStart_41 : decode cX0_bestStart 41 = .ok (.iconst 0, 1) := db78.2.2.2.2.2.2.2.2.2.2.2.2.2.2.2.2.1
theorem dX0_bestStart_42 : decode cX0_bestStart 42 = .ok (.iload_n 3, 1) := db78.2.2.2.2.2.2.2.2.2.2.2.2.2.2.2.2.2.1
theorem dX0_bestStart_43 : decode cX0_bestStart 43 = .ok (.invokevirtual 41, 3) := db78.2.2.2.2.2.2.2.2.2.2.2.2.2.2.2.2.2.2.1
theorem dX0_bestStart_33 : decode cX0_bestStart 33 = .ok (.iconst 0, 1) := db78.2.2.2.2.2.2.2.2.2.2.2.2.2.2.2.2.2.2.2.1
theorem dX0_bestStart_34 : decode cX0_bestStart 34 = .ok (.goto 12, 3) := db78.2.2.2.2.2.2.2.2.2.2.2.2.2.2.2.2.2.2.2.2
theorem db79 : (decode cX0_calling 0 = .ok (.iload_n 3, 1)) ∧ (decode cX0_calling 1 = .ok (.iconst 1, 1)) ∧ (decode cX0_calling 2 = .ok (.iadd, 1)) ∧ (decode cX0_calling 3 = .ok (.iload 4, 2)) ∧ (decode cX0_calling 15 = .ok (.aload_n 0, 1)) ∧ (decode cX0_calling 16 = .ok (.getfield 11, 3)) ∧ (decode cX0_calling 19 = .ok (.iload_n 3, 1)) ∧ (decode cX0_calling 20 = .ok (.aaload, 1)) ∧ (decode cX0_calling 21 = .ok (.aload_n 1, 1)) ∧ (decode cX0_calling 22 = .ok (.iload_n 2, 1)) ∧ (decode cX0_calling 23 = .ok (.iconst 0, 1)) ∧ (decode cX0_calling 24 = .ok (.invokevirtual 52, 3)) ∧ (decode cX0_calling 27 = .ok (.ireturn, 1)) ∧ (decode cX0_calling 5 = .ok (.if_icmp .ge 10, 3)) ∧ (decode cX0_calling 8 = .ok (.iload_n 3, 1)) ∧ (decode cX0_calling 9 = .ok (.iconst 1, 1)) ∧ (decode cX0_calling 10 = .ok (.iadd, 1)) ∧ (decode cX0_calling 11 = .ok (.iconst 5, 1)) ∧ (decode cX0_calling 12 = .ok (.if_icmp .lt 16, 3)) ∧ (decode cX0_calling 28 = .ok (.aload_n 0, 1)) ∧ (decode cX0_calling 29 = .ok (.getfield 11, 3)) ∧ (decode cX0_calling 32 = .ok (.iload_n 3, 1)) ∧ (decode cX0_calling 33 = .ok (.iconst 1, 1)) ∧ (decode cX0_calling 34 = .ok (.iadd, 1)) := by decide +kernel
theorem dX0_calling_0 : decode cX0_calling 0 = .ok (.iload_n 3, 1) := db79.1
theorem dX0_calling_1 : decode cX0_calling 1 = .ok (.iconst 1, 1) := db79.2.1
theorem dX0_calling_2 : decode cX0_calling 2 = .ok (.iadd, 1) := db79.2.2.1
theorem dX0_calling_3 : decode cX0_calling 3 = .ok (.iload 4, 2) := db79.2.2.2.1
theorem dX0_calling_15 : decode cX0_calling 15 = .ok (.aload_n 0, 1) := db79.2.2.2.2.1
theorem dX0_calling_16 : decode cX0_calling 16 = .ok (.getfield 11, 3) := db79.2.2.2.2.2.1
theorem dX0_calling_19 : decode cX0_calling 19 = .ok (.iload_n 3, 1) := db79.2.2.2.2.2.2.1
theorem dX0_calling_20 : decode cX0_calling 20 = .ok (.aaload, 1) := db79.2.2.2.2.2.2.2.1
theorem dX0_calling_21 : decode cX0_calling 21 = .ok (.aload_n 1, 1) := db79.2.2.2.2.2.2.2.2.1
theorem dX0_calling_22 : decode cX0_calling 22 = .ok (.iload_n 2, 1) := db79.2.2.2.2.2.2.2.2.2.1
theorem dX0_calling_23 : decode cX0_calling 23 = .ok (.iconst 0, 1) := db79.2.2.2.2.2.2.2.2.2.2.1
theorem dX0_calling_24 : decode cX0_calling 24 = .ok (.invokevirtual 52, 3) := db79.2.2.2.2.2.2.2.2.2.2.2.1
theorem dX0_calling_27 : decode cX0_calling 27 = .ok (.ireturn, 1) := db79.2.2.2.2.2.2.2.2.2.2.2.2.1
theorem dX0_calling_5 : decode cX0_calling 5 = .ok (.if_icmp .ge 10, 3) := db79.2.2.2.2.2.2.2.2.2.2.2.2.2.1
theorem dX0_calling_8 : decode cX0_calling 8 = .ok (.iload_n 3, 1) := db79.2.2.2.2.2.2.2.2.2.2.2.2.2.2.1
theorem dX0_calling_9 : decode cX0_calling 9 = .ok (.iconst 1, 1) := db79.2.2.2.2.2.2.2.2.2.2.2.2.2.2.2.1
theorem dX0_calling_10 : decode cX0_calling 10 = .ok (.iadd, 1) := db79.2.2.2.2.2.2.2.2.2.2.2.2.2.2.2.2.1
theorem dX0_calling_11 : decode cX0_calling 11 = .ok (.iconst 5, 1) := db79.2.2.2.2.2.2.2.2.2.2.2.2.2.2.2.2.2.1
theorem dX0_calling_12 : decode cX0_calling 12 = .ok (.if_icmp .lt 16, 3) := db79.2.2.2.2.2.2.2.2.2.2.2.2.2.2.2.2.2.2.1
theorem dX0_calling_28 : decode cX0_calling 28 = .ok (.aload_n 0, 1) := db79.2.2.2.2.2.2.2.2.2.2.2.2.2.2.2.2.2.2.2.1
theorem dX0_calling_29 : decode cX0_calling 29 = .ok (.getfield 11, 3) := db79.2.2.2.2.2.2.2.2.2.2.2.2.2.2.2.2.2.2.2.2.1
theorem dX0_calling_32 : decode cX0_calling 32 = .ok (.iload_n 3, 1) := db79.2.2.2.2.2.2.2.2.2.2.2.2.2.2.2.2.2.2.2.2.2.1
theorem dX0_calling_33 : decode cX0_calling 33 = .ok (.iconst 1, 1) := db79.2.2.2.2.2.2.2.2.2.2.2.2.2.2.2.2.2.2.2.2.2.2.1
theorem dX0_calling_34 : decode cX0_calling 34 = .ok (.iadd, 1) := db79.2.2.2.2.2.2.2.2.2.2.2.2.2.2.2.2.2.2.2.2.2.2.2
theorem db80 : (decode cX0_calling 35 = .ok (.aaload, 1)) ∧ (decode cX0_calling 36 = .ok (.astore 5, 2)) ∧ (decode cX0_calling 38 = .ok (.aload 5, 2)) ∧ (decode cX0_calling 40 = .ok (.aload_n 0, 1)) ∧ (decode cX0_calling 41 = .ok (.getfield 11, 3)) ∧ (decode cX0_calling 44 = .ok (.iload_n 3, 1)) ∧ (decode cX0_calling 45 = .ok (.aaload, 1)) ∧ (decode cX0_calling 46 = .ok (.invokevirtual 27, 3)) ∧ (decode cX0_calling 49 = .ok (.aload 5, 2)) ∧ (decode cX0_calling 51 = .ok (.aload_n 1, 1)) ∧ (decode cX0_calling 52 = .ok (.iload_n 2, 1)) ∧ (decode cX0_calling 53 = .ok (.iconst 0, 1)) ∧ (decode cX0_calling 54 = .ok (.invokevirtual 56, 3)) ∧ (decode cX0_calling 57 = .ok (.istore 6, 2)) ∧ (decode cX0_calling 59 = .ok (.iload 6, 2)) ∧ (decode cX0_calling 61 = .ok (.aload_n 0, 1)) ∧ (decode cX0_calling 62 = .ok (.aload_n 1, 1)) ∧ (decode cX0_calling 63 = .ok (.iload_n 2, 1)) ∧ (decode cX0_calling 64 = .ok (.iload_n 3, 1)) ∧ (decode cX0_calling 65 = .ok (.iconst 1, 1)) ∧ (decode cX0_calling 66 = .ok (.iadd, 1)) ∧ (decode cX0_calling 67 = .ok (.iload 4, 2)) ∧ (decode cX0_calling 69 = .ok (.invokevirtual 31, 3)) ∧ (decode cX0_calling 72 = .ok (.iadd, 1)) := by decide +kernel
theorem dX0_calling_35 : decode cX0_calling 35 = .ok (.aaload, 1) := db80.1
theorem dX0_calling_36 : decode cX0_calling 36 = .ok (.astore 5, 2) := db80.2.1
theorem dX0_calling_38 : decode cX0_calling 38 = .ok (.aload 5, 2) := db80.2.2.1
theorem dX0_calling_40 : decode cX0_calling 40 = .ok (.aload_n 0, 1) := db80.2.2.2.1
theorem dX0_calling_41 : decode cX0_calling 41 = .ok (.getfield 11, 3) := db80.2.2.2.2.1
theorem dX0_calling_44 : decode cX0_calling 44 = .ok (.iload_n 3, 1) := db80.2.2.2.2.2.1
theorem dX0_calling_45 : decode cX0_calling 45 = .ok (.aaload, 1) := db80.2.2.2.2.2.2.1
theorem dX0_calling_46 : decode cX0_calling 46 = .ok (.invokevirtual 27, 3) := db80.2.2.2.2.2.2.2.1
theorem dX0_calling_49 : decode cX0_calling 49 = .ok (.aload 5, 2) := db80.2.2.2.2.2.2.2.2.1
theorem dX0_calling_51 : decode cX0_calling 51 = .ok (.aload_n 1, 1) := db80.2.2.2.2.2.2.2.2.2.1
theorem dX0_calling_52 : decode cX0_calling 52 = .ok (.iload_n 2, 1) := db80.2.2.2.2.2.2.2.2.2.2.1
theorem dX0_calling_53 : decode cX0_calling 53 = .ok (.iconst 0, 1) := db80.2.2.2.2.2.2.2.2.2.2.2.1
theorem dX0_calling_54 : decode cX0_calling 54 = .ok (.invokevirtual 56, 3) := db80.2.2.2.2.2.2.2.2.2.2.2.2.1
theorem dX0_calling_57 : decode cX0_calling 57 = .ok (.istore 6, 2) := db80.2.2.2.2.2.2.2.2.2.2.2.2.2.1
theorem dX0_calling_59 : decode cX0_calling 59 = .ok (.iload 6, 2) := db80.2.2.2.2.2.2.2.2.2.2.2.2.2.2.1
theorem dX0_calling_61 : decode cX0_calling 61 = .ok (.aload_n 0, 1) := db80.2.2.2.2.2.2.2.2.2.2.2.2.2.2.2.1
theorem dX0_calling_62 : decode cX0_calling 62 = .ok (.aload_n 1, 1) := db80.2.2.2.2.2.2.2.2.2.2.2.2.2.2.2.2.1
theorem dX0_calling_63 : decode cX0_calling 63 = .ok (.iload_n 2, 1) := db80.2.2.2.2.2.2.2.2.2.2.2.2.2.2.2.2.2.1
theorem dX0_calling_64 : decode cX0_calling 64 = .ok (.iload_n 3, 1) := db80.2.2.2.2.2.2.2.2.2.2.2.2.2.2.2.2.2.2.1
theorem dX0_calling_65 : decode cX0_calling 65 = .ok (.iconst 1, 1) := db80.2.2.2.2.2.2.2.2.2.2.2.2.2.2.2.2.2.2.2.1
theorem dX0_calling_66 : decode cX0_calling 66 = .ok (.iadd, 1) := db80.2.2.2.2.2.2.2.2.2.2.2.2.2.2.2.2.2.2.2.2.1
theorem dX0_calling_67 : decode cX0_calling 67 = .ok (.iload 4, 2) := db80.2.2.2.2.2.2.2.2.2.2.2.2.2.2.2.2.2.2.2.2.2.1
theorem dX0_calling_69 : decode cX0_calling 69 = .ok (.invokevirtual 31, 3) := db80.2.2.2.2.2.2.2.2.2.2.2.2.2.2.2.2.2.2.2.2.2.2.1
theorem dX0_calling_72 : decode cX0_calling 72 = .ok (.iadd, 1) := db80.2.2.2.2.2.2.2.2.2.2.2.2.2.2.2.2.2.2.2.2.2.2.2
