theorem dX4_areApart_32 : decode cX4_areApart 32 = .ok (.iload 5, 2) := by decide +kernel
theorem dX4_areApart_34 : decode cX4_areApart 34 = .ok (.ishr, 1) := by decide +kernel
theorem dX4_areApart_35 : decode cX4_areApart 35 = .ok (.iconst 1, 1) := by decide +kernel
theorem dX4_areApart_36 : decode cX4_areApart 36 = .ok (.iand, 1) := by decide +kernel
theorem dX4_areApart_37 : decode cX4_areApart 37 = .ok (.ifCond .eq 7, 3) := by decide +kernel
theorem dX4_areApart_40 : decode cX4_areApart 40 = .ok (.iconst 1, 1) := by decide +kernel
theorem dX4_areApart_41 : decode cX4_areApart 41 = .ok (.goto 4, 3) := by decide +kernel
theorem dX4_listFor_0 : decode cX4_listFor 0 = .ok (.iconst (-1), 1) := by decide +kernel
theorem dX4_listFor_1 : decode cX4_listFor 1 = .ok (.istore_n 3, 1) := by decide +kernel
theorem dX4_listFor_2 : decode cX4_listFor 2 = .ok (.iconst 0, 1) := by decide +kernel
theorem dX4_listFor_3 : decode cX4_listFor 3 = .ok (.istore 4, 2) := by decide +kernel
theorem dX4_listFor_5 : decode cX4_listFor 5 = .ok (.iload 4, 2) := by decide +kernel
theorem dX4_listFor_7 : decode cX4_listFor 7 = .ok (.bipush 64, 2) := by decide +kernel
theorem dX4_listFor_9 : decode cX4_listFor 9 = .ok (.if_icmp .ge 52, 3) := by decide +kernel
theorem dX4_listFor_61 : decode cX4_listFor 61 = .ok (.iload_n 3, 1) := by decide +kernel
theorem dX4_listFor_62 : decode cX4_listFor 62 = .ok (.ireturn, 1) := by decide +kernel
theorem dX4_listFor_12 : decode cX4_listFor 12 = .ok (.iload_n 3, 1) := by decide +kernel
theorem dX4_listFor_13 : decode cX4_listFor 13 = .ok (.iconst (-1), 1) := by decide +kernel
theorem dX4_listFor_34 : decode cX4_listFor 34 = .ok (.istore 5, 2) := by decide +kernel
theorem dX4_listFor_36 : decode cX4_listFor 36 = .ok (.iload 5, 2) := by decide +kernel
theorem dX4_listFor_55 : decode cX4_listFor 55 = .ok (.iinc 4 1, 3) := by decide +kernel
theorem dX4_listFor_58 : decode cX4_listFor 58 = .ok (.goto (-53), 3) := by decide +kernel
theorem dX4_listFor_38 : decode cX4_listFor 38 = .ok (.ifCond .eq 17, 3) := by decide +kernel
theorem dX4_listFor_41 : decode cX4_listFor 41 = .ok (.aload_n 0, 1) := by decide +kernel
theorem dX4_listFor_42 : decode cX4_listFor 42 = .ok (.aload_n 1, 1) := by decide +kernel
theorem dX4_listFor_43 : decode cX4_listFor 43 = .ok (.iload_n 2, 1) := by decide +kernel
theorem dX4_listFor_44 : decode cX4_listFor 44 = .ok (.iload 4, 2) := by decide +kernel
theorem dX4_listFor_46 : decode cX4_listFor 46 = .ok (.invokevirtual 43, 3) := by decide +kernel
theorem dX4_listFor_49 : decode cX4_listFor 49 = .ok (.ifCond .eq 6, 3) := by decide +kernel
theorem dX4_listFor_52 : decode cX4_listFor 52 = .ok (.iload 4, 2) := by decide +kernel
theorem dX4_listFor_54 : decode cX4_listFor 54 = .ok (.istore_n 3, 1) := by decide +kernel
theorem dX4_listFor_29 : decode cX4_listFor 29 = .ok (.iconst 1, 1) := by decide +kernel
theorem dX4_listFor_30 : decode cX4_listFor 30 = .ok (.goto 4, 3) := by decide +kernel
theorem dX4_listFor_14 : decode cX4_listFor 14 = .ok (.if_icmp .eq 15, 3) := by decide +kernel
theorem dX4_listFor_17 : decode cX4_listFor 17 = .ok (.iload 4, 2) := by decide +kernel
theorem dX4_listFor_19 : decode cX4_listFor 19 = .ok (.invokestatic 26, 3) := by decide +kernel
theorem dX4_listFor_22 : decode cX4_listFor 22 = .ok (.iload_n 3, 1) := by decide +kernel
theorem dX4_listFor_23 : decode cX4_listFor 23 = .ok (.invokestatic 26, 3) := by decide +kernel
theorem dX4_listFor_26 : decode cX4_listFor 26 = .ok (.if_icmp .ge 7, 3) := by decide +kernel
theorem dX4_listFor_33 : decode cX4_listFor 33 = .ok (.iconst 0, 1) := by decide +kernel
theorem dX4_slateSum_0 : decode cX4_slateSum 0 = .ok (.iconst 0, 1) := by decide +kernel
theorem dX4_slateSum_1 : decode cX4_slateSum 1 = .ok (.istore_n 3, 1) := by decide +kernel
theorem dX4_slateSum_2 : decode cX4_slateSum 2 = .ok (.iconst 0, 1) := by decide +kernel
theorem dX4_slateSum_3 : decode cX4_slateSum 3 = .ok (.istore 4, 2) := by decide +kernel
theorem dX4_slateSum_5 : decode cX4_slateSum 5 = .ok (.iload 4, 2) := by decide +kernel
theorem dX4_slateSum_7 : decode cX4_slateSum 7 = .ok (.aload_n 1, 1) := by decide +kernel
theorem dX4_slateSum_8 : decode cX4_slateSum 8 = .ok (.getfield 47, 3) := by decide +kernel
theorem dX4_slateSum_11 : decode cX4_slateSum 11 = .ok (.if_icmp .ge 24, 3) := by decide +kernel
theorem dX4_slateSum_35 : decode cX4_slateSum 35 = .ok (.iload_n 3, 1) := by decide +kernel
theorem dX4_slateSum_36 : decode cX4_slateSum 36 = .ok (.ireturn, 1) := by decide +kernel
theorem dX4_slateSum_14 : decode cX4_slateSum 14 = .ok (.iload_n 3, 1) := by decide +kernel
theorem dX4_slateSum_15 : decode cX4_slateSum 15 = .ok (.aload_n 1, 1) := by decide +kernel
theorem dX4_slateSum_16 : decode cX4_slateSum 16 = .ok (.getfield 70, 3) := by decide +kernel
theorem dX4_slateSum_19 : decode cX4_slateSum 19 = .ok (.iload_n 2, 1) := by decide +kernel
theorem dX4_slateSum_20 : decode cX4_slateSum 20 = .ok (.bipush 6, 2) := by decide +kernel
theorem dX4_slateSum_22 : decode cX4_slateSum 22 = .ok (.imul, 1) := by decide +kernel
theorem dX4_slateSum_23 : decode cX4_slateSum 23 = .ok (.iload 4, 2) := by decide +kernel
theorem dX4_slateSum_25 : decode cX4_slateSum 25 = .ok (.iadd, 1) := by decide +kernel
theorem dX4_slateSum_26 : decode cX4_slateSum 26 = .ok (.iaload, 1) := by decide +kernel
theorem dX4_slateSum_27 : decode cX4_slateSum 27 = .ok (.iadd, 1) := by decide +kernel
theorem dX4_slateSum_28 : decode cX4_slateSum 28 = .ok (.istore_n 3, 1) := by decide +kernel
theorem dX4_slateSum_29 : decode cX4_slateSum 29 = .ok (.iinc 4 1, 3) := by decide +kernel
theorem dX4_slateSum_32 : decode cX4_slateSum 32 = .ok (.goto (-27), 3) := by decide +kernel
theorem dX4_hasInAll_0 : decode cX4_hasInAll 0 = .ok (.iconst 1, 1) := by decide +kernel
theorem dX4_hasInAll_1 : decode cX4_hasInAll 1 = .ok (.aload_n 0, 1) := by decide +kernel
theorem dX4_hasInAll_2 : decode cX4_hasInAll 2 = .ok (.aload_n 1, 1) := by decide +kernel
theorem dX4_hasInAll_3 : decode cX4_hasInAll 3 = .ok (.iload_n 2, 1) := by decide +kernel
theorem dX4_hasInAll_4 : decode cX4_hasInAll 4 = .ok (.invokevirtual 67, 3) := by decide +kernel
theorem dX4_hasInAll_7 : decode cX4_hasInAll 7 = .ok (.invokestatic 38, 3) := by decide +kernel
theorem dX4_hasInAll_10 : decode cX4_hasInAll 10 = .ok (.ireturn, 1) := by decide +kernel
theorem dX4_hasAs_0 : decode cX4_hasAs 0 = .ok (.aload_n 0, 1) := by decide +kernel
theorem dX4_hasAs_1 : decode cX4_hasAs 1 = .ok (.aload_n 1, 1) := by decide +kernel
theorem dX4_hasAs_2 : decode cX4_hasAs 2 = .ok (.iload_n 2, 1) := by decide +kernel
theorem dX4_hasAs_3 : decode cX4_hasAs 3 = .ok (.invokevirtual 67, 3) := by decide +kernel
theorem dX4_hasAs_14 : decode cX4_hasAs 14 = .ok (.istore 4, 2) := by decide +kernel
theorem dX4_hasAs_16 : decode cX4_hasAs 16 = .ok (.iload 4, 2) := by decide +kernel
theorem dX4_hasAs_18 : decode cX4_hasAs 18 = .ok (.ifCond .eq 14, 3) := by decide +kernel
theorem dX4_hasAs_32 : decode cX4_hasAs 32 = .ok (.aload_n 1, 1) := by decide +kernel
theorem dX4_hasAs_33 : decode cX4_hasAs 33 = .ok (.getfield 70, 3) := by decide +kernel
theorem dX4_hasAs_36 : decode cX4_hasAs 36 = .ok (.iload_n 2, 1) := by decide +kernel
theorem dX4_hasAs_37 : decode cX4_hasAs 37 = .ok (.bipush 6, 2) := by decide +kernel
theorem dX4_hasAs_39 : decode cX4_hasAs 39 = .ok (.imul, 1) := by decide +kernel
theorem dX4_hasAs_40 : decode cX4_hasAs 40 = .ok (.iload_n 3, 1) := by decide +kernel
theorem dX4_hasAs_41 : decode cX4_hasAs 41 = .ok (.iadd, 1) := by decide +kernel
theorem dX4_hasAs_42 : decode cX4_hasAs 42 = .ok (.iaload, 1) := by decide +kernel
theorem dX4_hasAs_43 : decode cX4_hasAs 43 = .ok (.ireturn, 1) := by decide +kernel
theorem dX4_hasAs_21 : decode cX4_hasAs 21 = .ok (.iload_n 2, 1) := by decide +kernel
theorem dX4_hasAs_22 : decode cX4_hasAs 22 = .ok (.iload_n 3, 1) := by decide +kernel
theorem dX4_hasAs_23 : decode cX4_hasAs 23 = .ok (.if_icmp .ne 7, 3) := by decide +kernel
theorem dX4_hasAs_30 : decode cX4_hasAs 30 = .ok (.iconst 0, 1) := by decide +kernel
theorem dX4_hasAs_31 : decode cX4_hasAs 31 = .ok (.ireturn, 1) := by decide +kernel
theorem dX4_hasAs_26 : decode cX4_hasAs 26 = .ok (.iconst 1, 1) := by decide +kernel
theorem dX4_hasAs_27 : decode cX4_hasAs 27 = .ok (.goto 4, 3) := by decide +kernel
theorem dX4_hasAs_6 : decode cX4_hasAs 6 = .ok (.ifCond .ne 7, 3) := by decide +kernel
theorem dX4_hasAs_13 : decode cX4_hasAs 13 = .ok (.iconst 0, 1) := by decide +kernel
theorem dX4_hasAs_9 : decode cX4_hasAs 9 = .ok (.iconst 1, 1) := by decide +kernel
theorem dX4_hasAs_10 : decode cX4_hasAs 10 = .ok (.goto 4, 3) := by decide +kernel
theorem dX4_share_0 : decode cX4_share 0 = .ok (.aload_n 1, 1) := by decide +kernel
theorem dX4_share_1 : decode cX4_share 1 = .ok (.getfield 54, 3) := by decide +kernel
theorem dX4_share_4 : decode cX4_share 4 = .ok (.iload_n 2, 1) := by decide +kernel
theorem dX4_share_5 : decode cX4_share 5 = .ok (.iaload, 1) := by decide +kernel
theorem dX4_share_6 : decode cX4_share 6 = .ok (.i2l, 1) := by decide +kernel
theorem dX4_share_7 : decode cX4_share 7 = .ok (.lstore 4, 2) := by decide +kernel
theorem dX4_share_9 : decode cX4_share 9 = .ok (.iconst 0, 1) := by decide +kernel
theorem dX4_share_10 : decode cX4_share 10 = .ok (.istore 6, 2) := by decide +kernel
theorem dX4_share_12 : decode cX4_share 12 = .ok (.iload 6, 2) := by decide +kernel
theorem dX4_share_14 : decode cX4_share 14 = .ok (.aload_n 1, 1) := by decide +kernel
theorem dX4_share_15 : decode cX4_share 15 = .ok (.getfield 47, 3) := by decide +kernel
theorem dX4_share_18 : decode cX4_share 18 = .ok (.if_icmp .ge 39, 3) := by decide +kernel
theorem dX4_share_57 : decode cX4_share 57 = .ok (.lload 4, 2) := by decide +kernel
theorem dX4_share_59 : decode cX4_share 59 = .ok (.lreturn, 1) := by decide +kernel
theorem dX4_share_21 : decode cX4_share 21 = .ok (.lload 4, 2) := by decide +kernel
theorem dX4_share_23 : decode cX4_share 23 = .ok (.iload 6, 2) := by decide +kernel
theorem dX4_share_25 : decode cX4_share 25 = .ok (.iload_n 2, 1) := by decide +kernel
theorem dX4_share_48 : decode cX4_share 48 = .ok (.lmul, 1) := by decide +kernel
theorem dX4_share_49 : decode cX4_share 49 = .ok (.lstore 4, 2) := by decide +kernel
theorem dX4_share_51 : decode cX4_share 51 = .ok (.iinc 6 1, 3) := by decide +kernel
theorem dX4_share_54 : decode cX4_share 54 = .ok (.goto (-42), 3) := by decide +kernel
theorem dX4_share_26 : decode cX4_share 26 = .ok (.if_icmp .ne 14, 3) := by decide +kernel
theorem dX4_share_40 : decode cX4_share 40 = .ok (.aload_n 0, 1) := by decide +kernel
theorem dX4_share_41 : decode cX4_share 41 = .ok (.aload_n 1, 1) := by decide +kernel
theorem dX4_share_42 : decode cX4_share 42 = .ok (.iload 6, 2) := by decide +kernel
theorem dX4_share_44 : decode cX4_share 44 = .ok (.invokevirtual 60, 3) := by decide +kernel
theorem dX4_share_47 : decode cX4_share 47 = .ok (.i2l, 1) := by decide +kernel
theorem dX4_share_29 : decode cX4_share 29 = .ok (.aload_n 0, 1) := by decide +kernel
theorem dX4_share_30 : decode cX4_share 30 = .ok (.aload_n 1, 1) := by decide +kernel
theorem dX4_share_31 : decode cX4_share 31 = .ok (.iload_n 2, 1) := by decide +kernel
theorem dX4_share_32 : decode cX4_share 32 = .ok (.iload_n 3, 1) := by decide +kernel
theorem dX4_share_33 : decode cX4_share 33 = .ok (.invokevirtual 57, 3) := by decide +kernel
theorem dX4_share_36 : decode cX4_share 36 = .ok (.i2l, 1) := by decide +kernel
theorem dX4_share_37 : decode cX4_share 37 = .ok (.goto 11, 3) := by decide +kernel
theorem dX4_allRead_0 : decode cX4_allRead 0 = .ok (.lconst 0, 1) := by decide +kernel
theorem dX4_allRead_1 : decode cX4_allRead 1 = .ok (.lstore_n 3, 1) := by decide +kernel
theorem dX4_allRead_2 : decode cX4_allRead 2 = .ok (.iconst 0, 1) := by decide +kernel
theorem dX4_allRead_3 : decode cX4_allRead 3 = .ok (.istore 5, 2) := by decide +kernel
theorem dX4_allRead_5 : decode cX4_allRead 5 = .ok (.iload 5, 2) := by decide +kernel
theorem dX4_allRead_7 : decode cX4_allRead 7 = .ok (.aload_n 1, 1) := by decide +kernel
theorem dX4_allRead_8 : decode cX4_allRead 8 = .ok (.getfield 47, 3) := by decide +kernel
theorem dX4_allRead_11 : decode cX4_allRead 11 = .ok (.if_icmp .ge 20, 3) := by decide +kernel
theorem dX4_allRead_31 : decode cX4_allRead 31 = .ok (.lload_n 3, 1) := by decide +kernel
theorem dX4_allRead_32 : decode cX4_allRead 32 = .ok (.lreturn, 1) := by decide +kernel
theorem dX4_allRead_14 : decode cX4_allRead 14 = .ok (.lload_n 3, 1) := by decide +kernel
theorem dX4_allRead_15 : decode cX4_allRead 15 = .ok (.aload_n 0, 1) := by decide +kernel
theorem dX4_allRead_16 : decode cX4_allRead 16 = .ok (.aload_n 1, 1) := by decide +kernel
theorem dX4_allRead_17 : decode cX4_allRead 17 = .ok (.iload 5, 2) := by decide +kernel
theorem dX4_allRead_19 : decode cX4_allRead 19 = .ok (.iload_n 2, 1) := by decide +kernel
theorem dX4_allRead_20 : decode cX4_allRead 20 = .ok (.invokevirtual 63, 3) := by decide +kernel
theorem dX4_allRead_23 : decode cX4_allRead 23 = .ok (.ladd, 1) := by decide +kernel
theorem dX4_allRead_24 : decode cX4_allRead 24 = .ok (.lstore_n 3, 1) := by decide +kernel
theorem dX4_allRead_25 : decode cX4_allRead 25 = .ok (.iinc 5 1, 3) := by decide +kernel
theorem dX4_allRead_28 : decode cX4_allRead 28 = .ok (.goto (-23), 3) := by decide +kernel
theorem dX4_greatestDivisor_0 : decode cX4_greatestDivisor 0 = .ok (.lload_n 1, 1) := by decide +kernel
theorem dX4_greatestDivisor_1 : decode cX4_greatestDivisor 1 = .ok (.lstore 5, 2) := by decide +kernel
theorem dX4_greatestDivisor_3 : decode cX4_greatestDivisor 3 = .ok (.lload_n 3, 1) := by decide +kernel
theorem dX4_greatestDivisor_4 : decode cX4_greatestDivisor 4 = .ok (.lstore 7, 2) := by decide +kernel
theorem dX4_greatestDivisor_6 : decode cX4_greatestDivisor 6 = .ok (.iconst 0, 1) := by decide +kernel
theorem dX4_greatestDivisor_7 : decode cX4_greatestDivisor 7 = .ok (.istore 9, 2) := by decide +kernel
theorem dX4_greatestDivisor_9 : decode cX4_greatestDivisor 9 = .ok (.iload 9, 2) := by decide +kernel
theorem dX4_greatestDivisor_11 : decode cX4_greatestDivisor 11 = .ok (.sipush 200, 3) := by decide +kernel
theorem dX4_greatestDivisor_45 : decode cX4_greatestDivisor 45 = .ok (.lload 5, 2) := by decide +kernel
theorem dX4_greatestDivisor_47 : decode cX4_greatestDivisor 47 = .ok (.lconst 0, 1) := by decide +kernel
theorem dX4_greatestDivisor_48 : decode cX4_greatestDivisor 48 = .ok (.lcmp, 1) := by decide +kernel
theorem dX4_greatestDivisor_49 : decode cX4_greatestDivisor 49 = .ok (.ifCond .ne 7, 3) := by decide +kernel
theorem dX4_greatestDivisor_56 : decode cX4_greatestDivisor 56 = .ok (.lload 5, 2) := by decide +kernel
theorem dX4_greatestDivisor_58 : decode cX4_greatestDivisor 58 = .ok (.lreturn, 1) := by decide +kernel
theorem dX4_greatestDivisor_52 : decode cX4_greatestDivisor 52 = .ok (.lconst 1, 1) := by decide +kernel
theorem dX4_greatestDivisor_53 : decode cX4_greatestDivisor 53 = .ok (.goto 5, 3) := by decide +kernel
theorem dX4_greatestDivisor_14 : decode cX4_greatestDivisor 14 = .ok (.if_icmp .ge 31, 3) := by decide +kernel
theorem dX4_greatestDivisor_17 : decode cX4_greatestDivisor 17 = .ok (.lload 7, 2) := by decide +kernel
theorem dX4_greatestDivisor_19 : decode cX4_greatestDivisor 19 = .ok (.lconst 0, 1) := by decide +kernel
theorem dX4_greatestDivisor_20 : decode cX4_greatestDivisor 20 = .ok (.lcmp, 1) := by decide +kernel
theorem dX4_greatestDivisor_21 : decode cX4_greatestDivisor 21 = .ok (.ifCond .eq 24, 3) := by decide +kernel
theorem dX4_greatestDivisor_24 : decode cX4_greatestDivisor 24 = .ok (.lload 5, 2) := by decide +kernel
theorem dX4_greatestDivisor_26 : decode cX4_greatestDivisor 26 = .ok (.lload 7, 2) := by decide +kernel
theorem dX4_greatestDivisor_28 : decode cX4_greatestDivisor 28 = .ok (.lrem, 1) := by decide +kernel
theorem dX4_greatestDivisor_29 : decode cX4_greatestDivisor 29 = .ok (.lstore 10, 2) := by decide +kernel
theorem dX4_greatestDivisor_31 : decode cX4_greatestDivisor 31 = .ok (.lload 7, 2) := by decide +kernel
theorem dX4_greatestDivisor_33 : decode cX4_greatestDivisor 33 = .ok (.lstore 5, 2) := by decide +kernel
theorem dX4_greatestDivisor_35 : decode cX4_greatestDivisor 35 = .ok (.lload 10, 2) := by decide +kernel
theorem dX4_greatestDivisor_37 : decode cX4_greatestDivisor 37 = .ok (.lstore 7, 2) := by decide +kernel
theorem dX4_greatestDivisor_39 : decode cX4_greatestDivisor 39 = .ok (.iinc 9 1, 3) := by decide +kernel
theorem dX4_greatestDivisor_42 : decode cX4_greatestDivisor 42 = .ok (.goto (-33), 3) := by decide +kernel
theorem dX4_lowest_0 : decode cX4_lowest 0 = .ok (.lload_n 1, 1) := by decide +kernel
theorem dX4_lowest_1 : decode cX4_lowest 1 = .ok (.lconst 0, 1) := by decide +kernel
theorem dX4_lowest_2 : decode cX4_lowest 2 = .ok (.lcmp, 1) := by decide +kernel
theorem dX4_lowest_12 : decode cX4_lowest 12 = .ok (.iload 5, 2) := by decide +kernel
theorem dX4_lowest_14 : decode cX4_lowest 14 = .ok (.ifCond .ne 7, 3) := by decide +kernel
theorem dX4_lowest_21 : decode cX4_lowest 21 = .ok (.lconst 1, 1) := by decide +kernel
theorem dX4_lowest_22 : decode cX4_lowest 22 = .ok (.lreturn, 1) := by decide +kernel
theorem dX4_lowest_17 : decode cX4_lowest 17 = .ok (.lconst 0, 1) := by decide +kernel
theorem dX4_lowest_18 : decode cX4_lowest 18 = .ok (.goto 4, 3) := by decide +kernel
theorem dX4_lowest_3 : decode cX4_lowest 3 = .ok (.ifCond .eq 9, 3) := by decide +kernel
theorem dX4_lowest_6 : decode cX4_lowest 6 = .ok (.lload_n 3, 1) := by decide +kernel
theorem dX4_lowest_7 : decode cX4_lowest 7 = .ok (.lconst 0, 1) := by decide +kernel
theorem dX4_lowest_8 : decode cX4_lowest 8 = .ok (.lcmp, 1) := by decide +kernel
theorem dX4_lowest_9 : decode cX4_lowest 9 = .ok (.ifCond .ne 14, 3) := by decide +kernel
theorem dX4_lowest_23 : decode cX4_lowest 23 = .ok (.aload_n 0, 1) := by decide +kernel
theorem dX4_lowest_24 : decode cX4_lowest 24 = .ok (.lload_n 1, 1) := by decide +kernel
theorem dX4_lowest_25 : decode cX4_lowest 25 = .ok (.lload_n 3, 1) := by decide +kernel
theorem dX4_lowest_26 : decode cX4_lowest 26 = .ok (.invokevirtual 73, 3) := by decide +kernel
theorem dX4_lowest_29 : decode cX4_lowest 29 = .ok (.lstore 6, 2) := by decide +kernel
theorem dX4_lowest_31 : decode cX4_lowest 31 = .ok (.iload 5, 2) := by decide +kernel
theorem dX4_lowest_33 : decode cX4_lowest 33 = .ok (.ifCond .ne 7, 3) := by decide +kernel
theorem dX4_lowest_40 : decode cX4_lowest 40 = .ok (.lload_n 3, 1) := by decide +kernel
theorem dX4_lowest_41 : decode cX4_lowest 41 = .ok (.lload 6, 2) := by decide +kernel
theorem dX4_lowest_43 : decode cX4_lowest 43 = .ok (.ldiv, 1) := by decide +kernel
theorem dX4_lowest_44 : decode cX4_lowest 44 = .ok (.lreturn, 1) := by decide +kernel
theorem dX4_lowest_36 : decode cX4_lowest 36 = .ok (.lload_n 1, 1) := by decide +kernel
theorem dX4_lowest_37 : decode cX4_lowest 37 = .ok (.goto 4, 3) := by decide +kernel
theorem dX1_reach_0 : decode cX1_reach 0 = .ok (.iload_n 3, 1) := by decide +kernel
theorem dX1_reach_1 : decode cX1_reach 1 = .ok (.iconst 1, 1) := by decide +kernel
theorem dX1_reach_2 : decode cX1_reach 2 = .ok (.iload_n 1, 1) := by decide +kernel
theorem dX1_reach_3 : decode cX1_reach 3 = .ok (.ishl, 1) := by decide +kernel
theorem dX1_reach_4 : decode cX1_reach 4 = .ok (.iconst 1, 1) := by decide +kernel
theorem dX1_reach_5 : decode cX1_reach 5 = .ok (.iload_n 2, 1) := by decide +kernel
theorem dX1_reach_6 : decode cX1_reach 6 = .ok (.ishl, 1) := by decide +kernel
theorem dX1_reach_7 : decode cX1_reach 7 = .ok (.ior, 1) := by decide +kernel
theorem dX1_reach_8 : decode cX1_reach 8 = .ok (.iconst (-1), 1) := by decide +kernel
theorem dX1_reach_9 : decode cX1_reach 9 = .ok (.ixor, 1) := by decide +kernel
theorem dX1_reach_10 : decode cX1_reach 10 = .ok (.iand, 1) := by decide +kernel
theorem dX1_reach_11 : decode cX1_reach 11 = .ok (.istore 5, 2) := by decide +kernel
theorem dX1_reach_13 : decode cX1_reach 13 = .ok (.iload_n 1, 1) := by decide +kernel
theorem dX1_reach_14 : decode cX1_reach 14 = .ok (.bipush 7, 2) := by decide +kernel
theorem dX1_reach_16 : decode cX1_reach 16 = .ok (.imul, 1) := by decide +kernel
theorem dX1_reach_17 : decode cX1_reach 17 = .ok (.iload_n 2, 1) := by decide +kernel
theorem dX1_reach_18 : decode cX1_reach 18 = .ok (.iadd, 1) := by decide +kernel
theorem dX1_reach_19 : decode cX1_reach 19 = .ok (.istore 6, 2) := by decide +kernel
theorem dX1_reach_21 : decode cX1_reach 21 = .ok (.lconst 1, 1) := by decide +kernel
theorem dX1_reach_22 : decode cX1_reach 22 = .ok (.iload 5, 2) := by decide +kernel
theorem dX1_reach_24 : decode cX1_reach 24 = .ok (.bipush 63, 2) := by decide +kernel
theorem dX1_reach_26 : decode cX1_reach 26 = .ok (.iand, 1) := by decide +kernel
theorem dX1_reach_27 : decode cX1_reach 27 = .ok (.lshl, 1) := by decide +kernel
theorem dX1_reach_28 : decode cX1_reach 28 = .ok (.lstore 7, 2) := by decide +kernel
theorem dX1_reach_30 : decode cX1_reach 30 = .ok (.iconst 2, 1) := by decide +kernel
theorem dX1_reach_31 : decode cX1_reach 31 = .ok (.iload 6, 2) := by decide +kernel
theorem dX1_reach_33 : decode cX1_reach 33 = .ok (.imul, 1) := by decide +kernel
theorem dX1_reach_34 : decode cX1_reach 34 = .ok (.iload 5, 2) := by decide +kernel
theorem dX1_reach_36 : decode cX1_reach 36 = .ok (.bipush 6, 2) := by decide +kernel
theorem dX1_reach_38 : decode cX1_reach 38 = .ok (.ishr, 1) := by decide +kernel
theorem dX1_reach_39 : decode cX1_reach 39 = .ok (.iadd, 1) := by decide +kernel
theorem dX1_reach_40 : decode cX1_reach 40 = .ok (.istore 9, 2) := by decide +kernel
theorem dX1_reach_42 : decode cX1_reach 42 = .ok (.aload_n 0, 1) := by decide +kernel
theorem dX1_reach_43 : decode cX1_reach 43 = .ok (.getfield 38, 3) := by decide +kernel
theorem dX1_reach_46 : decode cX1_reach 46 = .ok (.sipush 1792, 3) := by decide +kernel
theorem dX1_reach_49 : decode cX1_reach 49 = .ok (.if_icmp .ge 18, 3) := by decide +kernel
theorem dX1_reach_67 : decode cX1_reach 67 = .ok (.return_, 1) := by decide +kernel
theorem dX1_reach_52 : decode cX1_reach 52 = .ok (.aload_n 0, 1) := by decide +kernel
theorem dX1_reach_53 : decode cX1_reach 53 = .ok (.getfield 11, 3) := by decide +kernel
theorem dX1_reach_56 : decode cX1_reach 56 = .ok (.iload 9, 2) := by decide +kernel
theorem dX1_reach_58 : decode cX1_reach 58 = .ok (.laload, 1) := by decide +kernel
theorem dX1_reach_59 : decode cX1_reach 59 = .ok (.lload 7, 2) := by decide +kernel
theorem dX1_reach_61 : decode cX1_reach 61 = .ok (.land, 1) := by decide +kernel
theorem dX1_reach_62 : decode cX1_reach 62 = .ok (.lconst 0, 1) := by decide +kernel
theorem dX1_reach_63 : decode cX1_reach 63 = .ok (.lcmp, 1) := by decide +kernel
theorem dX1_reach_64 : decode cX1_reach 64 = .ok (.ifCond .eq 4, 3) := by decide +kernel
theorem dX1_reach_68 : decode cX1_reach 68 = .ok (.aload_n 0, 1) := by decide +kernel
theorem dX1_reach_69 : decode cX1_reach 69 = .ok (.getfield 11, 3) := by decide +kernel
theorem dX1_reach_72 : decode cX1_reach 72 = .ok (.iload 9, 2) := by decide +kernel
theorem dX1_reach_74 : decode cX1_reach 74 = .ok (.dup2, 1) := by decide +kernel
theorem dX1_reach_75 : decode cX1_reach 75 = .ok (.laload, 1) := by decide +kernel
theorem dX1_reach_76 : decode cX1_reach 76 = .ok (.lload 7, 2) := by decide +kernel
theorem dX1_reach_78 : decode cX1_reach 78 = .ok (.lor, 1) := by decide +kernel
theorem dX1_reach_79 : decode cX1_reach 79 = .ok (.lastore, 1) := by decide +kernel
theorem dX1_reach_80 : decode cX1_reach 80 = .ok (.aload_n 0, 1) := by decide +kernel
theorem dX1_reach_81 : decode cX1_reach 81 = .ok (.getfield 15, 3) := by decide +kernel
theorem dX1_reach_84 : decode cX1_reach 84 = .ok (.aload_n 0, 1) := by decide +kernel
theorem dX1_reach_85 : decode cX1_reach 85 = .ok (.getfield 38, 3) := by decide +kernel
theorem dX1_reach_88 : decode cX1_reach 88 = .ok (.iload 6, 2) := by decide +kernel
theorem dX1_reach_90 : decode cX1_reach 90 = .ok (.sipush 128, 3) := by decide +kernel
theorem dX1_reach_93 : decode cX1_reach 93 = .ok (.imul, 1) := by decide +kernel
theorem dX1_reach_94 : decode cX1_reach 94 = .ok (.iload 5, 2) := by decide +kernel
theorem dX1_reach_96 : decode cX1_reach 96 = .ok (.iadd, 1) := by decide +kernel
theorem dX1_reach_97 : decode cX1_reach 97 = .ok (.iastore, 1) := by decide +kernel
theorem dX1_reach_98 : decode cX1_reach 98 = .ok (.aload_n 0, 1) := by decide +kernel
theorem dX1_reach_99 : decode cX1_reach 99 = .ok (.getfield 19, 3) := by decide +kernel
theorem dX1_reach_102 : decode cX1_reach 102 = .ok (.aload_n 0, 1) := by decide +kernel
theorem dX1_reach_103 : decode cX1_reach 103 = .ok (.getfield 38, 3) := by decide +kernel
theorem dX1_reach_106 : decode cX1_reach 106 = .ok (.iload 4, 2) := by decide +kernel
theorem dX1_reach_108 : decode cX1_reach 108 = .ok (.iastore, 1) := by decide +kernel
theorem dX1_reach_109 : decode cX1_reach 109 = .ok (.iload 5, 2) := by decide +kernel
theorem dX1_reach_130 : decode cX1_reach 130 = .ok (.aload_n 0, 1) := by decide +kernel
theorem dX1_reach_131 : decode cX1_reach 131 = .ok (.dup, 1) := by decide +kernel
theorem dX1_reach_132 : decode cX1_reach 132 = .ok (.getfield 38, 3) := by decide +kernel
theorem dX1_reach_135 : decode cX1_reach 135 = .ok (.iconst 1, 1) := by decide +kernel
theorem dX1_reach_136 : decode cX1_reach 136 = .ok (.iadd, 1) := by decide +kernel
theorem dX1_reach_137 : decode cX1_reach 137 = .ok (.putfield 38, 3) := by decide +kernel
theorem dX1_reach_140 : decode cX1_reach 140 = .ok (.return_, 1) := by decide +kernel
theorem dX1_reach_111 : decode cX1_reach 111 = .ok (.ifCond .ne 19, 3) := by decide +kernel
theorem dX1_reach_114 : decode cX1_reach 114 = .ok (.aload_n 0, 1) := by decide +kernel
theorem dX1_reach_115 : decode cX1_reach 115 = .ok (.getfield 28, 3) := by decide +kernel
theorem dX1_reach_118 : decode cX1_reach 118 = .ok (.iconst (-1), 1) := by decide +kernel
theorem dX1_reach_119 : decode cX1_reach 119 = .ok (.if_icmp .ne 11, 3) := by decide +kernel
theorem dX1_reach_122 : decode cX1_reach 122 = .ok (.aload_n 0, 1) := by decide +kernel
theorem dX1_reach_123 : decode cX1_reach 123 = .ok (.aload_n 0, 1) := by decide +kernel
theorem dX1_reach_124 : decode cX1_reach 124 = .ok (.getfield 38, 3) := by decide +kernel
theorem dX1_reach_127 : decode cX1_reach 127 = .ok (.putfield 28, 3) := by decide +kernel
theorem dX1_goOn_0 : decode cX1_goOn 0 = .ok (.aload_n 0, 1) := by decide +kernel
theorem dX1_goOn_1 : decode cX1_goOn 1 = .ok (.getfield 15, 3) := by decide +kernel
theorem dX1_goOn_4 : decode cX1_goOn 4 = .ok (.iload_n 2, 1) := by decide +kernel
theorem dX1_goOn_5 : decode cX1_goOn 5 = .ok (.iaload, 1) := by decide +kernel
theorem dX1_goOn_6 : decode cX1_goOn 6 = .ok (.sipush 128, 3) := by decide +kernel
theorem dX1_goOn_9 : decode cX1_goOn 9 = .ok (.idiv, 1) := by decide +kernel
theorem dX1_goOn_10 : decode cX1_goOn 10 = .ok (.istore 4, 2) := by decide +kernel
theorem dX1_goOn_12 : decode cX1_goOn 12 = .ok (.aload_n 1, 1) := by decide +kernel
theorem dX1_goOn_13 : decode cX1_goOn 13 = .ok (.aload_n 0, 1) := by decide +kernel
theorem dX1_goOn_14 : decode cX1_goOn 14 = .ok (.getfield 15, 3) := by decide +kernel
theorem dX1_goOn_17 : decode cX1_goOn 17 = .ok (.iload_n 2, 1) := by decide +kernel
theorem dX1_goOn_18 : decode cX1_goOn 18 = .ok (.iaload, 1) := by decide +kernel
theorem dX1_goOn_19 : decode cX1_goOn 19 = .ok (.sipush 128, 3) := by decide +kernel
theorem dX1_goOn_22 : decode cX1_goOn 22 = .ok (.irem, 1) := by decide +kernel
theorem dX1_goOn_23 : decode cX1_goOn 23 = .ok (.invokevirtual 72, 3) := by decide +kernel
theorem dX1_goOn_26 : decode cX1_goOn 26 = .ok (.istore 5, 2) := by decide +kernel
theorem dX1_goOn_28 : decode cX1_goOn 28 = .ok (.iload 4, 2) := by decide +kernel
theorem dX1_goOn_30 : decode cX1_goOn 30 = .ok (.bipush 7, 2) := by decide +kernel
theorem dX1_goOn_32 : decode cX1_goOn 32 = .ok (.idiv, 1) := by decide +kernel
theorem dX1_goOn_33 : decode cX1_goOn 33 = .ok (.istore 6, 2) := by decide +kernel
theorem dX1_goOn_35 : decode cX1_goOn 35 = .ok (.iload 4, 2) := by decide +kernel
theorem dX1_goOn_37 : decode cX1_goOn 37 = .ok (.bipush 7, 2) := by decide +kernel
theorem dX1_goOn_39 : decode cX1_goOn 39 = .ok (.irem, 1) := by decide +kernel
theorem dX1_goOn_40 : decode cX1_goOn 40 = .ok (.istore 7, 2) := by decide +kernel
theorem dX1_goOn_42 : decode cX1_goOn 42 = .ok (.iconst 0, 1) := by decide +kernel
theorem dX1_goOn_43 : decode cX1_goOn 43 = .ok (.istore 8, 2) := by decide +kernel
theorem dX1_goOn_45 : decode cX1_goOn 45 = .ok (.iload 8, 2) := by decide +kernel
theorem dX1_goOn_47 : decode cX1_goOn 47 = .ok (.aload_n 1, 1) := by decide +kernel
theorem dX1_goOn_48 : decode cX1_goOn 48 = .ok (.getfield 65, 3) := by decide +kernel
theorem dX1_goOn_51 : decode cX1_goOn 51 = .ok (.if_icmp .ge 77, 3) := by decide +kernel
theorem dX1_goOn_128 : decode cX1_goOn 128 = .ok (.return_, 1) := by decide +kernel
theorem dX1_goOn_54 : decode cX1_goOn 54 = .ok (.aload_n 1, 1) := by decide +kernel
theorem dX1_goOn_55 : decode cX1_goOn 55 = .ok (.iload 6, 2) := by decide +kernel
theorem dX1_goOn_57 : decode cX1_goOn 57 = .ok (.iload 8, 2) := by decide +kernel
theorem dX1_goOn_59 : decode cX1_goOn 59 = .ok (.invokevirtual 81, 3) := by decide +kernel
theorem dX1_goOn_122 : decode cX1_goOn 122 = .ok (.iinc 8 1, 3) := by decide +kernel
theorem dX1_goOn_125 : decode cX1_goOn 125 = .ok (.goto (-80), 3) := by decide +kernel
theorem dX1_goOn_62 : decode cX1_goOn 62 = .ok (.ifCond .ne 6, 3) := by decide +kernel
theorem dX1_goOn_68 : decode cX1_goOn 68 = .ok (.iconst 0, 1) := by decide +kernel
theorem dX1_goOn_69 : decode cX1_goOn 69 = .ok (.istore 9, 2) := by decide +kernel
theorem dX1_goOn_71 : decode cX1_goOn 71 = .ok (.iload 9, 2) := by decide +kernel
theorem dX1_goOn_73 : decode cX1_goOn 73 = .ok (.aload_n 1, 1) := by decide +kernel
theorem dX1_goOn_74 : decode cX1_goOn 74 = .ok (.getfield 65, 3) := by decide +kernel
theorem dX1_goOn_77 : decode cX1_goOn 77 = .ok (.if_icmp .ge 45, 3) := by decide +kernel
theorem dX1_goOn_80 : decode cX1_goOn 80 = .ok (.iload_n 3, 1) := by decide +kernel
theorem dX1_goOn_116 : decode cX1_goOn 116 = .ok (.iinc 9 1, 3) := by decide +kernel
theorem dX1_goOn_119 : decode cX1_goOn 119 = .ok (.goto (-48), 3) := by decide +kernel
theorem dX1_goOn_105 : decode cX1_goOn 105 = .ok (.aload_n 0, 1) := by decide +kernel
theorem dX1_goOn_106 : decode cX1_goOn 106 = .ok (.iload 8, 2) := by decide +kernel
theorem dX1_goOn_108 : decode cX1_goOn 108 = .ok (.iload 9, 2) := by decide +kernel
theorem dX1_goOn_110 : decode cX1_goOn 110 = .ok (.iload 5, 2) := by decide +kernel
theorem dX1_goOn_112 : decode cX1_goOn 112 = .ok (.iload_n 2, 1) := by decide +kernel
theorem dX1_goOn_113 : decode cX1_goOn 113 = .ok (.invokevirtual 47, 3) := by decide +kernel
theorem dX1_goOn_81 : decode cX1_goOn 81 = .ok (.ifCond .eq 13, 3) := by decide +kernel
theorem dX1_goOn_94 : decode cX1_goOn 94 = .ok (.aload_n 1, 1) := by decide +kernel
theorem dX1_goOn_95 : decode cX1_goOn 95 = .ok (.iload 7, 2) := by decide +kernel
theorem dX1_goOn_97 : decode cX1_goOn 97 = .ok (.iload 9, 2) := by decide +kernel
theorem dX1_goOn_99 : decode cX1_goOn 99 = .ok (.invokevirtual 81, 3) := by decide +kernel
theorem dX1_goOn_102 : decode cX1_goOn 102 = .ok (.ifCond .eq 14, 3) := by decide +kernel
theorem dX1_goOn_84 : decode cX1_goOn 84 = .ok (.iload 9, 2) := by decide +kernel
theorem dX1_goOn_86 : decode cX1_goOn 86 = .ok (.iload 8, 2) := by decide +kernel
theorem dX1_goOn_88 : decode cX1_goOn 88 = .ok (.if_icmp .ne 28, 3) := by decide +kernel
theorem dX1_goOn_91 : decode cX1_goOn 91 = .ok (.goto 14, 3) := by decide +kernel
theorem dX1_goOn_65 : decode cX1_goOn 65 = .ok (.goto 57, 3) := by decide +kernel
theorem dX1_hunt_0 : decode cX1_hunt 0 = .ok (.aload_n 0, 1) := by decide +kernel
theorem dX1_hunt_1 : decode cX1_hunt 1 = .ok (.getfield 11, 3) := by decide +kernel
theorem dX1_hunt_4 : decode cX1_hunt 4 = .ok (.lconst 0, 1) := by decide +kernel
theorem dX1_hunt_5 : decode cX1_hunt 5 = .ok (.invokestatic 32, 3) := by decide +kernel
theorem dX1_hunt_8 : decode cX1_hunt 8 = .ok (.aload_n 0, 1) := by decide +kernel
theorem dX1_hunt_9 : decode cX1_hunt 9 = .ok (.iconst 0, 1) := by decide +kernel
theorem dX1_hunt_10 : decode cX1_hunt 10 = .ok (.putfield 38, 3) := by decide +kernel
theorem dX1_hunt_13 : decode cX1_hunt 13 = .ok (.aload_n 0, 1) := by decide +kernel
theorem dX1_hunt_14 : decode cX1_hunt 14 = .ok (.iconst (-1), 1) := by decide +kernel
theorem dX1_hunt_15 : decode cX1_hunt 15 = .ok (.putfield 28, 3) := by decide +kernel
theorem dX1_hunt_18 : decode cX1_hunt 18 = .ok (.aload_n 0, 1) := by decide +kernel
theorem dX1_hunt_19 : decode cX1_hunt 19 = .ok (.iload_n 2, 1) := by decide +kernel
theorem dX1_hunt_20 : decode cX1_hunt 20 = .ok (.iload_n 3, 1) := by decide +kernel
theorem dX1_hunt_21 : decode cX1_hunt 21 = .ok (.aload_n 1, 1) := by decide +kernel
theorem dX1_hunt_22 : decode cX1_hunt 22 = .ok (.invokevirtual 41, 3) := by decide +kernel
theorem dX1_hunt_25 : decode cX1_hunt 25 = .ok (.iconst (-1), 1) := by decide +kernel
theorem dX1_hunt_26 : decode cX1_hunt 26 = .ok (.invokevirtual 47, 3) := by decide +kernel
theorem dX1_hunt_29 : decode cX1_hunt 29 = .ok (.iconst 0, 1) := by decide +kernel
theorem dX1_hunt_30 : decode cX1_hunt 30 = .ok (.istore 5, 2) := by decide +kernel
theorem dX1_hunt_32 : decode cX1_hunt 32 = .ok (.iload 5, 2) := by decide +kernel
theorem dX1_hunt_34 : decode cX1_hunt 34 = .ok (.aload_n 0, 1) := by decide +kernel
theorem dX1_hunt_35 : decode cX1_hunt 35 = .ok (.getfield 38, 3) := by decide +kernel
theorem dX1_hunt_72 : decode cX1_hunt 72 = .ok (.aload_n 0, 1) := by decide +kernel
theorem dX1_hunt_73 : decode cX1_hunt 73 = .ok (.getfield 28, 3) := by decide +kernel
theorem dX1_hunt_76 : decode cX1_hunt 76 = .ok (.iconst (-1), 1) := by decide +kernel
theorem dX1_hunt_77 : decode cX1_hunt 77 = .ok (.if_icmp .eq 7, 3) := by decide +kernel
theorem dX1_hunt_84 : decode cX1_hunt 84 = .ok (.iconst 0, 1) := by decide +kernel
theorem dX1_hunt_85 : decode cX1_hunt 85 = .ok (.ireturn, 1) := by decide +kernel
theorem dX1_hunt_80 : decode cX1_hunt 80 = .ok (.iconst 1, 1) := by decide +kernel
theorem dX1_hunt_81 : decode cX1_hunt 81 = .ok (.goto 4, 3) := by decide +kernel
theorem dX1_hunt_38 : decode cX1_hunt 38 = .ok (.if_icmp .ge 34, 3) := by decide +kernel
theorem dX1_hunt_41 : decode cX1_hunt 41 = .ok (.iload 5, 2) := by decide +kernel
theorem dX1_hunt_43 : decode cX1_hunt 43 = .ok (.sipush 1792, 3) := by decide +kernel
theorem dX1_hunt_46 : decode cX1_hunt 46 = .ok (.if_icmp .ge 26, 3) := by decide +kernel
theorem dX1_hunt_49 : decode cX1_hunt 49 = .ok (.aload_n 0, 1) := by decide +kernel
theorem dX1_hunt_50 : decode cX1_hunt 50 = .ok (.getfield 28, 3) := by decide +kernel
theorem dX1_hunt_53 : decode cX1_hunt 53 = .ok (.iconst (-1), 1) := by decide +kernel
theorem dX1_hunt_54 : decode cX1_hunt 54 = .ok (.if_icmp .ne 18, 3) := by decide +kernel
theorem dX1_hunt_57 : decode cX1_hunt 57 = .ok (.aload_n 0, 1) := by decide +kernel
theorem dX1_hunt_58 : decode cX1_hunt 58 = .ok (.aload_n 1, 1) := by decide +kernel
theorem dX1_hunt_59 : decode cX1_hunt 59 = .ok (.iload 5, 2) := by decide +kernel
theorem dX1_hunt_61 : decode cX1_hunt 61 = .ok (.iload 4, 2) := by decide +kernel
theorem dX1_hunt_63 : decode cX1_hunt 63 = .ok (.invokevirtual 51, 3) := by decide +kernel
theorem dX1_hunt_66 : decode cX1_hunt 66 = .ok (.iinc 5 1, 3) := by decide +kernel
theorem dX1_hunt_69 : decode cX1_hunt 69 = .ok (.goto (-37), 3) := by decide +kernel
theorem dX1_minutesToClear_0 : decode cX1_minutesToClear 0 = .ok (.aload_n 0, 1) := by decide +kernel
theorem dX1_minutesToClear_1 : decode cX1_minutesToClear 1 = .ok (.getfield 28, 3) := by decide +kernel
theorem dX1_minutesToClear_4 : decode cX1_minutesToClear 4 = .ok (.iconst (-1), 1) := by decide +kernel
theorem dX1_minutesToClear_5 : decode cX1_minutesToClear 5 = .ok (.if_icmp .ne 5, 3) := by decide +kernel
theorem dX1_minutesToClear_10 : decode cX1_minutesToClear 10 = .ok (.iconst 0, 1) := by decide +kernel
theorem dX1_minutesToClear_11 : decode cX1_minutesToClear 11 = .ok (.istore_n 1, 1) := by decide +kernel
theorem dX1_minutesToClear_12 : decode cX1_minutesToClear 12 = .ok (.aload_n 0, 1) := by decide +kernel
theorem dX1_minutesToClear_13 : decode cX1_minutesToClear 13 = .ok (.getfield 19, 3) := by decide +kernel
theorem dX1_minutesToClear_16 : decode cX1_minutesToClear 16 = .ok (.aload_n 0, 1) := by decide +kernel
theorem dX1_minutesToClear_17 : decode cX1_minutesToClear 17 = .ok (.getfield 28, 3) := by decide +kernel
theorem dX1_minutesToClear_20 : decode cX1_minutesToClear 20 = .ok (.iaload, 1) := by decide +kernel
theorem dX1_minutesToClear_21 : decode cX1_minutesToClear 21 = .ok (.istore_n 2, 1) := by decide +kernel
theorem dX1_minutesToClear_22 : decode cX1_minutesToClear 22 = .ok (.iconst 0, 1) := by decide +kernel
theorem dX1_minutesToClear_23 : decode cX1_minutesToClear 23 = .ok (.istore_n 3, 1) := by decide +kernel
theorem dX1_minutesToClear_24 : decode cX1_minutesToClear 24 = .ok (.iload_n 3, 1) := by decide +kernel
theorem dX1_minutesToClear_25 : decode cX1_minutesToClear 25 = .ok (.sipush 1792, 3) := by decide +kernel
theorem dX1_minutesToClear_28 : decode cX1_minutesToClear 28 = .ok (.if_icmp .ge 24, 3) := by decide +kernel
theorem dX1_minutesToClear_52 : decode cX1_minutesToClear 52 = .ok (.iload_n 1, 1) := by decide +kernel
theorem dX1_minutesToClear_53 : decode cX1_minutesToClear 53 = .ok (.ireturn, 1) := by decide +kernel
theorem dX1_minutesToClear_31 : decode cX1_minutesToClear 31 = .ok (.iload_n 2, 1) := by decide +kernel
theorem dX1_minutesToClear_32 : decode cX1_minutesToClear 32 = .ok (.iconst (-1), 1) := by decide +kernel
theorem dX1_minutesToClear_33 : decode cX1_minutesToClear 33 = .ok (.if_icmp .eq 19, 3) := by decide +kernel
theorem dX1_minutesToClear_36 : decode cX1_minutesToClear 36 = .ok (.iinc 1 1, 3) := by decide +kernel
theorem dX1_minutesToClear_39 : decode cX1_minutesToClear 39 = .ok (.aload_n 0, 1) := by decide +kernel
theorem dX1_minutesToClear_40 : decode cX1_minutesToClear 40 = .ok (.getfield 19, 3) := by decide +kernel
theorem dX1_minutesToClear_43 : decode cX1_minutesToClear 43 = .ok (.iload_n 2, 1) := by decide +kernel
theorem dX1_minutesToClear_44 : decode cX1_minutesToClear 44 = .ok (.iaload, 1) := by decide +kernel
theorem dX1_minutesToClear_45 : decode cX1_minutesToClear 45 = .ok (.istore_n 2, 1) := by decide +kernel
theorem dX1_minutesToClear_46 : decode cX1_minutesToClear 46 = .ok (.iinc 3 1, 3) := by decide +kernel
theorem dX1_minutesToClear_49 : decode cX1_minutesToClear 49 = .ok (.goto (-25), 3) := by decide +kernel
theorem dX1_minutesToClear_8 : decode cX1_minutesToClear 8 = .ok (.iconst (-1), 1) := by decide +kernel
theorem dX1_minutesToClear_9 : decode cX1_minutesToClear 9 = .ok (.ireturn, 1) := by decide +kernel
theorem dX1_placeOf_0 : decode cX1_placeOf 0 = .ok (.aload_n 0, 1) := by decide +kernel
theorem dX1_placeOf_1 : decode cX1_placeOf 1 = .ok (.invokevirtual 55, 3) := by decide +kernel
theorem dX1_placeOf_4 : decode cX1_placeOf 4 = .ok (.istore_n 3, 1) := by decide +kernel
theorem dX1_placeOf_5 : decode cX1_placeOf 5 = .ok (.iload_n 2, 1) := by decide +kernel
theorem dX1_placeOf_6 : decode cX1_placeOf 6 = .ok (.ifCond .lt 8, 3) := by decide +kernel
theorem dX1_placeOf_14 : decode cX1_placeOf 14 = .ok (.iconst (-1), 1) := by decide +kernel
theorem dX1_placeOf_15 : decode cX1_placeOf 15 = .ok (.ireturn, 1) := by decide +kernel
theorem dX1_placeOf_9 : decode cX1_placeOf 9 = .ok (.iload_n 2, 1) := by decide +kernel
theorem dX1_placeOf_10 : decode cX1_placeOf 10 = .ok (.iload_n 3, 1) := by decide +kernel
theorem dX1_placeOf_11 : decode cX1_placeOf 11 = .ok (.if_icmp .lt 5, 3) := by decide +kernel
theorem dX1_placeOf_16 : decode cX1_placeOf 16 = .ok (.aload_n 0, 1) := by decide +kernel
theorem dX1_placeOf_17 : decode cX1_placeOf 17 = .ok (.getfield 28, 3) := by decide +kernel
theorem dX1_placeOf_20 : decode cX1_placeOf 20 = .ok (.istore 4, 2) := by decide +kernel
theorem dX1_placeOf_22 : decode cX1_placeOf 22 = .ok (.iload_n 3, 1) := by decide +kernel
theorem dX1_placeOf_23 : decode cX1_placeOf 23 = .ok (.iconst 1, 1) := by decide +kernel
theorem dX1_placeOf_24 : decode cX1_placeOf 24 = .ok (.isub, 1) := by decide +kernel
theorem dX1_placeOf_25 : decode cX1_placeOf 25 = .ok (.istore 5, 2) := by decide +kernel
theorem dX1_placeOf_27 : decode cX1_placeOf 27 = .ok (.iload 5, 2) := by decide +kernel
theorem dX1_placeOf_29 : decode cX1_placeOf 29 = .ok (.iload_n 2, 1) := by decide +kernel
theorem dX1_placeOf_59 : decode cX1_placeOf 59 = .ok (.aload_n 0, 1) := by decide +kernel
theorem dX1_placeOf_60 : decode cX1_placeOf 60 = .ok (.getfield 15, 3) := by decide +kernel
theorem dX1_placeOf_63 : decode cX1_placeOf 63 = .ok (.iload 4, 2) := by decide +kernel
theorem dX1_placeOf_65 : decode cX1_placeOf 65 = .ok (.iaload, 1) := by decide +kernel
theorem dX1_placeOf_66 : decode cX1_placeOf 66 = .ok (.sipush 128, 3) := by decide +kernel
theorem dX1_placeOf_69 : decode cX1_placeOf 69 = .ok (.idiv, 1) := by decide +kernel
theorem dX1_placeOf_70 : decode cX1_placeOf 70 = .ok (.istore 5, 2) := by decide +kernel
theorem dX1_placeOf_72 : decode cX1_placeOf 72 = .ok (.iload_n 1, 1) := by decide +kernel
theorem dX1_placeOf_73 : decode cX1_placeOf 73 = .ok (.ifCond .ne 11, 3) := by decide +kernel
theorem dX1_placeOf_84 : decode cX1_placeOf 84 = .ok (.iload 5, 2) := by decide +kernel
theorem dX1_placeOf_86 : decode cX1_placeOf 86 = .ok (.bipush 7, 2) := by decide +kernel
theorem dX1_placeOf_88 : decode cX1_placeOf 88 = .ok (.irem, 1) := by decide +kernel
theorem dX1_placeOf_89 : decode cX1_placeOf 89 = .ok (.ireturn, 1) := by decide +kernel
theorem dX1_placeOf_76 : decode cX1_placeOf 76 = .ok (.iload 5, 2) := by decide +kernel
theorem dX1_placeOf_78 : decode cX1_placeOf 78 = .ok (.bipush 7, 2) := by decide +kernel
theorem dX1_placeOf_80 : decode cX1_placeOf 80 = .ok (.idiv, 1) := by decide +kernel
theorem dX1_placeOf_81 : decode cX1_placeOf 81 = .ok (.goto 8, 3) := by decide +kernel
theorem dX1_placeOf_30 : decode cX1_placeOf 30 = .ok (.if_icmp .le 29, 3) := by decide +kernel
theorem dX1_placeOf_33 : decode cX1_placeOf 33 = .ok (.aload_n 0, 1) := by decide +kernel
theorem dX1_placeOf_34 : decode cX1_placeOf 34 = .ok (.getfield 19, 3) := by decide +kernel
theorem dX1_placeOf_37 : decode cX1_placeOf 37 = .ok (.iload 4, 2) := by decide +kernel
theorem dX1_placeOf_39 : decode cX1_placeOf 39 = .ok (.iaload, 1) := by decide +kernel
theorem dX1_placeOf_40 : decode cX1_placeOf 40 = .ok (.iconst (-1), 1) := by decide +kernel
theorem dX1_placeOf_41 : decode cX1_placeOf 41 = .ok (.if_icmp .eq 18, 3) := by decide +kernel
theorem dX1_placeOf_44 : decode cX1_placeOf 44 = .ok (.aload_n 0, 1) := by decide +kernel
theorem dX1_placeOf_45 : decode cX1_placeOf 45 = .ok (.getfield 19, 3) := by decide +kernel
theorem dX1_placeOf_48 : decode cX1_placeOf 48 = .ok (.iload 4, 2) := by decide +kernel
theorem dX1_placeOf_50 : decode cX1_placeOf 50 = .ok (.iaload, 1) := by decide +kernel
theorem dX1_placeOf_51 : decode cX1_placeOf 51 = .ok (.istore 4, 2) := by decide +kernel
theorem dX1_placeOf_53 : decode cX1_placeOf 53 = .ok (.iinc 5 (-1), 3) := by decide +kernel
theorem dX1_placeOf_56 : decode cX1_placeOf 56 = .ok (.goto (-29), 3) := by decide +kernel
theorem dX1_findLeaders_0 : decode cX1_findLeaders 0 = .ok (.iconst 0, 1) := by decide +kernel
theorem dX1_findLeaders_1 : decode cX1_findLeaders 1 = .ok (.istore_n 2, 1) := by decide +kernel
theorem dX1_findLeaders_2 : decode cX1_findLeaders 2 = .ok (.iload_n 2, 1) := by decide +kernel
theorem dX1_findLeaders_3 : decode cX1_findLeaders 3 = .ok (.aload_n 1, 1) := by decide +kernel
theorem dX1_findLeaders_4 : decode cX1_findLeaders 4 = .ok (.getfield 65, 3) := by decide +kernel
theorem dX1_findLeaders_7 : decode cX1_findLeaders 7 = .ok (.if_icmp .ge 45, 3) := by decide +kernel
theorem dX1_findLeaders_52 : decode cX1_findLeaders 52 = .ok (.return_, 1) := by decide +kernel
theorem dX1_findLeaders_10 : decode cX1_findLeaders 10 = .ok (.iconst 1, 1) := by decide +kernel
theorem dX1_findLeaders_11 : decode cX1_findLeaders 11 = .ok (.iload_n 2, 1) := by decide +kernel
theorem dX1_findLeaders_12 : decode cX1_findLeaders 12 = .ok (.ishl, 1) := by decide +kernel
theorem dX1_findLeaders_13 : decode cX1_findLeaders 13 = .ok (.istore_n 3, 1) := by decide +kernel
theorem dX1_findLeaders_14 : decode cX1_findLeaders 14 = .ok (.iconst 0, 1) := by decide +kernel
theorem dX1_findLeaders_15 : decode cX1_findLeaders 15 = .ok (.istore 4, 2) := by decide +kernel
theorem dX1_findLeaders_17 : decode cX1_findLeaders 17 = .ok (.iload 4, 2) := by decide +kernel
theorem dX1_findLeaders_19 : decode cX1_findLeaders 19 = .ok (.bipush 7, 2) := by decide +kernel
theorem dX1_findLeaders_21 : decode cX1_findLeaders 21 = .ok (.if_icmp .ge 15, 3) := by decide +kernel
theorem dX1_findLeaders_36 : decode cX1_findLeaders 36 = .ok (.aload_n 0, 1) := by decide +kernel
theorem dX1_findLeaders_37 : decode cX1_findLeaders 37 = .ok (.getfield 22, 3) := by decide +kernel
theorem dX1_findLeaders_40 : decode cX1_findLeaders 40 = .ok (.iload_n 2, 1) := by decide +kernel
theorem dX1_findLeaders_41 : decode cX1_findLeaders 41 = .ok (.iload_n 3, 1) := by decide +kernel
theorem dX1_findLeaders_42 : decode cX1_findLeaders 42 = .ok (.invokestatic 76, 3) := by decide +kernel
theorem dX1_findLeaders_45 : decode cX1_findLeaders 45 = .ok (.iastore, 1) := by decide +kernel
theorem dX1_findLeaders_46 : decode cX1_findLeaders 46 = .ok (.iinc 2 1, 3) := by decide +kernel
theorem dX1_findLeaders_49 : decode cX1_findLeaders 49 = .ok (.goto (-47), 3) := by decide +kernel
theorem dX1_findLeaders_24 : decode cX1_findLeaders 24 = .ok (.aload_n 1, 1) := by decide +kernel
theorem dX1_findLeaders_25 : decode cX1_findLeaders 25 = .ok (.iload_n 3, 1) := by decide +kernel
theorem dX1_findLeaders_26 : decode cX1_findLeaders 26 = .ok (.invokevirtual 72, 3) := by decide +kernel
theorem dX1_findLeaders_29 : decode cX1_findLeaders 29 = .ok (.istore_n 3, 1) := by decide +kernel
theorem dX1_findLeaders_30 : decode cX1_findLeaders 30 = .ok (.iinc 4 1, 3) := by decide +kernel
theorem dX1_findLeaders_33 : decode cX1_findLeaders 33 = .ok (.goto (-16), 3) := by decide +kernel
theorem dX1_pairsThatCan_0 : decode cX1_pairsThatCan 0 = .ok (.aload_n 0, 1) := by decide +kernel
theorem dX1_pairsThatCan_1 : decode cX1_pairsThatCan 1 = .ok (.getfield 25, 3) := by decide +kernel
theorem dX1_pairsThatCan_4 : decode cX1_pairsThatCan 4 = .ok (.iconst (-1), 1) := by decide +kernel
theorem dX1_pairsThatCan_5 : decode cX1_pairsThatCan 5 = .ok (.invokestatic 58, 3) := by decide +kernel
theorem dX1_pairsThatCan_8 : decode cX1_pairsThatCan 8 = .ok (.aload_n 0, 1) := by decide +kernel
theorem dX1_pairsThatCan_9 : decode cX1_pairsThatCan 9 = .ok (.aload_n 1, 1) := by decide +kernel
theorem dX1_pairsThatCan_10 : decode cX1_pairsThatCan 10 = .ok (.invokevirtual 61, 3) := by decide +kernel
theorem dX1_pairsThatCan_13 : decode cX1_pairsThatCan 13 = .ok (.iconst 0, 1) := by decide +kernel
theorem dX1_pairsThatCan_14 : decode cX1_pairsThatCan 14 = .ok (.istore_n 2, 1) := by decide +kernel
theorem dX1_pairsThatCan_15 : decode cX1_pairsThatCan 15 = .ok (.iconst 0, 1) := by decide +kernel
theorem dX1_pairsThatCan_16 : decode cX1_pairsThatCan 16 = .ok (.istore_n 3, 1) := by decide +kernel
theorem dX1_pairsThatCan_17 : decode cX1_pairsThatCan 17 = .ok (.iload_n 3, 1) := by decide +kernel
theorem dX1_pairsThatCan_18 : decode cX1_pairsThatCan 18 = .ok (.aload_n 1, 1) := by decide +kernel
theorem dX1_pairsThatCan_19 : decode cX1_pairsThatCan 19 = .ok (.getfield 65, 3) := by decide +kernel
theorem dX1_pairsThatCan_22 : decode cX1_pairsThatCan 22 = .ok (.if_icmp .ge 101, 3) := by decide +kernel
theorem dX1_pairsThatCan_123 : decode cX1_pairsThatCan 123 = .ok (.iload_n 2, 1) := by decide +kernel
theorem dX1_pairsThatCan_124 : decode cX1_pairsThatCan 124 = .ok (.ireturn, 1) := by decide +kernel
theorem dX1_pairsThatCan_25 : decode cX1_pairsThatCan 25 = .ok (.iload_n 3, 1) := by decide +kernel
theorem dX1_pairsThatCan_26 : decode cX1_pairsThatCan 26 = .ok (.istore 4, 2) := by decide +kernel
theorem dX1_pairsThatCan_28 : decode cX1_pairsThatCan 28 = .ok (.iload 4, 2) := by decide +kernel
theorem dX1_pairsThatCan_30 : decode cX1_pairsThatCan 30 = .ok (.aload_n 1, 1) := by decide +kernel
theorem dX1_pairsThatCan_31 : decode cX1_pairsThatCan 31 = .ok (.getfield 65, 3) := by decide +kernel
theorem dX1_pairsThatCan_34 : decode cX1_pairsThatCan 34 = .ok (.if_icmp .ge 83, 3) := by decide +kernel
theorem dX1_pairsThatCan_117 : decode cX1_pairsThatCan 117 = .ok (.iinc 3 1, 3) := by decide +kernel
theorem dX1_pairsThatCan_120 : decode cX1_pairsThatCan 120 = .ok (.goto (-103), 3) := by decide +kernel
theorem dX1_pairsThatCan_37 : decode cX1_pairsThatCan 37 = .ok (.aload_n 0, 1) := by decide +kernel
theorem dX1_pairsThatCan_38 : decode cX1_pairsThatCan 38 = .ok (.getfield 22, 3) := by decide +kernel
theorem dX1_pairsThatCan_41 : decode cX1_pairsThatCan 41 = .ok (.iload_n 3, 1) := by decide +kernel
theorem dX1_pairsThatCan_42 : decode cX1_pairsThatCan 42 = .ok (.iaload, 1) := by decide +kernel
theorem dX1_pairsThatCan_43 : decode cX1_pairsThatCan 43 = .ok (.bipush 7, 2) := by decide +kernel
theorem dX1_pairsThatCan_45 : decode cX1_pairsThatCan 45 = .ok (.imul, 1) := by decide +kernel
theorem dX1_pairsThatCan_46 : decode cX1_pairsThatCan 46 = .ok (.aload_n 0, 1) := by decide +kernel
theorem dX1_pairsThatCan_47 : decode cX1_pairsThatCan 47 = .ok (.getfield 22, 3) := by decide +kernel
theorem dX1_pairsThatCan_50 : decode cX1_pairsThatCan 50 = .ok (.iload 4, 2) := by decide +kernel
theorem dX1_pairsThatCan_52 : decode cX1_pairsThatCan 52 = .ok (.iaload, 1) := by decide +kernel
theorem dX1_pairsThatCan_53 : decode cX1_pairsThatCan 53 = .ok (.iadd, 1) := by decide +kernel
theorem dX1_pairsThatCan_54 : decode cX1_pairsThatCan 54 = .ok (.istore 5, 2) := by decide +kernel
theorem dX1_pairsThatCan_56 : decode cX1_pairsThatCan 56 = .ok (.aload_n 0, 1) := by decide +kernel
theorem dX1_pairsThatCan_57 : decode cX1_pairsThatCan 57 = .ok (.getfield 25, 3) := by decide +kernel
theorem dX1_pairsThatCan_60 : decode cX1_pairsThatCan 60 = .ok (.iload 5, 2) := by decide +kernel
theorem dX1_pairsThatCan_62 : decode cX1_pairsThatCan 62 = .ok (.iaload, 1) := by decide +kernel
theorem dX1_pairsThatCan_63 : decode cX1_pairsThatCan 63 = .ok (.iconst (-1), 1) := by decide +kernel
theorem dX1_pairsThatCan_101 : decode cX1_pairsThatCan 101 = .ok (.iload_n 2, 1) := by decide +kernel
theorem dX1_pairsThatCan_102 : decode cX1_pairsThatCan 102 = .ok (.aload_n 0, 1) := by decide +kernel
theorem dX1_pairsThatCan_103 : decode cX1_pairsThatCan 103 = .ok (.getfield 25, 3) := by decide +kernel
theorem dX1_pairsThatCan_106 : decode cX1_pairsThatCan 106 = .ok (.iload 5, 2) := by decide +kernel
theorem dX1_pairsThatCan_108 : decode cX1_pairsThatCan 108 = .ok (.iaload, 1) := by decide +kernel
theorem dX1_pairsThatCan_109 : decode cX1_pairsThatCan 109 = .ok (.iadd, 1) := by decide +kernel
theorem dX1_pairsThatCan_110 : decode cX1_pairsThatCan 110 = .ok (.istore_n 2, 1) := by decide +kernel
theorem dX1_pairsThatCan_111 : decode cX1_pairsThatCan 111 = .ok (.iinc 4 1, 3) := by decide +kernel
theorem dX1_pairsThatCan_114 : decode cX1_pairsThatCan 114 = .ok (.goto (-86), 3) := by decide +kernel
theorem dX1_pairsThatCan_64 : decode cX1_pairsThatCan 64 = .ok (.if_icmp .ne 37, 3) := by decide +kernel
theorem dX1_pairsThatCan_67 : decode cX1_pairsThatCan 67 = .ok (.aload_n 0, 1) := by decide +kernel
theorem dX1_pairsThatCan_68 : decode cX1_pairsThatCan 68 = .ok (.getfield 25, 3) := by decide +kernel
theorem dX1_pairsThatCan_71 : decode cX1_pairsThatCan 71 = .ok (.iload 5, 2) := by decide +kernel
theorem dX1_pairsThatCan_73 : decode cX1_pairsThatCan 73 = .ok (.aload_n 0, 1) := by decide +kernel
theorem dX1_pairsThatCan_74 : decode cX1_pairsThatCan 74 = .ok (.aload_n 1, 1) := by decide +kernel
theorem dX1_pairsThatCan_75 : decode cX1_pairsThatCan 75 = .ok (.aload_n 0, 1) := by decide +kernel
theorem dX1_pairsThatCan_76 : decode cX1_pairsThatCan 76 = .ok (.getfield 22, 3) := by decide +kernel
theorem dX1_pairsThatCan_79 : decode cX1_pairsThatCan 79 = .ok (.iload_n 3, 1) := by decide +kernel
theorem dX1_pairsThatCan_80 : decode cX1_pairsThatCan 80 = .ok (.iaload, 1) := by decide +kernel
theorem dX1_pairsThatCan_81 : decode cX1_pairsThatCan 81 = .ok (.aload_n 0, 1) := by decide +kernel
theorem dX1_pairsThatCan_82 : decode cX1_pairsThatCan 82 = .ok (.getfield 22, 3) := by decide +kernel
theorem dX1_pairsThatCan_85 : decode cX1_pairsThatCan 85 = .ok (.iload 4, 2) := by decide +kernel
theorem dX1_pairsThatCan_87 : decode cX1_pairsThatCan 87 = .ok (.iaload, 1) := by decide +kernel
theorem dX1_pairsThatCan_88 : decode cX1_pairsThatCan 88 = .ok (.iconst 0, 1) := by decide +kernel
theorem dX1_pairsThatCan_89 : decode cX1_pairsThatCan 89 = .ok (.invokevirtual 68, 3) := by decide +kernel
theorem dX1_pairsThatCan_100 : decode cX1_pairsThatCan 100 = .ok (.iastore, 1) := by decide +kernel
theorem dX1_pairsThatCan_92 : decode cX1_pairsThatCan 92 = .ok (.ifCond .eq 7, 3) := by decide +kernel
theorem dX1_pairsThatCan_99 : decode cX1_pairsThatCan 99 = .ok (.iconst 0, 1) := by decide +kernel
theorem dX1_pairsThatCan_95 : decode cX1_pairsThatCan 95 = .ok (.iconst 1, 1) := by decide +kernel
theorem dX1_pairsThatCan_96 : decode cX1_pairsThatCan 96 = .ok (.goto 4, 3) := by decide +kernel
theorem dX3_column_0 : decode cX3_column 0 = .ok (.iload_n 1, 1) := by decide +kernel
theorem dX3_column_1 : decode cX3_column 1 = .ok (.tableswitch 42 0 2 #[27, 32, 37], 27) := by decide +kernel
theorem dX3_column_28 : decode cX3_column 28 = .ok (.aload_n 0, 1) := by decide +kernel
theorem dX3_column_29 : decode cX3_column 29 = .ok (.getfield 9, 3) := by decide +kernel
theorem dX3_column_32 : decode cX3_column 32 = .ok (.areturn, 1) := by decide +kernel
theorem dX3_column_33 : decode cX3_column 33 = .ok (.aload_n 0, 1) := by decide +kernel
theorem dX3_column_34 : decode cX3_column 34 = .ok (.getfield 15, 3) := by decide +kernel
theorem dX3_column_37 : decode cX3_column 37 = .ok (.areturn, 1) := by decide +kernel
theorem dX3_column_38 : decode cX3_column 38 = .ok (.aload_n 0, 1) := by decide +kernel
theorem dX3_column_39 : decode cX3_column 39 = .ok (.getfield 18, 3) := by decide +kernel
theorem dX3_column_42 : decode cX3_column 42 = .ok (.areturn, 1) := by decide +kernel
theorem dX3_column_43 : decode cX3_column 43 = .ok (.aload_n 0, 1) := by decide +kernel
theorem dX3_column_44 : decode cX3_column 44 = .ok (.getfield 21, 3) := by decide +kernel
theorem dX3_column_47 : decode cX3_column 47 = .ok (.areturn, 1) := by decide +kernel
theorem dX0_stepAt_0 : decode cX0_stepAt 0 = .ok (.iload_n 1, 1) := by decide +kernel
theorem dX0_stepAt_1 : decode cX0_stepAt 1 = .ok (.ifCond .lt 19, 3) := by decide +kernel
theorem dX0_stepAt_20 : decode cX0_stepAt 20 = .ok (.iconst (-1), 1) := by decide +kernel
theorem dX0_stepAt_21 : decode cX0_stepAt 21 = .ok (.ireturn, 1) := by decide +kernel
theorem dX0_stepAt_4 : decode cX0_stepAt 4 = .ok (.iload_n 1, 1) := by decide +kernel
theorem dX0_stepAt_5 : decode cX0_stepAt 5 = .ok (.iconst 5, 1) := by decide +kernel
theorem dX0_stepAt_6 : decode cX0_stepAt 6 = .ok (.if_icmp .ge 14, 3) := by decide +kernel
theorem dX0_stepAt_9 : decode cX0_stepAt 9 = .ok (.aload_n 0, 1) := by decide +kernel
theorem dX0_stepAt_10 : decode cX0_stepAt 10 = .ok (.getfield 19, 3) := by decide +kernel
theorem dX0_stepAt_13 : decode cX0_stepAt 13 = .ok (.iconst 0, 1) := by decide +kernel
theorem dX0_stepAt_14 : decode cX0_stepAt 14 = .ok (.aaload, 1) := by decide +kernel
theorem dX0_stepAt_15 : decode cX0_stepAt 15 = .ok (.iload_n 1, 1) := by decide +kernel
theorem dX0_stepAt_16 : decode cX0_stepAt 16 = .ok (.iaload, 1) := by decide +kernel
theorem dX0_stepAt_17 : decode cX0_stepAt 17 = .ok (.goto 4, 3) := by decide +kernel
theorem dX0_keepWay_0 : decode cX0_keepWay 0 = .ok (.aload_n 0, 1) := by decide +kernel
theorem dX0_keepWay_1 : decode cX0_keepWay 1 = .ok (.getfield 19, 3) := by decide +kernel
theorem dX0_keepWay_4 : decode cX0_keepWay 4 = .ok (.iload_n 1, 1) := by decide +kernel
theorem dX0_keepWay_5 : decode cX0_keepWay 5 = .ok (.aaload, 1) := by decide +kernel
theorem dX0_keepWay_6 : decode cX0_keepWay 6 = .ok (.iload_n 1, 1) := by decide +kernel
theorem dX0_keepWay_7 : decode cX0_keepWay 7 = .ok (.iload_n 2, 1) := by decide +kernel
theorem dX0_keepWay_8 : decode cX0_keepWay 8 = .ok (.iastore, 1) := by decide +kernel
theorem dX0_keepWay_9 : decode cX0_keepWay 9 = .ok (.iload_n 1, 1) := by decide +kernel
theorem dX0_keepWay_10 : decode cX0_keepWay 10 = .ok (.iconst 1, 1) := by decide +kernel
theorem dX0_keepWay_11 : decode cX0_keepWay 11 = .ok (.iadd, 1) := by decide +kernel
theorem dX0_keepWay_12 : decode cX0_keepWay 12 = .ok (.istore_n 3, 1) := by decide +kernel
theorem dX0_keepWay_13 : decode cX0_keepWay 13 = .ok (.iload_n 3, 1) := by decide +kernel
theorem dX0_keepWay_14 : decode cX0_keepWay 14 = .ok (.iconst 5, 1) := by decide +kernel
theorem dX0_keepWay_15 : decode cX0_keepWay 15 = .ok (.if_icmp .ge 27, 3) := by decide +kernel
theorem dX0_keepWay_42 : decode cX0_keepWay 42 = .ok (.return_, 1) := by decide +kernel
theorem dX0_keepWay_18 : decode cX0_keepWay 18 = .ok (.aload_n 0, 1) := by decide +kernel
theorem dX0_keepWay_19 : decode cX0_keepWay 19 = .ok (.getfield 19, 3) := by decide +kernel
theorem dX0_keepWay_22 : decode cX0_keepWay 22 = .ok (.iload_n 1, 1) := by decide +kernel
theorem dX0_keepWay_23 : decode cX0_keepWay 23 = .ok (.aaload, 1) := by decide +kernel
theorem dX0_keepWay_24 : decode cX0_keepWay 24 = .ok (.iload_n 3, 1) := by decide +kernel
theorem dX0_keepWay_25 : decode cX0_keepWay 25 = .ok (.aload_n 0, 1) := by decide +kernel
theorem dX0_keepWay_26 : decode cX0_keepWay 26 = .ok (.getfield 19, 3) := by decide +kernel
theorem dX0_keepWay_29 : decode cX0_keepWay 29 = .ok (.iload_n 1, 1) := by decide +kernel
theorem dX0_keepWay_30 : decode cX0_keepWay 30 = .ok (.iconst 1, 1) := by decide +kernel
theorem dX0_keepWay_31 : decode cX0_keepWay 31 = .ok (.iadd, 1) := by decide +kernel
theorem dX0_keepWay_32 : decode cX0_keepWay 32 = .ok (.aaload, 1) := by decide +kernel
theorem dX0_keepWay_33 : decode cX0_keepWay 33 = .ok (.iload_n 3, 1) := by decide +kernel
theorem dX0_keepWay_34 : decode cX0_keepWay 34 = .ok (.iaload, 1) := by decide +kernel
theorem dX0_keepWay_35 : decode cX0_keepWay 35 = .ok (.iastore, 1) := by decide +kernel
theorem dX0_keepWay_36 : decode cX0_keepWay 36 = .ok (.iinc 3 1, 3) := by decide +kernel
theorem dX0_keepWay_39 : decode cX0_keepWay 39 = .ok (.goto (-26), 3) := by decide +kernel
theorem dX0_calling_0 : decode cX0_calling 0 = .ok (.iload_n 3, 1) := by decide +kernel
theorem dX0_calling_1 : decode cX0_calling 1 = .ok (.iconst 1, 1) := by decide +kernel
theorem dX0_calling_2 : decode cX0_calling 2 = .ok (.iadd, 1) := by decide +kernel
theorem dX0_calling_3 : decode cX0_calling 3 = .ok (.iload 4, 2) := by decide +kernel
theorem dX0_calling_15 : decode cX0_calling 15 = .ok (.aload_n 0, 1) := by decide +kernel
theorem dX0_calling_16 : decode cX0_calling 16 = .ok (.getfield 11, 3) := by decide +kernel
theorem dX0_calling_19 : decode cX0_calling 19 = .ok (.iload_n 3, 1) := by decide +kernel
theorem dX0_calling_20 : decode cX0_calling 20 = .ok (.aaload, 1) := by decide +kernel
theorem dX0_calling_21 : decode cX0_calling 21 = .ok (.aload_n 1, 1) := by decide +kernel
theorem dX0_calling_22 : decode cX0_calling 22 = .ok (.iload_n 2, 1) := by decide +kernel
theorem dX0_calling_23 : decode cX0_calling 23 = .ok (.iconst 0, 1) := by decide +kernel
theorem dX0_calling_24 : decode cX0_calling 24 = .ok (.invokevirtual 52, 3) := by decide +kernel
theorem dX0_calling_27 : decode cX0_calling 27 = .ok (.ireturn, 1) := by decide +kernel
theorem dX0_calling_5 : decode cX0_calling 5 = .ok (.if_icmp .ge 10, 3) := by decide +kernel
theorem dX0_seek_0 : decode cX0_seek 0 = .ok (.iload_n 3, 1) := by decide +kernel
theorem dX0_seek_1 : decode cX0_seek 1 = .ok (.iload 4, 2) := by decide +kernel
theorem dX0_seek_3 : decode cX0_seek 3 = .ok (.if_icmp .ge 8, 3) := by decide +kernel
theorem dX0_seek_11 : decode cX0_seek 11 = .ok (.iconst 0, 1) := by decide +kernel
theorem dX0_seek_12 : decode cX0_seek 12 = .ok (.ireturn, 1) := by decide +kernel
theorem dX0_seek_6 : decode cX0_seek 6 = .ok (.iload_n 3, 1) := by decide +kernel
theorem dX0_seek_7 : decode cX0_seek 7 = .ok (.iconst 5, 1) := by decide +kernel
theorem dX0_seek_8 : decode cX0_seek 8 = .ok (.if_icmp .lt 5, 3) := by decide +kernel
theorem dX0_seek_13 : decode cX0_seek 13 = .ok (.iconst (-1), 1) := by decide +kernel
theorem dX0_seek_14 : decode cX0_seek 14 = .ok (.istore 5, 2) := by decide +kernel
theorem dX0_seek_16 : decode cX0_seek 16 = .ok (.iconst 0, 1) := by decide +kernel
theorem dX0_seek_17 : decode cX0_seek 17 = .ok (.istore 6, 2) := by decide +kernel
theorem dX0_seek_19 : decode cX0_seek 19 = .ok (.iload 6, 2) := by decide +kernel
theorem dX0_seek_21 : decode cX0_seek 21 = .ok (.aload_n 1, 1) := by decide +kernel
theorem dX0_seek_22 : decode cX0_seek 22 = .ok (.getfield 35, 3) := by decide +kernel
theorem dX0_seek_25 : decode cX0_seek 25 = .ok (.if_icmp .ge 49, 3) := by decide +kernel
theorem dX0_seek_74 : decode cX0_seek 74 = .ok (.iload 5, 2) := by decide +kernel
theorem dX0_seek_76 : decode cX0_seek 76 = .ok (.ireturn, 1) := by decide +kernel
theorem dX0_seek_28 : decode cX0_seek 28 = .ok (.aload_n 1, 1) := by decide +kernel
theorem dX0_seek_29 : decode cX0_seek 29 = .ok (.iload_n 2, 1) := by decide +kernel
theorem dX0_seek_30 : decode cX0_seek 30 = .ok (.iload 6, 2) := by decide +kernel
theorem dX0_seek_32 : decode cX0_seek 32 = .ok (.invokevirtual 44, 3) := by decide +kernel
theorem dX0_seek_68 : decode cX0_seek 68 = .ok (.iinc 6 1, 3) := by decide +kernel
theorem dX0_seek_71 : decode cX0_seek 71 = .ok (.goto (-52), 3) := by decide +kernel
theorem dX0_seek_35 : decode cX0_seek 35 = .ok (.ifCond .eq 33, 3) := by decide +kernel
theorem dX0_seek_38 : decode cX0_seek 38 = .ok (.aload_n 0, 1) := by decide +kernel
theorem dX0_seek_39 : decode cX0_seek 39 = .ok (.aload_n 1, 1) := by decide +kernel
theorem dX0_seek_40 : decode cX0_seek 40 = .ok (.iload 6, 2) := by decide +kernel
theorem dX0_seek_42 : decode cX0_seek 42 = .ok (.iload_n 3, 1) := by decide +kernel
theorem dX0_seek_43 : decode cX0_seek 43 = .ok (.iload 4, 2) := by decide +kernel
theorem dX0_seek_45 : decode cX0_seek 45 = .ok (.invokevirtual 41, 3) := by decide +kernel
theorem dX0_seek_48 : decode cX0_seek 48 = .ok (.istore 7, 2) := by decide +kernel
theorem dX0_seek_50 : decode cX0_seek 50 = .ok (.iload 7, 2) := by decide +kernel
theorem dX0_seek_52 : decode cX0_seek 52 = .ok (.iload 5, 2) := by decide +kernel
theorem dX0_seek_54 : decode cX0_seek 54 = .ok (.if_icmp .le 14, 3) := by decide +kernel
theorem dX0_seek_57 : decode cX0_seek 57 = .ok (.iload 7, 2) := by decide +kernel
theorem dX0_seek_59 : decode cX0_seek 59 = .ok (.istore 5, 2) := by decide +kernel
theorem dX0_seek_61 : decode cX0_seek 61 = .ok (.aload_n 0, 1) := by decide +kernel
theorem dX0_seek_62 : decode cX0_seek 62 = .ok (.iload_n 3, 1) := by decide +kernel
theorem dX0_seek_63 : decode cX0_seek 63 = .ok (.iload 6, 2) := by decide +kernel
theorem dX0_seek_65 : decode cX0_seek 65 = .ok (.invokevirtual 48, 3) := by decide +kernel
theorem dX0_calling_8 : decode cX0_calling 8 = .ok (.iload_n 3, 1) := by decide +kernel
theorem dX0_calling_9 : decode cX0_calling 9 = .ok (.iconst 1, 1) := by decide +kernel
theorem dX0_calling_10 : decode cX0_calling 10 = .ok (.iadd, 1) := by decide +kernel
theorem dX0_calling_11 : decode cX0_calling 11 = .ok (.iconst 5, 1) := by decide +kernel
theorem dX0_calling_12 : decode cX0_calling 12 = .ok (.if_icmp .lt 16, 3) := by decide +kernel
theorem dX0_calling_28 : decode cX0_calling 28 = .ok (.aload_n 0, 1) := by decide +kernel
theorem dX0_calling_29 : decode cX0_calling 29 = .ok (.getfield 11, 3) := by decide +kernel
theorem dX0_calling_32 : decode cX0_calling 32 = .ok (.iload_n 3, 1) := by decide +kernel
theorem dX0_calling_33 : decode cX0_calling 33 = .ok (.iconst 1, 1) := by decide +kernel
theorem dX0_calling_34 : decode cX0_calling 34 = .ok (.iadd, 1) := by decide +kernel
theorem dX0_calling_35 : decode cX0_calling 35 = .ok (.aaload, 1) := by decide +kernel
theorem dX0_calling_36 : decode cX0_calling 36 = .ok (.astore 5, 2) := by decide +kernel
theorem dX0_calling_38 : decode cX0_calling 38 = .ok (.aload 5, 2) := by decide +kernel
theorem dX0_calling_40 : decode cX0_calling 40 = .ok (.aload_n 0, 1) := by decide +kernel
theorem dX0_calling_41 : decode cX0_calling 41 = .ok (.getfield 11, 3) := by decide +kernel
theorem dX0_calling_44 : decode cX0_calling 44 = .ok (.iload_n 3, 1) := by decide +kernel
theorem dX0_calling_45 : decode cX0_calling 45 = .ok (.aaload, 1) := by decide +kernel
theorem dX0_calling_46 : decode cX0_calling 46 = .ok (.invokevirtual 27, 3) := by decide +kernel
theorem dX0_calling_49 : decode cX0_calling 49 = .ok (.aload 5, 2) := by decide +kernel
theorem dX0_calling_51 : decode cX0_calling 51 = .ok (.aload_n 1, 1) := by decide +kernel
theorem dX0_calling_52 : decode cX0_calling 52 = .ok (.iload_n 2, 1) := by decide +kernel
theorem dX0_calling_53 : decode cX0_calling 53 = .ok (.iconst 0, 1) := by decide +kernel
theorem dX0_calling_54 : decode cX0_calling 54 = .ok (.invokevirtual 56, 3) := by decide +kernel
theorem dX0_calling_57 : decode cX0_calling 57 = .ok (.istore 6, 2) := by decide +kernel
theorem dX0_calling_59 : decode cX0_calling 59 = .ok (.iload 6, 2) := by decide +kernel
theorem dX0_calling_61 : decode cX0_calling 61 = .ok (.aload_n 0, 1) := by decide +kernel
theorem dX0_calling_62 : decode cX0_calling 62 = .ok (.aload_n 1, 1) := by decide +kernel
theorem dX0_calling_63 : decode cX0_calling 63 = .ok (.iload_n 2, 1) := by decide +kernel
theorem dX0_calling_64 : decode cX0_calling 64 = .ok (.iload_n 3, 1) := by decide +kernel
theorem dX0_calling_65 : decode cX0_calling 65 = .ok (.iconst 1, 1) := by decide +kernel
theorem dX0_calling_66 : decode cX0_calling 66 = .ok (.iadd, 1) := by decide +kernel
theorem dX0_calling_67 : decode cX0_calling 67 = .ok (.iload 4, 2) := by decide +kernel
theorem dX0_calling_69 : decode cX0_calling 69 = .ok (.invokevirtual 31, 3) := by decide +kernel
theorem dX0_calling_72 : decode cX0_calling 72 = .ok (.iadd, 1) := by decide +kernel
theorem dX0_calling_73 : decode cX0_calling 73 = .ok (.ireturn, 1) := by decide +kernel
theorem dX0_mostFrom_0 : decode cX0_mostFrom 0 = .ok (.aload_n 0, 1) := by decide +kernel
theorem dX0_mostFrom_1 : decode cX0_mostFrom 1 = .ok (.getfield 11, 3) := by decide +kernel
theorem dX0_mostFrom_4 : decode cX0_mostFrom 4 = .ok (.iconst 0, 1) := by decide +kernel
theorem dX0_mostFrom_5 : decode cX0_mostFrom 5 = .ok (.aaload, 1) := by decide +kernel
theorem dX0_mostFrom_6 : decode cX0_mostFrom 6 = .ok (.aload_n 2, 1) := by decide +kernel
theorem dX0_mostFrom_7 : decode cX0_mostFrom 7 = .ok (.invokevirtual 27, 3) := by decide +kernel
theorem dX0_mostFrom_10 : decode cX0_mostFrom 10 = .ok (.aload_n 0, 1) := by decide +kernel
theorem dX0_mostFrom_11 : decode cX0_mostFrom 11 = .ok (.aload_n 1, 1) := by decide +kernel
theorem dX0_mostFrom_12 : decode cX0_mostFrom 12 = .ok (.iload_n 3, 1) := by decide +kernel
theorem dX0_mostFrom_13 : decode cX0_mostFrom 13 = .ok (.iconst 0, 1) := by decide +kernel
theorem dX0_mostFrom_14 : decode cX0_mostFrom 14 = .ok (.iload 4, 2) := by decide +kernel
theorem dX0_mostFrom_16 : decode cX0_mostFrom 16 = .ok (.invokevirtual 31, 3) := by decide +kernel
theorem dX0_mostFrom_19 : decode cX0_mostFrom 19 = .ok (.ireturn, 1) := by decide +kernel
theorem dX0_bestStart_0 : decode cX0_bestStart 0 = .ok (.aload_n 0, 1) := by decide +kernel
theorem dX0_bestStart_1 : decode cX0_bestStart 1 = .ok (.getfield 11, 3) := by decide +kernel
theorem dX0_bestStart_4 : decode cX0_bestStart 4 = .ok (.iconst 0, 1) := by decide +kernel
theorem dX0_bestStart_5 : decode cX0_bestStart 5 = .ok (.aaload, 1) := by decide +kernel
theorem dX0_bestStart_6 : decode cX0_bestStart 6 = .ok (.aload_n 2, 1) := by decide +kernel
theorem dX0_bestStart_7 : decode cX0_bestStart 7 = .ok (.invokevirtual 27, 3) := by decide +kernel
theorem dX0_bestStart_10 : decode cX0_bestStart 10 = .ok (.iconst 0, 1) := by decide +kernel
theorem dX0_bestStart_11 : decode cX0_bestStart 11 = .ok (.istore 4, 2) := by decide +kernel
theorem dX0_bestStart_13 : decode cX0_bestStart 13 = .ok (.iload 4, 2) := by decide +kernel
theorem dX0_bestStart_15 : decode cX0_bestStart 15 = .ok (.aload_n 1, 1) := by decide +kernel
theorem dX0_bestStart_16 : decode cX0_bestStart 16 = .ok (.getfield 35, 3) := by decide +kernel
theorem dX0_bestStart_19 : decode cX0_bestStart 19 = .ok (.if_icmp .ge 34, 3) := by decide +kernel
theorem dX0_bestStart_53 : decode cX0_bestStart 53 = .ok (.iconst 0, 1) := by decide +kernel
theorem dX0_bestStart_54 : decode cX0_bestStart 54 = .ok (.istore 4, 2) := by decide +kernel
theorem dX0_bestStart_56 : decode cX0_bestStart 56 = .ok (.iconst (-1), 1) := by decide +kernel
theorem dX0_bestStart_57 : decode cX0_bestStart 57 = .ok (.istore 5, 2) := by decide +kernel
theorem dX0_bestStart_59 : decode cX0_bestStart 59 = .ok (.iconst 0, 1) := by decide +kernel
theorem dX0_bestStart_60 : decode cX0_bestStart 60 = .ok (.istore 6, 2) := by decide +kernel
theorem dX0_bestStart_62 : decode cX0_bestStart 62 = .ok (.iload 6, 2) := by decide +kernel
theorem dX0_bestStart_64 : decode cX0_bestStart 64 = .ok (.aload_n 1, 1) := by decide +kernel
theorem dX0_bestStart_65 : decode cX0_bestStart 65 = .ok (.getfield 35, 3) := by decide +kernel
theorem dX0_bestStart_68 : decode cX0_bestStart 68 = .ok (.if_icmp .ge 63, 3) := by decide +kernel
theorem dX0_bestStart_131 : decode cX0_bestStart 131 = .ok (.iload 4, 2) := by decide +kernel
theorem dX0_bestStart_133 : decode cX0_bestStart 133 = .ok (.ireturn, 1) := by decide +kernel
theorem dX0_bestStart_71 : decode cX0_bestStart 71 = .ok (.iconst 0, 1) := by decide +kernel
theorem dX0_bestStart_72 : decode cX0_bestStart 72 = .ok (.istore 7, 2) := by decide +kernel
theorem dX0_bestStart_74 : decode cX0_bestStart 74 = .ok (.iload 7, 2) := by decide +kernel
theorem dX0_bestStart_76 : decode cX0_bestStart 76 = .ok (.aload_n 1, 1) := by decide +kernel
theorem dX0_bestStart_77 : decode cX0_bestStart 77 = .ok (.getfield 35, 3) := by decide +kernel
theorem dX0_bestStart_80 : decode cX0_bestStart 80 = .ok (.if_icmp .ge 45, 3) := by decide +kernel
theorem dX0_bestStart_125 : decode cX0_bestStart 125 = .ok (.iinc 6 1, 3) := by decide +kernel
theorem dX0_bestStart_128 : decode cX0_bestStart 128 = .ok (.goto (-66), 3) := by decide +kernel
theorem dX0_bestStart_83 : decode cX0_bestStart 83 = .ok (.aload_n 1, 1) := by decide +kernel
theorem dX0_bestStart_84 : decode cX0_bestStart 84 = .ok (.iload 6, 2) := by decide +kernel
theorem dX0_bestStart_86 : decode cX0_bestStart 86 = .ok (.iload 7, 2) := by decide +kernel
theorem dX0_bestStart_88 : decode cX0_bestStart 88 = .ok (.invokevirtual 44, 3) := by decide +kernel
theorem dX0_bestStart_119 : decode cX0_bestStart 119 = .ok (.iinc 7 1, 3) := by decide +kernel
theorem dX0_bestStart_122 : decode cX0_bestStart 122 = .ok (.goto (-48), 3) := by decide +kernel
theorem dX0_bestStart_91 : decode cX0_bestStart 91 = .ok (.ifCond .eq 28, 3) := by decide +kernel
theorem dX0_bestStart_94 : decode cX0_bestStart 94 = .ok (.aload_n 0, 1) := by decide +kernel
theorem dX0_bestStart_95 : decode cX0_bestStart 95 = .ok (.getfield 22, 3) := by decide +kernel
theorem dX0_bestStart_98 : decode cX0_bestStart 98 = .ok (.iload 7, 2) := by decide +kernel
theorem dX0_bestStart_100 : decode cX0_bestStart 100 = .ok (.iaload, 1) := by decide +kernel
theorem dX0_bestStart_101 : decode cX0_bestStart 101 = .ok (.iload 5, 2) := by decide +kernel
theorem dX0_bestStart_103 : decode cX0_bestStart 103 = .ok (.if_icmp .le 16, 3) := by decide +kernel
theorem dX0_bestStart_106 : decode cX0_bestStart 106 = .ok (.aload_n 0, 1) := by decide +kernel
theorem dX0_bestStart_107 : decode cX0_bestStart 107 = .ok (.getfield 22, 3) := by decide +kernel
theorem dX0_bestStart_110 : decode cX0_bestStart 110 = .ok (.iload 7, 2) := by decide +kernel
theorem dX0_bestStart_112 : decode cX0_bestStart 112 = .ok (.iaload, 1) := by decide +kernel
theorem dX0_bestStart_113 : decode cX0_bestStart 113 = .ok (.istore 5, 2) := by decide +kernel
theorem dX0_bestStart_115 : decode cX0_bestStart 115 = .ok (.iload 6, 2) := by decide +kernel
theorem dX0_bestStart_117 : decode cX0_bestStart 117 = .ok (.istore 4, 2) := by decide +kernel
theorem dX0_bestStart_22 : decode cX0_bestStart 22 = .ok (.aload_n 0, 1) := by decide +kernel
theorem dX0_bestStart_23 : decode cX0_bestStart 23 = .ok (.getfield 22, 3) := by decide +kernel
theorem dX0_bestStart_26 : decode cX0_bestStart 26 = .ok (.iload 4, 2) := by decide +kernel
theorem dX0_bestStart_28 : decode cX0_bestStart 28 = .ok (.iload_n 3, 1) := by decide +kernel
theorem dX0_bestStart_29 : decode cX0_bestStart 29 = .ok (.iconst 1, 1) := by decide +kernel
theorem dX0_bestStart_46 : decode cX0_bestStart 46 = .ok (.iastore, 1) := by decide +kernel
theorem dX0_bestStart_47 : decode cX0_bestStart 47 = .ok (.iinc 4 1, 3) := by decide +kernel
theorem dX0_bestStart_50 : decode cX0_bestStart 50 = .ok (.goto (-37), 3) := by decide +kernel
theorem dX0_bestStart_30 : decode cX0_bestStart 30 = .ok (.if_icmp .ge 7, 3) := by decide +kernel
theorem dX0_bestStart_37 : decode cX0_bestStart 37 = .ok (.aload_n 0, 1) := by decide +kernel
theorem dX0_bestStart_38 : decode cX0_bestStart 38 = .ok (.aload_n 1, 1) := by decide +kernel
theorem dX0_bestStart_39 : decode cX0_bestStart 39 = .ok (.iload 4, 2) := by decide +kernel
theorem dX0_bestStart_41 : decode cX0_bestStart 41 = .ok (.iconst 0, 1) := by decide +kernel
theorem dX0_bestStart_42 : decode cX0_bestStart 42 = .ok (.iload_n 3, 1) := by decide +kernel
theorem dX0_bestStart_43 : decode cX0_bestStart 43 = .ok (.invokevirtual 41, 3) := by decide +kernel
theorem dX0_bestStart_33 : decode cX0_bestStart 33 = .ok (.iconst 0, 1) := by decide +kernel
theorem dX0_bestStart_34 : decode cX0_bestStart 34 = .ok (.goto 12, 3) := by decide +kernel
theorem dX10_isSlot_0 : decode cX10_isSlot 0 = .ok (.iload_n 1, 1) := by decide +kernel
theorem dX10_isSlot_1 : decode cX10_isSlot 1 = .ok (.ifCond .lt 12, 3) := by decide +kernel
theorem dX10_isSlot_13 : decode cX10_isSlot 13 = .ok (.iconst 0, 1) := by decide +kernel
theorem dX10_isSlot_14 : decode cX10_isSlot 14 = .ok (.ireturn, 1) := by decide +kernel
theorem dX10_isSlot_4 : decode cX10_isSlot 4 = .ok (.iload_n 1, 1) := by decide +kernel
theorem dX10_isSlot_5 : decode cX10_isSlot 5 = .ok (.iconst 4, 1) := by decide +kernel
theorem dX10_isSlot_6 : decode cX10_isSlot 6 = .ok (.if_icmp .ge 7, 3) := by decide +kernel
theorem dX10_isSlot_9 : decode cX10_isSlot 9 = .ok (.iconst 1, 1) := by decide +kernel
theorem dX10_isSlot_10 : decode cX10_isSlot 10 = .ok (.goto 4, 3) := by decide +kernel
theorem dX10_isPartOfMillion_0 : decode cX10_isPartOfMillion 0 = .ok (.iload_n 1, 1) := by decide +kernel
theorem dX10_isPartOfMillion_1 : decode cX10_isPartOfMillion 1 = .ok (.ifCond .lt 13, 3) := by decide +kernel
theorem dX10_isPartOfMillion_14 : decode cX10_isPartOfMillion 14 = .ok (.iconst 0, 1) := by decide +kernel
theorem dX10_isPartOfMillion_15 : decode cX10_isPartOfMillion 15 = .ok (.ireturn, 1) := by decide +kernel
theorem dX10_isPartOfMillion_4 : decode cX10_isPartOfMillion 4 = .ok (.iload_n 1, 1) := by decide +kernel
theorem dX10_isPartOfMillion_5 : decode cX10_isPartOfMillion 5 = .ok (.ldc 201, 2) := by decide +kernel
theorem dX10_isPartOfMillion_7 : decode cX10_isPartOfMillion 7 = .ok (.if_icmp .gt 7, 3) := by decide +kernel
theorem dX10_isPartOfMillion_10 : decode cX10_isPartOfMillion 10 = .ok (.iconst 1, 1) := by decide +kernel
theorem dX10_isPartOfMillion_11 : decode cX10_isPartOfMillion 11 = .ok (.goto 4, 3) := by decide +kernel
theorem dX10_isBestLength_0 : decode cX10_isBestLength 0 = .ok (.iload_n 1, 1) := by decide +kernel
theorem dX10_isBestLength_1 : decode cX10_isBestLength 1 = .ok (.ifCond .lt 12, 3) := by decide +kernel
theorem dX10_isBestLength_13 : decode cX10_isBestLength 13 = .ok (.iconst 0, 1) := by decide +kernel
theorem dX10_isBestLength_14 : decode cX10_isBestLength 14 = .ok (.ireturn, 1) := by decide +kernel
theorem dX10_isBestLength_4 : decode cX10_isBestLength 4 = .ok (.iload_n 1, 1) := by decide +kernel
theorem dX10_isBestLength_5 : decode cX10_isBestLength 5 = .ok (.iconst 5, 1) := by decide +kernel
theorem dX10_isBestLength_6 : decode cX10_isBestLength 6 = .ok (.if_icmp .gt 7, 3) := by decide +kernel
theorem dX10_isBestLength_9 : decode cX10_isBestLength 9 = .ok (.iconst 1, 1) := by decide +kernel
theorem dX10_isBestLength_10 : decode cX10_isBestLength 10 = .ok (.goto 4, 3) := by decide +kernel
theorem dX10_isSeed_0 : decode cX10_isSeed 0 = .ok (.iload_n 1, 1) := by decide +kernel
theorem dX10_isSeed_1 : decode cX10_isSeed 1 = .ok (.ifCond .lt 14, 3) := by decide +kernel
theorem dX10_isSeed_15 : decode cX10_isSeed 15 = .ok (.iconst 0, 1) := by decide +kernel
theorem dX10_isSeed_16 : decode cX10_isSeed 16 = .ok (.ireturn, 1) := by decide +kernel
theorem dX10_isSeed_4 : decode cX10_isSeed 4 = .ok (.iload_n 1, 1) := by decide +kernel
theorem dX10_isSeed_5 : decode cX10_isSeed 5 = .ok (.ldc_w 380, 3) := by decide +kernel
theorem dX10_isSeed_8 : decode cX10_isSeed 8 = .ok (.if_icmp .gt 7, 3) := by decide +kernel
theorem dX10_isSeed_11 : decode cX10_isSeed 11 = .ok (.iconst 1, 1) := by decide +kernel
theorem dX10_isSeed_12 : decode cX10_isSeed 12 = .ok (.goto 4, 3) := by decide +kernel
theorem dX10_hasHouse_0 : decode cX10_hasHouse 0 = .ok (.aload_n 0, 1) := by decide +kernel
theorem dX10_hasHouse_1 : decode cX10_hasHouse 1 = .ok (.getfield 31, 3) := by decide +kernel
theorem dX10_hasHouse_4 : decode cX10_hasHouse 4 = .ok (.getfield 98, 3) := by decide +kernel
theorem dX10_hasHouse_7 : decode cX10_hasHouse 7 = .ok (.getfield 111, 3) := by decide +kernel
theorem dX10_hasHouse_10 : decode cX10_hasHouse 10 = .ok (.ifCond .le 7, 3) := by decide +kernel
theorem dX10_hasHouse_17 : decode cX10_hasHouse 17 = .ok (.iconst 0, 1) := by decide +kernel
theorem dX10_hasHouse_18 : decode cX10_hasHouse 18 = .ok (.ireturn, 1) := by decide +kernel
theorem dX10_hasHouse_13 : decode cX10_hasHouse 13 = .ok (.iconst 1, 1) := by decide +kernel
theorem dX10_hasHouse_14 : decode cX10_hasHouse 14 = .ok (.goto 4, 3) := by decide +kernel
theorem dX10_isRoom_0 : decode cX10_isRoom 0 = .ok (.aload_n 0, 1) := by decide +kernel
theorem dX10_isRoom_1 : decode cX10_isRoom 1 = .ok (.getfield 31, 3) := by decide +kernel
theorem dX10_isRoom_4 : decode cX10_isRoom 4 = .ok (.getfield 98, 3) := by decide +kernel
theorem dX10_isRoom_7 : decode cX10_isRoom 7 = .ok (.iload_n 1, 1) := by decide +kernel
theorem dX10_isRoom_8 : decode cX10_isRoom 8 = .ok (.invokevirtual 377, 3) := by decide +kernel
theorem dX10_isRoom_11 : decode cX10_isRoom 11 = .ok (.ireturn, 1) := by decide +kernel
theorem dX10_isMan_0 : decode cX10_isMan 0 = .ok (.iload_n 1, 1) := by decide +kernel
theorem dX10_isMan_1 : decode cX10_isMan 1 = .ok (.ifCond .lt 21, 3) := by decide +kernel
theorem dX10_isMan_22 : decode cX10_isMan 22 = .ok (.iconst 0, 1) := by decide +kernel
theorem dX10_isMan_23 : decode cX10_isMan 23 = .ok (.ireturn, 1) := by decide +kernel
theorem dX10_isMan_4 : decode cX10_isMan 4 = .ok (.iload_n 1, 1) := by decide +kernel
theorem dX10_isMan_5 : decode cX10_isMan 5 = .ok (.aload_n 0, 1) := by decide +kernel
theorem dX10_isMan_6 : decode cX10_isMan 6 = .ok (.getfield 31, 3) := by decide +kernel
theorem dX10_isMan_9 : decode cX10_isMan 9 = .ok (.getfield 98, 3) := by decide +kernel
theorem dX10_isMan_12 : decode cX10_isMan 12 = .ok (.getfield 283, 3) := by decide +kernel
theorem dX10_isMan_15 : decode cX10_isMan 15 = .ok (.if_icmp .ge 7, 3) := by decide +kernel
theorem dX10_isMan_18 : decode cX10_isMan 18 = .ok (.iconst 1, 1) := by decide +kernel
theorem dX10_isMan_19 : decode cX10_isMan 19 = .ok (.goto 4, 3) := by decide +kernel
theorem dX10_isRoomOrOut_0 : decode cX10_isRoomOrOut 0 = .ok (.aload_n 0, 1) := by decide +kernel
theorem dX10_isRoomOrOut_1 : decode cX10_isRoomOrOut 1 = .ok (.invokevirtual 152, 3) := by decide +kernel
theorem dX10_isRoomOrOut_4 : decode cX10_isRoomOrOut 4 = .ok (.ifCond .eq 20, 3) := by decide +kernel
theorem dX10_isRoomOrOut_24 : decode cX10_isRoomOrOut 24 = .ok (.iconst 0, 1) := by decide +kernel
theorem dX10_isRoomOrOut_25 : decode cX10_isRoomOrOut 25 = .ok (.ireturn, 1) := by decide +kernel
theorem dX10_isRoomOrOut_7 : decode cX10_isRoomOrOut 7 = .ok (.iload_n 1, 1) := by decide +kernel
theorem dX10_isRoomOrOut_8 : decode cX10_isRoomOrOut 8 = .ok (.iconst (-1), 1) := by decide +kernel
theorem dX10_isRoomOrOut_9 : decode cX10_isRoomOrOut 9 = .ok (.if_icmp .eq 11, 3) := by decide +kernel
theorem dX10_isRoomOrOut_20 : decode cX10_isRoomOrOut 20 = .ok (.iconst 1, 1) := by decide +kernel
theorem dX10_isRoomOrOut_21 : decode cX10_isRoomOrOut 21 = .ok (.goto 4, 3) := by decide +kernel
theorem dX10_isRoomOrOut_12 : decode cX10_isRoomOrOut 12 = .ok (.aload_n 0, 1) := by decide +kernel
theorem dX10_isRoomOrOut_13 : decode cX10_isRoomOrOut 13 = .ok (.iload_n 1, 1) := by decide +kernel
theorem dX10_isRoomOrOut_14 : decode cX10_isRoomOrOut 14 = .ok (.invokevirtual 120, 3) := by decide +kernel
theorem dX10_isRoomOrOut_17 : decode cX10_isRoomOrOut 17 = .ok (.ifCond .eq 7, 3) := by decide +kernel
theorem dX10_isSet_0 : decode cX10_isSet 0 = .ok (.iload_n 1, 1) := by decide +kernel
theorem dX10_isSet_1 : decode cX10_isSet 1 = .ok (.iconst 1, 1) := by decide +kernel
theorem dX10_isSet_2 : decode cX10_isSet 2 = .ok (.if_icmp .lt 23, 3) := by decide +kernel
theorem dX10_isSet_25 : decode cX10_isSet 25 = .ok (.iconst 0, 1) := by decide +kernel
theorem dX10_isSet_26 : decode cX10_isSet 26 = .ok (.ireturn, 1) := by decide +kernel
theorem dX10_isSet_5 : decode cX10_isSet 5 = .ok (.iload_n 1, 1) := by decide +kernel
theorem dX10_isSet_6 : decode cX10_isSet 6 = .ok (.iconst 1, 1) := by decide +kernel
theorem dX10_isSet_7 : decode cX10_isSet 7 = .ok (.aload_n 0, 1) := by decide +kernel
theorem dX10_isSet_8 : decode cX10_isSet 8 = .ok (.getfield 31, 3) := by decide +kernel
theorem dX10_isSet_11 : decode cX10_isSet 11 = .ok (.getfield 98, 3) := by decide +kernel
theorem dX10_isSet_14 : decode cX10_isSet 14 = .ok (.getfield 283, 3) := by decide +kernel
theorem dX10_isSet_17 : decode cX10_isSet 17 = .ok (.ishl, 1) := by decide +kernel
theorem dX10_isSet_18 : decode cX10_isSet 18 = .ok (.if_icmp .ge 7, 3) := by decide +kernel
theorem dX10_isSet_21 : decode cX10_isSet 21 = .ok (.iconst 1, 1) := by decide +kernel
theorem dX10_isSet_22 : decode cX10_isSet 22 = .ok (.goto 4, 3) := by decide +kernel
theorem dX10_askRow_0 : decode cX10_askRow 0 = .ok (.aload_n 0, 1) := by decide +kernel
theorem dX10_askRow_1 : decode cX10_askRow 1 = .ok (.iload_n 1, 1) := by decide +kernel
theorem dX10_askRow_2 : decode cX10_askRow 2 = .ok (.invokevirtual 348, 3) := by decide +kernel
theorem dX10_askRow_5 : decode cX10_askRow 5 = .ok (.ifCond .eq 14, 3) := by decide +kernel
theorem dX10_askRow_19 : decode cX10_askRow 19 = .ok (.bipush (-2), 2) := by decide +kernel
theorem dX10_askRow_21 : decode cX10_askRow 21 = .ok (.ireturn, 1) := by decide +kernel
theorem dX10_askRow_8 : decode cX10_askRow 8 = .ok (.aload_n 0, 1) := by decide +kernel
theorem dX10_askRow_9 : decode cX10_askRow 9 = .ok (.invokevirtual 152, 3) := by decide +kernel
theorem dX10_askRow_12 : decode cX10_askRow 12 = .ok (.ifCond .eq 7, 3) := by decide +kernel
theorem dX10_askRow_15 : decode cX10_askRow 15 = .ok (.iload_n 2, 1) := by decide +kernel
theorem dX10_askRow_16 : decode cX10_askRow 16 = .ok (.ifCond .ne 6, 3) := by decide +kernel
theorem dX10_askRow_22 : decode cX10_askRow 22 = .ok (.aload_n 0, 1) := by decide +kernel
theorem dX10_askRow_23 : decode cX10_askRow 23 = .ok (.getfield 41, 3) := by decide +kernel
theorem dX10_askRow_26 : decode cX10_askRow 26 = .ok (.iload_n 1, 1) := by decide +kernel
theorem dX10_askRow_27 : decode cX10_askRow 27 = .ok (.aaload, 1) := by decide +kernel
theorem dX10_askRow_28 : decode cX10_askRow 28 = .ok (.getfield 354, 3) := by decide +kernel
theorem dX10_askRow_31 : decode cX10_askRow 31 = .ok (.ifCond .ne 6, 3) := by decide +kernel
theorem dX10_askRow_37 : decode cX10_askRow 37 = .ok (.aload_n 0, 1) := by decide +kernel
theorem dX10_askRow_38 : decode cX10_askRow 38 = .ok (.getfield 41, 3) := by decide +kernel
theorem dX10_askRow_41 : decode cX10_askRow 41 = .ok (.iload_n 1, 1) := by decide +kernel
theorem dX10_askRow_42 : decode cX10_askRow 42 = .ok (.aaload, 1) := by decide +kernel
theorem dX10_askRow_43 : decode cX10_askRow 43 = .ok (.iload_n 3, 1) := by decide +kernel
theorem dX10_askRow_44 : decode cX10_askRow 44 = .ok (.aload_n 0, 1) := by decide +kernel
theorem dX10_askRow_45 : decode cX10_askRow 45 = .ok (.getfield 31, 3) := by decide +kernel
theorem dX10_askRow_48 : decode cX10_askRow 48 = .ok (.getfield 98, 3) := by decide +kernel
theorem dX10_askRow_51 : decode cX10_askRow 51 = .ok (.getfield 159, 3) := by decide +kernel
theorem dX10_askRow_54 : decode cX10_askRow 54 = .ok (.iconst 1, 1) := by decide +kernel
theorem dX10_askRow_55 : decode cX10_askRow 55 = .ok (.isub, 1) := by decide +kernel
theorem dX10_askRow_56 : decode cX10_askRow 56 = .ok (.invokevirtual 385, 3) := by decide +kernel
theorem dX10_askRow_59 : decode cX10_askRow 59 = .ok (.ifCond .eq 7, 3) := by decide +kernel
theorem dX10_askRow_66 : decode cX10_askRow 66 = .ok (.bipush (-2), 2) := by decide +kernel
theorem dX10_askRow_68 : decode cX10_askRow 68 = .ok (.ireturn, 1) := by decide +kernel
theorem dX10_askRow_62 : decode cX10_askRow 62 = .ok (.iconst 0, 1) := by decide +kernel
theorem dX10_askRow_63 : decode cX10_askRow 63 = .ok (.goto 5, 3) := by decide +kernel
theorem dX10_askRow_34 : decode cX10_askRow 34 = .ok (.bipush (-6), 2) := by decide +kernel
theorem dX10_askRow_36 : decode cX10_askRow 36 = .ok (.ireturn, 1) := by decide +kernel
theorem dX10_askRound_0 : decode cX10_askRound 0 = .ok (.aload_n 0, 1) := by decide +kernel
theorem dX10_askRound_1 : decode cX10_askRound 1 = .ok (.iload_n 1, 1) := by decide +kernel
theorem dX10_askRound_2 : decode cX10_askRound 2 = .ok (.iload_n 2, 1) := by decide +kernel
theorem dX10_askRound_3 : decode cX10_askRound 3 = .ok (.iconst (-1), 1) := by decide +kernel
theorem dX10_askRound_4 : decode cX10_askRound 4 = .ok (.invokevirtual 381, 3) := by decide +kernel
theorem dX10_askRound_7 : decode cX10_askRound 7 = .ok (.ireturn, 1) := by decide +kernel
theorem dX10_askHabits_0 : decode cX10_askHabits 0 = .ok (.aload_n 0, 1) := by decide +kernel
theorem dX10_askHabits_1 : decode cX10_askHabits 1 = .ok (.iload_n 1, 1) := by decide +kernel
theorem dX10_askHabits_2 : decode cX10_askHabits 2 = .ok (.iload_n 2, 1) := by decide +kernel
theorem dX10_askHabits_3 : decode cX10_askHabits 3 = .ok (.iconst 0, 1) := by decide +kernel
theorem dX10_askHabits_4 : decode cX10_askHabits 4 = .ok (.invokevirtual 381, 3) := by decide +kernel
theorem dX10_askHabits_7 : decode cX10_askHabits 7 = .ok (.ireturn, 1) := by decide +kernel
theorem dX10_replay_0 : decode cX10_replay 0 = .ok (.aload_n 0, 1) := by decide +kernel
theorem dX10_replay_1 : decode cX10_replay 1 = .ok (.getfield 48, 3) := by decide +kernel
theorem dX10_replay_4 : decode cX10_replay 4 = .ok (.aload_n 0, 1) := by decide +kernel
theorem dX10_replay_5 : decode cX10_replay 5 = .ok (.getfield 31, 3) := by decide +kernel
theorem dX10_replay_8 : decode cX10_replay 8 = .ok (.getfield 98, 3) := by decide +kernel
theorem dX10_replay_11 : decode cX10_replay 11 = .ok (.invokevirtual 388, 3) := by decide +kernel
theorem dX10_replay_14 : decode cX10_replay 14 = .ok (.iconst 0, 1) := by decide +kernel
theorem dX10_replay_15 : decode cX10_replay 15 = .ok (.istore_n 1, 1) := by decide +kernel
theorem dX10_replay_16 : decode cX10_replay 16 = .ok (.iload_n 1, 1) := by decide +kernel
theorem dX10_replay_17 : decode cX10_replay 17 = .ok (.aload_n 0, 1) := by decide +kernel
theorem dX10_replay_18 : decode cX10_replay 18 = .ok (.getfield 31, 3) := by decide +kernel
theorem dX10_replay_21 : decode cX10_replay 21 = .ok (.getfield 105, 3) := by decide +kernel
theorem dX10_replay_24 : decode cX10_replay 24 = .ok (.if_icmp .ge 34, 3) := by decide +kernel
theorem dX10_replay_58 : decode cX10_replay 58 = .ok (.return_, 1) := by decide +kernel
theorem dX10_replay_27 : decode cX10_replay 27 = .ok (.aload_n 0, 1) := by decide +kernel
theorem dX10_replay_28 : decode cX10_replay 28 = .ok (.getfield 48, 3) := by decide +kernel
theorem dX10_replay_31 : decode cX10_replay 31 = .ok (.aload_n 0, 1) := by decide +kernel
theorem dX10_replay_32 : decode cX10_replay 32 = .ok (.getfield 31, 3) := by decide +kernel
theorem dX10_replay_35 : decode cX10_replay 35 = .ok (.getfield 98, 3) := by decide +kernel
theorem dX10_replay_38 : decode cX10_replay 38 = .ok (.aload_n 0, 1) := by decide +kernel
theorem dX10_replay_39 : decode cX10_replay 39 = .ok (.getfield 31, 3) := by decide +kernel
theorem dX10_replay_42 : decode cX10_replay 42 = .ok (.getfield 172, 3) := by decide +kernel
theorem dX10_replay_45 : decode cX10_replay 45 = .ok (.iload_n 1, 1) := by decide +kernel
theorem dX10_replay_46 : decode cX10_replay 46 = .ok (.iaload, 1) := by decide +kernel
theorem dX10_replay_47 : decode cX10_replay 47 = .ok (.iconst 0, 1) := by decide +kernel
theorem dX10_replay_48 : decode cX10_replay 48 = .ok (.invokevirtual 175, 3) := by decide +kernel
theorem dX10_replay_51 : decode cX10_replay 51 = .ok (.pop, 1) := by decide +kernel
theorem dX10_replay_52 : decode cX10_replay 52 = .ok (.iinc 1 1, 3) := by decide +kernel
theorem dX10_replay_55 : decode cX10_replay 55 = .ok (.goto (-39), 3) := by decide +kernel
theorem dX10_worthOf_0 : decode cX10_worthOf 0 = .ok (.aload_n 0, 1) := by decide +kernel
theorem dX10_worthOf_1 : decode cX10_worthOf 1 = .ok (.getfield 31, 3) := by decide +kernel
theorem dX10_worthOf_4 : decode cX10_worthOf 4 = .ok (.getfield 98, 3) := by decide +kernel
theorem dX10_worthOf_7 : decode cX10_worthOf 7 = .ok (.getfield 391, 3) := by decide +kernel
theorem dX10_worthOf_10 : decode cX10_worthOf 10 = .ok (.i2l, 1) := by decide +kernel
theorem dX10_worthOf_11 : decode cX10_worthOf 11 = .ok (.iload_n 1, 1) := by decide +kernel
theorem dX10_worthOf_12 : decode cX10_worthOf 12 = .ok (.i2l, 1) := by decide +kernel
theorem dX10_worthOf_13 : decode cX10_worthOf 13 = .ok (.lmul, 1) := by decide +kernel
theorem dX10_worthOf_14 : decode cX10_worthOf 14 = .ok (.ldc2_w 394, 3) := by decide +kernel
theorem dX10_worthOf_17 : decode cX10_worthOf 17 = .ok (.ldiv, 1) := by decide +kernel
theorem dX10_worthOf_18 : decode cX10_worthOf 18 = .ok (.l2i, 1) := by decide +kernel
theorem dX10_worthOf_19 : decode cX10_worthOf 19 = .ok (.ireturn, 1) := by decide +kernel
theorem dX10_gainOf_0 : decode cX10_gainOf 0 = .ok (.aload_n 0, 1) := by decide +kernel
theorem dX10_gainOf_1 : decode cX10_gainOf 1 = .ok (.iload_n 1, 1) := by decide +kernel
theorem dX10_gainOf_2 : decode cX10_gainOf 2 = .ok (.invokevirtual 232, 3) := by decide +kernel
theorem dX10_gainOf_5 : decode cX10_gainOf 5 = .ok (.aload_n 0, 1) := by decide +kernel
theorem dX10_gainOf_6 : decode cX10_gainOf 6 = .ok (.getfield 31, 3) := by decide +kernel
theorem dX10_gainOf_9 : decode cX10_gainOf 9 = .ok (.getfield 98, 3) := by decide +kernel
theorem dX10_gainOf_12 : decode cX10_gainOf 12 = .ok (.getfield 235, 3) := by decide +kernel
theorem dX10_gainOf_15 : decode cX10_gainOf 15 = .ok (.iload_n 2, 1) := by decide +kernel
theorem dX10_gainOf_16 : decode cX10_gainOf 16 = .ok (.imul, 1) := by decide +kernel
theorem dX10_gainOf_17 : decode cX10_gainOf 17 = .ok (.isub, 1) := by decide +kernel
theorem dX10_gainOf_18 : decode cX10_gainOf 18 = .ok (.ireturn, 1) := by decide +kernel
theorem dX10_foundIn_0 : decode cX10_foundIn 0 = .ok (.aload_n 0, 1) := by decide +kernel
theorem dX10_foundIn_1 : decode cX10_foundIn 1 = .ok (.getfield 52, 3) := by decide +kernel
theorem dX10_foundIn_4 : decode cX10_foundIn 4 = .ok (.aload_n 0, 1) := by decide +kernel
theorem dX10_foundIn_5 : decode cX10_foundIn 5 = .ok (.getfield 48, 3) := by decide +kernel
theorem dX10_foundIn_8 : decode cX10_foundIn 8 = .ok (.invokevirtual 179, 3) := by decide +kernel
theorem dX10_foundIn_11 : decode cX10_foundIn 11 = .ok (.iconst 0, 1) := by decide +kernel
theorem dX10_foundIn_12 : decode cX10_foundIn 12 = .ok (.istore_n 3, 1) := by decide +kernel
theorem dX10_foundIn_13 : decode cX10_foundIn 13 = .ok (.iload_n 3, 1) := by decide +kernel
theorem dX10_foundIn_14 : decode cX10_foundIn 14 = .ok (.aload_n 1, 1) := by decide +kernel
theorem dX10_foundIn_15 : decode cX10_foundIn 15 = .ok (.getfield 194, 3) := by decide +kernel
theorem dX10_foundIn_18 : decode cX10_foundIn 18 = .ok (.if_icmp .ge 30, 3) := by decide +kernel
theorem dX10_foundIn_48 : decode cX10_foundIn 48 = .ok (.aload_n 0, 1) := by decide +kernel
theorem dX10_foundIn_49 : decode cX10_foundIn 49 = .ok (.getfield 52, 3) := by decide +kernel
theorem dX10_foundIn_52 : decode cX10_foundIn 52 = .ok (.getfield 156, 3) := by decide +kernel
theorem dX10_foundIn_55 : decode cX10_foundIn 55 = .ok (.aload_n 0, 1) := by decide +kernel
theorem dX10_foundIn_56 : decode cX10_foundIn 56 = .ok (.getfield 48, 3) := by decide +kernel
theorem dX10_foundIn_59 : decode cX10_foundIn 59 = .ok (.getfield 156, 3) := by decide +kernel
theorem dX10_foundIn_62 : decode cX10_foundIn 62 = .ok (.isub, 1) := by decide +kernel
theorem dX10_foundIn_63 : decode cX10_foundIn 63 = .ok (.ireturn, 1) := by decide +kernel
theorem dX10_foundIn_21 : decode cX10_foundIn 21 = .ok (.aload_n 0, 1) := by decide +kernel
theorem dX10_foundIn_22 : decode cX10_foundIn 22 = .ok (.getfield 52, 3) := by decide +kernel
theorem dX10_foundIn_25 : decode cX10_foundIn 25 = .ok (.aload_n 0, 1) := by decide +kernel
theorem dX10_foundIn_26 : decode cX10_foundIn 26 = .ok (.getfield 31, 3) := by decide +kernel
theorem dX10_foundIn_29 : decode cX10_foundIn 29 = .ok (.getfield 98, 3) := by decide +kernel
theorem dX10_foundIn_32 : decode cX10_foundIn 32 = .ok (.aload_n 1, 1) := by decide +kernel
theorem dX10_foundIn_33 : decode cX10_foundIn 33 = .ok (.iload_n 3, 1) := by decide +kernel
theorem dX10_foundIn_34 : decode cX10_foundIn 34 = .ok (.invokevirtual 195, 3) := by decide +kernel
theorem dX10_foundIn_37 : decode cX10_foundIn 37 = .ok (.iload_n 2, 1) := by decide +kernel
theorem dX10_foundIn_38 : decode cX10_foundIn 38 = .ok (.invokevirtual 175, 3) := by decide +kernel
theorem dX10_foundIn_41 : decode cX10_foundIn 41 = .ok (.pop, 1) := by decide +kernel
theorem dX10_foundIn_42 : decode cX10_foundIn 42 = .ok (.iinc 3 1, 3) := by decide +kernel
theorem dX10_foundIn_45 : decode cX10_foundIn 45 = .ok (.goto (-32), 3) := by decide +kernel
theorem dX10_canWalk_0 : decode cX10_canWalk 0 = .ok (.iload_n 2, 1) := by decide +kernel
theorem dX10_canWalk_1 : decode cX10_canWalk 1 = .ok (.istore_n 3, 1) := by decide +kernel
theorem dX10_canWalk_2 : decode cX10_canWalk 2 = .ok (.iconst 0, 1) := by decide +kernel
theorem dX10_canWalk_3 : decode cX10_canWalk 3 = .ok (.istore 4, 2) := by decide +kernel
theorem dX10_canWalk_5 : decode cX10_canWalk 5 = .ok (.iload 4, 2) := by decide +kernel
theorem dX10_canWalk_7 : decode cX10_canWalk 7 = .ok (.aload_n 1, 1) := by decide +kernel
theorem dX10_canWalk_8 : decode cX10_canWalk 8 = .ok (.getfield 194, 3) := by decide +kernel
theorem dX10_canWalk_11 : decode cX10_canWalk 11 = .ok (.if_icmp .ge 44, 3) := by decide +kernel
theorem dX10_canWalk_55 : decode cX10_canWalk 55 = .ok (.iconst 1, 1) := by decide +kernel
theorem dX10_canWalk_56 : decode cX10_canWalk 56 = .ok (.ireturn, 1) := by decide +kernel
theorem dX10_canWalk_14 : decode cX10_canWalk 14 = .ok (.aload_n 1, 1) := by decide +kernel
theorem dX10_canWalk_15 : decode cX10_canWalk 15 = .ok (.iload 4, 2) := by decide +kernel
theorem dX10_canWalk_17 : decode cX10_canWalk 17 = .ok (.invokevirtual 195, 3) := by decide +kernel
theorem dX10_canWalk_20 : decode cX10_canWalk 20 = .ok (.istore 5, 2) := by decide +kernel
theorem dX10_canWalk_22 : decode cX10_canWalk 22 = .ok (.iload 5, 2) := by decide +kernel
theorem dX10_canWalk_24 : decode cX10_canWalk 24 = .ok (.iconst (-1), 1) := by decide +kernel
theorem dX10_canWalk_49 : decode cX10_canWalk 49 = .ok (.iinc 4 1, 3) := by decide +kernel
theorem dX10_canWalk_52 : decode cX10_canWalk 52 = .ok (.goto (-47), 3) := by decide +kernel
theorem dX10_canWalk_25 : decode cX10_canWalk 25 = .ok (.if_icmp .eq 24, 3) := by decide +kernel
theorem dX10_canWalk_28 : decode cX10_canWalk 28 = .ok (.aload_n 0, 1) := by decide +kernel
theorem dX10_canWalk_29 : decode cX10_canWalk 29 = .ok (.getfield 31, 3) := by decide +kernel
theorem dX10_canWalk_32 : decode cX10_canWalk 32 = .ok (.getfield 98, 3) := by decide +kernel
theorem dX10_canWalk_35 : decode cX10_canWalk 35 = .ok (.iload_n 3, 1) := by decide +kernel
theorem dX10_canWalk_36 : decode cX10_canWalk 36 = .ok (.iload 5, 2) := by decide +kernel
theorem dX10_canWalk_38 : decode cX10_canWalk 38 = .ok (.invokevirtual 396, 3) := by decide +kernel
theorem dX10_canWalk_41 : decode cX10_canWalk 41 = .ok (.ifCond .ne 5, 3) := by decide +kernel
theorem dX10_canWalk_46 : decode cX10_canWalk 46 = .ok (.iload 5, 2) := by decide +kernel
theorem dX10_canWalk_48 : decode cX10_canWalk 48 = .ok (.istore_n 3, 1) := by decide +kernel
theorem dX10_canWalk_44 : decode cX10_canWalk 44 = .ok (.iconst 0, 1) := by decide +kernel
theorem dX10_canWalk_45 : decode cX10_canWalk 45 = .ok (.ireturn, 1) := by decide +kernel
theorem dX10_mostFrequent_0 : decode cX10_mostFrequent 0 = .ok (.iconst (-1), 1) := by decide +kernel
theorem dX10_mostFrequent_1 : decode cX10_mostFrequent 1 = .ok (.istore_n 3, 1) := by decide +kernel
theorem dX10_mostFrequent_2 : decode cX10_mostFrequent 2 = .ok (.iconst 0, 1) := by decide +kernel
theorem dX10_mostFrequent_3 : decode cX10_mostFrequent 3 = .ok (.istore 4, 2) := by decide +kernel
theorem dX10_mostFrequent_5 : decode cX10_mostFrequent 5 = .ok (.iconst 0, 1) := by decide +kernel
theorem dX10_mostFrequent_6 : decode cX10_mostFrequent 6 = .ok (.istore 5, 2) := by decide +kernel
theorem dX10_mostFrequent_8 : decode cX10_mostFrequent 8 = .ok (.iload 5, 2) := by decide +kernel
theorem dX10_mostFrequent_10 : decode cX10_mostFrequent 10 = .ok (.aload_n 0, 1) := by decide +kernel
theorem dX10_mostFrequent_11 : decode cX10_mostFrequent 11 = .ok (.getfield 31, 3) := by decide +kernel
theorem dX10_mostFrequent_14 : decode cX10_mostFrequent 14 = .ok (.getfield 98, 3) := by decide +kernel
theorem dX10_mostFrequent_17 : decode cX10_mostFrequent 17 = .ok (.getfield 159, 3) := by decide +kernel
theorem dX10_mostFrequent_20 : decode cX10_mostFrequent 20 = .ok (.if_icmp .ge 32, 3) := by decide +kernel
theorem dX10_mostFrequent_52 : decode cX10_mostFrequent 52 = .ok (.iload_n 3, 1) := by decide +kernel
theorem dX10_mostFrequent_53 : decode cX10_mostFrequent 53 = .ok (.ireturn, 1) := by decide +kernel
theorem dX10_mostFrequent_23 : decode cX10_mostFrequent 23 = .ok (.aload_n 1, 1) := by decide +kernel
theorem dX10_mostFrequent_24 : decode cX10_mostFrequent 24 = .ok (.iload 5, 2) := by decide +kernel
theorem dX10_mostFrequent_26 : decode cX10_mostFrequent 26 = .ok (.iload_n 2, 1) := by decide +kernel
theorem dX10_mostFrequent_27 : decode cX10_mostFrequent 27 = .ok (.invokevirtual 402, 3) := by decide +kernel
theorem dX10_mostFrequent_30 : decode cX10_mostFrequent 30 = .ok (.istore 6, 2) := by decide +kernel
theorem dX10_mostFrequent_32 : decode cX10_mostFrequent 32 = .ok (.iload 6, 2) := by decide +kernel
theorem dX10_mostFrequent_34 : decode cX10_mostFrequent 34 = .ok (.iload 4, 2) := by decide +kernel
theorem dX10_mostFrequent_46 : decode cX10_mostFrequent 46 = .ok (.iinc 5 1, 3) := by decide +kernel
theorem dX10_mostFrequent_49 : decode cX10_mostFrequent 49 = .ok (.goto (-41), 3) := by decide +kernel
theorem dX10_mostFrequent_36 : decode cX10_mostFrequent 36 = .ok (.if_icmp .le 10, 3) := by decide +kernel
theorem dX10_mostFrequent_39 : decode cX10_mostFrequent 39 = .ok (.iload 6, 2) := by decide +kernel
theorem dX10_mostFrequent_41 : decode cX10_mostFrequent 41 = .ok (.istore 4, 2) := by decide +kernel
theorem dX10_mostFrequent_43 : decode cX10_mostFrequent 43 = .ok (.iload 5, 2) := by decide +kernel
theorem dX10_mostFrequent_45 : decode cX10_mostFrequent 45 = .ok (.istore_n 3, 1) := by decide +kernel
theorem dX10_foundAtOnce_0 : decode cX10_foundAtOnce 0 = .ok (.iconst 0, 1) := by decide +kernel
theorem dX10_foundAtOnce_1 : decode cX10_foundAtOnce 1 = .ok (.istore_n 2, 1) := by decide +kernel
theorem dX10_foundAtOnce_2 : decode cX10_foundAtOnce 2 = .ok (.iconst 0, 1) := by decide +kernel
theorem dX10_foundAtOnce_3 : decode cX10_foundAtOnce 3 = .ok (.istore_n 3, 1) := by decide +kernel
theorem dX10_foundAtOnce_4 : decode cX10_foundAtOnce 4 = .ok (.iload_n 3, 1) := by decide +kernel
theorem dX10_foundAtOnce_5 : decode cX10_foundAtOnce 5 = .ok (.aload_n 0, 1) := by decide +kernel
theorem dX10_foundAtOnce_6 : decode cX10_foundAtOnce 6 = .ok (.getfield 31, 3) := by decide +kernel
theorem dX10_foundAtOnce_9 : decode cX10_foundAtOnce 9 = .ok (.getfield 98, 3) := by decide +kernel
theorem dX10_foundAtOnce_12 : decode cX10_foundAtOnce 12 = .ok (.getfield 159, 3) := by decide +kernel
theorem dX10_foundAtOnce_15 : decode cX10_foundAtOnce 15 = .ok (.if_icmp .ge 36, 3) := by decide +kernel
theorem dX10_foundAtOnce_51 : decode cX10_foundAtOnce 51 = .ok (.iload_n 2, 1) := by decide +kernel
theorem dX10_foundAtOnce_52 : decode cX10_foundAtOnce 52 = .ok (.ireturn, 1) := by decide +kernel
theorem dX10_foundAtOnce_18 : decode cX10_foundAtOnce 18 = .ok (.iload_n 1, 1) := by decide +kernel
theorem dX10_foundAtOnce_19 : decode cX10_foundAtOnce 19 = .ok (.iload_n 3, 1) := by decide +kernel
theorem dX10_foundAtOnce_20 : decode cX10_foundAtOnce 20 = .ok (.ishr, 1) := by decide +kernel
theorem dX10_foundAtOnce_21 : decode cX10_foundAtOnce 21 = .ok (.iconst 1, 1) := by decide +kernel
theorem dX10_foundAtOnce_22 : decode cX10_foundAtOnce 22 = .ok (.iand, 1) := by decide +kernel
theorem dX10_foundAtOnce_45 : decode cX10_foundAtOnce 45 = .ok (.iinc 3 1, 3) := by decide +kernel
theorem dX10_foundAtOnce_48 : decode cX10_foundAtOnce 48 = .ok (.goto (-44), 3) := by decide +kernel
theorem dX10_foundAtOnce_23 : decode cX10_foundAtOnce 23 = .ok (.ifCond .eq 22, 3) := by decide +kernel
theorem dX10_foundAtOnce_26 : decode cX10_foundAtOnce 26 = .ok (.iload_n 2, 1) := by decide +kernel
theorem dX10_foundAtOnce_27 : decode cX10_foundAtOnce 27 = .ok (.aload_n 0, 1) := by decide +kernel
theorem dX10_foundAtOnce_28 : decode cX10_foundAtOnce 28 = .ok (.getfield 48, 3) := by decide +kernel
theorem dX10_foundAtOnce_31 : decode cX10_foundAtOnce 31 = .ok (.aload_n 0, 1) := by decide +kernel
theorem dX10_foundAtOnce_32 : decode cX10_foundAtOnce 32 = .ok (.getfield 31, 3) := by decide +kernel
theorem dX10_foundAtOnce_35 : decode cX10_foundAtOnce 35 = .ok (.getfield 98, 3) := by decide +kernel
theorem dX10_foundAtOnce_38 : decode cX10_foundAtOnce 38 = .ok (.iload_n 3, 1) := by decide +kernel
theorem dX10_foundAtOnce_39 : decode cX10_foundAtOnce 39 = .ok (.iconst 0, 1) := by decide +kernel
theorem dX10_foundAtOnce_40 : decode cX10_foundAtOnce 40 = .ok (.invokevirtual 399, 3) := by decide +kernel
theorem dX10_foundAtOnce_43 : decode cX10_foundAtOnce 43 = .ok (.iadd, 1) := by decide +kernel
theorem dX10_foundAtOnce_44 : decode cX10_foundAtOnce 44 = .ok (.istore_n 2, 1) := by decide +kernel
theorem dX10_peopleOf_0 : decode cX10_peopleOf 0 = .ok (.iconst 0, 1) := by decide +kernel
theorem dX10_peopleOf_1 : decode cX10_peopleOf 1 = .ok (.istore_n 2, 1) := by decide +kernel
theorem dX10_peopleOf_2 : decode cX10_peopleOf 2 = .ok (.iconst 0, 1) := by decide +kernel
theorem dX10_peopleOf_3 : decode cX10_peopleOf 3 = .ok (.istore_n 3, 1) := by decide +kernel
theorem dX10_peopleOf_4 : decode cX10_peopleOf 4 = .ok (.iload_n 3, 1) := by decide +kernel
theorem dX10_peopleOf_5 : decode cX10_peopleOf 5 = .ok (.aload_n 0, 1) := by decide +kernel
theorem dX10_peopleOf_6 : decode cX10_peopleOf 6 = .ok (.getfield 31, 3) := by decide +kernel
theorem dX10_peopleOf_9 : decode cX10_peopleOf 9 = .ok (.getfield 98, 3) := by decide +kernel
theorem dX10_peopleOf_12 : decode cX10_peopleOf 12 = .ok (.getfield 159, 3) := by decide +kernel
theorem dX10_peopleOf_15 : decode cX10_peopleOf 15 = .ok (.if_icmp .ge 32, 3) := by decide +kernel
theorem dX10_peopleOf_47 : decode cX10_peopleOf 47 = .ok (.iload_n 2, 1) := by decide +kernel
theorem dX10_peopleOf_48 : decode cX10_peopleOf 48 = .ok (.ireturn, 1) := by decide +kernel
theorem dX10_peopleOf_18 : decode cX10_peopleOf 18 = .ok (.iload_n 1, 1) := by decide +kernel
theorem dX10_peopleOf_19 : decode cX10_peopleOf 19 = .ok (.iload_n 3, 1) := by decide +kernel
theorem dX10_peopleOf_20 : decode cX10_peopleOf 20 = .ok (.ishr, 1) := by decide +kernel
theorem dX10_peopleOf_21 : decode cX10_peopleOf 21 = .ok (.iconst 1, 1) := by decide +kernel
theorem dX10_peopleOf_22 : decode cX10_peopleOf 22 = .ok (.iand, 1) := by decide +kernel
theorem dX10_peopleOf_41 : decode cX10_peopleOf 41 = .ok (.iinc 3 1, 3) := by decide +kernel
theorem dX10_peopleOf_44 : decode cX10_peopleOf 44 = .ok (.goto (-40), 3) := by decide +kernel
theorem dX10_peopleOf_23 : decode cX10_peopleOf 23 = .ok (.ifCond .eq 18, 3) := by decide +kernel
theorem dX10_peopleOf_26 : decode cX10_peopleOf 26 = .ok (.iload_n 2, 1) := by decide +kernel
theorem dX10_peopleOf_27 : decode cX10_peopleOf 27 = .ok (.aload_n 0, 1) := by decide +kernel
theorem dX10_peopleOf_28 : decode cX10_peopleOf 28 = .ok (.getfield 31, 3) := by decide +kernel
theorem dX10_peopleOf_31 : decode cX10_peopleOf 31 = .ok (.getfield 98, 3) := by decide +kernel
theorem dX10_peopleOf_34 : decode cX10_peopleOf 34 = .ok (.getfield 198, 3) := by decide +kernel
theorem dX10_peopleOf_37 : decode cX10_peopleOf 37 = .ok (.iload_n 3, 1) := by decide +kernel
theorem dX10_peopleOf_38 : decode cX10_peopleOf 38 = .ok (.iaload, 1) := by decide +kernel
theorem dX10_peopleOf_39 : decode cX10_peopleOf 39 = .ok (.iadd, 1) := by decide +kernel
theorem dX10_peopleOf_40 : decode cX10_peopleOf 40 = .ok (.istore_n 2, 1) := by decide +kernel
theorem dX10_quietestSet_0 : decode cX10_quietestSet 0 = .ok (.iconst (-1), 1) := by decide +kernel
theorem dX10_quietestSet_1 : decode cX10_quietestSet 1 = .ok (.istore_n 2, 1) := by decide +kernel
theorem dX10_quietestSet_2 : decode cX10_quietestSet 2 = .ok (.iconst 0, 1) := by decide +kernel
theorem dX10_quietestSet_3 : decode cX10_quietestSet 3 = .ok (.istore_n 3, 1) := by decide +kernel
theorem dX10_quietestSet_4 : decode cX10_quietestSet 4 = .ok (.iconst 0, 1) := by decide +kernel
theorem dX10_quietestSet_5 : decode cX10_quietestSet 5 = .ok (.istore 4, 2) := by decide +kernel
theorem dX10_quietestSet_7 : decode cX10_quietestSet 7 = .ok (.iload 4, 2) := by decide +kernel
theorem dX10_quietestSet_9 : decode cX10_quietestSet 9 = .ok (.aload_n 0, 1) := by decide +kernel
theorem dX10_quietestSet_10 : decode cX10_quietestSet 10 = .ok (.getfield 31, 3) := by decide +kernel
theorem dX10_quietestSet_13 : decode cX10_quietestSet 13 = .ok (.getfield 98, 3) := by decide +kernel
theorem dX10_quietestSet_16 : decode cX10_quietestSet 16 = .ok (.invokevirtual 238, 3) := by decide +kernel
theorem dX10_quietestSet_19 : decode cX10_quietestSet 19 = .ok (.if_icmp .gt 44, 3) := by decide +kernel
theorem dX10_quietestSet_63 : decode cX10_quietestSet 63 = .ok (.iload_n 2, 1) := by decide +kernel
theorem dX10_quietestSet_64 : decode cX10_quietestSet 64 = .ok (.ireturn, 1) := by decide +kernel
theorem dX10_quietestSet_22 : decode cX10_quietestSet 22 = .ok (.aload_n 0, 1) := by decide +kernel
theorem dX10_quietestSet_23 : decode cX10_quietestSet 23 = .ok (.iload 4, 2) := by decide +kernel
theorem dX10_quietestSet_25 : decode cX10_quietestSet 25 = .ok (.invokevirtual 241, 3) := by decide +kernel
theorem dX10_quietestSet_28 : decode cX10_quietestSet 28 = .ok (.iload_n 1, 1) := by decide +kernel
theorem dX10_quietestSet_57 : decode cX10_quietestSet 57 = .ok (.iinc 4 1, 3) := by decide +kernel
theorem dX10_quietestSet_60 : decode cX10_quietestSet 60 = .ok (.goto (-53), 3) := by decide +kernel
theorem dX10_quietestSet_29 : decode cX10_quietestSet 29 = .ok (.if_icmp .lt 28, 3) := by decide +kernel
theorem dX10_quietestSet_32 : decode cX10_quietestSet 32 = .ok (.aload_n 0, 1) := by decide +kernel
theorem dX10_quietestSet_33 : decode cX10_quietestSet 33 = .ok (.iload 4, 2) := by decide +kernel
theorem dX10_quietestSet_35 : decode cX10_quietestSet 35 = .ok (.invokevirtual 247, 3) := by decide +kernel
theorem dX10_quietestSet_38 : decode cX10_quietestSet 38 = .ok (.istore 5, 2) := by decide +kernel
theorem dX10_quietestSet_40 : decode cX10_quietestSet 40 = .ok (.iload_n 2, 1) := by decide +kernel
theorem dX10_quietestSet_41 : decode cX10_quietestSet 41 = .ok (.iconst (-1), 1) := by decide +kernel
theorem dX10_quietestSet_51 : decode cX10_quietestSet 51 = .ok (.iload 5, 2) := by decide +kernel
theorem dX10_quietestSet_53 : decode cX10_quietestSet 53 = .ok (.istore_n 3, 1) := by decide +kernel
theorem dX10_quietestSet_54 : decode cX10_quietestSet 54 = .ok (.iload 4, 2) := by decide +kernel
theorem dX10_quietestSet_56 : decode cX10_quietestSet 56 = .ok (.istore_n 2, 1) := by decide +kernel
theorem dX10_quietestSet_42 : decode cX10_quietestSet 42 = .ok (.if_icmp .eq 9, 3) := by decide +kernel
theorem dX10_quietestSet_45 : decode cX10_quietestSet 45 = .ok (.iload 5, 2) := by decide +kernel
theorem dX10_quietestSet_47 : decode cX10_quietestSet 47 = .ok (.iload_n 3, 1) := by decide +kernel
theorem dX10_quietestSet_48 : decode cX10_quietestSet 48 = .ok (.if_icmp .ge 9, 3) := by decide +kernel
theorem dX10_comesInto_0 : decode cX10_comesInto 0 = .ok (.aload_n 0, 1) := by decide +kernel
theorem dX10_comesInto_1 : decode cX10_comesInto 1 = .ok (.getfield 52, 3) := by decide +kernel
theorem dX10_comesInto_4 : decode cX10_comesInto 4 = .ok (.aload_n 0, 1) := by decide +kernel
