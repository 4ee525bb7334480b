theorem dX2_read_0 : decode cX2_read 0 = .ok (.lconst 0, 1) := by decide +kernel
theorem dX2_read_1 : decode cX2_read 1 = .ok (.lstore_n 3, 1) := by decide +kernel
theorem dX2_read_2 : decode cX2_read 2 = .ok (.iconst 0, 1) := by decide +kernel
theorem dX2_read_3 : decode cX2_read 3 = .ok (.istore 5, 2) := by decide +kernel
theorem dX2_read_5 : decode cX2_read 5 = .ok (.iload 5, 2) := by decide +kernel
theorem dX2_read_7 : decode cX2_read 7 = .ok (.iload_n 2, 1) := by decide +kernel
theorem dX2_read_8 : decode cX2_read 8 = .ok (.if_icmp .ge 26, 3) := by decide +kernel
theorem dX2_read_11 : decode cX2_read 11 = .ok (.lload_n 3, 1) := by decide +kernel
theorem dX2_read_12 : decode cX2_read 12 = .ok (.bipush 8, 2) := by decide +kernel
theorem dX2_read_14 : decode cX2_read 14 = .ok (.lshl, 1) := by decide +kernel
theorem dX2_read_15 : decode cX2_read 15 = .ok (.aload_n 0, 1) := by decide +kernel
theorem dX2_read_16 : decode cX2_read 16 = .ok (.iload_n 1, 1) := by decide +kernel
theorem dX2_read_17 : decode cX2_read 17 = .ok (.iload 5, 2) := by decide +kernel
theorem dX2_read_19 : decode cX2_read 19 = .ok (.iadd, 1) := by decide +kernel
theorem dX2_read_20 : decode cX2_read 20 = .ok (.baload, 1) := by decide +kernel
theorem dX2_read_21 : decode cX2_read 21 = .ok (.sipush 255, 3) := by decide +kernel
theorem dX2_read_24 : decode cX2_read 24 = .ok (.iand, 1) := by decide +kernel
theorem dX2_read_25 : decode cX2_read 25 = .ok (.i2l, 1) := by decide +kernel
theorem dX2_read_26 : decode cX2_read 26 = .ok (.lor, 1) := by decide +kernel
theorem dX2_read_27 : decode cX2_read 27 = .ok (.lstore_n 3, 1) := by decide +kernel
theorem dX2_read_28 : decode cX2_read 28 = .ok (.iinc 5 1, 3) := by decide +kernel
theorem dX2_read_31 : decode cX2_read 31 = .ok (.goto (-26), 3) := by decide +kernel
theorem dX2_read_34 : decode cX2_read 34 = .ok (.lload_n 3, 1) := by decide +kernel
theorem dX2_read_35 : decode cX2_read 35 = .ok (.lreturn, 1) := by decide +kernel
theorem dX2_sum_0 : decode cX2_sum 0 = .ok (.iload_n 3, 1) := by decide +kernel
theorem dX2_sum_1 : decode cX2_sum 1 = .ok (.iconst 1, 1) := by decide +kernel
theorem dX2_sum_2 : decode cX2_sum 2 = .ok (.iadd, 1) := by decide +kernel
theorem dX2_sum_3 : decode cX2_sum 3 = .ok (.istore 4, 2) := by decide +kernel
theorem dX2_sum_5 : decode cX2_sum 5 = .ok (.iconst 0, 1) := by decide +kernel
theorem dX2_sum_6 : decode cX2_sum 6 = .ok (.istore 5, 2) := by decide +kernel
theorem dX2_sum_8 : decode cX2_sum 8 = .ok (.iload 5, 2) := by decide +kernel
theorem dX2_sum_10 : decode cX2_sum 10 = .ok (.iload_n 2, 1) := by decide +kernel
theorem dX2_sum_11 : decode cX2_sum 11 = .ok (.if_icmp .ge 39, 3) := by decide +kernel
theorem dX2_sum_14 : decode cX2_sum 14 = .ok (.iload 4, 2) := by decide +kernel
theorem dX2_sum_16 : decode cX2_sum 16 = .ok (.aload_n 0, 1) := by decide +kernel
theorem dX2_sum_17 : decode cX2_sum 17 = .ok (.iload_n 1, 1) := by decide +kernel
theorem dX2_sum_18 : decode cX2_sum 18 = .ok (.iload 5, 2) := by decide +kernel
theorem dX2_sum_20 : decode cX2_sum 20 = .ok (.iadd, 1) := by decide +kernel
theorem dX2_sum_21 : decode cX2_sum 21 = .ok (.baload, 1) := by decide +kernel
theorem dX2_sum_22 : decode cX2_sum 22 = .ok (.sipush 255, 3) := by decide +kernel
theorem dX2_sum_25 : decode cX2_sum 25 = .ok (.iand, 1) := by decide +kernel
theorem dX2_sum_26 : decode cX2_sum 26 = .ok (.ixor, 1) := by decide +kernel
theorem dX2_sum_27 : decode cX2_sum 27 = .ok (.istore 6, 2) := by decide +kernel
theorem dX2_sum_29 : decode cX2_sum 29 = .ok (.iload 6, 2) := by decide +kernel
theorem dX2_sum_31 : decode cX2_sum 31 = .ok (.iconst 5, 1) := by decide +kernel
theorem dX2_sum_32 : decode cX2_sum 32 = .ok (.ishl, 1) := by decide +kernel
theorem dX2_sum_33 : decode cX2_sum 33 = .ok (.iload 6, 2) := by decide +kernel
theorem dX2_sum_35 : decode cX2_sum 35 = .ok (.bipush 27, 2) := by decide +kernel
theorem dX2_sum_37 : decode cX2_sum 37 = .ok (.iushr, 1) := by decide +kernel
theorem dX2_sum_38 : decode cX2_sum 38 = .ok (.ior, 1) := by decide +kernel
theorem dX2_sum_39 : decode cX2_sum 39 = .ok (.ldc 9, 2) := by decide +kernel
theorem dX2_sum_41 : decode cX2_sum 41 = .ok (.imul, 1) := by decide +kernel
theorem dX2_sum_42 : decode cX2_sum 42 = .ok (.istore 4, 2) := by decide +kernel
theorem dX2_sum_44 : decode cX2_sum 44 = .ok (.iinc 5 1, 3) := by decide +kernel
theorem dX2_sum_47 : decode cX2_sum 47 = .ok (.goto (-39), 3) := by decide +kernel
theorem dX2_sum_50 : decode cX2_sum 50 = .ok (.iload 4, 2) := by decide +kernel
theorem dX2_sum_52 : decode cX2_sum 52 = .ok (.ireturn, 1) := by decide +kernel
theorem dX2_hasSum_0 : decode cX2_hasSum 0 = .ok (.aload_n 0, 1) := by decide +kernel
theorem dX2_hasSum_1 : decode cX2_hasSum 1 = .ok (.iload_n 1, 1) := by decide +kernel
theorem dX2_hasSum_2 : decode cX2_hasSum 2 = .ok (.iload_n 2, 1) := by decide +kernel
theorem dX2_hasSum_3 : decode cX2_hasSum 3 = .ok (.iadd, 1) := by decide +kernel
theorem dX2_hasSum_4 : decode cX2_hasSum 4 = .ok (.iconst 4, 1) := by decide +kernel
theorem dX2_hasSum_5 : decode cX2_hasSum 5 = .ok (.invokestatic 10, 3) := by decide +kernel
theorem dX2_hasSum_8 : decode cX2_hasSum 8 = .ok (.l2i, 1) := by decide +kernel
theorem dX2_hasSum_9 : decode cX2_hasSum 9 = .ok (.aload_n 0, 1) := by decide +kernel
theorem dX2_hasSum_10 : decode cX2_hasSum 10 = .ok (.iload_n 1, 1) := by decide +kernel
theorem dX2_hasSum_11 : decode cX2_hasSum 11 = .ok (.iload_n 2, 1) := by decide +kernel
theorem dX2_hasSum_12 : decode cX2_hasSum 12 = .ok (.iload_n 3, 1) := by decide +kernel
theorem dX2_hasSum_13 : decode cX2_hasSum 13 = .ok (.invokestatic 14, 3) := by decide +kernel
theorem dX2_hasSum_16 : decode cX2_hasSum 16 = .ok (.if_icmp .ne 7, 3) := by decide +kernel
theorem dX2_hasSum_19 : decode cX2_hasSum 19 = .ok (.iconst 1, 1) := by decide +kernel
theorem dX2_hasSum_20 : decode cX2_hasSum 20 = .ok (.goto 4, 3) := by decide +kernel
theorem dX2_hasSum_23 : decode cX2_hasSum 23 = .ok (.iconst 0, 1) := by decide +kernel
theorem dX2_hasSum_24 : decode cX2_hasSum 24 = .ok (.ireturn, 1) := by decide +kernel
theorem dX2_write_0 : decode cX2_write 0 = .ok (.iconst 0, 1) := by decide +kernel
theorem dX2_write_1 : decode cX2_write 1 = .ok (.istore 5, 2) := by decide +kernel
theorem dX2_write_3 : decode cX2_write 3 = .ok (.iload 5, 2) := by decide +kernel
theorem dX2_write_5 : decode cX2_write 5 = .ok (.iload_n 2, 1) := by decide +kernel
theorem dX2_write_6 : decode cX2_write 6 = .ok (.if_icmp .ge 28, 3) := by decide +kernel
theorem dX2_write_9 : decode cX2_write 9 = .ok (.aload_n 0, 1) := by decide +kernel
theorem dX2_write_10 : decode cX2_write 10 = .ok (.iload_n 1, 1) := by decide +kernel
theorem dX2_write_11 : decode cX2_write 11 = .ok (.iload 5, 2) := by decide +kernel
theorem dX2_write_13 : decode cX2_write 13 = .ok (.iadd, 1) := by decide +kernel
theorem dX2_write_14 : decode cX2_write 14 = .ok (.lload_n 3, 1) := by decide +kernel
theorem dX2_write_15 : decode cX2_write 15 = .ok (.bipush 8, 2) := by decide +kernel
theorem dX2_write_17 : decode cX2_write 17 = .ok (.iload_n 2, 1) := by decide +kernel
theorem dX2_write_18 : decode cX2_write 18 = .ok (.iconst 1, 1) := by decide +kernel
theorem dX2_write_19 : decode cX2_write 19 = .ok (.isub, 1) := by decide +kernel
theorem dX2_write_20 : decode cX2_write 20 = .ok (.iload 5, 2) := by decide +kernel
theorem dX2_write_22 : decode cX2_write 22 = .ok (.isub, 1) := by decide +kernel
theorem dX2_write_23 : decode cX2_write 23 = .ok (.imul, 1) := by decide +kernel
theorem dX2_write_24 : decode cX2_write 24 = .ok (.lushr, 1) := by decide +kernel
theorem dX2_write_25 : decode cX2_write 25 = .ok (.l2i, 1) := by decide +kernel
theorem dX2_write_26 : decode cX2_write 26 = .ok (.i2b, 1) := by decide +kernel
theorem dX2_write_27 : decode cX2_write 27 = .ok (.bastore, 1) := by decide +kernel
theorem dX2_write_28 : decode cX2_write 28 = .ok (.iinc 5 1, 3) := by decide +kernel
theorem dX2_write_31 : decode cX2_write 31 = .ok (.goto (-28), 3) := by decide +kernel
theorem dX2_write_34 : decode cX2_write 34 = .ok (.return_, 1) := by decide +kernel
theorem dX2_writeSum_0 : decode cX2_writeSum 0 = .ok (.aload_n 0, 1) := by decide +kernel
theorem dX2_writeSum_1 : decode cX2_writeSum 1 = .ok (.iload_n 1, 1) := by decide +kernel
theorem dX2_writeSum_2 : decode cX2_writeSum 2 = .ok (.iload_n 2, 1) := by decide +kernel
theorem dX2_writeSum_3 : decode cX2_writeSum 3 = .ok (.iadd, 1) := by decide +kernel
theorem dX2_writeSum_4 : decode cX2_writeSum 4 = .ok (.iconst 4, 1) := by decide +kernel
theorem dX2_writeSum_5 : decode cX2_writeSum 5 = .ok (.aload_n 0, 1) := by decide +kernel
theorem dX2_writeSum_6 : decode cX2_writeSum 6 = .ok (.iload_n 1, 1) := by decide +kernel
theorem dX2_writeSum_7 : decode cX2_writeSum 7 = .ok (.iload_n 2, 1) := by decide +kernel
theorem dX2_writeSum_8 : decode cX2_writeSum 8 = .ok (.iload_n 3, 1) := by decide +kernel
theorem dX2_writeSum_9 : decode cX2_writeSum 9 = .ok (.invokestatic 14, 3) := by decide +kernel
theorem dX2_writeSum_12 : decode cX2_writeSum 12 = .ok (.i2l, 1) := by decide +kernel
theorem dX2_writeSum_13 : decode cX2_writeSum 13 = .ok (.invokestatic 18, 3) := by decide +kernel
theorem dX2_writeSum_16 : decode cX2_writeSum 16 = .ok (.return_, 1) := by decide +kernel
theorem dX1_areaAt_0 : decode cX1_areaAt 0 = .ok (.aload_n 0, 1) := by decide +kernel
theorem dX1_areaAt_1 : decode cX1_areaAt 1 = .ok (.iload_n 1, 1) := by decide +kernel
theorem dX1_areaAt_2 : decode cX1_areaAt 2 = .ok (.sipush 512, 3) := by decide +kernel
theorem dX1_areaAt_5 : decode cX1_areaAt 5 = .ok (.imul, 1) := by decide +kernel
theorem dX1_areaAt_6 : decode cX1_areaAt 6 = .ok (.bipush 8, 2) := by decide +kernel
theorem dX1_areaAt_8 : decode cX1_areaAt 8 = .ok (.iadd, 1) := by decide +kernel
theorem dX1_areaAt_9 : decode cX1_areaAt 9 = .ok (.baload, 1) := by decide +kernel
theorem dX1_areaAt_10 : decode cX1_areaAt 10 = .ok (.sipush 255, 3) := by decide +kernel
theorem dX1_areaAt_13 : decode cX1_areaAt 13 = .ok (.iand, 1) := by decide +kernel
theorem dX1_areaAt_14 : decode cX1_areaAt 14 = .ok (.ireturn, 1) := by decide +kernel
theorem dX1_sequenceAt_0 : decode cX1_sequenceAt 0 = .ok (.aload_n 0, 1) := by decide +kernel
theorem dX1_sequenceAt_1 : decode cX1_sequenceAt 1 = .ok (.iload_n 1, 1) := by decide +kernel
theorem dX1_sequenceAt_2 : decode cX1_sequenceAt 2 = .ok (.sipush 512, 3) := by decide +kernel
theorem dX1_sequenceAt_5 : decode cX1_sequenceAt 5 = .ok (.imul, 1) := by decide +kernel
theorem dX1_sequenceAt_6 : decode cX1_sequenceAt 6 = .ok (.iconst 4, 1) := by decide +kernel
theorem dX1_sequenceAt_7 : decode cX1_sequenceAt 7 = .ok (.iadd, 1) := by decide +kernel
theorem dX1_sequenceAt_8 : decode cX1_sequenceAt 8 = .ok (.iconst 4, 1) := by decide +kernel
theorem dX1_sequenceAt_9 : decode cX1_sequenceAt 9 = .ok (.invokestatic 19, 3) := by decide +kernel
theorem dX1_sequenceAt_12 : decode cX1_sequenceAt 12 = .ok (.l2i, 1) := by decide +kernel
theorem dX1_sequenceAt_13 : decode cX1_sequenceAt 13 = .ok (.ireturn, 1) := by decide +kernel
theorem dX1_isGood_0 : decode cX1_isGood 0 = .ok (.iload_n 1, 1) := by decide +kernel
theorem dX1_isGood_1 : decode cX1_isGood 1 = .ok (.sipush 512, 3) := by decide +kernel
theorem dX1_isGood_4 : decode cX1_isGood 4 = .ok (.imul, 1) := by decide +kernel
theorem dX1_isGood_5 : decode cX1_isGood 5 = .ok (.istore_n 2, 1) := by decide +kernel
theorem dX1_isGood_6 : decode cX1_isGood 6 = .ok (.aload_n 0, 1) := by decide +kernel
theorem dX1_isGood_7 : decode cX1_isGood 7 = .ok (.iload_n 2, 1) := by decide +kernel
theorem dX1_isGood_8 : decode cX1_isGood 8 = .ok (.iconst 4, 1) := by decide +kernel
theorem dX1_isGood_9 : decode cX1_isGood 9 = .ok (.iadd, 1) := by decide +kernel
theorem dX1_isGood_10 : decode cX1_isGood 10 = .ok (.iconst 4, 1) := by decide +kernel
theorem dX1_isGood_11 : decode cX1_isGood 11 = .ok (.invokestatic 19, 3) := by decide +kernel
theorem dX1_isGood_14 : decode cX1_isGood 14 = .ok (.lstore_n 3, 1) := by decide +kernel
theorem dX1_isGood_15 : decode cX1_isGood 15 = .ok (.lload_n 3, 1) := by decide +kernel
theorem dX1_isGood_16 : decode cX1_isGood 16 = .ok (.ldc2_w 25, 3) := by decide +kernel
theorem dX1_isGood_19 : decode cX1_isGood 19 = .ok (.lcmp, 1) := by decide +kernel
theorem dX1_isGood_20 : decode cX1_isGood 20 = .ok (.ifCond .ge 23, 3) := by decide +kernel
theorem dX1_isGood_23 : decode cX1_isGood 23 = .ok (.lload_n 3, 1) := by decide +kernel
theorem dX1_isGood_24 : decode cX1_isGood 24 = .ok (.ldc2_w 27, 3) := by decide +kernel
theorem dX1_isGood_27 : decode cX1_isGood 27 = .ok (.lrem, 1) := by decide +kernel
theorem dX1_isGood_28 : decode cX1_isGood 28 = .ok (.iload_n 1, 1) := by decide +kernel
theorem dX1_isGood_29 : decode cX1_isGood 29 = .ok (.i2l, 1) := by decide +kernel
theorem dX1_isGood_30 : decode cX1_isGood 30 = .ok (.lcmp, 1) := by decide +kernel
theorem dX1_isGood_31 : decode cX1_isGood 31 = .ok (.ifCond .ne 12, 3) := by decide +kernel
theorem dX1_isGood_34 : decode cX1_isGood 34 = .ok (.aload_n 0, 1) := by decide +kernel
theorem dX1_isGood_35 : decode cX1_isGood 35 = .ok (.iload_n 1, 1) := by decide +kernel
theorem dX1_isGood_36 : decode cX1_isGood 36 = .ok (.invokestatic 29, 3) := by decide +kernel
theorem dX1_isGood_39 : decode cX1_isGood 39 = .ok (.iconst 1, 1) := by decide +kernel
theorem dX1_isGood_40 : decode cX1_isGood 40 = .ok (.if_icmp .le 5, 3) := by decide +kernel
theorem dX1_isGood_43 : decode cX1_isGood 43 = .ok (.iconst 0, 1) := by decide +kernel
theorem dX1_isGood_44 : decode cX1_isGood 44 = .ok (.ireturn, 1) := by decide +kernel
theorem dX1_isGood_45 : decode cX1_isGood 45 = .ok (.aload_n 0, 1) := by decide +kernel
theorem dX1_isGood_46 : decode cX1_isGood 46 = .ok (.iload_n 2, 1) := by decide +kernel
theorem dX1_isGood_47 : decode cX1_isGood 47 = .ok (.sipush 508, 3) := by decide +kernel
theorem dX1_isGood_50 : decode cX1_isGood 50 = .ok (.lload_n 3, 1) := by decide +kernel
theorem dX1_isGood_51 : decode cX1_isGood 51 = .ok (.l2i, 1) := by decide +kernel
theorem dX1_isGood_52 : decode cX1_isGood 52 = .ok (.invokestatic 32, 3) := by decide +kernel
theorem dX1_isGood_55 : decode cX1_isGood 55 = .ok (.ireturn, 1) := by decide +kernel
theorem dX1_counting_0 : decode cX1_counting 0 = .ok (.iconst (-1), 1) := by decide +kernel
theorem dX1_counting_1 : decode cX1_counting 1 = .ok (.istore_n 1, 1) := by decide +kernel
theorem dX1_counting_2 : decode cX1_counting 2 = .ok (.iconst 0, 1) := by decide +kernel
theorem dX1_counting_3 : decode cX1_counting 3 = .ok (.istore_n 2, 1) := by decide +kernel
theorem dX1_counting_4 : decode cX1_counting 4 = .ok (.iload_n 2, 1) := by decide +kernel
theorem dX1_counting_5 : decode cX1_counting 5 = .ok (.iconst 2, 1) := by decide +kernel
theorem dX1_counting_6 : decode cX1_counting 6 = .ok (.if_icmp .ge 37, 3) := by decide +kernel
theorem dX1_counting_9 : decode cX1_counting 9 = .ok (.aload_n 0, 1) := by decide +kernel
theorem dX1_counting_10 : decode cX1_counting 10 = .ok (.iload_n 2, 1) := by decide +kernel
theorem dX1_counting_11 : decode cX1_counting 11 = .ok (.invokestatic 9, 3) := by decide +kernel
theorem dX1_counting_14 : decode cX1_counting 14 = .ok (.ifCond .eq 23, 3) := by decide +kernel
theorem dX1_counting_17 : decode cX1_counting 17 = .ok (.iload_n 1, 1) := by decide +kernel
theorem dX1_counting_18 : decode cX1_counting 18 = .ok (.iconst (-1), 1) := by decide +kernel
theorem dX1_counting_19 : decode cX1_counting 19 = .ok (.if_icmp .eq 16, 3) := by decide +kernel
theorem dX1_counting_22 : decode cX1_counting 22 = .ok (.aload_n 0, 1) := by decide +kernel
theorem dX1_counting_23 : decode cX1_counting 23 = .ok (.iload_n 2, 1) := by decide +kernel
theorem dX1_counting_24 : decode cX1_counting 24 = .ok (.invokestatic 15, 3) := by decide +kernel
theorem dX1_counting_27 : decode cX1_counting 27 = .ok (.aload_n 0, 1) := by decide +kernel
theorem dX1_counting_28 : decode cX1_counting 28 = .ok (.iload_n 1, 1) := by decide +kernel
theorem dX1_counting_29 : decode cX1_counting 29 = .ok (.invokestatic 15, 3) := by decide +kernel
theorem dX1_counting_32 : decode cX1_counting 32 = .ok (.if_icmp .le 5, 3) := by decide +kernel
theorem dX1_counting_35 : decode cX1_counting 35 = .ok (.iload_n 2, 1) := by decide +kernel
theorem dX1_counting_36 : decode cX1_counting 36 = .ok (.istore_n 1, 1) := by decide +kernel
theorem dX1_counting_37 : decode cX1_counting 37 = .ok (.iinc 2 1, 3) := by decide +kernel
theorem dX1_counting_40 : decode cX1_counting 40 = .ok (.goto (-36), 3) := by decide +kernel
theorem dX1_counting_43 : decode cX1_counting 43 = .ok (.iload_n 1, 1) := by decide +kernel
theorem dX1_counting_44 : decode cX1_counting 44 = .ok (.ireturn, 1) := by decide +kernel
theorem dX1_write_0 : decode cX1_write 0 = .ok (.aload_n 0, 1) := by decide +kernel
theorem dX1_write_1 : decode cX1_write 1 = .ok (.iload_n 1, 1) := by decide +kernel
theorem dX1_write_2 : decode cX1_write 2 = .ok (.iconst 4, 1) := by decide +kernel
theorem dX1_write_3 : decode cX1_write 3 = .ok (.iload_n 2, 1) := by decide +kernel
theorem dX1_write_4 : decode cX1_write 4 = .ok (.i2l, 1) := by decide +kernel
theorem dX1_write_5 : decode cX1_write 5 = .ok (.invokestatic 36, 3) := by decide +kernel
theorem dX1_write_8 : decode cX1_write 8 = .ok (.aload_n 0, 1) := by decide +kernel
theorem dX1_write_9 : decode cX1_write 9 = .ok (.iload_n 1, 1) := by decide +kernel
theorem dX1_write_10 : decode cX1_write 10 = .ok (.iconst 4, 1) := by decide +kernel
theorem dX1_write_11 : decode cX1_write 11 = .ok (.iadd, 1) := by decide +kernel
theorem dX1_write_12 : decode cX1_write 12 = .ok (.iconst 4, 1) := by decide +kernel
theorem dX1_write_13 : decode cX1_write 13 = .ok (.iload_n 3, 1) := by decide +kernel
theorem dX1_write_14 : decode cX1_write 14 = .ok (.i2l, 1) := by decide +kernel
theorem dX1_write_15 : decode cX1_write 15 = .ok (.invokestatic 36, 3) := by decide +kernel
theorem dX1_write_18 : decode cX1_write 18 = .ok (.aload_n 0, 1) := by decide +kernel
theorem dX1_write_19 : decode cX1_write 19 = .ok (.iload_n 1, 1) := by decide +kernel
theorem dX1_write_20 : decode cX1_write 20 = .ok (.bipush 8, 2) := by decide +kernel
theorem dX1_write_22 : decode cX1_write 22 = .ok (.iadd, 1) := by decide +kernel
theorem dX1_write_23 : decode cX1_write 23 = .ok (.iload 4, 2) := by decide +kernel
theorem dX1_write_25 : decode cX1_write 25 = .ok (.i2b, 1) := by decide +kernel
theorem dX1_write_26 : decode cX1_write 26 = .ok (.bastore, 1) := by decide +kernel
theorem dX1_write_27 : decode cX1_write 27 = .ok (.aload_n 0, 1) := by decide +kernel
theorem dX1_write_28 : decode cX1_write 28 = .ok (.iload_n 1, 1) := by decide +kernel
theorem dX1_write_29 : decode cX1_write 29 = .ok (.sipush 508, 3) := by decide +kernel
theorem dX1_write_32 : decode cX1_write 32 = .ok (.iload_n 3, 1) := by decide +kernel
theorem dX1_write_33 : decode cX1_write 33 = .ok (.invokestatic 40, 3) := by decide +kernel
theorem dX1_write_36 : decode cX1_write 36 = .ok (.return_, 1) := by decide +kernel
theorem dX0_bring_0 : decode cX0_bring 0 = .ok (.iload_n 1, 1) := by decide +kernel
theorem dX0_bring_1 : decode cX0_bring 1 = .ok (.aload_n 0, 1) := by decide +kernel
theorem dX0_bring_2 : decode cX0_bring 2 = .ok (.getfield 27, 3) := by decide +kernel
theorem dX0_bring_5 : decode cX0_bring 5 = .ok (.invokestatic 47, 3) := by decide +kernel
theorem dX0_bring_8 : decode cX0_bring 8 = .ok (.istore_n 3, 1) := by decide +kernel
theorem dX0_bring_9 : decode cX0_bring 9 = .ok (.iconst 0, 1) := by decide +kernel
theorem dX0_bring_10 : decode cX0_bring 10 = .ok (.istore 4, 2) := by decide +kernel
theorem dX0_bring_12 : decode cX0_bring 12 = .ok (.iload 4, 2) := by decide +kernel
theorem dX0_bring_14 : decode cX0_bring 14 = .ok (.iload_n 3, 1) := by decide +kernel
theorem dX0_bring_15 : decode cX0_bring 15 = .ok (.if_icmp .gt 63, 3) := by decide +kernel
theorem dX0_bring_18 : decode cX0_bring 18 = .ok (.iload 4, 2) := by decide +kernel
theorem dX0_bring_20 : decode cX0_bring 20 = .ok (.aload_n 0, 1) := by decide +kernel
theorem dX0_bring_21 : decode cX0_bring 21 = .ok (.getfield 27, 3) := by decide +kernel
theorem dX0_bring_24 : decode cX0_bring 24 = .ok (.if_icmp .ge 54, 3) := by decide +kernel
theorem dX0_bring_27 : decode cX0_bring 27 = .ok (.iload 4, 2) := by decide +kernel
theorem dX0_bring_29 : decode cX0_bring 29 = .ok (.iload_n 3, 1) := by decide +kernel
theorem dX0_bring_30 : decode cX0_bring 30 = .ok (.if_icmp .ge 9, 3) := by decide +kernel
theorem dX0_bring_33 : decode cX0_bring 33 = .ok (.sipush 512, 3) := by decide +kernel
theorem dX0_bring_36 : decode cX0_bring 36 = .ok (.goto 4, 3) := by decide +kernel
theorem dX0_bring_39 : decode cX0_bring 39 = .ok (.iload_n 2, 1) := by decide +kernel
theorem dX0_bring_40 : decode cX0_bring 40 = .ok (.istore 5, 2) := by decide +kernel
theorem dX0_bring_42 : decode cX0_bring 42 = .ok (.aload_n 0, 1) := by decide +kernel
theorem dX0_bring_43 : decode cX0_bring 43 = .ok (.getfield 20, 3) := by decide +kernel
theorem dX0_bring_46 : decode cX0_bring 46 = .ok (.iload 4, 2) := by decide +kernel
theorem dX0_bring_48 : decode cX0_bring 48 = .ok (.sipush 512, 3) := by decide +kernel
theorem dX0_bring_51 : decode cX0_bring 51 = .ok (.imul, 1) := by decide +kernel
theorem dX0_bring_52 : decode cX0_bring 52 = .ok (.aload_n 0, 1) := by decide +kernel
theorem dX0_bring_53 : decode cX0_bring 53 = .ok (.getfield 15, 3) := by decide +kernel
theorem dX0_bring_56 : decode cX0_bring 56 = .ok (.aload_n 0, 1) := by decide +kernel
theorem dX0_bring_57 : decode cX0_bring 57 = .ok (.getfield 23, 3) := by decide +kernel
theorem dX0_bring_60 : decode cX0_bring 60 = .ok (.iload 4, 2) := by decide +kernel
theorem dX0_bring_62 : decode cX0_bring 62 = .ok (.iaload, 1) := by decide +kernel
theorem dX0_bring_63 : decode cX0_bring 63 = .ok (.sipush 512, 3) := by decide +kernel
theorem dX0_bring_66 : decode cX0_bring 66 = .ok (.imul, 1) := by decide +kernel
theorem dX0_bring_67 : decode cX0_bring 67 = .ok (.iload 5, 2) := by decide +kernel
theorem dX0_bring_69 : decode cX0_bring 69 = .ok (.invokestatic 41, 3) := by decide +kernel
theorem dX0_bring_72 : decode cX0_bring 72 = .ok (.iinc 4 1, 3) := by decide +kernel
theorem dX0_bring_75 : decode cX0_bring 75 = .ok (.goto (-63), 3) := by decide +kernel
theorem dX0_bring_78 : decode cX0_bring 78 = .ok (.aload_n 0, 1) := by decide +kernel
theorem dX0_bring_79 : decode cX0_bring 79 = .ok (.iconst 0, 1) := by decide +kernel
theorem dX0_bring_80 : decode cX0_bring 80 = .ok (.putfield 27, 3) := by decide +kernel
theorem dX0_bring_83 : decode cX0_bring 83 = .ok (.iload_n 3, 1) := by decide +kernel
theorem dX0_bring_84 : decode cX0_bring 84 = .ok (.ireturn, 1) := by decide +kernel
theorem dX0_addTarget_0 : decode cX0_addTarget 0 = .ok (.aload_n 0, 1) := by decide +kernel
theorem dX0_addTarget_1 : decode cX0_addTarget 1 = .ok (.getfield 27, 3) := by decide +kernel
theorem dX0_addTarget_4 : decode cX0_addTarget 4 = .ok (.sipush 512, 3) := by decide +kernel
theorem dX0_addTarget_7 : decode cX0_addTarget 7 = .ok (.imul, 1) := by decide +kernel
theorem dX0_addTarget_8 : decode cX0_addTarget 8 = .ok (.istore_n 2, 1) := by decide +kernel
theorem dX0_addTarget_9 : decode cX0_addTarget 9 = .ok (.aload_n 0, 1) := by decide +kernel
theorem dX0_addTarget_10 : decode cX0_addTarget 10 = .ok (.getfield 23, 3) := by decide +kernel
theorem dX0_addTarget_13 : decode cX0_addTarget 13 = .ok (.aload_n 0, 1) := by decide +kernel
theorem dX0_addTarget_14 : decode cX0_addTarget 14 = .ok (.getfield 27, 3) := by decide +kernel
theorem dX0_addTarget_17 : decode cX0_addTarget 17 = .ok (.iload_n 1, 1) := by decide +kernel
theorem dX0_addTarget_18 : decode cX0_addTarget 18 = .ok (.iastore, 1) := by decide +kernel
theorem dX0_addTarget_19 : decode cX0_addTarget 19 = .ok (.aload_n 0, 1) := by decide +kernel
theorem dX0_addTarget_20 : decode cX0_addTarget 20 = .ok (.dup, 1) := by decide +kernel
theorem dX0_addTarget_21 : decode cX0_addTarget 21 = .ok (.getfield 27, 3) := by decide +kernel
theorem dX0_addTarget_24 : decode cX0_addTarget 24 = .ok (.iconst 1, 1) := by decide +kernel
theorem dX0_addTarget_25 : decode cX0_addTarget 25 = .ok (.iadd, 1) := by decide +kernel
theorem dX0_addTarget_26 : decode cX0_addTarget 26 = .ok (.putfield 27, 3) := by decide +kernel
theorem dX0_addTarget_29 : decode cX0_addTarget 29 = .ok (.iload_n 2, 1) := by decide +kernel
theorem dX0_addTarget_30 : decode cX0_addTarget 30 = .ok (.ireturn, 1) := by decide +kernel
theorem dX0_waitWithZeros_0 : decode cX0_waitWithZeros 0 = .ok (.aload_n 0, 1) := by decide +kernel
theorem dX0_waitWithZeros_1 : decode cX0_waitWithZeros 1 = .ok (.getfield 27, 3) := by decide +kernel
theorem dX0_waitWithZeros_4 : decode cX0_waitWithZeros 4 = .ok (.bipush 64, 2) := by decide +kernel
theorem dX0_waitWithZeros_6 : decode cX0_waitWithZeros 6 = .ok (.if_icmp .lt 11, 3) := by decide +kernel
theorem dX0_waitWithZeros_9 : decode cX0_waitWithZeros 9 = .ok (.aload_n 0, 1) := by decide +kernel
theorem dX0_waitWithZeros_10 : decode cX0_waitWithZeros 10 = .ok (.bipush 64, 2) := by decide +kernel
theorem dX0_waitWithZeros_12 : decode cX0_waitWithZeros 12 = .ok (.iconst 0, 1) := by decide +kernel
theorem dX0_waitWithZeros_13 : decode cX0_waitWithZeros 13 = .ok (.invokevirtual 30, 3) := by decide +kernel
theorem dX0_waitWithZeros_16 : decode cX0_waitWithZeros 16 = .ok (.pop, 1) := by decide +kernel
theorem dX0_waitWithZeros_17 : decode cX0_waitWithZeros 17 = .ok (.aload_n 0, 1) := by decide +kernel
theorem dX0_waitWithZeros_18 : decode cX0_waitWithZeros 18 = .ok (.getfield 27, 3) := by decide +kernel
theorem dX0_waitWithZeros_21 : decode cX0_waitWithZeros 21 = .ok (.sipush 512, 3) := by decide +kernel
theorem dX0_waitWithZeros_24 : decode cX0_waitWithZeros 24 = .ok (.imul, 1) := by decide +kernel
theorem dX0_waitWithZeros_25 : decode cX0_waitWithZeros 25 = .ok (.istore_n 2, 1) := by decide +kernel
theorem dX0_waitWithZeros_26 : decode cX0_waitWithZeros 26 = .ok (.iconst 0, 1) := by decide +kernel
theorem dX0_waitWithZeros_27 : decode cX0_waitWithZeros 27 = .ok (.istore_n 3, 1) := by decide +kernel
theorem dX0_waitWithZeros_28 : decode cX0_waitWithZeros 28 = .ok (.iload_n 3, 1) := by decide +kernel
theorem dX0_waitWithZeros_29 : decode cX0_waitWithZeros 29 = .ok (.sipush 512, 3) := by decide +kernel
theorem dX0_waitWithZeros_32 : decode cX0_waitWithZeros 32 = .ok (.if_icmp .ge 18, 3) := by decide +kernel
theorem dX0_waitWithZeros_35 : decode cX0_waitWithZeros 35 = .ok (.aload_n 0, 1) := by decide +kernel
theorem dX0_waitWithZeros_36 : decode cX0_waitWithZeros 36 = .ok (.getfield 20, 3) := by decide +kernel
theorem dX0_waitWithZeros_39 : decode cX0_waitWithZeros 39 = .ok (.iload_n 2, 1) := by decide +kernel
theorem dX0_waitWithZeros_40 : decode cX0_waitWithZeros 40 = .ok (.iload_n 3, 1) := by decide +kernel
theorem dX0_waitWithZeros_41 : decode cX0_waitWithZeros 41 = .ok (.iadd, 1) := by decide +kernel
theorem dX0_waitWithZeros_42 : decode cX0_waitWithZeros 42 = .ok (.iconst 0, 1) := by decide +kernel
theorem dX0_waitWithZeros_43 : decode cX0_waitWithZeros 43 = .ok (.bastore, 1) := by decide +kernel
theorem dX0_waitWithZeros_44 : decode cX0_waitWithZeros 44 = .ok (.iinc 3 1, 3) := by decide +kernel
theorem dX0_waitWithZeros_47 : decode cX0_waitWithZeros 47 = .ok (.goto (-19), 3) := by decide +kernel
theorem dX0_waitWithZeros_50 : decode cX0_waitWithZeros 50 = .ok (.aload_n 0, 1) := by decide +kernel
theorem dX0_waitWithZeros_51 : decode cX0_waitWithZeros 51 = .ok (.iload_n 1, 1) := by decide +kernel
theorem dX0_waitWithZeros_52 : decode cX0_waitWithZeros 52 = .ok (.invokevirtual 34, 3) := by decide +kernel
theorem dX0_waitWithZeros_55 : decode cX0_waitWithZeros 55 = .ok (.ireturn, 1) := by decide +kernel
theorem dJ9_floorMod_7cf53_0 : decode cJ9_floorMod_7cf53 0 = .ok (.iload_n 0, 1) := by decide +kernel
theorem dJ9_floorMod_7cf53_1 : decode cJ9_floorMod_7cf53 1 = .ok (.iload_n 1, 1) := by decide +kernel
theorem dJ9_floorMod_7cf53_2 : decode cJ9_floorMod_7cf53 2 = .ok (.irem, 1) := by decide +kernel
theorem dJ9_floorMod_7cf53_3 : decode cJ9_floorMod_7cf53 3 = .ok (.istore_n 2, 1) := by decide +kernel
theorem dJ9_floorMod_7cf53_4 : decode cJ9_floorMod_7cf53 4 = .ok (.iload_n 0, 1) := by decide +kernel
theorem dJ9_floorMod_7cf53_5 : decode cJ9_floorMod_7cf53 5 = .ok (.iload_n 1, 1) := by decide +kernel
theorem dJ9_floorMod_7cf53_6 : decode cJ9_floorMod_7cf53 6 = .ok (.ixor, 1) := by decide +kernel
theorem dJ9_floorMod_7cf53_7 : decode cJ9_floorMod_7cf53 7 = .ok (.ifCond .ge 11, 3) := by decide +kernel
theorem dJ9_floorMod_7cf53_10 : decode cJ9_floorMod_7cf53 10 = .ok (.iload_n 2, 1) := by decide +kernel
theorem dJ9_floorMod_7cf53_11 : decode cJ9_floorMod_7cf53 11 = .ok (.ifCond .eq 7, 3) := by decide +kernel
theorem dJ9_floorMod_7cf53_14 : decode cJ9_floorMod_7cf53 14 = .ok (.iload_n 2, 1) := by decide +kernel
theorem dJ9_floorMod_7cf53_15 : decode cJ9_floorMod_7cf53 15 = .ok (.iload_n 1, 1) := by decide +kernel
theorem dJ9_floorMod_7cf53_16 : decode cJ9_floorMod_7cf53 16 = .ok (.iadd, 1) := by decide +kernel
theorem dJ9_floorMod_7cf53_17 : decode cJ9_floorMod_7cf53 17 = .ok (.ireturn, 1) := by decide +kernel
theorem dJ9_floorMod_7cf53_18 : decode cJ9_floorMod_7cf53 18 = .ok (.iload_n 2, 1) := by decide +kernel
theorem dJ9_floorMod_7cf53_19 : decode cJ9_floorMod_7cf53 19 = .ok (.ireturn, 1) := by decide +kernel
theorem dX5_firstSector_0 : decode cX5_firstSector 0 = .ok (.iconst 2, 1) := by decide +kernel
theorem dX5_firstSector_1 : decode cX5_firstSector 1 = .ok (.iload_n 1, 1) := by decide +kernel
theorem dX5_firstSector_2 : decode cX5_firstSector 2 = .ok (.aload_n 0, 1) := by decide +kernel
theorem dX5_firstSector_3 : decode cX5_firstSector 3 = .ok (.getfield 18, 3) := by decide +kernel
theorem dX5_firstSector_6 : decode cX5_firstSector 6 = .ok (.imul, 1) := by decide +kernel
theorem dX5_firstSector_7 : decode cX5_firstSector 7 = .ok (.iadd, 1) := by decide +kernel
theorem dX5_firstSector_8 : decode cX5_firstSector 8 = .ok (.ireturn, 1) := by decide +kernel
theorem dX5_clearArea_0 : decode cX5_clearArea 0 = .ok (.aload_n 0, 1) := by decide +kernel
theorem dX5_clearArea_1 : decode cX5_clearArea 1 = .ok (.iload_n 1, 1) := by decide +kernel
theorem dX5_clearArea_2 : decode cX5_clearArea 2 = .ok (.invokevirtual 211, 3) := by decide +kernel
theorem dX5_clearArea_5 : decode cX5_clearArea 5 = .ok (.istore_n 2, 1) := by decide +kernel
theorem dX5_clearArea_6 : decode cX5_clearArea 6 = .ok (.iconst 0, 1) := by decide +kernel
theorem dX5_clearArea_7 : decode cX5_clearArea 7 = .ok (.istore_n 3, 1) := by decide +kernel
theorem dX5_clearArea_8 : decode cX5_clearArea 8 = .ok (.iload_n 3, 1) := by decide +kernel
theorem dX5_clearArea_9 : decode cX5_clearArea 9 = .ok (.aload_n 0, 1) := by decide +kernel
theorem dX5_clearArea_10 : decode cX5_clearArea 10 = .ok (.getfield 18, 3) := by decide +kernel
theorem dX5_clearArea_13 : decode cX5_clearArea 13 = .ok (.if_icmp .ge 20, 3) := by decide +kernel
theorem dX5_clearArea_16 : decode cX5_clearArea 16 = .ok (.aload_n 0, 1) := by decide +kernel
theorem dX5_clearArea_17 : decode cX5_clearArea 17 = .ok (.getfield 27, 3) := by decide +kernel
theorem dX5_clearArea_20 : decode cX5_clearArea 20 = .ok (.iload_n 2, 1) := by decide +kernel
theorem dX5_clearArea_21 : decode cX5_clearArea 21 = .ok (.iload_n 3, 1) := by decide +kernel
theorem dX5_clearArea_22 : decode cX5_clearArea 22 = .ok (.iadd, 1) := by decide +kernel
theorem dX5_clearArea_23 : decode cX5_clearArea 23 = .ok (.invokevirtual 218, 3) := by decide +kernel
theorem dX5_clearArea_26 : decode cX5_clearArea 26 = .ok (.pop, 1) := by decide +kernel
theorem dX5_clearArea_27 : decode cX5_clearArea 27 = .ok (.iinc 3 1, 3) := by decide +kernel
theorem dX5_clearArea_30 : decode cX5_clearArea 30 = .ok (.goto (-22), 3) := by decide +kernel
theorem dX5_clearArea_33 : decode cX5_clearArea 33 = .ok (.return_, 1) := by decide +kernel
theorem dX5_changeHeads_0 : decode cX5_changeHeads 0 = .ok (.iconst 0, 1) := by decide +kernel
theorem dX5_changeHeads_1 : decode cX5_changeHeads 1 = .ok (.istore_n 1, 1) := by decide +kernel
theorem dX5_changeHeads_2 : decode cX5_changeHeads 2 = .ok (.iload_n 1, 1) := by decide +kernel
theorem dX5_changeHeads_3 : decode cX5_changeHeads 3 = .ok (.iconst 2, 1) := by decide +kernel
theorem dX5_changeHeads_4 : decode cX5_changeHeads 4 = .ok (.if_icmp .ge 58, 3) := by decide +kernel
theorem dX5_changeHeads_7 : decode cX5_changeHeads 7 = .ok (.aload_n 0, 1) := by decide +kernel
theorem dX5_changeHeads_8 : decode cX5_changeHeads 8 = .ok (.dup, 1) := by decide +kernel
theorem dX5_changeHeads_9 : decode cX5_changeHeads 9 = .ok (.getfield 195, 3) := by decide +kernel
theorem dX5_changeHeads_12 : decode cX5_changeHeads 12 = .ok (.iconst 1, 1) := by decide +kernel
theorem dX5_changeHeads_13 : decode cX5_changeHeads 13 = .ok (.iadd, 1) := by decide +kernel
theorem dX5_changeHeads_14 : decode cX5_changeHeads 14 = .ok (.putfield 195, 3) := by decide +kernel
theorem dX5_changeHeads_17 : decode cX5_changeHeads 17 = .ok (.aload_n 0, 1) := by decide +kernel
theorem dX5_changeHeads_18 : decode cX5_changeHeads 18 = .ok (.getfield 27, 3) := by decide +kernel
theorem dX5_changeHeads_21 : decode cX5_changeHeads 21 = .ok (.aload_n 0, 1) := by decide +kernel
theorem dX5_changeHeads_22 : decode cX5_changeHeads 22 = .ok (.getfield 195, 3) := by decide +kernel
theorem dX5_changeHeads_25 : decode cX5_changeHeads 25 = .ok (.iconst 2, 1) := by decide +kernel
theorem dX5_changeHeads_26 : decode cX5_changeHeads 26 = .ok (.invokestatic 221, 3) := by decide +kernel
theorem dX5_changeHeads_29 : decode cX5_changeHeads 29 = .ok (.invokevirtual 218, 3) := by decide +kernel
theorem dX5_changeHeads_32 : decode cX5_changeHeads 32 = .ok (.istore_n 2, 1) := by decide +kernel
theorem dX5_changeHeads_33 : decode cX5_changeHeads 33 = .ok (.aload_n 0, 1) := by decide +kernel
theorem dX5_changeHeads_34 : decode cX5_changeHeads 34 = .ok (.getfield 27, 3) := by decide +kernel
theorem dX5_changeHeads_37 : decode cX5_changeHeads 37 = .ok (.getfield 224, 3) := by decide +kernel
theorem dX5_changeHeads_40 : decode cX5_changeHeads 40 = .ok (.iload_n 2, 1) := by decide +kernel
theorem dX5_changeHeads_41 : decode cX5_changeHeads 41 = .ok (.aload_n 0, 1) := by decide +kernel
theorem dX5_changeHeads_42 : decode cX5_changeHeads 42 = .ok (.getfield 83, 3) := by decide +kernel
theorem dX5_changeHeads_45 : decode cX5_changeHeads 45 = .ok (.aload_n 0, 1) := by decide +kernel
theorem dX5_changeHeads_46 : decode cX5_changeHeads 46 = .ok (.getfield 195, 3) := by decide +kernel
theorem dX5_changeHeads_49 : decode cX5_changeHeads 49 = .ok (.aload_n 0, 1) := by decide +kernel
theorem dX5_changeHeads_50 : decode cX5_changeHeads 50 = .ok (.getfield 128, 3) := by decide +kernel
theorem dX5_changeHeads_53 : decode cX5_changeHeads 53 = .ok (.invokestatic 227, 3) := by decide +kernel
theorem dX5_changeHeads_56 : decode cX5_changeHeads 56 = .ok (.iinc 1 1, 3) := by decide +kernel
theorem dX5_changeHeads_59 : decode cX5_changeHeads 59 = .ok (.goto (-57), 3) := by decide +kernel
theorem dX5_changeHeads_62 : decode cX5_changeHeads 62 = .ok (.return_, 1) := by decide +kernel
theorem dX3_wrongCount_0 : decode cX3_wrongCount 0 = .ok (.aload_n 0, 1) := by decide +kernel
theorem dX3_wrongCount_1 : decode cX3_wrongCount 1 = .ok (.getfield 35, 3) := by decide +kernel
theorem dX3_wrongCount_4 : decode cX3_wrongCount 4 = .ok (.ireturn, 1) := by decide +kernel
theorem dX3_end_0 : decode cX3_end 0 = .ok (.aload_n 0, 1) := by decide +kernel
theorem dX3_end_1 : decode cX3_end 1 = .ok (.getfield 31, 3) := by decide +kernel
theorem dX3_end_4 : decode cX3_end 4 = .ok (.ireturn, 1) := by decide +kernel
theorem dX3_places_0 : decode cX3_places 0 = .ok (.aload_n 0, 1) := by decide +kernel
theorem dX3_places_1 : decode cX3_places 1 = .ok (.getfield 9, 3) := by decide +kernel
theorem dX3_places_4 : decode cX3_places 4 = .ok (.arraylength, 1) := by decide +kernel
theorem dX3_places_5 : decode cX3_places 5 = .ok (.ireturn, 1) := by decide +kernel
theorem dX3_indexPlace_0 : decode cX3_indexPlace 0 = .ok (.aload_n 0, 1) := by decide +kernel
theorem dX3_indexPlace_1 : decode cX3_indexPlace 1 = .ok (.getfield 9, 3) := by decide +kernel
theorem dX3_indexPlace_4 : decode cX3_indexPlace 4 = .ok (.iload_n 1, 1) := by decide +kernel
theorem dX3_indexPlace_5 : decode cX3_indexPlace 5 = .ok (.iaload, 1) := by decide +kernel
theorem dX3_indexPlace_6 : decode cX3_indexPlace 6 = .ok (.ifCond .ne 21, 3) := by decide +kernel
theorem dX3_indexPlace_9 : decode cX3_indexPlace 9 = .ok (.aload_n 0, 1) := by decide +kernel
theorem dX3_indexPlace_10 : decode cX3_indexPlace 10 = .ok (.dup, 1) := by decide +kernel
theorem dX3_indexPlace_11 : decode cX3_indexPlace 11 = .ok (.getfield 35, 3) := by decide +kernel
theorem dX3_indexPlace_14 : decode cX3_indexPlace 14 = .ok (.iconst 1, 1) := by decide +kernel
theorem dX3_indexPlace_15 : decode cX3_indexPlace 15 = .ok (.iadd, 1) := by decide +kernel
theorem dX3_indexPlace_16 : decode cX3_indexPlace 16 = .ok (.putfield 35, 3) := by decide +kernel
theorem dX3_indexPlace_19 : decode cX3_indexPlace 19 = .ok (.aload_n 0, 1) := by decide +kernel
theorem dX3_indexPlace_20 : decode cX3_indexPlace 20 = .ok (.iload_n 1, 1) := by decide +kernel
theorem dX3_indexPlace_21 : decode cX3_indexPlace 21 = .ok (.putfield 38, 3) := by decide +kernel
theorem dX3_indexPlace_24 : decode cX3_indexPlace 24 = .ok (.goto 33, 3) := by decide +kernel
theorem dX3_indexPlace_27 : decode cX3_indexPlace 27 = .ok (.aload_n 0, 1) := by decide +kernel
theorem dX3_indexPlace_28 : decode cX3_indexPlace 28 = .ok (.getfield 9, 3) := by decide +kernel
theorem dX3_indexPlace_31 : decode cX3_indexPlace 31 = .ok (.iload_n 1, 1) := by decide +kernel
theorem dX3_indexPlace_32 : decode cX3_indexPlace 32 = .ok (.iaload, 1) := by decide +kernel
theorem dX3_indexPlace_33 : decode cX3_indexPlace 33 = .ok (.iconst 1, 1) := by decide +kernel
theorem dX3_indexPlace_34 : decode cX3_indexPlace 34 = .ok (.if_icmp .ne 18, 3) := by decide +kernel
theorem dX3_indexPlace_37 : decode cX3_indexPlace 37 = .ok (.aload_n 0, 1) := by decide +kernel
theorem dX3_indexPlace_38 : decode cX3_indexPlace 38 = .ok (.getfield 28, 3) := by decide +kernel
theorem dX3_indexPlace_41 : decode cX3_indexPlace 41 = .ok (.aload_n 0, 1) := by decide +kernel
theorem dX3_indexPlace_42 : decode cX3_indexPlace 42 = .ok (.getfield 15, 3) := by decide +kernel
theorem dX3_indexPlace_45 : decode cX3_indexPlace 45 = .ok (.iload_n 1, 1) := by decide +kernel
theorem dX3_indexPlace_46 : decode cX3_indexPlace 46 = .ok (.iaload, 1) := by decide +kernel
theorem dX3_indexPlace_47 : decode cX3_indexPlace 47 = .ok (.iload_n 1, 1) := by decide +kernel
theorem dX3_indexPlace_48 : decode cX3_indexPlace 48 = .ok (.iastore, 1) := by decide +kernel
theorem dX3_indexPlace_49 : decode cX3_indexPlace 49 = .ok (.goto 8, 3) := by decide +kernel
theorem dX3_indexPlace_52 : decode cX3_indexPlace 52 = .ok (.aload_n 0, 1) := by decide +kernel
theorem dX3_indexPlace_53 : decode cX3_indexPlace 53 = .ok (.iload_n 1, 1) := by decide +kernel
theorem dX3_indexPlace_54 : decode cX3_indexPlace 54 = .ok (.putfield 41, 3) := by decide +kernel
theorem dX3_indexPlace_57 : decode cX3_indexPlace 57 = .ok (.return_, 1) := by decide +kernel
theorem dX3_index_0 : decode cX3_index 0 = .ok (.iconst 0, 1) := by decide +kernel
theorem dX3_index_1 : decode cX3_index 1 = .ok (.istore_n 1, 1) := by decide +kernel
theorem dX3_index_2 : decode cX3_index 2 = .ok (.iload_n 1, 1) := by decide +kernel
theorem dX3_index_3 : decode cX3_index 3 = .ok (.bipush 64, 2) := by decide +kernel
theorem dX3_index_5 : decode cX3_index 5 = .ok (.if_icmp .ge 16, 3) := by decide +kernel
theorem dX3_index_8 : decode cX3_index 8 = .ok (.aload_n 0, 1) := by decide +kernel
theorem dX3_index_9 : decode cX3_index 9 = .ok (.getfield 28, 3) := by decide +kernel
theorem dX3_index_12 : decode cX3_index 12 = .ok (.iload_n 1, 1) := by decide +kernel
theorem dX3_index_13 : decode cX3_index 13 = .ok (.iconst (-1), 1) := by decide +kernel
theorem dX3_index_14 : decode cX3_index 14 = .ok (.iastore, 1) := by decide +kernel
theorem dX3_index_15 : decode cX3_index 15 = .ok (.iinc 1 1, 3) := by decide +kernel
theorem dX3_index_18 : decode cX3_index 18 = .ok (.goto (-16), 3) := by decide +kernel
theorem dX3_index_21 : decode cX3_index 21 = .ok (.aload_n 0, 1) := by decide +kernel
theorem dX3_index_22 : decode cX3_index 22 = .ok (.iconst (-1), 1) := by decide +kernel
theorem dX3_index_23 : decode cX3_index 23 = .ok (.putfield 41, 3) := by decide +kernel
theorem dX3_index_26 : decode cX3_index 26 = .ok (.aload_n 0, 1) := by decide +kernel
theorem dX3_index_27 : decode cX3_index 27 = .ok (.iconst 0, 1) := by decide +kernel
theorem dX3_index_28 : decode cX3_index 28 = .ok (.putfield 35, 3) := by decide +kernel
theorem dX3_index_31 : decode cX3_index 31 = .ok (.aload_n 0, 1) := by decide +kernel
theorem dX3_index_32 : decode cX3_index 32 = .ok (.iconst (-1), 1) := by decide +kernel
theorem dX3_index_33 : decode cX3_index 33 = .ok (.putfield 38, 3) := by decide +kernel
theorem dX3_index_36 : decode cX3_index 36 = .ok (.iconst 0, 1) := by decide +kernel
theorem dX3_index_37 : decode cX3_index 37 = .ok (.istore_n 1, 1) := by decide +kernel
theorem dX3_index_38 : decode cX3_index 38 = .ok (.iload_n 1, 1) := by decide +kernel
theorem dX3_index_39 : decode cX3_index 39 = .ok (.aload_n 0, 1) := by decide +kernel
theorem dX3_index_40 : decode cX3_index 40 = .ok (.getfield 31, 3) := by decide +kernel
theorem dX3_index_43 : decode cX3_index 43 = .ok (.if_icmp .ge 14, 3) := by decide +kernel
theorem dX3_index_46 : decode cX3_index 46 = .ok (.aload_n 0, 1) := by decide +kernel
theorem dX3_index_47 : decode cX3_index 47 = .ok (.iload_n 1, 1) := by decide +kernel
theorem dX3_index_48 : decode cX3_index 48 = .ok (.invokevirtual 59, 3) := by decide +kernel
theorem dX3_index_51 : decode cX3_index 51 = .ok (.iinc 1 1, 3) := by decide +kernel
theorem dX3_index_54 : decode cX3_index 54 = .ok (.goto (-16), 3) := by decide +kernel
theorem dX3_index_57 : decode cX3_index 57 = .ok (.return_, 1) := by decide +kernel
theorem dX3_clear_0 : decode cX3_clear 0 = .ok (.aload_n 0, 1) := by decide +kernel
theorem dX3_clear_1 : decode cX3_clear 1 = .ok (.iconst 0, 1) := by decide +kernel
theorem dX3_clear_2 : decode cX3_clear 2 = .ok (.putfield 31, 3) := by decide +kernel
theorem dX3_clear_5 : decode cX3_clear 5 = .ok (.aload_n 0, 1) := by decide +kernel
theorem dX3_clear_6 : decode cX3_clear 6 = .ok (.invokevirtual 48, 3) := by decide +kernel
theorem dX3_clear_9 : decode cX3_clear 9 = .ok (.return_, 1) := by decide +kernel
