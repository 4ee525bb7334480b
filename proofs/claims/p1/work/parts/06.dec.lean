theorem dX2_read_0 : decode cX2_read 0 = .ok (.lconst 0, 1) := by decide +kernel
theorem dX2_read_1 : decode cX2_read 1 = .ok (.lstore_n 3, 1) := by decide +kernel
theorem dX2_read_2 : decode cX2_read 2 = .ok (.iconst 0, 1) := by decide +kernel
theorem dX2_read_3 : decode cX2_read 3 = .ok (.istore 5, 2) := by decide +kernel
theorem dX2_read_5 : decode cX2_read 5 = .ok (.iload 5, 2) := by decide +kernel
theorem dX2_read_7 : decode cX2_read 7 = .ok (.iload_n 2, 1) := by decide +kernel
theorem dX2_read_8 : decode cX2_read 8 = .ok (.if_icmp .ge 26, 3) := by decide +kernel
theorem dX2_read_11 : decode cX2_read 11 = .ok (.lload_n 3, 1) := by decide +kernel
theorem dX2_read_12 : decode cX2_read 12 = .ok (.bipush 8, 2) := by decide +kernel
theorem dX2_read_14 : decode cX2_read 14 = .ok (.lshl, 1) := by decide +kernel
theorem dX2_read_15 : decode cX2_read 15 = .ok (.aload_n 0, 1) := by decide +kernel
theorem dX2_read_16 : decode cX2_read 16 = .ok (.iload_n 1, 1) := by decide +kernel
theorem dX2_read_17 : decode cX2_read 17 = .ok (.iload 5, 2) := by decide +kernel
theorem dX2_read_19 : decode cX2_read 19 = .ok (.iadd, 1) := by decide +kernel
theorem dX2_read_20 : decode cX2_read 20 = .ok (.baload, 1) := by decide +kernel
theorem dX2_read_21 : decode cX2_read 21 = .ok (.sipush 255, 3) := by decide +kernel
theorem dX2_read_24 : decode cX2_read 24 = .ok (.iand, 1) := by decide +kernel
theorem dX2_read_25 : decode cX2_read 25 = .ok (.i2l, 1) := by decide +kernel
theorem dX2_read_26 : decode cX2_read 26 = .ok (.lor, 1) := by decide +kernel
theorem dX2_read_27 : decode cX2_read 27 = .ok (.lstore_n 3, 1) := by decide +kernel
theorem dX2_read_28 : decode cX2_read 28 = .ok (.iinc 5 1, 3) := by decide +kernel
theorem dX2_read_31 : decode cX2_read 31 = .ok (.goto (-26), 3) := by decide +kernel
theorem dX2_read_34 : decode cX2_read 34 = .ok (.lload_n 3, 1) := by decide +kernel
theorem dX2_read_35 : decode cX2_read 35 = .ok (.lreturn, 1) := by decide +kernel
theorem dX2_sum_0 : decode cX2_sum 0 = .ok (.iload_n 3, 1) := by decide +kernel
theorem dX2_sum_1 : decode cX2_sum 1 = .ok (.iconst 1, 1) := by decide +kernel
theorem dX2_sum_2 : decode cX2_sum 2 = .ok (.iadd, 1) := by decide +kernel
theorem dX2_sum_3 : decode cX2_sum 3 = .ok (.istore 4, 2) := by decide +kernel
theorem dX2_sum_5 : decode cX2_sum 5 = .ok (.iconst 0, 1) := by decide +kernel
theorem dX2_sum_6 : decode cX2_sum 6 = .ok (.istore 5, 2) := by decide +kernel
theorem dX2_sum_8 : decode cX2_sum 8 = .ok (.iload 5, 2) := by decide +kernel
theorem dX2_sum_10 : decode cX2_sum 10 = .ok (.iload_n 2, 1) := by decide +kernel
theorem dX2_sum_11 : decode cX2_sum 11 = .ok (.if_icmp .ge 39, 3) := by decide +kernel
theorem dX2_sum_14 : decode cX2_sum 14 = .ok (.iload 4, 2) := by decide +kernel
theorem dX2_sum_16 : decode cX2_sum 16 = .ok (.aload_n 0, 1) := by decide +kernel
theorem dX2_sum_17 : decode cX2_sum 17 = .ok (.iload_n 1, 1) := by decide +kernel
theorem dX2_sum_18 : decode cX2_sum 18 = .ok (.iload 5, 2) := by decide +kernel
theorem dX2_sum_20 : decode cX2_sum 20 = .ok (.iadd, 1) := by decide +kernel
theorem dX2_sum_21 : decode cX2_sum 21 = .ok (.baload, 1) := by decide +kernel
theorem dX2_sum_22 : decode cX2_sum 22 = .ok (.sipush 255, 3) := by decide +kernel
theorem dX2_sum_25 : decode cX2_sum 25 = .ok (.iand, 1) := by decide +kernel
theorem dX2_sum_26 : decode cX2_sum 26 = .ok (.ixor, 1) := by decide +kernel
theorem dX2_sum_27 : decode cX2_sum 27 = .ok (.istore 6, 2) := by decide +kernel
theorem dX2_sum_29 : decode cX2_sum 29 = .ok (.iload 6, 2) := by decide +kernel
theorem dX2_sum_31 : decode cX2_sum 31 = .ok (.iconst 5, 1) := by decide +kernel
theorem dX2_sum_32 : decode cX2_sum 32 = .ok (.ishl, 1) := by decide +kernel
theorem dX2_sum_33 : decode cX2_sum 33 = .ok (.iload 6, 2) := by decide +kernel
theorem dX2_sum_35 : decode cX2_sum 35 = .ok (.bipush 27, 2) := by decide +kernel
theorem dX2_sum_37 : decode cX2_sum 37 = .ok (.iushr, 1) := by decide +kernel
theorem dX2_sum_38 : decode cX2_sum 38 = .ok (.ior, 1) := by decide +kernel
theorem dX2_sum_39 : decode cX2_sum 39 = .ok (.ldc 9, 2) := by decide +kernel
theorem dX2_sum_41 : decode cX2_sum 41 = .ok (.imul, 1) := by decide +kernel
theorem dX2_sum_42 : decode cX2_sum 42 = .ok (.istore 4, 2) := by decide +kernel
theorem dX2_sum_44 : decode cX2_sum 44 = .ok (.iinc 5 1, 3) := by decide +kernel
theorem dX2_sum_47 : decode cX2_sum 47 = .ok (.goto (-39), 3) := by decide +kernel
theorem dX2_sum_50 : decode cX2_sum 50 = .ok (.iload 4, 2) := by decide +kernel
theorem dX2_sum_52 : decode cX2_sum 52 = .ok (.ireturn, 1) := by decide +kernel
theorem dX2_hasSum_0 : decode cX2_hasSum 0 = .ok (.aload_n 0, 1) := by decide +kernel
theorem dX2_hasSum_1 : decode cX2_hasSum 1 = .ok (.iload_n 1, 1) := by decide +kernel
theorem dX2_hasSum_2 : decode cX2_hasSum 2 = .ok (.iload_n 2, 1) := by decide +kernel
theorem dX2_hasSum_3 : decode cX2_hasSum 3 = .ok (.iadd, 1) := by decide +kernel
theorem dX2_hasSum_4 : decode cX2_hasSum 4 = .ok (.iconst 4, 1) := by decide +kernel
theorem dX2_hasSum_5 : decode cX2_hasSum 5 = .ok (.invokestatic 10, 3) := by decide +kernel
theorem dX2_hasSum_8 : decode cX2_hasSum 8 = .ok (.l2i, 1) := by decide +kernel
theorem dX2_hasSum_9 : decode cX2_hasSum 9 = .ok (.aload_n 0, 1) := by decide +kernel
theorem dX2_hasSum_10 : decode cX2_hasSum 10 = .ok (.iload_n 1, 1) := by decide +kernel
theorem dX2_hasSum_11 : decode cX2_hasSum 11 = .ok (.iload_n 2, 1) := by decide +kernel
theorem dX2_hasSum_12 : decode cX2_hasSum 12 = .ok (.iload_n 3, 1) := by decide +kernel
theorem dX2_hasSum_13 : decode cX2_hasSum 13 = .ok (.invokestatic 14, 3) := by decide +kernel
theorem dX2_hasSum_16 : decode cX2_hasSum 16 = .ok (.if_icmp .ne 7, 3) := by decide +kernel
theorem dX2_hasSum_19 : decode cX2_hasSum 19 = .ok (.iconst 1, 1) := by decide +kernel
theorem dX2_hasSum_20 : decode cX2_hasSum 20 = .ok (.goto 4, 3) := by decide +kernel
theorem dX2_hasSum_23 : decode cX2_hasSum 23 = .ok (.iconst 0, 1) := by decide +kernel
theorem dX2_hasSum_24 : decode cX2_hasSum 24 = .ok (.ireturn, 1) := by decide +kernel
theorem dX2_write_0 : decode cX2_write 0 = .ok (.iconst 0, 1) := by decide +kernel
theorem dX2_write_1 : decode cX2_write 1 = .ok (.istore 5, 2) := by decide +kernel
theorem dX2_write_3 : decode cX2_write 3 = .ok (.iload 5, 2) := by decide +kernel
theorem dX2_write_5 : decode cX2_write 5 = .ok (.iload_n 2, 1) := by decide +kernel
theorem dX2_write_6 : decode cX2_write 6 = .ok (.if_icmp .ge 28, 3) := by decide +kernel
theorem dX2_write_9 : decode cX2_write 9 = .ok (.aload_n 0, 1) := by decide +kernel
theorem dX2_write_10 : decode cX2_write 10 = .ok (.iload_n 1, 1) := by decide +kernel
theorem dX2_write_11 : decode cX2_write 11 = .ok (.iload 5, 2) := by decide +kernel
theorem dX2_write_13 : decode cX2_write 13 = .ok (.iadd, 1) := by decide +kernel
theorem dX2_write_14 : decode cX2_write 14 = .ok (.lload_n 3, 1) := by decide +kernel
theorem dX2_write_15 : decode cX2_write 15 = .ok (.bipush 8, 2) := by decide +kernel
theorem dX2_write_17 : decode cX2_write 17 = .ok (.iload_n 2, 1) := by decide +kernel
theorem dX2_write_18 : decode cX2_write 18 = .ok (.iconst 1, 1) := by decide +kernel
theorem dX2_write_19 : decode cX2_write 19 = .ok (.isub, 1) := by decide +kernel
theorem dX2_write_20 : decode cX2_write 20 = .ok (.iload 5, 2) := by decide +kernel
theorem dX2_write_22 : decode cX2_write 22 = .ok (.isub, 1) := by decide +kernel
theorem dX2_write_23 : decode cX2_write 23 = .ok (.imul, 1) := by decide +kernel
theorem dX2_write_24 : decode cX2_write 24 = .ok (.lushr, 1) := by decide +kernel
theorem dX2_write_25 : decode cX2_write 25 = .ok (.l2i, 1) := by decide +kernel
theorem dX2_write_26 : decode cX2_write 26 = .ok (.i2b, 1) := by decide +kernel
theorem dX2_write_27 : decode cX2_write 27 = .ok (.bastore, 1) := by decide +kernel
theorem dX2_write_28 : decode cX2_write 28 = .ok (.iinc 5 1, 3) := by decide +kernel
theorem dX2_write_31 : decode cX2_write 31 = .ok (.goto (-28), 3) := by decide +kernel
theorem dX2_write_34 : decode cX2_write 34 = .ok (.return_, 1) := by decide +kernel
theorem dX2_writeSum_0 : decode cX2_writeSum 0 = .ok (.aload_n 0, 1) := by decide +kernel
theorem dX2_writeSum_1 : decode cX2_writeSum 1 = .ok (.iload_n 1, 1) := by decide +kernel
theorem dX2_writeSum_2 : decode cX2_writeSum 2 = .ok (.iload_n 2, 1) := by decide +kernel
theorem dX2_writeSum_3 : decode cX2_writeSum 3 = .ok (.iadd, 1) := by decide +kernel
theorem dX2_writeSum_4 : decode cX2_writeSum 4 = .ok (.iconst 4, 1) := by decide +kernel
theorem dX2_writeSum_5 : decode cX2_writeSum 5 = .ok (.aload_n 0, 1) := by decide +kernel
theorem dX2_writeSum_6 : decode cX2_writeSum 6 = .ok (.iload_n 1, 1) := by decide +kernel
theorem dX2_writeSum_7 : decode cX2_writeSum 7 = .ok (.iload_n 2, 1) := by decide +kernel
theorem dX2_writeSum_8 : decode cX2_writeSum 8 = .ok (.iload_n 3, 1) := by decide +kernel
theorem dX2_writeSum_9 : decode cX2_writeSum 9 = .ok (.invokestatic 14, 3) := by decide +kernel
theorem dX2_writeSum_12 : decode cX2_writeSum 12 = .ok (.i2l, 1) := by decide +kernel
theorem dX2_writeSum_13 : decode cX2_writeSum 13 = .ok (.invokestatic 18, 3) := by decide +kernel
theorem dX2_writeSum_16 : decode cX2_writeSum 16 = .ok (.return_, 1) := by decide +kernel
theorem dX1_areaAt_0 : decode cX1_areaAt 0 = .ok (.aload_n 0, 1) := by decide +kernel
theorem dX1_areaAt_1 : decode cX1_areaAt 1 = .ok (.iload_n 1, 1) := by decide +kernel
theorem dX1_areaAt_2 : decode cX1_areaAt 2 = .ok (.sipush 512, 3) := by decide +kernel
theorem dX1_areaAt_5 : decode cX1_areaAt 5 = .ok (.imul, 1) := by decide +kernel
theorem dX1_areaAt_6 : decode cX1_areaAt 6 = .ok (.bipush 8, 2) := by decide +kernel
theorem dX1_areaAt_8 : decode cX1_areaAt 8 = .ok (.iadd, 1) := by decide +kernel
theorem dX1_areaAt_9 : decode cX1_areaAt 9 = .ok (.baload, 1) := by decide +kernel
theorem dX1_areaAt_10 : decode cX1_areaAt 10 = .ok (.sipush 255, 3) := by decide +kernel
theorem dX1_areaAt_13 : decode cX1_areaAt 13 = .ok (.iand, 1) := by decide +kernel
theorem dX1_areaAt_14 : decode cX1_areaAt 14 = .ok (.ireturn, 1) := by decide +kernel
theorem dX1_sequenceAt_0 : decode cX1_sequenceAt 0 = .ok (.aload_n 0, 1) := by decide +kernel
theorem dX1_sequenceAt_1 : decode cX1_sequenceAt 1 = .ok (.iload_n 1, 1) := by decide +kernel
theorem dX1_sequenceAt_2 : decode cX1_sequenceAt 2 = .ok (.sipush 512, 3) := by decide +kernel
theorem dX1_sequenceAt_5 : decode cX1_sequenceAt 5 = .ok (.imul, 1) := by decide +kernel
theorem dX1_sequenceAt_6 : decode cX1_sequenceAt 6 = .ok (.iconst 4, 1) := by decide +kernel
theorem dX1_sequenceAt_7 : decode cX1_sequenceAt 7 = .ok (.iadd, 1) := by decide +kernel
theorem dX1_sequenceAt_8 : decode cX1_sequenceAt 8 = .ok (.iconst 4, 1) := by decide +kernel
theorem dX1_sequenceAt_9 : decode cX1_sequenceAt 9 = .ok (.invokestatic 19, 3) := by decide +kernel
theorem dX1_sequenceAt_12 : decode cX1_sequenceAt 12 = .ok (.l2i, 1) := by decide +kernel
theorem dX1_sequenceAt_13 : decode cX1_sequenceAt 13 = .ok (.ireturn, 1) := by decide +kernel
theorem dX1_isGood_0 : decode cX1_isGood 0 = .ok (.iload_n 1, 1) := by decide +kernel
theorem dX1_isGood_1 : decode cX1_isGood 1 = .ok (.sipush 512, 3) := by decide +kernel
theorem dX1_isGood_4 : decode cX1_isGood 4 = .ok (.imul, 1) := by decide +kernel
theorem dX1_isGood_5 : decode cX1_isGood 5 = .ok (.istore_n 2, 1) := by decide +kernel
theorem dX1_isGood_6 : decode cX1_isGood 6 = .ok (.aload_n 0, 1) := by decide +kernel
theorem dX1_isGood_7 : decode cX1_isGood 7 = .ok (.iload_n 2, 1) := by decide +kernel
theorem dX1_isGood_8 : decode cX1_isGood 8 = .ok (.iconst 4, 1) := by decide +kernel
theorem dX1_isGood_9 : decode cX1_isGood 9 = .ok (.iadd, 1) := by decide +kernel
theorem dX1_isGood_10 : decode cX1_isGood 10 = .ok (.iconst 4, 1) := by decide +kernel
theorem dX1_isGood_11 : decode cX1_isGood 11 = .ok (.invokestatic 19, 3) := by decide +kernel
theorem dX1_isGood_14 : decode cX1_isGood 14 = .ok (.lstore_n 3, 1) := by decide +kernel
theorem dX1_isGood_15 : decode cX1_isGood 15 = .ok (.lload_n 3, 1) := by decide +kernel
theorem dX1_isGood_16 : decode cX1_isGood 16 = .ok (.ldc2_w 25, 3) := by decide +kernel
theorem dX1_isGood_19 : decode cX1_isGood 19 = .ok (.lcmp, 1) := by decide +kernel
theorem dX1_isGood_20 : decode cX1_isGood 20 = .ok (.ifCond .ge 23, 3) := by decide +kernel
theorem dX1_isGood_23 : decode cX1_isGood 23 = .ok (.lload_n 3, 1) := by decide +kernel
theorem dX1_isGood_24 : decode cX1_isGood 24 = .ok (.ldc2_w 27, 3) := by decide +kernel
theorem dX1_isGood_27 : decode cX1_isGood 27 = .ok (.lrem, 1) := by decide +kernel
theorem dX1_isGood_28 : decode cX1_isGood 28 = .ok (.iload_n 1, 1) := by decide +kernel
theorem dX1_isGood_29 : decode cX1_isGood 29 = .ok (.i2l, 1) := by decide +kernel
theorem dX1_isGood_30 : decode cX1_isGood 30 = .ok (.lcmp, 1) := by decide +kernel
theorem dX1_isGood_31 : decode cX1_isGood 31 = .ok (.ifCond .ne 12, 3) := by decide +kernel
theorem dX1_isGood_34 : decode cX1_isGood 34 = .ok (.aload_n 0, 1) := by decide +kernel
theorem dX1_isGood_35 : decode cX1_isGood 35 = .ok (.iload_n 1, 1) := by decide +kernel
theorem dX1_isGood_36 : decode cX1_isGood 36 = .ok (.invokestatic 29, 3) := by decide +kernel
theorem dX1_isGood_39 : decode cX1_isGood 39 = .ok (.iconst 1, 1) := by decide +kernel
theorem dX1_isGood_40 : decode cX1_isGood 40 = .ok (.if_icmp .le 5, 3) := by decide +kernel
theorem dX1_isGood_43 : decode cX1_isGood 43 = .ok (.iconst 0, 1) := by decide +kernel
theorem dX1_isGood_44 : decode cX1_isGood 44 = .ok (.ireturn, 1) := by decide +kernel
theorem dX1_isGood_45 : decode cX1_isGood 45 = .ok (.aload_n 0, 1) := by decide +kernel
theorem dX1_isGood_46 : decode cX1_isGood 46 = .ok (.iload_n 2, 1) := by decide +kernel
theorem dX1_isGood_47 : decode cX1_isGood 47 = .ok (.sipush 508, 3) := by decide +kernel
theorem dX1_isGood_50 : decode cX1_isGood 50 = .ok (.lload_n 3, 1) := by decide +kernel
theorem dX1_isGood_51 : decode cX1_isGood 51 = .ok (.l2i, 1) := by decide +kernel
theorem dX1_isGood_52 : decode cX1_isGood 52 = .ok (.invokestatic 32, 3) := by decide +kernel
theorem dX1_isGood_55 : decode cX1_isGood 55 = .ok (.ireturn, 1) := by decide +kernel
theorem dX1_counting_0 : decode cX1_counting 0 = .ok (.iconst (-1), 1) := by decide +kernel
theorem dX1_counting_1 : decode cX1_counting 1 = .ok (.istore_n 1, 1) := by decide +kernel
theorem dX1_counting_2 : decode cX1_counting 2 = .ok (.iconst 0, 1) := by decide +kernel
theorem dX1_counting_3 : decode cX1_counting 3 = .ok (.istore_n 2, 1) := by decide +kernel
theorem dX1_counting_4 : decode cX1_counting 4 = .ok (.iload_n 2, 1) := by decide +kernel
theorem dX1_counting_5 : decode cX1_counting 5 = .ok (.iconst 2, 1) := by decide +kernel
theorem dX1_counting_6 : decode cX1_counting 6 = .ok (.if_icmp .ge 37, 3) := by decide +kernel
theorem dX1_counting_9 : decode cX1_counting 9 = .ok (.aload_n 0, 1) := by decide +kernel
theorem dX1_counting_10 : decode cX1_counting 10 = .ok (.iload_n 2, 1) := by decide +kernel
theorem dX1_counting_11 : decode cX1_counting 11 = .ok (.invokestatic 9, 3) := by decide +kernel
theorem dX1_counting_14 : decode cX1_counting 14 = .ok (.ifCond .eq 23, 3) := by decide +kernel
theorem dX1_counting_17 : decode cX1_counting 17 = .ok (.iload_n 1, 1) := by decide +kernel
theorem dX1_counting_18 : decode cX1_counting 18 = .ok (.iconst (-1), 1) := by decide +kernel
theorem dX1_counting_19 : decode cX1_counting 19 = .ok (.if_icmp .eq 16, 3) := by decide +kernel
theorem dX1_counting_22 : decode cX1_counting 22 = .ok (.aload_n 0, 1) := by decide +kernel
theorem dX1_counting_23 : decode cX1_counting 23 = .ok (.iload_n 2, 1) := by decide +kernel
theorem dX1_counting_24 : decode cX1_counting 24 = .ok (.invokestatic 15, 3) := by decide +kernel
theorem dX1_counting_27 : decode cX1_counting 27 = .ok (.aload_n 0, 1) := by decide +kernel
theorem dX1_counting_28 : decode cX1_counting 28 = .ok (.iload_n 1, 1) := by decide +kernel
theorem dX1_counting_29 : decode cX1_counting 29 = .ok (.invokestatic 15, 3) := by decide +kernel
theorem dX1_counting_32 : decode cX1_counting 32 = .ok (.if_icmp .le 5, 3) := by decide +kernel
theorem dX1_counting_35 : decode cX1_counting 35 = .ok (.iload_n 2, 1) := by decide +kernel
theorem dX1_counting_36 : decode cX1_counting 36 = .ok (.istore_n 1, 1) := by decide +kernel
theorem dX1_counting_37 : decode cX1_counting 37 = .ok (.iinc 2 1, 3) := by decide +kernel
theorem dX1_counting_40 : decode cX1_counting 40 = .ok (.goto (-36), 3) := by decide +kernel
theorem dX1_counting_43 : decode cX1_counting 43 = .ok (.iload_n 1, 1) := by decide +kernel
theorem dX1_counting_44 : decode cX1_counting 44 = .ok (.ireturn, 1) := by decide +kernel
theorem dX1_write_0 : decode cX1_write 0 = .ok (.aload_n 0, 1) := by decide +kernel
theorem dX1_write_1 : decode cX1_write 1 = .ok (.iload_n 1, 1) := by decide +kernel
theorem dX1_write_2 : decode cX1_write 2 = .ok (.iconst 4, 1) := by decide +kernel
theorem dX1_write_3 : decode cX1_write 3 = .ok (.iload_n 2, 1) := by decide +kernel
theorem dX1_write_4 : decode cX1_write 4 = .ok (.i2l, 1) := by decide +kernel
theorem dX1_write_5 : decode cX1_write 5 = .ok (.invokestatic 36, 3) := by decide +kernel
theorem dX1_write_8 : decode cX1_write 8 = .ok (.aload_n 0, 1) := by decide +kernel
theorem dX1_write_9 : decode cX1_write 9 = .ok (.iload_n 1, 1) := by decide +kernel
theorem dX1_write_10 : decode cX1_write 10 = .ok (.iconst 4, 1) := by decide +kernel
theorem dX1_write_11 : decode cX1_write 11 = .ok (.iadd, 1) := by decide +kernel
theorem dX1_write_12 : decode cX1_write 12 = .ok (.iconst 4, 1) := by decide +kernel
theorem dX1_write_13 : decode cX1_write 13 = .ok (.iload_n 3, 1) := by decide +kernel
theorem dX1_write_14 : decode cX1_write 14 = .ok (.i2l, 1) := by decide +kernel
theorem dX1_write_15 : decode cX1_write 15 = .ok (.invokestatic 36, 3) := by decide +kernel
theorem dX1_write_18 : decode cX1_write 18 = .ok (.aload_n 0, 1) := by decide +kernel
theorem dX1_write_19 : decode cX1_write 19 = .ok (.iload_n 1, 1) := by decide +kernel
theorem dX1_write_20 : decode cX1_write 20 = .ok (.bipush 8, 2) := by decide +kernel
theorem dX1_write_22 : decode cX1_write 22 = .ok (.iadd, 1) := by decide +kernel
theorem dX1_write_23 : decode cX1_write 23 = .ok (.iload 4, 2) := by decide +kernel
theorem dX1_write_25 : decode cX1_write 25 = .ok (.i2b, 1) := by decide +kernel
theorem dX1_write_26 : decode cX1_write 26 = .ok (.bastore, 1) := by decide +kernel
theorem dX1_write_27 : decode cX1_write 27 = .ok (.aload_n 0, 1) := by decide +kernel
theorem dX1_write_28 : decode cX1_write 28 = .ok (.iload_n 1, 1) := by decide +kernel
theorem dX1_write_29 : decode cX1_write 29 = .ok (.sipush 508, 3) := by decide +kernel
theorem dX1_write_32 : decode cX1_write 32 = .ok (.iload_n 3, 1) := by decide +kernel
theorem dX1_write_33 : decode cX1_write 33 = .ok (.invokestatic 40, 3) := by decide +kernel
theorem dX1_write_36 : decode cX1_write 36 = .ok (.return_, 1) := by decide +kernel
theorem dX0_bring_0 : decode cX0_bring 0 = .ok (.iload_n 1, 1) := by decide +kernel
theorem dX0_bring_1 : decode cX0_bring 1 = .ok (.aload_n 0, 1) := by decide +kernel
theorem dX0_bring_2 : decode cX0_bring 2 = .ok (.getfield 27, 3) := by decide +kernel
theorem dX0_bring_5 : decode cX0_bring 5 = .ok (.invokestatic 47, 3) := by decide +kernel
theorem dX0_bring_8 : decode cX0_bring 8 = .ok (.istore_n 3, 1) := by decide +kernel
theorem dX0_bring_9 : decode cX0_bring 9 = .ok (.iconst 0, 1) := by decide +kernel
theorem dX0_bring_10 : decode cX0_bring 10 = .ok (.istore 4, 2) := by decide +kernel
theorem dX0_bring_12 : decode cX0_bring 12 = .ok (.iload 4, 2) := by decide +kernel
theorem dX0_bring_14 : decode cX0_bring 14 = .ok (.iload_n 3, 1) := by decide +kernel
theorem dX0_bring_15 : decode cX0_bring 15 = .ok (.if_icmp .gt 63, 3) := by decide +kernel
theorem dX0_bring_18 : decode cX0_bring 18 = .ok (.iload 4, 2) := by decide +kernel
theorem dX0_bring_20 : decode cX0_bring 20 = .ok (.aload_n 0, 1) := by decide +kernel
theorem dX0_bring_21 : decode cX0_bring 21 = .ok (.getfield 27, 3) := by decide +kernel
theorem dX0_bring_24 : decode cX0_bring 24 = .ok (.if_icmp .ge 54, 3) := by decide +kernel
theorem dX0_bring_27 : decode cX0_bring 27 = .ok (.iload 4, 2) := by decide +kernel
theorem dX0_bring_29 : decode cX0_bring 29 = .ok (.iload_n 3, 1) := by decide +kernel
theorem dX0_bring_30 : decode cX0_bring 30 = .ok (.if_icmp .ge 9, 3) := by decide +kernel
theorem dX0_bring_33 : decode cX0_bring 33 = .ok (.sipush 512, 3) := by decide +kernel
theorem dX0_bring_36 : decode cX0_bring 36 = .ok (.goto 4, 3) := by decide +kernel
theorem dX0_bring_39 : decode cX0_bring 39 = .ok (.iload_n 2, 1) := by decide +kernel
theorem dX0_bring_40 : decode cX0_bring 40 = .ok (.istore 5, 2) := by decide +kernel
theorem dX0_bring_42 : decode cX0_bring 42 = .ok (.aload_n 0, 1) := by decide +kernel
theorem dX0_bring_43 : decode cX0_bring 43 = .ok (.getfield 20, 3) := by decide +kernel
theorem dX0_bring_46 : decode cX0_bring 46 = .ok (.iload 4, 2) := by decide +kernel
theorem dX0_bring_48 : decode cX0_bring 48 = .ok (.sipush 512, 3) := by decide +kernel
theorem dX0_bring_51 : decode cX0_bring 51 = .ok (.imul, 1) := by decide +kernel
theorem dX0_bring_52 : decode cX0_bring 52 = .ok (.aload_n 0, 1) := by decide +kernel
theorem dX0_bring_53 : decode cX0_bring 53 = .ok (.getfield 15, 3) := by decide +kernel
theorem dX0_bring_56 : decode cX0_bring 56 = .ok (.aload_n 0, 1) := by decide +kernel
theorem dX0_bring_57 : decode cX0_bring 57 = .ok (.getfield 23, 3) := by decide +kernel
theorem dX0_bring_60 : decode cX0_bring 60 = .ok (.iload 4, 2) := by decide +kernel
theorem dX0_bring_62 : decode cX0_bring 62 = .ok (.iaload, 1) := by decide +kernel
theorem dX0_bring_63 : decode cX0_bring 63 = .ok (.sipush 512, 3) := by decide +kernel
theorem dX0_bring_66 : decode cX0_bring 66 = .ok (.imul, 1) := by decide +kernel
theorem dX0_bring_67 : decode cX0_bring 67 = .ok (.iload 5, 2) := by decide +kernel
theorem dX0_bring_69 : decode cX0_bring 69 = .ok (.invokestatic 41, 3) := by decide +kernel
theorem dX0_bring_72 : decode cX0_bring 72 = .ok (.iinc 4 1, 3) := by decide +kernel
theorem dX0_bring_75 : decode cX0_bring 75 = .ok (.goto (-63), 3) := by decide +kernel
theorem dX0_bring_78 : decode cX0_bring 78 = .ok (.aload_n 0, 1) := by decide +kernel
theorem dX0_bring_79 : decode cX0_bring 79 = .ok (.iconst 0, 1) := by decide +kernel
theorem dX0_bring_80 : decode cX0_bring 80 = .ok (.putfield 27, 3) := by decide +kernel
theorem dX0_bring_83 : decode cX0_bring 83 = .ok (.iload_n 3, 1) := by decide +kernel
theorem dX0_bring_84 : decode cX0_bring 84 = .ok (.ireturn, 1) := by decide +kernel
theorem dX0_addTarget_0 : decode cX0_addTarget 0 = .ok (.aload_n 0, 1) := by decide +kernel
theorem dX0_addTarget_1 : decode cX0_addTarget 1 = .ok (.getfield 27, 3) := by decide +kernel
theorem dX0_addTarget_4 : decode cX0_addTarget 4 = .ok (.sipush 512, 3) := by decide +kernel
theorem dX0_addTarget_7 : decode cX0_addTarget 7 = .ok (.imul, 1) := by decide +kernel
theorem dX0_addTarget_8 : decode cX0_addTarget 8 = .ok (.istore_n 2, 1) := by decide +kernel
theorem dX0_addTarget_9 : decode cX0_addTarget 9 = .ok (.aload_n 0, 1) := by decide +kernel
theorem dX0_addTarget_10 : decode cX0_addTarget 10 = .ok (.getfield 23, 3) := by decide +kernel
theorem dX0_addTarget_13 : decode cX0_addTarget 13 = .ok (.aload_n 0, 1) := by decide +kernel
theorem dX0_addTarget_14 : decode cX0_addTarget 14 = .ok (.getfield 27, 3) := by decide +kernel
theorem dX0_addTarget_17 : decode cX0_addTarget 17 = .ok (.iload_n 1, 1) := by decide +kernel
theorem dX0_addTarget_18 : decode cX0_addTarget 18 = .ok (.iastore, 1) := by decide +kernel
theorem dX0_addTarget_19 : decode cX0_addTarget 19 = .ok (.aload_n 0, 1) := by decide +kernel
theorem dX0_addTarget_20 : decode cX0_addTarget 20 = .ok (.dup, 1) := by decide +kernel
theorem dX0_addTarget_21 : decode cX0_addTarget 21 = .ok (.getfield 27, 3) := by decide +kernel
theorem dX0_addTarget_24 : decode cX0_addTarget 24 = .ok (.iconst 1, 1) := by decide +kernel
theorem dX0_addTarget_25 : decode cX0_addTarget 25 = .ok (.iadd, 1) := by decide +kernel
theorem dX0_addTarget_26 : decode cX0_addTarget 26 = .ok (.putfield 27, 3) := by decide +kernel
theorem dX0_addTarget_29 : decode cX0_addTarget 29 = .ok (.iload_n 2, 1) := by decide +kernel
theorem dX0_addTarget_30 : decode cX0_addTarget 30 = .ok (.ireturn, 1) := by decide +kernel
theorem dX0_waitWithZeros_0 : decode cX0_waitWithZeros 0 = .ok (.aload_n 0, 1) := by decide +kernel
theorem dX0_waitWithZeros_1 : decode cX0_waitWithZeros 1 = .ok (.getfield 27, 3) := by decide +kernel
theorem dX0_waitWithZeros_4 : decode cX0_waitWithZeros 4 = .ok (.bipush 64, 2) := by decide +kernel
theorem dX0_waitWithZeros_6 : decode cX0_waitWithZeros 6 = .ok (.if_icmp .lt 11, 3) := by decide +kernel
theorem dX0_waitWithZeros_9 : decode cX0_waitWithZeros 9 = .ok (.aload_n 0, 1) := by decide +kernel
theorem dX0_waitWithZeros_10 : decode cX0_waitWithZeros 10 = .ok (.bipush 64, 2) := by decide +kernel
theorem dX0_waitWithZeros_12 : decode cX0_waitWithZeros 12 = .ok (.iconst 0, 1) := by decide +kernel
theorem dX0_waitWithZeros_13 : decode cX0_waitWithZeros 13 = .ok (.invokevirtual 30, 3) := by decide +kernel
theorem dX0_waitWithZeros_16 : decode cX0_waitWithZeros 16 = .ok (.pop, 1) := by decide +kernel
theorem dX0_waitWithZeros_17 : decode cX0_waitWithZeros 17 = .ok (.aload_n 0, 1) := by decide +kernel
theorem dX0_waitWithZeros_18 : decode cX0_waitWithZeros 18 = .ok (.getfield 27, 3) := by decide +kernel
theorem dX0_waitWithZeros_21 : decode cX0_waitWithZeros 21 = .ok (.sipush 512, 3) := by decide +kernel
theorem dX0_waitWithZeros_24 : decode cX0_waitWithZeros 24 = .ok (.imul, 1) := by decide +kernel
theorem dX0_waitWithZeros_25 : decode cX0_waitWithZeros 25 = .ok (.istore_n 2, 1) := by decide +kernel
theorem dX0_waitWithZeros_26 : decode cX0_waitWithZeros 26 = .ok (.iconst 0, 1) := by decide +kernel
theorem dX0_waitWithZeros_27 : decode cX0_waitWithZeros 27 = .ok (.istore_n 3, 1) := by decide +kernel
theorem dX0_waitWithZeros_28 : decode cX0_waitWithZeros 28 = .ok (.iload_n 3, 1) := by decide +kernel
theorem dX0_waitWithZeros_29 : decode cX0_waitWithZeros 29 = .ok (.sipush 512, 3) := by decide +kernel
theorem dX0_waitWithZeros_32 : decode cX0_waitWithZeros 32 = .ok (.if_icmp .ge 18, 3) := by decide +kernel
theorem dX0_waitWithZeros_35 : decode cX0_waitWithZeros 35 = .ok (.aload_n 0, 1) := by decide +kernel
theorem dX0_waitWithZeros_36 : decode cX0_waitWithZeros 36 = .ok (.getfield 20, 3) := by decide +kernel
theorem dX0_waitWithZeros_39 : decode cX0_waitWithZeros 39 = .ok (.iload_n 2, 1) := by decide +kernel
theorem dX0_waitWithZeros_40 : decode cX0_waitWithZeros 40 = .ok (.iload_n 3, 1) := by decide +kernel
theorem dX0_waitWithZeros_41 : decode cX0_waitWithZeros 41 = .ok (.iadd, 1) := by decide +kernel
theorem dX0_waitWithZeros_42 : decode cX0_waitWithZeros 42 = .ok (.iconst 0, 1) := by decide +kernel
theorem dX0_waitWithZeros_43 : decode cX0_waitWithZeros 43 = .ok (.bastore, 1) := by decide +kernel
theorem dX0_waitWithZeros_44 : decode cX0_waitWithZeros 44 = .ok (.iinc 3 1, 3) := by decide +kernel
theorem dX0_waitWithZeros_47 : decode cX0_waitWithZeros 47 = .ok (.goto (-19), 3) := by decide +kernel
theorem dX0_waitWithZeros_50 : decode cX0_waitWithZeros 50 = .ok (.aload_n 0, 1) := by decide +kernel
theorem dX0_waitWithZeros_51 : decode cX0_waitWithZeros 51 = .ok (.iload_n 1, 1) := by decide +kernel
theorem dX0_waitWithZeros_52 : decode cX0_waitWithZeros 52 = .ok (.invokevirtual 34, 3) := by decide +kernel
theorem dX0_waitWithZeros_55 : decode cX0_waitWithZeros 55 = .ok (.ireturn, 1) := by decide +kernel
theorem dJ9_floorMod_7cf53_0 : decode cJ9_floorMod_7cf53 0 = .ok (.iload_n 0, 1) := by decide +kernel
theorem dJ9_floorMod_7cf53_1 : decode cJ9_floorMod_7cf53 1 = .ok (.iload_n 1, 1) := by decide +kernel
theorem dJ9_floorMod_7cf53_2 : decode cJ9_floorMod_7cf53 2 = .ok (.irem, 1) := by decide +kernel
theorem dJ9_floorMod_7cf53_3 : decode cJ9_floorMod_7cf53 3 = .ok (.istore_n 2, 1) := by decide +kernel
theorem dJ9_floorMod_7cf53_4 : decode cJ9_floorMod_7cf53 4 = .ok (.iload_n 0, 1) := by decide +kernel
theorem dJ9_floorMod_7cf53_5 : decode cJ9_floorMod_7cf53 5 = .ok (.iload_n 1, 1) := by decide +kernel
theorem dJ9_floorMod_7cf53_6 : decode cJ9_floorMod_7cf53 6 = .ok (.ixor, 1) := by decide +kernel
theorem dJ9_floorMod_7cf53_7 : decode cJ9_floorMod_7cf53 7 = .ok (.ifCond .ge 11, 3) := by decide +kernel
theorem dJ9_floorMod_7cf53_10 : decode cJ9_floorMod_7cf53 10 = .ok (.iload_n 2, 1) := by decide +kernel
theorem dJ9_floorMod_7cf53_11 : decode cJ9_floorMod_7cf53 11 = .ok (.ifCond .eq 7, 3) := by decide +kernel
theorem dJ9_floorMod_7cf53_14 : decode cJ9_floorMod_7cf53 14 = .ok (.iload_n 2, 1) := by decide +kernel
theorem dJ9_floorMod_7cf53_15 : decode cJ9_floorMod_7cf53 15 = .ok (.iload_n 1, 1) := by decide +kernel
theorem dJ9_floorMod_7cf53_16 : decode cJ9_floorMod_7cf53 16 = .ok (.iadd, 1) := by decide +kernel
theorem dJ9_floorMod_7cf53_17 : decode cJ9_floorMod_7cf53 17 = .ok (.ireturn, 1) := by decide +kernel
theorem dJ9_floorMod_7cf53_18 : decode cJ9_floorMod_7cf53 18 = .ok (.iload_n 2, 1) := by decide +kernel
theorem dJ9_floorMod_7cf53_19 : decode cJ9_floorMod_7cf53 19 = .ok (.ireturn, 1) := by decide +kernel
theorem dX5_firstSector_0 : decode cX5_firstSector 0 = .ok (.iconst 2, 1) := by decide +kernel
theorem dX5_firstSector_1 : decode cX5_firstSector 1 = .ok (.iload_n 1, 1) := by decide +kernel
theorem dX5_firstSector_2 : decode cX5_firstSector 2 = .ok (.aload_n 0, 1) := by decide +kernel
theorem dX5_firstSector_3 : decode cX5_firstSector 3 = .ok (.getfield 18, 3) := by decide +kernel
theorem dX5_firstSector_6 : decode cX5_firstSector 6 = .ok (.imul, 1) := by decide +kernel
theorem dX5_firstSector_7 : decode cX5_firstSector 7 = .ok (.iadd, 1) := by decide +kernel
theorem dX5_firstSector_8 : decode cX5_firstSector 8 = .ok (.ireturn, 1) := by decide +kernel
theorem dX5_clearArea_0 : decode cX5_clearArea 0 = .ok (.aload_n 0, 1) := by decide +kernel
theorem dX5_clearArea_1 : decode cX5_clearArea 1 = .ok (.iload_n 1, 1) := by decide +kernel
theorem dX5_clearArea_2 : decode cX5_clearArea 2 = .ok (.invokevirtual 211, 3) := by decide +kernel
theorem dX5_clearArea_5 : decode cX5_clearArea 5 = .ok (.istore_n 2, 1) := by decide +kernel
theorem dX5_clearArea_6 : decode cX5_clearArea 6 = .ok (.iconst 0, 1) := by decide +kernel
theorem dX5_clearArea_7 : decode cX5_clearArea 7 = .ok (.istore_n 3, 1) := by decide +kernel
theorem dX5_clearArea_8 : decode cX5_clearArea 8 = .ok (.iload_n 3, 1) := by decide +kernel
theorem dX5_clearArea_9 : decode cX5_clearArea 9 = .ok (.aload_n 0, 1) := by decide +kernel
theorem dX5_clearArea_10 : decode cX5_clearArea 10 = .ok (.getfield 18, 3) := by decide +kernel
theorem dX5_clearArea_13 : decode cX5_clearArea 13 = .ok (.if_icmp .ge 20, 3) := by decide +kernel
theorem dX5_clearArea_16 : decode cX5_clearArea 16 = .ok (.aload_n 0, 1) := by decide +kernel
theorem dX5_clearArea_17 : decode cX5_clearArea 17 = .ok (.getfield 27, 3) := by decide +kernel
theorem dX5_clearArea_20 : decode cX5_clearArea 20 = .ok (.iload_n 2, 1) := by decide +kernel
theorem dX5_clearArea_21 : decode cX5_clearArea 21 = .ok (.iload_n 3, 1) := by decide +kernel
theorem dX5_clearArea_22 : decode cX5_clearArea 22 = .ok (.iadd, 1) := by decide +kernel
theorem dX5_clearArea_23 : decode cX5_clearArea 23 = .ok (.invokevirtual 218, 3) := by decide +kernel
theorem dX5_clearArea_26 : decode cX5_clearArea 26 = .ok (.pop, 1) := by decide +kernel
theorem dX5_clearArea_27 : decode cX5_clearArea 27 = .ok (.iinc 3 1, 3) := by decide +kernel
theorem dX5_clearArea_30 : decode cX5_clearArea 30 = .ok (.goto (-22), 3) := by decide +kernel
theorem dX5_clearArea_33 : decode cX5_clearArea 33 = .ok (.return_, 1) := by decide +kernel
theorem dX5_changeHeads_0 : decode cX5_changeHeads 0 = .ok (.iconst 0, 1) := by decide +kernel
theorem dX5_changeHeads_1 : decode cX5_changeHeads 1 = .ok (.istore_n 1, 1) := by decide +kernel
theorem dX5_changeHeads_2 : decode cX5_changeHeads 2 = .ok (.iload_n 1, 1) := by decide +kernel
theorem dX5_changeHeads_3 : decode cX5_changeHeads 3 = .ok (.iconst 2, 1) := by decide +kernel
theorem dX5_changeHeads_4 : decode cX5_changeHeads 4 = .ok (.if_icmp .ge 58, 3) := by decide +kernel
theorem dX5_changeHeads_7 : decode cX5_changeHeads 7 = .ok (.aload_n 0, 1) := by decide +kernel
theorem dX5_changeHeads_8 : decode cX5_changeHeads 8 = .ok (.dup, 1) := by decide +kernel
theorem dX5_changeHeads_9 : decode cX5_changeHeads 9 = .ok (.getfield 195, 3) := by decide +kernel
theorem dX5_changeHeads_12 : decode cX5_changeHeads 12 = .ok (.iconst 1, 1) := by decide +kernel
theorem dX5_changeHeads_13 : decode cX5_changeHeads 13 = .ok (.iadd, 1) := by decide +kernel
theorem dX5_changeHeads_14 : decode cX5_changeHeads 14 = .ok (.putfield 195, 3) := by decide +kernel
theorem dX5_changeHeads_17 : decode cX5_changeHeads 17 = .ok (.aload_n 0, 1) := by decide +kernel
theorem dX5_changeHeads_18 : decode cX5_changeHeads 18 = .ok (.getfield 27, 3) := by decide +kernel
theorem dX5_changeHeads_21 : decode cX5_changeHeads 21 = .ok (.aload_n 0, 1) := by decide +kernel
theorem dX5_changeHeads_22 : decode cX5_changeHeads 22 = .ok (.getfield 195, 3) := by decide +kernel
theorem dX5_changeHeads_25 : decode cX5_changeHeads 25 = .ok (.iconst 2, 1) := by decide +kernel
theorem dX5_changeHeads_26 : decode cX5_changeHeads 26 = .ok (.invokestatic 221, 3) := by decide +kernel
theorem dX5_changeHeads_29 : decode cX5_changeHeads 29 = .ok (.invokevirtual 218, 3) := by decide +kernel
theorem dX5_changeHeads_32 : decode cX5_changeHeads 32 = .ok (.istore_n 2, 1) := by decide +kernel
theorem dX5_changeHeads_33 : decode cX5_changeHeads 33 = .ok (.aload_n 0, 1) := by decide +kernel
theorem dX5_changeHeads_34 : decode cX5_changeHeads 34 = .ok (.getfield 27, 3) := by decide +kernel
theorem dX5_changeHeads_37 : decode cX5_changeHeads 37 = .ok (.getfield 224, 3) := by decide +kernel
theorem dX5_changeHeads_40 : decode cX5_changeHeads 40 = .ok (.iload_n 2, 1) := by decide +kernel
theorem dX5_changeHeads_41 : decode cX5_changeHeads 41 = .ok (.aload_n 0, 1) := by decide +kernel
theorem dX5_changeHeads_42 : decode cX5_changeHeads 42 = .ok (.getfield 83, 3) := by decide +kernel
theorem dX5_changeHeads_45 : decode cX5_changeHeads 45 = .ok (.aload_n 0, 1) := by decide +kernel
theorem dX5_changeHeads_46 : decode cX5_changeHeads 46 = .ok (.getfield 195, 3) := by decide +kernel
theorem dX5_changeHeads_49 : decode cX5_changeHeads 49 = .ok (.aload_n 0, 1) := by decide +kernel
theorem dX5_changeHeads_50 : decode cX5_changeHeads 50 = .ok (.getfield 128, 3) := by decide +kernel
theorem dX5_changeHeads_53 : decode cX5_changeHeads 53 = .ok (.invokestatic 227, 3) := by decide +kernel
theorem dX5_changeHeads_56 : decode cX5_changeHeads 56 = .ok (.iinc 1 1, 3) := by decide +kernel
theorem dX5_changeHeads_59 : decode cX5_changeHeads 59 = .ok (.goto (-57), 3) := by decide +kernel
theorem dX5_changeHeads_62 : decode cX5_changeHeads 62 = .ok (.return_, 1) := by decide +kernel
theorem dX3_wrongCount_0 : decode cX3_wrongCount 0 = .ok (.aload_n 0, 1) := by decide +kernel
theorem dX3_wrongCount_1 : decode cX3_wrongCount 1 = .ok (.getfield 35, 3) := by decide +kernel
theorem dX3_wrongCount_4 : decode cX3_wrongCount 4 = .ok (.ireturn, 1) := by decide +kernel
theorem dX3_end_0 : decode cX3_end 0 = .ok (.aload_n 0, 1) := by decide +kernel
theorem dX3_end_1 : decode cX3_end 1 = .ok (.getfield 31, 3) := by decide +kernel
theorem dX3_end_4 : decode cX3_end 4 = .ok (.ireturn, 1) := by decide +kernel
theorem dX3_places_0 : decode cX3_places 0 = .ok (.aload_n 0, 1) := by decide +kernel
theorem dX3_places_1 : decode cX3_places 1 = .ok (.getfield 9, 3) := by decide +kernel
theorem dX3_places_4 : decode cX3_places 4 = .ok (.arraylength, 1) := by decide +kernel
theorem dX3_places_5 : decode cX3_places 5 = .ok (.ireturn, 1) := by decide +kernel
theorem dX3_indexPlace_0 : decode cX3_indexPlace 0 = .ok (.aload_n 0, 1) := by decide +kernel
theorem dX3_indexPlace_1 : decode cX3_indexPlace 1 = .ok (.getfield 9, 3) := by decide +kernel
theorem dX3_indexPlace_4 : decode cX3_indexPlace 4 = .ok (.iload_n 1, 1) := by decide +kernel
theorem dX3_indexPlace_5 : decode cX3_indexPlace 5 = .ok (.iaload, 1) := by decide +kernel
theorem dX3_indexPlace_6 : decode cX3_indexPlace 6 = .ok (.ifCond .ne 21, 3) := by decide +kernel
theorem dX3_indexPlace_9 : decode cX3_indexPlace 9 = .ok (.aload_n 0, 1) := by decide +kernel
theorem dX3_indexPlace_10 : decode cX3_indexPlace 10 = .ok (.dup, 1) := by decide +kernel
theorem dX3_indexPlace_11 : decode cX3_indexPlace 11 = .ok (.getfield 35, 3) := by decide +kernel
theorem dX3_indexPlace_14 : decode cX3_indexPlace 14 = .ok (.iconst 1, 1) := by decide +kernel
theorem dX3_indexPlace_15 : decode cX3_indexPlace 15 = .ok (.iadd, 1) := by decide +kernel
theorem dX3_indexPlace_16 : decode cX3_indexPlace 16 = .ok (.putfield 35, 3) := by decide +kernel
theorem dX3_indexPlace_19 : decode cX3_indexPlace 19 = .ok (.aload_n 0, 1) := by decide +kernel
theorem dX3_indexPlace_20 : decode cX3_indexPlace 20 = .ok (.iload_n 1, 1) := by decide +kernel
theorem dX3_indexPlace_21 : decode cX3_indexPlace 21 = .ok (.putfield 38, 3) := by decide +kernel
theorem dX3_indexPlace_24 : decode cX3_indexPlace 24 = .ok (.goto 33, 3) := by decide +kernel
theorem dX3_indexPlace_27 : decode cX3_indexPlace 27 = .ok (.aload_n 0, 1) := by decide +kernel
theorem dX3_indexPlace_28 : decode cX3_indexPlace 28 = .ok (.getfield 9, 3) := by decide +kernel
theorem dX3_indexPlace_31 : decode cX3_indexPlace 31 = .ok (.iload_n 1, 1) := by decide +kernel
theorem dX3_indexPlace_32 : decode cX3_indexPlace 32 = .ok (.iaload, 1) := by decide +kernel
theorem dX3_indexPlace_33 : decode cX3_indexPlace 33 = .ok (.iconst 1, 1) := by decide +kernel
theorem dX3_indexPlace_34 : decode cX3_indexPlace 34 = .ok (.if_icmp .ne 18, 3) := by decide +kernel
theorem dX3_indexPlace_37 : decode cX3_indexPlace 37 = .ok (.aload_n 0, 1) := by decide +kernel
theorem dX3_indexPlace_38 : decode cX3_indexPlace 38 = .ok (.getfield 28, 3) := by decide +kernel
theorem dX3_indexPlace_41 : decode cX3_indexPlace 41 = .ok (.aload_n 0, 1) := by decide +kernel
theorem dX3_indexPlace_42 : decode cX3_indexPlace 42 = .ok (.getfield 15, 3) := by decide +kernel
theorem dX3_indexPlace_45 : decode cX3_indexPlace 45 = .ok (.iload_n 1, 1) := by decide +kernel
theorem dX3_indexPlace_46 : decode cX3_indexPlace 46 = .ok (.iaload, 1) := by decide +kernel
theorem dX3_indexPlace_47 : decode cX3_indexPlace 47 = .ok (.iload_n 1, 1) := by decide +kernel
theorem dX3_indexPlace_48 : decode cX3_indexPlace 48 = .ok (.iastore, 1) := by decide +kernel
theorem dX3_indexPlace_49 : decode cX3_indexPlace 49 = .ok (.goto 8, 3) := by decide +kernel
theorem dX3_indexPlace_52 : decode cX3_indexPlace 52 = .ok (.aload_n 0, 1) := by decide +kernel
theorem dX3_indexPlace_53 : decode cX3_indexPlace 53 = .ok (.iload_n 1, 1) := by decide +kernel
theorem dX3_indexPlace_54 : decode cX3_indexPlace 54 = .ok (.putfield 41, 3) := by decide +kernel
theorem dX3_indexPlace_57 : decode cX3_indexPlace 57 = .ok (.return_, 1) := by decide +kernel
theorem dX3_index_0 : decode cX3_index 0 = .ok (.iconst 0, 1) := by decide +kernel
theorem dX3_index_1 : decode cX3_index 1 = .ok (.istore_n 1, 1) := by decide +kernel
theorem dX3_index_2 : decode cX3_index 2 = .ok (.iload_n 1, 1) := by decide +kernel
theorem dX3_index_3 : decode cX3_index 3 = .ok (.bipush 64, 2) := by decide +kernel
theorem dX3_index_5 : decode cX3_index 5 = .ok (.if_icmp .ge 16, 3) := by decide +kernel
theorem dX3_index_8 : decode cX3_index 8 = .ok (.aload_n 0, 1) := by decide +kernel
theorem dX3_index_9 : decode cX3_index 9 = .ok (.getfield 28, 3) := by decide +kernel
theorem dX3_index_12 : decode cX3_index 12 = .ok (.iload_n 1, 1) := by decide +kernel
theorem dX3_index_13 : decode cX3_index 13 = .ok (.iconst (-1), 1) := by decide +kernel
theorem dX3_index_14 : decode cX3_index 14 = .ok (.iastore, 1) := by decide +kernel
theorem dX3_index_15 : decode cX3_index 15 = .ok (.iinc 1 1, 3) := by decide +kernel
theorem dX3_index_18 : decode cX3_index 18 = .ok (.goto (-16), 3) := by decide +kernel
theorem dX3_index_21 : decode cX3_index 21 = .ok (.aload_n 0, 1) := by decide +kernel
theorem dX3_index_22 : decode cX3_index 22 = .ok (.iconst (-1), 1) := by decide +kernel
theorem dX3_index_23 : decode cX3_index 23 = .ok (.putfield 41, 3) := by decide +kernel
theorem dX3_index_26 : decode cX3_index 26 = .ok (.aload_n 0, 1) := by decide +kernel
theorem dX3_index_27 : decode cX3_index 27 = .ok (.iconst 0, 1) := by decide +kernel
theorem dX3_index_28 : decode cX3_index 28 = .ok (.putfield 35, 3) := by decide +kernel
theorem dX3_index_31 : decode cX3_index 31 = .ok (.aload_n 0, 1) := by decide +kernel
theorem dX3_index_32 : decode cX3_index 32 = .ok (.iconst (-1), 1) := by decide +kernel
theorem dX3_index_33 : decode cX3_index 33 = .ok (.putfield 38, 3) := by decide +kernel
theorem dX3_index_36 : decode cX3_index 36 = .ok (.iconst 0, 1) := by decide +kernel
theorem dX3_index_37 : decode cX3_index 37 = .ok (.istore_n 1, 1) := by decide +kernel
theorem dX3_index_38 : decode cX3_index 38 = .ok (.iload_n 1, 1) := by decide +kernel
theorem dX3_index_39 : decode cX3_index 39 = .ok (.aload_n 0, 1) := by decide +kernel
theorem dX3_index_40 : decode cX3_index 40 = .ok (.getfield 31, 3) := by decide +kernel
theorem dX3_index_43 : decode cX3_index 43 = .ok (.if_icmp .ge 14, 3) := by decide +kernel
theorem dX3_index_46 : decode cX3_index 46 = .ok (.aload_n 0, 1) := by decide +kernel
theorem dX3_index_47 : decode cX3_index 47 = .ok (.iload_n 1, 1) := by decide +kernel
theorem dX3_index_48 : decode cX3_index 48 = .ok (.invokevirtual 59, 3) := by decide +kernel
theorem dX3_index_51 : decode cX3_index 51 = .ok (.iinc 1 1, 3) := by decide +kernel
theorem dX3_index_54 : decode cX3_index 54 = .ok (.goto (-16), 3) := by decide +kernel
theorem dX3_index_57 : decode cX3_index 57 = .ok (.return_, 1) := by decide +kernel
theorem dX3_clear_0 : decode cX3_clear 0 = .ok (.aload_n 0, 1) := by decide +kernel
theorem dX3_clear_1 : decode cX3_clear 1 = .ok (.iconst 0, 1) := by decide +kernel
theorem dX3_clear_2 : decode cX3_clear 2 = .ok (.putfield 31, 3) := by decide +kernel
theorem dX3_clear_5 : decode cX3_clear 5 = .ok (.aload_n 0, 1) := by decide +kernel
theorem dX3_clear_6 : decode cX3_clear 6 = .ok (.invokevirtual 48, 3) := by decide +kernel
theorem dX3_clear_9 : decode cX3_clear 9 = .ok (.return_, 1) := by decide +kernel
theorem dX3_isKey_0 : decode cX3_isKey 0 = .ok (.iload_n 0, 1) := by decide +kernel
theorem dX3_isKey_1 : decode cX3_isKey 1 = .ok (.ifCond .lt 13, 3) := by decide +kernel
theorem dX3_isKey_4 : decode cX3_isKey 4 = .ok (.iload_n 0, 1) := by decide +kernel
theorem dX3_isKey_5 : decode cX3_isKey 5 = .ok (.bipush 64, 2) := by decide +kernel
theorem dX3_isKey_7 : decode cX3_isKey 7 = .ok (.if_icmp .ge 7, 3) := by decide +kernel
theorem dX3_isKey_10 : decode cX3_isKey 10 = .ok (.iconst 1, 1) := by decide +kernel
theorem dX3_isKey_11 : decode cX3_isKey 11 = .ok (.goto 4, 3) := by decide +kernel
theorem dX3_isKey_14 : decode cX3_isKey 14 = .ok (.iconst 0, 1) := by decide +kernel
theorem dX3_isKey_15 : decode cX3_isKey 15 = .ok (.ireturn, 1) := by decide +kernel
theorem dX3_isUser_0 : decode cX3_isUser 0 = .ok (.iload_n 0, 1) := by decide +kernel
theorem dX3_isUser_1 : decode cX3_isUser 1 = .ok (.ifCond .lt 13, 3) := by decide +kernel
theorem dX3_isUser_4 : decode cX3_isUser 4 = .ok (.iload_n 0, 1) := by decide +kernel
theorem dX3_isUser_5 : decode cX3_isUser 5 = .ok (.bipush 8, 2) := by decide +kernel
theorem dX3_isUser_7 : decode cX3_isUser 7 = .ok (.if_icmp .ge 7, 3) := by decide +kernel
theorem dX3_isUser_10 : decode cX3_isUser 10 = .ok (.iconst 1, 1) := by decide +kernel
theorem dX3_isUser_11 : decode cX3_isUser 11 = .ok (.goto 4, 3) := by decide +kernel
theorem dX3_isUser_14 : decode cX3_isUser 14 = .ok (.iconst 0, 1) := by decide +kernel
theorem dX3_isUser_15 : decode cX3_isUser 15 = .ok (.ireturn, 1) := by decide +kernel
theorem dX3_isFull_0 : decode cX3_isFull 0 = .ok (.aload_n 0, 1) := by decide +kernel
theorem dX3_isFull_1 : decode cX3_isFull 1 = .ok (.getfield 31, 3) := by decide +kernel
theorem dX3_isFull_4 : decode cX3_isFull 4 = .ok (.aload_n 0, 1) := by decide +kernel
theorem dX3_isFull_5 : decode cX3_isFull 5 = .ok (.getfield 9, 3) := by decide +kernel
theorem dX3_isFull_8 : decode cX3_isFull 8 = .ok (.arraylength, 1) := by decide +kernel
theorem dX3_isFull_9 : decode cX3_isFull 9 = .ok (.if_icmp .lt 7, 3) := by decide +kernel
theorem dX3_isFull_12 : decode cX3_isFull 12 = .ok (.iconst 1, 1) := by decide +kernel
theorem dX3_isFull_13 : decode cX3_isFull 13 = .ok (.goto 4, 3) := by decide +kernel
theorem dX3_isFull_16 : decode cX3_isFull 16 = .ok (.iconst 0, 1) := by decide +kernel
theorem dX3_isFull_17 : decode cX3_isFull 17 = .ok (.ireturn, 1) := by decide +kernel
theorem dX3_kindAt_0 : decode cX3_kindAt 0 = .ok (.iload_n 1, 1) := by decide +kernel
theorem dX3_kindAt_1 : decode cX3_kindAt 1 = .ok (.ifCond .lt 20, 3) := by decide +kernel
theorem dX3_kindAt_4 : decode cX3_kindAt 4 = .ok (.iload_n 1, 1) := by decide +kernel
theorem dX3_kindAt_5 : decode cX3_kindAt 5 = .ok (.aload_n 0, 1) := by decide +kernel
theorem dX3_kindAt_6 : decode cX3_kindAt 6 = .ok (.getfield 31, 3) := by decide +kernel
theorem dX3_kindAt_9 : decode cX3_kindAt 9 = .ok (.if_icmp .ge 12, 3) := by decide +kernel
theorem dX3_kindAt_12 : decode cX3_kindAt 12 = .ok (.aload_n 0, 1) := by decide +kernel
theorem dX3_kindAt_13 : decode cX3_kindAt 13 = .ok (.getfield 9, 3) := by decide +kernel
theorem dX3_kindAt_16 : decode cX3_kindAt 16 = .ok (.iload_n 1, 1) := by decide +kernel
theorem dX3_kindAt_17 : decode cX3_kindAt 17 = .ok (.iaload, 1) := by decide +kernel
theorem dX3_kindAt_18 : decode cX3_kindAt 18 = .ok (.goto 4, 3) := by decide +kernel
theorem dX3_kindAt_21 : decode cX3_kindAt 21 = .ok (.iconst 0, 1) := by decide +kernel
theorem dX3_kindAt_22 : decode cX3_kindAt 22 = .ok (.ireturn, 1) := by decide +kernel
theorem dX3_askCount_0 : decode cX3_askCount 0 = .ok (.aload_n 0, 1) := by decide +kernel
theorem dX3_askCount_1 : decode cX3_askCount 1 = .ok (.getfield 18, 3) := by decide +kernel
theorem dX3_askCount_4 : decode cX3_askCount 4 = .ok (.iload_n 1, 1) := by decide +kernel
theorem dX3_askCount_5 : decode cX3_askCount 5 = .ok (.iaload, 1) := by decide +kernel
theorem dX3_askCount_6 : decode cX3_askCount 6 = .ok (.ireturn, 1) := by decide +kernel
theorem dX3_askAt_0 : decode cX3_askAt 0 = .ok (.aload_n 0, 1) := by decide +kernel
theorem dX3_askAt_1 : decode cX3_askAt 1 = .ok (.getfield 21, 3) := by decide +kernel
theorem dX3_askAt_4 : decode cX3_askAt 4 = .ok (.iload_n 1, 1) := by decide +kernel
theorem dX3_askAt_5 : decode cX3_askAt 5 = .ok (.bipush 6, 2) := by decide +kernel
theorem dX3_askAt_7 : decode cX3_askAt 7 = .ok (.imul, 1) := by decide +kernel
theorem dX3_askAt_8 : decode cX3_askAt 8 = .ok (.iload_n 2, 1) := by decide +kernel
theorem dX3_askAt_9 : decode cX3_askAt 9 = .ok (.iadd, 1) := by decide +kernel
theorem dX3_askAt_10 : decode cX3_askAt 10 = .ok (.iaload, 1) := by decide +kernel
theorem dX3_askAt_11 : decode cX3_askAt 11 = .ok (.ireturn, 1) := by decide +kernel
theorem dX3_digestAt_0 : decode cX3_digestAt 0 = .ok (.aload_n 0, 1) := by decide +kernel
theorem dX3_digestAt_1 : decode cX3_digestAt 1 = .ok (.getfield 24, 3) := by decide +kernel
theorem dX3_digestAt_4 : decode cX3_digestAt 4 = .ok (.iload_n 1, 1) := by decide +kernel
theorem dX3_digestAt_5 : decode cX3_digestAt 5 = .ok (.laload, 1) := by decide +kernel
theorem dX3_digestAt_6 : decode cX3_digestAt 6 = .ok (.lreturn, 1) := by decide +kernel
theorem dX3_latest_0 : decode cX3_latest 0 = .ok (.aload_n 0, 1) := by decide +kernel
theorem dX3_latest_1 : decode cX3_latest 1 = .ok (.getfield 28, 3) := by decide +kernel
theorem dX3_latest_4 : decode cX3_latest 4 = .ok (.iload_n 1, 1) := by decide +kernel
theorem dX3_latest_5 : decode cX3_latest 5 = .ok (.iaload, 1) := by decide +kernel
theorem dX3_latest_6 : decode cX3_latest 6 = .ok (.ireturn, 1) := by decide +kernel
theorem dX3_isWrongBehind_0 : decode cX3_isWrongBehind 0 = .ok (.aload_n 0, 1) := by decide +kernel
theorem dX3_isWrongBehind_1 : decode cX3_isWrongBehind 1 = .ok (.getfield 38, 3) := by decide +kernel
theorem dX3_isWrongBehind_4 : decode cX3_isWrongBehind 4 = .ok (.iload_n 1, 1) := by decide +kernel
theorem dX3_isWrongBehind_5 : decode cX3_isWrongBehind 5 = .ok (.if_icmp .le 7, 3) := by decide +kernel
theorem dX3_isWrongBehind_8 : decode cX3_isWrongBehind 8 = .ok (.iconst 1, 1) := by decide +kernel
theorem dX3_isWrongBehind_9 : decode cX3_isWrongBehind 9 = .ok (.goto 4, 3) := by decide +kernel
theorem dX3_isWrongBehind_12 : decode cX3_isWrongBehind 12 = .ok (.iconst 0, 1) := by decide +kernel
theorem dX3_isWrongBehind_13 : decode cX3_isWrongBehind 13 = .ok (.ireturn, 1) := by decide +kernel
theorem dX3_lockHolder_0 : decode cX3_lockHolder 0 = .ok (.aload_n 0, 1) := by decide +kernel
theorem dX3_lockHolder_1 : decode cX3_lockHolder 1 = .ok (.getfield 41, 3) := by decide +kernel
theorem dX3_lockHolder_4 : decode cX3_lockHolder 4 = .ok (.iconst (-1), 1) := by decide +kernel
theorem dX3_lockHolder_5 : decode cX3_lockHolder 5 = .ok (.if_icmp .eq 28, 3) := by decide +kernel
theorem dX3_lockHolder_8 : decode cX3_lockHolder 8 = .ok (.aload_n 0, 1) := by decide +kernel
theorem dX3_lockHolder_9 : decode cX3_lockHolder 9 = .ok (.getfield 9, 3) := by decide +kernel
theorem dX3_lockHolder_12 : decode cX3_lockHolder 12 = .ok (.aload_n 0, 1) := by decide +kernel
theorem dX3_lockHolder_13 : decode cX3_lockHolder 13 = .ok (.getfield 41, 3) := by decide +kernel
theorem dX3_lockHolder_16 : decode cX3_lockHolder 16 = .ok (.iaload, 1) := by decide +kernel
theorem dX3_lockHolder_17 : decode cX3_lockHolder 17 = .ok (.iconst 2, 1) := by decide +kernel
theorem dX3_lockHolder_18 : decode cX3_lockHolder 18 = .ok (.if_icmp .ne 15, 3) := by decide +kernel
theorem dX3_lockHolder_21 : decode cX3_lockHolder 21 = .ok (.aload_n 0, 1) := by decide +kernel
theorem dX3_lockHolder_22 : decode cX3_lockHolder 22 = .ok (.getfield 15, 3) := by decide +kernel
theorem dX3_lockHolder_25 : decode cX3_lockHolder 25 = .ok (.aload_n 0, 1) := by decide +kernel
theorem dX3_lockHolder_26 : decode cX3_lockHolder 26 = .ok (.getfield 41, 3) := by decide +kernel
theorem dX3_lockHolder_29 : decode cX3_lockHolder 29 = .ok (.iaload, 1) := by decide +kernel
theorem dX3_lockHolder_30 : decode cX3_lockHolder 30 = .ok (.goto 4, 3) := by decide +kernel
theorem dX3_lockHolder_33 : decode cX3_lockHolder 33 = .ok (.iconst (-1), 1) := by decide +kernel
theorem dX3_lockHolder_34 : decode cX3_lockHolder 34 = .ok (.ireturn, 1) := by decide +kernel
theorem dX3_isToCopy_0 : decode cX3_isToCopy 0 = .ok (.aload_n 0, 1) := by decide +kernel
theorem dX3_isToCopy_1 : decode cX3_isToCopy 1 = .ok (.getfield 9, 3) := by decide +kernel
theorem dX3_isToCopy_4 : decode cX3_isToCopy 4 = .ok (.iload_n 1, 1) := by decide +kernel
theorem dX3_isToCopy_5 : decode cX3_isToCopy 5 = .ok (.iaload, 1) := by decide +kernel
theorem dX3_isToCopy_6 : decode cX3_isToCopy 6 = .ok (.iconst 1, 1) := by decide +kernel
theorem dX3_isToCopy_7 : decode cX3_isToCopy 7 = .ok (.if_icmp .ne 32, 3) := by decide +kernel
theorem dX3_isToCopy_10 : decode cX3_isToCopy 10 = .ok (.aload_n 0, 1) := by decide +kernel
theorem dX3_isToCopy_11 : decode cX3_isToCopy 11 = .ok (.getfield 28, 3) := by decide +kernel
theorem dX3_isToCopy_14 : decode cX3_isToCopy 14 = .ok (.aload_n 0, 1) := by decide +kernel
theorem dX3_isToCopy_15 : decode cX3_isToCopy 15 = .ok (.getfield 15, 3) := by decide +kernel
theorem dX3_isToCopy_18 : decode cX3_isToCopy 18 = .ok (.iload_n 1, 1) := by decide +kernel
theorem dX3_isToCopy_19 : decode cX3_isToCopy 19 = .ok (.iaload, 1) := by decide +kernel
theorem dX3_isToCopy_20 : decode cX3_isToCopy 20 = .ok (.iaload, 1) := by decide +kernel
theorem dX3_isToCopy_21 : decode cX3_isToCopy 21 = .ok (.iload_n 1, 1) := by decide +kernel
theorem dX3_isToCopy_22 : decode cX3_isToCopy 22 = .ok (.if_icmp .ne 15, 3) := by decide +kernel
theorem dX3_isToCopy_25 : decode cX3_isToCopy 25 = .ok (.aload_n 0, 1) := by decide +kernel
theorem dX3_isToCopy_26 : decode cX3_isToCopy 26 = .ok (.iload_n 1, 1) := by decide +kernel
theorem dX3_isToCopy_27 : decode cX3_isToCopy 27 = .ok (.invokevirtual 44, 3) := by decide +kernel
theorem dX3_isToCopy_30 : decode cX3_isToCopy 30 = .ok (.ifCond .ne 7, 3) := by decide +kernel
theorem dX3_isToCopy_33 : decode cX3_isToCopy 33 = .ok (.iconst 1, 1) := by decide +kernel
theorem dX3_isToCopy_34 : decode cX3_isToCopy 34 = .ok (.goto 4, 3) := by decide +kernel
theorem dX3_isToCopy_37 : decode cX3_isToCopy 37 = .ok (.iconst 0, 1) := by decide +kernel
theorem dX3_isToCopy_38 : decode cX3_isToCopy 38 = .ok (.ireturn, 1) := by decide +kernel
theorem dX3_isToCopy_39 : decode cX3_isToCopy 39 = .ok (.iload_n 1, 1) := by decide +kernel
theorem dX3_isToCopy_40 : decode cX3_isToCopy 40 = .ok (.aload_n 0, 1) := by decide +kernel
theorem dX3_isToCopy_41 : decode cX3_isToCopy 41 = .ok (.getfield 41, 3) := by decide +kernel
theorem dX3_isToCopy_44 : decode cX3_isToCopy 44 = .ok (.if_icmp .ne 7, 3) := by decide +kernel
theorem dX3_isToCopy_47 : decode cX3_isToCopy 47 = .ok (.iconst 1, 1) := by decide +kernel
theorem dX3_isToCopy_48 : decode cX3_isToCopy 48 = .ok (.goto 4, 3) := by decide +kernel
theorem dX3_isToCopy_51 : decode cX3_isToCopy 51 = .ok (.iconst 0, 1) := by decide +kernel
theorem dX3_isToCopy_52 : decode cX3_isToCopy 52 = .ok (.ireturn, 1) := by decide +kernel
theorem dX3_areKeys_0 : decode cX3_areKeys 0 = .ok (.iload_n 2, 1) := by decide +kernel
theorem dX3_areKeys_1 : decode cX3_areKeys 1 = .ok (.ifCond .lt 9, 3) := by decide +kernel
theorem dX3_areKeys_4 : decode cX3_areKeys 4 = .ok (.iload_n 2, 1) := by decide +kernel
theorem dX3_areKeys_5 : decode cX3_areKeys 5 = .ok (.bipush 6, 2) := by decide +kernel
theorem dX3_areKeys_7 : decode cX3_areKeys 7 = .ok (.if_icmp .le 5, 3) := by decide +kernel
theorem dX3_areKeys_10 : decode cX3_areKeys 10 = .ok (.iconst 0, 1) := by decide +kernel
theorem dX3_areKeys_11 : decode cX3_areKeys 11 = .ok (.ireturn, 1) := by decide +kernel
theorem dX3_areKeys_12 : decode cX3_areKeys 12 = .ok (.iconst 0, 1) := by decide +kernel
theorem dX3_areKeys_13 : decode cX3_areKeys 13 = .ok (.istore_n 3, 1) := by decide +kernel
theorem dX3_areKeys_14 : decode cX3_areKeys 14 = .ok (.iload_n 3, 1) := by decide +kernel
theorem dX3_areKeys_15 : decode cX3_areKeys 15 = .ok (.iload_n 2, 1) := by decide +kernel
theorem dX3_areKeys_16 : decode cX3_areKeys 16 = .ok (.if_icmp .ge 22, 3) := by decide +kernel
theorem dX3_areKeys_19 : decode cX3_areKeys 19 = .ok (.aload_n 0, 1) := by decide +kernel
theorem dX3_areKeys_20 : decode cX3_areKeys 20 = .ok (.iload_n 1, 1) := by decide +kernel
theorem dX3_areKeys_21 : decode cX3_areKeys 21 = .ok (.iload_n 3, 1) := by decide +kernel
theorem dX3_areKeys_22 : decode cX3_areKeys 22 = .ok (.iadd, 1) := by decide +kernel
theorem dX3_areKeys_23 : decode cX3_areKeys 23 = .ok (.baload, 1) := by decide +kernel
theorem dX3_areKeys_24 : decode cX3_areKeys 24 = .ok (.invokestatic 81, 3) := by decide +kernel
theorem dX3_areKeys_27 : decode cX3_areKeys 27 = .ok (.ifCond .ne 5, 3) := by decide +kernel
theorem dX3_areKeys_30 : decode cX3_areKeys 30 = .ok (.iconst 0, 1) := by decide +kernel
theorem dX3_areKeys_31 : decode cX3_areKeys 31 = .ok (.ireturn, 1) := by decide +kernel
theorem dX3_areKeys_32 : decode cX3_areKeys 32 = .ok (.iinc 3 1, 3) := by decide +kernel
theorem dX3_areKeys_35 : decode cX3_areKeys 35 = .ok (.goto (-21), 3) := by decide +kernel
theorem dX3_areKeys_38 : decode cX3_areKeys 38 = .ok (.iconst 1, 1) := by decide +kernel
theorem dX3_areKeys_39 : decode cX3_areKeys 39 = .ok (.ireturn, 1) := by decide +kernel
theorem dX3_isRow_0 : decode cX3_isRow 0 = .ok (.aload_n 0, 1) := by decide +kernel
theorem dX3_isRow_1 : decode cX3_isRow 1 = .ok (.iload_n 1, 1) := by decide +kernel
theorem dX3_isRow_2 : decode cX3_isRow 2 = .ok (.baload, 1) := by decide +kernel
theorem dX3_isRow_3 : decode cX3_isRow 3 = .ok (.istore_n 3, 1) := by decide +kernel
theorem dX3_isRow_4 : decode cX3_isRow 4 = .ok (.aload_n 0, 1) := by decide +kernel
theorem dX3_isRow_5 : decode cX3_isRow 5 = .ok (.iload_n 1, 1) := by decide +kernel
theorem dX3_isRow_6 : decode cX3_isRow 6 = .ok (.iconst 1, 1) := by decide +kernel
theorem dX3_isRow_7 : decode cX3_isRow 7 = .ok (.iadd, 1) := by decide +kernel
theorem dX3_isRow_8 : decode cX3_isRow 8 = .ok (.baload, 1) := by decide +kernel
theorem dX3_isRow_9 : decode cX3_isRow 9 = .ok (.istore 4, 2) := by decide +kernel
theorem dX3_isRow_11 : decode cX3_isRow 11 = .ok (.aload_n 0, 1) := by decide +kernel
theorem dX3_isRow_12 : decode cX3_isRow 12 = .ok (.iload_n 1, 1) := by decide +kernel
theorem dX3_isRow_13 : decode cX3_isRow 13 = .ok (.iconst 2, 1) := by decide +kernel
theorem dX3_isRow_14 : decode cX3_isRow 14 = .ok (.iadd, 1) := by decide +kernel
theorem dX3_isRow_15 : decode cX3_isRow 15 = .ok (.baload, 1) := by decide +kernel
theorem dX3_isRow_16 : decode cX3_isRow 16 = .ok (.istore 5, 2) := by decide +kernel
theorem dX3_isRow_18 : decode cX3_isRow 18 = .ok (.iload_n 3, 1) := by decide +kernel
theorem dX3_isRow_19 : decode cX3_isRow 19 = .ok (.iconst 1, 1) := by decide +kernel
theorem dX3_isRow_20 : decode cX3_isRow 20 = .ok (.if_icmp .ne 25, 3) := by decide +kernel
theorem dX3_isRow_23 : decode cX3_isRow 23 = .ok (.iload 4, 2) := by decide +kernel
theorem dX3_isRow_25 : decode cX3_isRow 25 = .ok (.invokestatic 81, 3) := by decide +kernel
theorem dX3_isRow_28 : decode cX3_isRow 28 = .ok (.ifCond .eq 15, 3) := by decide +kernel
theorem dX3_isRow_31 : decode cX3_isRow 31 = .ok (.aload_n 0, 1) := by decide +kernel
theorem dX3_isRow_32 : decode cX3_isRow 32 = .ok (.iload_n 1, 1) := by decide +kernel
theorem dX3_isRow_33 : decode cX3_isRow 33 = .ok (.iconst 3, 1) := by decide +kernel
theorem dX3_isRow_34 : decode cX3_isRow 34 = .ok (.iadd, 1) := by decide +kernel
theorem dX3_isRow_35 : decode cX3_isRow 35 = .ok (.iload 5, 2) := by decide +kernel
theorem dX3_isRow_37 : decode cX3_isRow 37 = .ok (.invokestatic 84, 3) := by decide +kernel
theorem dX3_isRow_40 : decode cX3_isRow 40 = .ok (.ifCond .ne 30, 3) := by decide +kernel
theorem dX3_isRow_43 : decode cX3_isRow 43 = .ok (.iconst 0, 1) := by decide +kernel
theorem dX3_isRow_44 : decode cX3_isRow 44 = .ok (.ireturn, 1) := by decide +kernel
theorem dX3_isRow_45 : decode cX3_isRow 45 = .ok (.iload_n 3, 1) := by decide +kernel
theorem dX3_isRow_46 : decode cX3_isRow 46 = .ok (.iconst 2, 1) := by decide +kernel
theorem dX3_isRow_47 : decode cX3_isRow 47 = .ok (.if_icmp .eq 8, 3) := by decide +kernel
theorem dX3_isRow_50 : decode cX3_isRow 50 = .ok (.iload_n 3, 1) := by decide +kernel
theorem dX3_isRow_51 : decode cX3_isRow 51 = .ok (.iconst 3, 1) := by decide +kernel
theorem dX3_isRow_52 : decode cX3_isRow 52 = .ok (.if_icmp .ne 16, 3) := by decide +kernel
theorem dX3_isRow_55 : decode cX3_isRow 55 = .ok (.iload 4, 2) := by decide +kernel
theorem dX3_isRow_57 : decode cX3_isRow 57 = .ok (.invokestatic 87, 3) := by decide +kernel
theorem dX3_isRow_60 : decode cX3_isRow 60 = .ok (.ifCond .eq 8, 3) := by decide +kernel
theorem dX3_isRow_63 : decode cX3_isRow 63 = .ok (.iload 5, 2) := by decide +kernel
theorem dX3_isRow_65 : decode cX3_isRow 65 = .ok (.ifCond .eq 5, 3) := by decide +kernel
theorem dX3_isRow_68 : decode cX3_isRow 68 = .ok (.iconst 0, 1) := by decide +kernel
theorem dX3_isRow_69 : decode cX3_isRow 69 = .ok (.ireturn, 1) := by decide +kernel
theorem dX3_isRow_70 : decode cX3_isRow 70 = .ok (.aload_n 0, 1) := by decide +kernel
theorem dX3_isRow_71 : decode cX3_isRow 71 = .ok (.iload_n 1, 1) := by decide +kernel
theorem dX3_isRow_72 : decode cX3_isRow 72 = .ok (.bipush 28, 2) := by decide +kernel
theorem dX3_isRow_74 : decode cX3_isRow 74 = .ok (.iload_n 2, 1) := by decide +kernel
theorem dX3_isRow_75 : decode cX3_isRow 75 = .ok (.invokestatic 90, 3) := by decide +kernel
theorem dX3_isRow_78 : decode cX3_isRow 78 = .ok (.ireturn, 1) := by decide +kernel
theorem dX3_readRow_0 : decode cX3_readRow 0 = .ok (.aload_n 0, 1) := by decide +kernel
theorem dX3_readRow_1 : decode cX3_readRow 1 = .ok (.getfield 9, 3) := by decide +kernel
theorem dX3_readRow_4 : decode cX3_readRow 4 = .ok (.iload_n 3, 1) := by decide +kernel
theorem dX3_readRow_5 : decode cX3_readRow 5 = .ok (.aload_n 1, 1) := by decide +kernel
theorem dX3_readRow_6 : decode cX3_readRow 6 = .ok (.iload_n 2, 1) := by decide +kernel
theorem dX3_readRow_7 : decode cX3_readRow 7 = .ok (.baload, 1) := by decide +kernel
theorem dX3_readRow_8 : decode cX3_readRow 8 = .ok (.iastore, 1) := by decide +kernel
theorem dX3_readRow_9 : decode cX3_readRow 9 = .ok (.aload_n 0, 1) := by decide +kernel
theorem dX3_readRow_10 : decode cX3_readRow 10 = .ok (.getfield 15, 3) := by decide +kernel
theorem dX3_readRow_13 : decode cX3_readRow 13 = .ok (.iload_n 3, 1) := by decide +kernel
theorem dX3_readRow_14 : decode cX3_readRow 14 = .ok (.aload_n 1, 1) := by decide +kernel
theorem dX3_readRow_15 : decode cX3_readRow 15 = .ok (.iload_n 2, 1) := by decide +kernel
theorem dX3_readRow_16 : decode cX3_readRow 16 = .ok (.iconst 1, 1) := by decide +kernel
theorem dX3_readRow_17 : decode cX3_readRow 17 = .ok (.iadd, 1) := by decide +kernel
theorem dX3_readRow_18 : decode cX3_readRow 18 = .ok (.baload, 1) := by decide +kernel
theorem dX3_readRow_19 : decode cX3_readRow 19 = .ok (.iastore, 1) := by decide +kernel
theorem dX3_readRow_20 : decode cX3_readRow 20 = .ok (.aload_n 0, 1) := by decide +kernel
theorem dX3_readRow_21 : decode cX3_readRow 21 = .ok (.getfield 18, 3) := by decide +kernel
theorem dX3_readRow_24 : decode cX3_readRow 24 = .ok (.iload_n 3, 1) := by decide +kernel
theorem dX3_readRow_25 : decode cX3_readRow 25 = .ok (.aload_n 1, 1) := by decide +kernel
theorem dX3_readRow_26 : decode cX3_readRow 26 = .ok (.iload_n 2, 1) := by decide +kernel
theorem dX3_readRow_27 : decode cX3_readRow 27 = .ok (.iconst 2, 1) := by decide +kernel
theorem dX3_readRow_28 : decode cX3_readRow 28 = .ok (.iadd, 1) := by decide +kernel
theorem dX3_readRow_29 : decode cX3_readRow 29 = .ok (.baload, 1) := by decide +kernel
theorem dX3_readRow_30 : decode cX3_readRow 30 = .ok (.iastore, 1) := by decide +kernel
theorem dX3_readRow_31 : decode cX3_readRow 31 = .ok (.iconst 0, 1) := by decide +kernel
theorem dX3_readRow_32 : decode cX3_readRow 32 = .ok (.istore 4, 2) := by decide +kernel
theorem dX3_readRow_34 : decode cX3_readRow 34 = .ok (.iload 4, 2) := by decide +kernel
theorem dX3_readRow_36 : decode cX3_readRow 36 = .ok (.bipush 6, 2) := by decide +kernel
theorem dX3_readRow_38 : decode cX3_readRow 38 = .ok (.if_icmp .ge 29, 3) := by decide +kernel
theorem dX3_readRow_41 : decode cX3_readRow 41 = .ok (.aload_n 0, 1) := by decide +kernel
theorem dX3_readRow_42 : decode cX3_readRow 42 = .ok (.getfield 21, 3) := by decide +kernel
theorem dX3_readRow_45 : decode cX3_readRow 45 = .ok (.iload_n 3, 1) := by decide +kernel
theorem dX3_readRow_46 : decode cX3_readRow 46 = .ok (.bipush 6, 2) := by decide +kernel
theorem dX3_readRow_48 : decode cX3_readRow 48 = .ok (.imul, 1) := by decide +kernel
theorem dX3_readRow_49 : decode cX3_readRow 49 = .ok (.iload 4, 2) := by decide +kernel
theorem dX3_readRow_51 : decode cX3_readRow 51 = .ok (.iadd, 1) := by decide +kernel
theorem dX3_readRow_52 : decode cX3_readRow 52 = .ok (.aload_n 1, 1) := by decide +kernel
theorem dX3_readRow_53 : decode cX3_readRow 53 = .ok (.iload_n 2, 1) := by decide +kernel
theorem dX3_readRow_54 : decode cX3_readRow 54 = .ok (.iconst 3, 1) := by decide +kernel
theorem dX3_readRow_55 : decode cX3_readRow 55 = .ok (.iadd, 1) := by decide +kernel
theorem dX3_readRow_56 : decode cX3_readRow 56 = .ok (.iload 4, 2) := by decide +kernel
theorem dX3_readRow_58 : decode cX3_readRow 58 = .ok (.iadd, 1) := by decide +kernel
theorem dX3_readRow_59 : decode cX3_readRow 59 = .ok (.baload, 1) := by decide +kernel
theorem dX3_readRow_60 : decode cX3_readRow 60 = .ok (.iastore, 1) := by decide +kernel
theorem dX3_readRow_61 : decode cX3_readRow 61 = .ok (.iinc 4 1, 3) := by decide +kernel
theorem dX3_readRow_64 : decode cX3_readRow 64 = .ok (.goto (-30), 3) := by decide +kernel
theorem dX3_readRow_67 : decode cX3_readRow 67 = .ok (.aload_n 0, 1) := by decide +kernel
theorem dX3_readRow_68 : decode cX3_readRow 68 = .ok (.getfield 24, 3) := by decide +kernel
theorem dX3_readRow_71 : decode cX3_readRow 71 = .ok (.iload_n 3, 1) := by decide +kernel
theorem dX3_readRow_72 : decode cX3_readRow 72 = .ok (.aload_n 0, 1) := by decide +kernel
theorem dX3_readRow_73 : decode cX3_readRow 73 = .ok (.getfield 9, 3) := by decide +kernel
theorem dX3_readRow_76 : decode cX3_readRow 76 = .ok (.iload_n 3, 1) := by decide +kernel
theorem dX3_readRow_77 : decode cX3_readRow 77 = .ok (.iaload, 1) := by decide +kernel
theorem dX3_readRow_78 : decode cX3_readRow 78 = .ok (.iconst 1, 1) := by decide +kernel
theorem dX3_readRow_79 : decode cX3_readRow 79 = .ok (.if_icmp .ne 16, 3) := by decide +kernel
theorem dX3_readRow_82 : decode cX3_readRow 82 = .ok (.aload_n 1, 1) := by decide +kernel
theorem dX3_readRow_83 : decode cX3_readRow 83 = .ok (.iload_n 2, 1) := by decide +kernel
theorem dX3_readRow_84 : decode cX3_readRow 84 = .ok (.bipush 16, 2) := by decide +kernel
theorem dX3_readRow_86 : decode cX3_readRow 86 = .ok (.iadd, 1) := by decide +kernel
theorem dX3_readRow_87 : decode cX3_readRow 87 = .ok (.bipush 8, 2) := by decide +kernel
theorem dX3_readRow_89 : decode cX3_readRow 89 = .ok (.invokestatic 94, 3) := by decide +kernel
theorem dX3_readRow_92 : decode cX3_readRow 92 = .ok (.goto 4, 3) := by decide +kernel
theorem dX3_readRow_95 : decode cX3_readRow 95 = .ok (.lconst 0, 1) := by decide +kernel
theorem dX3_readRow_96 : decode cX3_readRow 96 = .ok (.lastore, 1) := by decide +kernel
theorem dX3_readRow_97 : decode cX3_readRow 97 = .ok (.return_, 1) := by decide +kernel
theorem dX3_read_0 : decode cX3_read 0 = .ok (.aload_n 0, 1) := by decide +kernel
theorem dX3_read_1 : decode cX3_read 1 = .ok (.iconst 0, 1) := by decide +kernel
theorem dX3_read_2 : decode cX3_read 2 = .ok (.putfield 31, 3) := by decide +kernel
theorem dX3_read_5 : decode cX3_read 5 = .ok (.iconst 0, 1) := by decide +kernel
theorem dX3_read_6 : decode cX3_read 6 = .ok (.istore_n 3, 1) := by decide +kernel
theorem dX3_read_7 : decode cX3_read 7 = .ok (.iload_n 3, 1) := by decide +kernel
theorem dX3_read_8 : decode cX3_read 8 = .ok (.aload_n 0, 1) := by decide +kernel
theorem dX3_read_9 : decode cX3_read 9 = .ok (.getfield 9, 3) := by decide +kernel
theorem dX3_read_12 : decode cX3_read 12 = .ok (.arraylength, 1) := by decide +kernel
theorem dX3_read_13 : decode cX3_read 13 = .ok (.if_icmp .ge 52, 3) := by decide +kernel
theorem dX3_read_16 : decode cX3_read 16 = .ok (.iload_n 2, 1) := by decide +kernel
theorem dX3_read_17 : decode cX3_read 17 = .ok (.iload_n 3, 1) := by decide +kernel
theorem dX3_read_18 : decode cX3_read 18 = .ok (.bipush 32, 2) := by decide +kernel
theorem dX3_read_20 : decode cX3_read 20 = .ok (.imul, 1) := by decide +kernel
theorem dX3_read_21 : decode cX3_read 21 = .ok (.iadd, 1) := by decide +kernel
theorem dX3_read_22 : decode cX3_read 22 = .ok (.istore 4, 2) := by decide +kernel
theorem dX3_read_24 : decode cX3_read 24 = .ok (.aload_n 1, 1) := by decide +kernel
theorem dX3_read_25 : decode cX3_read 25 = .ok (.iload 4, 2) := by decide +kernel
theorem dX3_read_27 : decode cX3_read 27 = .ok (.iload_n 3, 1) := by decide +kernel
theorem dX3_read_28 : decode cX3_read 28 = .ok (.invokestatic 51, 3) := by decide +kernel
theorem dX3_read_31 : decode cX3_read 31 = .ok (.ifCond .eq 21, 3) := by decide +kernel
theorem dX3_read_34 : decode cX3_read 34 = .ok (.aload_n 0, 1) := by decide +kernel
theorem dX3_read_35 : decode cX3_read 35 = .ok (.aload_n 1, 1) := by decide +kernel
theorem dX3_read_36 : decode cX3_read 36 = .ok (.iload 4, 2) := by decide +kernel
theorem dX3_read_38 : decode cX3_read 38 = .ok (.iload_n 3, 1) := by decide +kernel
theorem dX3_read_39 : decode cX3_read 39 = .ok (.invokevirtual 55, 3) := by decide +kernel
theorem dX3_read_42 : decode cX3_read 42 = .ok (.aload_n 0, 1) := by decide +kernel
theorem dX3_read_43 : decode cX3_read 43 = .ok (.iload_n 3, 1) := by decide +kernel
theorem dX3_read_44 : decode cX3_read 44 = .ok (.iconst 1, 1) := by decide +kernel
theorem dX3_read_45 : decode cX3_read 45 = .ok (.iadd, 1) := by decide +kernel
theorem dX3_read_46 : decode cX3_read 46 = .ok (.putfield 31, 3) := by decide +kernel
theorem dX3_read_49 : decode cX3_read 49 = .ok (.goto 10, 3) := by decide +kernel
theorem dX3_read_52 : decode cX3_read 52 = .ok (.aload_n 0, 1) := by decide +kernel
theorem dX3_read_53 : decode cX3_read 53 = .ok (.getfield 9, 3) := by decide +kernel
theorem dX3_read_56 : decode cX3_read 56 = .ok (.iload_n 3, 1) := by decide +kernel
theorem dX3_read_57 : decode cX3_read 57 = .ok (.iconst 0, 1) := by decide +kernel
theorem dX3_read_58 : decode cX3_read 58 = .ok (.iastore, 1) := by decide +kernel
theorem dX3_read_59 : decode cX3_read 59 = .ok (.iinc 3 1, 3) := by decide +kernel
theorem dX3_read_62 : decode cX3_read 62 = .ok (.goto (-55), 3) := by decide +kernel
theorem dX3_read_65 : decode cX3_read 65 = .ok (.aload_n 0, 1) := by decide +kernel
theorem dX3_read_66 : decode cX3_read 66 = .ok (.invokevirtual 48, 3) := by decide +kernel
theorem dX3_read_69 : decode cX3_read 69 = .ok (.return_, 1) := by decide +kernel
theorem dX3_append_0 : decode cX3_append 0 = .ok (.aload_n 0, 1) := by decide +kernel
theorem dX3_append_1 : decode cX3_append 1 = .ok (.getfield 31, 3) := by decide +kernel
theorem dX3_append_4 : decode cX3_append 4 = .ok (.istore 5, 2) := by decide +kernel
theorem dX3_append_6 : decode cX3_append 6 = .ok (.aload_n 0, 1) := by decide +kernel
theorem dX3_append_7 : decode cX3_append 7 = .ok (.getfield 9, 3) := by decide +kernel
theorem dX3_append_10 : decode cX3_append 10 = .ok (.iload 5, 2) := by decide +kernel
theorem dX3_append_12 : decode cX3_append 12 = .ok (.iload_n 1, 1) := by decide +kernel
theorem dX3_append_13 : decode cX3_append 13 = .ok (.iastore, 1) := by decide +kernel
theorem dX3_append_14 : decode cX3_append 14 = .ok (.aload_n 0, 1) := by decide +kernel
theorem dX3_append_15 : decode cX3_append 15 = .ok (.getfield 15, 3) := by decide +kernel
theorem dX3_append_18 : decode cX3_append 18 = .ok (.iload 5, 2) := by decide +kernel
theorem dX3_append_20 : decode cX3_append 20 = .ok (.iload_n 2, 1) := by decide +kernel
theorem dX3_append_21 : decode cX3_append 21 = .ok (.iastore, 1) := by decide +kernel
theorem dX3_append_22 : decode cX3_append 22 = .ok (.aload_n 0, 1) := by decide +kernel
theorem dX3_append_23 : decode cX3_append 23 = .ok (.getfield 18, 3) := by decide +kernel
theorem dX3_append_26 : decode cX3_append 26 = .ok (.iload 5, 2) := by decide +kernel
theorem dX3_append_28 : decode cX3_append 28 = .ok (.iconst 0, 1) := by decide +kernel
theorem dX3_append_29 : decode cX3_append 29 = .ok (.iastore, 1) := by decide +kernel
theorem dX3_append_30 : decode cX3_append 30 = .ok (.aload_n 0, 1) := by decide +kernel
theorem dX3_append_31 : decode cX3_append 31 = .ok (.getfield 24, 3) := by decide +kernel
theorem dX3_append_34 : decode cX3_append 34 = .ok (.iload 5, 2) := by decide +kernel
theorem dX3_append_36 : decode cX3_append 36 = .ok (.lload_n 3, 1) := by decide +kernel
theorem dX3_append_37 : decode cX3_append 37 = .ok (.lastore, 1) := by decide +kernel
theorem dX3_append_38 : decode cX3_append 38 = .ok (.aload_n 0, 1) := by decide +kernel
theorem dX3_append_39 : decode cX3_append 39 = .ok (.dup, 1) := by decide +kernel
theorem dX3_append_40 : decode cX3_append 40 = .ok (.getfield 31, 3) := by decide +kernel
theorem dX3_append_43 : decode cX3_append 43 = .ok (.iconst 1, 1) := by decide +kernel
theorem dX3_append_44 : decode cX3_append 44 = .ok (.iadd, 1) := by decide +kernel
theorem dX3_append_45 : decode cX3_append 45 = .ok (.putfield 31, 3) := by decide +kernel
theorem dX3_append_48 : decode cX3_append 48 = .ok (.aload_n 0, 1) := by decide +kernel
theorem dX3_append_49 : decode cX3_append 49 = .ok (.iload 5, 2) := by decide +kernel
theorem dX3_append_51 : decode cX3_append 51 = .ok (.invokevirtual 59, 3) := by decide +kernel
theorem dX3_append_54 : decode cX3_append 54 = .ok (.iload 5, 2) := by decide +kernel
theorem dX3_append_56 : decode cX3_append 56 = .ok (.ireturn, 1) := by decide +kernel
theorem dX3_addAsk_0 : decode cX3_addAsk 0 = .ok (.aload_n 0, 1) := by decide +kernel
theorem dX3_addAsk_1 : decode cX3_addAsk 1 = .ok (.getfield 21, 3) := by decide +kernel
theorem dX3_addAsk_4 : decode cX3_addAsk 4 = .ok (.iload_n 1, 1) := by decide +kernel
theorem dX3_addAsk_5 : decode cX3_addAsk 5 = .ok (.bipush 6, 2) := by decide +kernel
theorem dX3_addAsk_7 : decode cX3_addAsk 7 = .ok (.imul, 1) := by decide +kernel
theorem dX3_addAsk_8 : decode cX3_addAsk 8 = .ok (.aload_n 0, 1) := by decide +kernel
theorem dX3_addAsk_9 : decode cX3_addAsk 9 = .ok (.getfield 18, 3) := by decide +kernel
theorem dX3_addAsk_12 : decode cX3_addAsk 12 = .ok (.iload_n 1, 1) := by decide +kernel
theorem dX3_addAsk_13 : decode cX3_addAsk 13 = .ok (.iaload, 1) := by decide +kernel
theorem dX3_addAsk_14 : decode cX3_addAsk 14 = .ok (.iadd, 1) := by decide +kernel
theorem dX3_addAsk_15 : decode cX3_addAsk 15 = .ok (.iload_n 2, 1) := by decide +kernel
theorem dX3_addAsk_16 : decode cX3_addAsk 16 = .ok (.iastore, 1) := by decide +kernel
theorem dX3_addAsk_17 : decode cX3_addAsk 17 = .ok (.aload_n 0, 1) := by decide +kernel
theorem dX3_addAsk_18 : decode cX3_addAsk 18 = .ok (.getfield 18, 3) := by decide +kernel
theorem dX3_addAsk_21 : decode cX3_addAsk 21 = .ok (.iload_n 1, 1) := by decide +kernel
theorem dX3_addAsk_22 : decode cX3_addAsk 22 = .ok (.dup2, 1) := by decide +kernel
theorem dX3_addAsk_23 : decode cX3_addAsk 23 = .ok (.iaload, 1) := by decide +kernel
theorem dX3_addAsk_24 : decode cX3_addAsk 24 = .ok (.iconst 1, 1) := by decide +kernel
theorem dX3_addAsk_25 : decode cX3_addAsk 25 = .ok (.iadd, 1) := by decide +kernel
theorem dX3_addAsk_26 : decode cX3_addAsk 26 = .ok (.iastore, 1) := by decide +kernel
theorem dX3_addAsk_27 : decode cX3_addAsk 27 = .ok (.return_, 1) := by decide +kernel
theorem dX3_move_0 : decode cX3_move 0 = .ok (.aload_n 0, 1) := by decide +kernel
theorem dX3_move_1 : decode cX3_move 1 = .ok (.getfield 9, 3) := by decide +kernel
theorem dX3_move_4 : decode cX3_move 4 = .ok (.iload_n 2, 1) := by decide +kernel
theorem dX3_move_5 : decode cX3_move 5 = .ok (.aload_n 0, 1) := by decide +kernel
theorem dX3_move_6 : decode cX3_move 6 = .ok (.getfield 9, 3) := by decide +kernel
theorem dX3_move_9 : decode cX3_move 9 = .ok (.iload_n 1, 1) := by decide +kernel
theorem dX3_move_10 : decode cX3_move 10 = .ok (.iaload, 1) := by decide +kernel
theorem dX3_move_11 : decode cX3_move 11 = .ok (.iastore, 1) := by decide +kernel
theorem dX3_move_12 : decode cX3_move 12 = .ok (.aload_n 0, 1) := by decide +kernel
theorem dX3_move_13 : decode cX3_move 13 = .ok (.getfield 15, 3) := by decide +kernel
theorem dX3_move_16 : decode cX3_move 16 = .ok (.iload_n 2, 1) := by decide +kernel
theorem dX3_move_17 : decode cX3_move 17 = .ok (.aload_n 0, 1) := by decide +kernel
theorem dX3_move_18 : decode cX3_move 18 = .ok (.getfield 15, 3) := by decide +kernel
theorem dX3_move_21 : decode cX3_move 21 = .ok (.iload_n 1, 1) := by decide +kernel
theorem dX3_move_22 : decode cX3_move 22 = .ok (.iaload, 1) := by decide +kernel
theorem dX3_move_23 : decode cX3_move 23 = .ok (.iastore, 1) := by decide +kernel
theorem dX3_move_24 : decode cX3_move 24 = .ok (.aload_n 0, 1) := by decide +kernel
theorem dX3_move_25 : decode cX3_move 25 = .ok (.getfield 18, 3) := by decide +kernel
theorem dX3_move_28 : decode cX3_move 28 = .ok (.iload_n 2, 1) := by decide +kernel
theorem dX3_move_29 : decode cX3_move 29 = .ok (.aload_n 0, 1) := by decide +kernel
theorem dX3_move_30 : decode cX3_move 30 = .ok (.getfield 18, 3) := by decide +kernel
theorem dX3_move_33 : decode cX3_move 33 = .ok (.iload_n 1, 1) := by decide +kernel
theorem dX3_move_34 : decode cX3_move 34 = .ok (.iaload, 1) := by decide +kernel
theorem dX3_move_35 : decode cX3_move 35 = .ok (.iastore, 1) := by decide +kernel
theorem dX3_move_36 : decode cX3_move 36 = .ok (.iconst 0, 1) := by decide +kernel
theorem dX3_move_37 : decode cX3_move 37 = .ok (.istore_n 3, 1) := by decide +kernel
theorem dX3_move_38 : decode cX3_move 38 = .ok (.iload_n 3, 1) := by decide +kernel
theorem dX3_move_39 : decode cX3_move 39 = .ok (.bipush 6, 2) := by decide +kernel
theorem dX3_move_41 : decode cX3_move 41 = .ok (.if_icmp .ge 31, 3) := by decide +kernel
theorem dX3_move_44 : decode cX3_move 44 = .ok (.aload_n 0, 1) := by decide +kernel
theorem dX3_move_45 : decode cX3_move 45 = .ok (.getfield 21, 3) := by decide +kernel
theorem dX3_move_48 : decode cX3_move 48 = .ok (.iload_n 2, 1) := by decide +kernel
theorem dX3_move_49 : decode cX3_move 49 = .ok (.bipush 6, 2) := by decide +kernel
theorem dX3_move_51 : decode cX3_move 51 = .ok (.imul, 1) := by decide +kernel
theorem dX3_move_52 : decode cX3_move 52 = .ok (.iload_n 3, 1) := by decide +kernel
theorem dX3_move_53 : decode cX3_move 53 = .ok (.iadd, 1) := by decide +kernel
theorem dX3_move_54 : decode cX3_move 54 = .ok (.aload_n 0, 1) := by decide +kernel
theorem dX3_move_55 : decode cX3_move 55 = .ok (.getfield 21, 3) := by decide +kernel
theorem dX3_move_58 : decode cX3_move 58 = .ok (.iload_n 1, 1) := by decide +kernel
theorem dX3_move_59 : decode cX3_move 59 = .ok (.bipush 6, 2) := by decide +kernel
theorem dX3_move_61 : decode cX3_move 61 = .ok (.imul, 1) := by decide +kernel
theorem dX3_move_62 : decode cX3_move 62 = .ok (.iload_n 3, 1) := by decide +kernel
theorem dX3_move_63 : decode cX3_move 63 = .ok (.iadd, 1) := by decide +kernel
theorem dX3_move_64 : decode cX3_move 64 = .ok (.iaload, 1) := by decide +kernel
theorem dX3_move_65 : decode cX3_move 65 = .ok (.iastore, 1) := by decide +kernel
theorem dX3_move_66 : decode cX3_move 66 = .ok (.iinc 3 1, 3) := by decide +kernel
theorem dX3_move_69 : decode cX3_move 69 = .ok (.goto (-31), 3) := by decide +kernel
theorem dX3_move_72 : decode cX3_move 72 = .ok (.aload_n 0, 1) := by decide +kernel
theorem dX3_move_73 : decode cX3_move 73 = .ok (.getfield 24, 3) := by decide +kernel
theorem dX3_move_76 : decode cX3_move 76 = .ok (.iload_n 2, 1) := by decide +kernel
theorem dX3_move_77 : decode cX3_move 77 = .ok (.aload_n 0, 1) := by decide +kernel
theorem dX3_move_78 : decode cX3_move 78 = .ok (.getfield 24, 3) := by decide +kernel
theorem dX3_move_81 : decode cX3_move 81 = .ok (.iload_n 1, 1) := by decide +kernel
theorem dX3_move_82 : decode cX3_move 82 = .ok (.laload, 1) := by decide +kernel
theorem dX3_move_83 : decode cX3_move 83 = .ok (.lastore, 1) := by decide +kernel
theorem dX3_move_84 : decode cX3_move 84 = .ok (.return_, 1) := by decide +kernel
theorem dX3_keepOnly_0 : decode cX3_keepOnly 0 = .ok (.iconst 0, 1) := by decide +kernel
theorem dX3_keepOnly_1 : decode cX3_keepOnly 1 = .ok (.istore_n 3, 1) := by decide +kernel
theorem dX3_keepOnly_2 : decode cX3_keepOnly 2 = .ok (.iload_n 3, 1) := by decide +kernel
theorem dX3_keepOnly_3 : decode cX3_keepOnly 3 = .ok (.iload_n 2, 1) := by decide +kernel
theorem dX3_keepOnly_4 : decode cX3_keepOnly 4 = .ok (.if_icmp .ge 17, 3) := by decide +kernel
theorem dX3_keepOnly_7 : decode cX3_keepOnly 7 = .ok (.aload_n 0, 1) := by decide +kernel
theorem dX3_keepOnly_8 : decode cX3_keepOnly 8 = .ok (.aload_n 1, 1) := by decide +kernel
theorem dX3_keepOnly_9 : decode cX3_keepOnly 9 = .ok (.iload_n 3, 1) := by decide +kernel
theorem dX3_keepOnly_10 : decode cX3_keepOnly 10 = .ok (.iaload, 1) := by decide +kernel
theorem dX3_keepOnly_11 : decode cX3_keepOnly 11 = .ok (.iload_n 3, 1) := by decide +kernel
theorem dX3_keepOnly_12 : decode cX3_keepOnly 12 = .ok (.invokevirtual 63, 3) := by decide +kernel
theorem dX3_keepOnly_15 : decode cX3_keepOnly 15 = .ok (.iinc 3 1, 3) := by decide +kernel
theorem dX3_keepOnly_18 : decode cX3_keepOnly 18 = .ok (.goto (-16), 3) := by decide +kernel
theorem dX3_keepOnly_21 : decode cX3_keepOnly 21 = .ok (.aload_n 0, 1) := by decide +kernel
theorem dX3_keepOnly_22 : decode cX3_keepOnly 22 = .ok (.iload_n 2, 1) := by decide +kernel
theorem dX3_keepOnly_23 : decode cX3_keepOnly 23 = .ok (.putfield 31, 3) := by decide +kernel
theorem dX3_keepOnly_26 : decode cX3_keepOnly 26 = .ok (.aload_n 0, 1) := by decide +kernel
theorem dX3_keepOnly_27 : decode cX3_keepOnly 27 = .ok (.invokevirtual 48, 3) := by decide +kernel
theorem dX3_keepOnly_30 : decode cX3_keepOnly 30 = .ok (.return_, 1) := by decide +kernel
theorem dX3_write_0 : decode cX3_write 0 = .ok (.aload_n 0, 1) := by decide +kernel
theorem dX3_write_1 : decode cX3_write 1 = .ok (.getfield 18, 3) := by decide +kernel
theorem dX3_write_4 : decode cX3_write 4 = .ok (.iload_n 1, 1) := by decide +kernel
theorem dX3_write_5 : decode cX3_write 5 = .ok (.iaload, 1) := by decide +kernel
theorem dX3_write_6 : decode cX3_write 6 = .ok (.istore 5, 2) := by decide +kernel
theorem dX3_write_8 : decode cX3_write 8 = .ok (.iconst 0, 1) := by decide +kernel
theorem dX3_write_9 : decode cX3_write 9 = .ok (.istore 6, 2) := by decide +kernel
theorem dX3_write_11 : decode cX3_write 11 = .ok (.iload 6, 2) := by decide +kernel
theorem dX3_write_13 : decode cX3_write 13 = .ok (.bipush 32, 2) := by decide +kernel
theorem dX3_write_15 : decode cX3_write 15 = .ok (.if_icmp .ge 16, 3) := by decide +kernel
theorem dX3_write_18 : decode cX3_write 18 = .ok (.aload_n 2, 1) := by decide +kernel
theorem dX3_write_19 : decode cX3_write 19 = .ok (.iload_n 3, 1) := by decide +kernel
theorem dX3_write_20 : decode cX3_write 20 = .ok (.iload 6, 2) := by decide +kernel
theorem dX3_write_22 : decode cX3_write 22 = .ok (.iadd, 1) := by decide +kernel
theorem dX3_write_23 : decode cX3_write 23 = .ok (.iconst 0, 1) := by decide +kernel
theorem dX3_write_24 : decode cX3_write 24 = .ok (.bastore, 1) := by decide +kernel
theorem dX3_write_25 : decode cX3_write 25 = .ok (.iinc 6 1, 3) := by decide +kernel
theorem dX3_write_28 : decode cX3_write 28 = .ok (.goto (-17), 3) := by decide +kernel
theorem dX3_write_31 : decode cX3_write 31 = .ok (.aload_n 2, 1) := by decide +kernel
theorem dX3_write_32 : decode cX3_write 32 = .ok (.iload_n 3, 1) := by decide +kernel
theorem dX3_write_33 : decode cX3_write 33 = .ok (.aload_n 0, 1) := by decide +kernel
theorem dX3_write_34 : decode cX3_write 34 = .ok (.getfield 9, 3) := by decide +kernel
theorem dX3_write_37 : decode cX3_write 37 = .ok (.iload_n 1, 1) := by decide +kernel
theorem dX3_write_38 : decode cX3_write 38 = .ok (.iaload, 1) := by decide +kernel
theorem dX3_write_39 : decode cX3_write 39 = .ok (.i2b, 1) := by decide +kernel
theorem dX3_write_40 : decode cX3_write 40 = .ok (.bastore, 1) := by decide +kernel
theorem dX3_write_41 : decode cX3_write 41 = .ok (.aload_n 2, 1) := by decide +kernel
theorem dX3_write_42 : decode cX3_write 42 = .ok (.iload_n 3, 1) := by decide +kernel
theorem dX3_write_43 : decode cX3_write 43 = .ok (.iconst 1, 1) := by decide +kernel
theorem dX3_write_44 : decode cX3_write 44 = .ok (.iadd, 1) := by decide +kernel
theorem dX3_write_45 : decode cX3_write 45 = .ok (.aload_n 0, 1) := by decide +kernel
theorem dX3_write_46 : decode cX3_write 46 = .ok (.getfield 15, 3) := by decide +kernel
theorem dX3_write_49 : decode cX3_write 49 = .ok (.iload_n 1, 1) := by decide +kernel
theorem dX3_write_50 : decode cX3_write 50 = .ok (.iaload, 1) := by decide +kernel
theorem dX3_write_51 : decode cX3_write 51 = .ok (.i2b, 1) := by decide +kernel
theorem dX3_write_52 : decode cX3_write 52 = .ok (.bastore, 1) := by decide +kernel
theorem dX3_write_53 : decode cX3_write 53 = .ok (.aload_n 2, 1) := by decide +kernel
theorem dX3_write_54 : decode cX3_write 54 = .ok (.iload_n 3, 1) := by decide +kernel
theorem dX3_write_55 : decode cX3_write 55 = .ok (.iconst 2, 1) := by decide +kernel
theorem dX3_write_56 : decode cX3_write 56 = .ok (.iadd, 1) := by decide +kernel
theorem dX3_write_57 : decode cX3_write 57 = .ok (.iload 5, 2) := by decide +kernel
theorem dX3_write_59 : decode cX3_write 59 = .ok (.i2b, 1) := by decide +kernel
theorem dX3_write_60 : decode cX3_write 60 = .ok (.bastore, 1) := by decide +kernel
theorem dX3_write_61 : decode cX3_write 61 = .ok (.iconst 0, 1) := by decide +kernel
theorem dX3_write_62 : decode cX3_write 62 = .ok (.istore 6, 2) := by decide +kernel
theorem dX3_write_64 : decode cX3_write 64 = .ok (.iload 6, 2) := by decide +kernel
theorem dX3_write_66 : decode cX3_write 66 = .ok (.iload 5, 2) := by decide +kernel
theorem dX3_write_68 : decode cX3_write 68 = .ok (.if_icmp .ge 25, 3) := by decide +kernel
theorem dX3_write_71 : decode cX3_write 71 = .ok (.aload_n 2, 1) := by decide +kernel
theorem dX3_write_72 : decode cX3_write 72 = .ok (.iload_n 3, 1) := by decide +kernel
theorem dX3_write_73 : decode cX3_write 73 = .ok (.iconst 3, 1) := by decide +kernel
theorem dX3_write_74 : decode cX3_write 74 = .ok (.iadd, 1) := by decide +kernel
theorem dX3_write_75 : decode cX3_write 75 = .ok (.iload 6, 2) := by decide +kernel
theorem dX3_write_77 : decode cX3_write 77 = .ok (.iadd, 1) := by decide +kernel
theorem dX3_write_78 : decode cX3_write 78 = .ok (.aload_n 0, 1) := by decide +kernel
theorem dX3_write_79 : decode cX3_write 79 = .ok (.iload_n 1, 1) := by decide +kernel
theorem dX3_write_80 : decode cX3_write 80 = .ok (.iload 6, 2) := by decide +kernel
theorem dX3_write_82 : decode cX3_write 82 = .ok (.invokevirtual 67, 3) := by decide +kernel
theorem dX3_write_85 : decode cX3_write 85 = .ok (.i2b, 1) := by decide +kernel
theorem dX3_write_86 : decode cX3_write 86 = .ok (.bastore, 1) := by decide +kernel
theorem dX3_write_87 : decode cX3_write 87 = .ok (.iinc 6 1, 3) := by decide +kernel
theorem dX3_write_90 : decode cX3_write 90 = .ok (.goto (-26), 3) := by decide +kernel
theorem dX3_write_93 : decode cX3_write 93 = .ok (.aload_n 2, 1) := by decide +kernel
theorem dX3_write_94 : decode cX3_write 94 = .ok (.iload_n 3, 1) := by decide +kernel
theorem dX3_write_95 : decode cX3_write 95 = .ok (.bipush 16, 2) := by decide +kernel
theorem dX3_write_97 : decode cX3_write 97 = .ok (.iadd, 1) := by decide +kernel
theorem dX3_write_98 : decode cX3_write 98 = .ok (.bipush 8, 2) := by decide +kernel
theorem dX3_write_100 : decode cX3_write 100 = .ok (.aload_n 0, 1) := by decide +kernel
theorem dX3_write_101 : decode cX3_write 101 = .ok (.getfield 24, 3) := by decide +kernel
theorem dX3_write_104 : decode cX3_write 104 = .ok (.iload_n 1, 1) := by decide +kernel
theorem dX3_write_105 : decode cX3_write 105 = .ok (.laload, 1) := by decide +kernel
theorem dX3_write_106 : decode cX3_write 106 = .ok (.invokestatic 71, 3) := by decide +kernel
theorem dX3_write_109 : decode cX3_write 109 = .ok (.aload_n 2, 1) := by decide +kernel
theorem dX3_write_110 : decode cX3_write 110 = .ok (.iload_n 3, 1) := by decide +kernel
theorem dX3_write_111 : decode cX3_write 111 = .ok (.bipush 28, 2) := by decide +kernel
theorem dX3_write_113 : decode cX3_write 113 = .ok (.iload 4, 2) := by decide +kernel
theorem dX3_write_115 : decode cX3_write 115 = .ok (.invokestatic 77, 3) := by decide +kernel
theorem dX3_write_118 : decode cX3_write 118 = .ok (.return_, 1) := by decide +kernel
theorem dX0_waiting_0 : decode cX0_waiting 0 = .ok (.aload_n 0, 1) := by decide +kernel
theorem dX0_waiting_1 : decode cX0_waiting 1 = .ok (.getfield 27, 3) := by decide +kernel
theorem dX0_waiting_4 : decode cX0_waiting 4 = .ok (.ireturn, 1) := by decide +kernel
theorem dX0_latestWrite_0 : decode cX0_latestWrite 0 = .ok (.aload_n 0, 1) := by decide +kernel
theorem dX0_latestWrite_1 : decode cX0_latestWrite 1 = .ok (.getfield 27, 3) := by decide +kernel
theorem dX0_latestWrite_4 : decode cX0_latestWrite 4 = .ok (.iconst 1, 1) := by decide +kernel
theorem dX0_latestWrite_5 : decode cX0_latestWrite 5 = .ok (.isub, 1) := by decide +kernel
theorem dX0_latestWrite_6 : decode cX0_latestWrite 6 = .ok (.istore_n 2, 1) := by decide +kernel
theorem dX0_latestWrite_7 : decode cX0_latestWrite 7 = .ok (.iload_n 2, 1) := by decide +kernel
theorem dX0_latestWrite_8 : decode cX0_latestWrite 8 = .ok (.ifCond .lt 21, 3) := by decide +kernel
theorem dX0_latestWrite_11 : decode cX0_latestWrite 11 = .ok (.aload_n 0, 1) := by decide +kernel
theorem dX0_latestWrite_12 : decode cX0_latestWrite 12 = .ok (.getfield 23, 3) := by decide +kernel
theorem dX0_latestWrite_15 : decode cX0_latestWrite 15 = .ok (.iload_n 2, 1) := by decide +kernel
theorem dX0_latestWrite_16 : decode cX0_latestWrite 16 = .ok (.iaload, 1) := by decide +kernel
theorem dX0_latestWrite_17 : decode cX0_latestWrite 17 = .ok (.iload_n 1, 1) := by decide +kernel
theorem dX0_latestWrite_18 : decode cX0_latestWrite 18 = .ok (.if_icmp .ne 5, 3) := by decide +kernel
theorem dX0_latestWrite_21 : decode cX0_latestWrite 21 = .ok (.iload_n 2, 1) := by decide +kernel
theorem dX0_latestWrite_22 : decode cX0_latestWrite 22 = .ok (.ireturn, 1) := by decide +kernel
theorem dX0_latestWrite_23 : decode cX0_latestWrite 23 = .ok (.iinc 2 (-1), 3) := by decide +kernel
theorem dX0_latestWrite_26 : decode cX0_latestWrite 26 = .ok (.goto (-19), 3) := by decide +kernel
theorem dX0_latestWrite_29 : decode cX0_latestWrite 29 = .ok (.iconst (-1), 1) := by decide +kernel
theorem dX0_latestWrite_30 : decode cX0_latestWrite 30 = .ok (.ireturn, 1) := by decide +kernel
theorem dX0_waitAsItWillBe_0 : decode cX0_waitAsItWillBe 0 = .ok (.aload_n 0, 1) := by decide +kernel
theorem dX0_waitAsItWillBe_1 : decode cX0_waitAsItWillBe 1 = .ok (.getfield 27, 3) := by decide +kernel
theorem dX0_waitAsItWillBe_4 : decode cX0_waitAsItWillBe 4 = .ok (.bipush 64, 2) := by decide +kernel
theorem dX0_waitAsItWillBe_6 : decode cX0_waitAsItWillBe 6 = .ok (.if_icmp .lt 11, 3) := by decide +kernel
theorem dX0_waitAsItWillBe_9 : decode cX0_waitAsItWillBe 9 = .ok (.aload_n 0, 1) := by decide +kernel
theorem dX0_waitAsItWillBe_10 : decode cX0_waitAsItWillBe 10 = .ok (.bipush 64, 2) := by decide +kernel
theorem dX0_waitAsItWillBe_12 : decode cX0_waitAsItWillBe 12 = .ok (.iconst 0, 1) := by decide +kernel
theorem dX0_waitAsItWillBe_13 : decode cX0_waitAsItWillBe 13 = .ok (.invokevirtual 30, 3) := by decide +kernel
theorem dX0_waitAsItWillBe_16 : decode cX0_waitAsItWillBe 16 = .ok (.pop, 1) := by decide +kernel
theorem dX0_waitAsItWillBe_17 : decode cX0_waitAsItWillBe 17 = .ok (.aload_n 0, 1) := by decide +kernel
theorem dX0_waitAsItWillBe_18 : decode cX0_waitAsItWillBe 18 = .ok (.getfield 27, 3) := by decide +kernel
theorem dX0_waitAsItWillBe_21 : decode cX0_waitAsItWillBe 21 = .ok (.sipush 512, 3) := by decide +kernel
theorem dX0_waitAsItWillBe_24 : decode cX0_waitAsItWillBe 24 = .ok (.imul, 1) := by decide +kernel
theorem dX0_waitAsItWillBe_25 : decode cX0_waitAsItWillBe 25 = .ok (.istore_n 2, 1) := by decide +kernel
theorem dX0_waitAsItWillBe_26 : decode cX0_waitAsItWillBe 26 = .ok (.aload_n 0, 1) := by decide +kernel
theorem dX0_waitAsItWillBe_27 : decode cX0_waitAsItWillBe 27 = .ok (.iload_n 1, 1) := by decide +kernel
theorem dX0_waitAsItWillBe_28 : decode cX0_waitAsItWillBe 28 = .ok (.invokevirtual 38, 3) := by decide +kernel
theorem dX0_waitAsItWillBe_31 : decode cX0_waitAsItWillBe 31 = .ok (.istore_n 3, 1) := by decide +kernel
theorem dX0_waitAsItWillBe_32 : decode cX0_waitAsItWillBe 32 = .ok (.iload_n 3, 1) := by decide +kernel
theorem dX0_waitAsItWillBe_33 : decode cX0_waitAsItWillBe 33 = .ok (.iconst (-1), 1) := by decide +kernel
theorem dX0_waitAsItWillBe_34 : decode cX0_waitAsItWillBe 34 = .ok (.if_icmp .ne 26, 3) := by decide +kernel
theorem dX0_waitAsItWillBe_37 : decode cX0_waitAsItWillBe 37 = .ok (.aload_n 0, 1) := by decide +kernel
theorem dX0_waitAsItWillBe_38 : decode cX0_waitAsItWillBe 38 = .ok (.getfield 15, 3) := by decide +kernel
theorem dX0_waitAsItWillBe_41 : decode cX0_waitAsItWillBe 41 = .ok (.iload_n 1, 1) := by decide +kernel
theorem dX0_waitAsItWillBe_42 : decode cX0_waitAsItWillBe 42 = .ok (.sipush 512, 3) := by decide +kernel
theorem dX0_waitAsItWillBe_45 : decode cX0_waitAsItWillBe 45 = .ok (.imul, 1) := by decide +kernel
theorem dX0_waitAsItWillBe_46 : decode cX0_waitAsItWillBe 46 = .ok (.aload_n 0, 1) := by decide +kernel
theorem dX0_waitAsItWillBe_47 : decode cX0_waitAsItWillBe 47 = .ok (.getfield 20, 3) := by decide +kernel
theorem dX0_waitAsItWillBe_50 : decode cX0_waitAsItWillBe 50 = .ok (.iload_n 2, 1) := by decide +kernel
theorem dX0_waitAsItWillBe_51 : decode cX0_waitAsItWillBe 51 = .ok (.sipush 512, 3) := by decide +kernel
theorem dX0_waitAsItWillBe_54 : decode cX0_waitAsItWillBe 54 = .ok (.invokestatic 41, 3) := by decide +kernel
theorem dX0_waitAsItWillBe_57 : decode cX0_waitAsItWillBe 57 = .ok (.goto 23, 3) := by decide +kernel
theorem dX0_waitAsItWillBe_60 : decode cX0_waitAsItWillBe 60 = .ok (.aload_n 0, 1) := by decide +kernel
theorem dX0_waitAsItWillBe_61 : decode cX0_waitAsItWillBe 61 = .ok (.getfield 20, 3) := by decide +kernel
theorem dX0_waitAsItWillBe_64 : decode cX0_waitAsItWillBe 64 = .ok (.iload_n 3, 1) := by decide +kernel
theorem dX0_waitAsItWillBe_65 : decode cX0_waitAsItWillBe 65 = .ok (.sipush 512, 3) := by decide +kernel
theorem dX0_waitAsItWillBe_68 : decode cX0_waitAsItWillBe 68 = .ok (.imul, 1) := by decide +kernel
theorem dX0_waitAsItWillBe_69 : decode cX0_waitAsItWillBe 69 = .ok (.aload_n 0, 1) := by decide +kernel
theorem dX0_waitAsItWillBe_70 : decode cX0_waitAsItWillBe 70 = .ok (.getfield 20, 3) := by decide +kernel
theorem dX0_waitAsItWillBe_73 : decode cX0_waitAsItWillBe 73 = .ok (.iload_n 2, 1) := by decide +kernel
theorem dX0_waitAsItWillBe_74 : decode cX0_waitAsItWillBe 74 = .ok (.sipush 512, 3) := by decide +kernel
theorem dX0_waitAsItWillBe_77 : decode cX0_waitAsItWillBe 77 = .ok (.invokestatic 41, 3) := by decide +kernel
theorem dX0_waitAsItWillBe_80 : decode cX0_waitAsItWillBe 80 = .ok (.aload_n 0, 1) := by decide +kernel
theorem dX0_waitAsItWillBe_81 : decode cX0_waitAsItWillBe 81 = .ok (.iload_n 1, 1) := by decide +kernel
theorem dX0_waitAsItWillBe_82 : decode cX0_waitAsItWillBe 82 = .ok (.invokevirtual 34, 3) := by decide +kernel
theorem dX0_waitAsItWillBe_85 : decode cX0_waitAsItWillBe 85 = .ok (.ireturn, 1) := by decide +kernel
theorem dX1_editionAt_0 : decode cX1_editionAt 0 = .ok (.aload_n 0, 1) := by decide +kernel
theorem dX1_editionAt_1 : decode cX1_editionAt 1 = .ok (.iload_n 1, 1) := by decide +kernel
theorem dX1_editionAt_2 : decode cX1_editionAt 2 = .ok (.sipush 512, 3) := by decide +kernel
theorem dX1_editionAt_5 : decode cX1_editionAt 5 = .ok (.imul, 1) := by decide +kernel
theorem dX1_editionAt_6 : decode cX1_editionAt 6 = .ok (.iconst 4, 1) := by decide +kernel
theorem dX1_editionAt_7 : decode cX1_editionAt 7 = .ok (.invokestatic 19, 3) := by decide +kernel
theorem dX1_editionAt_10 : decode cX1_editionAt 10 = .ok (.lreturn, 1) := by decide +kernel
theorem dX4_has_0 : decode cX4_has 0 = .ok (.aload_n 0, 1) := by decide +kernel
theorem dX4_has_1 : decode cX4_has 1 = .ok (.getfield 9, 3) := by decide +kernel
theorem dX4_has_4 : decode cX4_has 4 = .ok (.iload_n 1, 1) := by decide +kernel
theorem dX4_has_5 : decode cX4_has 5 = .ok (.baload, 1) := by decide +kernel
theorem dX4_has_6 : decode cX4_has 6 = .ok (.ireturn, 1) := by decide +kernel
theorem dX4_digestOf_0 : decode cX4_digestOf 0 = .ok (.aload_n 0, 1) := by decide +kernel
theorem dX4_digestOf_1 : decode cX4_digestOf 1 = .ok (.getfield 15, 3) := by decide +kernel
theorem dX4_digestOf_4 : decode cX4_digestOf 4 = .ok (.iload_n 1, 1) := by decide +kernel
theorem dX4_digestOf_5 : decode cX4_digestOf 5 = .ok (.laload, 1) := by decide +kernel
theorem dX4_digestOf_6 : decode cX4_digestOf 6 = .ok (.lreturn, 1) := by decide +kernel
theorem dX4_count_0 : decode cX4_count 0 = .ok (.iconst 0, 1) := by decide +kernel
theorem dX4_count_1 : decode cX4_count 1 = .ok (.istore_n 1, 1) := by decide +kernel
theorem dX4_count_2 : decode cX4_count 2 = .ok (.iconst 0, 1) := by decide +kernel
theorem dX4_count_3 : decode cX4_count 3 = .ok (.istore_n 2, 1) := by decide +kernel
theorem dX4_count_4 : decode cX4_count 4 = .ok (.iload_n 2, 1) := by decide +kernel
theorem dX4_count_5 : decode cX4_count 5 = .ok (.bipush 64, 2) := by decide +kernel
theorem dX4_count_7 : decode cX4_count 7 = .ok (.if_icmp .ge 21, 3) := by decide +kernel
theorem dX4_count_10 : decode cX4_count 10 = .ok (.aload_n 0, 1) := by decide +kernel
theorem dX4_count_11 : decode cX4_count 11 = .ok (.getfield 9, 3) := by decide +kernel
theorem dX4_count_14 : decode cX4_count 14 = .ok (.iload_n 2, 1) := by decide +kernel
theorem dX4_count_15 : decode cX4_count 15 = .ok (.baload, 1) := by decide +kernel
theorem dX4_count_16 : decode cX4_count 16 = .ok (.ifCond .eq 6, 3) := by decide +kernel
theorem dX4_count_19 : decode cX4_count 19 = .ok (.iinc 1 1, 3) := by decide +kernel
theorem dX4_count_22 : decode cX4_count 22 = .ok (.iinc 2 1, 3) := by decide +kernel
theorem dX4_count_25 : decode cX4_count 25 = .ok (.goto (-21), 3) := by decide +kernel
theorem dX4_count_28 : decode cX4_count 28 = .ok (.iload_n 1, 1) := by decide +kernel
theorem dX4_count_29 : decode cX4_count 29 = .ok (.ireturn, 1) := by decide +kernel
theorem dX4_put_0 : decode cX4_put 0 = .ok (.aload_n 0, 1) := by decide +kernel
theorem dX4_put_1 : decode cX4_put 1 = .ok (.getfield 9, 3) := by decide +kernel
theorem dX4_put_4 : decode cX4_put 4 = .ok (.iload_n 1, 1) := by decide +kernel
theorem dX4_put_5 : decode cX4_put 5 = .ok (.iconst 1, 1) := by decide +kernel
theorem dX4_put_6 : decode cX4_put 6 = .ok (.bastore, 1) := by decide +kernel
theorem dX4_put_7 : decode cX4_put 7 = .ok (.aload_n 0, 1) := by decide +kernel
theorem dX4_put_8 : decode cX4_put 8 = .ok (.getfield 15, 3) := by decide +kernel
theorem dX4_put_11 : decode cX4_put 11 = .ok (.iload_n 1, 1) := by decide +kernel
theorem dX4_put_12 : decode cX4_put 12 = .ok (.lload_n 2, 1) := by decide +kernel
theorem dX4_put_13 : decode cX4_put 13 = .ok (.lastore, 1) := by decide +kernel
theorem dX4_put_14 : decode cX4_put 14 = .ok (.return_, 1) := by decide +kernel
theorem dX4_forget_0 : decode cX4_forget 0 = .ok (.aload_n 0, 1) := by decide +kernel
theorem dX4_forget_1 : decode cX4_forget 1 = .ok (.getfield 9, 3) := by decide +kernel
theorem dX4_forget_4 : decode cX4_forget 4 = .ok (.iload_n 1, 1) := by decide +kernel
theorem dX4_forget_5 : decode cX4_forget 5 = .ok (.iconst 0, 1) := by decide +kernel
theorem dX4_forget_6 : decode cX4_forget 6 = .ok (.bastore, 1) := by decide +kernel
theorem dX4_forget_7 : decode cX4_forget 7 = .ok (.return_, 1) := by decide +kernel
theorem dX4_forgetAll_0 : decode cX4_forgetAll 0 = .ok (.iconst 0, 1) := by decide +kernel
theorem dX4_forgetAll_1 : decode cX4_forgetAll 1 = .ok (.istore_n 1, 1) := by decide +kernel
theorem dX4_forgetAll_2 : decode cX4_forgetAll 2 = .ok (.iload_n 1, 1) := by decide +kernel
theorem dX4_forgetAll_3 : decode cX4_forgetAll 3 = .ok (.bipush 64, 2) := by decide +kernel
theorem dX4_forgetAll_5 : decode cX4_forgetAll 5 = .ok (.if_icmp .ge 16, 3) := by decide +kernel
theorem dX4_forgetAll_8 : decode cX4_forgetAll 8 = .ok (.aload_n 0, 1) := by decide +kernel
theorem dX4_forgetAll_9 : decode cX4_forgetAll 9 = .ok (.getfield 9, 3) := by decide +kernel
theorem dX4_forgetAll_12 : decode cX4_forgetAll 12 = .ok (.iload_n 1, 1) := by decide +kernel
theorem dX4_forgetAll_13 : decode cX4_forgetAll 13 = .ok (.iconst 0, 1) := by decide +kernel
theorem dX4_forgetAll_14 : decode cX4_forgetAll 14 = .ok (.bastore, 1) := by decide +kernel
theorem dX4_forgetAll_15 : decode cX4_forgetAll 15 = .ok (.iinc 1 1, 3) := by decide +kernel
theorem dX4_forgetAll_18 : decode cX4_forgetAll 18 = .ok (.goto (-16), 3) := by decide +kernel
theorem dX4_forgetAll_21 : decode cX4_forgetAll 21 = .ok (.return_, 1) := by decide +kernel
