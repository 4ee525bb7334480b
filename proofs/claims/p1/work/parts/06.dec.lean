theorem dX2_read_0 : decode cX2_read 0 = .ok (.lconst 0, 1) := by decide +kernel
theorem dX2_read_1 : decode cX2_read 1 = .ok (.lstore_n 3, 1) := by decide +kernel
theorem dX2_read_2 : decode cX2_read 2 = .ok (.iconst 0, 1) := by decide +kernel
theorem dX2_read_3 : decode cX2_read 3 = .ok (.istore 5, 2) := by decide +kernel
theorem dX2_read_5 : decode cX2_read 5 = .ok (.iload 5, 2) := by decide +kernel
theorem dX2_read_7 : decode cX2_read 7 = .ok (.iload_n 2, 1) := by decide +kernel
theorem dX2_read_8 : decode cX2_read 8 = .ok (.if_icmp .ge 26, 3) := by decide +kernel
theorem dX2_read_11 : decode cX2_read 11 = .ok (.lload_n 3, 1) := by decide +kernel
theorem dX2_read_12 : decode cX2_read 12 = .ok (.bipush 8, 2) := by decide +kernel
theorem dX2_read_14 : decode cX2_read 14 = .ok (.lshl, 1) := by decide +kernel
theorem dX2_read_15 : decode cX2_read 15 = .ok (.aload_n 0, 1) := by decide +kernel
theorem dX2_read_16 : decode cX2_read 16 = .ok (.iload_n 1, 1) := by decide +kernel
theorem dX2_read_17 : decode cX2_read 17 = .ok (.iload 5, 2) := by decide +kernel
theorem dX2_read_19 : decode cX2_read 19 = .ok (.iadd, 1) := by decide +kernel
theorem dX2_read_20 : decode cX2_read 20 = .ok (.baload, 1) := by decide +kernel
theorem dX2_read_21 : decode cX2_read 21 = .ok (.sipush 255, 3) := by decide +kernel
theorem dX2_read_24 : decode cX2_read 24 = .ok (.iand, 1) := by decide +kernel
theorem dX2_read_25 : decode cX2_read 25 = .ok (.i2l, 1) := by decide +kernel
theorem dX2_read_26 : decode cX2_read 26 = .ok (.lor, 1) := by decide +kernel
theorem dX2_read_27 : decode cX2_read 27 = .ok (.lstore_n 3, 1) := by decide +kernel
theorem dX2_read_28 : decode cX2_read 28 = .ok (.iinc 5 1, 3) := by decide +kernel
theorem dX2_read_31 : decode cX2_read 31 = .ok (.goto (-26), 3) := by decide +kernel
theorem dX2_read_34 : decode cX2_read 34 = .ok (.lload_n 3, 1) := by decide +kernel
theorem dX2_read_35 : decode cX2_read 35 = .ok (.lreturn, 1) := by decide +kernel
theorem dX2_sum_0 : decode cX2_sum 0 = .ok (.iload_n 3, 1) := by decide +kernel
theorem dX2_sum_1 : decode cX2_sum 1 = .ok (.iconst 1, 1) := by decide +kernel
theorem dX2_sum_2 : decode cX2_sum 2 = .ok (.iadd, 1) := by decide +kernel
theorem dX2_sum_3 : decode cX2_sum 3 = .ok (.istore 4, 2) := by decide +kernel
theorem dX2_sum_5 : decode cX2_sum 5 = .ok (.iconst 0, 1) := by decide +kernel
theorem dX2_sum_6 : decode cX2_sum 6 = .ok (.istore 5, 2) := by decide +kernel
theorem dX2_sum_8 : decode cX2_sum 8 = .ok (.iload 5, 2) := by decide +kernel
theorem dX2_sum_10 : decode cX2_sum 10 = .ok (.iload_n 2, 1) := by decide +kernel
theorem dX2_sum_11 : decode cX2_sum 11 = .ok (.if_icmp .ge 39, 3) := by decide +kernel
theorem dX2_sum_14 : decode cX2_sum 14 = .ok (.iload 4, 2) := by decide +kernel
theorem dX2_sum_16 : decode cX2_sum 16 = .ok (.aload_n 0, 1) := by decide +kernel
theorem dX2_sum_17 : decode cX2_sum 17 = .ok (.iload_n 1, 1) := by decide +kernel
theorem dX2_sum_18 : decode cX2_sum 18 = .ok (.iload 5, 2) := by decide +kernel
theorem dX2_sum_20 : decode cX2_sum 20 = .ok (.iadd, 1) := by decide +kernel
theorem dX2_sum_21 : decode cX2_sum 21 = .ok (.baload, 1) := by decide +kernel
theorem dX2_sum_22 : decode cX2_sum 22 = .ok (.sipush 255, 3) := by decide +kernel
theorem dX2_sum_25 : decode cX2_sum 25 = .ok (.iand, 1) := by decide +kernel
theorem dX2_sum_26 : decode cX2_sum 26 = .ok (.ixor, 1) := by decide +kernel
theorem dX2_sum_27 : decode cX2_sum 27 = .ok (.istore 6, 2) := by decide +kernel
theorem dX2_sum_29 : decode cX2_sum 29 = .ok (.iload 6, 2) := by decide +kernel
theorem dX2_sum_31 : decode cX2_sum 31 = .ok (.iconst 5, 1) := by decide +kernel
theorem dX2_sum_32 : decode cX2_sum 32 = .ok (.ishl, 1) := by decide +kernel
theorem dX2_sum_33 : decode cX2_sum 33 = .ok (.iload 6, 2) := by decide +kernel
theorem dX2_sum_35 : decode cX2_sum 35 = .ok (.bipush 27, 2) := by decide +kernel
theorem dX2_sum_37 : decode cX2_sum 37 = .ok (.iushr, 1) := by decide +kernel
theorem dX2_sum_38 : decode cX2_sum 38 = .ok (.ior, 1) := by decide +kernel
theorem dX2_sum_39 : decode cX2_sum 39 = .ok (.ldc 9, 2) := by decide +kernel
theorem dX2_sum_41 : decode cX2_sum 41 = .ok (.imul, 1) := by decide +kernel
theorem dX2_sum_42 : decode cX2_sum 42 = .ok (.istore 4, 2) := by decide +kernel
theorem dX2_sum_44 : decode cX2_sum 44 = .ok (.iinc 5 1, 3) := by decide +kernel
theorem dX2_sum_47 : decode cX2_sum 47 = .ok (.goto (-39), 3) := by decide +kernel
theorem dX2_sum_50 : decode cX2_sum 50 = .ok (.iload 4, 2) := by decide +kernel
theorem dX2_sum_52 : decode cX2_sum 52 = .ok (.ireturn, 1) := by decide +kernel
theorem dX2_hasSum_0 : decode cX2_hasSum 0 = .ok (.aload_n 0, 1) := by decide +kernel
theorem dX2_hasSum_1 : decode cX2_hasSum 1 = .ok (.iload_n 1, 1) := by decide +kernel
theorem dX2_hasSum_2 : decode cX2_hasSum 2 = .ok (.iload_n 2, 1) := by decide +kernel
theorem dX2_hasSum_3 : decode cX2_hasSum 3 = .ok (.iadd, 1) := by decide +kernel
theorem dX2_hasSum_4 : decode cX2_hasSum 4 = .ok (.iconst 4, 1) := by decide +kernel
theorem dX2_hasSum_5 : decode cX2_hasSum 5 = .ok (.invokestatic 10, 3) := by decide +kernel
theorem dX2_hasSum_8 : decode cX2_hasSum 8 = .ok (.l2i, 1) := by decide +kernel
theorem dX2_hasSum_9 : decode cX2_hasSum 9 = .ok (.aload_n 0, 1) := by decide +kernel
theorem dX2_hasSum_10 : decode cX2_hasSum 10 = .ok (.iload_n 1, 1) := by decide +kernel
theorem dX2_hasSum_11 : decode cX2_hasSum 11 = .ok (.iload_n 2, 1) := by decide +kernel
theorem dX2_hasSum_12 : decode cX2_hasSum 12 = .ok (.iload_n 3, 1) := by decide +kernel
theorem dX2_hasSum_13 : decode cX2_hasSum 13 = .ok (.invokestatic 14, 3) := by decide +kernel
theorem dX2_hasSum_16 : decode cX2_hasSum 16 = .ok (.if_icmp .ne 7, 3) := by decide +kernel
theorem dX2_hasSum_19 : decode cX2_hasSum 19 = .ok (.iconst 1, 1) := by decide +kernel
theorem dX2_hasSum_20 : decode cX2_hasSum 20 = .ok (.goto 4, 3) := by decide +kernel
theorem dX2_hasSum_23 : decode cX2_hasSum 23 = .ok (.iconst 0, 1) := by decide +kernel
theorem dX2_hasSum_24 : decode cX2_hasSum 24 = .ok (.ireturn, 1) := by decide +kernel
theorem dX2_write_0 : decode cX2_write 0 = .ok (.iconst 0, 1) := by decide +kernel
theorem dX2_write_1 : decode cX2_write 1 = .ok (.istore 5, 2) := by decide +kernel
theorem dX2_write_3 : decode cX2_write 3 = .ok (.iload 5, 2) := by decide +kernel
theorem dX2_write_5 : decode cX2_write 5 = .ok (.iload_n 2, 1) := by decide +kernel
theorem dX2_write_6 : decode cX2_write 6 = .ok (.if_icmp .ge 28, 3) := by decide +kernel
theorem dX2_write_9 : decode cX2_write 9 = .ok (.aload_n 0, 1) := by decide +kernel
theorem dX2_write_10 : decode cX2_write 10 = .ok (.iload_n 1, 1) := by decide +kernel
theorem dX2_write_11 : decode cX2_write 11 = .ok (.iload 5, 2) := by decide +kernel
theorem dX2_write_13 : decode cX2_write 13 = .ok (.iadd, 1) := by decide +kernel
theorem dX2_write_14 : decode cX2_write 14 = .ok (.lload_n 3, 1) := by decide +kernel
theorem dX2_write_15 : decode cX2_write 15 = .ok (.bipush 8, 2) := by decide +kernel
theorem dX2_write_17 : decode cX2_write 17 = .ok (.iload_n 2, 1) := by decide +kernel
theorem dX2_write_18 : decode cX2_write 18 = .ok (.iconst 1, 1) := by decide +kernel
theorem dX2_write_19 : decode cX2_write 19 = .ok (.isub, 1) := by decide +kernel
theorem dX2_write_20 : decode cX2_write 20 = .ok (.iload 5, 2) := by decide +kernel
theorem dX2_write_22 : decode cX2_write 22 = .ok (.isub, 1) := by decide +kernel
theorem dX2_write_23 : decode cX2_write 23 = .ok (.imul, 1) := by decide +kernel
theorem dX2_write_24 : decode cX2_write 24 = .ok (.lushr, 1) := by decide +kernel
theorem dX2_write_25 : decode cX2_write 25 = .ok (.l2i, 1) := by decide +kernel
theorem dX2_write_26 : decode cX2_write 26 = .ok (.i2b, 1) := by decide +kernel
theorem dX2_write_27 : decode cX2_write 27 = .ok (.bastore, 1) := by decide +kernel
theorem dX2_write_28 : decode cX2_write 28 = .ok (.iinc 5 1, 3) := by decide +kernel
theorem dX2_write_31 : decode cX2_write 31 = .ok (.goto (-28), 3) := by decide +kernel
theorem dX2_write_34 : decode cX2_write 34 = .ok (.return_, 1) := by decide +kernel
theorem dX2_writeSum_0 : decode cX2_writeSum 0 = .ok (.aload_n 0, 1) := by decide +kernel
theorem dX2_writeSum_1 : decode cX2_writeSum 1 = .ok (.iload_n 1, 1) := by decide +kernel
theorem dX2_writeSum_2 : decode cX2_writeSum 2 = .ok (.iload_n 2, 1) := by decide +kernel
theorem dX2_writeSum_3 : decode cX2_writeSum 3 = .ok (.iadd, 1) := by decide +kernel
theorem dX2_writeSum_4 : decode cX2_writeSum 4 = .ok (.iconst 4, 1) := by decide +kernel
theorem dX2_writeSum_5 : decode cX2_writeSum 5 = .ok (.aload_n 0, 1) := by decide +kernel
theorem dX2_writeSum_6 : decode cX2_writeSum 6 = .ok (.iload_n 1, 1) := by decide +kernel
theorem dX2_writeSum_7 : decode cX2_writeSum 7 = .ok (.iload_n 2, 1) := by decide +kernel
theorem dX2_writeSum_8 : decode cX2_writeSum 8 = .ok (.iload_n 3, 1) := by decide +kernel
theorem dX2_writeSum_9 : decode cX2_writeSum 9 = .ok (.invokestatic 14, 3) := by decide +kernel
theorem dX2_writeSum_12 : decode cX2_writeSum 12 = .ok (.i2l, 1) := by decide +kernel
theorem dX2_writeSum_13 : decode cX2_writeSum 13 = .ok (.invokestatic 18, 3) := by decide +kernel
theorem dX2_writeSum_16 : decode cX2_writeSum 16 = .ok (.return_, 1) := by decide +kernel
theorem dX1_areaAt_0 : decode cX1_areaAt 0 = .ok (.aload_n 0, 1) := by decide +kernel
theorem dX1_areaAt_1 : decode cX1_areaAt 1 = .ok (.iload_n 1, 1) := by decide +kernel
theorem dX1_areaAt_2 : decode cX1_areaAt 2 = .ok (.sipush 512, 3) := by decide +kernel
theorem dX1_areaAt_5 : decode cX1_areaAt 5 = .ok (.imul, 1) := by decide +kernel
theorem dX1_areaAt_6 : decode cX1_areaAt 6 = .ok (.bipush 8, 2) := by decide +kernel
theorem dX1_areaAt_8 : decode cX1_areaAt 8 = .ok (.iadd, 1) := by decide +kernel
theorem dX1_areaAt_9 : decode cX1_areaAt 9 = .ok (.baload, 1) := by decide +kernel
theorem dX1_areaAt_10 : decode cX1_areaAt 10 = .ok (.sipush 255, 3) := by decide +kernel
theorem dX1_areaAt_13 : decode cX1_areaAt 13 = .ok (.iand, 1) := by decide +kernel
theorem dX1_areaAt_14 : decode cX1_areaAt 14 = .ok (.ireturn, 1) := by decide +kernel
theorem dX1_sequenceAt_0 : decode cX1_sequenceAt 0 = .ok (.aload_n 0, 1) := by decide +kernel
theorem dX1_sequenceAt_1 : decode cX1_sequenceAt 1 = .ok (.iload_n 1, 1) := by decide +kernel
theorem dX1_sequenceAt_2 : decode cX1_sequenceAt 2 = .ok (.sipush 512, 3) := by decide +kernel
theorem dX1_sequenceAt_5 : decode cX1_sequenceAt 5 = .ok (.imul, 1) := by decide +kernel
theorem dX1_sequenceAt_6 : decode cX1_sequenceAt 6 = .ok (.iconst 4, 1) := by decide +kernel
theorem dX1_sequenceAt_7 : decode cX1_sequenceAt 7 = .ok (.iadd, 1) := by decide +kernel
theorem dX1_sequenceAt_8 : decode cX1_sequenceAt 8 = .ok (.iconst 4, 1) := by decide +kernel
theorem dX1_sequenceAt_9 : decode cX1_sequenceAt 9 = .ok (.invokestatic 19, 3) := by decide +kernel
theorem dX1_sequenceAt_12 : decode cX1_sequenceAt 12 = .ok (.l2i, 1) := by decide +kernel
theorem dX1_sequenceAt_13 : decode cX1_sequenceAt 13 = .ok (.ireturn, 1) := by decide +kernel
theorem dX1_isGood_0 : decode cX1_isGood 0 = .ok (.iload_n 1, 1) := by decide +kernel
theorem dX1_isGood_1 : decode cX1_isGood 1 = .ok (.sipush 512, 3) := by decide +kernel
theorem dX1_isGood_4 : decode cX1_isGood 4 = .ok (.imul, 1) := by decide +kernel
theorem dX1_isGood_5 : decode cX1_isGood 5 = .ok (.istore_n 2, 1) := by decide +kernel
theorem dX1_isGood_6 : decode cX1_isGood 6 = .ok (.aload_n 0, 1) := by decide +kernel
theorem dX1_isGood_7 : decode cX1_isGood 7 = .ok (.iload_n 2, 1) := by decide +kernel
theorem dX1_isGood_8 : decode cX1_isGood 8 = .ok (.iconst 4, 1) := by decide +kernel
theorem dX1_isGood_9 : decode cX1_isGood 9 = .ok (.iadd, 1) := by decide +kernel
theorem dX1_isGood_10 : decode cX1_isGood 10 = .ok (.iconst 4, 1) := by decide +kernel
theorem dX1_isGood_11 : decode cX1_isGood 11 = .ok (.invokestatic 19, 3) := by decide +kernel
theorem dX1_isGood_14 : decode cX1_isGood 14 = .ok (.lstore_n 3, 1) := by decide +kernel
theorem dX1_isGood_15 : decode cX1_isGood 15 = .ok (.lload_n 3, 1) := by decide +kernel
theorem dX1_isGood_16 : decode cX1_isGood 16 = .ok (.ldc2_w 25, 3) := by decide +kernel
theorem dX1_isGood_19 : decode cX1_isGood 19 = .ok (.lcmp, 1) := by decide +kernel
theorem dX1_isGood_20 : decode cX1_isGood 20 = .ok (.ifCond .ge 23, 3) := by decide +kernel
theorem dX1_isGood_23 : decode cX1_isGood 23 = .ok (.lload_n 3, 1) := by decide +kernel
theorem dX1_isGood_24 : decode cX1_isGood 24 = .ok (.ldc2_w 27, 3) := by decide +kernel
theorem dX1_isGood_27 : decode cX1_isGood 27 = .ok (.lrem, 1) := by decide +kernel
theorem dX1_isGood_28 : decode cX1_isGood 28 = .ok (.iload_n 1, 1) := by decide +kernel
theorem dX1_isGood_29 : decode cX1_isGood 29 = .ok (.i2l, 1) := by decide +kernel
theorem dX1_isGood_30 : decode cX1_isGood 30 = .ok (.lcmp, 1) := by decide +kernel
theorem dX1_isGood_31 : decode cX1_isGood 31 = .ok (.ifCond .ne 12, 3) := by decide +kernel
theorem dX1_isGood_34 : decode cX1_isGood 34 = .ok (.aload_n 0, 1) := by decide +kernel
theorem dX1_isGood_35 : decode cX1_isGood 35 = .ok (.iload_n 1, 1) := by decide +kernel
theorem dX1_isGood_36 : decode cX1_isGood 36 = .ok (.invokestatic 29, 3) := by decide +kernel
theorem dX1_isGood_39 : decode cX1_isGood 39 = .ok (.iconst 1, 1) := by decide +kernel
theorem dX1_isGood_40 : decode cX1_isGood 40 = .ok (.if_icmp .le 5, 3) := by decide +kernel
theorem dX1_isGood_43 : decode cX1_isGood 43 = .ok (.iconst 0, 1) := by decide +kernel
theorem dX1_isGood_44 : decode cX1_isGood 44 = .ok (.ireturn, 1) := by decide +kernel
theorem dX1_isGood_45 : decode cX1_isGood 45 = .ok (.aload_n 0, 1) := by decide +kernel
theorem dX1_isGood_46 : decode cX1_isGood 46 = .ok (.iload_n 2, 1) := by decide +kernel
theorem dX1_isGood_47 : decode cX1_isGood 47 = .ok (.sipush 508, 3) := by decide +kernel
theorem dX1_isGood_50 : decode cX1_isGood 50 = .ok (.lload_n 3, 1) := by decide +kernel
theorem dX1_isGood_51 : decode cX1_isGood 51 = .ok (.l2i, 1) := by decide +kernel
theorem dX1_isGood_52 : decode cX1_isGood 52 = .ok (.invokestatic 32, 3) := by decide +kernel
theorem dX1_isGood_55 : decode cX1_isGood 55 = .ok (.ireturn, 1) := by decide +kernel
theorem dX1_counting_0 : decode cX1_counting 0 = .ok (.iconst (-1), 1) := by decide +kernel
theorem dX1_counting_1 : decode cX1_counting 1 = .ok (.istore_n 1, 1) := by decide +kernel
theorem dX1_counting_2 : decode cX1_counting 2 = .ok (.iconst 0, 1) := by decide +kernel
theorem dX1_counting_3 : decode cX1_counting 3 = .ok (.istore_n 2, 1) := by decide +kernel
theorem dX1_counting_4 : decode cX1_counting 4 = .ok (.iload_n 2, 1) := by decide +kernel
theorem dX1_counting_5 : decode cX1_counting 5 = .ok (.iconst 2, 1) := by decide +kernel
theorem dX1_counting_6 : decode cX1_counting 6 = .ok (.if_icmp .ge 37, 3) := by decide +kernel
theorem dX1_counting_9 : decode cX1_counting 9 = .ok (.aload_n 0, 1) := by decide +kernel
theorem dX1_counting_10 : decode cX1_counting 10 = .ok (.iload_n 2, 1) := by decide +kernel
theorem dX1_counting_11 : decode cX1_counting 11 = .ok (.invokestatic 9, 3) := by decide +kernel
theorem dX1_counting_14 : decode cX1_counting 14 = .ok (.ifCond .eq 23, 3) := by decide +kernel
theorem dX1_counting_17 : decode cX1_counting 17 = .ok (.iload_n 1, 1) := by decide +kernel
theorem dX1_counting_18 : decode cX1_counting 18 = .ok (.iconst (-1), 1) := by decide +kernel
theorem dX1_counting_19 : decode cX1_counting 19 = .ok (.if_icmp .eq 16, 3) := by decide +kernel
theorem dX1_counting_22 : decode cX1_counting 22 = .ok (.aload_n 0, 1) := by decide +kernel
theorem dX1_counting_23 : decode cX1_counting 23 = .ok (.iload_n 2, 1) := by decide +kernel
theorem dX1_counting_24 : decode cX1_counting 24 = .ok (.invokestatic 15, 3) := by decide +kernel
theorem dX1_counting_27 : decode cX1_counting 27 = .ok (.aload_n 0, 1) := by decide +kernel
theorem dX1_counting_28 : decode cX1_counting 28 = .ok (.iload_n 1, 1) := by decide +kernel
theorem dX1_counting_29 : decode cX1_counting 29 = .ok (.invokestatic 15, 3) := by decide +kernel
theorem dX1_counting_32 : decode cX1_counting 32 = .ok (.if_icmp .le 5, 3) := by decide +kernel
theorem dX1_counting_35 : decode cX1_counting 35 = .ok (.iload_n 2, 1) := by decide +kernel
theorem dX1_counting_36 : decode cX1_counting 36 = .ok (.istore_n 1, 1) := by decide +kernel
theorem dX1_counting_37 : decode cX1_counting 37 = .ok (.iinc 2 1, 3) := by decide +kernel
theorem dX1_counting_40 : decode cX1_counting 40 = .ok (.goto (-36), 3) := by decide +kernel
theorem dX1_counting_43 : decode cX1_counting 43 = .ok (.iload_n 1, 1) := by decide +kernel
theorem dX1_counting_44 : decode cX1_counting 44 = .ok (.ireturn, 1) := by decide +kernel
theorem dX1_write_0 : decode cX1_write 0 = .ok (.aload_n 0, 1) := by decide +kernel
theorem dX1_write_1 : decode cX1_write 1 = .ok (.iload_n 1, 1) := by decide +kernel
theorem dX1_write_2 : decode cX1_write 2 = .ok (.iconst 4, 1) := by decide +kernel
theorem dX1_write_3 : decode cX1_write 3 = .ok (.iload_n 2, 1) := by decide +kernel
theorem dX1_write_4 : decode cX1_write 4 = .ok (.i2l, 1) := by decide +kernel
theorem dX1_write_5 : decode cX1_write 5 = .ok (.invokestatic 36, 3) := by decide +kernel
theorem dX1_write_8 : decode cX1_write 8 = .ok (.aload_n 0, 1) := by decide +kernel
theorem dX1_write_9 : decode cX1_write 9 = .ok (.iload_n 1, 1) := by decide +kernel
theorem dX1_write_10 : decode cX1_write 10 = .ok (.iconst 4, 1) := by decide +kernel
theorem dX1_write_11 : decode cX1_write 11 = .ok (.iadd, 1) := by decide +kernel
theorem dX1_write_12 : decode cX1_write 12 = .ok (.iconst 4, 1) := by decide +kernel
theorem dX1_write_13 : decode cX1_write 13 = .ok (.iload_n 3, 1) := by decide +kernel
theorem dX1_write_14 : decode cX1_write 14 = .ok (.i2l, 1) := by decide +kernel
theorem dX1_write_15 : decode cX1_write 15 = .ok (.invokestatic 36, 3) := by decide +kernel
theorem dX1_write_18 : decode cX1_write 18 = .ok (.aload_n 0, 1) := by decide +kernel
theorem dX1_write_19 : decode cX1_write 19 = .ok (.iload_n 1, 1) := by decide +kernel
theorem dX1_write_20 : decode cX1_write 20 = .ok (.bipush 8, 2) := by decide +kernel
theorem dX1_write_22 : decode cX1_write 22 = .ok (.iadd, 1) := by decide +kernel
theorem dX1_write_23 : decode cX1_write 23 = .ok (.iload 4, 2) := by decide +kernel
theorem dX1_write_25 : decode cX1_write 25 = .ok (.i2b, 1) := by decide +kernel
theorem dX1_write_26 : decode cX1_write 26 = .ok (.bastore, 1) := by decide +kernel
theorem dX1_write_27 : decode cX1_write 27 = .ok (.aload_n 0, 1) := by decide +kernel
theorem dX1_write_28 : decode cX1_write 28 = .ok (.iload_n 1, 1) := by decide +kernel
theorem dX1_write_29 : decode cX1_write 29 = .ok (.sipush 508, 3) := by decide +kernel
theorem dX1_write_32 : decode cX1_write 32 = .ok (.iload_n 3, 1) := by decide +kernel
theorem dX1_write_33 : decode cX1_write 33 = .ok (.invokestatic 40, 3) := by decide +kernel
theorem dX1_write_36 : decode cX1_write 36 = .ok (.return_, 1) := by decide +kernel
theorem dX0_bring_0 : decode cX0_bring 0 = .ok (.iload_n 1, 1) := by decide +kernel
theorem dX0_bring_1 : decode cX0_bring 1 = .ok (.aload_n 0, 1) := by decide +kernel
theorem dX0_bring_2 : decode cX0_bring 2 = .ok (.getfield 27, 3) := by decide +kernel
theorem dX0_bring_5 : decode cX0_bring 5 = .ok (.invokestatic 47, 3) := by decide +kernel
theorem dX0_bring_8 : decode cX0_bring 8 = .ok (.istore_n 3, 1) := by decide +kernel
theorem dX0_bring_9 : decode cX0_bring 9 = .ok (.iconst 0, 1) := by decide +kernel
theorem dX0_bring_10 : decode cX0_bring 10 = .ok (.istore 4, 2) := by decide +kernel
theorem dX0_bring_12 : decode cX0_bring 12 = .ok (.iload 4, 2) := by decide +kernel
theorem dX0_bring_14 : decode cX0_bring 14 = .ok (.iload_n 3, 1) := by decide +kernel
theorem dX0_bring_15 : decode cX0_bring 15 = .ok (.if_icmp .gt 63, 3) := by decide +kernel
theorem dX0_bring_18 : decode cX0_bring 18 = .ok (.iload 4, 2) := by decide +kernel
theorem dX0_bring_20 : decode cX0_bring 20 = .ok (.aload_n 0, 1) := by decide +kernel
theorem dX0_bring_21 : decode cX0_bring 21 = .ok (.getfield 27, 3) := by decide +kernel
theorem dX0_bring_24 : decode cX0_bring 24 = .ok (.if_icmp .ge 54, 3) := by decide +kernel
theorem dX0_bring_27 : decode cX0_bring 27 = .ok (.iload 4, 2) := by decide +kernel
theorem dX0_bring_29 : decode cX0_bring 29 = .ok (.iload_n 3, 1) := by decide +kernel
theorem dX0_bring_30 : decode cX0_bring 30 = .ok (.if_icmp .ge 9, 3) := by decide +kernel
theorem dX0_bring_33 : decode cX0_bring 33 = .ok (.sipush 512, 3) := by decide +kernel
theorem dX0_bring_36 : decode cX0_bring 36 = .ok (.goto 4, 3) := by decide +kernel
theorem dX0_bring_39 : decode cX0_bring 39 = .ok (.iload_n 2, 1) := by decide +kernel
theorem dX0_bring_40 : decode cX0_bring 40 = .ok (.istore 5, 2) := by decide +kernel
theorem dX0_bring_42 : decode cX0_bring 42 = .ok (.aload_n 0, 1) := by decide +kernel
theorem dX0_bring_43 : decode cX0_bring 43 = .ok (.getfield 20, 3) := by decide +kernel
theorem dX0_bring_46 : decode cX0_bring 46 = .ok (.iload 4, 2) := by decide +kernel
theorem dX0_bring_48 : decode cX0_bring 48 = .ok (.sipush 512, 3) := by decide +kernel
theorem dX0_bring_51 : decode cX0_bring 51 = .ok (.imul, 1) := by decide +kernel
theorem dX0_bring_52 : decode cX0_bring 52 = .ok (.aload_n 0, 1) := by decide +kernel
theorem dX0_bring_53 : decode cX0_bring 53 = .ok (.getfield 15, 3) := by decide +kernel
theorem dX0_bring_56 : decode cX0_bring 56 = .ok (.aload_n 0, 1) := by decide +kernel
theorem dX0_bring_57 : decode cX0_bring 57 = .ok (.getfield 23, 3) := by decide +kernel
theorem dX0_bring_60 : decode cX0_bring 60 = .ok (.iload 4, 2) := by decide +kernel
theorem dX0_bring_62 : decode cX0_bring 62 = .ok (.iaload, 1) := by decide +kernel
theorem dX0_bring_63 : decode cX0_bring 63 = .ok (.sipush 512, 3) := by decide +kernel
theorem dX0_bring_66 : decode cX0_bring 66 = .ok (.imul, 1) := by decide +kernel
theorem dX0_bring_67 : decode cX0_bring 67 = .ok (.iload 5, 2) := by decide +kernel
theorem dX0_bring_69 : decode cX0_bring 69 = .ok (.invokestatic 41, 3) := by decide +kernel
theorem dX0_bring_72 : decode cX0_bring 72 = .ok (.iinc 4 1, 3) := by decide +kernel
theorem dX0_bring_75 : decode cX0_bring 75 = .ok (.goto (-63), 3) := by decide +kernel
theorem dX0_bring_78 : decode cX0_bring 78 = .ok (.aload_n 0, 1) := by decide +kernel
theorem dX0_bring_79 : decode cX0_bring 79 = .ok (.iconst 0, 1) := by decide +kernel
theorem dX0_bring_80 : decode cX0_bring 80 = .ok (.putfield 27, 3) := by decide +kernel
theorem dX0_bring_83 : decode cX0_bring 83 = .ok (.iload_n 3, 1) := by decide +kernel
theorem dX0_bring_84 : decode cX0_bring 84 = .ok (.ireturn, 1) := by decide +kernel
theorem dX0_addTarget_0 : decode cX0_addTarget 0 = .ok (.aload_n 0, 1) := by decide +kernel
theorem dX0_addTarget_1 : decode cX0_addTarget 1 = .ok (.getfield 27, 3) := by decide +kernel
theorem dX0_addTarget_4 : decode cX0_addTarget 4 = .ok (.sipush 512, 3) := by decide +kernel
theorem dX0_addTarget_7 : decode cX0_addTarget 7 = .ok (.imul, 1) := by decide +kernel
theorem dX0_addTarget_8 : decode cX0_addTarget 8 = .ok (.istore_n 2, 1) := by decide +kernel
theorem dX0_addTarget_9 : decode cX0_addTarget 9 = .ok (.aload_n 0, 1) := by decide +kernel
theorem dX0_addTarget_10 : decode cX0_addTarget 10 = .ok (.getfield 23, 3) := by decide +kernel
theorem dX0_addTarget_13 : decode cX0_addTarget 13 = .ok (.aload_n 0, 1) := by decide +kernel
theorem dX0_addTarget_14 : decode cX0_addTarget 14 = .ok (.getfield 27, 3) := by decide +kernel
theorem dX0_addTarget_17 : decode cX0_addTarget 17 = .ok (.iload_n 1, 1) := by decide +kernel
theorem dX0_addTarget_18 : decode cX0_addTarget 18 = .ok (.iastore, 1) := by decide +kernel
theorem dX0_addTarget_19 : decode cX0_addTarget 19 = .ok (.aload_n 0, 1) := by decide +kernel
theorem dX0_addTarget_20 : decode cX0_addTarget 20 = .ok (.dup, 1) := by decide +kernel
theorem dX0_addTarget_21 : decode cX0_addTarget 21 = .ok (.getfield 27, 3) := by decide +kernel
theorem dX0_addTarget_24 : decode cX0_addTarget 24 = .ok (.iconst 1, 1) := by decide +kernel
theorem dX0_addTarget_25 : decode cX0_addTarget 25 = .ok (.iadd, 1) := by decide +kernel
theorem dX0_addTarget_26 : decode cX0_addTarget 26 = .ok (.putfield 27, 3) := by decide +kernel
theorem dX0_addTarget_29 : decode cX0_addTarget 29 = .ok (.iload_n 2, 1) := by decide +kernel
theorem dX0_addTarget_30 : decode cX0_addTarget 30 = .ok (.ireturn, 1) := by decide +kernel
theorem dX0_waitWithZeros_0 : decode cX0_waitWithZeros 0 = .ok (.aload_n 0, 1) := by decide +kernel
theorem dX0_waitWithZeros_1 : decode cX0_waitWithZeros 1 = .ok (.getfield 27, 3) := by decide +kernel
theorem dX0_waitWithZeros_4 : decode cX0_waitWithZeros 4 = .ok (.bipush 64, 2) := by decide +kernel
theorem dX0_waitWithZeros_6 : decode cX0_waitWithZeros 6 = .ok (.if_icmp .lt 11, 3) := by decide +kernel
theorem dX0_waitWithZeros_9 : decode cX0_waitWithZeros 9 = .ok (.aload_n 0, 1) := by decide +kernel
theorem dX0_waitWithZeros_10 : decode cX0_waitWithZeros 10 = .ok (.bipush 64, 2) := by decide +kernel
theorem dX0_waitWithZeros_12 : decode cX0_waitWithZeros 12 = .ok (.iconst 0, 1) := by decide +kernel
theorem dX0_waitWithZeros_13 : decode cX0_waitWithZeros 13 = .ok (.invokevirtual 30, 3) := by decide +kernel
theorem dX0_waitWithZeros_16 : decode cX0_waitWithZeros 16 = .ok (.pop, 1) := by decide +kernel
theorem dX0_waitWithZeros_17 : decode cX0_waitWithZeros 17 = .ok (.aload_n 0, 1) := by decide +kernel
theorem dX0_waitWithZeros_18 : decode cX0_waitWithZeros 18 = .ok (.getfield 27, 3) := by decide +kernel
theorem dX0_waitWithZeros_21 : decode cX0_waitWithZeros 21 = .ok (.sipush 512, 3) := by decide +kernel
theorem dX0_waitWithZeros_24 : decode cX0_waitWithZeros 24 = .ok (.imul, 1) := by decide +kernel
theorem dX0_waitWithZeros_25 : decode cX0_waitWithZeros 25 = .ok (.istore_n 2, 1) := by decide +kernel
theorem dX0_waitWithZeros_26 : decode cX0_waitWithZeros 26 = .ok (.iconst 0, 1) := by decide +kernel
theorem dX0_waitWithZeros_27 : decode cX0_waitWithZeros 27 = .ok (.istore_n 3, 1) := by decide +kernel
theorem dX0_waitWithZeros_28 : decode cX0_waitWithZeros 28 = .ok (.iload_n 3, 1) := by decide +kernel
theorem dX0_waitWithZeros_29 : decode cX0_waitWithZeros 29 = .ok (.sipush 512, 3) := by decide +kernel
theorem dX0_waitWithZeros_32 : decode cX0_waitWithZeros 32 = .ok (.if_icmp .ge 18, 3) := by decide +kernel
theorem dX0_waitWithZeros_35 : decode cX0_waitWithZeros 35 = .ok (.aload_n 0, 1) := by decide +kernel
theorem dX0_waitWithZeros_36 : decode cX0_waitWithZeros 36 = .ok (.getfield 20, 3) := by decide +kernel
theorem dX0_waitWithZeros_39 : decode cX0_waitWithZeros 39 = .ok (.iload_n 2, 1) := by decide +kernel
theorem dX0_waitWithZeros_40 : decode cX0_waitWithZeros 40 = .ok (.iload_n 3, 1) := by decide +kernel
theorem dX0_waitWithZeros_41 : decode cX0_waitWithZeros 41 = .ok (.iadd, 1) := by decide +kernel
theorem dX0_waitWithZeros_42 : decode cX0_waitWithZeros 42 = .ok (.iconst 0, 1) := by decide +kernel
theorem dX0_waitWithZeros_43 : decode cX0_waitWithZeros 43 = .ok (.bastore, 1) := by decide +kernel
theorem dX0_waitWithZeros_44 : decode cX0_waitWithZeros 44 = .ok (.iinc 3 1, 3) := by decide +kernel
theorem dX0_waitWithZeros_47 : decode cX0_waitWithZeros 47 = .ok (.goto (-19), 3) := by decide +kernel
theorem dX0_waitWithZeros_50 : decode cX0_waitWithZeros 50 = .ok (.aload_n 0, 1) := by decide +kernel
theorem dX0_waitWithZeros_51 : decode cX0_waitWithZeros 51 = .ok (.iload_n 1, 1) := by decide +kernel
theorem dX0_waitWithZeros_52 : decode cX0_waitWithZeros 52 = .ok (.invokevirtual 34, 3) := by decide +kernel
theorem dX0_waitWithZeros_55 : decode cX0_waitWithZeros 55 = .ok (.ireturn, 1) := by decide +kernel
theorem dJ9_floorMod_7cf53_0 : decode cJ9_floorMod_7cf53 0 = .ok (.iload_n 0, 1) := by decide +kernel
theorem dJ9_floorMod_7cf53_1 : decode cJ9_floorMod_7cf53 1 = .ok (.iload_n 1, 1) := by decide +kernel
theorem dJ9_floorMod_7cf53_2 : decode cJ9_floorMod_7cf53 2 = .ok (.irem, 1) := by decide +kernel
theorem dJ9_floorMod_7cf53_3 : decode cJ9_floorMod_7cf53 3 = .ok (.istore_n 2, 1) := by decide +kernel
theorem dJ9_floorMod_7cf53_4 : decode cJ9_floorMod_7cf53 4 = .ok (.iload_n 0, 1) := by decide +kernel
theorem dJ9_floorMod_7cf53_5 : decode cJ9_floorMod_7cf53 5 = .ok (.iload_n 1, 1) := by decide +kernel
theorem dJ9_floorMod_7cf53_6 : decode cJ9_floorMod_7cf53 6 = .ok (.ixor, 1) := by decide +kernel
theorem dJ9_floorMod_7cf53_7 : decode cJ9_floorMod_7cf53 7 = .ok (.ifCond .ge 11, 3) := by decide +kernel
theorem dJ9_floorMod_7cf53_10 : decode cJ9_floorMod_7cf53 10 = .ok (.iload_n 2, 1) := by decide +kernel
theorem dJ9_floorMod_7cf53_11 : decode cJ9_floorMod_7cf53 11 = .ok (.ifCond .eq 7, 3) := by decide +kernel
theorem dJ9_floorMod_7cf53_14 : decode cJ9_floorMod_7cf53 14 = .ok (.iload_n 2, 1) := by decide +kernel
theorem dJ9_floorMod_7cf53_15 : decode cJ9_floorMod_7cf53 15 = .ok (.iload_n 1, 1) := by decide +kernel
theorem dJ9_floorMod_7cf53_16 : decode cJ9_floorMod_7cf53 16 = .ok (.iadd, 1) := by decide +kernel
theorem dJ9_floorMod_7cf53_17 : decode cJ9_floorMod_7cf53 17 = .ok (.ireturn, 1) := by decide +kernel
theorem dJ9_floorMod_7cf53_18 : decode cJ9_floorMod_7cf53 18 = .ok (.iload_n 2, 1) := by decide +kernel
theorem dJ9_floorMod_7cf53_19 : decode cJ9_floorMod_7cf53 19 = .ok (.ireturn, 1) := by decide +kernel
theorem dX5_firstSector_0 : decode cX5_firstSector 0 = .ok (.iconst 2, 1) := by decide +kernel
theorem dX5_firstSector_1 : decode cX5_firstSector 1 = .ok (.iload_n 1, 1) := by decide +kernel
theorem dX5_firstSector_2 : decode cX5_firstSector 2 = .ok (.aload_n 0, 1) := by decide +kernel
theorem dX5_firstSector_3 : decode cX5_firstSector 3 = .ok (.getfield 18, 3) := by decide +kernel
theorem dX5_firstSector_6 : decode cX5_firstSector 6 = .ok (.imul, 1) := by decide +kernel
theorem dX5_firstSector_7 : decode cX5_firstSector 7 = .ok (.iadd, 1) := by decide +kernel
theorem dX5_firstSector_8 : decode cX5_firstSector 8 = .ok (.ireturn, 1) := by decide +kernel
theorem dX5_clearArea_0 : decode cX5_clearArea 0 = .ok (.aload_n 0, 1) := by decide +kernel
theorem dX5_clearArea_1 : decode cX5_clearArea 1 = .ok (.iload_n 1, 1) := by decide +kernel
theorem dX5_clearArea_2 : decode cX5_clearArea 2 = .ok (.invokevirtual 211, 3) := by decide +kernel
theorem dX5_clearArea_5 : decode cX5_clearArea 5 = .ok (.istore_n 2, 1) := by decide +kernel
theorem dX5_clearArea_6 : decode cX5_clearArea 6 = .ok (.iconst 0, 1) := by decide +kernel
theorem dX5_clearArea_7 : decode cX5_clearArea 7 = .ok (.istore_n 3, 1) := by decide +kernel
theorem dX5_clearArea_8 : decode cX5_clearArea 8 = .ok (.iload_n 3, 1) := by decide +kernel
theorem dX5_clearArea_9 : decode cX5_clearArea 9 = .ok (.aload_n 0, 1) := by decide +kernel
theorem dX5_clearArea_10 : decode cX5_clearArea 10 = .ok (.getfield 18, 3) := by decide +kernel
theorem dX5_clearArea_13 : decode cX5_clearArea 13 = .ok (.if_icmp .ge 20, 3) := by decide +kernel
theorem dX5_clearArea_16 : decode cX5_clearArea 16 = .ok (.aload_n 0, 1) := by decide +kernel
theorem dX5_clearArea_17 : decode cX5_clearArea 17 = .ok (.getfield 27, 3) := by decide +kernel
theorem dX5_clearArea_20 : decode cX5_clearArea 20 = .ok (.iload_n 2, 1) := by decide +kernel
theorem dX5_clearArea_21 : decode cX5_clearArea 21 = .ok (.iload_n 3, 1) := by decide +kernel
theorem dX5_clearArea_22 : decode cX5_clearArea 22 = .ok (.iadd, 1) := by decide +kernel
theorem dX5_clearArea_23 : decode cX5_clearArea 23 = .ok (.invokevirtual 218, 3) := by decide +kernel
theorem dX5_clearArea_26 : decode cX5_clearArea 26 = .ok (.pop, 1) := by decide +kernel
theorem dX5_clearArea_27 : decode cX5_clearArea 27 = .ok (.iinc 3 1, 3) := by decide +kernel
theorem dX5_clearArea_30 : decode cX5_clearArea 30 = .ok (.goto (-22), 3) := by decide +kernel
theorem dX5_clearArea_33 : decode cX5_clearArea 33 = .ok (.return_, 1) := by decide +kernel
theorem dX5_changeHeads_0 : decode cX5_changeHeads 0 = .ok (.iconst 0, 1) := by decide +kernel
theorem dX5_changeHeads_1 : decode cX5_changeHeads 1 = .ok (.istore_n 1, 1) := by decide +kernel
theorem dX5_changeHeads_2 : decode cX5_changeHeads 2 = .ok (.iload_n 1, 1) := by decide +kernel
theorem dX5_changeHeads_3 : decode cX5_changeHeads 3 = .ok (.iconst 2, 1) := by decide +kernel
theorem dX5_changeHeads_4 : decode cX5_changeHeads 4 = .ok (.if_icmp .ge 58, 3) := by decide +kernel
theorem dX5_changeHeads_7 : decode cX5_changeHeads 7 = .ok (.aload_n 0, 1) := by decide +kernel
theorem dX5_changeHeads_8 : decode cX5_changeHeads 8 = .ok (.dup, 1) := by decide +kernel
theorem dX5_changeHeads_9 : decode cX5_changeHeads 9 = .ok (.getfield 195, 3) := by decide +kernel
theorem dX5_changeHeads_12 : decode cX5_changeHeads 12 = .ok (.iconst 1, 1) := by decide +kernel
theorem dX5_changeHeads_13 : decode cX5_changeHeads 13 = .ok (.iadd, 1) := by decide +kernel
theorem dX5_changeHeads_14 : decode cX5_changeHeads 14 = .ok (.putfield 195, 3) := by decide +kernel
theorem dX5_changeHeads_17 : decode cX5_changeHeads 17 = .ok (.aload_n 0, 1) := by decide +kernel
theorem dX5_changeHeads_18 : decode cX5_changeHeads 18 = .ok (.getfield 27, 3) := by decide +kernel
theorem dX5_changeHeads_21 : decode cX5_changeHeads 21 = .ok (.aload_n 0, 1) := by decide +kernel
theorem dX5_changeHeads_22 : decode cX5_changeHeads 22 = .ok (.getfield 195, 3) := by decide +kernel
theorem dX5_changeHeads_25 : decode cX5_changeHeads 25 = .ok (.iconst 2, 1) := by decide +kernel
theorem dX5_changeHeads_26 : decode cX5_changeHeads 26 = .ok (.invokestatic 221, 3) := by decide +kernel
theorem dX5_changeHeads_29 : decode cX5_changeHeads 29 = .ok (.invokevirtual 218, 3) := by decide +kernel
theorem dX5_changeHeads_32 : decode cX5_changeHeads 32 = .ok (.istore_n 2, 1) := by decide +kernel
theorem dX5_changeHeads_33 : decode cX5_changeHeads 33 = .ok (.aload_n 0, 1) := by decide +kernel
theorem dX5_changeHeads_34 : decode cX5_changeHeads 34 = .ok (.getfield 27, 3) := by decide +kernel
theorem dX5_changeHeads_37 : decode cX5_changeHeads 37 = .ok (.getfield 224, 3) := by decide +kernel
theorem dX5_changeHeads_40 : decode cX5_changeHeads 40 = .ok (.iload_n 2, 1) := by decide +kernel
theorem dX5_changeHeads_41 : decode cX5_changeHeads 41 = .ok (.aload_n 0, 1) := by decide +kernel
theorem dX5_changeHeads_42 : decode cX5_changeHeads 42 = .ok (.getfield 83, 3) := by decide +kernel
theorem dX5_changeHeads_45 : decode cX5_changeHeads 45 = .ok (.aload_n 0, 1) := by decide +kernel
theorem dX5_changeHeads_46 : decode cX5_changeHeads 46 = .ok (.getfield 195, 3) := by decide +kernel
theorem dX5_changeHeads_49 : decode cX5_changeHeads 49 = .ok (.aload_n 0, 1) := by decide +kernel
theorem dX5_changeHeads_50 : decode cX5_changeHeads 50 = .ok (.getfield 128, 3) := by decide +kernel
theorem dX5_changeHeads_53 : decode cX5_changeHeads 53 = .ok (.invokestatic 227, 3) := by decide +kernel
theorem dX5_changeHeads_56 : decode cX5_changeHeads 56 = .ok (.iinc 1 1, 3) := by decide +kernel
theorem dX5_changeHeads_59 : decode cX5_changeHeads 59 = .ok (.goto (-57), 3) := by decide +kernel
theorem dX5_changeHeads_62 : decode cX5_changeHeads 62 = .ok (.return_, 1) := by decide +kernel
theorem dX3_wrongCount_0 : decode cX3_wrongCount 0 = .ok (.aload_n 0, 1) := by decide +kernel
theorem dX3_wrongCount_1 : decode cX3_wrongCount 1 = .ok (.getfield 35, 3) := by decide +kernel
theorem dX3_wrongCount_4 : decode cX3_wrongCount 4 = .ok (.ireturn, 1) := by decide +kernel
theorem dX3_end_0 : decode cX3_end 0 = .ok (.aload_n 0, 1) := by decide +kernel
theorem dX3_end_1 : decode cX3_end 1 = .ok (.getfield 31, 3) := by decide +kernel
theorem dX3_end_4 : decode cX3_end 4 = .ok (.ireturn, 1) := by decide +kernel
theorem dX3_places_0 : decode cX3_places 0 = .ok (.aload_n 0, 1) := by decide +kernel
theorem dX3_places_1 : decode cX3_places 1 = .ok (.getfield 9, 3) := by decide +kernel
theorem dX3_places_4 : decode cX3_places 4 = .ok (.arraylength, 1) := by decide +kernel
theorem dX3_places_5 : decode cX3_places 5 = .ok (.ireturn, 1) := by decide +kernel
theorem dX3_indexPlace_0 : decode cX3_indexPlace 0 = .ok (.aload_n 0, 1) := by decide +kernel
theorem dX3_indexPlace_1 : decode cX3_indexPlace 1 = .ok (.getfield 9, 3) := by decide +kernel
theorem dX3_indexPlace_4 : decode cX3_indexPlace 4 = .ok (.iload_n 1, 1) := by decide +kernel
theorem dX3_indexPlace_5 : decode cX3_indexPlace 5 = .ok (.iaload, 1) := by decide +kernel
theorem dX3_indexPlace_6 : decode cX3_indexPlace 6 = .ok (.ifCond .ne 21, 3) := by decide +kernel
theorem dX3_indexPlace_9 : decode cX3_indexPlace 9 = .ok (.aload_n 0, 1) := by decide +kernel
theorem dX3_indexPlace_10 : decode cX3_indexPlace 10 = .ok (.dup, 1) := by decide +kernel
theorem dX3_indexPlace_11 : decode cX3_indexPlace 11 = .ok (.getfield 35, 3) := by decide +kernel
theorem dX3_indexPlace_14 : decode cX3_indexPlace 14 = .ok (.iconst 1, 1) := by decide +kernel
theorem dX3_indexPlace_15 : decode cX3_indexPlace 15 = .ok (.iadd, 1) := by decide +kernel
theorem dX3_indexPlace_16 : decode cX3_indexPlace 16 = .ok (.putfield 35, 3) := by decide +kernel
theorem dX3_indexPlace_19 : decode cX3_indexPlace 19 = .ok (.aload_n 0, 1) := by decide +kernel
theorem dX3_indexPlace_20 : decode cX3_indexPlace 20 = .ok (.iload_n 1, 1) := by decide +kernel
theorem dX3_indexPlace_21 : decode cX3_indexPlace 21 = .ok (.putfield 38, 3) := by decide +kernel
theorem dX3_indexPlace_24 : decode cX3_indexPlace 24 = .ok (.goto 33, 3) := by decide +kernel
theorem dX3_indexPlace_27 : decode cX3_indexPlace 27 = .ok (.aload_n 0, 1) := by decide +kernel
theorem dX3_indexPlace_28 : decode cX3_indexPlace 28 = .ok (.getfield 9, 3) := by decide +kernel
theorem dX3_indexPlace_31 : decode cX3_indexPlace 31 = .ok (.iload_n 1, 1) := by decide +kernel
theorem dX3_indexPlace_32 : decode cX3_indexPlace 32 = .ok (.iaload, 1) := by decide +kernel
theorem dX3_indexPlace_33 : decode cX3_indexPlace 33 = .ok (.iconst 1, 1) := by decide +kernel
theorem dX3_indexPlace_34 : decode cX3_indexPlace 34 = .ok (.if_icmp .ne 18, 3) := by decide +kernel
theorem dX3_indexPlace_37 : decode cX3_indexPlace 37 = .ok (.aload_n 0, 1) := by decide +kernel
theorem dX3_indexPlace_38 : decode cX3_indexPlace 38 = .ok (.getfield 28, 3) := by decide +kernel
theorem dX3_indexPlace_41 : decode cX3_indexPlace 41 = .ok (.aload_n 0, 1) := by decide +kernel
theorem dX3_indexPlace_42 : decode cX3_indexPlace 42 = .ok (.getfield 15, 3) := by decide +kernel
theorem dX3_indexPlace_45 : decode cX3_indexPlace 45 = .ok (.iload_n 1, 1) := by decide +kernel
theorem dX3_indexPlace_46 : decode cX3_indexPlace 46 = .ok (.iaload, 1) := by decide +kernel
theorem dX3_indexPlace_47 : decode cX3_indexPlace 47 = .ok (.iload_n 1, 1) := by decide +kernel
theorem dX3_indexPlace_48 : decode cX3_indexPlace 48 = .ok (.iastore, 1) := by decide +kernel
theorem dX3_indexPlace_49 : decode cX3_indexPlace 49 = .ok (.goto 8, 3) := by decide +kernel
theorem dX3_indexPlace_52 : decode cX3_indexPlace 52 = .ok (.aload_n 0, 1) := by decide +kernel
theorem dX3_indexPlace_53 : decode cX3_indexPlace 53 = .ok (.iload_n 1, 1) := by decide +kernel
theorem dX3_indexPlace_54 : decode cX3_indexPlace 54 = .ok (.putfield 41, 3) := by decide +kernel
theorem dX3_indexPlace_57 : decode cX3_indexPlace 57 = .ok (.return_, 1) := by decide +kernel
theorem dX3_index_0 : decode cX3_index 0 = .ok (.iconst 0, 1) := by decide +kernel
theorem dX3_index_1 : decode cX3_index 1 = .ok (.istore_n 1, 1) := by decide +kernel
theorem dX3_index_2 : decode cX3_index 2 = .ok (.iload_n 1, 1) := by decide +kernel
theorem dX3_index_3 : decode cX3_index 3 = .ok (.bipush 64, 2) := by decide +kernel
theorem dX3_index_5 : decode cX3_index 5 = .ok (.if_icmp .ge 16, 3) := by decide +kernel
theorem dX3_index_8 : decode cX3_index 8 = .ok (.aload_n 0, 1) := by decide +kernel
theorem dX3_index_9 : decode cX3_index 9 = .ok (.getfield 28, 3) := by decide +kernel
theorem dX3_index_12 : decode cX3_index 12 = .ok (.iload_n 1, 1) := by decide +kernel
theorem dX3_index_13 : decode cX3_index 13 = .ok (.iconst (-1), 1) := by decide +kernel
theorem dX3_index_14 : decode cX3_index 14 = .ok (.iastore, 1) := by decide +kernel
theorem dX3_index_15 : decode cX3_index 15 = .ok (.iinc 1 1, 3) := by decide +kernel
theorem dX3_index_18 : decode cX3_index 18 = .ok (.goto (-16), 3) := by decide +kernel
theorem dX3_index_21 : decode cX3_index 21 = .ok (.aload_n 0, 1) := by decide +kernel
theorem dX3_index_22 : decode cX3_index 22 = .ok (.iconst (-1), 1) := by decide +kernel
theorem dX3_index_23 : decode cX3_index 23 = .ok (.putfield 41, 3) := by decide +kernel
theorem dX3_index_26 : decode cX3_index 26 = .ok (.aload_n 0, 1) := by decide +kernel
theorem dX3_index_27 : decode cX3_index 27 = .ok (.iconst 0, 1) := by decide +kernel
theorem dX3_index_28 : decode cX3_index 28 = .ok (.putfield 35, 3) := by decide +kernel
theorem dX3_index_31 : decode cX3_index 31 = .ok (.aload_n 0, 1) := by decide +kernel
theorem dX3_index_32 : decode cX3_index 32 = .ok (.iconst (-1), 1) := by decide +kernel
theorem dX3_index_33 : decode cX3_index 33 = .ok (.putfield 38, 3) := by decide +kernel
theorem dX3_index_36 : decode cX3_index 36 = .ok (.iconst 0, 1) := by decide +kernel
theorem dX3_index_37 : decode cX3_index 37 = .ok (.istore_n 1, 1) := by decide +kernel
theorem dX3_index_38 : decode cX3_index 38 = .ok (.iload_n 1, 1) := by decide +kernel
theorem dX3_index_39 : decode cX3_index 39 = .ok (.aload_n 0, 1) := by decide +kernel
theorem dX3_index_40 : decode cX3_index 40 = .ok (.getfield 31, 3) := by decide +kernel
theorem dX3_index_43 : decode cX3_index 43 = .ok (.if_icmp .ge 14, 3) := by decide +kernel
theorem dX3_index_46 : decode cX3_index 46 = .ok (.aload_n 0, 1) := by decide +kernel
theorem dX3_index_47 : decode cX3_index 47 = .ok (.iload_n 1, 1) := by decide +kernel
theorem dX3_index_48 : decode cX3_index 48 = .ok (.invokevirtual 59, 3) := by decide +kernel
theorem dX3_index_51 : decode cX3_index 51 = .ok (.iinc 1 1, 3) := by decide +kernel
theorem dX3_index_54 : decode cX3_index 54 = .ok (.goto (-16), 3) := by decide +kernel
theorem dX3_index_57 : decode cX3_index 57 = .ok (.return_, 1) := by decide +kernel
theorem dX3_clear_0 : decode cX3_clear 0 = .ok (.aload_n 0, 1) := by decide +kernel
theorem dX3_clear_1 : decode cX3_clear 1 = .ok (.iconst 0, 1) := by decide +kernel
theorem dX3_clear_2 : decode cX3_clear 2 = .ok (.putfield 31, 3) := by decide +kernel
theorem dX3_clear_5 : decode cX3_clear 5 = .ok (.aload_n 0, 1) := by decide +kernel
theorem dX3_clear_6 : decode cX3_clear 6 = .ok (.invokevirtual 48, 3) := by decide +kernel
theorem dX3_clear_9 : decode cX3_clear 9 = .ok (.return_, 1) := by decide +kernel
theorem dX3_isKey_0 : decode cX3_isKey 0 = .ok (.iload_n 0, 1) := by decide +kernel
theorem dX3_isKey_1 : decode cX3_isKey 1 = .ok (.ifCond .lt 13, 3) := by decide +kernel
theorem dX3_isKey_4 : decode cX3_isKey 4 = .ok (.iload_n 0, 1) := by decide +kernel
theorem dX3_isKey_5 : decode cX3_isKey 5 = .ok (.bipush 64, 2) := by decide +kernel
theorem dX3_isKey_7 : decode cX3_isKey 7 = .ok (.if_icmp .ge 7, 3) := by decide +kernel
theorem dX3_isKey_10 : decode cX3_isKey 10 = .ok (.iconst 1, 1) := by decide +kernel
theorem dX3_isKey_11 : decode cX3_isKey 11 = .ok (.goto 4, 3) := by decide +kernel
theorem dX3_isKey_14 : decode cX3_isKey 14 = .ok (.iconst 0, 1) := by decide +kernel
theorem dX3_isKey_15 : decode cX3_isKey 15 = .ok (.ireturn, 1) := by decide +kernel
theorem dX3_isUser_0 : decode cX3_isUser 0 = .ok (.iload_n 0, 1) := by decide +kernel
theorem dX3_isUser_1 : decode cX3_isUser 1 = .ok (.ifCond .lt 13, 3) := by decide +kernel
theorem dX3_isUser_4 : decode cX3_isUser 4 = .ok (.iload_n 0, 1) := by decide +kernel
theorem dX3_isUser_5 : decode cX3_isUser 5 = .ok (.bipush 8, 2) := by decide +kernel
theorem dX3_isUser_7 : decode cX3_isUser 7 = .ok (.if_icmp .ge 7, 3) := by decide +kernel
theorem dX3_isUser_10 : decode cX3_isUser 10 = .ok (.iconst 1, 1) := by decide +kernel
theorem dX3_isUser_11 : decode cX3_isUser 11 = .ok (.goto 4, 3) := by decide +kernel
theorem dX3_isUser_14 : decode cX3_isUser 14 = .ok (.iconst 0, 1) := by decide +kernel
theorem dX3_isUser_15 : decode cX3_isUser 15 = .ok (.ireturn, 1) := by decide +kernel
theorem dX3_isFull_0 : decode cX3_isFull 0 = .ok (.aload_n 0, 1) := by decide +kernel
theorem dX3_isFull_1 : decode cX3_isFull 1 = .ok (.getfield 31, 3) := by decide +kernel
theorem dX3_isFull_4 : decode cX3_isFull 4 = .ok (.aload_n 0, 1) := by decide +kernel
theorem dX3_isFull_5 : decode cX3_isFull 5 = .ok (.getfield 9, 3) := by decide +kernel
theorem dX3_isFull_8 : decode cX3_isFull 8 = .ok (.arraylength, 1) := by decide +kernel
theorem dX3_isFull_9 : decode cX3_isFull 9 = .ok (.if_icmp .lt 7, 3) := by decide +kernel
theorem dX3_isFull_12 : decode cX3_isFull 12 = .ok (.iconst 1, 1) := by decide +kernel
theorem dX3_isFull_13 : decode cX3_isFull 13 = .ok (.goto 4, 3) := by decide +kernel
theorem dX3_isFull_16 : decode cX3_isFull 16 = .ok (.iconst 0, 1) := by decide +kernel
theorem dX3_isFull_17 : decode cX3_isFull 17 = .ok (.ireturn, 1) := by decide +kernel
theorem dX3_kindAt_0 : decode cX3_kindAt 0 = .ok (.iload_n 1, 1) := by decide +kernel
theorem dX3_kindAt_1 : decode cX3_kindAt 1 = .ok (.ifCond .lt 20, 3) := by decide +kernel
theorem dX3_kindAt_4 : decode cX3_kindAt 4 = .ok (.iload_n 1, 1) := by decide +kernel
theorem dX3_kindAt_5 : decode cX3_kindAt 5 = .ok (.aload_n 0, 1) := by decide +kernel
theorem dX3_kindAt_6 : decode cX3_kindAt 6 = .ok (.getfield 31, 3) := by decide +kernel
theorem dX3_kindAt_9 : decode cX3_kindAt 9 = .ok (.if_icmp .ge 12, 3) := by decide +kernel
theorem dX3_kindAt_12 : decode cX3_kindAt 12 = .ok (.aload_n 0, 1) := by decide +kernel
theorem dX3_kindAt_13 : decode cX3_kindAt 13 = .ok (.getfield 9, 3) := by decide +kernel
theorem dX3_kindAt_16 : decode cX3_kindAt 16 = .ok (.iload_n 1, 1) := by decide +kernel
theorem dX3_kindAt_17 : decode cX3_kindAt 17 = .ok (.iaload, 1) := by decide +kernel
theorem dX3_kindAt_18 : decode cX3_kindAt 18 = .ok (.goto 4, 3) := by decide +kernel
theorem dX3_kindAt_21 : decode cX3_kindAt 21 = .ok (.iconst 0, 1) := by decide +kernel
theorem dX3_kindAt_22 : decode cX3_kindAt 22 = .ok (.ireturn, 1) := by decide +kernel
theorem dX3_askCount_0 : decode cX3_askCount 0 = .ok (.aload_n 0, 1) := by decide +kernel
theorem dX3_askCount_1 : decode cX3_askCount 1 = .ok (.getfield 18, 3) := by decide +kernel
theorem dX3_askCount_4 : decode cX3_askCount 4 = .ok (.iload_n 1, 1) := by decide +kernel
theorem dX3_askCount_5 : decode cX3_askCount 5 = .ok (.iaload, 1) := by decide +kernel
theorem dX3_askCount_6 : decode cX3_askCount 6 = .ok (.ireturn, 1) := by decide +kernel
theorem dX3_askAt_0 : decode cX3_askAt 0 = .ok (.aload_n 0, 1) := by decide +kernel
theorem dX3_askAt_1 : decode cX3_askAt 1 = .ok (.getfield 21, 3) := by decide +kernel
theorem dX3_askAt_4 : decode cX3_askAt 4 = .ok (.iload_n 1, 1) := by decide +kernel
theorem dX3_askAt_5 : decode cX3_askAt 5 = .ok (.bipush 6, 2) := by decide +kernel
theorem dX3_askAt_7 : decode cX3_askAt 7 = .ok (.imul, 1) := by decide +kernel
theorem dX3_askAt_8 : decode cX3_askAt 8 = .ok (.iload_n 2, 1) := by decide +kernel
theorem dX3_askAt_9 : decode cX3_askAt 9 = .ok (.iadd, 1) := by decide +kernel
theorem dX3_askAt_10 : decode cX3_askAt 10 = .ok (.iaload, 1) := by decide +kernel
theorem dX3_askAt_11 : decode cX3_askAt 11 = .ok (.ireturn, 1) := by decide +kernel
theorem dX3_digestAt_0 : decode cX3_digestAt 0 = .ok (.aload_n 0, 1) := by decide +kernel
theorem dX3_digestAt_1 : decode cX3_digestAt 1 = .ok (.getfield 24, 3) := by decide +kernel
theorem dX3_digestAt_4 : decode cX3_digestAt 4 = .ok (.iload_n 1, 1) := by decide +kernel
theorem dX3_digestAt_5 : decode cX3_digestAt 5 = .ok (.laload, 1) := by decide +kernel
theorem dX3_digestAt_6 : decode cX3_digestAt 6 = .ok (.lreturn, 1) := by decide +kernel
theorem dX3_latest_0 : decode cX3_latest 0 = .ok (.aload_n 0, 1) := by decide +kernel
theorem dX3_latest_1 : decode cX3_latest 1 = .ok (.getfield 28, 3) := by decide +kernel
theorem dX3_latest_4 : decode cX3_latest 4 = .ok (.iload_n 1, 1) := by decide +kernel
theorem dX3_latest_5 : decode cX3_latest 5 = .ok (.iaload, 1) := by decide +kernel
theorem dX3_latest_6 : decode cX3_latest 6 = .ok (.ireturn, 1) := by decide +kernel
theorem dX3_isWrongBehind_0 : decode cX3_isWrongBehind 0 = .ok (.aload_n 0, 1) := by decide +kernel
theorem dX3_isWrongBehind_1 : decode cX3_isWrongBehind 1 = .ok (.getfield 38, 3) := by decide +kernel
theorem dX3_isWrongBehind_4 : decode cX3_isWrongBehind 4 = .ok (.iload_n 1, 1) := by decide +kernel
theorem dX3_isWrongBehind_5 : decode cX3_isWrongBehind 5 = .ok (.if_icmp .le 7, 3) := by decide +kernel
theorem dX3_isWrongBehind_8 : decode cX3_isWrongBehind 8 = .ok (.iconst 1, 1) := by decide +kernel
theorem dX3_isWrongBehind_9 : decode cX3_isWrongBehind 9 = .ok (.goto 4, 3) := by decide +kernel
theorem dX3_isWrongBehind_12 : decode cX3_isWrongBehind 12 = .ok (.iconst 0, 1) := by decide +kernel
theorem dX3_isWrongBehind_13 : decode cX3_isWrongBehind 13 = .ok (.ireturn, 1) := by decide +kernel
theorem dX3_lockHolder_0 : decode cX3_lockHolder 0 = .ok (.aload_n 0, 1) := by decide +kernel
theorem dX3_lockHolder_1 : decode cX3_lockHolder 1 = .ok (.getfield 41, 3) := by decide +kernel
theorem dX3_lockHolder_4 : decode cX3_lockHolder 4 = .ok (.iconst (-1), 1) := by decide +kernel
theorem dX3_lockHolder_5 : decode cX3_lockHolder 5 = .ok (.if_icmp .eq 28, 3) := by decide +kernel
theorem dX3_lockHolder_8 : decode cX3_lockHolder 8 = .ok (.aload_n 0, 1) := by decide +kernel
theorem dX3_lockHolder_9 : decode cX3_lockHolder 9 = .ok (.getfield 9, 3) := by decide +kernel
theorem dX3_lockHolder_12 : decode cX3_lockHolder 12 = .ok (.aload_n 0, 1) := by decide +kernel
theorem dX3_lockHolder_13 : decode cX3_lockHolder 13 = .ok (.getfield 41, 3) := by decide +kernel
theorem dX3_lockHolder_16 : decode cX3_lockHolder 16 = .ok (.iaload, 1) := by decide +kernel
theorem dX3_lockHolder_17 : decode cX3_lockHolder 17 = .ok (.iconst 2, 1) := by decide +kernel
theorem dX3_lockHolder_18 : decode cX3_lockHolder 18 = .ok (.if_icmp .ne 15, 3) := by decide +kernel
theorem dX3_lockHolder_21 : decode cX3_lockHolder 21 = .ok (.aload_n 0, 1) := by decide +kernel
theorem dX3_lockHolder_22 : decode cX3_lockHolder 22 = .ok (.getfield 15, 3) := by decide +kernel
theorem dX3_lockHolder_25 : decode cX3_lockHolder 25 = .ok (.aload_n 0, 1) := by decide +kernel
theorem dX3_lockHolder_26 : decode cX3_lockHolder 26 = .ok (.getfield 41, 3) := by decide +kernel
theorem dX3_lockHolder_29 : decode cX3_lockHolder 29 = .ok (.iaload, 1) := by decide +kernel
theorem dX3_lockHolder_30 : decode cX3_lockHolder 30 = .ok (.goto 4, 3) := by decide +kernel
theorem dX3_lockHolder_33 : decode cX3_lockHolder 33 = .ok (.iconst (-1), 1) := by decide +kernel
theorem dX3_lockHolder_34 : decode cX3_lockHolder 34 = .ok (.ireturn, 1) := by decide +kernel
theorem dX3_isToCopy_0 : decode cX3_isToCopy 0 = .ok (.aload_n 0, 1) := by decide +kernel
theorem dX3_isToCopy_1 : decode cX3_isToCopy 1 = .ok (.getfield 9, 3) := by decide +kernel
theorem dX3_isToCopy_4 : decode cX3_isToCopy 4 = .ok (.iload_n 1, 1) := by decide +kernel
theorem dX3_isToCopy_5 : decode cX3_isToCopy 5 = .ok (.iaload, 1) := by decide +kernel
theorem dX3_isToCopy_6 : decode cX3_isToCopy 6 = .ok (.iconst 1, 1) := by decide +kernel
theorem dX3_isToCopy_7 : decode cX3_isToCopy 7 = .ok (.if_icmp .ne 32, 3) := by decide +kernel
theorem dX3_isToCopy_10 : decode cX3_isToCopy 10 = .ok (.aload_n 0, 1) := by decide +kernel
theorem dX3_isToCopy_11 : decode cX3_isToCopy 11 = .ok (.getfield 28, 3) := by decide +kernel
theorem dX3_isToCopy_14 : decode cX3_isToCopy 14 = .ok (.aload_n 0, 1) := by decide +kernel
theorem dX3_isToCopy_15 : decode cX3_isToCopy 15 = .ok (.getfield 15, 3) := by decide +kernel
theorem dX3_isToCopy_18 : decode cX3_isToCopy 18 = .ok (.iload_n 1, 1) := by decide +kernel
theorem dX3_isToCopy_19 : decode cX3_isToCopy 19 = .ok (.iaload, 1) := by decide +kernel
theorem dX3_isToCopy_20 : decode cX3_isToCopy 20 = .ok (.iaload, 1) := by decide +kernel
theorem dX3_isToCopy_21 : decode cX3_isToCopy 21 = .ok (.iload_n 1, 1) := by decide +kernel
theorem dX3_isToCopy_22 : decode cX3_isToCopy 22 = .ok (.if_icmp .ne 15, 3) := by decide +kernel
theorem dX3_isToCopy_25 : decode cX3_isToCopy 25 = .ok (.aload_n 0, 1) := by decide +kernel
theorem dX3_isToCopy_26 : decode cX3_isToCopy 26 = .ok (.iload_n 1, 1) := by decide +kernel
theorem dX3_isToCopy_27 : decode cX3_isToCopy 27 = .ok (.invokevirtual 44, 3) := by decide +kernel
theorem dX3_isToCopy_30 : decode cX3_isToCopy 30 = .ok (.ifCond .ne 7, 3) := by decide +kernel
theorem dX3_isToCopy_33 : decode cX3_isToCopy 33 = .ok (.iconst 1, 1) := by decide +kernel
theorem dX3_isToCopy_34 : decode cX3_isToCopy 34 = .ok (.goto 4, 3) := by decide +kernel
theorem dX3_isToCopy_37 : decode cX3_isToCopy 37 = .ok (.iconst 0, 1) := by decide +kernel
theorem dX3_isToCopy_38 : decode cX3_isToCopy 38 = .ok (.ireturn, 1) := by decide +kernel
theorem dX3_isToCopy_39 : decode cX3_isToCopy 39 = .ok (.iload_n 1, 1) := by decide +kernel
theorem dX3_isToCopy_40 : decode cX3_isToCopy 40 = .ok (.aload_n 0, 1) := by decide +kernel
theorem dX3_isToCopy_41 : decode cX3_isToCopy 41 = .ok (.getfield 41, 3) := by decide +kernel
theorem dX3_isToCopy_44 : decode cX3_isToCopy 44 = .ok (.if_icmp .ne 7, 3) := by decide +kernel
theorem dX3_isToCopy_47 : decode cX3_isToCopy 47 = .ok (.iconst 1, 1) := by decide +kernel
theorem dX3_isToCopy_48 : decode cX3_isToCopy 48 = .ok (.goto 4, 3) := by decide +kernel
theorem dX3_isToCopy_51 : decode cX3_isToCopy 51 = .ok (.iconst 0, 1) := by decide +kernel
theorem dX3_isToCopy_52 : decode cX3_isToCopy 52 = .ok (.ireturn, 1) := by decide +kernel
theorem dX3_areKeys_0 : decode cX3_areKeys 0 = .ok (.iload_n 2, 1) := by decide +kernel
theorem dX3_areKeys_1 : decode cX3_areKeys 1 = .ok (.ifCond .lt 9, 3) := by decide +kernel
theorem dX3_areKeys_4 : decode cX3_areKeys 4 = .ok (.iload_n 2, 1) := by decide +kernel
theorem dX3_areKeys_5 : decode cX3_areKeys 5 = .ok (.bipush 6, 2) := by decide +kernel
theorem dX3_areKeys_7 : decode cX3_areKeys 7 = .ok (.if_icmp .le 5, 3) := by decide +kernel
theorem dX3_areKeys_10 : decode cX3_areKeys 10 = .ok (.iconst 0, 1) := by decide +kernel
theorem dX3_areKeys_11 : decode cX3_areKeys 11 = .ok (.ireturn, 1) := by decide +kernel
theorem dX3_areKeys_12 : decode cX3_areKeys 12 = .ok (.iconst 0, 1) := by decide +kernel
theorem dX3_areKeys_13 : decode cX3_areKeys 13 = .ok (.istore_n 3, 1) := by decide +kernel
theorem dX3_areKeys_14 : decode cX3_areKeys 14 = .ok (.iload_n 3, 1) := by decide +kernel
theorem dX3_areKeys_15 : decode cX3_areKeys 15 = .ok (.iload_n 2, 1) := by decide +kernel
theorem dX3_areKeys_16 : decode cX3_areKeys 16 = .ok (.if_icmp .ge 22, 3) := by decide +kernel
theorem dX3_areKeys_19 : decode cX3_areKeys 19 = .ok (.aload_n 0, 1) := by decide +kernel
theorem dX3_areKeys_20 : decode cX3_areKeys 20 = .ok (.iload_n 1, 1) := by decide +kernel
theorem dX3_areKeys_21 : decode cX3_areKeys 21 = .ok (.iload_n 3, 1) := by decide +kernel
theorem dX3_areKeys_22 : decode cX3_areKeys 22 = .ok (.iadd, 1) := by decide +kernel
theorem dX3_areKeys_23 : decode cX3_areKeys 23 = .ok (.baload, 1) := by decide +kernel
theorem dX3_areKeys_24 : decode cX3_areKeys 24 = .ok (.invokestatic 81, 3) := by decide +kernel
theorem dX3_areKeys_27 : decode cX3_areKeys 27 = .ok (.ifCond .ne 5, 3) := by decide +kernel
theorem dX3_areKeys_30 : decode cX3_areKeys 30 = .ok (.iconst 0, 1) := by decide +kernel
theorem dX3_areKeys_31 : decode cX3_areKeys 31 = .ok (.ireturn, 1) := by decide +kernel
theorem dX3_areKeys_32 : decode cX3_areKeys 32 = .ok (.iinc 3 1, 3) := by decide +kernel
theorem dX3_areKeys_35 : decode cX3_areKeys 35 = .ok (.goto (-21), 3) := by decide +kernel
theorem dX3_areKeys_38 : decode cX3_areKeys 38 = .ok (.iconst 1, 1) := by decide +kernel
theorem dX3_areKeys_39 : decode cX3_areKeys 39 = .ok (.ireturn, 1) := by decide +kernel
theorem dX3_isRow_0 : decode cX3_isRow 0 = .ok (.aload_n 0, 1) := by decide +kernel
theorem dX3_isRow_1 : decode cX3_isRow 1 = .ok (.iload_n 1, 1) := by decide +kernel
theorem dX3_isRow_2 : decode cX3_isRow 2 = .ok (.baload, 1) := by decide +kernel
theorem dX3_isRow_3 : decode cX3_isRow 3 = .ok (.istore_n 3, 1) := by decide +kernel
theorem dX3_isRow_4 : decode cX3_isRow 4 = .ok (.aload_n 0, 1) := by decide +kernel
theorem dX3_isRow_5 : decode cX3_isRow 5 = .ok (.iload_n 1, 1) := by decide +kernel
theorem dX3_isRow_6 : decode cX3_isRow 6 = .ok (.iconst 1, 1) := by decide +kernel
theorem dX3_isRow_7 : decode cX3_isRow 7 = .ok (.iadd, 1) := by decide +kernel
theorem dX3_isRow_8 : decode cX3_isRow 8 = .ok (.baload, 1) := by decide +kernel
theorem dX3_isRow_9 : decode cX3_isRow 9 = .ok (.istore 4, 2) := by decide +kernel
theorem dX3_isRow_11 : decode cX3_isRow 11 = .ok (.aload_n 0, 1) := by decide +kernel
theorem dX3_isRow_12 : decode cX3_isRow 12 = .ok (.iload_n 1, 1) := by decide +kernel
theorem dX3_isRow_13 : decode cX3_isRow 13 = .ok (.iconst 2, 1) := by decide +kernel
theorem dX3_isRow_14 : decode cX3_isRow 14 = .ok (.iadd, 1) := by decide +kernel
theorem dX3_isRow_15 : decode cX3_isRow 15 = .ok (.baload, 1) := by decide +kernel
theorem dX3_isRow_16 : decode cX3_isRow 16 = .ok (.istore 5, 2) := by decide +kernel
theorem dX3_isRow_18 : decode cX3_isRow 18 = .ok (.iload_n 3, 1) := by decide +kernel
theorem dX3_isRow_19 : decode cX3_isRow 19 = .ok (.iconst 1, 1) := by decide +kernel
theorem dX3_isRow_20 : decode cX3_isRow 20 = .ok (.if_icmp .ne 25, 3) := by decide +kernel
theorem dX3_isRow_23 : decode cX3_isRow 23 = .ok (.iload 4, 2) := by decide +kernel
theorem dX3_isRow_25 : decode cX3_isRow 25 = .ok (.invokestatic 81, 3) := by decide +kernel
theorem dX3_isRow_28 : decode cX3_isRow 28 = .ok (.ifCond .eq 15, 3) := by decide +kernel
theorem dX3_isRow_31 : decode cX3_isRow 31 = .ok (.aload_n 0, 1) := by decide +kernel
theorem dX3_isRow_32 : decode cX3_isRow 32 = .ok (.iload_n 1, 1) := by decide +kernel
theorem dX3_isRow_33 : decode cX3_isRow 33 = .ok (.iconst 3, 1) := by decide +kernel
theorem dX3_isRow_34 : decode cX3_isRow 34 = .ok (.iadd, 1) := by decide +kernel
theorem dX3_isRow_35 : decode cX3_isRow 35 = .ok (.iload 5, 2) := by decide +kernel
theorem dX3_isRow_37 : decode cX3_isRow 37 = .ok (.invokestatic 84, 3) := by decide +kernel
theorem dX3_isRow_40 : decode cX3_isRow 40 = .ok (.ifCond .ne 30, 3) := by decide +kernel
theorem dX3_isRow_43 : decode cX3_isRow 43 = .ok (.iconst 0, 1) := by decide +kernel
theorem dX3_isRow_44 : decode cX3_isRow 44 = .ok (.ireturn, 1) := by decide +kernel
theorem dX3_isRow_45 : decode cX3_isRow 45 = .ok (.iload_n 3, 1) := by decide +kernel
theorem dX3_isRow_46 : decode cX3_isRow 46 = .ok (.iconst 2, 1) := by decide +kernel
theorem dX3_isRow_47 : decode cX3_isRow 47 = .ok (.if_icmp .eq 8, 3) := by decide +kernel
theorem dX3_isRow_50 : decode cX3_isRow 50 = .ok (.iload_n 3, 1) := by decide +kernel
theorem dX3_isRow_51 : decode cX3_isRow 51 = .ok (.iconst 3, 1) := by decide +kernel
theorem dX3_isRow_52 : decode cX3_isRow 52 = .ok (.if_icmp .ne 16, 3) := by decide +kernel
theorem dX3_isRow_55 : decode cX3_isRow 55 = .ok (.iload 4, 2) := by decide +kernel
theorem dX3_isRow_57 : decode cX3_isRow 57 = .ok (.invokestatic 87, 3) := by decide +kernel
theorem dX3_isRow_60 : decode cX3_isRow 60 = .ok (.ifCond .eq 8, 3) := by decide +kernel
theorem dX3_isRow_63 : decode cX3_isRow 63 = .ok (.iload 5, 2) := by decide +kernel
theorem dX3_isRow_65 : decode cX3_isRow 65 = .ok (.ifCond .eq 5, 3) := by decide +kernel
theorem dX3_isRow_68 : decode cX3_isRow 68 = .ok (.iconst 0, 1) := by decide +kernel
theorem dX3_isRow_69 : decode cX3_isRow 69 = .ok (.ireturn, 1) := by decide +kernel
theorem dX3_isRow_70 : decode cX3_isRow 70 = .ok (.aload_n 0, 1) := by decide +kernel
theorem dX3_isRow_71 : decode cX3_isRow 71 = .ok (.iload_n 1, 1) := by decide +kernel
theorem dX3_isRow_72 : decode cX3_isRow 72 = .ok (.bipush 28, 2) := by decide +kernel
theorem dX3_isRow_74 : decode cX3_isRow 74 = .ok (.iload_n 2, 1) := by decide +kernel
theorem dX3_isRow_75 : decode cX3_isRow 75 = .ok (.invokestatic 90, 3) := by decide +kernel
theorem dX3_isRow_78 : decode cX3_isRow 78 = .ok (.ireturn, 1) := by decide +kernel
theorem dX3_readRow_0 : decode cX3_readRow 0 = .ok (.aload_n 0, 1) := by decide +kernel
theorem dX3_readRow_1 : decode cX3_readRow 1 = .ok (.getfield 9, 3) := by decide +kernel
theorem dX3_readRow_4 : decode cX3_readRow 4 = .ok (.iload_n 3, 1) := by decide +kernel
theorem dX3_readRow_5 : decode cX3_readRow 5 = .ok (.aload_n 1, 1) := by decide +kernel
theorem dX3_readRow_6 : decode cX3_readRow 6 = .ok (.iload_n 2, 1) := by decide +kernel
theorem dX3_readRow_7 : decode cX3_readRow 7 = .ok (.baload, 1) := by decide +kernel
theorem dX3_readRow_8 : decode cX3_readRow 8 = .ok (.iastore, 1) := by decide +kernel
theorem dX3_readRow_9 : decode cX3_readRow 9 = .ok (.aload_n 0, 1) := by decide +kernel
theorem dX3_readRow_10 : decode cX3_readRow 10 = .ok (.getfield 15, 3) := by decide +kernel
theorem dX3_readRow_13 : decode cX3_readRow 13 = .ok (.iload_n 3, 1) := by decide +kernel
theorem dX3_readRow_14 : decode cX3_readRow 14 = .ok (.aload_n 1, 1) := by decide +kernel
theorem dX3_readRow_15 : decode cX3_readRow 15 = .ok (.iload_n 2, 1) := by decide +kernel
theorem dX3_readRow_16 : decode cX3_readRow 16 = .ok (.iconst 1, 1) := by decide +kernel
theorem dX3_readRow_17 : decode cX3_readRow 17 = .ok (.iadd, 1) := by decide +kernel
theorem dX3_readRow_18 : decode cX3_readRow 18 = .ok (.baload, 1) := by decide +kernel
theorem dX3_readRow_19 : decode cX3_readRow 19 = .ok (.iastore, 1) := by decide +kernel
theorem dX3_readRow_20 : decode cX3_readRow 20 = .ok (.aload_n 0, 1) := by decide +kernel
theorem dX3_readRow_21 : decode cX3_readRow 21 = .ok (.getfield 18, 3) := by decide +kernel
theorem dX3_readRow_24 : decode cX3_readRow 24 = .ok (.iload_n 3, 1) := by decide +kernel
theorem dX3_readRow_25 : decode cX3_readRow 25 = .ok (.aload_n 1, 1) := by decide +kernel
theorem dX3_readRow_26 : decode cX3_readRow 26 = .ok (.iload_n 2, 1) := by decide +kernel
theorem dX3_readRow_27 : decode cX3_readRow 27 = .ok (.iconst 2, 1) := by decide +kernel
theorem dX3_readRow_28 : decode cX3_readRow 28 = .ok (.iadd, 1) := by decide +kernel
theorem dX3_readRow_29 : decode cX3_readRow 29 = .ok (.baload, 1) := by decide +kernel
theorem dX3_readRow_30 : decode cX3_readRow 30 = .ok (.iastore, 1) := by decide +kernel
theorem dX3_readRow_31 : decode cX3_readRow 31 = .ok (.iconst 0, 1) := by decide +kernel
theorem dX3_readRow_32 : decode cX3_readRow 32 = .ok (.istore 4, 2) := by decide +kernel
theorem dX3_readRow_34 : decode cX3_readRow 34 = .ok (.iload 4, 2) := by decide +kernel
theorem dX3_readRow_36 : decode cX3_readRow 36 = .ok (.bipush 6, 2) := by decide +kernel
theorem dX3_readRow_38 : decode cX3_readRow 38 = .ok (.if_icmp .ge 29, 3) := by decide +kernel
theorem dX3_readRow_41 : decode cX3_readRow 41 = .ok (.aload_n 0, 1) := by decide +kernel
theorem dX3_readRow_42 : decode cX3_readRow 42 = .ok (.getfield 21, 3) := by decide +kernel
theorem dX3_readRow_45 : decode cX3_readRow 45 = .ok (.iload_n 3, 1) := by decide +kernel
theorem dX3_readRow_46 : decode cX3_readRow 46 = .ok (.bipush 6, 2) := by decide +kernel
theorem dX3_readRow_48 : decode cX3_readRow 48 = .ok (.imul, 1) := by decide +kernel
theorem dX3_readRow_49 : decode cX3_readRow 49 = .ok (.iload 4, 2) := by decide +kernel
theorem dX3_readRow_51 : decode cX3_readRow 51 = .ok (.iadd, 1) := by decide +kernel
theorem dX3_readRow_52 : decode cX3_readRow 52 = .ok (.aload_n 1, 1) := by decide +kernel
theorem dX3_readRow_53 : decode cX3_readRow 53 = .ok (.iload_n 2, 1) := by decide +kernel
theorem dX3_readRow_54 : decode cX3_readRow 54 = .ok (.iconst 3, 1) := by decide +kernel
theorem dX3_readRow_55 : decode cX3_readRow 55 = .ok (.iadd, 1) := by decide +kernel
theorem dX3_readRow_56 : decode cX3_readRow 56 = .ok (.iload 4, 2) := by decide +kernel
theorem dX3_readRow_58 : decode cX3_readRow 58 = .ok (.iadd, 1) := by decide +kernel
theorem dX3_readRow_59 : decode cX3_readRow 59 = .ok (.baload, 1) := by decide +kernel
theorem dX3_readRow_60 : decode cX3_readRow 60 = .ok (.iastore, 1) := by decide +kernel
theorem dX3_readRow_61 : decode cX3_readRow 61 = .ok (.iinc 4 1, 3) := by decide +kernel
theorem dX3_readRow_64 : decode cX3_readRow 64 = .ok (.goto (-30), 3) := by decide +kernel
theorem dX3_readRow_67 : decode cX3_readRow 67 = .ok (.aload_n 0, 1) := by decide +kernel
theorem dX3_readRow_68 : decode cX3_readRow 68 = .ok (.getfield 24, 3) := by decide +kernel
theorem dX3_readRow_71 : decode cX3_readRow 71 = .ok (.iload_n 3, 1) := by decide +kernel
theorem dX3_readRow_72 : decode cX3_readRow 72 = .ok (.aload_n 0, 1) := by decide +kernel
theorem dX3_readRow_73 : decode cX3_readRow 73 = .ok (.getfield 9, 3) := by decide +kernel
theorem dX3_readRow_76 : decode cX3_readRow 76 = .ok (.iload_n 3, 1) := by decide +kernel
theorem dX3_readRow_77 : decode cX3_readRow 77 = .ok (.iaload, 1) := by decide +kernel
theorem dX3_readRow_78 : decode cX3_readRow 78 = .ok (.iconst 1, 1) := by decide +kernel
theorem dX3_readRow_79 : decode cX3_readRow 79 = .ok (.if_icmp .ne 16, 3) := by decide +kernel
theorem dX3_readRow_82 : decode cX3_readRow 82 = .ok (.aload_n 1, 1) := by decide +kernel
theorem dX3_readRow_83 : decode cX3_readRow 83 = .ok (.iload_n 2, 1) := by decide +kernel
theorem dX3_readRow_84 : decode cX3_readRow 84 = .ok (.bipush 16, 2) := by decide +kernel
theorem dX3_readRow_86 : decode cX3_readRow 86 = .ok (.iadd, 1) := by decide +kernel
theorem dX3_readRow_87 : decode cX3_readRow 87 = .ok (.bipush 8, 2) := by decide +kernel
theorem dX3_readRow_89 : decode cX3_readRow 89 = .ok (.invokestatic 94, 3) := by decide +kernel
theorem dX3_readRow_92 : decode cX3_readRow 92 = .ok (.goto 4, 3) := by decide +kernel
theorem dX3_readRow_95 : decode cX3_readRow 95 = .ok (.lconst 0, 1) := by decide +kernel
theorem dX3_readRow_96 : decode cX3_readRow 96 = .ok (.lastore, 1) := by decide +kernel
theorem dX3_readRow_97 : decode cX3_readRow 97 = .ok (.return_, 1) := by decide +kernel
theorem dX3_read_0 : decode cX3_read 0 = .ok (.aload_n 0, 1) := by decide +kernel
theorem dX3_read_1 : decode cX3_read 1 = .ok (.iconst 0, 1) := by decide +kernel
theorem dX3_read_2 : decode cX3_read 2 = .ok (.putfield 31, 3) := by decide +kernel
theorem dX3_read_5 : decode cX3_read 5 = .ok (.iconst 0, 1) := by decide +kernel
theorem dX3_read_6 : decode cX3_read 6 = .ok (.istore_n 3, 1) := by decide +kernel
theorem dX3_read_7 : decode cX3_read 7 = .ok (.iload_n 3, 1) := by decide +kernel
theorem dX3_read_8 : decode cX3_read 8 = .ok (.aload_n 0, 1) := by decide +kernel
theorem dX3_read_9 : decode cX3_read 9 = .ok (.getfield 9, 3) := by decide +kernel
theorem dX3_read_12 : decode cX3_read 12 = .ok (.arraylength, 1) := by decide +kernel
theorem dX3_read_13 : decode cX3_read 13 = .ok (.if_icmp .ge 52, 3) := by decide +kernel
theorem dX3_read_16 : decode cX3_read 16 = .ok (.iload_n 2, 1) := by decide +kernel
theorem dX3_read_17 : decode cX3_read 17 = .ok (.iload_n 3, 1) := by decide +kernel
theorem dX3_read_18 : decode cX3_read 18 = .ok (.bipush 32, 2) := by decide +kernel
theorem dX3_read_20 : decode cX3_read 20 = .ok (.imul, 1) := by decide +kernel
theorem dX3_read_21 : decode cX3_read 21 = .ok (.iadd, 1) := by decide +kernel
theorem dX3_read_22 : decode cX3_read 22 = .ok (.istore 4, 2) := by decide +kernel
theorem dX3_read_24 : decode cX3_read 24 = .ok (.aload_n 1, 1) := by decide +kernel
theorem dX3_read_25 : decode cX3_read 25 = .ok (.iload 4, 2) := by decide +kernel
theorem dX3_read_27 : decode cX3_read 27 = .ok (.iload_n 3, 1) := by decide +kernel
theorem dX3_read_28 : decode cX3_read 28 = .ok (.invokestatic 51, 3) := by decide +kernel
theorem dX3_read_31 : decode cX3_read 31 = .ok (.ifCond .eq 21, 3) := by decide +kernel
theorem dX3_read_34 : decode cX3_read 34 = .ok (.aload_n 0, 1) := by decide +kernel
theorem dX3_read_35 : decode cX3_read 35 = .ok (.aload_n 1, 1) := by decide +kernel
theorem dX3_read_36 : decode cX3_read 36 = .ok (.iload 4, 2) := by decide +kernel
theorem dX3_read_38 : decode cX3_read 38 = .ok (.iload_n 3, 1) := by decide +kernel
theorem dX3_read_39 : decode cX3_read 39 = .ok (.invokevirtual 55, 3) := by decide +kernel
theorem dX3_read_42 : decode cX3_read 42 = .ok (.aload_n 0, 1) := by decide +kernel
theorem dX3_read_43 : decode cX3_read 43 = .ok (.iload_n 3, 1) := by decide +kernel
theorem dX3_read_44 : decode cX3_read 44 = .ok (.iconst 1, 1) := by decide +kernel
theorem dX3_read_45 : decode cX3_read 45 = .ok (.iadd, 1) := by decide +kernel
theorem dX3_read_46 : decode cX3_read 46 = .ok (.putfield 31, 3) := by decide +kernel
theorem dX3_read_49 : decode cX3_read 49 = .ok (.goto 10, 3) := by decide +kernel
theorem dX3_read_52 : decode cX3_read 52 = .ok (.aload_n 0, 1) := by decide +kernel
theorem dX3_read_53 : decode cX3_read 53 = .ok (.getfield 9, 3) := by decide +kernel
theorem dX3_read_56 : decode cX3_read 56 = .ok (.iload_n 3, 1) := by decide +kernel
theorem dX3_read_57 : decode cX3_read 57 = .ok (.iconst 0, 1) := by decide +kernel
theorem dX3_read_58 : decode cX3_read 58 = .ok (.iastore, 1) := by decide +kernel
theorem dX3_read_59 : decode cX3_read 59 = .ok (.iinc 3 1, 3) := by decide +kernel
theorem dX3_read_62 : decode cX3_read 62 = .ok (.goto (-55), 3) := by decide +kernel
theorem dX3_read_65 : decode cX3_read 65 = .ok (.aload_n 0, 1) := by decide +kernel
theorem dX3_read_66 : decode cX3_read 66 = .ok (.invokevirtual 48, 3) := by decide +kernel
theorem dX3_read_69 : decode cX3_read 69 = .ok (.return_, 1) := by decide +kernel
theorem dX3_append_0 : decode cX3_append 0 = .ok (.aload_n 0, 1) := by decide +kernel
theorem dX3_append_1 : decode cX3_append 1 = .ok (.getfield 31, 3) := by decide +kernel
theorem dX3_append_4 : decode cX3_append 4 = .ok (.istore 5, 2) := by decide +kernel
theorem dX3_append_6 : decode cX3_append 6 = .ok (.aload_n 0, 1) := by decide +kernel
theorem dX3_append_7 : decode cX3_append 7 = .ok (.getfield 9, 3) := by decide +kernel
theorem dX3_append_10 : decode cX3_append 10 = .ok (.iload 5, 2) := by decide +kernel
theorem dX3_append_12 : decode cX3_append 12 = .ok (.iload_n 1, 1) := by decide +kernel
theorem dX3_append_13 : decode cX3_append 13 = .ok (.iastore, 1) := by decide +kernel
theorem dX3_append_14 : decode cX3_append 14 = .ok (.aload_n 0, 1) := by decide +kernel
theorem dX3_append_15 : decode cX3_append 15 = .ok (.getfield 15, 3) := by decide +kernel
theorem dX3_append_18 : decode cX3_append 18 = .ok (.iload 5, 2) := by decide +kernel
theorem dX3_append_20 : decode cX3_append 20 = .ok (.iload_n 2, 1) := by decide +kernel
theorem dX3_append_21 : decode cX3_append 21 = .ok (.iastore, 1) := by decide +kernel
theorem dX3_append_22 : decode cX3_append 22 = .ok (.aload_n 0, 1) := by decide +kernel
theorem dX3_append_23 : decode cX3_append 23 = .ok (.getfield 18, 3) := by decide +kernel
theorem dX3_append_26 : decode cX3_append 26 = .ok (.iload 5, 2) := by decide +kernel
theorem dX3_append_28 : decode cX3_append 28 = .ok (.iconst 0, 1) := by decide +kernel
theorem dX3_append_29 : decode cX3_append 29 = .ok (.iastore, 1) := by decide +kernel
theorem dX3_append_30 : decode cX3_append 30 = .ok (.aload_n 0, 1) := by decide +kernel
theorem dX3_append_31 : decode cX3_append 31 = .ok (.getfield 24, 3) := by decide +kernel
theorem dX3_append_34 : decode cX3_append 34 = .ok (.iload 5, 2) := by decide +kernel
theorem dX3_append_36 : decode cX3_append 36 = .ok (.lload_n 3, 1) := by decide +kernel
theorem dX3_append_37 : decode cX3_append 37 = .ok (.lastore, 1) := by decide +kernel
theorem dX3_append_38 : decode cX3_append 38 = .ok (.aload_n 0, 1) := by decide +kernel
theorem dX3_append_39 : decode cX3_append 39 = .ok (.dup, 1) := by decide +kernel
theorem dX3_append_40 : decode cX3_append 40 = .ok (.getfield 31, 3) := by decide +kernel
theorem dX3_append_43 : decode cX3_append 43 = .ok (.iconst 1, 1) := by decide +kernel
theorem dX3_append_44 : decode cX3_append 44 = .ok (.iadd, 1) := by decide +kernel
theorem dX3_append_45 : decode cX3_append 45 = .ok (.putfield 31, 3) := by decide +kernel
theorem dX3_append_48 : decode cX3_append 48 = .ok (.aload_n 0, 1) := by decide +kernel
theorem dX3_append_49 : decode cX3_append 49 = .ok (.iload 5, 2) := by decide +kernel
theorem dX3_append_51 : decode cX3_append 51 = .ok (.invokevirtual 59, 3) := by decide +kernel
theorem dX3_append_54 : decode cX3_append 54 = .ok (.iload 5, 2) := by decide +kernel
theorem dX3_append_56 : decode cX3_append 56 = .ok (.ireturn, 1) := by decide +kernel
theorem dX3_addAsk_0 : decode cX3_addAsk 0 = .ok (.aload_n 0, 1) := by decide +kernel
theorem dX3_addAsk_1 : decode cX3_addAsk 1 = .ok (.getfield 21, 3) := by decide +kernel
theorem dX3_addAsk_4 : decode cX3_addAsk 4 = .ok (.iload_n 1, 1) := by decide +kernel
theorem dX3_addAsk_5 : decode cX3_addAsk 5 = .ok (.bipush 6, 2) := by decide +kernel
theorem dX3_addAsk_7 : decode cX3_addAsk 7 = .ok (.imul, 1) := by decide +kernel
theorem dX3_addAsk_8 : decode cX3_addAsk 8 = .ok (.aload_n 0, 1) := by decide +kernel
theorem dX3_addAsk_9 : decode cX3_addAsk 9 = .ok (.getfield 18, 3) := by decide +kernel
theorem dX3_addAsk_12 : decode cX3_addAsk 12 = .ok (.iload_n 1, 1) := by decide +kernel
theorem dX3_addAsk_13 : decode cX3_addAsk 13 = .ok (.iaload, 1) := by decide +kernel
theorem dX3_addAsk_14 : decode cX3_addAsk 14 = .ok (.iadd, 1) := by decide +kernel
theorem dX3_addAsk_15 : decode cX3_addAsk 15 = .ok (.iload_n 2, 1) := by decide +kernel
theorem dX3_addAsk_16 : decode cX3_addAsk 16 = .ok (.iastore, 1) := by decide +kernel
theorem dX3_addAsk_17 : decode cX3_addAsk 17 = .ok (.aload_n 0, 1) := by decide +kernel
theorem dX3_addAsk_18 : decode cX3_addAsk 18 = .ok (.getfield 18, 3) := by decide +kernel
theorem dX3_addAsk_21 : decode cX3_addAsk 21 = .ok (.iload_n 1, 1) := by decide +kernel
theorem dX3_addAsk_22 : decode cX3_addAsk 22 = .ok (.dup2, 1) := by decide +kernel
theorem dX3_addAsk_23 : decode cX3_addAsk 23 = .ok (.iaload, 1) := by decide +kernel
theorem dX3_addAsk_24 : decode cX3_addAsk 24 = .ok (.iconst 1, 1) := by decide +kernel
theorem dX3_addAsk_25 : decode cX3_addAsk 25 = .ok (.iadd, 1) := by decide +kernel
theorem dX3_addAsk_26 : decode cX3_addAsk 26 = .ok (.iastore, 1) := by decide +kernel
theorem dX3_addAsk_27 : decode cX3_addAsk 27 = .ok (.return_, 1) := by decide +kernel
theorem dX3_move_0 : decode cX3_move 0 = .ok (.aload_n 0, 1) := by decide +kernel
theorem dX3_move_1 : decode cX3_move 1 = .ok (.getfield 9, 3) := by decide +kernel
theorem dX3_move_4 : decode cX3_move 4 = .ok (.iload_n 2, 1) := by decide +kernel
theorem dX3_move_5 : decode cX3_move 5 = .ok (.aload_n 0, 1) := by decide +kernel
theorem dX3_move_6 : decode cX3_move 6 = .ok (.getfield 9, 3) := by decide +kernel
theorem dX3_move_9 : decode cX3_move 9 = .ok (.iload_n 1, 1) := by decide +kernel
theorem dX3_move_10 : decode cX3_move 10 = .ok (.iaload, 1) := by decide +kernel
theorem dX3_move_11 : decode cX3_move 11 = .ok (.iastore, 1) := by decide +kernel
theorem dX3_move_12 : decode cX3_move 12 = .ok (.aload_n 0, 1) := by decide +kernel
theorem dX3_move_13 : decode cX3_move 13 = .ok (.getfield 15, 3) := by decide +kernel
theorem dX3_move_16 : decode cX3_move 16 = .ok (.iload_n 2, 1) := by decide +kernel
theorem dX3_move_17 : decode cX3_move 17 = .ok (.aload_n 0, 1) := by decide +kernel
theorem dX3_move_18 : decode cX3_move 18 = .ok (.getfield 15, 3) := by decide +kernel
theorem dX3_move_21 : decode cX3_move 21 = .ok (.iload_n 1, 1) := by decide +kernel
theorem dX3_move_22 : decode cX3_move 22 = .ok (.iaload, 1) := by decide +kernel
theorem dX3_move_23 : decode cX3_move 23 = .ok (.iastore, 1) := by decide +kernel
theorem dX3_move_24 : decode cX3_move 24 = .ok (.aload_n 0, 1) := by decide +kernel
theorem dX3_move_25 : decode cX3_move 25 = .ok (.getfield 18, 3) := by decide +kernel
theorem dX3_move_28 : decode cX3_move 28 = .ok (.iload_n 2, 1) := by decide +kernel
theorem dX3_move_29 : decode cX3_move 29 = .ok (.aload_n 0, 1) := by decide +kernel
theorem dX3_move_30 : decode cX3_move 30 = .ok (.getfield 18, 3) := by decide +kernel
theorem dX3_move_33 : decode cX3_move 33 = .ok (.iload_n 1, 1) := by decide +kernel
theorem dX3_move_34 : decode cX3_move 34 = .ok (.iaload, 1) := by decide +kernel
theorem dX3_move_35 : decode cX3_move 35 = .ok (.iastore, 1) := by decide +kernel
theorem dX3_move_36 : decode cX3_move 36 = .ok (.iconst 0, 1) := by decide +kernel
theorem dX3_move_37 : decode cX3_move 37 = .ok (.istore_n 3, 1) := by decide +kernel
theorem dX3_move_38 : decode cX3_move 38 = .ok (.iload_n 3, 1) := by decide +kernel
theorem dX3_move_39 : decode cX3_move 39 = .ok (.bipush 6, 2) := by decide +kernel
theorem dX3_move_41 : decode cX3_move 41 = .ok (.if_icmp .ge 31, 3) := by decide +kernel
theorem dX3_move_44 : decode cX3_move 44 = .ok (.aload_n 0, 1) := by decide +kernel
theorem dX3_move_45 : decode cX3_move 45 = .ok (.getfield 21, 3) := by decide +kernel
theorem dX3_move_48 : decode cX3_move 48 = .ok (.iload_n 2, 1) := by decide +kernel
theorem dX3_move_49 : decode cX3_move 49 = .ok (.bipush 6, 2) := by decide +kernel
theorem dX3_move_51 : decode cX3_move 51 = .ok (.imul, 1) := by decide +kernel
theorem dX3_move_52 : decode cX3_move 52 = .ok (.iload_n 3, 1) := by decide +kernel
theorem dX3_move_53 : decode cX3_move 53 = .ok (.iadd, 1) := by decide +kernel
theorem dX3_move_54 : decode cX3_move 54 = .ok (.aload_n 0, 1) := by decide +kernel
theorem dX3_move_55 : decode cX3_move 55 = .ok (.getfield 21, 3) := by decide +kernel
theorem dX3_move_58 : decode cX3_move 58 = .ok (.iload_n 1, 1) := by decide +kernel
theorem dX3_move_59 : decode cX3_move 59 = .ok (.bipush 6, 2) := by decide +kernel
theorem dX3_move_61 : decode cX3_move 61 = .ok (.imul, 1) := by decide +kernel
theorem dX3_move_62 : decode cX3_move 62 = .ok (.iload_n 3, 1) := by decide +kernel
theorem dX3_move_63 : decode cX3_move 63 = .ok (.iadd, 1) := by decide +kernel
theorem dX3_move_64 : decode cX3_move 64 = .ok (.iaload, 1) := by decide +kernel
theorem dX3_move_65 : decode cX3_move 65 = .ok (.iastore, 1) := by decide +kernel
theorem dX3_move_66 : decode cX3_move 66 = .ok (.iinc 3 1, 3) := by decide +kernel
theorem dX3_move_69 : decode cX3_move 69 = .ok (.goto (-31), 3) := by decide +kernel
theorem dX3_move_72 : decode cX3_move 72 = .ok (.aload_n 0, 1) := by decide +kernel
theorem dX3_move_73 : decode cX3_move 73 = .ok (.getfield 24, 3) := by decide +kernel
theorem dX3_move_76 : decode cX3_move 76 = .ok (.iload_n 2, 1) := by decide +kernel
theorem dX3_move_77 : decode cX3_move 77 = .ok (.aload_n 0, 1) := by decide +kernel
theorem dX3_move_78 : decode cX3_move 78 = .ok (.getfield 24, 3) := by decide +kernel
theorem dX3_move_81 : decode cX3_move 81 = .ok (.iload_n 1, 1) := by decide +kernel
theorem dX3_move_82 : decode cX3_move 82 = .ok (.laload, 1) := by decide +kernel
theorem dX3_move_83 : decode cX3_move 83 = .ok (.lastore, 1) := by decide +kernel
theorem dX3_move_84 : decode cX3_move 84 = .ok (.return_, 1) := by decide +kernel
theorem dX3_keepOnly_0 : decode cX3_keepOnly 0 = .ok (.iconst 0, 1) := by decide +kernel
theorem dX3_keepOnly_1 : decode cX3_keepOnly 1 = .ok (.istore_n 3, 1) := by decide +kernel
theorem dX3_keepOnly_2 : decode cX3_keepOnly 2 = .ok (.iload_n 3, 1) := by decide +kernel
theorem dX3_keepOnly_3 : decode cX3_keepOnly 3 = .ok (.iload_n 2, 1) := by decide +kernel
theorem dX3_keepOnly_4 : decode cX3_keepOnly 4 = .ok (.if_icmp .ge 17, 3) := by decide +kernel
theorem dX3_keepOnly_7 : decode cX3_keepOnly 7 = .ok (.aload_n 0, 1) := by decide +kernel
theorem dX3_keepOnly_8 : decode cX3_keepOnly 8 = .ok (.aload_n 1, 1) := by decide +kernel
theorem dX3_keepOnly_9 : decode cX3_keepOnly 9 = .ok (.iload_n 3, 1) := by decide +kernel
theorem dX3_keepOnly_10 : decode cX3_keepOnly 10 = .ok (.iaload, 1) := by decide +kernel
theorem dX3_keepOnly_11 : decode cX3_keepOnly 11 = .ok (.iload_n 3, 1) := by decide +kernel
theorem dX3_keepOnly_12 : decode cX3_keepOnly 12 = .ok (.invokevirtual 63, 3) := by decide +kernel
theorem dX3_keepOnly_15 : decode cX3_keepOnly 15 = .ok (.iinc 3 1, 3) := by decide +kernel
theorem dX3_keepOnly_18 : decode cX3_keepOnly 18 = .ok (.goto (-16), 3) := by decide +kernel
theorem dX3_keepOnly_21 : decode cX3_keepOnly 21 = .ok (.aload_n 0, 1) := by decide +kernel
theorem dX3_keepOnly_22 : decode cX3_keepOnly 22 = .ok (.iload_n 2, 1) := by decide +kernel
theorem dX3_keepOnly_23 : decode cX3_keepOnly 23 = .ok (.putfield 31, 3) := by decide +kernel
theorem dX3_keepOnly_26 : decode cX3_keepOnly 26 = .ok (.aload_n 0, 1) := by decide +kernel
theorem dX3_keepOnly_27 : decode cX3_keepOnly 27 = .ok (.invokevirtual 48, 3) := by decide +kernel
theorem dX3_keepOnly_30 : decode cX3_keepOnly 30 = .ok (.return_, 1) := by decide +kernel
theorem dX3_write_0 : decode cX3_write 0 = .ok (.aload_n 0, 1) := by decide +kernel
theorem dX3_write_1 : decode cX3_write 1 = .ok (.getfield 18, 3) := by decide +kernel
theorem dX3_write_4 : decode cX3_write 4 = .ok (.iload_n 1, 1) := by decide +kernel
theorem dX3_write_5 : decode cX3_write 5 = .ok (.iaload, 1) := by decide +kernel
theorem dX3_write_6 : decode cX3_write 6 = .ok (.istore 5, 2) := by decide +kernel
theorem dX3_write_8 : decode cX3_write 8 = .ok (.iconst 0, 1) := by decide +kernel
theorem dX3_write_9 : decode cX3_write 9 = .ok (.istore 6, 2) := by decide +kernel
theorem dX3_write_11 : decode cX3_write 11 = .ok (.iload 6, 2) := by decide +kernel
theorem dX3_write_13 : decode cX3_write 13 = .ok (.bipush 32, 2) := by decide +kernel
theorem dX3_write_15 : decode cX3_write 15 = .ok (.if_icmp .ge 16, 3) := by decide +kernel
theorem dX3_write_18 : decode cX3_write 18 = .ok (.aload_n 2, 1) := by decide +kernel
theorem dX3_write_19 : decode cX3_write 19 = .ok (.iload_n 3, 1) := by decide +kernel
theorem dX3_write_20 : decode cX3_write 20 = .ok (.iload 6, 2) := by decide +kernel
theorem dX3_write_22 : decode cX3_write 22 = .ok (.iadd, 1) := by decide +kernel
theorem dX3_write_23 : decode cX3_write 23 = .ok (.iconst 0, 1) := by decide +kernel
theorem dX3_write_24 : decode cX3_write 24 = .ok (.bastore, 1) := by decide +kernel
theorem dX3_write_25 : decode cX3_write 25 = .ok (.iinc 6 1, 3) := by decide +kernel
theorem dX3_write_28 : decode cX3_write 28 = .ok (.goto (-17), 3) := by decide +kernel
theorem dX3_write_31 : decode cX3_write 31 = .ok (.aload_n 2, 1) := by decide +kernel
theorem dX3_write_32 : decode cX3_write 32 = .ok (.iload_n 3, 1) := by decide +kernel
theorem dX3_write_33 : decode cX3_write 33 = .ok (.aload_n 0, 1) := by decide +kernel
theorem dX3_write_34 : decode cX3_write 34 = .ok (.getfield 9, 3) := by decide +kernel
theorem dX3_write_37 : decode cX3_write 37 = .ok (.iload_n 1, 1) := by decide +kernel
theorem dX3_write_38 : decode cX3_write 38 = .ok (.iaload, 1) := by decide +kernel
theorem dX3_write_39 : decode cX3_write 39 = .ok (.i2b, 1) := by decide +kernel
theorem dX3_write_40 : decode cX3_write 40 = .ok (.bastore, 1) := by decide +kernel
theorem dX3_write_41 : decode cX3_write 41 = .ok (.aload_n 2, 1) := by decide +kernel
theorem dX3_write_42 : decode cX3_write 42 = .ok (.iload_n 3, 1) := by decide +kernel
theorem dX3_write_43 : decode cX3_write 43 = .ok (.iconst 1, 1) := by decide +kernel
theorem dX3_write_44 : decode cX3_write 44 = .ok (.iadd, 1) := by decide +kernel
theorem dX3_write_45 : decode cX3_write 45 = .ok (.aload_n 0, 1) := by decide +kernel
theorem dX3_write_46 : decode cX3_write 46 = .ok (.getfield 15, 3) := by decide +kernel
theorem dX3_write_49 : decode cX3_write 49 = .ok (.iload_n 1, 1) := by decide +kernel
theorem dX3_write_50 : decode cX3_write 50 = .ok (.iaload, 1) := by decide +kernel
theorem dX3_write_51 : decode cX3_write 51 = .ok (.i2b, 1) := by decide +kernel
theorem dX3_write_52 : decode cX3_write 52 = .ok (.bastore, 1) := by decide +kernel
theorem dX3_write_53 : decode cX3_write 53 = .ok (.aload_n 2, 1) := by decide +kernel
theorem dX3_write_54 : decode cX3_write 54 = .ok (.iload_n 3, 1) := by decide +kernel
theorem dX3_write_55 : decode cX3_write 55 = .ok (.iconst 2, 1) := by decide +kernel
theorem dX3_write_56 : decode cX3_write 56 = .ok (.iadd, 1) := by decide +kernel
theorem dX3_write_57 : decode cX3_write 57 = .ok (.iload 5, 2) := by decide +kernel
theorem dX3_write_59 : decode cX3_write 59 = .ok (.i2b, 1) := by decide +kernel
theorem dX3_write_60 : decode cX3_write 60 = .ok (.bastore, 1) := by decide +kernel
theorem dX3_write_61 : decode cX3_write 61 = .ok (.iconst 0, 1) := by decide +kernel
theorem dX3_write_62 : decode cX3_write 62 = .ok (.istore 6, 2) := by decide +kernel
theorem dX3_write_64 : decode cX3_write 64 = .ok (.iload 6, 2) := by decide +kernel
theorem dX3_write_66 : decode cX3_write 66 = .ok (.iload 5, 2) := by decide +kernel
theorem dX3_write_68 : decode cX3_write 68 = .ok (.if_icmp .ge 25, 3) := by decide +kernel
theorem dX3_write_71 : decode cX3_write 71 = .ok (.aload_n 2, 1) := by decide +kernel
theorem dX3_write_72 : decode cX3_write 72 = .ok (.iload_n 3, 1) := by decide +kernel
theorem dX3_write_73 : decode cX3_write 73 = .ok (.iconst 3, 1) := by decide +kernel
theorem dX3_write_74 : decode cX3_write 74 = .ok (.iadd, 1) := by decide +kernel
theorem dX3_write_75 : decode cX3_write 75 = .ok (.iload 6, 2) := by decide +kernel
theorem dX3_write_77 : decode cX3_write 77 = .ok (.iadd, 1) := by decide +kernel
theorem dX3_write_78 : decode cX3_write 78 = .ok (.aload_n 0, 1) := by decide +kernel
theorem dX3_write_79 : decode cX3_write 79 = .ok (.iload_n 1, 1) := by decide +kernel
theorem dX3_write_80 : decode cX3_write 80 = .ok (.iload 6, 2) := by decide +kernel
theorem dX3_write_82 : decode cX3_write 82 = .ok (.invokevirtual 67, 3) := by decide +kernel
theorem dX3_write_85 : decode cX3_write 85 = .ok (.i2b, 1) := by decide +kernel
theorem dX3_write_86 : decode cX3_write 86 = .ok (.bastore, 1) := by decide +kernel
theorem dX3_write_87 : decode cX3_write 87 = .ok (.iinc 6 1, 3) := by decide +kernel
theorem dX3_write_90 : decode cX3_write 90 = .ok (.goto (-26), 3) := by decide +kernel
theorem dX3_write_93 : decode cX3_write 93 = .ok (.aload_n 2, 1) := by decide +kernel
theorem dX3_write_94 : decode cX3_write 94 = .ok (.iload_n 3, 1) := by decide +kernel
theorem dX3_write_95 : decode cX3_write 95 = .ok (.bipush 16, 2) := by decide +kernel
theorem dX3_write_97 : decode cX3_write 97 = .ok (.iadd, 1) := by decide +kernel
theorem dX3_write_98 : decode cX3_write 98 = .ok (.bipush 8, 2) := by decide +kernel
theorem dX3_write_100 : decode cX3_write 100 = .ok (.aload_n 0, 1) := by decide +kernel
theorem dX3_write_101 : decode cX3_write 101 = .ok (.getfield 24, 3) := by decide +kernel
theorem dX3_write_104 : decode cX3_write 104 = .ok (.iload_n 1, 1) := by decide +kernel
theorem dX3_write_105 : decode cX3_write 105 = .ok (.laload, 1) := by decide +kernel
theorem dX3_write_106 : decode cX3_write 106 = .ok (.invokestatic 71, 3) := by decide +kernel
theorem dX3_write_109 : decode cX3_write 109 = .ok (.aload_n 2, 1) := by decide +kernel
theorem dX3_write_110 : decode cX3_write 110 = .ok (.iload_n 3, 1) := by decide +kernel
theorem dX3_write_111 : decode cX3_write 111 = .ok (.bipush 28, 2) := by decide +kernel
theorem dX3_write_113 : decode cX3_write 113 = .ok (.iload 4, 2) := by decide +kernel
theorem dX3_write_115 : decode cX3_write 115 = .ok (.invokestatic 77, 3) := by decide +kernel
theorem dX3_write_118 : decode cX3_write 118 = .ok (.return_, 1) := by decide +kernel
theorem dX0_waiting_0 : decode cX0_waiting 0 = .ok (.aload_n 0, 1) := by decide +kernel
theorem dX0_waiting_1 : decode cX0_waiting 1 = .ok (.getfield 27, 3) := by decide +kernel
theorem dX0_waiting_4 : decode cX0_waiting 4 = .ok (.ireturn, 1) := by decide +kernel
theorem dX0_latestWrite_0 : decode cX0_latestWrite 0 = .ok (.aload_n 0, 1) := by decide +kernel
theorem dX0_latestWrite_1 : decode cX0_latestWrite 1 = .ok (.getfield 27, 3) := by decide +kernel
theorem dX0_latestWrite_4 : decode cX0_latestWrite 4 = .ok (.iconst 1, 1) := by decide +kernel
theorem dX0_latestWrite_5 : decode cX0_latestWrite 5 = .ok (.isub, 1) := by decide +kernel
theorem dX0_latestWrite_6 : decode cX0_latestWrite 6 = .ok (.istore_n 2, 1) := by decide +kernel
theorem dX0_latestWrite_7 : decode cX0_latestWrite 7 = .ok (.iload_n 2, 1) := by decide +kernel
theorem dX0_latestWrite_8 : decode cX0_latestWrite 8 = .ok (.ifCond .lt 21, 3) := by decide +kernel
theorem dX0_latestWrite_11 : decode cX0_latestWrite 11 = .ok (.aload_n 0, 1) := by decide +kernel
theorem dX0_latestWrite_12 : decode cX0_latestWrite 12 = .ok (.getfield 23, 3) := by decide +kernel
theorem dX0_latestWrite_15 : decode cX0_latestWrite 15 = .ok (.iload_n 2, 1) := by decide +kernel
theorem dX0_latestWrite_16 : decode cX0_latestWrite 16 = .ok (.iaload, 1) := by decide +kernel
theorem dX0_latestWrite_17 : decode cX0_latestWrite 17 = .ok (.iload_n 1, 1) := by decide +kernel
theorem dX0_latestWrite_18 : decode cX0_latestWrite 18 = .ok (.if_icmp .ne 5, 3) := by decide +kernel
theorem dX0_latestWrite_21 : decode cX0_latestWrite 21 = .ok (.iload_n 2, 1) := by decide +kernel
theorem dX0_latestWrite_22 : decode cX0_latestWrite 22 = .ok (.ireturn, 1) := by decide +kernel
theorem dX0_latestWrite_23 : decode cX0_latestWrite 23 = .ok (.iinc 2 (-1), 3) := by decide +kernel
theorem dX0_latestWrite_26 : decode cX0_latestWrite 26 = .ok (.goto (-19), 3) := by decide +kernel
theorem dX0_latestWrite_29 : decode cX0_latestWrite 29 = .ok (.iconst (-1), 1) := by decide +kernel
theorem dX0_latestWrite_30 : decode cX0_latestWrite 30 = .ok (.ireturn, 1) := by decide +kernel
theorem dX0_waitAsItWillBe_0 : decode cX0_waitAsItWillBe 0 = .ok (.aload_n 0, 1) := by decide +kernel
theorem dX0_waitAsItWillBe_1 : decode cX0_waitAsItWillBe 1 = .ok (.getfield 27, 3) := by decide +kernel
theorem dX0_waitAsItWillBe_4 : decode cX0_waitAsItWillBe 4 = .ok (.bipush 64, 2) := by decide +kernel
theorem dX0_waitAsItWillBe_6 : decode cX0_waitAsItWillBe 6 = .ok (.if_icmp .lt 11, 3) := by decide +kernel
theorem dX0_waitAsItWillBe_9 : decode cX0_waitAsItWillBe 9 = .ok (.aload_n 0, 1) := by decide +kernel
theorem dX0_waitAsItWillBe_10 : decode cX0_waitAsItWillBe 10 = .ok (.bipush 64, 2) := by decide +kernel
theorem dX0_waitAsItWillBe_12 : decode cX0_waitAsItWillBe 12 = .ok (.iconst 0, 1) := by decide +kernel
theorem dX0_waitAsItWillBe_13 : decode cX0_waitAsItWillBe 13 = .ok (.invokevirtual 30, 3) := by decide +kernel
theorem dX0_waitAsItWillBe_16 : decode cX0_waitAsItWillBe 16 = .ok (.pop, 1) := by decide +kernel
theorem dX0_waitAsItWillBe_17 : decode cX0_waitAsItWillBe 17 = .ok (.aload_n 0, 1) := by decide +kernel
theorem dX0_waitAsItWillBe_18 : decode cX0_waitAsItWillBe 18 = .ok (.getfield 27, 3) := by decide +kernel
theorem dX0_waitAsItWillBe_21 : decode cX0_waitAsItWillBe 21 = .ok (.sipush 512, 3) := by decide +kernel
theorem dX0_waitAsItWillBe_24 : decode cX0_waitAsItWillBe 24 = .ok (.imul, 1) := by decide +kernel
theorem dX0_waitAsItWillBe_25 : decode cX0_waitAsItWillBe 25 = .ok (.istore_n 2, 1) := by decide +kernel
theorem dX0_waitAsItWillBe_26 : decode cX0_waitAsItWillBe 26 = .ok (.aload_n 0, 1) := by decide +kernel
theorem dX0_waitAsItWillBe_27 : decode cX0_waitAsItWillBe 27 = .ok (.iload_n 1, 1) := by decide +kernel
theorem dX0_waitAsItWillBe_28 : decode cX0_waitAsItWillBe 28 = .ok (.invokevirtual 38, 3) := by decide +kernel
theorem dX0_waitAsItWillBe_31 : decode cX0_waitAsItWillBe 31 = .ok (.istore_n 3, 1) := by decide +kernel
theorem dX0_waitAsItWillBe_32 : decode cX0_waitAsItWillBe 32 = .ok (.iload_n 3, 1) := by decide +kernel
theorem dX0_waitAsItWillBe_33 : decode cX0_waitAsItWillBe 33 = .ok (.iconst (-1), 1) := by decide +kernel
theorem dX0_waitAsItWillBe_34 : decode cX0_waitAsItWillBe 34 = .ok (.if_icmp .ne 26, 3) := by decide +kernel
theorem dX0_waitAsItWillBe_37 : decode cX0_waitAsItWillBe 37 = .ok (.aload_n 0, 1) := by decide +kernel
theorem dX0_waitAsItWillBe_38 : decode cX0_waitAsItWillBe 38 = .ok (.getfield 15, 3) := by decide +kernel
theorem dX0_waitAsItWillBe_41 : decode cX0_waitAsItWillBe 41 = .ok (.iload_n 1, 1) := by decide +kernel
theorem dX0_waitAsItWillBe_42 : decode cX0_waitAsItWillBe 42 = .ok (.sipush 512, 3) := by decide +kernel
theorem dX0_waitAsItWillBe_45 : decode cX0_waitAsItWillBe 45 = .ok (.imul, 1) := by decide +kernel
theorem dX0_waitAsItWillBe_46 : decode cX0_waitAsItWillBe 46 = .ok (.aload_n 0, 1) := by decide +kernel
theorem dX0_waitAsItWillBe_47 : decode cX0_waitAsItWillBe 47 = .ok (.getfield 20, 3) := by decide +kernel
theorem dX0_waitAsItWillBe_50 : decode cX0_waitAsItWillBe 50 = .ok (.iload_n 2, 1) := by decide +kernel
theorem dX0_waitAsItWillBe_51 : decode cX0_waitAsItWillBe 51 = .ok (.sipush 512, 3) := by decide +kernel
theorem dX0_waitAsItWillBe_54 : decode cX0_waitAsItWillBe 54 = .ok (.invokestatic 41, 3) := by decide +kernel
theorem dX0_waitAsItWillBe_57 : decode cX0_waitAsItWillBe 57 = .ok (.goto 23, 3) := by decide +kernel
theorem dX0_waitAsItWillBe_60 : decode cX0_waitAsItWillBe 60 = .ok (.aload_n 0, 1) := by decide +kernel
theorem dX0_waitAsItWillBe_61 : decode cX0_waitAsItWillBe 61 = .ok (.getfield 20, 3) := by decide +kernel
theorem dX0_waitAsItWillBe_64 : decode cX0_waitAsItWillBe 64 = .ok (.iload_n 3, 1) := by decide +kernel
theorem dX0_waitAsItWillBe_65 : decode cX0_waitAsItWillBe 65 = .ok (.sipush 512, 3) := by decide +kernel
theorem dX0_waitAsItWillBe_68 : decode cX0_waitAsItWillBe 68 = .ok (.imul, 1) := by decide +kernel
theorem dX0_waitAsItWillBe_69 : decode cX0_waitAsItWillBe 69 = .ok (.aload_n 0, 1) := by decide +kernel
theorem dX0_waitAsItWillBe_70 : decode cX0_waitAsItWillBe 70 = .ok (.getfield 20, 3) := by decide +kernel
theorem dX0_waitAsItWillBe_73 : decode cX0_waitAsItWillBe 73 = .ok (.iload_n 2, 1) := by decide +kernel
theorem dX0_waitAsItWillBe_74 : decode cX0_waitAsItWillBe 74 = .ok (.sipush 512, 3) := by decide +kernel
theorem dX0_waitAsItWillBe_77 : decode cX0_waitAsItWillBe 77 = .ok (.invokestatic 41, 3) := by decide +kernel
theorem dX0_waitAsItWillBe_80 : decode cX0_waitAsItWillBe 80 = .ok (.aload_n 0, 1) := by decide +kernel
theorem dX0_waitAsItWillBe_81 : decode cX0_waitAsItWillBe 81 = .ok (.iload_n 1, 1) := by decide +kernel
theorem dX0_waitAsItWillBe_82 : decode cX0_waitAsItWillBe 82 = .ok (.invokevirtual 34, 3) := by decide +kernel
theorem dX0_waitAsItWillBe_85 : decode cX0_waitAsItWillBe 85 = .ok (.ireturn, 1) := by decide +kernel
theorem dX1_editionAt_0 : decode cX1_editionAt 0 = .ok (.aload_n 0, 1) := by decide +kernel
theorem dX1_editionAt_1 : decode cX1_editionAt 1 = .ok (.iload_n 1, 1) := by decide +kernel
theorem dX1_editionAt_2 : decode cX1_editionAt 2 = .ok (.sipush 512, 3) := by decide +kernel
theorem dX1_editionAt_5 : decode cX1_editionAt 5 = .ok (.imul, 1) := by decide +kernel
theorem dX1_editionAt_6 : decode cX1_editionAt 6 = .ok (.iconst 4, 1) := by decide +kernel
theorem dX1_editionAt_7 : decode cX1_editionAt 7 = .ok (.invokestatic 19, 3) := by decide +kernel
theorem dX1_editionAt_10 : decode cX1_editionAt 10 = .ok (.lreturn, 1) := by decide +kernel
theorem dX4_has_0 : decode cX4_has 0 = .ok (.aload_n 0, 1) := by decide +kernel
theorem dX4_has_1 : decode cX4_has 1 = .ok (.getfield 9, 3) := by decide +kernel
theorem dX4_has_4 : decode cX4_has 4 = .ok (.iload_n 1, 1) := by decide +kernel
theorem dX4_has_5 : decode cX4_has 5 = .ok (.baload, 1) := by decide +kernel
theorem dX4_has_6 : decode cX4_has 6 = .ok (.ireturn, 1) := by decide +kernel
theorem dX4_digestOf_0 : decode cX4_digestOf 0 = .ok (.aload_n 0, 1) := by decide +kernel
theorem dX4_digestOf_1 : decode cX4_digestOf 1 = .ok (.getfield 15, 3) := by decide +kernel
theorem dX4_digestOf_4 : decode cX4_digestOf 4 = .ok (.iload_n 1, 1) := by decide +kernel
theorem dX4_digestOf_5 : decode cX4_digestOf 5 = .ok (.laload, 1) := by decide +kernel
theorem dX4_digestOf_6 : decode cX4_digestOf 6 = .ok (.lreturn, 1) := by decide +kernel
theorem dX4_count_0 : decode cX4_count 0 = .ok (.iconst 0, 1) := by decide +kernel
theorem dX4_count_1 : decode cX4_count 1 = .ok (.istore_n 1, 1) := by decide +kernel
theorem dX4_count_2 : decode cX4_count 2 = .ok (.iconst 0, 1) := by decide +kernel
theorem dX4_count_3 : decode cX4_count 3 = .ok (.istore_n 2, 1) := by decide +kernel
theorem dX4_count_4 : decode cX4_count 4 = .ok (.iload_n 2, 1) := by decide +kernel
theorem dX4_count_5 : decode cX4_count 5 = .ok (.bipush 64, 2) := by decide +kernel
theorem dX4_count_7 : decode cX4_count 7 = .ok (.if_icmp .ge 21, 3) := by decide +kernel
theorem dX4_count_10 : decode cX4_count 10 = .ok (.aload_n 0, 1) := by decide +kernel
theorem dX4_count_11 : decode cX4_count 11 = .ok (.getfield 9, 3) := by decide +kernel
theorem dX4_count_14 : decode cX4_count 14 = .ok (.iload_n 2, 1) := by decide +kernel
theorem dX4_count_15 : decode cX4_count 15 = .ok (.baload, 1) := by decide +kernel
theorem dX4_count_16 : decode cX4_count 16 = .ok (.ifCond .eq 6, 3) := by decide +kernel
theorem dX4_count_19 : decode cX4_count 19 = .ok (.iinc 1 1, 3) := by decide +kernel
theorem dX4_count_22 : decode cX4_count 22 = .ok (.iinc 2 1, 3) := by decide +kernel
theorem dX4_count_25 : decode cX4_count 25 = .ok (.goto (-21), 3) := by decide +kernel
theorem dX4_count_28 : decode cX4_count 28 = .ok (.iload_n 1, 1) := by decide +kernel
theorem dX4_count_29 : decode cX4_count 29 = .ok (.ireturn, 1) := by decide +kernel
theorem dX4_put_0 : decode cX4_put 0 = .ok (.aload_n 0, 1) := by decide +kernel
theorem dX4_put_1 : decode cX4_put 1 = .ok (.getfield 9, 3) := by decide +kernel
theorem dX4_put_4 : decode cX4_put 4 = .ok (.iload_n 1, 1) := by decide +kernel
theorem dX4_put_5 : decode cX4_put 5 = .ok (.iconst 1, 1) := by decide +kernel
theorem dX4_put_6 : decode cX4_put 6 = .ok (.bastore, 1) := by decide +kernel
theorem dX4_put_7 : decode cX4_put 7 = .ok (.aload_n 0, 1) := by decide +kernel
theorem dX4_put_8 : decode cX4_put 8 = .ok (.getfield 15, 3) := by decide +kernel
theorem dX4_put_11 : decode cX4_put 11 = .ok (.iload_n 1, 1) := by decide +kernel
theorem dX4_put_12 : decode cX4_put 12 = .ok (.lload_n 2, 1) := by decide +kernel
theorem dX4_put_13 : decode cX4_put 13 = .ok (.lastore, 1) := by decide +kernel
theorem dX4_put_14 : decode cX4_put 14 = .ok (.return_, 1) := by decide +kernel
theorem dX4_forget_0 : decode cX4_forget 0 = .ok (.aload_n 0, 1) := by decide +kernel
theorem dX4_forget_1 : decode cX4_forget 1 = .ok (.getfield 9, 3) := by decide +kernel
theorem dX4_forget_4 : decode cX4_forget 4 = .ok (.iload_n 1, 1) := by decide +kernel
theorem dX4_forget_5 : decode cX4_forget 5 = .ok (.iconst 0, 1) := by decide +kernel
theorem dX4_forget_6 : decode cX4_forget 6 = .ok (.bastore, 1) := by decide +kernel
theorem dX4_forget_7 : decode cX4_forget 7 = .ok (.return_, 1) := by decide +kernel
theorem dX4_forgetAll_0 : decode cX4_forgetAll 0 = .ok (.iconst 0, 1) := by decide +kernel
theorem dX4_forgetAll_1 : decode cX4_forgetAll 1 = .ok (.istore_n 1, 1) := by decide +kernel
theorem dX4_forgetAll_2 : decode cX4_forgetAll 2 = .ok (.iload_n 1, 1) := by decide +kernel
theorem dX4_forgetAll_3 : decode cX4_forgetAll 3 = .ok (.bipush 64, 2) := by decide +kernel
theorem dX4_forgetAll_5 : decode cX4_forgetAll 5 = .ok (.if_icmp .ge 16, 3) := by decide +kernel
theorem dX4_forgetAll_8 : decode cX4_forgetAll 8 = .ok (.aload_n 0, 1) := by decide +kernel
theorem dX4_forgetAll_9 : decode cX4_forgetAll 9 = .ok (.getfield 9, 3) := by decide +kernel
theorem dX4_forgetAll_12 : decode cX4_forgetAll 12 = .ok (.iload_n 1, 1) := by decide +kernel
theorem dX4_forgetAll_13 : decode cX4_forgetAll 13 = .ok (.iconst 0, 1) := by decide +kernel
theorem dX4_forgetAll_14 : decode cX4_forgetAll 14 = .ok (.bastore, 1) := by decide +kernel
theorem dX4_forgetAll_15 : decode cX4_forgetAll 15 = .ok (.iinc 1 1, 3) := by decide +kernel
theorem dX4_forgetAll_18 : decode cX4_forgetAll 18 = .ok (.goto (-16), 3) := by decide +kernel
theorem dX4_forgetAll_21 : decode cX4_forgetAll 21 = .ok (.return_, 1) := by decide +kernel
theorem dX5_fitsEdition_0 : decode cX5_fitsEdition 0 = .ok (.lload_n 1, 1) := by decide +kernel
theorem dX5_fitsEdition_1 : decode cX5_fitsEdition 1 = .ok (.aload_n 0, 1) := by decide +kernel
theorem dX5_fitsEdition_2 : decode cX5_fitsEdition 2 = .ok (.getfield 52, 3) := by decide +kernel
theorem dX5_fitsEdition_5 : decode cX5_fitsEdition 5 = .ok (.i2l, 1) := by decide +kernel
theorem dX5_fitsEdition_6 : decode cX5_fitsEdition 6 = .ok (.lcmp, 1) := by decide +kernel
theorem dX5_fitsEdition_7 : decode cX5_fitsEdition 7 = .ok (.ifCond .eq 15, 3) := by decide +kernel
theorem dX5_fitsEdition_10 : decode cX5_fitsEdition 10 = .ok (.lload_n 1, 1) := by decide +kernel
theorem dX5_fitsEdition_11 : decode cX5_fitsEdition 11 = .ok (.aload_n 0, 1) := by decide +kernel
theorem dX5_fitsEdition_12 : decode cX5_fitsEdition 12 = .ok (.getfield 52, 3) := by decide +kernel
theorem dX5_fitsEdition_15 : decode cX5_fitsEdition 15 = .ok (.iconst 1, 1) := by decide +kernel
theorem dX5_fitsEdition_16 : decode cX5_fitsEdition 16 = .ok (.isub, 1) := by decide +kernel
theorem dX5_fitsEdition_17 : decode cX5_fitsEdition 17 = .ok (.i2l, 1) := by decide +kernel
theorem dX5_fitsEdition_18 : decode cX5_fitsEdition 18 = .ok (.lcmp, 1) := by decide +kernel
theorem dX5_fitsEdition_19 : decode cX5_fitsEdition 19 = .ok (.ifCond .ne 7, 3) := by decide +kernel
theorem dX5_fitsEdition_22 : decode cX5_fitsEdition 22 = .ok (.iconst 1, 1) := by decide +kernel
theorem dX5_fitsEdition_23 : decode cX5_fitsEdition 23 = .ok (.goto 4, 3) := by decide +kernel
theorem dX5_fitsEdition_26 : decode cX5_fitsEdition 26 = .ok (.iconst 0, 1) := by decide +kernel
theorem dX5_fitsEdition_27 : decode cX5_fitsEdition 27 = .ok (.ireturn, 1) := by decide +kernel
theorem dX5_writeRow_0 : decode cX5_writeRow 0 = .ok (.aload_n 0, 1) := by decide +kernel
theorem dX5_writeRow_1 : decode cX5_writeRow 1 = .ok (.getfield 27, 3) := by decide +kernel
theorem dX5_writeRow_4 : decode cX5_writeRow 4 = .ok (.aload_n 0, 1) := by decide +kernel
theorem dX5_writeRow_5 : decode cX5_writeRow 5 = .ok (.iload_n 2, 1) := by decide +kernel
theorem dX5_writeRow_6 : decode cX5_writeRow 6 = .ok (.invokevirtual 211, 3) := by decide +kernel
theorem dX5_writeRow_9 : decode cX5_writeRow 9 = .ok (.iload_n 3, 1) := by decide +kernel
theorem dX5_writeRow_10 : decode cX5_writeRow 10 = .ok (.bipush 16, 2) := by decide +kernel
theorem dX5_writeRow_12 : decode cX5_writeRow 12 = .ok (.idiv, 1) := by decide +kernel
theorem dX5_writeRow_13 : decode cX5_writeRow 13 = .ok (.iadd, 1) := by decide +kernel
theorem dX5_writeRow_14 : decode cX5_writeRow 14 = .ok (.invokevirtual 237, 3) := by decide +kernel
theorem dX5_writeRow_17 : decode cX5_writeRow 17 = .ok (.istore 4, 2) := by decide +kernel
theorem dX5_writeRow_19 : decode cX5_writeRow 19 = .ok (.aload_n 0, 1) := by decide +kernel
theorem dX5_writeRow_20 : decode cX5_writeRow 20 = .ok (.getfield 34, 3) := by decide +kernel
theorem dX5_writeRow_23 : decode cX5_writeRow 23 = .ok (.iload_n 1, 1) := by decide +kernel
theorem dX5_writeRow_24 : decode cX5_writeRow 24 = .ok (.aload_n 0, 1) := by decide +kernel
theorem dX5_writeRow_25 : decode cX5_writeRow 25 = .ok (.getfield 27, 3) := by decide +kernel
theorem dX5_writeRow_28 : decode cX5_writeRow 28 = .ok (.getfield 224, 3) := by decide +kernel
theorem dX5_writeRow_31 : decode cX5_writeRow 31 = .ok (.iload 4, 2) := by decide +kernel
theorem dX5_writeRow_33 : decode cX5_writeRow 33 = .ok (.iload_n 3, 1) := by decide +kernel
theorem dX5_writeRow_34 : decode cX5_writeRow 34 = .ok (.bipush 16, 2) := by decide +kernel
theorem dX5_writeRow_36 : decode cX5_writeRow 36 = .ok (.irem, 1) := by decide +kernel
theorem dX5_writeRow_37 : decode cX5_writeRow 37 = .ok (.bipush 32, 2) := by decide +kernel
theorem dX5_writeRow_39 : decode cX5_writeRow 39 = .ok (.imul, 1) := by decide +kernel
theorem dX5_writeRow_40 : decode cX5_writeRow 40 = .ok (.iadd, 1) := by decide +kernel
theorem dX5_writeRow_41 : decode cX5_writeRow 41 = .ok (.iload_n 3, 1) := by decide +kernel
theorem dX5_writeRow_42 : decode cX5_writeRow 42 = .ok (.invokevirtual 240, 3) := by decide +kernel
theorem dX5_writeRow_45 : decode cX5_writeRow 45 = .ok (.return_, 1) := by decide +kernel
theorem dX5_keep_0 : decode cX5_keep 0 = .ok (.aload_n 0, 1) := by decide +kernel
theorem dX5_keep_1 : decode cX5_keep 1 = .ok (.getfield 34, 3) := by decide +kernel
theorem dX5_keep_4 : decode cX5_keep 4 = .ok (.invokevirtual 231, 3) := by decide +kernel
theorem dX5_keep_7 : decode cX5_keep 7 = .ok (.ifCond .eq 5, 3) := by decide +kernel
theorem dX5_keep_10 : decode cX5_keep 10 = .ok (.iconst (-1), 1) := by decide +kernel
theorem dX5_keep_11 : decode cX5_keep 11 = .ok (.ireturn, 1) := by decide +kernel
theorem dX5_keep_12 : decode cX5_keep 12 = .ok (.aload_n 0, 1) := by decide +kernel
theorem dX5_keep_13 : decode cX5_keep 13 = .ok (.getfield 34, 3) := by decide +kernel
theorem dX5_keep_16 : decode cX5_keep 16 = .ok (.iload_n 1, 1) := by decide +kernel
theorem dX5_keep_17 : decode cX5_keep 17 = .ok (.iload_n 2, 1) := by decide +kernel
theorem dX5_keep_18 : decode cX5_keep 18 = .ok (.lload_n 3, 1) := by decide +kernel
theorem dX5_keep_19 : decode cX5_keep 19 = .ok (.invokevirtual 234, 3) := by decide +kernel
theorem dX5_keep_22 : decode cX5_keep 22 = .ok (.istore 5, 2) := by decide +kernel
theorem dX5_keep_24 : decode cX5_keep 24 = .ok (.aload_n 0, 1) := by decide +kernel
theorem dX5_keep_25 : decode cX5_keep 25 = .ok (.iload 5, 2) := by decide +kernel
theorem dX5_keep_27 : decode cX5_keep 27 = .ok (.aload_n 0, 1) := by decide +kernel
theorem dX5_keep_28 : decode cX5_keep 28 = .ok (.getfield 128, 3) := by decide +kernel
theorem dX5_keep_31 : decode cX5_keep 31 = .ok (.iload 5, 2) := by decide +kernel
theorem dX5_keep_33 : decode cX5_keep 33 = .ok (.invokevirtual 131, 3) := by decide +kernel
theorem dX5_keep_36 : decode cX5_keep 36 = .ok (.iload 5, 2) := by decide +kernel
theorem dX5_keep_38 : decode cX5_keep 38 = .ok (.ireturn, 1) := by decide +kernel
theorem dX5_allAskedAhead_0 : decode cX5_allAskedAhead 0 = .ok (.aload_n 0, 1) := by decide +kernel
theorem dX5_allAskedAhead_1 : decode cX5_allAskedAhead 1 = .ok (.getfield 34, 3) := by decide +kernel
theorem dX5_allAskedAhead_4 : decode cX5_allAskedAhead 4 = .ok (.iload_n 1, 1) := by decide +kernel
theorem dX5_allAskedAhead_5 : decode cX5_allAskedAhead 5 = .ok (.invokevirtual 121, 3) := by decide +kernel
theorem dX5_allAskedAhead_8 : decode cX5_allAskedAhead 8 = .ok (.istore_n 2, 1) := by decide +kernel
theorem dX5_allAskedAhead_9 : decode cX5_allAskedAhead 9 = .ok (.iconst 0, 1) := by decide +kernel
theorem dX5_allAskedAhead_10 : decode cX5_allAskedAhead 10 = .ok (.istore_n 3, 1) := by decide +kernel
theorem dX5_allAskedAhead_11 : decode cX5_allAskedAhead 11 = .ok (.iload_n 3, 1) := by decide +kernel
theorem dX5_allAskedAhead_12 : decode cX5_allAskedAhead 12 = .ok (.iload_n 2, 1) := by decide +kernel
theorem dX5_allAskedAhead_13 : decode cX5_allAskedAhead 13 = .ok (.if_icmp .ge 57, 3) := by decide +kernel
theorem dX5_allAskedAhead_16 : decode cX5_allAskedAhead 16 = .ok (.aload_n 0, 1) := by decide +kernel
theorem dX5_allAskedAhead_17 : decode cX5_allAskedAhead 17 = .ok (.getfield 34, 3) := by decide +kernel
theorem dX5_allAskedAhead_20 : decode cX5_allAskedAhead 20 = .ok (.iload_n 1, 1) := by decide +kernel
theorem dX5_allAskedAhead_21 : decode cX5_allAskedAhead 21 = .ok (.iload_n 3, 1) := by decide +kernel
theorem dX5_allAskedAhead_22 : decode cX5_allAskedAhead 22 = .ok (.invokevirtual 158, 3) := by decide +kernel
theorem dX5_allAskedAhead_25 : decode cX5_allAskedAhead 25 = .ok (.istore 4, 2) := by decide +kernel
theorem dX5_allAskedAhead_27 : decode cX5_allAskedAhead 27 = .ok (.aload_n 0, 1) := by decide +kernel
theorem dX5_allAskedAhead_28 : decode cX5_allAskedAhead 28 = .ok (.getfield 34, 3) := by decide +kernel
theorem dX5_allAskedAhead_31 : decode cX5_allAskedAhead 31 = .ok (.iload 4, 2) := by decide +kernel
theorem dX5_allAskedAhead_33 : decode cX5_allAskedAhead 33 = .ok (.invokevirtual 152, 3) := by decide +kernel
theorem dX5_allAskedAhead_36 : decode cX5_allAskedAhead 36 = .ok (.istore 5, 2) := by decide +kernel
theorem dX5_allAskedAhead_38 : decode cX5_allAskedAhead 38 = .ok (.iload 5, 2) := by decide +kernel
theorem dX5_allAskedAhead_40 : decode cX5_allAskedAhead 40 = .ok (.iconst (-1), 1) := by decide +kernel
theorem dX5_allAskedAhead_41 : decode cX5_allAskedAhead 41 = .ok (.if_icmp .eq 21, 3) := by decide +kernel
theorem dX5_allAskedAhead_44 : decode cX5_allAskedAhead 44 = .ok (.iload 5, 2) := by decide +kernel
theorem dX5_allAskedAhead_46 : decode cX5_allAskedAhead 46 = .ok (.iload_n 1, 1) := by decide +kernel
theorem dX5_allAskedAhead_47 : decode cX5_allAskedAhead 47 = .ok (.if_icmp .ge 15, 3) := by decide +kernel
theorem dX5_allAskedAhead_50 : decode cX5_allAskedAhead 50 = .ok (.aload_n 0, 1) := by decide +kernel
theorem dX5_allAskedAhead_51 : decode cX5_allAskedAhead 51 = .ok (.getfield 41, 3) := by decide +kernel
theorem dX5_allAskedAhead_54 : decode cX5_allAskedAhead 54 = .ok (.iload 4, 2) := by decide +kernel
theorem dX5_allAskedAhead_56 : decode cX5_allAskedAhead 56 = .ok (.invokevirtual 145, 3) := by decide +kernel
theorem dX5_allAskedAhead_59 : decode cX5_allAskedAhead 59 = .ok (.ifCond .eq 5, 3) := by decide +kernel
theorem dX5_allAskedAhead_62 : decode cX5_allAskedAhead 62 = .ok (.iconst 0, 1) := by decide +kernel
theorem dX5_allAskedAhead_63 : decode cX5_allAskedAhead 63 = .ok (.ireturn, 1) := by decide +kernel
theorem dX5_allAskedAhead_64 : decode cX5_allAskedAhead 64 = .ok (.iinc 3 1, 3) := by decide +kernel
theorem dX5_allAskedAhead_67 : decode cX5_allAskedAhead 67 = .ok (.goto (-56), 3) := by decide +kernel
theorem dX5_allAskedAhead_70 : decode cX5_allAskedAhead 70 = .ok (.iconst 1, 1) := by decide +kernel
theorem dX5_allAskedAhead_71 : decode cX5_allAskedAhead 71 = .ok (.ireturn, 1) := by decide +kernel
theorem dX5_beginEmpty_0 : decode cX5_beginEmpty 0 = .ok (.aload_n 0, 1) := by decide +kernel
theorem dX5_beginEmpty_1 : decode cX5_beginEmpty 1 = .ok (.iconst 0, 1) := by decide +kernel
theorem dX5_beginEmpty_2 : decode cX5_beginEmpty 2 = .ok (.putfield 195, 3) := by decide +kernel
theorem dX5_beginEmpty_5 : decode cX5_beginEmpty 5 = .ok (.aload_n 0, 1) := by decide +kernel
theorem dX5_beginEmpty_6 : decode cX5_beginEmpty 6 = .ok (.iconst 0, 1) := by decide +kernel
theorem dX5_beginEmpty_7 : decode cX5_beginEmpty 7 = .ok (.putfield 128, 3) := by decide +kernel
theorem dX5_beginEmpty_10 : decode cX5_beginEmpty 10 = .ok (.aload_n 0, 1) := by decide +kernel
theorem dX5_beginEmpty_11 : decode cX5_beginEmpty 11 = .ok (.getfield 34, 3) := by decide +kernel
theorem dX5_beginEmpty_14 : decode cX5_beginEmpty 14 = .ok (.invokevirtual 198, 3) := by decide +kernel
theorem dX5_beginEmpty_17 : decode cX5_beginEmpty 17 = .ok (.aload_n 0, 1) := by decide +kernel
theorem dX5_beginEmpty_18 : decode cX5_beginEmpty 18 = .ok (.iconst 0, 1) := by decide +kernel
theorem dX5_beginEmpty_19 : decode cX5_beginEmpty 19 = .ok (.invokevirtual 201, 3) := by decide +kernel
theorem dX5_beginEmpty_22 : decode cX5_beginEmpty 22 = .ok (.return_, 1) := by decide +kernel
theorem dX5_beginBy_0 : decode cX5_beginBy 0 = .ok (.aload_n 0, 1) := by decide +kernel
theorem dX5_beginBy_1 : decode cX5_beginBy 1 = .ok (.aload_n 0, 1) := by decide +kernel
theorem dX5_beginBy_2 : decode cX5_beginBy 2 = .ok (.getfield 27, 3) := by decide +kernel
theorem dX5_beginBy_5 : decode cX5_beginBy 5 = .ok (.getfield 59, 3) := by decide +kernel
theorem dX5_beginBy_8 : decode cX5_beginBy 8 = .ok (.iload_n 1, 1) := by decide +kernel
theorem dX5_beginBy_9 : decode cX5_beginBy 9 = .ok (.invokestatic 204, 3) := by decide +kernel
theorem dX5_beginBy_12 : decode cX5_beginBy 12 = .ok (.putfield 195, 3) := by decide +kernel
theorem dX5_beginBy_15 : decode cX5_beginBy 15 = .ok (.aload_n 0, 1) := by decide +kernel
theorem dX5_beginBy_16 : decode cX5_beginBy 16 = .ok (.aload_n 0, 1) := by decide +kernel
theorem dX5_beginBy_17 : decode cX5_beginBy 17 = .ok (.getfield 27, 3) := by decide +kernel
theorem dX5_beginBy_20 : decode cX5_beginBy 20 = .ok (.getfield 59, 3) := by decide +kernel
theorem dX5_beginBy_23 : decode cX5_beginBy 23 = .ok (.iload_n 1, 1) := by decide +kernel
theorem dX5_beginBy_24 : decode cX5_beginBy 24 = .ok (.invokestatic 208, 3) := by decide +kernel
theorem dX5_beginBy_27 : decode cX5_beginBy 27 = .ok (.putfield 128, 3) := by decide +kernel
theorem dX5_beginBy_30 : decode cX5_beginBy 30 = .ok (.aload_n 0, 1) := by decide +kernel
theorem dX5_beginBy_31 : decode cX5_beginBy 31 = .ok (.getfield 34, 3) := by decide +kernel
theorem dX5_beginBy_34 : decode cX5_beginBy 34 = .ok (.aload_n 0, 1) := by decide +kernel
theorem dX5_beginBy_35 : decode cX5_beginBy 35 = .ok (.getfield 27, 3) := by decide +kernel
theorem dX5_beginBy_38 : decode cX5_beginBy 38 = .ok (.getfield 59, 3) := by decide +kernel
theorem dX5_beginBy_41 : decode cX5_beginBy 41 = .ok (.aload_n 0, 1) := by decide +kernel
theorem dX5_beginBy_42 : decode cX5_beginBy 42 = .ok (.aload_n 0, 1) := by decide +kernel
theorem dX5_beginBy_43 : decode cX5_beginBy 43 = .ok (.getfield 128, 3) := by decide +kernel
theorem dX5_beginBy_46 : decode cX5_beginBy 46 = .ok (.invokevirtual 211, 3) := by decide +kernel
theorem dX5_beginBy_49 : decode cX5_beginBy 49 = .ok (.sipush 512, 3) := by decide +kernel
theorem dX5_beginBy_52 : decode cX5_beginBy 52 = .ok (.imul, 1) := by decide +kernel
theorem dX5_beginBy_53 : decode cX5_beginBy 53 = .ok (.invokevirtual 214, 3) := by decide +kernel
theorem dX5_beginBy_56 : decode cX5_beginBy 56 = .ok (.return_, 1) := by decide +kernel
theorem dX5_takePlace_0 : decode cX5_takePlace 0 = .ok (.aload_n 0, 1) := by decide +kernel
theorem dX5_takePlace_1 : decode cX5_takePlace 1 = .ok (.getfield 34, 3) := by decide +kernel
theorem dX5_takePlace_4 : decode cX5_takePlace 4 = .ok (.iload_n 1, 1) := by decide +kernel
theorem dX5_takePlace_5 : decode cX5_takePlace 5 = .ok (.invokevirtual 252, 3) := by decide +kernel
theorem dX5_takePlace_8 : decode cX5_takePlace 8 = .ok (.ifCond .eq 38, 3) := by decide +kernel
theorem dX5_takePlace_11 : decode cX5_takePlace 11 = .ok (.aload_n 0, 1) := by decide +kernel
theorem dX5_takePlace_12 : decode cX5_takePlace 12 = .ok (.iload_n 1, 1) := by decide +kernel
theorem dX5_takePlace_13 : decode cX5_takePlace 13 = .ok (.iconst 1, 1) := by decide +kernel
theorem dX5_takePlace_14 : decode cX5_takePlace 14 = .ok (.aload_n 0, 1) := by decide +kernel
theorem dX5_takePlace_15 : decode cX5_takePlace 15 = .ok (.getfield 128, 3) := by decide +kernel
theorem dX5_takePlace_18 : decode cX5_takePlace 18 = .ok (.isub, 1) := by decide +kernel
theorem dX5_takePlace_19 : decode cX5_takePlace 19 = .ok (.aload_n 0, 1) := by decide +kernel
theorem dX5_takePlace_20 : decode cX5_takePlace 20 = .ok (.getfield 243, 3) := by decide +kernel
theorem dX5_takePlace_23 : decode cX5_takePlace 23 = .ok (.invokevirtual 131, 3) := by decide +kernel
theorem dX5_takePlace_26 : decode cX5_takePlace 26 = .ok (.aload_n 0, 1) := by decide +kernel
theorem dX5_takePlace_27 : decode cX5_takePlace 27 = .ok (.getfield 45, 3) := by decide +kernel
theorem dX5_takePlace_30 : decode cX5_takePlace 30 = .ok (.aload_n 0, 1) := by decide +kernel
theorem dX5_takePlace_31 : decode cX5_takePlace 31 = .ok (.getfield 243, 3) := by decide +kernel
theorem dX5_takePlace_34 : decode cX5_takePlace 34 = .ok (.iload_n 1, 1) := by decide +kernel
theorem dX5_takePlace_35 : decode cX5_takePlace 35 = .ok (.iastore, 1) := by decide +kernel
theorem dX5_takePlace_36 : decode cX5_takePlace 36 = .ok (.aload_n 0, 1) := by decide +kernel
theorem dX5_takePlace_37 : decode cX5_takePlace 37 = .ok (.dup, 1) := by decide +kernel
theorem dX5_takePlace_38 : decode cX5_takePlace 38 = .ok (.getfield 243, 3) := by decide +kernel
theorem dX5_takePlace_41 : decode cX5_takePlace 41 = .ok (.iconst 1, 1) := by decide +kernel
theorem dX5_takePlace_42 : decode cX5_takePlace 42 = .ok (.iadd, 1) := by decide +kernel
theorem dX5_takePlace_43 : decode cX5_takePlace 43 = .ok (.putfield 243, 3) := by decide +kernel
theorem dX5_takePlace_46 : decode cX5_takePlace 46 = .ok (.aload_n 0, 1) := by decide +kernel
theorem dX5_takePlace_47 : decode cX5_takePlace 47 = .ok (.dup, 1) := by decide +kernel
theorem dX5_takePlace_48 : decode cX5_takePlace 48 = .ok (.getfield 49, 3) := by decide +kernel
theorem dX5_takePlace_51 : decode cX5_takePlace 51 = .ok (.iconst 1, 1) := by decide +kernel
theorem dX5_takePlace_52 : decode cX5_takePlace 52 = .ok (.iadd, 1) := by decide +kernel
theorem dX5_takePlace_53 : decode cX5_takePlace 53 = .ok (.putfield 49, 3) := by decide +kernel
theorem dX5_takePlace_56 : decode cX5_takePlace 56 = .ok (.return_, 1) := by decide +kernel
theorem dX5_endCompaction_0 : decode cX5_endCompaction 0 = .ok (.aload_n 0, 1) := by decide +kernel
theorem dX5_endCompaction_1 : decode cX5_endCompaction 1 = .ok (.iconst 1, 1) := by decide +kernel
theorem dX5_endCompaction_2 : decode cX5_endCompaction 2 = .ok (.aload_n 0, 1) := by decide +kernel
theorem dX5_endCompaction_3 : decode cX5_endCompaction 3 = .ok (.getfield 128, 3) := by decide +kernel
theorem dX5_endCompaction_6 : decode cX5_endCompaction 6 = .ok (.isub, 1) := by decide +kernel
theorem dX5_endCompaction_7 : decode cX5_endCompaction 7 = .ok (.putfield 128, 3) := by decide +kernel
theorem dX5_endCompaction_10 : decode cX5_endCompaction 10 = .ok (.aload_n 0, 1) := by decide +kernel
theorem dX5_endCompaction_11 : decode cX5_endCompaction 11 = .ok (.getfield 34, 3) := by decide +kernel
theorem dX5_endCompaction_14 : decode cX5_endCompaction 14 = .ok (.aload_n 0, 1) := by decide +kernel
theorem dX5_endCompaction_15 : decode cX5_endCompaction 15 = .ok (.getfield 45, 3) := by decide +kernel
theorem dX5_endCompaction_18 : decode cX5_endCompaction 18 = .ok (.aload_n 0, 1) := by decide +kernel
theorem dX5_endCompaction_19 : decode cX5_endCompaction 19 = .ok (.getfield 243, 3) := by decide +kernel
theorem dX5_endCompaction_22 : decode cX5_endCompaction 22 = .ok (.invokevirtual 255, 3) := by decide +kernel
theorem dX5_endCompaction_25 : decode cX5_endCompaction 25 = .ok (.aload_n 0, 1) := by decide +kernel
theorem dX5_endCompaction_26 : decode cX5_endCompaction 26 = .ok (.aload_n 0, 1) := by decide +kernel
theorem dX5_endCompaction_27 : decode cX5_endCompaction 27 = .ok (.getfield 243, 3) := by decide +kernel
theorem dX5_endCompaction_30 : decode cX5_endCompaction 30 = .ok (.putfield 96, 3) := by decide +kernel
theorem dX5_endCompaction_33 : decode cX5_endCompaction 33 = .ok (.aload_n 0, 1) := by decide +kernel
theorem dX5_endCompaction_34 : decode cX5_endCompaction 34 = .ok (.iconst (-1), 1) := by decide +kernel
theorem dX5_endCompaction_35 : decode cX5_endCompaction 35 = .ok (.putfield 49, 3) := by decide +kernel
theorem dX5_endCompaction_38 : decode cX5_endCompaction 38 = .ok (.aload_n 0, 1) := by decide +kernel
theorem dX5_endCompaction_39 : decode cX5_endCompaction 39 = .ok (.invokevirtual 99, 3) := by decide +kernel
theorem dX5_endCompaction_42 : decode cX5_endCompaction 42 = .ok (.return_, 1) := by decide +kernel
theorem dX5_doStep_0 : decode cX5_doStep 0 = .ok (.aload_n 0, 1) := by decide +kernel
theorem dX5_doStep_1 : decode cX5_doStep 1 = .ok (.getfield 49, 3) := by decide +kernel
theorem dX5_doStep_4 : decode cX5_doStep 4 = .ok (.iconst (-1), 1) := by decide +kernel
theorem dX5_doStep_5 : decode cX5_doStep 5 = .ok (.if_icmp .ne 25, 3) := by decide +kernel
theorem dX5_doStep_8 : decode cX5_doStep 8 = .ok (.aload_n 0, 1) := by decide +kernel
theorem dX5_doStep_9 : decode cX5_doStep 9 = .ok (.iconst 1, 1) := by decide +kernel
theorem dX5_doStep_10 : decode cX5_doStep 10 = .ok (.aload_n 0, 1) := by decide +kernel
theorem dX5_doStep_11 : decode cX5_doStep 11 = .ok (.getfield 128, 3) := by decide +kernel
theorem dX5_doStep_14 : decode cX5_doStep 14 = .ok (.isub, 1) := by decide +kernel
theorem dX5_doStep_15 : decode cX5_doStep 15 = .ok (.invokevirtual 201, 3) := by decide +kernel
theorem dX5_doStep_18 : decode cX5_doStep 18 = .ok (.aload_n 0, 1) := by decide +kernel
theorem dX5_doStep_19 : decode cX5_doStep 19 = .ok (.iconst 0, 1) := by decide +kernel
theorem dX5_doStep_20 : decode cX5_doStep 20 = .ok (.putfield 49, 3) := by decide +kernel
theorem dX5_doStep_23 : decode cX5_doStep 23 = .ok (.aload_n 0, 1) := by decide +kernel
theorem dX5_doStep_24 : decode cX5_doStep 24 = .ok (.iconst 0, 1) := by decide +kernel
theorem dX5_doStep_25 : decode cX5_doStep 25 = .ok (.putfield 243, 3) := by decide +kernel
theorem dX5_doStep_28 : decode cX5_doStep 28 = .ok (.iconst 0, 1) := by decide +kernel
theorem dX5_doStep_29 : decode cX5_doStep 29 = .ok (.ireturn, 1) := by decide +kernel
theorem dX5_doStep_30 : decode cX5_doStep 30 = .ok (.aload_n 0, 1) := by decide +kernel
theorem dX5_doStep_31 : decode cX5_doStep 31 = .ok (.getfield 49, 3) := by decide +kernel
theorem dX5_doStep_34 : decode cX5_doStep 34 = .ok (.aload_n 0, 1) := by decide +kernel
theorem dX5_doStep_35 : decode cX5_doStep 35 = .ok (.getfield 34, 3) := by decide +kernel
theorem dX5_doStep_38 : decode cX5_doStep 38 = .ok (.invokevirtual 93, 3) := by decide +kernel
theorem dX5_doStep_41 : decode cX5_doStep 41 = .ok (.if_icmp .ge 13, 3) := by decide +kernel
theorem dX5_doStep_44 : decode cX5_doStep 44 = .ok (.aload_n 0, 1) := by decide +kernel
theorem dX5_doStep_45 : decode cX5_doStep 45 = .ok (.aload_n 0, 1) := by decide +kernel
theorem dX5_doStep_46 : decode cX5_doStep 46 = .ok (.getfield 49, 3) := by decide +kernel
theorem dX5_doStep_49 : decode cX5_doStep 49 = .ok (.invokevirtual 246, 3) := by decide +kernel
theorem dX5_doStep_52 : decode cX5_doStep 52 = .ok (.iconst 0, 1) := by decide +kernel
theorem dX5_doStep_53 : decode cX5_doStep 53 = .ok (.ireturn, 1) := by decide +kernel
theorem dX5_doStep_54 : decode cX5_doStep 54 = .ok (.aload_n 0, 1) := by decide +kernel
theorem dX5_doStep_55 : decode cX5_doStep 55 = .ok (.invokevirtual 249, 3) := by decide +kernel
theorem dX5_doStep_58 : decode cX5_doStep 58 = .ok (.iconst 1, 1) := by decide +kernel
theorem dX5_doStep_59 : decode cX5_doStep 59 = .ok (.ireturn, 1) := by decide +kernel
theorem dX5_row_0 : decode cX5_row 0 = .ok (.iload_n 1, 1) := by decide +kernel
theorem dX5_row_1 : decode cX5_row 1 = .ok (.invokestatic 102, 3) := by decide +kernel
theorem dX5_row_4 : decode cX5_row 4 = .ok (.ifCond .ne 6, 3) := by decide +kernel
theorem dX5_row_7 : decode cX5_row 7 = .ok (.bipush (-2), 2) := by decide +kernel
theorem dX5_row_9 : decode cX5_row 9 = .ok (.ireturn, 1) := by decide +kernel
theorem dX5_row_10 : decode cX5_row 10 = .ok (.aload_n 0, 1) := by decide +kernel
theorem dX5_row_11 : decode cX5_row 11 = .ok (.getfield 55, 3) := by decide +kernel
theorem dX5_row_14 : decode cX5_row 14 = .ok (.ifCond .ne 6, 3) := by decide +kernel
theorem dX5_row_17 : decode cX5_row 17 = .ok (.bipush (-3), 2) := by decide +kernel
theorem dX5_row_19 : decode cX5_row 19 = .ok (.ireturn, 1) := by decide +kernel
theorem dX5_row_20 : decode cX5_row 20 = .ok (.aload_n 0, 1) := by decide +kernel
theorem dX5_row_21 : decode cX5_row 21 = .ok (.iconst 1, 1) := by decide +kernel
theorem dX5_row_22 : decode cX5_row 22 = .ok (.iload_n 1, 1) := by decide +kernel
theorem dX5_row_23 : decode cX5_row 23 = .ok (.lload_n 2, 1) := by decide +kernel
theorem dX5_row_24 : decode cX5_row 24 = .ok (.invokevirtual 106, 3) := by decide +kernel
theorem dX5_row_27 : decode cX5_row 27 = .ok (.istore 4, 2) := by decide +kernel
theorem dX5_row_29 : decode cX5_row 29 = .ok (.iload 4, 2) := by decide +kernel
theorem dX5_row_31 : decode cX5_row 31 = .ok (.iconst (-1), 1) := by decide +kernel
theorem dX5_row_32 : decode cX5_row 32 = .ok (.if_icmp .ne 15, 3) := by decide +kernel
theorem dX5_row_35 : decode cX5_row 35 = .ok (.aload_n 0, 1) := by decide +kernel
theorem dX5_row_36 : decode cX5_row 36 = .ok (.getfield 41, 3) := by decide +kernel
theorem dX5_row_39 : decode cX5_row 39 = .ok (.iload_n 1, 1) := by decide +kernel
theorem dX5_row_40 : decode cX5_row 40 = .ok (.lload_n 2, 1) := by decide +kernel
theorem dX5_row_41 : decode cX5_row 41 = .ok (.invokevirtual 110, 3) := by decide +kernel
theorem dX5_row_44 : decode cX5_row 44 = .ok (.bipush (-4), 2) := by decide +kernel
theorem dX5_row_46 : decode cX5_row 46 = .ok (.ireturn, 1) := by decide +kernel
theorem dX5_row_47 : decode cX5_row 47 = .ok (.aload_n 0, 1) := by decide +kernel
theorem dX5_row_48 : decode cX5_row 48 = .ok (.getfield 41, 3) := by decide +kernel
theorem dX5_row_51 : decode cX5_row 51 = .ok (.iload_n 1, 1) := by decide +kernel
theorem dX5_row_52 : decode cX5_row 52 = .ok (.invokevirtual 114, 3) := by decide +kernel
theorem dX5_row_55 : decode cX5_row 55 = .ok (.iload 4, 2) := by decide +kernel
theorem dX5_row_57 : decode cX5_row 57 = .ok (.ireturn, 1) := by decide +kernel
theorem dX5_asks_0 : decode cX5_asks 0 = .ok (.aload_n 0, 1) := by decide +kernel
theorem dX5_asks_1 : decode cX5_asks 1 = .ok (.getfield 55, 3) := by decide +kernel
theorem dX5_asks_4 : decode cX5_asks 4 = .ok (.ifCond .eq 15, 3) := by decide +kernel
theorem dX5_asks_7 : decode cX5_asks 7 = .ok (.aload_n 0, 1) := by decide +kernel
theorem dX5_asks_8 : decode cX5_asks 8 = .ok (.getfield 34, 3) := by decide +kernel
theorem dX5_asks_11 : decode cX5_asks 11 = .ok (.iload_n 1, 1) := by decide +kernel
theorem dX5_asks_12 : decode cX5_asks 12 = .ok (.invokevirtual 117, 3) := by decide +kernel
theorem dX5_asks_15 : decode cX5_asks 15 = .ok (.iconst 1, 1) := by decide +kernel
theorem dX5_asks_16 : decode cX5_asks 16 = .ok (.if_icmp .eq 5, 3) := by decide +kernel
theorem dX5_asks_19 : decode cX5_asks 19 = .ok (.iconst (-1), 1) := by decide +kernel
theorem dX5_asks_20 : decode cX5_asks 20 = .ok (.ireturn, 1) := by decide +kernel
theorem dX5_asks_21 : decode cX5_asks 21 = .ok (.iload_n 2, 1) := by decide +kernel
theorem dX5_asks_22 : decode cX5_asks 22 = .ok (.invokestatic 102, 3) := by decide +kernel
theorem dX5_asks_25 : decode cX5_asks 25 = .ok (.ifCond .ne 6, 3) := by decide +kernel
theorem dX5_asks_28 : decode cX5_asks 28 = .ok (.bipush (-2), 2) := by decide +kernel
theorem dX5_asks_30 : decode cX5_asks 30 = .ok (.ireturn, 1) := by decide +kernel
theorem dX5_asks_31 : decode cX5_asks 31 = .ok (.iload_n 1, 1) := by decide +kernel
theorem dX5_asks_32 : decode cX5_asks 32 = .ok (.aload_n 0, 1) := by decide +kernel
theorem dX5_asks_33 : decode cX5_asks 33 = .ok (.getfield 34, 3) := by decide +kernel
theorem dX5_asks_36 : decode cX5_asks 36 = .ok (.invokevirtual 93, 3) := by decide +kernel
theorem dX5_asks_39 : decode cX5_asks 39 = .ok (.iconst 1, 1) := by decide +kernel
theorem dX5_asks_40 : decode cX5_asks 40 = .ok (.isub, 1) := by decide +kernel
theorem dX5_asks_41 : decode cX5_asks 41 = .ok (.if_icmp .ne 19, 3) := by decide +kernel
theorem dX5_asks_44 : decode cX5_asks 44 = .ok (.iload_n 1, 1) := by decide +kernel
theorem dX5_asks_45 : decode cX5_asks 45 = .ok (.aload_n 0, 1) := by decide +kernel
theorem dX5_asks_46 : decode cX5_asks 46 = .ok (.getfield 96, 3) := by decide +kernel
theorem dX5_asks_49 : decode cX5_asks 49 = .ok (.if_icmp .lt 11, 3) := by decide +kernel
theorem dX5_asks_52 : decode cX5_asks 52 = .ok (.iload_n 1, 1) := by decide +kernel
theorem dX5_asks_53 : decode cX5_asks 53 = .ok (.aload_n 0, 1) := by decide +kernel
theorem dX5_asks_54 : decode cX5_asks 54 = .ok (.getfield 49, 3) := by decide +kernel
theorem dX5_asks_57 : decode cX5_asks 57 = .ok (.if_icmp .ge 6, 3) := by decide +kernel
theorem dX5_asks_60 : decode cX5_asks 60 = .ok (.bipush (-3), 2) := by decide +kernel
theorem dX5_asks_62 : decode cX5_asks 62 = .ok (.ireturn, 1) := by decide +kernel
theorem dX5_asks_63 : decode cX5_asks 63 = .ok (.aload_n 0, 1) := by decide +kernel
theorem dX5_asks_64 : decode cX5_asks 64 = .ok (.getfield 34, 3) := by decide +kernel
theorem dX5_asks_67 : decode cX5_asks 67 = .ok (.iload_n 1, 1) := by decide +kernel
theorem dX5_asks_68 : decode cX5_asks 68 = .ok (.invokevirtual 121, 3) := by decide +kernel
theorem dX5_asks_71 : decode cX5_asks 71 = .ok (.bipush 6, 2) := by decide +kernel
theorem dX5_asks_73 : decode cX5_asks 73 = .ok (.if_icmp .lt 6, 3) := by decide +kernel
theorem dX5_asks_76 : decode cX5_asks 76 = .ok (.bipush (-4), 2) := by decide +kernel
theorem dX5_asks_78 : decode cX5_asks 78 = .ok (.ireturn, 1) := by decide +kernel
theorem dX5_asks_79 : decode cX5_asks 79 = .ok (.aload_n 0, 1) := by decide +kernel
theorem dX5_asks_80 : decode cX5_asks 80 = .ok (.getfield 34, 3) := by decide +kernel
theorem dX5_asks_83 : decode cX5_asks 83 = .ok (.iload_n 1, 1) := by decide +kernel
theorem dX5_asks_84 : decode cX5_asks 84 = .ok (.iload_n 2, 1) := by decide +kernel
theorem dX5_asks_85 : decode cX5_asks 85 = .ok (.invokevirtual 124, 3) := by decide +kernel
theorem dX5_asks_88 : decode cX5_asks 88 = .ok (.aload_n 0, 1) := by decide +kernel
theorem dX5_asks_89 : decode cX5_asks 89 = .ok (.iload_n 1, 1) := by decide +kernel
theorem dX5_asks_90 : decode cX5_asks 90 = .ok (.aload_n 0, 1) := by decide +kernel
theorem dX5_asks_91 : decode cX5_asks 91 = .ok (.getfield 128, 3) := by decide +kernel
theorem dX5_asks_94 : decode cX5_asks 94 = .ok (.iload_n 1, 1) := by decide +kernel
theorem dX5_asks_95 : decode cX5_asks 95 = .ok (.invokevirtual 131, 3) := by decide +kernel
theorem dX5_asks_98 : decode cX5_asks 98 = .ok (.aload_n 0, 1) := by decide +kernel
theorem dX5_asks_99 : decode cX5_asks 99 = .ok (.getfield 34, 3) := by decide +kernel
theorem dX5_asks_102 : decode cX5_asks 102 = .ok (.iload_n 1, 1) := by decide +kernel
theorem dX5_asks_103 : decode cX5_asks 103 = .ok (.invokevirtual 121, 3) := by decide +kernel
theorem dX5_asks_106 : decode cX5_asks 106 = .ok (.ireturn, 1) := by decide +kernel
theorem dX5_sync_0 : decode cX5_sync 0 = .ok (.aload_n 0, 1) := by decide +kernel
theorem dX5_sync_1 : decode cX5_sync 1 = .ok (.getfield 55, 3) := by decide +kernel
theorem dX5_sync_4 : decode cX5_sync 4 = .ok (.ifCond .ne 6, 3) := by decide +kernel
theorem dX5_sync_7 : decode cX5_sync 7 = .ok (.bipush (-3), 2) := by decide +kernel
theorem dX5_sync_9 : decode cX5_sync 9 = .ok (.ireturn, 1) := by decide +kernel
theorem dX5_sync_10 : decode cX5_sync 10 = .ok (.aload_n 0, 1) := by decide +kernel
theorem dX5_sync_11 : decode cX5_sync 11 = .ok (.aload_n 0, 1) := by decide +kernel
theorem dX5_sync_12 : decode cX5_sync 12 = .ok (.getfield 34, 3) := by decide +kernel
theorem dX5_sync_15 : decode cX5_sync 15 = .ok (.invokevirtual 93, 3) := by decide +kernel
theorem dX5_sync_18 : decode cX5_sync 18 = .ok (.putfield 96, 3) := by decide +kernel
theorem dX5_sync_21 : decode cX5_sync 21 = .ok (.aload_n 0, 1) := by decide +kernel
theorem dX5_sync_22 : decode cX5_sync 22 = .ok (.getfield 27, 3) := by decide +kernel
theorem dX5_sync_25 : decode cX5_sync 25 = .ok (.bipush 64, 2) := by decide +kernel
theorem dX5_sync_27 : decode cX5_sync 27 = .ok (.iconst 0, 1) := by decide +kernel
theorem dX5_sync_28 : decode cX5_sync 28 = .ok (.invokevirtual 135, 3) := by decide +kernel
theorem dX5_sync_31 : decode cX5_sync 31 = .ok (.ireturn, 1) := by decide +kernel
theorem dX5_compact_0 : decode cX5_compact 0 = .ok (.iload_n 1, 1) := by decide +kernel
theorem dX5_compact_1 : decode cX5_compact 1 = .ok (.iconst 1, 1) := by decide +kernel
theorem dX5_compact_2 : decode cX5_compact 2 = .ok (.if_icmp .lt 10, 3) := by decide +kernel
theorem dX5_compact_5 : decode cX5_compact 5 = .ok (.iload_n 1, 1) := by decide +kernel
theorem dX5_compact_6 : decode cX5_compact 6 = .ok (.sipush 1000, 3) := by decide +kernel
theorem dX5_compact_9 : decode cX5_compact 9 = .ok (.if_icmp .le 6, 3) := by decide +kernel
theorem dX5_compact_12 : decode cX5_compact 12 = .ok (.bipush (-2), 2) := by decide +kernel
theorem dX5_compact_14 : decode cX5_compact 14 = .ok (.ireturn, 1) := by decide +kernel
theorem dX5_compact_15 : decode cX5_compact 15 = .ok (.aload_n 0, 1) := by decide +kernel
theorem dX5_compact_16 : decode cX5_compact 16 = .ok (.getfield 55, 3) := by decide +kernel
theorem dX5_compact_19 : decode cX5_compact 19 = .ok (.ifCond .ne 6, 3) := by decide +kernel
theorem dX5_compact_22 : decode cX5_compact 22 = .ok (.bipush (-3), 2) := by decide +kernel
theorem dX5_compact_24 : decode cX5_compact 24 = .ok (.ireturn, 1) := by decide +kernel
theorem dX5_compact_25 : decode cX5_compact 25 = .ok (.iconst 0, 1) := by decide +kernel
theorem dX5_compact_26 : decode cX5_compact 26 = .ok (.istore_n 2, 1) := by decide +kernel
theorem dX5_compact_27 : decode cX5_compact 27 = .ok (.iconst 0, 1) := by decide +kernel
theorem dX5_compact_28 : decode cX5_compact 28 = .ok (.istore_n 3, 1) := by decide +kernel
theorem dX5_compact_29 : decode cX5_compact 29 = .ok (.iload_n 2, 1) := by decide +kernel
theorem dX5_compact_30 : decode cX5_compact 30 = .ok (.iload_n 1, 1) := by decide +kernel
theorem dX5_compact_31 : decode cX5_compact 31 = .ok (.if_icmp .ge 18, 3) := by decide +kernel
theorem dX5_compact_34 : decode cX5_compact 34 = .ok (.iload_n 3, 1) := by decide +kernel
theorem dX5_compact_35 : decode cX5_compact 35 = .ok (.ifCond .ne 14, 3) := by decide +kernel
theorem dX5_compact_38 : decode cX5_compact 38 = .ok (.aload_n 0, 1) := by decide +kernel
theorem dX5_compact_39 : decode cX5_compact 39 = .ok (.invokevirtual 138, 3) := by decide +kernel
theorem dX5_compact_42 : decode cX5_compact 42 = .ok (.istore_n 3, 1) := by decide +kernel
theorem dX5_compact_43 : decode cX5_compact 43 = .ok (.iinc 2 1, 3) := by decide +kernel
theorem dX5_compact_46 : decode cX5_compact 46 = .ok (.goto (-17), 3) := by decide +kernel
theorem dX5_compact_49 : decode cX5_compact 49 = .ok (.iload_n 2, 1) := by decide +kernel
theorem dX5_compact_50 : decode cX5_compact 50 = .ok (.ireturn, 1) := by decide +kernel
theorem dX5_cut_0 : decode cX5_cut 0 = .ok (.aload_n 0, 1) := by decide +kernel
theorem dX5_cut_1 : decode cX5_cut 1 = .ok (.getfield 27, 3) := by decide +kernel
theorem dX5_cut_4 : decode cX5_cut 4 = .ok (.iload_n 1, 1) := by decide +kernel
theorem dX5_cut_5 : decode cX5_cut 5 = .ok (.iconst 0, 1) := by decide +kernel
theorem dX5_cut_6 : decode cX5_cut 6 = .ok (.invokestatic 9, 3) := by decide +kernel
theorem dX5_cut_9 : decode cX5_cut 9 = .ok (.iload_n 2, 1) := by decide +kernel
theorem dX5_cut_10 : decode cX5_cut 10 = .ok (.iconst 0, 1) := by decide +kernel
theorem dX5_cut_11 : decode cX5_cut 11 = .ok (.invokestatic 9, 3) := by decide +kernel
theorem dX5_cut_14 : decode cX5_cut 14 = .ok (.sipush 512, 3) := by decide +kernel
theorem dX5_cut_17 : decode cX5_cut 17 = .ok (.invokestatic 15, 3) := by decide +kernel
theorem dX5_cut_20 : decode cX5_cut 20 = .ok (.invokevirtual 135, 3) := by decide +kernel
theorem dX5_cut_23 : decode cX5_cut 23 = .ok (.pop, 1) := by decide +kernel
theorem dX5_cut_24 : decode cX5_cut 24 = .ok (.aload_n 0, 1) := by decide +kernel
theorem dX5_cut_25 : decode cX5_cut 25 = .ok (.iconst 0, 1) := by decide +kernel
theorem dX5_cut_26 : decode cX5_cut 26 = .ok (.putfield 55, 3) := by decide +kernel
theorem dX5_cut_29 : decode cX5_cut 29 = .ok (.aload_n 0, 1) := by decide +kernel
theorem dX5_cut_30 : decode cX5_cut 30 = .ok (.iconst (-1), 1) := by decide +kernel
theorem dX5_cut_31 : decode cX5_cut 31 = .ok (.putfield 49, 3) := by decide +kernel
theorem dX5_cut_34 : decode cX5_cut 34 = .ok (.aload_n 0, 1) := by decide +kernel
theorem dX5_cut_35 : decode cX5_cut 35 = .ok (.getfield 41, 3) := by decide +kernel
theorem dX5_cut_38 : decode cX5_cut 38 = .ok (.invokevirtual 142, 3) := by decide +kernel
theorem dX5_cut_41 : decode cX5_cut 41 = .ok (.return_, 1) := by decide +kernel
theorem dX5_digest_0 : decode cX5_digest 0 = .ok (.aload_n 0, 1) := by decide +kernel
theorem dX5_digest_1 : decode cX5_digest 1 = .ok (.getfield 55, 3) := by decide +kernel
theorem dX5_digest_4 : decode cX5_digest 4 = .ok (.ifCond .eq 10, 3) := by decide +kernel
theorem dX5_digest_7 : decode cX5_digest 7 = .ok (.iload_n 1, 1) := by decide +kernel
theorem dX5_digest_8 : decode cX5_digest 8 = .ok (.invokestatic 102, 3) := by decide +kernel
theorem dX5_digest_11 : decode cX5_digest 11 = .ok (.ifCond .ne 5, 3) := by decide +kernel
theorem dX5_digest_14 : decode cX5_digest 14 = .ok (.lconst 0, 1) := by decide +kernel
theorem dX5_digest_15 : decode cX5_digest 15 = .ok (.lreturn, 1) := by decide +kernel
theorem dX5_digest_16 : decode cX5_digest 16 = .ok (.aload_n 0, 1) := by decide +kernel
theorem dX5_digest_17 : decode cX5_digest 17 = .ok (.getfield 41, 3) := by decide +kernel
theorem dX5_digest_20 : decode cX5_digest 20 = .ok (.iload_n 1, 1) := by decide +kernel
theorem dX5_digest_21 : decode cX5_digest 21 = .ok (.invokevirtual 145, 3) := by decide +kernel
theorem dX5_digest_24 : decode cX5_digest 24 = .ok (.ifCond .eq 12, 3) := by decide +kernel
theorem dX5_digest_27 : decode cX5_digest 27 = .ok (.aload_n 0, 1) := by decide +kernel
theorem dX5_digest_28 : decode cX5_digest 28 = .ok (.getfield 41, 3) := by decide +kernel
theorem dX5_digest_31 : decode cX5_digest 31 = .ok (.iload_n 1, 1) := by decide +kernel
theorem dX5_digest_32 : decode cX5_digest 32 = .ok (.invokevirtual 148, 3) := by decide +kernel
theorem dX5_digest_35 : decode cX5_digest 35 = .ok (.lreturn, 1) := by decide +kernel
theorem dX5_digest_36 : decode cX5_digest 36 = .ok (.aload_n 0, 1) := by decide +kernel
theorem dX5_digest_37 : decode cX5_digest 37 = .ok (.getfield 34, 3) := by decide +kernel
theorem dX5_digest_40 : decode cX5_digest 40 = .ok (.iload_n 1, 1) := by decide +kernel
theorem dX5_digest_41 : decode cX5_digest 41 = .ok (.invokevirtual 152, 3) := by decide +kernel
theorem dX5_digest_44 : decode cX5_digest 44 = .ok (.istore_n 2, 1) := by decide +kernel
theorem dX5_digest_45 : decode cX5_digest 45 = .ok (.iload_n 2, 1) := by decide +kernel
theorem dX5_digest_46 : decode cX5_digest 46 = .ok (.iconst (-1), 1) := by decide +kernel
theorem dX5_digest_47 : decode cX5_digest 47 = .ok (.if_icmp .ne 7, 3) := by decide +kernel
theorem dX5_digest_50 : decode cX5_digest 50 = .ok (.lconst 0, 1) := by decide +kernel
theorem dX5_digest_51 : decode cX5_digest 51 = .ok (.goto 11, 3) := by decide +kernel
theorem dX5_digest_54 : decode cX5_digest 54 = .ok (.aload_n 0, 1) := by decide +kernel
theorem dX5_digest_55 : decode cX5_digest 55 = .ok (.getfield 34, 3) := by decide +kernel
theorem dX5_digest_58 : decode cX5_digest 58 = .ok (.iload_n 2, 1) := by decide +kernel
theorem dX5_digest_59 : decode cX5_digest 59 = .ok (.invokevirtual 155, 3) := by decide +kernel
theorem dX5_digest_62 : decode cX5_digest 62 = .ok (.lreturn, 1) := by decide +kernel
theorem dX5_asked_0 : decode cX5_asked 0 = .ok (.aload_n 0, 1) := by decide +kernel
theorem dX5_asked_1 : decode cX5_asked 1 = .ok (.getfield 55, 3) := by decide +kernel
theorem dX5_asked_4 : decode cX5_asked 4 = .ok (.ifCond .eq 21, 3) := by decide +kernel
theorem dX5_asked_7 : decode cX5_asked 7 = .ok (.iload_n 1, 1) := by decide +kernel
theorem dX5_asked_8 : decode cX5_asked 8 = .ok (.invokestatic 102, 3) := by decide +kernel
theorem dX5_asked_11 : decode cX5_asked 11 = .ok (.ifCond .eq 14, 3) := by decide +kernel
theorem dX5_asked_14 : decode cX5_asked 14 = .ok (.aload_n 0, 1) := by decide +kernel
theorem dX5_asked_15 : decode cX5_asked 15 = .ok (.getfield 41, 3) := by decide +kernel
theorem dX5_asked_18 : decode cX5_asked 18 = .ok (.iload_n 1, 1) := by decide +kernel
theorem dX5_asked_19 : decode cX5_asked 19 = .ok (.invokevirtual 145, 3) := by decide +kernel
theorem dX5_asked_22 : decode cX5_asked 22 = .ok (.ifCond .eq 5, 3) := by decide +kernel
theorem dX5_asked_25 : decode cX5_asked 25 = .ok (.iconst (-1), 1) := by decide +kernel
theorem dX5_asked_26 : decode cX5_asked 26 = .ok (.ireturn, 1) := by decide +kernel
theorem dX5_asked_27 : decode cX5_asked 27 = .ok (.aload_n 0, 1) := by decide +kernel
theorem dX5_asked_28 : decode cX5_asked 28 = .ok (.getfield 34, 3) := by decide +kernel
theorem dX5_asked_31 : decode cX5_asked 31 = .ok (.iload_n 1, 1) := by decide +kernel
theorem dX5_asked_32 : decode cX5_asked 32 = .ok (.invokevirtual 152, 3) := by decide +kernel
theorem dX5_asked_35 : decode cX5_asked 35 = .ok (.istore_n 3, 1) := by decide +kernel
theorem dX5_asked_36 : decode cX5_asked 36 = .ok (.iload_n 3, 1) := by decide +kernel
theorem dX5_asked_37 : decode cX5_asked 37 = .ok (.iconst (-1), 1) := by decide +kernel
theorem dX5_asked_38 : decode cX5_asked 38 = .ok (.if_icmp .eq 19, 3) := by decide +kernel
theorem dX5_asked_41 : decode cX5_asked 41 = .ok (.iload_n 2, 1) := by decide +kernel
theorem dX5_asked_42 : decode cX5_asked 42 = .ok (.ifCond .lt 15, 3) := by decide +kernel
theorem dX5_asked_45 : decode cX5_asked 45 = .ok (.iload_n 2, 1) := by decide +kernel
theorem dX5_asked_46 : decode cX5_asked 46 = .ok (.aload_n 0, 1) := by decide +kernel
theorem dX5_asked_47 : decode cX5_asked 47 = .ok (.getfield 34, 3) := by decide +kernel
theorem dX5_asked_50 : decode cX5_asked 50 = .ok (.iload_n 3, 1) := by decide +kernel
theorem dX5_asked_51 : decode cX5_asked 51 = .ok (.invokevirtual 121, 3) := by decide +kernel
theorem dX5_asked_54 : decode cX5_asked 54 = .ok (.if_icmp .lt 5, 3) := by decide +kernel
theorem dX5_asked_57 : decode cX5_asked 57 = .ok (.iconst (-1), 1) := by decide +kernel
theorem dX5_asked_58 : decode cX5_asked 58 = .ok (.ireturn, 1) := by decide +kernel
theorem dX5_asked_59 : decode cX5_asked 59 = .ok (.aload_n 0, 1) := by decide +kernel
theorem dX5_asked_60 : decode cX5_asked 60 = .ok (.getfield 34, 3) := by decide +kernel
theorem dX5_asked_63 : decode cX5_asked 63 = .ok (.iload_n 3, 1) := by decide +kernel
theorem dX5_asked_64 : decode cX5_asked 64 = .ok (.iload_n 2, 1) := by decide +kernel
theorem dX5_asked_65 : decode cX5_asked 65 = .ok (.invokevirtual 158, 3) := by decide +kernel
theorem dX5_asked_68 : decode cX5_asked 68 = .ok (.ireturn, 1) := by decide +kernel
theorem dX5_sure_0 : decode cX5_sure 0 = .ok (.aload_n 0, 1) := by decide +kernel
theorem dX5_sure_1 : decode cX5_sure 1 = .ok (.getfield 55, 3) := by decide +kernel
theorem dX5_sure_4 : decode cX5_sure 4 = .ok (.ifCond .eq 10, 3) := by decide +kernel
theorem dX5_sure_7 : decode cX5_sure 7 = .ok (.iload_n 1, 1) := by decide +kernel
theorem dX5_sure_8 : decode cX5_sure 8 = .ok (.invokestatic 102, 3) := by decide +kernel
theorem dX5_sure_11 : decode cX5_sure 11 = .ok (.ifCond .ne 5, 3) := by decide +kernel
theorem dX5_sure_14 : decode cX5_sure 14 = .ok (.iconst 0, 1) := by decide +kernel
theorem dX5_sure_15 : decode cX5_sure 15 = .ok (.ireturn, 1) := by decide +kernel
theorem dX5_sure_16 : decode cX5_sure 16 = .ok (.aload_n 0, 1) := by decide +kernel
theorem dX5_sure_17 : decode cX5_sure 17 = .ok (.getfield 41, 3) := by decide +kernel
theorem dX5_sure_20 : decode cX5_sure 20 = .ok (.iload_n 1, 1) := by decide +kernel
theorem dX5_sure_21 : decode cX5_sure 21 = .ok (.invokevirtual 145, 3) := by decide +kernel
theorem dX5_sure_24 : decode cX5_sure 24 = .ok (.ifCond .eq 5, 3) := by decide +kernel
theorem dX5_sure_27 : decode cX5_sure 27 = .ok (.iconst 1, 1) := by decide +kernel
theorem dX5_sure_28 : decode cX5_sure 28 = .ok (.ireturn, 1) := by decide +kernel
theorem dX5_sure_29 : decode cX5_sure 29 = .ok (.aload_n 0, 1) := by decide +kernel
theorem dX5_sure_30 : decode cX5_sure 30 = .ok (.getfield 34, 3) := by decide +kernel
theorem dX5_sure_33 : decode cX5_sure 33 = .ok (.iload_n 1, 1) := by decide +kernel
theorem dX5_sure_34 : decode cX5_sure 34 = .ok (.invokevirtual 152, 3) := by decide +kernel
theorem dX5_sure_37 : decode cX5_sure 37 = .ok (.istore_n 2, 1) := by decide +kernel
theorem dX5_sure_38 : decode cX5_sure 38 = .ok (.iload_n 2, 1) := by decide +kernel
theorem dX5_sure_39 : decode cX5_sure 39 = .ok (.iconst (-1), 1) := by decide +kernel
theorem dX5_sure_40 : decode cX5_sure 40 = .ok (.if_icmp .eq 26, 3) := by decide +kernel
theorem dX5_sure_43 : decode cX5_sure 43 = .ok (.aload_n 0, 1) := by decide +kernel
theorem dX5_sure_44 : decode cX5_sure 44 = .ok (.getfield 34, 3) := by decide +kernel
theorem dX5_sure_47 : decode cX5_sure 47 = .ok (.iload_n 2, 1) := by decide +kernel
theorem dX5_sure_48 : decode cX5_sure 48 = .ok (.invokevirtual 161, 3) := by decide +kernel
theorem dX5_sure_51 : decode cX5_sure 51 = .ok (.ifCond .ne 15, 3) := by decide +kernel
theorem dX5_sure_54 : decode cX5_sure 54 = .ok (.aload_n 0, 1) := by decide +kernel
theorem dX5_sure_55 : decode cX5_sure 55 = .ok (.iload_n 2, 1) := by decide +kernel
theorem dX5_sure_56 : decode cX5_sure 56 = .ok (.invokevirtual 164, 3) := by decide +kernel
theorem dX5_sure_59 : decode cX5_sure 59 = .ok (.ifCond .eq 7, 3) := by decide +kernel
theorem dX5_sure_62 : decode cX5_sure 62 = .ok (.iconst 1, 1) := by decide +kernel
theorem dX5_sure_63 : decode cX5_sure 63 = .ok (.goto 4, 3) := by decide +kernel
theorem dX5_sure_66 : decode cX5_sure 66 = .ok (.iconst 0, 1) := by decide +kernel
theorem dX5_sure_67 : decode cX5_sure 67 = .ok (.ireturn, 1) := by decide +kernel
theorem dX5_poke_0 : decode cX5_poke 0 = .ok (.iload_n 1, 1) := by decide +kernel
theorem dX5_poke_1 : decode cX5_poke 1 = .ok (.ifCond .lt 27, 3) := by decide +kernel
theorem dX5_poke_4 : decode cX5_poke 4 = .ok (.iload_n 1, 1) := by decide +kernel
theorem dX5_poke_5 : decode cX5_poke 5 = .ok (.aload_n 0, 1) := by decide +kernel
theorem dX5_poke_6 : decode cX5_poke 6 = .ok (.getfield 27, 3) := by decide +kernel
theorem dX5_poke_9 : decode cX5_poke 9 = .ok (.getfield 59, 3) := by decide +kernel
theorem dX5_poke_12 : decode cX5_poke 12 = .ok (.arraylength, 1) := by decide +kernel
theorem dX5_poke_13 : decode cX5_poke 13 = .ok (.if_icmp .ge 15, 3) := by decide +kernel
theorem dX5_poke_16 : decode cX5_poke 16 = .ok (.iload_n 2, 1) := by decide +kernel
theorem dX5_poke_17 : decode cX5_poke 17 = .ok (.iconst 1, 1) := by decide +kernel
theorem dX5_poke_18 : decode cX5_poke 18 = .ok (.if_icmp .lt 10, 3) := by decide +kernel
theorem dX5_poke_21 : decode cX5_poke 21 = .ok (.iload_n 2, 1) := by decide +kernel
theorem dX5_poke_22 : decode cX5_poke 22 = .ok (.sipush 255, 3) := by decide +kernel
theorem dX5_poke_25 : decode cX5_poke 25 = .ok (.if_icmp .le 6, 3) := by decide +kernel
theorem dX5_poke_28 : decode cX5_poke 28 = .ok (.bipush (-2), 2) := by decide +kernel
theorem dX5_poke_30 : decode cX5_poke 30 = .ok (.ireturn, 1) := by decide +kernel
theorem dX5_poke_31 : decode cX5_poke 31 = .ok (.aload_n 0, 1) := by decide +kernel
theorem dX5_poke_32 : decode cX5_poke 32 = .ok (.getfield 27, 3) := by decide +kernel
theorem dX5_poke_35 : decode cX5_poke 35 = .ok (.getfield 59, 3) := by decide +kernel
theorem dX5_poke_38 : decode cX5_poke 38 = .ok (.iload_n 1, 1) := by decide +kernel
theorem dX5_poke_39 : decode cX5_poke 39 = .ok (.aload_n 0, 1) := by decide +kernel
theorem dX5_poke_40 : decode cX5_poke 40 = .ok (.getfield 27, 3) := by decide +kernel
theorem dX5_poke_43 : decode cX5_poke 43 = .ok (.getfield 59, 3) := by decide +kernel
theorem dX5_poke_46 : decode cX5_poke 46 = .ok (.iload_n 1, 1) := by decide +kernel
theorem dX5_poke_47 : decode cX5_poke 47 = .ok (.baload, 1) := by decide +kernel
theorem dX5_poke_48 : decode cX5_poke 48 = .ok (.iload_n 2, 1) := by decide +kernel
theorem dX5_poke_49 : decode cX5_poke 49 = .ok (.ixor, 1) := by decide +kernel
theorem dX5_poke_50 : decode cX5_poke 50 = .ok (.i2b, 1) := by decide +kernel
theorem dX5_poke_51 : decode cX5_poke 51 = .ok (.bastore, 1) := by decide +kernel
theorem dX5_poke_52 : decode cX5_poke 52 = .ok (.iconst 1, 1) := by decide +kernel
theorem dX5_poke_53 : decode cX5_poke 53 = .ok (.ireturn, 1) := by decide +kernel
theorem dX5_wrong_0 : decode cX5_wrong 0 = .ok (.aload_n 0, 1) := by decide +kernel
theorem dX5_wrong_1 : decode cX5_wrong 1 = .ok (.getfield 90, 3) := by decide +kernel
theorem dX5_wrong_4 : decode cX5_wrong 4 = .ok (.ireturn, 1) := by decide +kernel
theorem dX5_lock_0 : decode cX5_lock 0 = .ok (.iload_n 1, 1) := by decide +kernel
theorem dX5_lock_1 : decode cX5_lock 1 = .ok (.invokestatic 177, 3) := by decide +kernel
theorem dX5_lock_4 : decode cX5_lock 4 = .ok (.ifCond .ne 6, 3) := by decide +kernel
theorem dX5_lock_7 : decode cX5_lock 7 = .ok (.bipush (-2), 2) := by decide +kernel
theorem dX5_lock_9 : decode cX5_lock 9 = .ok (.ireturn, 1) := by decide +kernel
theorem dX5_lock_10 : decode cX5_lock 10 = .ok (.aload_n 0, 1) := by decide +kernel
theorem dX5_lock_11 : decode cX5_lock 11 = .ok (.getfield 55, 3) := by decide +kernel
theorem dX5_lock_14 : decode cX5_lock 14 = .ok (.ifCond .ne 6, 3) := by decide +kernel
theorem dX5_lock_17 : decode cX5_lock 17 = .ok (.bipush (-3), 2) := by decide +kernel
theorem dX5_lock_19 : decode cX5_lock 19 = .ok (.ireturn, 1) := by decide +kernel
theorem dX5_lock_20 : decode cX5_lock 20 = .ok (.aload_n 0, 1) := by decide +kernel
theorem dX5_lock_21 : decode cX5_lock 21 = .ok (.getfield 34, 3) := by decide +kernel
theorem dX5_lock_24 : decode cX5_lock 24 = .ok (.invokevirtual 180, 3) := by decide +kernel
theorem dX5_lock_27 : decode cX5_lock 27 = .ok (.istore_n 2, 1) := by decide +kernel
theorem dX5_lock_28 : decode cX5_lock 28 = .ok (.iload_n 2, 1) := by decide +kernel
theorem dX5_lock_29 : decode cX5_lock 29 = .ok (.iconst (-1), 1) := by decide +kernel
theorem dX5_lock_30 : decode cX5_lock 30 = .ok (.if_icmp .eq 14, 3) := by decide +kernel
theorem dX5_lock_33 : decode cX5_lock 33 = .ok (.iload_n 2, 1) := by decide +kernel
theorem dX5_lock_34 : decode cX5_lock 34 = .ok (.iload_n 1, 1) := by decide +kernel
theorem dX5_lock_35 : decode cX5_lock 35 = .ok (.if_icmp .ne 7, 3) := by decide +kernel
theorem dX5_lock_38 : decode cX5_lock 38 = .ok (.iconst 1, 1) := by decide +kernel
theorem dX5_lock_39 : decode cX5_lock 39 = .ok (.goto 4, 3) := by decide +kernel
theorem dX5_lock_42 : decode cX5_lock 42 = .ok (.iconst 0, 1) := by decide +kernel
theorem dX5_lock_43 : decode cX5_lock 43 = .ok (.ireturn, 1) := by decide +kernel
theorem dX5_lock_44 : decode cX5_lock 44 = .ok (.aload_n 0, 1) := by decide +kernel
theorem dX5_lock_45 : decode cX5_lock 45 = .ok (.iconst 2, 1) := by decide +kernel
theorem dX5_lock_46 : decode cX5_lock 46 = .ok (.iload_n 1, 1) := by decide +kernel
theorem dX5_lock_47 : decode cX5_lock 47 = .ok (.lconst 0, 1) := by decide +kernel
theorem dX5_lock_48 : decode cX5_lock 48 = .ok (.invokevirtual 106, 3) := by decide +kernel
theorem dX5_lock_51 : decode cX5_lock 51 = .ok (.iconst (-1), 1) := by decide +kernel
theorem dX5_lock_52 : decode cX5_lock 52 = .ok (.if_icmp .ne 8, 3) := by decide +kernel
theorem dX5_lock_55 : decode cX5_lock 55 = .ok (.bipush (-4), 2) := by decide +kernel
theorem dX5_lock_57 : decode cX5_lock 57 = .ok (.goto 4, 3) := by decide +kernel
theorem dX5_lock_60 : decode cX5_lock 60 = .ok (.iconst 1, 1) := by decide +kernel
theorem dX5_lock_61 : decode cX5_lock 61 = .ok (.ireturn, 1) := by decide +kernel
theorem dX5_dead_0 : decode cX5_dead 0 = .ok (.iload_n 1, 1) := by decide +kernel
theorem dX5_dead_1 : decode cX5_dead 1 = .ok (.invokestatic 177, 3) := by decide +kernel
theorem dX5_dead_4 : decode cX5_dead 4 = .ok (.ifCond .ne 6, 3) := by decide +kernel
theorem dX5_dead_7 : decode cX5_dead 7 = .ok (.bipush (-2), 2) := by decide +kernel
theorem dX5_dead_9 : decode cX5_dead 9 = .ok (.ireturn, 1) := by decide +kernel
theorem dX5_dead_10 : decode cX5_dead 10 = .ok (.aload_n 0, 1) := by decide +kernel
theorem dX5_dead_11 : decode cX5_dead 11 = .ok (.getfield 55, 3) := by decide +kernel
theorem dX5_dead_14 : decode cX5_dead 14 = .ok (.ifCond .ne 6, 3) := by decide +kernel
theorem dX5_dead_17 : decode cX5_dead 17 = .ok (.bipush (-3), 2) := by decide +kernel
theorem dX5_dead_19 : decode cX5_dead 19 = .ok (.ireturn, 1) := by decide +kernel
theorem dX5_dead_20 : decode cX5_dead 20 = .ok (.aload_n 0, 1) := by decide +kernel
theorem dX5_dead_21 : decode cX5_dead 21 = .ok (.getfield 34, 3) := by decide +kernel
theorem dX5_dead_24 : decode cX5_dead 24 = .ok (.invokevirtual 180, 3) := by decide +kernel
theorem dX5_dead_27 : decode cX5_dead 27 = .ok (.iload_n 1, 1) := by decide +kernel
theorem dX5_dead_28 : decode cX5_dead 28 = .ok (.if_icmp .eq 5, 3) := by decide +kernel
theorem dX5_dead_31 : decode cX5_dead 31 = .ok (.iconst 0, 1) := by decide +kernel
theorem dX5_dead_32 : decode cX5_dead 32 = .ok (.ireturn, 1) := by decide +kernel
theorem dX5_dead_33 : decode cX5_dead 33 = .ok (.aload_n 0, 1) := by decide +kernel
theorem dX5_dead_34 : decode cX5_dead 34 = .ok (.iconst 3, 1) := by decide +kernel
theorem dX5_dead_35 : decode cX5_dead 35 = .ok (.iload_n 1, 1) := by decide +kernel
theorem dX5_dead_36 : decode cX5_dead 36 = .ok (.lconst 0, 1) := by decide +kernel
theorem dX5_dead_37 : decode cX5_dead 37 = .ok (.invokevirtual 106, 3) := by decide +kernel
theorem dX5_dead_40 : decode cX5_dead 40 = .ok (.iconst (-1), 1) := by decide +kernel
theorem dX5_dead_41 : decode cX5_dead 41 = .ok (.if_icmp .ne 8, 3) := by decide +kernel
theorem dX5_dead_44 : decode cX5_dead 44 = .ok (.bipush (-4), 2) := by decide +kernel
theorem dX5_dead_46 : decode cX5_dead 46 = .ok (.goto 4, 3) := by decide +kernel
theorem dX5_dead_49 : decode cX5_dead 49 = .ok (.iconst 1, 1) := by decide +kernel
theorem dX5_dead_50 : decode cX5_dead 50 = .ok (.ireturn, 1) := by decide +kernel
theorem dX5_edition_0 : decode cX5_edition 0 = .ok (.iload_n 1, 1) := by decide +kernel
theorem dX5_edition_1 : decode cX5_edition 1 = .ok (.iconst 1, 1) := by decide +kernel
theorem dX5_edition_2 : decode cX5_edition 2 = .ok (.if_icmp .lt 10, 3) := by decide +kernel
theorem dX5_edition_5 : decode cX5_edition 5 = .ok (.iload_n 1, 1) := by decide +kernel
theorem dX5_edition_6 : decode cX5_edition 6 = .ok (.sipush 200, 3) := by decide +kernel
theorem dX5_edition_9 : decode cX5_edition 9 = .ok (.if_icmp .le 6, 3) := by decide +kernel
theorem dX5_edition_12 : decode cX5_edition 12 = .ok (.bipush (-2), 2) := by decide +kernel
theorem dX5_edition_14 : decode cX5_edition 14 = .ok (.ireturn, 1) := by decide +kernel
theorem dX5_edition_15 : decode cX5_edition 15 = .ok (.aload_n 0, 1) := by decide +kernel
theorem dX5_edition_16 : decode cX5_edition 16 = .ok (.iload_n 1, 1) := by decide +kernel
theorem dX5_edition_17 : decode cX5_edition 17 = .ok (.putfield 52, 3) := by decide +kernel
theorem dX5_edition_20 : decode cX5_edition 20 = .ok (.iconst 1, 1) := by decide +kernel
theorem dX5_edition_21 : decode cX5_edition 21 = .ok (.ireturn, 1) := by decide +kernel
theorem dX5_aboutRunning_0 : decode cX5_aboutRunning 0 = .ok (.iload_n 1, 1) := by decide +kernel
theorem dX5_aboutRunning_1 : decode cX5_aboutRunning 1 = .ok (.tableswitch 90 1 7 #[43, 51, 59, 67, 75, 80, 85], 43) := by decide +kernel
theorem dX5_aboutRunning_44 : decode cX5_aboutRunning 44 = .ok (.aload_n 0, 1) := by decide +kernel
theorem dX5_aboutRunning_45 : decode cX5_aboutRunning 45 = .ok (.getfield 34, 3) := by decide +kernel
theorem dX5_aboutRunning_48 : decode cX5_aboutRunning 48 = .ok (.invokevirtual 93, 3) := by decide +kernel
theorem dX5_aboutRunning_51 : decode cX5_aboutRunning 51 = .ok (.ireturn, 1) := by decide +kernel
theorem dX5_aboutRunning_52 : decode cX5_aboutRunning 52 = .ok (.aload_n 0, 1) := by decide +kernel
theorem dX5_aboutRunning_53 : decode cX5_aboutRunning 53 = .ok (.getfield 27, 3) := by decide +kernel
theorem dX5_aboutRunning_56 : decode cX5_aboutRunning 56 = .ok (.invokevirtual 189, 3) := by decide +kernel
theorem dX5_aboutRunning_59 : decode cX5_aboutRunning 59 = .ok (.ireturn, 1) := by decide +kernel
theorem dX5_aboutRunning_60 : decode cX5_aboutRunning 60 = .ok (.aload_n 0, 1) := by decide +kernel
theorem dX5_aboutRunning_61 : decode cX5_aboutRunning 61 = .ok (.getfield 41, 3) := by decide +kernel
theorem dX5_aboutRunning_64 : decode cX5_aboutRunning 64 = .ok (.invokevirtual 192, 3) := by decide +kernel
theorem dX5_aboutRunning_67 : decode cX5_aboutRunning 67 = .ok (.ireturn, 1) := by decide +kernel
theorem dX5_aboutRunning_68 : decode cX5_aboutRunning 68 = .ok (.aload_n 0, 1) := by decide +kernel
theorem dX5_aboutRunning_69 : decode cX5_aboutRunning 69 = .ok (.getfield 34, 3) := by decide +kernel
theorem dX5_aboutRunning_72 : decode cX5_aboutRunning 72 = .ok (.invokevirtual 180, 3) := by decide +kernel
theorem dX5_aboutRunning_75 : decode cX5_aboutRunning 75 = .ok (.ireturn, 1) := by decide +kernel
theorem dX5_aboutRunning_76 : decode cX5_aboutRunning 76 = .ok (.aload_n 0, 1) := by decide +kernel
theorem dX5_aboutRunning_77 : decode cX5_aboutRunning 77 = .ok (.getfield 128, 3) := by decide +kernel
theorem dX5_aboutRunning_80 : decode cX5_aboutRunning 80 = .ok (.ireturn, 1) := by decide +kernel
theorem dX5_aboutRunning_81 : decode cX5_aboutRunning 81 = .ok (.aload_n 0, 1) := by decide +kernel
theorem dX5_aboutRunning_82 : decode cX5_aboutRunning 82 = .ok (.getfield 195, 3) := by decide +kernel
theorem dX5_aboutRunning_85 : decode cX5_aboutRunning 85 = .ok (.ireturn, 1) := by decide +kernel
theorem dX5_aboutRunning_86 : decode cX5_aboutRunning 86 = .ok (.aload_n 0, 1) := by decide +kernel
theorem dX5_aboutRunning_87 : decode cX5_aboutRunning 87 = .ok (.getfield 49, 3) := by decide +kernel
theorem dX5_aboutRunning_90 : decode cX5_aboutRunning 90 = .ok (.ireturn, 1) := by decide +kernel
theorem dX5_aboutRunning_91 : decode cX5_aboutRunning 91 = .ok (.iconst (-1), 1) := by decide +kernel
theorem dX5_aboutRunning_92 : decode cX5_aboutRunning 92 = .ok (.ireturn, 1) := by decide +kernel
theorem dX5_about_0 : decode cX5_about 0 = .ok (.iload_n 1, 1) := by decide +kernel
theorem dX5_about_1 : decode cX5_about 1 = .ok (.ifCond .ne 16, 3) := by decide +kernel
theorem dX5_about_4 : decode cX5_about 4 = .ok (.aload_n 0, 1) := by decide +kernel
theorem dX5_about_5 : decode cX5_about 5 = .ok (.getfield 55, 3) := by decide +kernel
theorem dX5_about_8 : decode cX5_about 8 = .ok (.ifCond .eq 7, 3) := by decide +kernel
theorem dX5_about_11 : decode cX5_about 11 = .ok (.iconst 1, 1) := by decide +kernel
theorem dX5_about_12 : decode cX5_about 12 = .ok (.goto 4, 3) := by decide +kernel
theorem dX5_about_15 : decode cX5_about 15 = .ok (.iconst 0, 1) := by decide +kernel
theorem dX5_about_16 : decode cX5_about 16 = .ok (.ireturn, 1) := by decide +kernel
theorem dX5_about_17 : decode cX5_about 17 = .ok (.iload_n 1, 1) := by decide +kernel
theorem dX5_about_18 : decode cX5_about 18 = .ok (.bipush 8, 2) := by decide +kernel
theorem dX5_about_20 : decode cX5_about 20 = .ok (.if_icmp .ne 11, 3) := by decide +kernel
theorem dX5_about_23 : decode cX5_about 23 = .ok (.aload_n 0, 1) := by decide +kernel
theorem dX5_about_24 : decode cX5_about 24 = .ok (.getfield 34, 3) := by decide +kernel
theorem dX5_about_27 : decode cX5_about 27 = .ok (.invokevirtual 183, 3) := by decide +kernel
theorem dX5_about_30 : decode cX5_about 30 = .ok (.ireturn, 1) := by decide +kernel
theorem dX5_about_31 : decode cX5_about 31 = .ok (.aload_n 0, 1) := by decide +kernel
theorem dX5_about_32 : decode cX5_about 32 = .ok (.getfield 55, 3) := by decide +kernel
theorem dX5_about_35 : decode cX5_about 35 = .ok (.ifCond .eq 11, 3) := by decide +kernel
theorem dX5_about_38 : decode cX5_about 38 = .ok (.aload_n 0, 1) := by decide +kernel
theorem dX5_about_39 : decode cX5_about 39 = .ok (.iload_n 1, 1) := by decide +kernel
theorem dX5_about_40 : decode cX5_about 40 = .ok (.invokevirtual 186, 3) := by decide +kernel
theorem dX5_about_43 : decode cX5_about 43 = .ok (.goto 4, 3) := by decide +kernel
theorem dX5_about_46 : decode cX5_about 46 = .ok (.iconst (-1), 1) := by decide +kernel
theorem dX5_about_47 : decode cX5_about 47 = .ok (.ireturn, 1) := by decide +kernel
theorem dX5_start_0 : decode cX5_start 0 = .ok (.aload_n 0, 1) := by decide +kernel
theorem dX5_start_1 : decode cX5_start 1 = .ok (.getfield 55, 3) := by decide +kernel
theorem dX5_start_4 : decode cX5_start 4 = .ok (.ifCond .eq 6, 3) := by decide +kernel
theorem dX5_start_7 : decode cX5_start 7 = .ok (.bipush (-3), 2) := by decide +kernel
theorem dX5_start_9 : decode cX5_start 9 = .ok (.ireturn, 1) := by decide +kernel
theorem dX5_start_10 : decode cX5_start 10 = .ok (.aload_n 0, 1) := by decide +kernel
theorem dX5_start_11 : decode cX5_start 11 = .ok (.getfield 27, 3) := by decide +kernel
theorem dX5_start_14 : decode cX5_start 14 = .ok (.getfield 59, 3) := by decide +kernel
theorem dX5_start_17 : decode cX5_start 17 = .ok (.invokestatic 63, 3) := by decide +kernel
theorem dX5_start_20 : decode cX5_start 20 = .ok (.istore_n 1, 1) := by decide +kernel
theorem dX5_start_21 : decode cX5_start 21 = .ok (.iload_n 1, 1) := by decide +kernel
theorem dX5_start_22 : decode cX5_start 22 = .ok (.iconst (-1), 1) := by decide +kernel
theorem dX5_start_23 : decode cX5_start 23 = .ok (.if_icmp .eq 23, 3) := by decide +kernel
theorem dX5_start_26 : decode cX5_start 26 = .ok (.aload_n 0, 1) := by decide +kernel
theorem dX5_start_27 : decode cX5_start 27 = .ok (.aload_n 0, 1) := by decide +kernel
theorem dX5_start_28 : decode cX5_start 28 = .ok (.getfield 27, 3) := by decide +kernel
theorem dX5_start_31 : decode cX5_start 31 = .ok (.getfield 59, 3) := by decide +kernel
theorem dX5_start_34 : decode cX5_start 34 = .ok (.iload_n 1, 1) := by decide +kernel
theorem dX5_start_35 : decode cX5_start 35 = .ok (.invokestatic 69, 3) := by decide +kernel
theorem dX5_start_38 : decode cX5_start 38 = .ok (.invokevirtual 73, 3) := by decide +kernel
theorem dX5_start_41 : decode cX5_start 41 = .ok (.ifCond .ne 5, 3) := by decide +kernel
theorem dX5_start_44 : decode cX5_start 44 = .ok (.iconst (-1), 1) := by decide +kernel
theorem dX5_start_45 : decode cX5_start 45 = .ok (.ireturn, 1) := by decide +kernel
theorem dX5_start_46 : decode cX5_start 46 = .ok (.iload_n 1, 1) := by decide +kernel
theorem dX5_start_47 : decode cX5_start 47 = .ok (.iconst (-1), 1) := by decide +kernel
theorem dX5_start_48 : decode cX5_start 48 = .ok (.if_icmp .ne 10, 3) := by decide +kernel
theorem dX5_start_51 : decode cX5_start 51 = .ok (.aload_n 0, 1) := by decide +kernel
theorem dX5_start_52 : decode cX5_start 52 = .ok (.invokevirtual 77, 3) := by decide +kernel
theorem dX5_start_55 : decode cX5_start 55 = .ok (.goto 8, 3) := by decide +kernel
theorem dX5_start_58 : decode cX5_start 58 = .ok (.aload_n 0, 1) := by decide +kernel
theorem dX5_start_59 : decode cX5_start 59 = .ok (.iload_n 1, 1) := by decide +kernel
theorem dX5_start_60 : decode cX5_start 60 = .ok (.invokevirtual 80, 3) := by decide +kernel
theorem dX5_start_63 : decode cX5_start 63 = .ok (.aload_n 0, 1) := by decide +kernel
theorem dX5_start_64 : decode cX5_start 64 = .ok (.aload_n 0, 1) := by decide +kernel
theorem dX5_start_65 : decode cX5_start 65 = .ok (.getfield 52, 3) := by decide +kernel
theorem dX5_start_68 : decode cX5_start 68 = .ok (.putfield 83, 3) := by decide +kernel
theorem dX5_start_71 : decode cX5_start 71 = .ok (.aload_n 0, 1) := by decide +kernel
theorem dX5_start_72 : decode cX5_start 72 = .ok (.aload_n 0, 1) := by decide +kernel
theorem dX5_start_73 : decode cX5_start 73 = .ok (.getfield 34, 3) := by decide +kernel
theorem dX5_start_76 : decode cX5_start 76 = .ok (.invokevirtual 86, 3) := by decide +kernel
theorem dX5_start_79 : decode cX5_start 79 = .ok (.putfield 90, 3) := by decide +kernel
theorem dX5_start_82 : decode cX5_start 82 = .ok (.aload_n 0, 1) := by decide +kernel
theorem dX5_start_83 : decode cX5_start 83 = .ok (.aload_n 0, 1) := by decide +kernel
theorem dX5_start_84 : decode cX5_start 84 = .ok (.getfield 34, 3) := by decide +kernel
theorem dX5_start_87 : decode cX5_start 87 = .ok (.invokevirtual 93, 3) := by decide +kernel
theorem dX5_start_90 : decode cX5_start 90 = .ok (.putfield 96, 3) := by decide +kernel
theorem dX5_start_93 : decode cX5_start 93 = .ok (.aload_n 0, 1) := by decide +kernel
theorem dX5_start_94 : decode cX5_start 94 = .ok (.invokevirtual 99, 3) := by decide +kernel
theorem dX5_start_97 : decode cX5_start 97 = .ok (.aload_n 0, 1) := by decide +kernel
theorem dX5_start_98 : decode cX5_start 98 = .ok (.iconst 1, 1) := by decide +kernel
theorem dX5_start_99 : decode cX5_start 99 = .ok (.putfield 55, 3) := by decide +kernel
theorem dX5_start_102 : decode cX5_start 102 = .ok (.aload_n 0, 1) := by decide +kernel
theorem dX5_start_103 : decode cX5_start 103 = .ok (.getfield 34, 3) := by decide +kernel
theorem dX5_start_106 : decode cX5_start 106 = .ok (.invokevirtual 93, 3) := by decide +kernel
theorem dX5_start_109 : decode cX5_start 109 = .ok (.aload_n 0, 1) := by decide +kernel
theorem dX5_start_110 : decode cX5_start 110 = .ok (.getfield 34, 3) := by decide +kernel
theorem dX5_start_113 : decode cX5_start 113 = .ok (.invokevirtual 86, 3) := by decide +kernel
theorem dX5_start_116 : decode cX5_start 116 = .ok (.isub, 1) := by decide +kernel
theorem dX5_start_117 : decode cX5_start 117 = .ok (.ireturn, 1) := by decide +kernel
