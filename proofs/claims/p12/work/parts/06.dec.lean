theorem dX2_read_0 : decode cX2_read 0 = .ok (.lconst 0, 1) := by decide +kernel
theorem dX2_read_1 : decode cX2_read 1 = .ok (.lstore_n 3, 1) := by decide +kernel
theorem dX2_read_2 : decode cX2_read 2 = .ok (.iconst 0, 1) := by decide +kernel
theorem dX2_read_3 : decode cX2_read 3 = .ok (.istore 5, 2) := by decide +kernel
theorem dX2_read_5 : decode cX2_read 5 = .ok (.iload 5, 2) := by decide +kernel
theorem dX2_read_7 : decode cX2_read 7 = .ok (.iload_n 2, 1) := by decide +kernel
theorem dX2_read_8 : decode cX2_read 8 = .ok (.if_icmp .ge 26, 3) := by decide +kernel
theorem dX2_read_11 : decode cX2_read 11 = .ok (.lload_n 3, 1) := by decide +kernel
theorem dX2_read_12 : decode cX2_read 12 = .ok (.bipush 8, 2) := by decide +kernel
theorem dX2_read_14 : decode cX2_read 14 = .ok (.lshl, 1) := by decide +kernel
theorem dX2_read_15 : decode cX2_read 15 = .ok (.aload_n 0, 1) := by decide +kernel
theorem dX2_read_16 : decode cX2_read 16 = .ok (.iload_n 1, 1) := by decide +kernel
theorem dX2_read_17 : decode cX2_read 17 = .ok (.iload 5, 2) := by decide +kernel
theorem dX2_read_19 : decode cX2_read 19 = .ok (.iadd, 1) := by decide +kernel
theorem dX2_read_20 : decode cX2_read 20 = .ok (.baload, 1) := by decide +kernel
theorem dX2_read_21 : decode cX2_read 21 = .ok (.sipush 255, 3) := by decide +kernel
theorem dX2_read_24 : decode cX2_read 24 = .ok (.iand, 1) := by decide +kernel
theorem dX2_read_25 : decode cX2_read 25 = .ok (.i2l, 1) := by decide +kernel
theorem dX2_read_26 : decode cX2_read 26 = .ok (.lor, 1) := by decide +kernel
theorem dX2_read_27 : decode cX2_read 27 = .ok (.lstore_n 3, 1) := by decide +kernel
theorem dX2_read_28 : decode cX2_read 28 = .ok (.iinc 5 1, 3) := by decide +kernel
theorem dX2_read_31 : decode cX2_read 31 = .ok (.goto (-26), 3) := by decide +kernel
theorem dX2_read_34 : decode cX2_read 34 = .ok (.lload_n 3, 1) := by decide +kernel
theorem dX2_read_35 : decode cX2_read 35 = .ok (.lreturn, 1) := by decide +kernel
theorem dX2_sum_0 : decode cX2_sum 0 = .ok (.iload_n 3, 1) := by decide +kernel
theorem dX2_sum_1 : decode cX2_sum 1 = .ok (.iconst 1, 1) := by decide +kernel
theorem dX2_sum_2 : decode cX2_sum 2 = .ok (.iadd, 1) := by decide +kernel
theorem dX2_sum_3 : decode cX2_sum 3 = .ok (.istore 4, 2) := by decide +kernel
theorem dX2_sum_5 : decode cX2_sum 5 = .ok (.iconst 0, 1) := by decide +kernel
theorem dX2_sum_6 : decode cX2_sum 6 = .ok (.istore 5, 2) := by decide +kernel
theorem dX2_sum_8 : decode cX2_sum 8 = .ok (.iload 5, 2) := by decide +kernel
theorem dX2_sum_10 : decode cX2_sum 10 = .ok (.iload_n 2, 1) := by decide +kernel
theorem dX2_sum_11 : decode cX2_sum 11 = .ok (.if_icmp .ge 39, 3) := by decide +kernel
theorem dX2_sum_14 : decode cX2_sum 14 = .ok (.iload 4, 2) := by decide +kernel
theorem dX2_sum_16 : decode cX2_sum 16 = .ok (.aload_n 0, 1) := by decide +kernel
theorem dX2_sum_17 : decode cX2_sum 17 = .ok (.iload_n 1, 1) := by decide +kernel
theorem dX2_sum_18 : decode cX2_sum 18 = .ok (.iload 5, 2) := by decide +kernel
theorem dX2_sum_20 : decode cX2_sum 20 = .ok (.iadd, 1) := by decide +kernel
theorem dX2_sum_21 : decode cX2_sum 21 = .ok (.baload, 1) := by decide +kernel
theorem dX2_sum_22 : decode cX2_sum 22 = .ok (.sipush 255, 3) := by decide +kernel
theorem dX2_sum_25 : decode cX2_sum 25 = .ok (.iand, 1) := by decide +kernel
theorem dX2_sum_26 : decode cX2_sum 26 = .ok (.ixor, 1) := by decide +kernel
theorem dX2_sum_27 : decode cX2_sum 27 = .ok (.istore 6, 2) := by decide +kernel
theorem dX2_sum_29 : decode cX2_sum 29 = .ok (.iload 6, 2) := by decide +kernel
theorem dX2_sum_31 : decode cX2_sum 31 = .ok (.iconst 5, 1) := by decide +kernel
theorem dX2_sum_32 : decode cX2_sum 32 = .ok (.ishl, 1) := by decide +kernel
theorem dX2_sum_33 : decode cX2_sum 33 = .ok (.iload 6, 2) := by decide +kernel
theorem dX2_sum_35 : decode cX2_sum 35 = .ok (.bipush 27, 2) := by decide +kernel
theorem dX2_sum_37 : decode cX2_sum 37 = .ok (.iushr, 1) := by decide +kernel
theorem dX2_sum_38 : decode cX2_sum 38 = .ok (.ior, 1) := by decide +kernel
theorem dX2_sum_39 : decode cX2_sum 39 = .ok (.ldc 9, 2) := by decide +kernel
theorem dX2_sum_41 : decode cX2_sum 41 = .ok (.imul, 1) := by decide +kernel
theorem dX2_sum_42 : decode cX2_sum 42 = .ok (.istore 4, 2) := by decide +kernel
theorem dX2_sum_44 : decode cX2_sum 44 = .ok (.iinc 5 1, 3) := by decide +kernel
theorem dX2_sum_47 : decode cX2_sum 47 = .ok (.goto (-39), 3) := by decide +kernel
theorem dX2_sum_50 : decode cX2_sum 50 = .ok (.iload 4, 2) := by decide +kernel
theorem dX2_sum_52 : decode cX2_sum 52 = .ok (.ireturn, 1) := by decide +kernel
theorem dX2_hasSum_0 : decode cX2_hasSum 0 = .ok (.aload_n 0, 1) := by decide +kernel
theorem dX2_hasSum_1 : decode cX2_hasSum 1 = .ok (.iload_n 1, 1) := by decide +kernel
theorem dX2_hasSum_2 : decode cX2_hasSum 2 = .ok (.iload_n 2, 1) := by decide +kernel
theorem dX2_hasSum_3 : decode cX2_hasSum 3 = .ok (.iadd, 1) := by decide +kernel
theorem dX2_hasSum_4 : decode cX2_hasSum 4 = .ok (.iconst 4, 1) := by decide +kernel
theorem dX2_hasSum_5 : decode cX2_hasSum 5 = .ok (.invokestatic 10, 3) := by decide +kernel
theorem dX2_hasSum_8 : decode cX2_hasSum 8 = .ok (.l2i, 1) := by decide +kernel
theorem dX2_hasSum_9 : decode cX2_hasSum 9 = .ok (.aload_n 0, 1) := by decide +kernel
theorem dX2_hasSum_10 : decode cX2_hasSum 10 = .ok (.iload_n 1, 1) := by decide +kernel
theorem dX2_hasSum_11 : decode cX2_hasSum 11 = .ok (.iload_n 2, 1) := by decide +kernel
theorem dX2_hasSum_12 : decode cX2_hasSum 12 = .ok (.iload_n 3, 1) := by decide +kernel
theorem dX2_hasSum_13 : decode cX2_hasSum 13 = .ok (.invokestatic 14, 3) := by decide +kernel
theorem dX2_hasSum_16 : decode cX2_hasSum 16 = .ok (.if_icmp .ne 7, 3) := by decide +kernel
theorem dX2_hasSum_19 : decode cX2_hasSum 19 = .ok (.iconst 1, 1) := by decide +kernel
theorem dX2_hasSum_20 : decode cX2_hasSum 20 = .ok (.goto 4, 3) := by decide +kernel
theorem dX2_hasSum_23 : decode cX2_hasSum 23 = .ok (.iconst 0, 1) := by decide +kernel
theorem dX2_hasSum_24 : decode cX2_hasSum 24 = .ok (.ireturn, 1) := by decide +kernel
theorem dX2_write_0 : decode cX2_write 0 = .ok (.iconst 0, 1) := by decide +kernel
theorem dX2_write_1 : decode cX2_write 1 = .ok (.istore 5, 2) := by decide +kernel
theorem dX2_write_3 : decode cX2_write 3 = .ok (.iload 5, 2) := by decide +kernel
theorem dX2_write_5 : decode cX2_write 5 = .ok (.iload_n 2, 1) := by decide +kernel
theorem dX2_write_6 : decode cX2_write 6 = .ok (.if_icmp .ge 28, 3) := by decide +kernel
theorem dX2_write_9 : decode cX2_write 9 = .ok (.aload_n 0, 1) := by decide +kernel
theorem dX2_write_10 : decode cX2_write 10 = .ok (.iload_n 1, 1) := by decide +kernel
theorem dX2_write_11 : decode cX2_write 11 = .ok (.iload 5, 2) := by decide +kernel
theorem dX2_write_13 : decode cX2_write 13 = .ok (.iadd, 1) := by decide +kernel
theorem dX2_write_14 : decode cX2_write 14 = .ok (.lload_n 3, 1) := by decide +kernel
theorem dX2_write_15 : decode cX2_write 15 = .ok (.bipush 8, 2) := by decide +kernel
theorem dX2_write_17 : decode cX2_write 17 = .ok (.iload_n 2, 1) := by decide +kernel
theorem dX2_write_18 : decode cX2_write 18 = .ok (.iconst 1, 1) := by decide +kernel
theorem dX2_write_19 : decode cX2_write 19 = .ok (.isub, 1) := by decide +kernel
theorem dX2_write_20 : decode cX2_write 20 = .ok (.iload 5, 2) := by decide +kernel
theorem dX2_write_22 : decode cX2_write 22 = .ok (.isub, 1) := by decide +kernel
theorem dX2_write_23 : decode cX2_write 23 = .ok (.imul, 1) := by decide +kernel
theorem dX2_write_24 : decode cX2_write 24 = .ok (.lushr, 1) := by decide +kernel
theorem dX2_write_25 : decode cX2_write 25 = .ok (.l2i, 1) := by decide +kernel
theorem dX2_write_26 : decode cX2_write 26 = .ok (.i2b, 1) := by decide +kernel
theorem dX2_write_27 : decode cX2_write 27 = .ok (.bastore, 1) := by decide +kernel
theorem dX2_write_28 : decode cX2_write 28 = .ok (.iinc 5 1, 3) := by decide +kernel
theorem dX2_write_31 : decode cX2_write 31 = .ok (.goto (-28), 3) := by decide +kernel
theorem dX2_write_34 : decode cX2_write 34 = .ok (.return_, 1) := by decide +kernel
theorem dX2_writeSum_0 : decode cX2_writeSum 0 = .ok (.aload_n 0, 1) := by decide +kernel
theorem dX2_writeSum_1 : decode cX2_writeSum 1 = .ok (.iload_n 1, 1) := by decide +kernel
theorem dX2_writeSum_2 : decode cX2_writeSum 2 = .ok (.iload_n 2, 1) := by decide +kernel
theorem dX2_writeSum_3 : decode cX2_writeSum 3 = .ok (.iadd, 1) := by decide +kernel
theorem dX2_writeSum_4 : decode cX2_writeSum 4 = .ok (.iconst 4, 1) := by decide +kernel
theorem dX2_writeSum_5 : decode cX2_writeSum 5 = .ok (.aload_n 0, 1) := by decide +kernel
theorem dX2_writeSum_6 : decode cX2_writeSum 6 = .ok (.iload_n 1, 1) := by decide +kernel
theorem dX2_writeSum_7 : decode cX2_writeSum 7 = .ok (.iload_n 2, 1) := by decide +kernel
theorem dX2_writeSum_8 : decode cX2_writeSum 8 = .ok (.iload_n 3, 1) := by decide +kernel
theorem dX2_writeSum_9 : decode cX2_writeSum 9 = .ok (.invokestatic 14, 3) := by decide +kernel
theorem dX2_writeSum_12 : decode cX2_writeSum 12 = .ok (.i2l, 1) := by decide +kernel
theorem dX2_writeSum_13 : decode cX2_writeSum 13 = .ok (.invokestatic 18, 3) := by decide +kernel
theorem dX2_writeSum_16 : decode cX2_writeSum 16 = .ok (.return_, 1) := by decide +kernel
theorem dX1_areaAt_0 : decode cX1_areaAt 0 = .ok (.aload_n 0, 1) := by decide +kernel
theorem dX1_areaAt_1 : decode cX1_areaAt 1 = .ok (.iload_n 1, 1) := by decide +kernel
theorem dX1_areaAt_2 : decode cX1_areaAt 2 = .ok (.sipush 512, 3) := by decide +kernel
theorem dX1_areaAt_5 : decode cX1_areaAt 5 = .ok (.imul, 1) := by decide +kernel
theorem dX1_areaAt_6 : decode cX1_areaAt 6 = .ok (.bipush 8, 2) := by decide +kernel
theorem dX1_areaAt_8 : decode cX1_areaAt 8 = .ok (.iadd, 1) := by decide +kernel
theorem dX1_areaAt_9 : decode cX1_areaAt 9 = .ok (.baload, 1) := by decide +kernel
theorem dX1_areaAt_10 : decode cX1_areaAt 10 = .ok (.sipush 255, 3) := by decide +kernel
theorem dX1_areaAt_13 : decode cX1_areaAt 13 = .ok (.iand, 1) := by decide +kernel
theorem dX1_areaAt_14 : decode cX1_areaAt 14 = .ok (.ireturn, 1) := by decide +kernel
theorem dX1_sequenceAt_0 : decode cX1_sequenceAt 0 = .ok (.aload_n 0, 1) := by decide +kernel
theorem dX1_sequenceAt_1 : decode cX1_sequenceAt 1 = .ok (.iload_n 1, 1) := by decide +kernel
theorem dX1_sequenceAt_2 : decode cX1_sequenceAt 2 = .ok (.sipush 512, 3) := by decide +kernel
theorem dX1_sequenceAt_5 : decode cX1_sequenceAt 5 = .ok (.imul, 1) := by decide +kernel
theorem dX1_sequenceAt_6 : decode cX1_sequenceAt 6 = .ok (.iconst 4, 1) := by decide +kernel
theorem dX1_sequenceAt_7 : decode cX1_sequenceAt 7 = .ok (.iadd, 1) := by decide +kernel
theorem dX1_sequenceAt_8 : decode cX1_sequenceAt 8 = .ok (.iconst 4, 1) := by decide +kernel
theorem dX1_sequenceAt_9 : decode cX1_sequenceAt 9 = .ok (.invokestatic 19, 3) := by decide +kernel
theorem dX1_sequenceAt_12 : decode cX1_sequenceAt 12 = .ok (.l2i, 1) := by decide +kernel
theorem dX1_sequenceAt_13 : decode cX1_sequenceAt 13 = .ok (.ireturn, 1) := by decide +kernel
theorem dX1_isGood_0 : decode cX1_isGood 0 = .ok (.iload_n 1, 1) := by decide +kernel
theorem dX1_isGood_1 : decode cX1_isGood 1 = .ok (.sipush 512, 3) := by decide +kernel
theorem dX1_isGood_4 : decode cX1_isGood 4 = .ok (.imul, 1) := by decide +kernel
theorem dX1_isGood_5 : decode cX1_isGood 5 = .ok (.istore_n 2, 1) := by decide +kernel
theorem dX1_isGood_6 : decode cX1_isGood 6 = .ok (.aload_n 0, 1) := by decide +kernel
theorem dX1_isGood_7 : decode cX1_isGood 7 = .ok (.iload_n 2, 1) := by decide +kernel
theorem dX1_isGood_8 : decode cX1_isGood 8 = .ok (.iconst 4, 1) := by decide +kernel
theorem dX1_isGood_9 : decode cX1_isGood 9 = .ok (.iadd, 1) := by decide +kernel
theorem dX1_isGood_10 : decode cX1_isGood 10 = .ok (.iconst 4, 1) := by decide +kernel
theorem dX1_isGood_11 : decode cX1_isGood 11 = .ok (.invokestatic 19, 3) := by decide +kernel
theorem dX1_isGood_14 : decode cX1_isGood 14 = .ok (.lstore_n 3, 1) := by decide +kernel
theorem dX1_isGood_15 : decode cX1_isGood 15 = .ok (.lload_n 3, 1) := by decide +kernel
theorem dX1_isGood_16 : decode cX1_isGood 16 = .ok (.ldc2_w 25, 3) := by decide +kernel
theorem dX1_isGood_19 : decode cX1_isGood 19 = .ok (.lcmp, 1) := by decide +kernel
theorem dX1_isGood_20 : decode cX1_isGood 20 = .ok (.ifCond .ge 23, 3) := by decide +kernel
theorem dX1_isGood_23 : decode cX1_isGood 23 = .ok (.lload_n 3, 1) := by decide +kernel
theorem dX1_isGood_24 : decode cX1_isGood 24 = .ok (.ldc2_w 27, 3) := by decide +kernel
theorem dX1_isGood_27 : decode cX1_isGood 27 = .ok (.lrem, 1) := by decide +kernel
theorem dX1_isGood_28 : decode cX1_isGood 28 = .ok (.iload_n 1, 1) := by decide +kernel
theorem dX1_isGood_29 : decode cX1_isGood 29 = .ok (.i2l, 1) := by decide +kernel
theorem dX1_isGood_30 : decode cX1_isGood 30 = .ok (.lcmp, 1) := by decide +kernel
theorem dX1_isGood_31 : decode cX1_isGood 31 = .ok (.ifCond .ne 12, 3) := by decide +kernel
theorem dX1_isGood_34 : decode cX1_isGood 34 = .ok (.aload_n 0, 1) := by decide +kernel
theorem dX1_isGood_35 : decode cX1_isGood 35 = .ok (.iload_n 1, 1) := by decide +kernel
theorem dX1_isGood_36 : decode cX1_isGood 36 = .ok (.invokestatic 29, 3) := by decide +kernel
theorem dX1_isGood_39 : decode cX1_isGood 39 = .ok (.iconst 1, 1) := by decide +kernel
theorem dX1_isGood_40 : decode cX1_isGood 40 = .ok (.if_icmp .le 5, 3) := by decide +kernel
theorem dX1_isGood_43 : decode cX1_isGood 43 = .ok (.iconst 0, 1) := by decide +kernel
theorem dX1_isGood_44 : decode cX1_isGood 44 = .ok (.ireturn, 1) := by decide +kernel
theorem dX1_isGood_45 : decode cX1_isGood 45 = .ok (.aload_n 0, 1) := by decide +kernel
theorem dX1_isGood_46 : decode cX1_isGood 46 = .ok (.iload_n 2, 1) := by decide +kernel
theorem dX1_isGood_47 : decode cX1_isGood 47 = .ok (.sipush 508, 3) := by decide +kernel
theorem dX1_isGood_50 : decode cX1_isGood 50 = .ok (.lload_n 3, 1) := by decide +kernel
theorem dX1_isGood_51 : decode cX1_isGood 51 = .ok (.l2i, 1) := by decide +kernel
theorem dX1_isGood_52 : decode cX1_isGood 52 = .ok (.invokestatic 32, 3) := by decide +kernel
theorem dX1_isGood_55 : decode cX1_isGood 55 = .ok (.ireturn, 1) := by decide +kernel
theorem dX1_counting_0 : decode cX1_counting 0 = .ok (.iconst (-1), 1) := by decide +kernel
theorem dX1_counting_1 : decode cX1_counting 1 = .ok (.istore_n 1, 1) := by decide +kernel
theorem dX1_counting_2 : decode cX1_counting 2 = .ok (.iconst 0, 1) := by decide +kernel
theorem dX1_counting_3 : decode cX1_counting 3 = .ok (.istore_n 2, 1) := by decide +kernel
theorem dX1_counting_4 : decode cX1_counting 4 = .ok (.iload_n 2, 1) := by decide +kernel
theorem dX1_counting_5 : decode cX1_counting 5 = .ok (.iconst 2, 1) := by decide +kernel
theorem dX1_counting_6 : decode cX1_counting 6 = .ok (.if_icmp .ge 37, 3) := by decide +kernel
theorem dX1_counting_9 : decode cX1_counting 9 = .ok (.aload_n 0, 1) := by decide +kernel
theorem dX1_counting_10 : decode cX1_counting 10 = .ok (.iload_n 2, 1) := by decide +kernel
theorem dX1_counting_11 : decode cX1_counting 11 = .ok (.invokestatic 9, 3) := by decide +kernel
theorem dX1_counting_14 : decode cX1_counting 14 = .ok (.ifCond .eq 23, 3) := by decide +kernel
theorem dX1_counting_17 : decode cX1_counting 17 = .ok (.iload_n 1, 1) := by decide +kernel
theorem dX1_counting_18 : decode cX1_counting 18 = .ok (.iconst (-1), 1) := by decide +kernel
theorem dX1_counting_19 : decode cX1_counting 19 = .ok (.if_icmp .eq 16, 3) := by decide +kernel
theorem dX1_counting_22 : decode cX1_counting 22 = .ok (.aload_n 0, 1) := by decide +kernel
theorem dX1_counting_23 : decode cX1_counting 23 = .ok (.iload_n 2, 1) := by decide +kernel
theorem dX1_counting_24 : decode cX1_counting 24 = .ok (.invokestatic 15, 3) := by decide +kernel
theorem dX1_counting_27 : decode cX1_counting 27 = .ok (.aload_n 0, 1) := by decide +kernel
theorem dX1_counting_28 : decode cX1_counting 28 = .ok (.iload_n 1, 1) := by decide +kernel
theorem dX1_counting_29 : decode cX1_counting 29 = .ok (.invokestatic 15, 3) := by decide +kernel
theorem dX1_counting_32 : decode cX1_counting 32 = .ok (.if_icmp .le 5, 3) := by decide +kernel
theorem dX1_counting_35 : decode cX1_counting 35 = .ok (.iload_n 2, 1) := by decide +kernel
theorem dX1_counting_36 : decode cX1_counting 36 = .ok (.istore_n 1, 1) := by decide +kernel
theorem dX1_counting_37 : decode cX1_counting 37 = .ok (.iinc 2 1, 3) := by decide +kernel
theorem dX1_counting_40 : decode cX1_counting 40 = .ok (.goto (-36), 3) := by decide +kernel
theorem dX1_counting_43 : decode cX1_counting 43 = .ok (.iload_n 1, 1) := by decide +kernel
theorem dX1_counting_44 : decode cX1_counting 44 = .ok (.ireturn, 1) := by decide +kernel
theorem dX1_write_0 : decode cX1_write 0 = .ok (.aload_n 0, 1) := by decide +kernel
theorem dX1_write_1 : decode cX1_write 1 = .ok (.iload_n 1, 1) := by decide +kernel
theorem dX1_write_2 : decode cX1_write 2 = .ok (.iconst 4, 1) := by decide +kernel
theorem dX1_write_3 : decode cX1_write 3 = .ok (.iload_n 2, 1) := by decide +kernel
theorem dX1_write_4 : decode cX1_write 4 = .ok (.i2l, 1) := by decide +kernel
theorem dX1_write_5 : decode cX1_write 5 = .ok (.invokestatic 36, 3) := by decide +kernel
theorem dX1_write_8 : decode cX1_write 8 = .ok (.aload_n 0, 1) := by decide +kernel
theorem dX1_write_9 : decode cX1_write 9 = .ok (.iload_n 1, 1) := by decide +kernel
theorem dX1_write_10 : decode cX1_write 10 = .ok (.iconst 4, 1) := by decide +kernel
theorem dX1_write_11 : decode cX1_write 11 = .ok (.iadd, 1) := by decide +kernel
theorem dX1_write_12 : decode cX1_write 12 = .ok (.iconst 4, 1) := by decide +kernel
theorem dX1_write_13 : decode cX1_write 13 = .ok (.iload_n 3, 1) := by decide +kernel
theorem dX1_write_14 : decode cX1_write 14 = .ok (.i2l, 1) := by decide +kernel
theorem dX1_write_15 : decode cX1_write 15 = .ok (.invokestatic 36, 3) := by decide +kernel
theorem dX1_write_18 : decode cX1_write 18 = .ok (.aload_n 0, 1) := by decide +kernel
theorem dX1_write_19 : decode cX1_write 19 = .ok (.iload_n 1, 1) := by decide +kernel
theorem dX1_write_20 : decode cX1_write 20 = .ok (.bipush 8, 2) := by decide +kernel
theorem dX1_write_22 : decode cX1_write 22 = .ok (.iadd, 1) := by decide +kernel
theorem dX1_write_23 : decode cX1_write 23 = .ok (.iload 4, 2) := by decide +kernel
theorem dX1_write_25 : decode cX1_write 25 = .ok (.i2b, 1) := by decide +kernel
theorem dX1_write_26 : decode cX1_write 26 = .ok (.bastore, 1) := by decide +kernel
theorem dX1_write_27 : decode cX1_write 27 = .ok (.aload_n 0, 1) := by decide +kernel
theorem dX1_write_28 : decode cX1_write 28 = .ok (.iload_n 1, 1) := by decide +kernel
theorem dX1_write_29 : decode cX1_write 29 = .ok (.sipush 508, 3) := by decide +kernel
theorem dX1_write_32 : decode cX1_write 32 = .ok (.iload_n 3, 1) := by decide +kernel
theorem dX1_write_33 : decode cX1_write 33 = .ok (.invokestatic 40, 3) := by decide +kernel
theorem dX1_write_36 : decode cX1_write 36 = .ok (.return_, 1) := by decide +kernel
theorem dX0_bring_0 : decode cX0_bring 0 = .ok (.iload_n 1, 1) := by decide +kernel
theorem dX0_bring_1 : decode cX0_bring 1 = .ok (.aload_n 0, 1) := by decide +kernel
theorem dX0_bring_2 : decode cX0_bring 2 = .ok (.getfield 27, 3) := by decide +kernel
theorem dX0_bring_5 : decode cX0_bring 5 = .ok (.invokestatic 47, 3) := by decide +kernel
theorem dX0_bring_8 : decode cX0_bring 8 = .ok (.istore_n 3, 1) := by decide +kernel
theorem dX0_bring_9 : decode cX0_bring 9 = .ok (.iconst 0, 1) := by decide +kernel
theorem dX0_bring_10 : decode cX0_bring 10 = .ok (.istore 4, 2) := by decide +kernel
theorem dX0_bring_12 : decode cX0_bring 12 = .ok (.iload 4, 2) := by decide +kernel
theorem dX0_bring_14 : decode cX0_bring 14 = .ok (.iload_n 3, 1) := by decide +kernel
theorem dX0_bring_15 : decode cX0_bring 15 = .ok (.if_icmp .gt 63, 3) := by decide +kernel
theorem dX0_bring_18 : decode cX0_bring 18 = .ok (.iload 4, 2) := by decide +kernel
theorem dX0_bring_20 : decode cX0_bring 20 = .ok (.aload_n 0, 1) := by decide +kernel
theorem dX0_bring_21 : decode cX0_bring 21 = .ok (.getfield 27, 3) := by decide +kernel
theorem dX0_bring_24 : decode cX0_bring 24 = .ok (.if_icmp .ge 54, 3) := by decide +kernel
theorem dX0_bring_27 : decode cX0_bring 27 = .ok (.iload 4, 2) := by decide +kernel
theorem dX0_bring_29 : decode cX0_bring 29 = .ok (.iload_n 3, 1) := by decide +kernel
theorem dX0_bring_30 : decode cX0_bring 30 = .ok (.if_icmp .ge 9, 3) := by decide +kernel
theorem dX0_bring_33 : decode cX0_bring 33 = .ok (.sipush 512, 3) := by decide +kernel
theorem dX0_bring_36 : decode cX0_bring 36 = .ok (.goto 4, 3) := by decide +kernel
theorem dX0_bring_39 : decode cX0_bring 39 = .ok (.iload_n 2, 1) := by decide +kernel
theorem dX0_bring_40 : decode cX0_bring 40 = .ok (.istore 5, 2) := by decide +kernel
theorem dX0_bring_42 : decode cX0_bring 42 = .ok (.aload_n 0, 1) := by decide +kernel
theorem dX0_bring_43 : decode cX0_bring 43 = .ok (.getfield 20, 3) := by decide +kernel
theorem dX0_bring_46 : decode cX0_bring 46 = .ok (.iload 4, 2) := by decide +kernel
theorem dX0_bring_48 : decode cX0_bring 48 = .ok (.sipush 512, 3) := by decide +kernel
theorem dX0_bring_51 : decode cX0_bring 51 = .ok (.imul, 1) := by decide +kernel
theorem dX0_bring_52 : decode cX0_bring 52 = .ok (.aload_n 0, 1) := by decide +kernel
theorem dX0_bring_53 : decode cX0_bring 53 = .ok (.getfield 15, 3) := by decide +kernel
theorem dX0_bring_56 : decode cX0_bring 56 = .ok (.aload_n 0, 1) := by decide +kernel
theorem dX0_bring_57 : decode cX0_bring 57 = .ok (.getfield 23, 3) := by decide +kernel
theorem dX0_bring_60 : decode cX0_bring 60 = .ok (.iload 4, 2) := by decide +kernel
theorem dX0_bring_62 : decode cX0_bring 62 = .ok (.iaload, 1) := by decide +kernel
theorem dX0_bring_63 : decode cX0_bring 63 = .ok (.sipush 512, 3) := by decide +kernel
theorem dX0_bring_66 : decode cX0_bring 66 = .ok (.imul, 1) := by decide +kernel
theorem dX0_bring_67 : decode cX0_bring 67 = .ok (.iload 5, 2) := by decide +kernel
theorem dX0_bring_69 : decode cX0_bring 69 = .ok (.invokestatic 41, 3) := by decide +kernel
theorem dX0_bring_72 : decode cX0_bring 72 = .ok (.iinc 4 1, 3) := by decide +kernel
theorem dX0_bring_75 : decode cX0_bring 75 = .ok (.goto (-63), 3) := by decide +kernel
theorem dX0_bring_78 : decode cX0_bring 78 = .ok (.aload_n 0, 1) := by decide +kernel
theorem dX0_bring_79 : decode cX0_bring 79 = .ok (.iconst 0, 1) := by decide +kernel
theorem dX0_bring_80 : decode cX0_bring 80 = .ok (.putfield 27, 3) := by decide +kernel
theorem dX0_bring_83 : decode cX0_bring 83 = .ok (.iload_n 3, 1) := by decide +kernel
theorem dX0_bring_84 : decode cX0_bring 84 = .ok (.ireturn, 1) := by decide +kernel
theorem dX0_addTarget_0 : decode cX0_addTarget 0 = .ok (.aload_n 0, 1) := by decide +kernel
theorem dX0_addTarget_1 : decode cX0_addTarget 1 = .ok (.getfield 27, 3) := by decide +kernel
theorem dX0_addTarget_4 : decode cX0_addTarget 4 = .ok (.sipush 512, 3) := by decide +kernel
theorem dX0_addTarget_7 : decode cX0_addTarget 7 = .ok (.imul, 1) := by decide +kernel
theorem dX0_addTarget_8 : decode cX0_addTarget 8 = .ok (.istore_n 2, 1) := by decide +kernel
theorem dX0_addTarget_9 : decode cX0_addTarget 9 = .ok (.aload_n 0, 1) := by decide +kernel
theorem dX0_addTarget_10 : decode cX0_addTarget 10 = .ok (.getfield 23, 3) := by decide +kernel
theorem dX0_addTarget_13 : decode cX0_addTarget 13 = .ok (.aload_n 0, 1) := by decide +kernel
theorem dX0_addTarget_14 : decode cX0_addTarget 14 = .ok (.getfield 27, 3) := by decide +kernel
theorem dX0_addTarget_17 : decode cX0_addTarget 17 = .ok (.iload_n 1, 1) := by decide +kernel
theorem dX0_addTarget_18 : decode cX0_addTarget 18 = .ok (.iastore, 1) := by decide +kernel
theorem dX0_addTarget_19 : decode cX0_addTarget 19 = .ok (.aload_n 0, 1) := by decide +kernel
theorem dX0_addTarget_20 : decode cX0_addTarget 20 = .ok (.dup, 1) := by decide +kernel
theorem dX0_addTarget_21 : decode cX0_addTarget 21 = .ok (.getfield 27, 3) := by decide +kernel
theorem dX0_addTarget_24 : decode cX0_addTarget 24 = .ok (.iconst 1, 1) := by decide +kernel
theorem dX0_addTarget_25 : decode cX0_addTarget 25 = .ok (.iadd, 1) := by decide +kernel
theorem dX0_addTarget_26 : decode cX0_addTarget 26 = .ok (.putfield 27, 3) := by decide +kernel
theorem dX0_addTarget_29 : decode cX0_addTarget 29 = .ok (.iload_n 2, 1) := by decide +kernel
theorem dX0_addTarget_30 : decode cX0_addTarget 30 = .ok (.ireturn, 1) := by decide +kernel
theorem dX0_waitWithZeros_0 : decode cX0_waitWithZeros 0 = .ok (.aload_n 0, 1) := by decide +kernel
theorem dX0_waitWithZeros_1 : decode cX0_waitWithZeros 1 = .ok (.getfield 27, 3) := by decide +kernel
theorem dX0_waitWithZeros_4 : decode cX0_waitWithZeros 4 = .ok (.bipush 64, 2) := by decide +kernel
theorem dX0_waitWithZeros_6 : decode cX0_waitWithZeros 6 = .ok (.if_icmp .lt 11, 3) := by decide +kernel
theorem dX0_waitWithZeros_9 : decode cX0_waitWithZeros 9 = .ok (.aload_n 0, 1) := by decide +kernel
theorem dX0_waitWithZeros_10 : decode cX0_waitWithZeros 10 = .ok (.bipush 64, 2) := by decide +kernel
theorem dX0_waitWithZeros_12 : decode cX0_waitWithZeros 12 = .ok (.iconst 0, 1) := by decide +kernel
theorem dX0_waitWithZeros_13 : decode cX0_waitWithZeros 13 = .ok (.invokevirtual 30, 3) := by decide +kernel
theorem dX0_waitWithZeros_16 : decode cX0_waitWithZeros 16 = .ok (.pop, 1) := by decide +kernel
theorem dX0_waitWithZeros_17 : decode cX0_waitWithZeros 17 = .ok (.aload_n 0, 1) := by decide +kernel
theorem dX0_waitWithZeros_18 : decode cX0_waitWithZeros 18 = .ok (.getfield 27, 3) := by decide +kernel
theorem dX0_waitWithZeros_21 : decode cX0_waitWithZeros 21 = .ok (.sipush 512, 3) := by decide +kernel
theorem dX0_waitWithZeros_24 : decode cX0_waitWithZeros 24 = .ok (.imul, 1) := by decide +kernel
theorem dX0_waitWithZeros_25 : decode cX0_waitWithZeros 25 = .ok (.istore_n 2, 1) := by decide +kernel
theorem dX0_waitWithZeros_26 : decode cX0_waitWithZeros 26 = .ok (.iconst 0, 1) := by decide +kernel
theorem dX0_waitWithZeros_27 : decode cX0_waitWithZeros 27 = .ok (.istore_n 3, 1) := by decide +kernel
theorem dX0_waitWithZeros_28 : decode cX0_waitWithZeros 28 = .ok (.iload_n 3, 1) := by decide +kernel
theorem dX0_waitWithZeros_29 : decode cX0_waitWithZeros 29 = .ok (.sipush 512, 3) := by decide +kernel
theorem dX0_waitWithZeros_32 : decode cX0_waitWithZeros 32 = .ok (.if_icmp .ge 18, 3) := by decide +kernel
theorem dX0_waitWithZeros_35 : decode cX0_waitWithZeros 35 = .ok (.aload_n 0, 1) := by decide +kernel
theorem dX0_waitWithZeros_36 : decode cX0_waitWithZeros 36 = .ok (.getfield 20, 3) := by decide +kernel
theorem dX0_waitWithZeros_39 : decode cX0_waitWithZeros 39 = .ok (.iload_n 2, 1) := by decide +kernel
theorem dX0_waitWithZeros_40 : decode cX0_waitWithZeros 40 = .ok (.iload_n 3, 1) := by decide +kernel
theorem dX0_waitWithZeros_41 : decode cX0_waitWithZeros 41 = .ok (.iadd, 1) := by decide +kernel
theorem dX0_waitWithZeros_42 : decode cX0_waitWithZeros 42 = .ok (.iconst 0, 1) := by decide +kernel
theorem dX0_waitWithZeros_43 : decode cX0_waitWithZeros 43 = .ok (.bastore, 1) := by decide +kernel
theorem dX0_waitWithZeros_44 : decode cX0_waitWithZeros 44 = .ok (.iinc 3 1, 3) := by decide +kernel
theorem dX0_waitWithZeros_47 : decode cX0_waitWithZeros 47 = .ok (.goto (-19), 3) := by decide +kernel
theorem dX0_waitWithZeros_50 : decode cX0_waitWithZeros 50 = .ok (.aload_n 0, 1) := by decide +kernel
theorem dX0_waitWithZeros_51 : decode cX0_waitWithZeros 51 = .ok (.iload_n 1, 1) := by decide +kernel
theorem dX0_waitWithZeros_52 : decode cX0_waitWithZeros 52 = .ok (.invokevirtual 34, 3) := by decide +kernel
theorem dX0_waitWithZeros_55 : decode cX0_waitWithZeros 55 = .ok (.ireturn, 1) := by decide +kernel
theorem dJ9_floorMod_7cf53_0 : decode cJ9_floorMod_7cf53 0 = .ok (.iload_n 0, 1) := by decide +kernel
theorem dJ9_floorMod_7cf53_1 : decode cJ9_floorMod_7cf53 1 = .ok (.iload_n 1, 1) := by decide +kernel
theorem dJ9_floorMod_7cf53_2 : decode cJ9_floorMod_7cf53 2 = .ok (.irem, 1) := by decide +kernel
theorem dJ9_floorMod_7cf53_3 : decode cJ9_floorMod_7cf53 3 = .ok (.istore_n 2, 1) := by decide +kernel
theorem dJ9_floorMod_7cf53_4 : decode cJ9_floorMod_7cf53 4 = .ok (.iload_n 0, 1) := by decide +kernel
theorem dJ9_floorMod_7cf53_5 : decode cJ9_floorMod_7cf53 5 = .ok (.iload_n 1, 1) := by decide +kernel
theorem dJ9_floorMod_7cf53_6 : decode cJ9_floorMod_7cf53 6 = .ok (.ixor, 1) := by decide +kernel
theorem dJ9_floorMod_7cf53_7 : decode cJ9_floorMod_7cf53 7 = .ok (.ifCond .ge 11, 3) := by decide +kernel
theorem dJ9_floorMod_7cf53_10 : decode cJ9_floorMod_7cf53 10 = .ok (.iload_n 2, 1) := by decide +kernel
theorem dJ9_floorMod_7cf53_11 : decode cJ9_floorMod_7cf53 11 = .ok (.ifCond .eq 7, 3) := by decide +kernel
theorem dJ9_floorMod_7cf53_14 : decode cJ9_floorMod_7cf53 14 = .ok (.iload_n 2, 1) := by decide +kernel
theorem dJ9_floorMod_7cf53_15 : decode cJ9_floorMod_7cf53 15 = .ok (.iload_n 1, 1) := by decide +kernel
theorem dJ9_floorMod_7cf53_16 : decode cJ9_floorMod_7cf53 16 = .ok (.iadd, 1) := by decide +kernel
theorem dJ9_floorMod_7cf53_17 : decode cJ9_floorMod_7cf53 17 = .ok (.ireturn, 1) := by decide +kernel
theorem dJ9_floorMod_7cf53_18 : decode cJ9_floorMod_7cf53 18 = .ok (.iload_n 2, 1) := by decide +kernel
theorem dJ9_floorMod_7cf53_19 : decode cJ9_floorMod_7cf53 19 = .ok (.ireturn, 1) := by decide +kernel
theorem dX5_firstSector_0 : decode cX5_firstSector 0 = .ok (.iconst 2, 1) := by decide +kernel
theorem dX5_firstSector_1 : decode cX5_firstSector 1 = .ok (.iload_n 1, 1) := by decide +kernel
theorem dX5_firstSector_2 : decode cX5_firstSector 2 = .ok (.aload_n 0, 1) := by decide +kernel
theorem dX5_firstSector_3 : decode cX5_firstSector 3 = .ok (.getfield 18, 3) := by decide +kernel
theorem dX5_firstSector_6 : decode cX5_firstSector 6 = .ok (.imul, 1) := by decide +kernel
theorem dX5_firstSector_7 : decode cX5_firstSector 7 = .ok (.iadd, 1) := by decide +kernel
theorem dX5_firstSector_8 : decode cX5_firstSector 8 = .ok (.ireturn, 1) := by decide +kernel
theorem dX5_clearArea_0 : decode cX5_clearArea 0 = .ok (.aload_n 0, 1) := by decide +kernel
theorem dX5_clearArea_1 : decode cX5_clearArea 1 = .ok (.iload_n 1, 1) := by decide +kernel
theorem dX5_clearArea_2 : decode cX5_clearArea 2 = .ok (.invokevirtual 211, 3) := by decide +kernel
theorem dX5_clearArea_5 : decode cX5_clearArea 5 = .ok (.istore_n 2, 1) := by decide +kernel
theorem dX5_clearArea_6 : decode cX5_clearArea 6 = .ok (.iconst 0, 1) := by decide +kernel
theorem dX5_clearArea_7 : decode cX5_clearArea 7 = .ok (.istore_n 3, 1) := by decide +kernel
theorem dX5_clearArea_8 : decode cX5_clearArea 8 = .ok (.iload_n 3, 1) := by decide +kernel
theorem dX5_clearArea_9 : decode cX5_clearArea 9 = .ok (.aload_n 0, 1) := by decide +kernel
theorem dX5_clearArea_10 : decode cX5_clearArea 10 = .ok (.getfield 18, 3) := by decide +kernel
theorem dX5_clearArea_13 : decode cX5_clearArea 13 = .ok (.if_icmp .ge 20, 3) := by decide +kernel
theorem dX5_clearArea_16 : decode cX5_clearArea 16 = .ok (.aload_n 0, 1) := by decide +kernel
theorem dX5_clearArea_17 : decode cX5_clearArea 17 = .ok (.getfield 27, 3) := by decide +kernel
theorem dX5_clearArea_20 : decode cX5_clearArea 20 = .ok (.iload_n 2, 1) := by decide +kernel
theorem dX5_clearArea_21 : decode cX5_clearArea 21 = .ok (.iload_n 3, 1) := by decide +kernel
theorem dX5_clearArea_22 : decode cX5_clearArea 22 = .ok (.iadd, 1) := by decide +kernel
theorem dX5_clearArea_23 : decode cX5_clearArea 23 = .ok (.invokevirtual 218, 3) := by decide +kernel
theorem dX5_clearArea_26 : decode cX5_clearArea 26 = .ok (.pop, 1) := by decide +kernel
theorem dX5_clearArea_27 : decode cX5_clearArea 27 = .ok (.iinc 3 1, 3) := by decide +kernel
theorem dX5_clearArea_30 : decode cX5_clearArea 30 = .ok (.goto (-22), 3) := by decide +kernel
theorem dX5_clearArea_33 : decode cX5_clearArea 33 = .ok (.return_, 1) := by decide +kernel
theorem dX5_changeHeads_0 : decode cX5_changeHeads 0 = .ok (.iconst 0, 1) := by decide +kernel
theorem dX5_changeHeads_1 : decode cX5_changeHeads 1 = .ok (.istore_n 1, 1) := by decide +kernel
theorem dX5_changeHeads_2 : decode cX5_changeHeads 2 = .ok (.iload_n 1, 1) := by decide +kernel
theorem dX5_changeHeads_3 : decode cX5_changeHeads 3 = .ok (.iconst 2, 1) := by decide +kernel
theorem dX5_changeHeads_4 : decode cX5_changeHeads 4 = .ok (.if_icmp .ge 58, 3) := by decide +kernel
theorem dX5_changeHeads_7 : decode cX5_changeHeads 7 = .ok (.aload_n 0, 1) := by decide +kernel
theorem dX5_changeHeads_8 : decode cX5_changeHeads 8 = .ok (.dup, 1) := by decide +kernel
theorem dX5_changeHeads_9 : decode cX5_changeHeads 9 = .ok (.getfield 195, 3) := by decide +kernel
theorem dX5_changeHeads_12 : decode cX5_changeHeads 12 = .ok (.iconst 1, 1) := by decide +kernel
theorem dX5_changeHeads_13 : decode cX5_changeHeads 13 = .ok (.iadd, 1) := by decide +kernel
theorem dX5_changeHeads_14 : decode cX5_changeHeads 14 = .ok (.putfield 195, 3) := by decide +kernel
theorem dX5_changeHeads_17 : decode cX5_changeHeads 17 = .ok (.aload_n 0, 1) := by decide +kernel
theorem dX5_changeHeads_18 : decode cX5_changeHeads 18 = .ok (.getfield 27, 3) := by decide +kernel
theorem dX5_changeHeads_21 : decode cX5_changeHeads 21 = .ok (.aload_n 0, 1) := by decide +kernel
theorem dX5_changeHeads_22 : decode cX5_changeHeads 22 = .ok (.getfield 195, 3) := by decide +kernel
theorem dX5_changeHeads_25 : decode cX5_changeHeads 25 = .ok (.iconst 2, 1) := by decide +kernel
theorem dX5_changeHeads_26 : decode cX5_changeHeads 26 = .ok (.invokestatic 221, 3) := by decide +kernel
theorem dX5_changeHeads_29 : decode cX5_changeHeads 29 = .ok (.invokevirtual 218, 3) := by decide +kernel
theorem dX5_changeHeads_32 : decode cX5_changeHeads 32 = .ok (.istore_n 2, 1) := by decide +kernel
theorem dX5_changeHeads_33 : decode cX5_changeHeads 33 = .ok (.aload_n 0, 1) := by decide +kernel
theorem dX5_changeHeads_34 : decode cX5_changeHeads 34 = .ok (.getfield 27, 3) := by decide +kernel
theorem dX5_changeHeads_37 : decode cX5_changeHeads 37 = .ok (.getfield 224, 3) := by decide +kernel
theorem dX5_changeHeads_40 : decode cX5_changeHeads 40 = .ok (.iload_n 2, 1) := by decide +kernel
theorem dX5_changeHeads_41 : decode cX5_changeHeads 41 = .ok (.aload_n 0, 1) := by decide +kernel
theorem dX5_changeHeads_42 : decode cX5_changeHeads 42 = .ok (.getfield 83, 3) := by decide +kernel
theorem dX5_changeHeads_45 : decode cX5_changeHeads 45 = .ok (.aload_n 0, 1) := by decide +kernel
theorem dX5_changeHeads_46 : decode cX5_changeHeads 46 = .ok (.getfield 195, 3) := by decide +kernel
theorem dX5_changeHeads_49 : decode cX5_changeHeads 49 = .ok (.aload_n 0, 1) := by decide +kernel
theorem dX5_changeHeads_50 : decode cX5_changeHeads 50 = .ok (.getfield 128, 3) := by decide +kernel
theorem dX5_changeHeads_53 : decode cX5_changeHeads 53 = .ok (.invokestatic 227, 3) := by decide +kernel
theorem dX5_changeHeads_56 : decode cX5_changeHeads 56 = .ok (.iinc 1 1, 3) := by decide +kernel
theorem dX5_changeHeads_59 : decode cX5_changeHeads 59 = .ok (.goto (-57), 3) := by decide +kernel
theorem dX5_changeHeads_62 : decode cX5_changeHeads 62 = .ok (.return_, 1) := by decide +kernel
theorem dX3_wrongCount_0 : decode cX3_wrongCount 0 = .ok (.aload_n 0, 1) := by decide +kernel
theorem dX3_wrongCount_1 : decode cX3_wrongCount 1 = .ok (.getfield 35, 3) := by decide +kernel
theorem dX3_wrongCount_4 : decode cX3_wrongCount 4 = .ok (.ireturn, 1) := by decide +kernel
theorem dX3_end_0 : decode cX3_end 0 = .ok (.aload_n 0, 1) := by decide +kernel
theorem dX3_end_1 : decode cX3_end 1 = .ok (.getfield 31, 3) := by decide +kernel
theorem dX3_end_4 : decode cX3_end 4 = .ok (.ireturn, 1) := by decide +kernel
theorem dX3_places_0 : decode cX3_places 0 = .ok (.aload_n 0, 1) := by decide +kernel
theorem dX3_places_1 : decode cX3_places 1 = .ok (.getfield 9, 3) := by decide +kernel
theorem dX3_places_4 : decode cX3_places 4 = .ok (.arraylength, 1) := by decide +kernel
theorem dX3_places_5 : decode cX3_places 5 = .ok (.ireturn, 1) := by decide +kernel
theorem dX3_indexPlace_0 : decode cX3_indexPlace 0 = .ok (.aload_n 0, 1) := by decide +kernel
theorem dX3_indexPlace_1 : decode cX3_indexPlace 1 = .ok (.getfield 9, 3) := by decide +kernel
theorem dX3_indexPlace_4 : decode cX3_indexPlace 4 = .ok (.iload_n 1, 1) := by decide +kernel
theorem dX3_indexPlace_5 : decode cX3_indexPlace 5 = .ok (.iaload, 1) := by decide +kernel
theorem dX3_indexPlace_6 : decode cX3_indexPlace 6 = .ok (.ifCond .ne 21, 3) := by decide +kernel
theorem dX3_indexPlace_9 : decode cX3_indexPlace 9 = .ok (.aload_n 0, 1) := by decide +kernel
theorem dX3_indexPlace_10 : decode cX3_indexPlace 10 = .ok (.dup, 1) := by decide +kernel
theorem dX3_indexPlace_11 : decode cX3_indexPlace 11 = .ok (.getfield 35, 3) := by decide +kernel
theorem dX3_indexPlace_14 : decode cX3_indexPlace 14 = .ok (.iconst 1, 1) := by decide +kernel
theorem dX3_indexPlace_15 : decode cX3_indexPlace 15 = .ok (.iadd, 1) := by decide +kernel
theorem dX3_indexPlace_16 : decode cX3_indexPlace 16 = .ok (.putfield 35, 3) := by decide +kernel
theorem dX3_indexPlace_19 : decode cX3_indexPlace 19 = .ok (.aload_n 0, 1) := by decide +kernel
theorem dX3_indexPlace_20 : decode cX3_indexPlace 20 = .ok (.iload_n 1, 1) := by decide +kernel
theorem dX3_indexPlace_21 : decode cX3_indexPlace 21 = .ok (.putfield 38, 3) := by decide +kernel
theorem dX3_indexPlace_24 : decode cX3_indexPlace 24 = .ok (.goto 33, 3) := by decide +kernel
theorem dX3_indexPlace_27 : decode cX3_indexPlace 27 = .ok (.aload_n 0, 1) := by decide +kernel
theorem dX3_indexPlace_28 : decode cX3_indexPlace 28 = .ok (.getfield 9, 3) := by decide +kernel
theorem dX3_indexPlace_31 : decode cX3_indexPlace 31 = .ok (.iload_n 1, 1) := by decide +kernel
theorem dX3_indexPlace_32 : decode cX3_indexPlace 32 = .ok (.iaload, 1) := by decide +kernel
theorem dX3_indexPlace_33 : decode cX3_indexPlace 33 = .ok (.iconst 1, 1) := by decide +kernel
theorem dX3_indexPlace_34 : decode cX3_indexPlace 34 = .ok (.if_icmp .ne 18, 3) := by decide +kernel
theorem dX3_indexPlace_37 : decode cX3_indexPlace 37 = .ok (.aload_n 0, 1) := by decide +kernel
theorem dX3_indexPlace_38 : decode cX3_indexPlace 38 = .ok (.getfield 28, 3) := by decide +kernel
theorem dX3_indexPlace_41 : decode cX3_indexPlace 41 = .ok (.aload_n 0, 1) := by decide +kernel
theorem dX3_indexPlace_42 : decode cX3_indexPlace 42 = .ok (.getfield 15, 3) := by decide +kernel
theorem dX3_indexPlace_45 : decode cX3_indexPlace 45 = .ok (.iload_n 1, 1) := by decide +kernel
theorem dX3_indexPlace_46 : decode cX3_indexPlace 46 = .ok (.iaload, 1) := by decide +kernel
theorem dX3_indexPlace_47 : decode cX3_indexPlace 47 = .ok (.iload_n 1, 1) := by decide +kernel
theorem dX3_indexPlace_48 : decode cX3_indexPlace 48 = .ok (.iastore, 1) := by decide +kernel
theorem dX3_indexPlace_49 : decode cX3_indexPlace 49 = .ok (.goto 8, 3) := by decide +kernel
theorem dX3_indexPlace_52 : decode cX3_indexPlace 52 = .ok (.aload_n 0, 1) := by decide +kernel
theorem dX3_indexPlace_53 : decode cX3_indexPlace 53 = .ok (.iload_n 1, 1) := by decide +kernel
theorem dX3_indexPlace_54 : decode cX3_indexPlace 54 = .ok (.putfield 41, 3) := by decide +kernel
theorem dX3_indexPlace_57 : decode cX3_indexPlace 57 = .ok (.return_, 1) := by decide +kernel
theorem dX3_index_0 : decode cX3_index 0 = .ok (.iconst 0, 1) := by decide +kernel
theorem dX3_index_1 : decode cX3_index 1 = .ok (.istore_n 1, 1) := by decide +kernel
theorem dX3_index_2 : decode cX3_index 2 = .ok (.iload_n 1, 1) := by decide +kernel
theorem dX3_index_3 : decode cX3_index 3 = .ok (.bipush 64, 2) := by decide +kernel
theorem dX3_index_5 : decode cX3_index 5 = .ok (.if_icmp .ge 16, 3) := by decide +kernel
theorem dX3_index_8 : decode cX3_index 8 = .ok (.aload_n 0, 1) := by decide +kernel
theorem dX3_index_9 : decode cX3_index 9 = .ok (.getfield 28, 3) := by decide +kernel
theorem dX3_index_12 : decode cX3_index 12 = .ok (.iload_n 1, 1) := by decide +kernel
theorem dX3_index_13 : decode cX3_index 13 = .ok (.iconst (-1), 1) := by decide +kernel
theorem dX3_index_14 : decode cX3_index 14 = .ok (.iastore, 1) := by decide +kernel
theorem dX3_index_15 : decode cX3_index 15 = .ok (.iinc 1 1, 3) := by decide +kernel
theorem dX3_index_18 : decode cX3_index 18 = .ok (.goto (-16), 3) := by decide +kernel
theorem dX3_index_21 : decode cX3_index 21 = .ok (.aload_n 0, 1) := by decide +kernel
theorem dX3_index_22 : decode cX3_index 22 = .ok (.iconst (-1), 1) := by decide +kernel
theorem dX3_index_23 : decode cX3_index 23 = .ok (.putfield 41, 3) := by decide +kernel
theorem dX3_index_26 : decode cX3_index 26 = .ok (.aload_n 0, 1) := by decide +kernel
theorem dX3_index_27 : decode cX3_index 27 = .ok (.iconst 0, 1) := by decide +kernel
theorem dX3_index_28 : decode cX3_index 28 = .ok (.putfield 35, 3) := by decide +kernel
theorem dX3_index_31 : decode cX3_index 31 = .ok (.aload_n 0, 1) := by decide +kernel
theorem dX3_index_32 : decode cX3_index 32 = .ok (.iconst (-1), 1) := by decide +kernel
theorem dX3_index_33 : decode cX3_index 33 = .ok (.putfield 38, 3) := by decide +kernel
theorem dX3_index_36 : decode cX3_index 36 = .ok (.iconst 0, 1) := by decide +kernel
theorem dX3_index_37 : decode cX3_index 37 = .ok (.istore_n 1, 1) := by decide +kernel
theorem dX3_index_38 : decode cX3_index 38 = .ok (.iload_n 1, 1) := by decide +kernel
theorem dX3_index_39 : decode cX3_index 39 = .ok (.aload_n 0, 1) := by decide +kernel
theorem dX3_index_40 : decode cX3_index 40 = .ok (.getfield 31, 3) := by decide +kernel
theorem dX3_index_43 : decode cX3_index 43 = .ok (.if_icmp .ge 14, 3) := by decide +kernel
theorem dX3_index_46 : decode cX3_index 46 = .ok (.aload_n 0, 1) := by decide +kernel
theorem dX3_index_47 : decode cX3_index 47 = .ok (.iload_n 1, 1) := by decide +kernel
theorem dX3_index_48 : decode cX3_index 48 = .ok (.invokevirtual 59, 3) := by decide +kernel
theorem dX3_index_51 : decode cX3_index 51 = .ok (.iinc 1 1, 3) := by decide +kernel
theorem dX3_index_54 : decode cX3_index 54 = .ok (.goto (-16), 3) := by decide +kernel
theorem dX3_index_57 : decode cX3_index 57 = .ok (.return_, 1) := by decide +kernel
theorem dX3_clear_0 : decode cX3_clear 0 = .ok (.aload_n 0, 1) := by decide +kernel
theorem dX3_clear_1 : decode cX3_clear 1 = .ok (.iconst 0, 1) := by decide +kernel
theorem dX3_clear_2 : decode cX3_clear 2 = .ok (.putfield 31, 3) := by decide +kernel
theorem dX3_clear_5 : decode cX3_clear 5 = .ok (.aload_n 0, 1) := by decide +kernel
theorem dX3_clear_6 : decode cX3_clear 6 = .ok (.invokevirtual 48, 3) := by decide +kernel
theorem dX3_clear_9 : decode cX3_clear 9 = .ok (.return_, 1) := by decide +kernel
theorem dX3_isKey_0 : decode cX3_isKey 0 = .ok (.iload_n 0, 1) := by decide +kernel
theorem dX3_isKey_1 : decode cX3_isKey 1 = .ok (.ifCond .lt 13, 3) := by decide +kernel
theorem dX3_isKey_4 : decode cX3_isKey 4 = .ok (.iload_n 0, 1) := by decide +kernel
theorem dX3_isKey_5 : decode cX3_isKey 5 = .ok (.bipush 64, 2) := by decide +kernel
theorem dX3_isKey_7 : decode cX3_isKey 7 = .ok (.if_icmp .ge 7, 3) := by decide +kernel
theorem dX3_isKey_10 : decode cX3_isKey 10 = .ok (.iconst 1, 1) := by decide +kernel
theorem dX3_isKey_11 : decode cX3_isKey 11 = .ok (.goto 4, 3) := by decide +kernel
theorem dX3_isKey_14 : decode cX3_isKey 14 = .ok (.iconst 0, 1) := by decide +kernel
theorem dX3_isKey_15 : decode cX3_isKey 15 = .ok (.ireturn, 1) := by decide +kernel
theorem dX3_isUser_0 : decode cX3_isUser 0 = .ok (.iload_n 0, 1) := by decide +kernel
theorem dX3_isUser_1 : decode cX3_isUser 1 = .ok (.ifCond .lt 13, 3) := by decide +kernel
theorem dX3_isUser_4 : decode cX3_isUser 4 = .ok (.iload_n 0, 1) := by decide +kernel
theorem dX3_isUser_5 : decode cX3_isUser 5 = .ok (.bipush 8, 2) := by decide +kernel
theorem dX3_isUser_7 : decode cX3_isUser 7 = .ok (.if_icmp .ge 7, 3) := by decide +kernel
theorem dX3_isUser_10 : decode cX3_isUser 10 = .ok (.iconst 1, 1) := by decide +kernel
theorem dX3_isUser_11 : decode cX3_isUser 11 = .ok (.goto 4, 3) := by decide +kernel
theorem dX3_isUser_14 : decode cX3_isUser 14 = .ok (.iconst 0, 1) := by decide +kernel
theorem dX3_isUser_15 : decode cX3_isUser 15 = .ok (.ireturn, 1) := by decide +kernel
theorem dX3_isFull_0 : decode cX3_isFull 0 = .ok (.aload_n 0, 1) := by decide +kernel
theorem dX3_isFull_1 : decode cX3_isFull 1 = .ok (.getfield 31, 3) := by decide +kernel
theorem dX3_isFull_4 : decode cX3_isFull 4 = .ok (.aload_n 0, 1) := by decide +kernel
theorem dX3_isFull_5 : decode cX3_isFull 5 = .ok (.getfield 9, 3) := by decide +kernel
theorem dX3_isFull_8 : decode cX3_isFull 8 = .ok (.arraylength, 1) := by decide +kernel
theorem dX3_isFull_9 : decode cX3_isFull 9 = .ok (.if_icmp .lt 7, 3) := by decide +kernel
theorem dX3_isFull_12 : decode cX3_isFull 12 = .ok (.iconst 1, 1) := by decide +kernel
theorem dX3_isFull_13 : decode cX3_isFull 13 = .ok (.goto 4, 3) := by decide +kernel
theorem dX3_isFull_16 : decode cX3_isFull 16 = .ok (.iconst 0, 1) := by decide +kernel
theorem dX3_isFull_17 : decode cX3_isFull 17 = .ok (.ireturn, 1) := by decide +kernel
theorem dX3_kindAt_0 : decode cX3_kindAt 0 = .ok (.iload_n 1, 1) := by decide +kernel
theorem dX3_kindAt_1 : decode cX3_kindAt 1 = .ok (.ifCond .lt 20, 3) := by decide +kernel
theorem dX3_kindAt_4 : decode cX3_kindAt 4 = .ok (.iload_n 1, 1) := by decide +kernel
theorem dX3_kindAt_5 : decode cX3_kindAt 5 = .ok (.aload_n 0, 1) := by decide +kernel
theorem dX3_kindAt_6 : decode cX3_kindAt 6 = .ok (.getfield 31, 3) := by decide +kernel
theorem dX3_kindAt_9 : decode cX3_kindAt 9 = .ok (.if_icmp .ge 12, 3) := by decide +kernel
theorem dX3_kindAt_12 : decode cX3_kindAt 12 = .ok (.aload_n 0, 1) := by decide +kernel
theorem dX3_kindAt_13 : decode cX3_kindAt 13 = .ok (.getfield 9, 3) := by decide +kernel
theorem dX3_kindAt_16 : decode cX3_kindAt 16 = .ok (.iload_n 1, 1) := by decide +kernel
theorem dX3_kindAt_17 : decode cX3_kindAt 17 = .ok (.iaload, 1) := by decide +kernel
theorem dX3_kindAt_18 : decode cX3_kindAt 18 = .ok (.goto 4, 3) := by decide +kernel
theorem dX3_kindAt_21 : decode cX3_kindAt 21 = .ok (.iconst 0, 1) := by decide +kernel
theorem dX3_kindAt_22 : decode cX3_kindAt 22 = .ok (.ireturn, 1) := by decide +kernel
theorem dX3_askCount_0 : decode cX3_askCount 0 = .ok (.aload_n 0, 1) := by decide +kernel
theorem dX3_askCount_1 : decode cX3_askCount 1 = .ok (.getfield 18, 3) := by decide +kernel
theorem dX3_askCount_4 : decode cX3_askCount 4 = .ok (.iload_n 1, 1) := by decide +kernel
theorem dX3_askCount_5 : decode cX3_askCount 5 = .ok (.iaload, 1) := by decide +kernel
theorem dX3_askCount_6 : decode cX3_askCount 6 = .ok (.ireturn, 1) := by decide +kernel
theorem dX3_askAt_0 : decode cX3_askAt 0 = .ok (.aload_n 0, 1) := by decide +kernel
theorem dX3_askAt_1 : decode cX3_askAt 1 = .ok (.getfield 21, 3) := by decide +kernel
theorem dX3_askAt_4 : decode cX3_askAt 4 = .ok (.iload_n 1, 1) := by decide +kernel
theorem dX3_askAt_5 : decode cX3_askAt 5 = .ok (.bipush 6, 2) := by decide +kernel
theorem dX3_askAt_7 : decode cX3_askAt 7 = .ok (.imul, 1) := by decide +kernel
theorem dX3_askAt_8 : decode cX3_askAt 8 = .ok (.iload_n 2, 1) := by decide +kernel
theorem dX3_askAt_9 : decode cX3_askAt 9 = .ok (.iadd, 1) := by decide +kernel
theorem dX3_askAt_10 : decode cX3_askAt 10 = .ok (.iaload, 1) := by decide +kernel
theorem dX3_askAt_11 : decode cX3_askAt 11 = .ok (.ireturn, 1) := by decide +kernel
theorem dX3_digestAt_0 : decode cX3_digestAt 0 = .ok (.aload_n 0, 1) := by decide +kernel
theorem dX3_digestAt_1 : decode cX3_digestAt 1 = .ok (.getfield 24, 3) := by decide +kernel
theorem dX3_digestAt_4 : decode cX3_digestAt 4 = .ok (.iload_n 1, 1) := by decide +kernel
theorem dX3_digestAt_5 : decode cX3_digestAt 5 = .ok (.laload, 1) := by decide +kernel
theorem dX3_digestAt_6 : decode cX3_digestAt 6 = .ok (.lreturn, 1) := by decide +kernel
theorem dX3_latest_0 : decode cX3_latest 0 = .ok (.aload_n 0, 1) := by decide +kernel
theorem dX3_latest_1 : decode cX3_latest 1 = .ok (.getfield 28, 3) := by decide +kernel
theorem dX3_latest_4 : decode cX3_latest 4 = .ok (.iload_n 1, 1) := by decide +kernel
theorem dX3_latest_5 : decode cX3_latest 5 = .ok (.iaload, 1) := by decide +kernel
theorem dX3_latest_6 : decode cX3_latest 6 = .ok (.ireturn, 1) := by decide +kernel
theorem dX3_isWrongBehind_0 : decode cX3_isWrongBehind 0 = .ok (.aload_n 0, 1) := by decide +kernel
theorem dX3_isWrongBehind_1 : decode cX3_isWrongBehind 1 = .ok (.getfield 38, 3) := by decide +kernel
theorem dX3_isWrongBehind_4 : decode cX3_isWrongBehind 4 = .ok (.iload_n 1, 1) := by decide +kernel
theorem dX3_isWrongBehind_5 : decode cX3_isWrongBehind 5 = .ok (.if_icmp .le 7, 3) := by decide +kernel
theorem dX3_isWrongBehind_8 : decode cX3_isWrongBehind 8 = .ok (.iconst 1, 1) := by decide +kernel
theorem dX3_isWrongBehind_9 : decode cX3_isWrongBehind 9 = .ok (.goto 4, 3) := by decide +kernel
theorem dX3_isWrongBehind_12 : decode cX3_isWrongBehind 12 = .ok (.iconst 0, 1) := by decide +kernel
theorem dX3_isWrongBehind_13 : decode cX3_isWrongBehind 13 = .ok (.ireturn, 1) := by decide +kernel
theorem dX3_lockHolder_0 : decode cX3_lockHolder 0 = .ok (.aload_n 0, 1) := by decide +kernel
theorem dX3_lockHolder_1 : decode cX3_lockHolder 1 = .ok (.getfield 41, 3) := by decide +kernel
theorem dX3_lockHolder_4 : decode cX3_lockHolder 4 = .ok (.iconst (-1), 1) := by decide +kernel
theorem dX3_lockHolder_5 : decode cX3_lockHolder 5 = .ok (.if_icmp .eq 28, 3) := by decide +kernel
theorem dX3_lockHolder_8 : decode cX3_lockHolder 8 = .ok (.aload_n 0, 1) := by decide +kernel
theorem dX3_lockHolder_9 : decode cX3_lockHolder 9 = .ok (.getfield 9, 3) := by decide +kernel
theorem dX3_lockHolder_12 : decode cX3_lockHolder 12 = .ok (.aload_n 0, 1) := by decide +kernel
theorem dX3_lockHolder_13 : decode cX3_lockHolder 13 = .ok (.getfield 41, 3) := by decide +kernel
theorem dX3_lockHolder_16 : decode cX3_lockHolder 16 = .ok (.iaload, 1) := by decide +kernel
theorem dX3_lockHolder_17 : decode cX3_lockHolder 17 = .ok (.iconst 2, 1) := by decide +kernel
theorem dX3_lockHolder_18 : decode cX3_lockHolder 18 = .ok (.if_icmp .ne 15, 3) := by decide +kernel
theorem dX3_lockHolder_21 : decode cX3_lockHolder 21 = .ok (.aload_n 0, 1) := by decide +kernel
theorem dX3_lockHolder_22 : decode cX3_lockHolder 22 = .ok (.getfield 15, 3) := by decide +kernel
theorem dX3_lockHolder_25 : decode cX3_lockHolder 25 = .ok (.aload_n 0, 1) := by decide +kernel
theorem dX3_lockHolder_26 : decode cX3_lockHolder 26 = .ok (.getfield 41, 3) := by decide +kernel
theorem dX3_lockHolder_29 : decode cX3_lockHolder 29 = .ok (.iaload, 1) := by decide +kernel
theorem dX3_lockHolder_30 : decode cX3_lockHolder 30 = .ok (.goto 4, 3) := by decide +kernel
theorem dX3_lockHolder_33 : decode cX3_lockHolder 33 = .ok (.iconst (-1), 1) := by decide +kernel
theorem dX3_lockHolder_34 : decode cX3_lockHolder 34 = .ok (.ireturn, 1) := by decide +kernel
theorem dX3_isToCopy_0 : decode cX3_isToCopy 0 = .ok (.aload_n 0, 1) := by decide +kernel
theorem dX3_isToCopy_1 : decode cX3_isToCopy 1 = .ok (.getfield 9, 3) := by decide +kernel
theorem dX3_isToCopy_4 : decode cX3_isToCopy 4 = .ok (.iload_n 1, 1) := by decide +kernel
theorem dX3_isToCopy_5 : decode cX3_isToCopy 5 = .ok (.iaload, 1) := by decide +kernel
theorem dX3_isToCopy_6 : decode cX3_isToCopy 6 = .ok (.iconst 1, 1) := by decide +kernel
theorem dX3_isToCopy_7 : decode cX3_isToCopy 7 = .ok (.if_icmp .ne 32, 3) := by decide +kernel
theorem dX3_isToCopy_10 : decode cX3_isToCopy 10 = .ok (.aload_n 0, 1) := by decide +kernel
theorem dX3_isToCopy_11 : decode cX3_isToCopy 11 = .ok (.getfield 28, 3) := by decide +kernel
theorem dX3_isToCopy_14 : decode cX3_isToCopy 14 = .ok (.aload_n 0, 1) := by decide +kernel
theorem dX3_isToCopy_15 : decode cX3_isToCopy 15 = .ok (.getfield 15, 3) := by decide +kernel
theorem dX3_isToCopy_18 : decode cX3_isToCopy 18 = .ok (.iload_n 1, 1) := by decide +kernel
theorem dX3_isToCopy_19 : decode cX3_isToCopy 19 = .ok (.iaload, 1) := by decide +kernel
theorem dX3_isToCopy_20 : decode cX3_isToCopy 20 = .ok (.iaload, 1) := by decide +kernel
theorem dX3_isToCopy_21 : decode cX3_isToCopy 21 = .ok (.iload_n 1, 1) := by decide +kernel
theorem dX3_isToCopy_22 : decode cX3_isToCopy 22 = .ok (.if_icmp .ne 15, 3) := by decide +kernel
theorem dX3_isToCopy_25 : decode cX3_isToCopy 25 = .ok (.aload_n 0, 1) := by decide +kernel
theorem dX3_isToCopy_26 : decode cX3_isToCopy 26 = .ok (.iload_n 1, 1) := by decide +kernel
theorem dX3_isToCopy_27 : decode cX3_isToCopy 27 = .ok (.invokevirtual 44, 3) := by decide +kernel
theorem dX3_isToCopy_30 : decode cX3_isToCopy 30 = .ok (.ifCond .ne 7, 3) := by decide +kernel
theorem dX3_isToCopy_33 : decode cX3_isToCopy 33 = .ok (.iconst 1, 1) := by decide +kernel
theorem dX3_isToCopy_34 : decode cX3_isToCopy 34 = .ok (.goto 4, 3) := by decide +kernel
theorem dX3_isToCopy_37 : decode cX3_isToCopy 37 = .ok (.iconst 0, 1) := by decide +kernel
theorem dX3_isToCopy_38 : decode cX3_isToCopy 38 = .ok (.ireturn, 1) := by decide +kernel
theorem dX3_isToCopy_39 : decode cX3_isToCopy 39 = .ok (.iload_n 1, 1) := by decide +kernel
theorem dX3_isToCopy_40 : decode cX3_isToCopy 40 = .ok (.aload_n 0, 1) := by decide +kernel
theorem dX3_isToCopy_41 : decode cX3_isToCopy 41 = .ok (.getfield 41, 3) := by decide +kernel
theorem dX3_isToCopy_44 : decode cX3_isToCopy 44 = .ok (.if_icmp .ne 7, 3) := by decide +kernel
theorem dX3_isToCopy_47 : decode cX3_isToCopy 47 = .ok (.iconst 1, 1) := by decide +kernel
theorem dX3_isToCopy_48 : decode cX3_isToCopy 48 = .ok (.goto 4, 3) := by decide +kernel
theorem dX3_isToCopy_51 : decode cX3_isToCopy 51 = .ok (.iconst 0, 1) := by decide +kernel
theorem dX3_isToCopy_52 : decode cX3_isToCopy 52 = .ok (.ireturn, 1) := by decide +kernel
theorem dX3_areKeys_0 : decode cX3_areKeys 0 = .ok (.iload_n 2, 1) := by decide +kernel
theorem dX3_areKeys_1 : decode cX3_areKeys 1 = .ok (.ifCond .lt 9, 3) := by decide +kernel
theorem dX3_areKeys_4 : decode cX3_areKeys 4 = .ok (.iload_n 2, 1) := by decide +kernel
theorem dX3_areKeys_5 : decode cX3_areKeys 5 = .ok (.bipush 6, 2) := by decide +kernel
theorem dX3_areKeys_7 : decode cX3_areKeys 7 = .ok (.if_icmp .le 5, 3) := by decide +kernel
theorem dX3_areKeys_10 : decode cX3_areKeys 10 = .ok (.iconst 0, 1) := by decide +kernel
theorem dX3_areKeys_11 : decode cX3_areKeys 11 = .ok (.ireturn, 1) := by decide +kernel
theorem dX3_areKeys_12 : decode cX3_areKeys 12 = .ok (.iconst 0, 1) := by decide +kernel
theorem dX3_areKeys_13 : decode cX3_areKeys 13 = .ok (.istore_n 3, 1) := by decide +kernel
theorem dX3_areKeys_14 : decode cX3_areKeys 14 = .ok (.iload_n 3, 1) := by decide +kernel
theorem dX3_areKeys_15 : decode cX3_areKeys 15 = .ok (.iload_n 2, 1) := by decide +kernel
theorem dX3_areKeys_16 : decode cX3_areKeys 16 = .ok (.if_icmp .ge 22, 3) := by decide +kernel
theorem dX3_areKeys_19 : decode cX3_areKeys 19 = .ok (.aload_n 0, 1) := by decide +kernel
theorem dX3_areKeys_20 : decode cX3_areKeys 20 = .ok (.iload_n 1, 1) := by decide +kernel
theorem dX3_areKeys_21 : decode cX3_areKeys 21 = .ok (.iload_n 3, 1) := by decide +kernel
theorem dX3_areKeys_22 : decode cX3_areKeys 22 = .ok (.iadd, 1) := by decide +kernel
theorem dX3_areKeys_23 : decode cX3_areKeys 23 = .ok (.baload, 1) := by decide +kernel
theorem dX3_areKeys_24 : decode cX3_areKeys 24 = .ok (.invokestatic 81, 3) := by decide +kernel
theorem dX3_areKeys_27 : decode cX3_areKeys 27 = .ok (.ifCond .ne 5, 3) := by decide +kernel
theorem dX3_areKeys_30 : decode cX3_areKeys 30 = .ok (.iconst 0, 1) := by decide +kernel
theorem dX3_areKeys_31 : decode cX3_areKeys 31 = .ok (.ireturn, 1) := by decide +kernel
theorem dX3_areKeys_32 : decode cX3_areKeys 32 = .ok (.iinc 3 1, 3) := by decide +kernel
theorem dX3_areKeys_35 : decode cX3_areKeys 35 = .ok (.goto (-21), 3) := by decide +kernel
theorem dX3_areKeys_38 : decode cX3_areKeys 38 = .ok (.iconst 1, 1) := by decide +kernel
theorem dX3_areKeys_39 : decode cX3_areKeys 39 = .ok (.ireturn, 1) := by decide +kernel
theorem dX3_isRow_0 : decode cX3_isRow 0 = .ok (.aload_n 0, 1) := by decide +kernel
theorem dX3_isRow_1 : decode cX3_isRow 1 = .ok (.iload_n 1, 1) := by decide +kernel
theorem dX3_isRow_2 : decode cX3_isRow 2 = .ok (.baload, 1) := by decide +kernel
theorem dX3_isRow_3 : decode cX3_isRow 3 = .ok (.istore_n 3, 1) := by decide +kernel
theorem dX3_isRow_4 : decode cX3_isRow 4 = .ok (.aload_n 0, 1) := by decide +kernel
theorem dX3_isRow_5 : decode cX3_isRow 5 = .ok (.iload_n 1, 1) := by decide +kernel
theorem dX3_isRow_6 : decode cX3_isRow 6 = .ok (.iconst 1, 1) := by decide +kernel
theorem dX3_isRow_7 : decode cX3_isRow 7 = .ok (.iadd, 1) := by decide +kernel
theorem dX3_isRow_8 : decode cX3_isRow 8 = .ok (.baload, 1) := by decide +kernel
theorem dX3_isRow_9 : decode cX3_isRow 9 = .ok (.istore 4, 2) := by decide +kernel
theorem dX3_isRow_11 : decode cX3_isRow 11 = .ok (.aload_n 0, 1) := by decide +kernel
theorem dX3_isRow_12 : decode cX3_isRow 12 = .ok (.iload_n 1, 1) := by decide +kernel
theorem dX3_isRow_13 : decode cX3_isRow 13 = .ok (.iconst 2, 1) := by decide +kernel
theorem dX3_isRow_14 : decode cX3_isRow 14 = .ok (.iadd, 1) := by decide +kernel
theorem dX3_isRow_15 : decode cX3_isRow 15 = .ok (.baload, 1) := by decide +kernel
theorem dX3_isRow_16 : decode cX3_isRow 16 = .ok (.istore 5, 2) := by decide +kernel
theorem dX3_isRow_18 : decode cX3_isRow 18 = .ok (.iload_n 3, 1) := by decide +kernel
theorem dX3_isRow_19 : decode cX3_isRow 19 = .ok (.iconst 1, 1) := by decide +kernel
theorem dX3_isRow_20 : decode cX3_isRow 20 = .ok (.if_icmp .ne 25, 3) := by decide +kernel
theorem dX3_isRow_23 : decode cX3_isRow 23 = .ok (.iload 4, 2) := by decide +kernel
theorem dX3_isRow_25 : decode cX3_isRow 25 = .ok (.invokestatic 81, 3) := by decide +kernel
theorem dX3_isRow_28 : decode cX3_isRow 28 = .ok (.ifCond .eq 15, 3) := by decide +kernel
theorem dX3_isRow_31 : decode cX3_isRow 31 = .ok (.aload_n 0, 1) := by decide +kernel
theorem dX3_isRow_32 : decode cX3_isRow 32 = .ok (.iload_n 1, 1) := by decide +kernel
theorem dX3_isRow_33 : decode cX3_isRow 33 = .ok (.iconst 3, 1) := by decide +kernel
theorem dX3_isRow_34 : decode cX3_isRow 34 = .ok (.iadd, 1) := by decide +kernel
theorem dX3_isRow_35 : decode cX3_isRow 35 = .ok (.iload 5, 2) := by decide +kernel
theorem dX3_isRow_37 : decode cX3_isRow 37 = .ok (.invokestatic 84, 3) := by decide +kernel
theorem dX3_isRow_40 : decode cX3_isRow 40 = .ok (.ifCond .ne 30, 3) := by decide +kernel
theorem dX3_isRow_43 : decode cX3_isRow 43 = .ok (.iconst 0, 1) := by decide +kernel
theorem dX3_isRow_44 : decode cX3_isRow 44 = .ok (.ireturn, 1) := by decide +kernel
theorem dX3_isRow_45 : decode cX3_isRow 45 = .ok (.iload_n 3, 1) := by decide +kernel
theorem dX3_isRow_46 : decode cX3_isRow 46 = .ok (.iconst 2, 1) := by decide +kernel
theorem dX3_isRow_47 : decode cX3_isRow 47 = .ok (.if_icmp .eq 8, 3) := by decide +kernel
theorem dX3_isRow_50 : decode cX3_isRow 50 = .ok (.iload_n 3, 1) := by decide +kernel
theorem dX3_isRow_51 : decode cX3_isRow 51 = .ok (.iconst 3, 1) := by decide +kernel
theorem dX3_isRow_52 : decode cX3_isRow 52 = .ok (.if_icmp .ne 16, 3) := by decide +kernel
theorem dX3_isRow_55 : decode cX3_isRow 55 = .ok (.iload 4, 2) := by decide +kernel
theorem dX3_isRow_57 : decode cX3_isRow 57 = .ok (.invokestatic 87, 3) := by decide +kernel
theorem dX3_isRow_60 : decode cX3_isRow 60 = .ok (.ifCond .eq 8, 3) := by decide +kernel
theorem dX3_isRow_63 : decode cX3_isRow 63 = .ok (.iload 5, 2) := by decide +kernel
theorem dX3_isRow_65 : decode cX3_isRow 65 = .ok (.ifCond .eq 5, 3) := by decide +kernel
theorem dX3_isRow_68 : decode cX3_isRow 68 = .ok (.iconst 0, 1) := by decide +kernel
theorem dX3_isRow_69 : decode cX3_isRow 69 = .ok (.ireturn, 1) := by decide +kernel
theorem dX3_isRow_70 : decode cX3_isRow 70 = .ok (.aload_n 0, 1) := by decide +kernel
theorem dX3_isRow_71 : decode cX3_isRow 71 = .ok (.iload_n 1, 1) := by decide +kernel
theorem dX3_isRow_72 : decode cX3_isRow 72 = .ok (.bipush 28, 2) := by decide +kernel
theorem dX3_isRow_74 : decode cX3_isRow 74 = .ok (.iload_n 2, 1) := by decide +kernel
theorem dX3_isRow_75 : decode cX3_isRow 75 = .ok (.invokestatic 90, 3) := by decide +kernel
theorem dX3_isRow_78 : decode cX3_isRow 78 = .ok (.ireturn, 1) := by decide +kernel
theorem dX3_readRow_0 : decode cX3_readRow 0 = .ok (.aload_n 0, 1) := by decide +kernel
theorem dX3_readRow_1 : decode cX3_readRow 1 = .ok (.getfield 9, 3) := by decide +kernel
theorem dX3_readRow_4 : decode cX3_readRow 4 = .ok (.iload_n 3, 1) := by decide +kernel
theorem dX3_readRow_5 : decode cX3_readRow 5 = .ok (.aload_n 1, 1) := by decide +kernel
theorem dX3_readRow_6 : decode cX3_readRow 6 = .ok (.iload_n 2, 1) := by decide +kernel
theorem dX3_readRow_7 : decode cX3_readRow 7 = .ok (.baload, 1) := by decide +kernel
theorem dX3_readRow_8 : decode cX3_readRow 8 = .ok (.iastore, 1) := by decide +kernel
theorem dX3_readRow_9 : decode cX3_readRow 9 = .ok (.aload_n 0, 1) := by decide +kernel
theorem dX3_readRow_10 : decode cX3_readRow 10 = .ok (.getfield 15, 3) := by decide +kernel
theorem dX3_readRow_13 : decode cX3_readRow 13 = .ok (.iload_n 3, 1) := by decide +kernel
theorem dX3_readRow_14 : decode cX3_readRow 14 = .ok (.aload_n 1, 1) := by decide +kernel
theorem dX3_readRow_15 : decode cX3_readRow 15 = .ok (.iload_n 2, 1) := by decide +kernel
theorem dX3_readRow_16 : decode cX3_readRow 16 = .ok (.iconst 1, 1) := by decide +kernel
theorem dX3_readRow_17 : decode cX3_readRow 17 = .ok (.iadd, 1) := by decide +kernel
theorem dX3_readRow_18 : decode cX3_readRow 18 = .ok (.baload, 1) := by decide +kernel
theorem dX3_readRow_19 : decode cX3_readRow 19 = .ok (.iastore, 1) := by decide +kernel
theorem dX3_readRow_20 : decode cX3_readRow 20 = .ok (.aload_n 0, 1) := by decide +kernel
theorem dX3_readRow_21 : decode cX3_readRow 21 = .ok (.getfield 18, 3) := by decide +kernel
theorem dX3_readRow_24 : decode cX3_readRow 24 = .ok (.iload_n 3, 1) := by decide +kernel
theorem dX3_readRow_25 : decode cX3_readRow 25 = .ok (.aload_n 1, 1) := by decide +kernel
theorem dX3_readRow_26 : decode cX3_readRow 26 = .ok (.iload_n 2, 1) := by decide +kernel
theorem dX3_readRow_27 : decode cX3_readRow 27 = .ok (.iconst 2, 1) := by decide +kernel
theorem dX3_readRow_28 : decode cX3_readRow 28 = .ok (.iadd, 1) := by decide +kernel
theorem dX3_readRow_29 : decode cX3_readRow 29 = .ok (.baload, 1) := by decide +kernel
theorem dX3_readRow_30 : decode cX3_readRow 30 = .ok (.iastore, 1) := by decide +kernel
theorem dX3_readRow_31 : decode cX3_readRow 31 = .ok (.iconst 0, 1) := by decide +kernel
theorem dX3_readRow_32 : decode cX3_readRow 32 = .ok (.istore 4, 2) := by decide +kernel
theorem dX3_readRow_34 : decode cX3_readRow 34 = .ok (.iload 4, 2) := by decide +kernel
theorem dX3_readRow_36 : decode cX3_readRow 36 = .ok (.bipush 6, 2) := by decide +kernel
theorem dX3_readRow_38 : decode cX3_readRow 38 = .ok (.if_icmp .ge 29, 3) := by decide +kernel
theorem dX3_readRow_41 : decode cX3_readRow 41 = .ok (.aload_n 0, 1) := by decide +kernel
theorem dX3_readRow_42 : decode cX3_readRow 42 = .ok (.getfield 21, 3) := by decide +kernel
theorem dX3_readRow_45 : decode cX3_readRow 45 = .ok (.iload_n 3, 1) := by decide +kernel
theorem dX3_readRow_46 : decode cX3_readRow 46 = .ok (.bipush 6, 2) := by decide +kernel
theorem dX3_readRow_48 : decode cX3_readRow 48 = .ok (.imul, 1) := by decide +kernel
theorem dX3_readRow_49 : decode cX3_readRow 49 = .ok (.iload 4, 2) := by decide +kernel
theorem dX3_readRow_51 : decode cX3_readRow 51 = .ok (.iadd, 1) := by decide +kernel
theorem dX3_readRow_52 : decode cX3_readRow 52 = .ok (.aload_n 1, 1) := by decide +kernel
theorem dX3_readRow_53 : decode cX3_readRow 53 = .ok (.iload_n 2, 1) := by decide +kernel
theorem dX3_readRow_54 : decode cX3_readRow 54 = .ok (.iconst 3, 1) := by decide +kernel
theorem dX3_readRow_55 : decode cX3_readRow 55 = .ok (.iadd, 1) := by decide +kernel
theorem dX3_readRow_56 : decode cX3_readRow 56 = .ok (.iload 4, 2) := by decide +kernel
theorem dX3_readRow_58 : decode cX3_readRow 58 = .ok (.iadd, 1) := by decide +kernel
theorem dX3_readRow_59 : decode cX3_readRow 59 = .ok (.baload, 1) := by decide +kernel
theorem dX3_readRow_60 : decode cX3_readRow 60 = .ok (.iastore, 1) := by decide +kernel
theorem dX3_readRow_61 : decode cX3_readRow 61 = .ok (.iinc 4 1, 3) := by decide +kernel
theorem dX3_readRow_64 : decode cX3_readRow 64 = .ok (.goto (-30), 3) := by decide +kernel
theorem dX3_readRow_67 : decode cX3_readRow 67 = .ok (.aload_n 0, 1) := by decide +kernel
theorem dX3_readRow_68 : decode cX3_readRow 68 = .ok (.getfield 24, 3) := by decide +kernel
theorem dX3_readRow_71 : decode cX3_readRow 71 = .ok (.iload_n 3, 1) := by decide +kernel
theorem dX3_readRow_72 : decode cX3_readRow 72 = .ok (.aload_n 0, 1) := by decide +kernel
theorem dX3_readRow_73 : decode cX3_readRow 73 = .ok (.getfield 9, 3) := by decide +kernel
theorem dX3_readRow_76 : decode cX3_readRow 76 = .ok (.iload_n 3, 1) := by decide +kernel
theorem dX3_readRow_77 : decode cX3_readRow 77 = .ok (.iaload, 1) := by decide +kernel
theorem dX3_readRow_78 : decode cX3_readRow 78 = .ok (.iconst 1, 1) := by decide +kernel
theorem dX3_readRow_79 : decode cX3_readRow 79 = .ok (.if_icmp .ne 16, 3) := by decide +kernel
theorem dX3_readRow_82 : decode cX3_readRow 82 = .ok (.aload_n 1, 1) := by decide +kernel
theorem dX3_readRow_83 : decode cX3_readRow 83 = .ok (.iload_n 2, 1) := by decide +kernel
theorem dX3_readRow_84 : decode cX3_readRow 84 = .ok (.bipush 16, 2) := by decide +kernel
theorem dX3_readRow_86 : decode cX3_readRow 86 = .ok (.iadd, 1) := by decide +kernel
theorem dX3_readRow_87 : decode cX3_readRow 87 = .ok (.bipush 8, 2) := by decide +kernel
theorem dX3_readRow_89 : decode cX3_readRow 89 = .ok (.invokestatic 94, 3) := by decide +kernel
theorem dX3_readRow_92 : decode cX3_readRow 92 = .ok (.goto 4, 3) := by decide +kernel
theorem dX3_readRow_95 : decode cX3_readRow 95 = .ok (.lconst 0, 1) := by decide +kernel
theorem dX3_readRow_96 : decode cX3_readRow 96 = .ok (.lastore, 1) := by decide +kernel
theorem dX3_readRow_97 : decode cX3_readRow 97 = .ok (.return_, 1) := by decide +kernel
theorem dX3_read_0 : decode cX3_read 0 = .ok (.aload_n 0, 1) := by decide +kernel
theorem dX3_read_1 : decode cX3_read 1 = .ok (.iconst 0, 1) := by decide +kernel
theorem dX3_read_2 : decode cX3_read 2 = .ok (.putfield 31, 3) := by decide +kernel
theorem dX3_read_5 : decode cX3_read 5 = .ok (.iconst 0, 1) := by decide +kernel
theorem dX3_read_6 : decode cX3_read 6 = .ok (.istore_n 3, 1) := by decide +kernel
theorem dX3_read_7 : decode cX3_read 7 = .ok (.iload_n 3, 1) := by decide +kernel
theorem dX3_read_8 : decode cX3_read 8 = .ok (.aload_n 0, 1) := by decide +kernel
theorem dX3_read_9 : decode cX3_read 9 = .ok (.getfield 9, 3) := by decide +kernel
theorem dX3_read_12 : decode cX3_read 12 = .ok (.arraylength, 1) := by decide +kernel
theorem dX3_read_13 : decode cX3_read 13 = .ok (.if_icmp .ge 52, 3) := by decide +kernel
theorem dX3_read_16 : decode cX3_read 16 = .ok (.iload_n 2, 1) := by decide +kernel
theorem dX3_read_17 : decode cX3_read 17 = .ok (.iload_n 3, 1) := by decide +kernel
theorem dX3_read_18 : decode cX3_read 18 = .ok (.bipush 32, 2) := by decide +kernel
theorem dX3_read_20 : decode cX3_read 20 = .ok (.imul, 1) := by decide +kernel
theorem dX3_read_21 : decode cX3_read 21 = .ok (.iadd, 1) := by decide +kernel
theorem dX3_read_22 : decode cX3_read 22 = .ok (.istore 4, 2) := by decide +kernel
theorem dX3_read_24 : decode cX3_read 24 = .ok (.aload_n 1, 1) := by decide +kernel
theorem dX3_read_25 : decode cX3_read 25 = .ok (.iload 4, 2) := by decide +kernel
theorem dX3_read_27 : decode cX3_read 27 = .ok (.iload_n 3, 1) := by decide +kernel
theorem dX3_read_28 : decode cX3_read 28 = .ok (.invokestatic 51, 3) := by decide +kernel
theorem dX3_read_31 : decode cX3_read 31 = .ok (.ifCond .eq 21, 3) := by decide +kernel
theorem dX3_read_34 : decode cX3_read 34 = .ok (.aload_n 0, 1) := by decide +kernel
theorem dX3_read_35 : decode cX3_read 35 = .ok (.aload_n 1, 1) := by decide +kernel
theorem dX3_read_36 : decode cX3_read 36 = .ok (.iload 4, 2) := by decide +kernel
theorem dX3_read_38 : decode cX3_read 38 = .ok (.iload_n 3, 1) := by decide +kernel
theorem dX3_read_39 : decode cX3_read 39 = .ok (.invokevirtual 55, 3) := by decide +kernel
theorem dX3_read_42 : decode cX3_read 42 = .ok (.aload_n 0, 1) := by decide +kernel
theorem dX3_read_43 : decode cX3_read 43 = .ok (.iload_n 3, 1) := by decide +kernel
theorem dX3_read_44 : decode cX3_read 44 = .ok (.iconst 1, 1) := by decide +kernel
theorem dX3_read_45 : decode cX3_read 45 = .ok (.iadd, 1) := by decide +kernel
theorem dX3_read_46 : decode cX3_read 46 = .ok (.putfield 31, 3) := by decide +kernel
theorem dX3_read_49 : decode cX3_read 49 = .ok (.goto 10, 3) := by decide +kernel
theorem dX3_read_52 : decode cX3_read 52 = .ok (.aload_n 0, 1) := by decide +kernel
theorem dX3_read_53 : decode cX3_read 53 = .ok (.getfield 9, 3) := by decide +kernel
theorem dX3_read_56 : decode cX3_read 56 = .ok (.iload_n 3, 1) := by decide +kernel
theorem dX3_read_57 : decode cX3_read 57 = .ok (.iconst 0, 1) := by decide +kernel
theorem dX3_read_58 : decode cX3_read 58 = .ok (.iastore, 1) := by decide +kernel
theorem dX3_read_59 : decode cX3_read 59 = .ok (.iinc 3 1, 3) := by decide +kernel
theorem dX3_read_62 : decode cX3_read 62 = .ok (.goto (-55), 3) := by decide +kernel
theorem dX3_read_65 : decode cX3_read 65 = .ok (.aload_n 0, 1) := by decide +kernel
theorem dX3_read_66 : decode cX3_read 66 = .ok (.invokevirtual 48, 3) := by decide +kernel
theorem dX3_read_69 : decode cX3_read 69 = .ok (.return_, 1) := by decide +kernel
theorem dX3_append_0 : decode cX3_append 0 = .ok (.aload_n 0, 1) := by decide +kernel
theorem dX3_append_1 : decode cX3_append 1 = .ok (.getfield 31, 3) := by decide +kernel
theorem dX3_append_4 : decode cX3_append 4 = .ok (.istore 5, 2) := by decide +kernel
theorem dX3_append_6 : decode cX3_append 6 = .ok (.aload_n 0, 1) := by decide +kernel
theorem dX3_append_7 : decode cX3_append 7 = .ok (.getfield 9, 3) := by decide +kernel
theorem dX3_append_10 : decode cX3_append 10 = .ok (.iload 5, 2) := by decide +kernel
theorem dX3_append_12 : decode cX3_append 12 = .ok (.iload_n 1, 1) := by decide +kernel
theorem dX3_append_13 : decode cX3_append 13 = .ok (.iastore, 1) := by decide +kernel
theorem dX3_append_14 : decode cX3_append 14 = .ok (.aload_n 0, 1) := by decide +kernel
theorem dX3_append_15 : decode cX3_append 15 = .ok (.getfield 15, 3) := by decide +kernel
theorem dX3_append_18 : decode cX3_append 18 = .ok (.iload 5, 2) := by decide +kernel
theorem dX3_append_20 : decode cX3_append 20 = .ok (.iload_n 2, 1) := by decide +kernel
theorem dX3_append_21 : decode cX3_append 21 = .ok (.iastore, 1) := by decide +kernel
theorem dX3_append_22 : decode cX3_append 22 = .ok (.aload_n 0, 1) := by decide +kernel
theorem dX3_append_23 : decode cX3_append 23 = .ok (.getfield 18, 3) := by decide +kernel
theorem dX3_append_26 : decode cX3_append 26 = .ok (.iload 5, 2) := by decide +kernel
theorem dX3_append_28 : decode cX3_append 28 = .ok (.iconst 0, 1) := by decide +kernel
theorem dX3_append_29 : decode cX3_append 29 = .ok (.iastore, 1) := by decide +kernel
theorem dX3_append_30 : decode cX3_append 30 = .ok (.aload_n 0, 1) := by decide +kernel
theorem dX3_append_31 : decode cX3_append 31 = .ok (.getfield 24, 3) := by decide +kernel
theorem dX3_append_34 : decode cX3_append 34 = .ok (.iload 5, 2) := by decide +kernel
theorem dX3_append_36 : decode cX3_append 36 = .ok (.lload_n 3, 1) := by decide +kernel
theorem dX3_append_37 : decode cX3_append 37 = .ok (.lastore, 1) := by decide +kernel
theorem dX3_append_38 : decode cX3_append 38 = .ok (.aload_n 0, 1) := by decide +kernel
theorem dX3_append_39 : decode cX3_append 39 = .ok (.dup, 1) := by decide +kernel
theorem dX3_append_40 : decode cX3_append 40 = .ok (.getfield 31, 3) := by decide +kernel
theorem dX3_append_43 : decode cX3_append 43 = .ok (.iconst 1, 1) := by decide +kernel
theorem dX3_append_44 : decode cX3_append 44 = .ok (.iadd, 1) := by decide +kernel
theorem dX3_append_45 : decode cX3_append 45 = .ok (.putfield 31, 3) := by decide +kernel
theorem dX3_append_48 : decode cX3_append 48 = .ok (.aload_n 0, 1) := by decide +kernel
theorem dX3_append_49 : decode cX3_append 49 = .ok (.iload 5, 2) := by decide +kernel
theorem dX3_append_51 : decode cX3_append 51 = .ok (.invokevirtual 59, 3) := by decide +kernel
theorem dX3_append_54 : decode cX3_append 54 = .ok (.iload 5, 2) := by decide +kernel
theorem dX3_append_56 : decode cX3_append 56 = .ok (.ireturn, 1) := by decide +kernel
theorem dX3_addAsk_0 : decode cX3_addAsk 0 = .ok (.aload_n 0, 1) := by decide +kernel
theorem dX3_addAsk_1 : decode cX3_addAsk 1 = .ok (.getfield 21, 3) := by decide +kernel
theorem dX3_addAsk_4 : decode cX3_addAsk 4 = .ok (.iload_n 1, 1) := by decide +kernel
theorem dX3_addAsk_5 : decode cX3_addAsk 5 = .ok (.bipush 6, 2) := by decide +kernel
theorem dX3_addAsk_7 : decode cX3_addAsk 7 = .ok (.imul, 1) := by decide +kernel
theorem dX3_addAsk_8 : decode cX3_addAsk 8 = .ok (.aload_n 0, 1) := by decide +kernel
theorem dX3_addAsk_9 : decode cX3_addAsk 9 = .ok (.getfield 18, 3) := by decide +kernel
theorem dX3_addAsk_12 : decode cX3_addAsk 12 = .ok (.iload_n 1, 1) := by decide +kernel
theorem dX3_addAsk_13 : decode cX3_addAsk 13 = .ok (.iaload, 1) := by decide +kernel
theorem dX3_addAsk_14 : decode cX3_addAsk 14 = .ok (.iadd, 1) := by decide +kernel
theorem dX3_addAsk_15 : decode cX3_addAsk 15 = .ok (.iload_n 2, 1) := by decide +kernel
theorem dX3_addAsk_16 : decode cX3_addAsk 16 = .ok (.iastore, 1) := by decide +kernel
theorem dX3_addAsk_17 : decode cX3_addAsk 17 = .ok (.aload_n 0, 1) := by decide +kernel
theorem dX3_addAsk_18 : decode cX3_addAsk 18 = .ok (.getfield 18, 3) := by decide +kernel
theorem dX3_addAsk_21 : decode cX3_addAsk 21 = .ok (.iload_n 1, 1) := by decide +kernel
theorem dX3_addAsk_22 : decode cX3_addAsk 22 = .ok (.dup2, 1) := by decide +kernel
theorem dX3_addAsk_23 : decode cX3_addAsk 23 = .ok (.iaload, 1) := by decide +kernel
theorem dX3_addAsk_24 : decode cX3_addAsk 24 = .ok (.iconst 1, 1) := by decide +kernel
theorem dX3_addAsk_25 : decode cX3_addAsk 25 = .ok (.iadd, 1) := by decide +kernel
theorem dX3_addAsk_26 : decode cX3_addAsk 26 = .ok (.iastore, 1) := by decide +kernel
theorem dX3_addAsk_27 : decode cX3_addAsk 27 = .ok (.return_, 1) := by decide +kernel
theorem dX3_move_0 : decode cX3_move 0 = .ok (.aload_n 0, 1) := by decide +kernel
theorem dX3_move_1 : decode cX3_move 1 = .ok (.getfield 9, 3) := by decide +kernel
theorem dX3_move_4 : decode cX3_move 4 = .ok (.iload_n 2, 1) := by decide +kernel
theorem dX3_move_5 : decode cX3_move 5 = .ok (.aload_n 0, 1) := by decide +kernel
theorem dX3_move_6 : decode cX3_move 6 = .ok (.getfield 9, 3) := by decide +kernel
theorem dX3_move_9 : decode cX3_move 9 = .ok (.iload_n 1, 1) := by decide +kernel
theorem dX3_move_10 : decode cX3_move 10 = .ok (.iaload, 1) := by decide +kernel
theorem dX3_move_11 : decode cX3_move 11 = .ok (.iastore, 1) := by decide +kernel
theorem dX3_move_12 : decode cX3_move 12 = .ok (.aload_n 0, 1) := by decide +kernel
theorem dX3_move_13 : decode cX3_move 13 = .ok (.getfield 15, 3) := by decide +kernel
theorem dX3_move_16 : decode cX3_move 16 = .ok (.iload_n 2, 1) := by decide +kernel
theorem dX3_move_17 : decode cX3_move 17 = .ok (.aload_n 0, 1) := by decide +kernel
theorem dX3_move_18 : decode cX3_move 18 = .ok (.getfield 15, 3) := by decide +kernel
theorem dX3_move_21 : decode cX3_move 21 = .ok (.iload_n 1, 1) := by decide +kernel
theorem dX3_move_22 : decode cX3_move 22 = .ok (.iaload, 1) := by decide +kernel
theorem dX3_move_23 : decode cX3_move 23 = .ok (.iastore, 1) := by decide +kernel
theorem dX3_move_24 : decode cX3_move 24 = .ok (.aload_n 0, 1) := by decide +kernel
theorem dX3_move_25 : decode cX3_move 25 = .ok (.getfield 18, 3) := by decide +kernel
theorem dX3_move_28 : decode cX3_move 28 = .ok (.iload_n 2, 1) := by decide +kernel
theorem dX3_move_29 : decode cX3_move 29 = .ok (.aload_n 0, 1) := by decide +kernel
theorem dX3_move_30 : decode cX3_move 30 = .ok (.getfield 18, 3) := by decide +kernel
theorem dX3_move_33 : decode cX3_move 33 = .ok (.iload_n 1, 1) := by decide +kernel
theorem dX3_move_34 : decode cX3_move 34 = .ok (.iaload, 1) := by decide +kernel
theorem dX3_move_35 : decode cX3_move 35 = .ok (.iastore, 1) := by decide +kernel
theorem dX3_move_36 : decode cX3_move 36 = .ok (.iconst 0, 1) := by decide +kernel
theorem dX3_move_37 : decode cX3_move 37 = .ok (.istore_n 3, 1) := by decide +kernel
theorem dX3_move_38 : decode cX3_move 38 = .ok (.iload_n 3, 1) := by decide +kernel
theorem dX3_move_39 : decode cX3_move 39 = .ok (.bipush 6, 2) := by decide +kernel
theorem dX3_move_41 : decode cX3_move 41 = .ok (.if_icmp .ge 31, 3) := by decide +kernel
theorem dX3_move_44 : decode cX3_move 44 = .ok (.aload_n 0, 1) := by decide +kernel
theorem dX3_move_45 : decode cX3_move 45 = .ok (.getfield 21, 3) := by decide +kernel
theorem dX3_move_48 : decode cX3_move 48 = .ok (.iload_n 2, 1) := by decide +kernel
theorem dX3_move_49 : decode cX3_move 49 = .ok (.bipush 6, 2) := by decide +kernel
theorem dX3_move_51 : decode cX3_move 51 = .ok (.imul, 1) := by decide +kernel
theorem dX3_move_52 : decode cX3_move 52 = .ok (.iload_n 3, 1) := by decide +kernel
theorem dX3_move_53 : decode cX3_move 53 = .ok (.iadd, 1) := by decide +kernel
theorem dX3_move_54 : decode cX3_move 54 = .ok (.aload_n 0, 1) := by decide +kernel
theorem dX3_move_55 : decode cX3_move 55 = .ok (.getfield 21, 3) := by decide +kernel
theorem dX3_move_58 : decode cX3_move 58 = .ok (.iload_n 1, 1) := by decide +kernel
theorem dX3_move_59 : decode cX3_move 59 = .ok (.bipush 6, 2) := by decide +kernel
theorem dX3_move_61 : decode cX3_move 61 = .ok (.imul, 1) := by decide +kernel
theorem dX3_move_62 : decode cX3_move 62 = .ok (.iload_n 3, 1) := by decide +kernel
theorem dX3_move_63 : decode cX3_move 63 = .ok (.iadd, 1) := by decide +kernel
theorem dX3_move_64 : decode cX3_move 64 = .ok (.iaload, 1) := by decide +kernel
theorem dX3_move_65 : decode cX3_move 65 = .ok (.iastore, 1) := by decide +kernel
theorem dX3_move_66 : decode cX3_move 66 = .ok (.iinc 3 1, 3) := by decide +kernel
theorem dX3_move_69 : decode cX3_move 69 = .ok (.goto (-31), 3) := by decide +kernel
theorem dX3_move_72 : decode cX3_move 72 = .ok (.aload_n 0, 1) := by decide +kernel
theorem dX3_move_73 : decode cX3_move 73 = .ok (.getfield 24, 3) := by decide +kernel
theorem dX3_move_76 : decode cX3_move 76 = .ok (.iload_n 2, 1) := by decide +kernel
theorem dX3_move_77 : decode cX3_move 77 = .ok (.aload_n 0, 1) := by decide +kernel
theorem dX3_move_78 : decode cX3_move 78 = .ok (.getfield 24, 3) := by decide +kernel
theorem dX3_move_81 : decode cX3_move 81 = .ok (.iload_n 1, 1) := by decide +kernel
theorem dX3_move_82 : decode cX3_move 82 = .ok (.laload, 1) := by decide +kernel
theorem dX3_move_83 : decode cX3_move 83 = .ok (.lastore, 1) := by decide +kernel
theorem dX3_move_84 : decode cX3_move 84 = .ok (.return_, 1) := by decide +kernel
theorem dX3_keepOnly_0 : decode cX3_keepOnly 0 = .ok (.iconst 0, 1) := by decide +kernel
theorem dX3_keepOnly_1 : decode cX3_keepOnly 1 = .ok (.istore_n 3, 1) := by decide +kernel
theorem dX3_keepOnly_2 : decode cX3_keepOnly 2 = .ok (.iload_n 3, 1) := by decide +kernel
theorem dX3_keepOnly_3 : decode cX3_keepOnly 3 = .ok (.iload_n 2, 1) := by decide +kernel
theorem dX3_keepOnly_4 : decode cX3_keepOnly 4 = .ok (.if_icmp .ge 17, 3) := by decide +kernel
theorem dX3_keepOnly_7 : decode cX3_keepOnly 7 = .ok (.aload_n 0, 1) := by decide +kernel
theorem dX3_keepOnly_8 : decode cX3_keepOnly 8 = .ok (.aload_n 1, 1) := by decide +kernel
theorem dX3_keepOnly_9 : decode cX3_keepOnly 9 = .ok (.iload_n 3, 1) := by decide +kernel
theorem dX3_keepOnly_10 : decode cX3_keepOnly 10 = .ok (.iaload, 1) := by decide +kernel
theorem dX3_keepOnly_11 : decode cX3_keepOnly 11 = .ok (.iload_n 3, 1) := by decide +kernel
theorem dX3_keepOnly_12 : decode cX3_keepOnly 12 = .ok (.invokevirtual 63, 3) := by decide +kernel
theorem dX3_keepOnly_15 : decode cX3_keepOnly 15 = .ok (.iinc 3 1, 3) := by decide +kernel
theorem dX3_keepOnly_18 : decode cX3_keepOnly 18 = .ok (.goto (-16), 3) := by decide +kernel
theorem dX3_keepOnly_21 : decode cX3_keepOnly 21 = .ok (.aload_n 0, 1) := by decide +kernel
theorem dX3_keepOnly_22 : decode cX3_keepOnly 22 = .ok (.iload_n 2, 1) := by decide +kernel
theorem dX3_keepOnly_23 : decode cX3_keepOnly 23 = .ok (.putfield 31, 3) := by decide +kernel
theorem dX3_keepOnly_26 : decode cX3_keepOnly 26 = .ok (.aload_n 0, 1) := by decide +kernel
theorem dX3_keepOnly_27 : decode cX3_keepOnly 27 = .ok (.invokevirtual 48, 3) := by decide +kernel
theorem dX3_keepOnly_30 : decode cX3_keepOnly 30 = .ok (.return_, 1) := by decide +kernel
theorem dX3_write_0 : decode cX3_write 0 = .ok (.aload_n 0, 1) := by decide +kernel
theorem dX3_write_1 : decode cX3_write 1 = .ok (.getfield 18, 3) := by decide +kernel
theorem dX3_write_4 : decode cX3_write 4 = .ok (.iload_n 1, 1) := by decide +kernel
theorem dX3_write_5 : decode cX3_write 5 = .ok (.iaload, 1) := by decide +kernel
theorem dX3_write_6 : decode cX3_write 6 = .ok (.istore 5, 2) := by decide +kernel
theorem dX3_write_8 : decode cX3_write 8 = .ok (.iconst 0, 1) := by decide +kernel
theorem dX3_write_9 : decode cX3_write 9 = .ok (.istore 6, 2) := by decide +kernel
theorem dX3_write_11 : decode cX3_write 11 = .ok (.iload 6, 2) := by decide +kernel
theorem dX3_write_13 : decode cX3_write 13 = .ok (.bipush 32, 2) := by decide +kernel
theorem dX3_write_15 : decode cX3_write 15 = .ok (.if_icmp .ge 16, 3) := by decide +kernel
theorem dX3_write_18 : decode cX3_write 18 = .ok (.aload_n 2, 1) := by decide +kernel
theorem dX3_write_19 : decode cX3_write 19 = .ok (.iload_n 3, 1) := by decide +kernel
theorem dX3_write_20 : decode cX3_write 20 = .ok (.iload 6, 2) := by decide +kernel
theorem dX3_write_22 : decode cX3_write 22 = .ok (.iadd, 1) := by decide +kernel
theorem dX3_write_23 : decode cX3_write 23 = .ok (.iconst 0, 1) := by decide +kernel
theorem dX3_write_24 : decode cX3_write 24 = .ok (.bastore, 1) := by decide +kernel
theorem dX3_write_25 : decode cX3_write 25 = .ok (.iinc 6 1, 3) := by decide +kernel
theorem dX3_write_28 : decode cX3_write 28 = .ok (.goto (-17), 3) := by decide +kernel
theorem dX3_write_31 : decode cX3_write 31 = .ok (.aload_n 2, 1) := by decide +kernel
theorem dX3_write_32 : decode cX3_write 32 = .ok (.iload_n 3, 1) := by decide +kernel
theorem dX3_write_33 : decode cX3_write 33 = .ok (.aload_n 0, 1) := by decide +kernel
theorem dX3_write_34 : decode cX3_write 34 = .ok (.getfield 9, 3) := by decide +kernel
theorem dX3_write_37 : decode cX3_write 37 = .ok (.iload_n 1, 1) := by decide +kernel
theorem dX3_write_38 : decode cX3_write 38 = .ok (.iaload, 1) := by decide +kernel
theorem dX3_write_39 : decode cX3_write 39 = .ok (.i2b, 1) := by decide +kernel
theorem dX3_write_40 : decode cX3_write 40 = .ok (.bastore, 1) := by decide +kernel
theorem dX3_write_41 : decode cX3_write 41 = .ok (.aload_n 2, 1) := by decide +kernel
theorem dX3_write_42 : decode cX3_write 42 = .ok (.iload_n 3, 1) := by decide +kernel
theorem dX3_write_43 : decode cX3_write 43 = .ok (.iconst 1, 1) := by decide +kernel
theorem dX3_write_44 : decode cX3_write 44 = .ok (.iadd, 1) := by decide +kernel
theorem dX3_write_45 : decode cX3_write 45 = .ok (.aload_n 0, 1) := by decide +kernel
theorem dX3_write_46 : decode cX3_write 46 = .ok (.getfield 15, 3) := by decide +kernel
theorem dX3_write_49 : decode cX3_write 49 = .ok (.iload_n 1, 1) := by decide +kernel
theorem dX3_write_50 : decode cX3_write 50 = .ok (.iaload, 1) := by decide +kernel
theorem dX3_write_51 : decode cX3_write 51 = .ok (.i2b, 1) := by decide +kernel
theorem dX3_write_52 : decode cX3_write 52 = .ok (.bastore, 1) := by decide +kernel
theorem dX3_write_53 : decode cX3_write 53 = .ok (.aload_n 2, 1) := by decide +kernel
theorem dX3_write_54 : decode cX3_write 54 = .ok (.iload_n 3, 1) := by decide +kernel
theorem dX3_write_55 : decode cX3_write 55 = .ok (.iconst 2, 1) := by decide +kernel
theorem dX3_write_56 : decode cX3_write 56 = .ok (.iadd, 1) := by decide +kernel
theorem dX3_write_57 : decode cX3_write 57 = .ok (.iload 5, 2) := by decide +kernel
theorem dX3_write_59 : decode cX3_write 59 = .ok (.i2b, 1) := by decide +kernel
theorem dX3_write_60 : decode cX3_write 60 = .ok (.bastore, 1) := by decide +kernel
theorem dX3_write_61 : decode cX3_write 61 = .ok (.iconst 0, 1) := by decide +kernel
theorem dX3_write_62 : decode cX3_write 62 = .ok (.istore 6, 2) := by decide +kernel
theorem dX3_write_64 : decode cX3_write 64 = .ok (.iload 6, 2) := by decide +kernel
theorem dX3_write_66 : decode cX3_write 66 = .ok (.iload 5, 2) := by decide +kernel
theorem dX3_write_68 : decode cX3_write 68 = .ok (.if_icmp .ge 25, 3) := by decide +kernel
theorem dX3_write_71 : decode cX3_write 71 = .ok (.aload_n 2, 1) := by decide +kernel
theorem dX3_write_72 : decode cX3_write 72 = .ok (.iload_n 3, 1) := by decide +kernel
theorem dX3_write_73 : decode cX3_write 73 = .ok (.iconst 3, 1) := by decide +kernel
theorem dX3_write_74 : decode cX3_write 74 = .ok (.iadd, 1) := by decide +kernel
theorem dX3_write_75 : decode cX3_write 75 = .ok (.iload 6, 2) := by decide +kernel
theorem dX3_write_77 : decode cX3_write 77 = .ok (.iadd, 1) := by decide +kernel
theorem dX3_write_78 : decode cX3_write 78 = .ok (.aload_n 0, 1) := by decide +kernel
theorem dX3_write_79 : decode cX3_write 79 = .ok (.iload_n 1, 1) := by decide +kernel
theorem dX3_write_80 : decode cX3_write 80 = .ok (.iload 6, 2) := by decide +kernel
theorem dX3_write_82 : decode cX3_write 82 = .ok (.invokevirtual 67, 3) := by decide +kernel
theorem dX3_write_85 : decode cX3_write 85 = .ok (.i2b, 1) := by decide +kernel
theorem dX3_write_86 : decode cX3_write 86 = .ok (.bastore, 1) := by decide +kernel
theorem dX3_write_87 : decode cX3_write 87 = .ok (.iinc 6 1, 3) := by decide +kernel
theorem dX3_write_90 : decode cX3_write 90 = .ok (.goto (-26), 3) := by decide +kernel
theorem dX3_write_93 : decode cX3_write 93 = .ok (.aload_n 2, 1) := by decide +kernel
theorem dX3_write_94 : decode cX3_write 94 = .ok (.iload_n 3, 1) := by decide +kernel
theorem dX3_write_95 : decode cX3_write 95 = .ok (.bipush 16, 2) := by decide +kernel
theorem dX3_write_97 : decode cX3_write 97 = .ok (.iadd, 1) := by decide +kernel
theorem dX3_write_98 : decode cX3_write 98 = .ok (.bipush 8, 2) := by decide +kernel
theorem dX3_write_100 : decode cX3_write 100 = .ok (.aload_n 0, 1) := by decide +kernel
theorem dX3_write_101 : decode cX3_write 101 = .ok (.getfield 24, 3) := by decide +kernel
theorem dX3_write_104 : decode cX3_write 104 = .ok (.iload_n 1, 1) := by decide +kernel
theorem dX3_write_105 : decode cX3_write 105 = .ok (.laload, 1) := by decide +kernel
theorem dX3_write_106 : decode cX3_write 106 = .ok (.invokestatic 71, 3) := by decide +kernel
theorem dX3_write_109 : decode cX3_write 109 = .ok (.aload_n 2, 1) := by decide +kernel
theorem dX3_write_110 : decode cX3_write 110 = .ok (.iload_n 3, 1) := by decide +kernel
theorem dX3_write_111 : decode cX3_write 111 = .ok (.bipush 28, 2) := by decide +kernel
theorem dX3_write_113 : decode cX3_write 113 = .ok (.iload 4, 2) := by decide +kernel
theorem dX3_write_115 : decode cX3_write 115 = .ok (.invokestatic 77, 3) := by decide +kernel
theorem dX3_write_118 : decode cX3_write 118 = .ok (.return_, 1) := by decide +kernel
theorem dX0_waiting_0 : decode cX0_waiting 0 = .ok (.aload_n 0, 1) := by decide +kernel
theorem dX0_waiting_1 : decode cX0_waiting 1 = .ok (.getfield 27, 3) := by decide +kernel
theorem dX0_waiting_4 : decode cX0_waiting 4 = .ok (.ireturn, 1) := by decide +kernel
theorem dX0_latestWrite_0 : decode cX0_latestWrite 0 = .ok (.aload_n 0, 1) := by decide +kernel
theorem dX0_latestWrite_1 : decode cX0_latestWrite 1 = .ok (.getfield 27, 3) := by decide +kernel
theorem dX0_latestWrite_4 : decode cX0_latestWrite 4 = .ok (.iconst 1, 1) := by decide +kernel
theorem dX0_latestWrite_5 : decode cX0_latestWrite 5 = .ok (.isub, 1) := by decide +kernel
theorem dX0_latestWrite_6 : decode cX0_latestWrite 6 = .ok (.istore_n 2, 1) := by decide +kernel
theorem dX0_latestWrite_7 : decode cX0_latestWrite 7 = .ok (.iload_n 2, 1) := by decide +kernel
theorem dX0_latestWrite_8 : decode cX0_latestWrite 8 = .ok (.ifCond .lt 21, 3) := by decide +kernel
theorem dX0_latestWrite_11 : decode cX0_latestWrite 11 = .ok (.aload_n 0, 1) := by decide +kernel
theorem dX0_latestWrite_12 : decode cX0_latestWrite 12 = .ok (.getfield 23, 3) := by decide +kernel
theorem dX0_latestWrite_15 : decode cX0_latestWrite 15 = .ok (.iload_n 2, 1) := by decide +kernel
theorem dX0_latestWrite_16 : decode cX0_latestWrite 16 = .ok (.iaload, 1) := by decide +kernel
theorem dX0_latestWrite_17 : decode cX0_latestWrite 17 = .ok (.iload_n 1, 1) := by decide +kernel
theorem dX0_latestWrite_18 : decode cX0_latestWrite 18 = .ok (.if_icmp .ne 5, 3) := by decide +kernel
theorem dX0_latestWrite_21 : decode cX0_latestWrite 21 = .ok (.iload_n 2, 1) := by decide +kernel
theorem dX0_latestWrite_22 : decode cX0_latestWrite 22 = .ok (.ireturn, 1) := by decide +kernel
theorem dX0_latestWrite_23 : decode cX0_latestWrite 23 = .ok (.iinc 2 (-1), 3) := by decide +kernel
theorem dX0_latestWrite_26 : decode cX0_latestWrite 26 = .ok (.goto (-19), 3) := by decide +kernel
theorem dX0_latestWrite_29 : decode cX0_latestWrite 29 = .ok (.iconst (-1), 1) := by decide +kernel
theorem dX0_latestWrite_30 : decode cX0_latestWrite 30 = .ok (.ireturn, 1) := by decide +kernel
theorem dX0_waitAsItWillBe_0 : decode cX0_waitAsItWillBe 0 = .ok (.aload_n 0, 1) := by decide +kernel
theorem dX0_waitAsItWillBe_1 : decode cX0_waitAsItWillBe 1 = .ok (.getfield 27, 3) := by decide +kernel
theorem dX0_waitAsItWillBe_4 : decode cX0_waitAsItWillBe 4 = .ok (.bipush 64, 2) := by decide +kernel
theorem dX0_waitAsItWillBe_6 : decode cX0_waitAsItWillBe 6 = .ok (.if_icmp .lt 11, 3) := by decide +kernel
theorem dX0_waitAsItWillBe_9 : decode cX0_waitAsItWillBe 9 = .ok (.aload_n 0, 1) := by decide +kernel
theorem dX0_waitAsItWillBe_10 : decode cX0_waitAsItWillBe 10 = .ok (.bipush 64, 2) := by decide +kernel
theorem dX0_waitAsItWillBe_12 : decode cX0_waitAsItWillBe 12 = .ok (.iconst 0, 1) := by decide +kernel
theorem dX0_waitAsItWillBe_13 : decode cX0_waitAsItWillBe 13 = .ok (.invokevirtual 30, 3) := by decide +kernel
theorem dX0_waitAsItWillBe_16 : decode cX0_waitAsItWillBe 16 = .ok (.pop, 1) := by decide +kernel
theorem dX0_waitAsItWillBe_17 : decode cX0_waitAsItWillBe 17 = .ok (.aload_n 0, 1) := by decide +kernel
theorem dX0_waitAsItWillBe_18 : decode cX0_waitAsItWillBe 18 = .ok (.getfield 27, 3) := by decide +kernel
theorem dX0_waitAsItWillBe_21 : decode cX0_waitAsItWillBe 21 = .ok (.sipush 512, 3) := by decide +kernel
theorem dX0_waitAsItWillBe_24 : decode cX0_waitAsItWillBe 24 = .ok (.imul, 1) := by decide +kernel
theorem dX0_waitAsItWillBe_25 : decode cX0_waitAsItWillBe 25 = .ok (.istore_n 2, 1) := by decide +kernel
theorem dX0_waitAsItWillBe_26 : decode cX0_waitAsItWillBe 26 = .ok (.aload_n 0, 1) := by decide +kernel
theorem dX0_waitAsItWillBe_27 : decode cX0_waitAsItWillBe 27 = .ok (.iload_n 1, 1) := by decide +kernel
theorem dX0_waitAsItWillBe_28 : decode cX0_waitAsItWillBe 28 = .ok (.invokevirtual 38, 3) := by decide +kernel
theorem dX0_waitAsItWillBe_31 : decode cX0_waitAsItWillBe 31 = .ok (.istore_n 3, 1) := by decide +kernel
theorem dX0_waitAsItWillBe_32 : decode cX0_waitAsItWillBe 32 = .ok (.iload_n 3, 1) := by decide +kernel
theorem dX0_waitAsItWillBe_33 : decode cX0_waitAsItWillBe 33 = .ok (.iconst (-1), 1) := by decide +kernel
theorem dX0_waitAsItWillBe_34 : decode cX0_waitAsItWillBe 34 = .ok (.if_icmp .ne 26, 3) := by decide +kernel
theorem dX0_waitAsItWillBe_37 : decode cX0_waitAsItWillBe 37 = .ok (.aload_n 0, 1) := by decide +kernel
theorem dX0_waitAsItWillBe_38 : decode cX0_waitAsItWillBe 38 = .ok (.getfield 15, 3) := by decide +kernel
theorem dX0_waitAsItWillBe_41 : decode cX0_waitAsItWillBe 41 = .ok (.iload_n 1, 1) := by decide +kernel
theorem dX0_waitAsItWillBe_42 : decode cX0_waitAsItWillBe 42 = .ok (.sipush 512, 3) := by decide +kernel
theorem dX0_waitAsItWillBe_45 : decode cX0_waitAsItWillBe 45 = .ok (.imul, 1) := by decide +kernel
theorem dX0_waitAsItWillBe_46 : decode cX0_waitAsItWillBe 46 = .ok (.aload_n 0, 1) := by decide +kernel
theorem dX0_waitAsItWillBe_47 : decode cX0_waitAsItWillBe 47 = .ok (.getfield 20, 3) := by decide +kernel
theorem dX0_waitAsItWillBe_50 : decode cX0_waitAsItWillBe 50 = .ok (.iload_n 2, 1) := by decide +kernel
theorem dX0_waitAsItWillBe_51 : decode cX0_waitAsItWillBe 51 = .ok (.sipush 512, 3) := by decide +kernel
theorem dX0_waitAsItWillBe_54 : decode cX0_waitAsItWillBe 54 = .ok (.invokestatic 41, 3) := by decide +kernel
theorem dX0_waitAsItWillBe_57 : decode cX0_waitAsItWillBe 57 = .ok (.goto 23, 3) := by decide +kernel
theorem dX0_waitAsItWillBe_60 : decode cX0_waitAsItWillBe 60 = .ok (.aload_n 0, 1) := by decide +kernel
theorem dX0_waitAsItWillBe_61 : decode cX0_waitAsItWillBe 61 = .ok (.getfield 20, 3) := by decide +kernel
theorem dX0_waitAsItWillBe_64 : decode cX0_waitAsItWillBe 64 = .ok (.iload_n 3, 1) := by decide +kernel
theorem dX0_waitAsItWillBe_65 : decode cX0_waitAsItWillBe 65 = .ok (.sipush 512, 3) := by decide +kernel
theorem dX0_waitAsItWillBe_68 : decode cX0_waitAsItWillBe 68 = .ok (.imul, 1) := by decide +kernel
theorem dX0_waitAsItWillBe_69 : decode cX0_waitAsItWillBe 69 = .ok (.aload_n 0, 1) := by decide +kernel
theorem dX0_waitAsItWillBe_70 : decode cX0_waitAsItWillBe 70 = .ok (.getfield 20, 3) := by decide +kernel
theorem dX0_waitAsItWillBe_73 : decode cX0_waitAsItWillBe 73 = .ok (.iload_n 2, 1) := by decide +kernel
theorem dX0_waitAsItWillBe_74 : decode cX0_waitAsItWillBe 74 = .ok (.sipush 512, 3) := by decide +kernel
theorem dX0_waitAsItWillBe_77 : decode cX0_waitAsItWillBe 77 = .ok (.invokestatic 41, 3) := by decide +kernel
theorem dX0_waitAsItWillBe_80 : decode cX0_waitAsItWillBe 80 = .ok (.aload_n 0, 1) := by decide +kernel
theorem dX0_waitAsItWillBe_81 : decode cX0_waitAsItWillBe 81 = .ok (.iload_n 1, 1) := by decide +kernel
theorem dX0_waitAsItWillBe_82 : decode cX0_waitAsItWillBe 82 = .ok (.invokevirtual 34, 3) := by decide +kernel
theorem dX0_waitAsItWillBe_85 : decode cX0_waitAsItWillBe 85 = .ok (.ireturn, 1) := by decide +kernel
theorem dX1_editionAt_0 : decode cX1_editionAt 0 = .ok (.aload_n 0, 1) := by decide +kernel
theorem dX1_editionAt_1 : decode cX1_editionAt 1 = .ok (.iload_n 1, 1) := by decide +kernel
theorem dX1_editionAt_2 : decode cX1_editionAt 2 = .ok (.sipush 512, 3) := by decide +kernel
theorem dX1_editionAt_5 : decode cX1_editionAt 5 = .ok (.imul, 1) := by decide +kernel
theorem dX1_editionAt_6 : decode cX1_editionAt 6 = .ok (.iconst 4, 1) := by decide +kernel
theorem dX1_editionAt_7 : decode cX1_editionAt 7 = .ok (.invokestatic 19, 3) := by decide +kernel
theorem dX1_editionAt_10 : decode cX1_editionAt 10 = .ok (.lreturn, 1) := by decide +kernel
theorem dX4_has_0 : decode cX4_has 0 = .ok (.aload_n 0, 1) := by decide +kernel
theorem dX4_has_1 : decode cX4_has 1 = .ok (.getfield 9, 3) := by decide +kernel
theorem dX4_has_4 : decode cX4_has 4 = .ok (.iload_n 1, 1) := by decide +kernel
theorem dX4_has_5 : decode cX4_has 5 = .ok (.baload, 1) := by decide +kernel
theorem dX4_has_6 : decode cX4_has 6 = .ok (.ireturn, 1) := by decide +kernel
theorem dX4_digestOf_0 : decode cX4_digestOf 0 = .ok (.aload_n 0, 1) := by decide +kernel
theorem dX4_digestOf_1 : decode cX4_digestOf 1 = .ok (.getfield 15, 3) := by decide +kernel
theorem dX4_digestOf_4 : decode cX4_digestOf 4 = .ok (.iload_n 1, 1) := by decide +kernel
theorem dX4_digestOf_5 : decode cX4_digestOf 5 = .ok (.laload, 1) := by decide +kernel
theorem dX4_digestOf_6 : decode cX4_digestOf 6 = .ok (.lreturn, 1) := by decide +kernel
theorem dX4_count_0 : decode cX4_count 0 = .ok (.iconst 0, 1) := by decide +kernel
theorem dX4_count_1 : decode cX4_count 1 = .ok (.istore_n 1, 1) := by decide +kernel
theorem dX4_count_2 : decode cX4_count 2 = .ok (.iconst 0, 1) := by decide +kernel
theorem dX4_count_3 : decode cX4_count 3 = .ok (.istore_n 2, 1) := by decide +kernel
theorem dX4_count_4 : decode cX4_count 4 = .ok (.iload_n 2, 1) := by decide +kernel
theorem dX4_count_5 : decode cX4_count 5 = .ok (.bipush 64, 2) := by decide +kernel
theorem dX4_count_7 : decode cX4_count 7 = .ok (.if_icmp .ge 21, 3) := by decide +kernel
theorem dX4_count_10 : decode cX4_count 10 = .ok (.aload_n 0, 1) := by decide +kernel
theorem dX4_count_11 : decode cX4_count 11 = .ok (.getfield 9, 3) := by decide +kernel
theorem dX4_count_14 : decode cX4_count 14 = .ok (.iload_n 2, 1) := by decide +kernel
theorem dX4_count_15 : decode cX4_count 15 = .ok (.baload, 1) := by decide +kernel
theorem dX4_count_16 : decode cX4_count 16 = .ok (.ifCond .eq 6, 3) := by decide +kernel
theorem dX4_count_19 : decode cX4_count 19 = .ok (.iinc 1 1, 3) := by decide +kernel
theorem dX4_count_22 : decode cX4_count 22 = .ok (.iinc 2 1, 3) := by decide +kernel
theorem dX4_count_25 : decode cX4_count 25 = .ok (.goto (-21), 3) := by decide +kernel
theorem dX4_count_28 : decode cX4_count 28 = .ok (.iload_n 1, 1) := by decide +kernel
theorem dX4_count_29 : decode cX4_count 29 = .ok (.ireturn, 1) := by decide +kernel
theorem dX4_put_0 : decode cX4_put 0 = .ok (.aload_n 0, 1) := by decide +kernel
theorem dX4_put_1 : decode cX4_put 1 = .ok (.getfield 9, 3) := by decide +kernel
theorem dX4_put_4 : decode cX4_put 4 = .ok (.iload_n 1, 1) := by decide +kernel
theorem dX4_put_5 : decode cX4_put 5 = .ok (.iconst 1, 1) := by decide +kernel
theorem dX4_put_6 : decode cX4_put 6 = .ok (.bastore, 1) := by decide +kernel
theorem dX4_put_7 : decode cX4_put 7 = .ok (.aload_n 0, 1) := by decide +kernel
theorem dX4_put_8 : decode cX4_put 8 = .ok (.getfield 15, 3) := by decide +kernel
theorem dX4_put_11 : decode cX4_put 11 = .ok (.iload_n 1, 1) := by decide +kernel
theorem dX4_put_12 : decode cX4_put 12 = .ok (.lload_n 2, 1) := by decide +kernel
theorem dX4_put_13 : decode cX4_put 13 = .ok (.lastore, 1) := by decide +kernel
theorem dX4_put_14 : decode cX4_put 14 = .ok (.return_, 1) := by decide +kernel
theorem dX4_forget_0 : decode cX4_forget 0 = .ok (.aload_n 0, 1) := by decide +kernel
theorem dX4_forget_1 : decode cX4_forget 1 = .ok (.getfield 9, 3) := by decide +kernel
theorem dX4_forget_4 : decode cX4_forget 4 = .ok (.iload_n 1, 1) := by decide +kernel
theorem dX4_forget_5 : decode cX4_forget 5 = .ok (.iconst 0, 1) := by decide +kernel
theorem dX4_forget_6 : decode cX4_forget 6 = .ok (.bastore, 1) := by decide +kernel
theorem dX4_forget_7 : decode cX4_forget 7 = .ok (.return_, 1) := by decide +kernel
theorem dX4_forgetAll_0 : decode cX4_forgetAll 0 = .ok (.iconst 0, 1) := by decide +kernel
theorem dX4_forgetAll_1 : decode cX4_forgetAll 1 = .ok (.istore_n 1, 1) := by decide +kernel
theorem dX4_forgetAll_2 : decode cX4_forgetAll 2 = .ok (.iload_n 1, 1) := by decide +kernel
theorem dX4_forgetAll_3 : decode cX4_forgetAll 3 = .ok (.bipush 64, 2) := by decide +kernel
theorem dX4_forgetAll_5 : decode cX4_forgetAll 5 = .ok (.if_icmp .ge 16, 3) := by decide +kernel
theorem dX4_forgetAll_8 : decode cX4_forgetAll 8 = .ok (.aload_n 0, 1) := by decide +kernel
theorem dX4_forgetAll_9 : decode cX4_forgetAll 9 = .ok (.getfield 9, 3) := by decide +kernel
theorem dX4_forgetAll_12 : decode cX4_forgetAll 12 = .ok (.iload_n 1, 1) := by decide +kernel
theorem dX4_forgetAll_13 : decode cX4_forgetAll 13 = .ok (.iconst 0, 1) := by decide +kernel
theorem dX4_forgetAll_14 : decode cX4_forgetAll 14 = .ok (.bastore, 1) := by decide +kernel
theorem dX4_forgetAll_15 : decode cX4_forgetAll 15 = .ok (.iinc 1 1, 3) := by decide +kernel
theorem dX4_forgetAll_18 : decode cX4_forgetAll 18 = .ok (.goto (-16), 3) := by decide +kernel
theorem dX4_forgetAll_21 : decode cX4_forgetAll 21 = .ok (.return_, 1) := by decide +kernel
theorem dX5_fitsEdition_0 : decode cX5_fitsEdition 0 = .ok (.lload_n 1, 1) := by decide +kernel
theorem dX5_fitsEdition_1 : decode cX5_fitsEdition 1 = .ok (.aload_n 0, 1) := by decide +kernel
theorem dX5_fitsEdition_2 : decode cX5_fitsEdition 2 = .ok (.getfield 52, 3) := by decide +kernel
theorem dX5_fitsEdition_5 : decode cX5_fitsEdition 5 = .ok (.i2l, 1) := by decide +kernel
theorem dX5_fitsEdition_6 : decode cX5_fitsEdition 6 = .ok (.lcmp, 1) := by decide +kernel
theorem dX5_fitsEdition_7 : decode cX5_fitsEdition 7 = .ok (.ifCond .eq 15, 3) := by decide +kernel
theorem dX5_fitsEdition_10 : decode cX5_fitsEdition 10 = .ok (.lload_n 1, 1) := by decide +kernel
theorem dX5_fitsEdition_11 : decode cX5_fitsEdition 11 = .ok (.aload_n 0, 1) := by decide +kernel
theorem dX5_fitsEdition_12 : decode cX5_fitsEdition 12 = .ok (.getfield 52, 3) := by decide +kernel
theorem dX5_fitsEdition_15 : decode cX5_fitsEdition 15 = .ok (.iconst 1, 1) := by decide +kernel
theorem dX5_fitsEdition_16 : decode cX5_fitsEdition 16 = .ok (.isub, 1) := by decide +kernel
theorem dX5_fitsEdition_17 : decode cX5_fitsEdition 17 = .ok (.i2l, 1) := by decide +kernel
theorem dX5_fitsEdition_18 : decode cX5_fitsEdition 18 = .ok (.lcmp, 1) := by decide +kernel
theorem dX5_fitsEdition_19 : decode cX5_fitsEdition 19 = .ok (.ifCond .ne 7, 3) := by decide +kernel
theorem dX5_fitsEdition_22 : decode cX5_fitsEdition 22 = .ok (.iconst 1, 1) := by decide +kernel
theorem dX5_fitsEdition_23 : decode cX5_fitsEdition 23 = .ok (.goto 4, 3) := by decide +kernel
theorem dX5_fitsEdition_26 : decode cX5_fitsEdition 26 = .ok (.iconst 0, 1) := by decide +kernel
theorem dX5_fitsEdition_27 : decode cX5_fitsEdition 27 = .ok (.ireturn, 1) := by decide +kernel
theorem dX5_writeRow_0 : decode cX5_writeRow 0 = .ok (.aload_n 0, 1) := by decide +kernel
theorem dX5_writeRow_1 : decode cX5_writeRow 1 = .ok (.getfield 27, 3) := by decide +kernel
theorem dX5_writeRow_4 : decode cX5_writeRow 4 = .ok (.aload_n 0, 1) := by decide +kernel
theorem dX5_writeRow_5 : decode cX5_writeRow 5 = .ok (.iload_n 2, 1) := by decide +kernel
theorem dX5_writeRow_6 : decode cX5_writeRow 6 = .ok (.invokevirtual 211, 3) := by decide +kernel
theorem dX5_writeRow_9 : decode cX5_writeRow 9 = .ok (.iload_n 3, 1) := by decide +kernel
theorem dX5_writeRow_10 : decode cX5_writeRow 10 = .ok (.bipush 16, 2) := by decide +kernel
theorem dX5_writeRow_12 : decode cX5_writeRow 12 = .ok (.idiv, 1) := by decide +kernel
theorem dX5_writeRow_13 : decode cX5_writeRow 13 = .ok (.iadd, 1) := by decide +kernel
theorem dX5_writeRow_14 : decode cX5_writeRow 14 = .ok (.invokevirtual 237, 3) := by decide +kernel
theorem dX5_writeRow_17 : decode cX5_writeRow 17 = .ok (.istore 4, 2) := by decide +kernel
theorem dX5_writeRow_19 : decode cX5_writeRow 19 = .ok (.aload_n 0, 1) := by decide +kernel
theorem dX5_writeRow_20 : decode cX5_writeRow 20 = .ok (.getfield 34, 3) := by decide +kernel
theorem dX5_writeRow_23 : decode cX5_writeRow 23 = .ok (.iload_n 1, 1) := by decide +kernel
theorem dX5_writeRow_24 : decode cX5_writeRow 24 = .ok (.aload_n 0, 1) := by decide +kernel
theorem dX5_writeRow_25 : decode cX5_writeRow 25 = .ok (.getfield 27, 3) := by decide +kernel
theorem dX5_writeRow_28 : decode cX5_writeRow 28 = .ok (.getfield 224, 3) := by decide +kernel
theorem dX5_writeRow_31 : decode cX5_writeRow 31 = .ok (.iload 4, 2) := by decide +kernel
theorem dX5_writeRow_33 : decode cX5_writeRow 33 = .ok (.iload_n 3, 1) := by decide +kernel
theorem dX5_writeRow_34 : decode cX5_writeRow 34 = .ok (.bipush 16, 2) := by decide +kernel
theorem dX5_writeRow_36 : decode cX5_writeRow 36 = .ok (.irem, 1) := by decide +kernel
theorem dX5_writeRow_37 : decode cX5_writeRow 37 = .ok (.bipush 32, 2) := by decide +kernel
theorem dX5_writeRow_39 : decode cX5_writeRow 39 = .ok (.imul, 1) := by decide +kernel
theorem dX5_writeRow_40 : decode cX5_writeRow 40 = .ok (.iadd, 1) := by decide +kernel
theorem dX5_writeRow_41 : decode cX5_writeRow 41 = .ok (.iload_n 3, 1) := by decide +kernel
theorem dX5_writeRow_42 : decode cX5_writeRow 42 = .ok (.invokevirtual 240, 3) := by decide +kernel
theorem dX5_writeRow_45 : decode cX5_writeRow 45 = .ok (.return_, 1) := by decide +kernel
theorem dX5_keep_0 : decode cX5_keep 0 = .ok (.aload_n 0, 1) := by decide +kernel
theorem dX5_keep_1 : decode cX5_keep 1 = .ok (.getfield 34, 3) := by decide +kernel
theorem dX5_keep_4 : decode cX5_keep 4 = .ok (.invokevirtual 231, 3) := by decide +kernel
theorem dX5_keep_7 : decode cX5_keep 7 = .ok (.ifCond .eq 5, 3) := by decide +kernel
theorem dX5_keep_10 : decode cX5_keep 10 = .ok (.iconst (-1), 1) := by decide +kernel
theorem dX5_keep_11 : decode cX5_keep 11 = .ok (.ireturn, 1) := by decide +kernel
theorem dX5_keep_12 : decode cX5_keep 12 = .ok (.aload_n 0, 1) := by decide +kernel
theorem dX5_keep_13 : decode cX5_keep 13 = .ok (.getfield 34, 3) := by decide +kernel
theorem dX5_keep_16 : decode cX5_keep 16 = .ok (.iload_n 1, 1) := by decide +kernel
theorem dX5_keep_17 : decode cX5_keep 17 = .ok (.iload_n 2, 1) := by decide +kernel
theorem dX5_keep_18 : decode cX5_keep 18 = .ok (.lload_n 3, 1) := by decide +kernel
theorem dX5_keep_19 : decode cX5_keep 19 = .ok (.invokevirtual 234, 3) := by decide +kernel
theorem dX5_keep_22 : decode cX5_keep 22 = .ok (.istore 5, 2) := by decide +kernel
theorem dX5_keep_24 : decode cX5_keep 24 = .ok (.aload_n 0, 1) := by decide +kernel
theorem dX5_keep_25 : decode cX5_keep 25 = .ok (.iload 5, 2) := by decide +kernel
theorem dX5_keep_27 : decode cX5_keep 27 = .ok (.aload_n 0, 1) := by decide +kernel
theorem dX5_keep_28 : decode cX5_keep 28 = .ok (.getfield 128, 3) := by decide +kernel
theorem dX5_keep_31 : decode cX5_keep 31 = .ok (.iload 5, 2) := by decide +kernel
theorem dX5_keep_33 : decode cX5_keep 33 = .ok (.invokevirtual 131, 3) := by decide +kernel
theorem dX5_keep_36 : decode cX5_keep 36 = .ok (.iload 5, 2) := by decide +kernel
theorem dX5_keep_38 : decode cX5_keep 38 = .ok (.ireturn, 1) := by decide +kernel
theorem dX5_allAskedAhead_0 : decode cX5_allAskedAhead 0 = .ok (.aload_n 0, 1) := by decide +kernel
theorem dX5_allAskedAhead_1 : decode cX5_allAskedAhead 1 = .ok (.getfield 34, 3) := by decide +kernel
theorem dX5_allAskedAhead_4 : decode cX5_allAskedAhead 4 = .ok (.iload_n 1, 1) := by decide +kernel
theorem dX5_allAskedAhead_5 : decode cX5_allAskedAhead 5 = .ok (.invokevirtual 121, 3) := by decide +kernel
theorem dX5_allAskedAhead_8 : decode cX5_allAskedAhead 8 = .ok (.istore_n 2, 1) := by decide +kernel
theorem dX5_allAskedAhead_9 : decode cX5_allAskedAhead 9 = .ok (.iconst 0, 1) := by decide +kernel
theorem dX5_allAskedAhead_10 : decode cX5_allAskedAhead 10 = .ok (.istore_n 3, 1) := by decide +kernel
theorem dX5_allAskedAhead_11 : decode cX5_allAskedAhead 11 = .ok (.iload_n 3, 1) := by decide +kernel
theorem dX5_allAskedAhead_12 : decode cX5_allAskedAhead 12 = .ok (.iload_n 2, 1) := by decide +kernel
theorem dX5_allAskedAhead_13 : decode cX5_allAskedAhead 13 = .ok (.if_icmp .ge 57, 3) := by decide +kernel
theorem dX5_allAskedAhead_16 : decode cX5_allAskedAhead 16 = .ok (.aload_n 0, 1) := by decide +kernel
theorem dX5_allAskedAhead_17 : decode cX5_allAskedAhead 17 = .ok (.getfield 34, 3) := by decide +kernel
theorem dX5_allAskedAhead_20 : decode cX5_allAskedAhead 20 = .ok (.iload_n 1, 1) := by decide +kernel
theorem dX5_allAskedAhead_21 : decode cX5_allAskedAhead 21 = .ok (.iload_n 3, 1) := by decide +kernel
theorem dX5_allAskedAhead_22 : decode cX5_allAskedAhead 22 = .ok (.invokevirtual 158, 3) := by decide +kernel
theorem dX5_allAskedAhead_25 : decode cX5_allAskedAhead 25 = .ok (.istore 4, 2) := by decide +kernel
theorem dX5_allAskedAhead_27 : decode cX5_allAskedAhead 27 = .ok (.aload_n 0, 1) := by decide +kernel
theorem dX5_allAskedAhead_28 : decode cX5_allAskedAhead 28 = .ok (.getfield 34, 3) := by decide +kernel
theorem dX5_allAskedAhead_31 : decode cX5_allAskedAhead 31 = .ok (.iload 4, 2) := by decide +kernel
theorem dX5_allAskedAhead_33 : decode cX5_allAskedAhead 33 = .ok (.invokevirtual 152, 3) := by decide +kernel
theorem dX5_allAskedAhead_36 : decode cX5_allAskedAhead 36 = .ok (.istore 5, 2) := by decide +kernel
theorem dX5_allAskedAhead_38 : decode cX5_allAskedAhead 38 = .ok (.iload 5, 2) := by decide +kernel
theorem dX5_allAskedAhead_40 : decode cX5_allAskedAhead 40 = .ok (.iconst (-1), 1) := by decide +kernel
theorem dX5_allAskedAhead_41 : decode cX5_allAskedAhead 41 = .ok (.if_icmp .eq 21, 3) := by decide +kernel
theorem dX5_allAskedAhead_44 : decode cX5_allAskedAhead 44 = .ok (.iload 5, 2) := by decide +kernel
theorem dX5_allAskedAhead_46 : decode cX5_allAskedAhead 46 = .ok (.iload_n 1, 1) := by decide +kernel
theorem dX5_allAskedAhead_47 : decode cX5_allAskedAhead 47 = .ok (.if_icmp .ge 15, 3) := by decide +kernel
theorem dX5_allAskedAhead_50 : decode cX5_allAskedAhead 50 = .ok (.aload_n 0, 1) := by decide +kernel
theorem dX5_allAskedAhead_51 : decode cX5_allAskedAhead 51 = .ok (.getfield 41, 3) := by decide +kernel
theorem dX5_allAskedAhead_54 : decode cX5_allAskedAhead 54 = .ok (.iload 4, 2) := by decide +kernel
theorem dX5_allAskedAhead_56 : decode cX5_allAskedAhead 56 = .ok (.invokevirtual 145, 3) := by decide +kernel
theorem dX5_allAskedAhead_59 : decode cX5_allAskedAhead 59 = .ok (.ifCond .eq 5, 3) := by decide +kernel
theorem dX5_allAskedAhead_62 : decode cX5_allAskedAhead 62 = .ok (.iconst 0, 1) := by decide +kernel
theorem dX5_allAskedAhead_63 : decode cX5_allAskedAhead 63 = .ok (.ireturn, 1) := by decide +kernel
theorem dX5_allAskedAhead_64 : decode cX5_allAskedAhead 64 = .ok (.iinc 3 1, 3) := by decide +kernel
theorem dX5_allAskedAhead_67 : decode cX5_allAskedAhead 67 = .ok (.goto (-56), 3) := by decide +kernel
theorem dX5_allAskedAhead_70 : decode cX5_allAskedAhead 70 = .ok (.iconst 1, 1) := by decide +kernel
theorem dX5_allAskedAhead_71 : decode cX5_allAskedAhead 71 = .ok (.ireturn, 1) := by decide +kernel
theorem dX5_beginEmpty_0 : decode cX5_beginEmpty 0 = .ok (.aload_n 0, 1) := by decide +kernel
theorem dX5_beginEmpty_1 : decode cX5_beginEmpty 1 = .ok (.iconst 0, 1) := by decide +kernel
theorem dX5_beginEmpty_2 : decode cX5_beginEmpty 2 = .ok (.putfield 195, 3) := by decide +kernel
theorem dX5_beginEmpty_5 : decode cX5_beginEmpty 5 = .ok (.aload_n 0, 1) := by decide +kernel
theorem dX5_beginEmpty_6 : decode cX5_beginEmpty 6 = .ok (.iconst 0, 1) := by decide +kernel
theorem dX5_beginEmpty_7 : decode cX5_beginEmpty 7 = .ok (.putfield 128, 3) := by decide +kernel
theorem dX5_beginEmpty_10 : decode cX5_beginEmpty 10 = .ok (.aload_n 0, 1) := by decide +kernel
theorem dX5_beginEmpty_11 : decode cX5_beginEmpty 11 = .ok (.getfield 34, 3) := by decide +kernel
theorem dX5_beginEmpty_14 : decode cX5_beginEmpty 14 = .ok (.invokevirtual 198, 3) := by decide +kernel
theorem dX5_beginEmpty_17 : decode cX5_beginEmpty 17 = .ok (.aload_n 0, 1) := by decide +kernel
theorem dX5_beginEmpty_18 : decode cX5_beginEmpty 18 = .ok (.iconst 0, 1) := by decide +kernel
theorem dX5_beginEmpty_19 : decode cX5_beginEmpty 19 = .ok (.invokevirtual 201, 3) := by decide +kernel
theorem dX5_beginEmpty_22 : decode cX5_beginEmpty 22 = .ok (.return_, 1) := by decide +kernel
theorem dX5_beginBy_0 : decode cX5_beginBy 0 = .ok (.aload_n 0, 1) := by decide +kernel
theorem dX5_beginBy_1 : decode cX5_beginBy 1 = .ok (.aload_n 0, 1) := by decide +kernel
theorem dX5_beginBy_2 : decode cX5_beginBy 2 = .ok (.getfield 27, 3) := by decide +kernel
theorem dX5_beginBy_5 : decode cX5_beginBy 5 = .ok (.getfield 59, 3) := by decide +kernel
theorem dX5_beginBy_8 : decode cX5_beginBy 8 = .ok (.iload_n 1, 1) := by decide +kernel
theorem dX5_beginBy_9 : decode cX5_beginBy 9 = .ok (.invokestatic 204, 3) := by decide +kernel
theorem dX5_beginBy_12 : decode cX5_beginBy 12 = .ok (.putfield 195, 3) := by decide +kernel
theorem dX5_beginBy_15 : decode cX5_beginBy 15 = .ok (.aload_n 0, 1) := by decide +kernel
theorem dX5_beginBy_16 : decode cX5_beginBy 16 = .ok (.aload_n 0, 1) := by decide +kernel
theorem dX5_beginBy_17 : decode cX5_beginBy 17 = .ok (.getfield 27, 3) := by decide +kernel
theorem dX5_beginBy_20 : decode cX5_beginBy 20 = .ok (.getfield 59, 3) := by decide +kernel
theorem dX5_beginBy_23 : decode cX5_beginBy 23 = .ok (.iload_n 1, 1) := by decide +kernel
theorem dX5_beginBy_24 : decode cX5_beginBy 24 = .ok (.invokestatic 208, 3) := by decide +kernel
theorem dX5_beginBy_27 : decode cX5_beginBy 27 = .ok (.putfield 128, 3) := by decide +kernel
theorem dX5_beginBy_30 : decode cX5_beginBy 30 = .ok (.aload_n 0, 1) := by decide +kernel
theorem dX5_beginBy_31 : decode cX5_beginBy 31 = .ok (.getfield 34, 3) := by decide +kernel
theorem dX5_beginBy_34 : decode cX5_beginBy 34 = .ok (.aload_n 0, 1) := by decide +kernel
theorem dX5_beginBy_35 : decode cX5_beginBy 35 = .ok (.getfield 27, 3) := by decide +kernel
theorem dX5_beginBy_38 : decode cX5_beginBy 38 = .ok (.getfield 59, 3) := by decide +kernel
theorem dX5_beginBy_41 : decode cX5_beginBy 41 = .ok (.aload_n 0, 1) := by decide +kernel
theorem dX5_beginBy_42 : decode cX5_beginBy 42 = .ok (.aload_n 0, 1) := by decide +kernel
theorem dX5_beginBy_43 : decode cX5_beginBy 43 = .ok (.getfield 128, 3) := by decide +kernel
theorem dX5_beginBy_46 : decode cX5_beginBy 46 = .ok (.invokevirtual 211, 3) := by decide +kernel
theorem dX5_beginBy_49 : decode cX5_beginBy 49 = .ok (.sipush 512, 3) := by decide +kernel
theorem dX5_beginBy_52 : decode cX5_beginBy 52 = .ok (.imul, 1) := by decide +kernel
theorem dX5_beginBy_53 : decode cX5_beginBy 53 = .ok (.invokevirtual 214, 3) := by decide +kernel
theorem dX5_beginBy_56 : decode cX5_beginBy 56 = .ok (.return_, 1) := by decide +kernel
theorem dX5_takePlace_0 : decode cX5_takePlace 0 = .ok (.aload_n 0, 1) := by decide +kernel
theorem dX5_takePlace_1 : decode cX5_takePlace 1 = .ok (.getfield 34, 3) := by decide +kernel
theorem dX5_takePlace_4 : decode cX5_takePlace 4 = .ok (.iload_n 1, 1) := by decide +kernel
theorem dX5_takePlace_5 : decode cX5_takePlace 5 = .ok (.invokevirtual 252, 3) := by decide +kernel
theorem dX5_takePlace_8 : decode cX5_takePlace 8 = .ok (.ifCond .eq 38, 3) := by decide +kernel
theorem dX5_takePlace_11 : decode cX5_takePlace 11 = .ok (.aload_n 0, 1) := by decide +kernel
theorem dX5_takePlace_12 : decode cX5_takePlace 12 = .ok (.iload_n 1, 1) := by decide +kernel
theorem dX5_takePlace_13 : decode cX5_takePlace 13 = .ok (.iconst 1, 1) := by decide +kernel
theorem dX5_takePlace_14 : decode cX5_takePlace 14 = .ok (.aload_n 0, 1) := by decide +kernel
theorem dX5_takePlace_15 : decode cX5_takePlace 15 = .ok (.getfield 128, 3) := by decide +kernel
theorem dX5_takePlace_18 : decode cX5_takePlace 18 = .ok (.isub, 1) := by decide +kernel
theorem dX5_takePlace_19 : decode cX5_takePlace 19 = .ok (.aload_n 0, 1) := by decide +kernel
theorem dX5_takePlace_20 : decode cX5_takePlace 20 = .ok (.getfield 243, 3) := by decide +kernel
theorem dX5_takePlace_23 : decode cX5_takePlace 23 = .ok (.invokevirtual 131, 3) := by decide +kernel
theorem dX5_takePlace_26 : decode cX5_takePlace 26 = .ok (.aload_n 0, 1) := by decide +kernel
theorem dX5_takePlace_27 : decode cX5_takePlace 27 = .ok (.getfield 45, 3) := by decide +kernel
theorem dX5_takePlace_30 : decode cX5_takePlace 30 = .ok (.aload_n 0, 1) := by decide +kernel
theorem dX5_takePlace_31 : decode cX5_takePlace 31 = .ok (.getfield 243, 3) := by decide +kernel
theorem dX5_takePlace_34 : decode cX5_takePlace 34 = .ok (.iload_n 1, 1) := by decide +kernel
theorem dX5_takePlace_35 : decode cX5_takePlace 35 = .ok (.iastore, 1) := by decide +kernel
theorem dX5_takePlace_36 : decode cX5_takePlace 36 = .ok (.aload_n 0, 1) := by decide +kernel
theorem dX5_takePlace_37 : decode cX5_takePlace 37 = .ok (.dup, 1) := by decide +kernel
theorem dX5_takePlace_38 : decode cX5_takePlace 38 = .ok (.getfield 243, 3) := by decide +kernel
theorem dX5_takePlace_41 : decode cX5_takePlace 41 = .ok (.iconst 1, 1) := by decide +kernel
theorem dX5_takePlace_42 : decode cX5_takePlace 42 = .ok (.iadd, 1) := by decide +kernel
theorem dX5_takePlace_43 : decode cX5_takePlace 43 = .ok (.putfield 243, 3) := by decide +kernel
theorem dX5_takePlace_46 : decode cX5_takePlace 46 = .ok (.aload_n 0, 1) := by decide +kernel
theorem dX5_takePlace_47 : decode cX5_takePlace 47 = .ok (.dup, 1) := by decide +kernel
theorem dX5_takePlace_48 : decode cX5_takePlace 48 = .ok (.getfield 49, 3) := by decide +kernel
theorem dX5_takePlace_51 : decode cX5_takePlace 51 = .ok (.iconst 1, 1) := by decide +kernel
theorem dX5_takePlace_52 : decode cX5_takePlace 52 = .ok (.iadd, 1) := by decide +kernel
theorem dX5_takePlace_53 : decode cX5_takePlace 53 = .ok (.putfield 49, 3) := by decide +kernel
theorem dX5_takePlace_56 : decode cX5_takePlace 56 = .ok (.return_, 1) := by decide +kernel
theorem dX5_endCompaction_0 : decode cX5_endCompaction 0 = .ok (.aload_n 0, 1) := by decide +kernel
theorem dX5_endCompaction_1 : decode cX5_endCompaction 1 = .ok (.iconst 1, 1) := by decide +kernel
theorem dX5_endCompaction_2 : decode cX5_endCompaction 2 = .ok (.aload_n 0, 1) := by decide +kernel
theorem dX5_endCompaction_3 : decode cX5_endCompaction 3 = .ok (.getfield 128, 3) := by decide +kernel
theorem dX5_endCompaction_6 : decode cX5_endCompaction 6 = .ok (.isub, 1) := by decide +kernel
theorem dX5_endCompaction_7 : decode cX5_endCompaction 7 = .ok (.putfield 128, 3) := by decide +kernel
theorem dX5_endCompaction_10 : decode cX5_endCompaction 10 = .ok (.aload_n 0, 1) := by decide +kernel
theorem dX5_endCompaction_11 : decode cX5_endCompaction 11 = .ok (.getfield 34, 3) := by decide +kernel
theorem dX5_endCompaction_14 : decode cX5_endCompaction 14 = .ok (.aload_n 0, 1) := by decide +kernel
theorem dX5_endCompaction_15 : decode cX5_endCompaction 15 = .ok (.getfield 45, 3) := by decide +kernel
theorem dX5_endCompaction_18 : decode cX5_endCompaction 18 = .ok (.aload_n 0, 1) := by decide +kernel
theorem dX5_endCompaction_19 : decode cX5_endCompaction 19 = .ok (.getfield 243, 3) := by decide +kernel
theorem dX5_endCompaction_22 : decode cX5_endCompaction 22 = .ok (.invokevirtual 255, 3) := by decide +kernel
theorem dX5_endCompaction_25 : decode cX5_endCompaction 25 = .ok (.aload_n 0, 1) := by decide +kernel
theorem dX5_endCompaction_26 : decode cX5_endCompaction 26 = .ok (.aload_n 0, 1) := by decide +kernel
theorem dX5_endCompaction_27 : decode cX5_endCompaction 27 = .ok (.getfield 243, 3) := by decide +kernel
theorem dX5_endCompaction_30 : decode cX5_endCompaction 30 = .ok (.putfield 96, 3) := by decide +kernel
theorem dX5_endCompaction_33 : decode cX5_endCompaction 33 = .ok (.aload_n 0, 1) := by decide +kernel
theorem dX5_endCompaction_34 : decode cX5_endCompaction 34 = .ok (.iconst (-1), 1) := by decide +kernel
theorem dX5_endCompaction_35 : decode cX5_endCompaction 35 = .ok (.putfield 49, 3) := by decide +kernel
theorem dX5_endCompaction_38 : decode cX5_endCompaction 38 = .ok (.aload_n 0, 1) := by decide +kernel
theorem dX5_endCompaction_39 : decode cX5_endCompaction 39 = .ok (.invokevirtual 99, 3) := by decide +kernel
theorem dX5_endCompaction_42 : decode cX5_endCompaction 42 = .ok (.return_, 1) := by decide +kernel
theorem dX5_doStep_0 : decode cX5_doStep 0 = .ok (.aload_n 0, 1) := by decide +kernel
theorem dX5_doStep_1 : decode cX5_doStep 1 = .ok (.getfield 49, 3) := by decide +kernel
theorem dX5_doStep_4 : decode cX5_doStep 4 = .ok (.iconst (-1), 1) := by decide +kernel
theorem dX5_doStep_5 : decode cX5_doStep 5 = .ok (.if_icmp .ne 25, 3) := by decide +kernel
theorem dX5_doStep_8 : decode cX5_doStep 8 = .ok (.aload_n 0, 1) := by decide +kernel
theorem dX5_doStep_9 : decode cX5_doStep 9 = .ok (.iconst 1, 1) := by decide +kernel
theorem dX5_doStep_10 : decode cX5_doStep 10 = .ok (.aload_n 0, 1) := by decide +kernel
theorem dX5_doStep_11 : decode cX5_doStep 11 = .ok (.getfield 128, 3) := by decide +kernel
theorem dX5_doStep_14 : decode cX5_doStep 14 = .ok (.isub, 1) := by decide +kernel
theorem dX5_doStep_15 : decode cX5_doStep 15 = .ok (.invokevirtual 201, 3) := by decide +kernel
theorem dX5_doStep_18 : decode cX5_doStep 18 = .ok (.aload_n 0, 1) := by decide +kernel
theorem dX5_doStep_19 : decode cX5_doStep 19 = .ok (.iconst 0, 1) := by decide +kernel
theorem dX5_doStep_20 : decode cX5_doStep 20 = .ok (.putfield 49, 3) := by decide +kernel
theorem dX5_doStep_23 : decode cX5_doStep 23 = .ok (.aload_n 0, 1) := by decide +kernel
theorem dX5_doStep_24 : decode cX5_doStep 24 = .ok (.iconst 0, 1) := by decide +kernel
theorem dX5_doStep_25 : decode cX5_doStep 25 = .ok (.putfield 243, 3) := by decide +kernel
theorem dX5_doStep_28 : decode cX5_doStep 28 = .ok (.iconst 0, 1) := by decide +kernel
theorem dX5_doStep_29 : decode cX5_doStep 29 = .ok (.ireturn, 1) := by decide +kernel
theorem dX5_doStep_30 : decode cX5_doStep 30 = .ok (.aload_n 0, 1) := by decide +kernel
theorem dX5_doStep_31 : decode cX5_doStep 31 = .ok (.getfield 49, 3) := by decide +kernel
theorem dX5_doStep_34 : decode cX5_doStep 34 = .ok (.aload_n 0, 1) := by decide +kernel
theorem dX5_doStep_35 : decode cX5_doStep 35 = .ok (.getfield 34, 3) := by decide +kernel
theorem dX5_doStep_38 : decode cX5_doStep 38 = .ok (.invokevirtual 93, 3) := by decide +kernel
theorem dX5_doStep_41 : decode cX5_doStep 41 = .ok (.if_icmp .ge 13, 3) := by decide +kernel
theorem dX5_doStep_44 : decode cX5_doStep 44 = .ok (.aload_n 0, 1) := by decide +kernel
theorem dX5_doStep_45 : decode cX5_doStep 45 = .ok (.aload_n 0, 1) := by decide +kernel
theorem dX5_doStep_46 : decode cX5_doStep 46 = .ok (.getfield 49, 3) := by decide +kernel
theorem dX5_doStep_49 : decode cX5_doStep 49 = .ok (.invokevirtual 246, 3) := by decide +kernel
theorem dX5_doStep_52 : decode cX5_doStep 52 = .ok (.iconst 0, 1) := by decide +kernel
theorem dX5_doStep_53 : decode cX5_doStep 53 = .ok (.ireturn, 1) := by decide +kernel
theorem dX5_doStep_54 : decode cX5_doStep 54 = .ok (.aload_n 0, 1) := by decide +kernel
theorem dX5_doStep_55 : decode cX5_doStep 55 = .ok (.invokevirtual 249, 3) := by decide +kernel
theorem dX5_doStep_58 : decode cX5_doStep 58 = .ok (.iconst 1, 1) := by decide +kernel
theorem dX5_doStep_59 : decode cX5_doStep 59 = .ok (.ireturn, 1) := by decide +kernel
theorem dX5_row_0 : decode cX5_row 0 = .ok (.iload_n 1, 1) := by decide +kernel
theorem dX5_row_1 : decode cX5_row 1 = .ok (.invokestatic 102, 3) := by decide +kernel
theorem dX5_row_4 : decode cX5_row 4 = .ok (.ifCond .ne 6, 3) := by decide +kernel
theorem dX5_row_7 : decode cX5_row 7 = .ok (.bipush (-2), 2) := by decide +kernel
theorem dX5_row_9 : decode cX5_row 9 = .ok (.ireturn, 1) := by decide +kernel
theorem dX5_row_10 : decode cX5_row 10 = .ok (.aload_n 0, 1) := by decide +kernel
theorem dX5_row_11 : decode cX5_row 11 = .ok (.getfield 55, 3) := by decide +kernel
theorem dX5_row_14 : decode cX5_row 14 = .ok (.ifCond .ne 6, 3) := by decide +kernel
theorem dX5_row_17 : decode cX5_row 17 = .ok (.bipush (-3), 2) := by decide +kernel
theorem dX5_row_19 : decode cX5_row 19 = .ok (.ireturn, 1) := by decide +kernel
theorem dX5_row_20 : decode cX5_row 20 = .ok (.aload_n 0, 1) := by decide +kernel
theorem dX5_row_21 : decode cX5_row 21 = .ok (.iconst 1, 1) := by decide +kernel
theorem dX5_row_22 : decode cX5_row 22 = .ok (.iload_n 1, 1) := by decide +kernel
theorem dX5_row_23 : decode cX5_row 23 = .ok (.lload_n 2, 1) := by decide +kernel
theorem dX5_row_24 : decode cX5_row 24 = .ok (.invokevirtual 106, 3) := by decide +kernel
theorem dX5_row_27 : decode cX5_row 27 = .ok (.istore 4, 2) := by decide +kernel
theorem dX5_row_29 : decode cX5_row 29 = .ok (.iload 4, 2) := by decide +kernel
theorem dX5_row_31 : decode cX5_row 31 = .ok (.iconst (-1), 1) := by decide +kernel
theorem dX5_row_32 : decode cX5_row 32 = .ok (.if_icmp .ne 15, 3) := by decide +kernel
theorem dX5_row_35 : decode cX5_row 35 = .ok (.aload_n 0, 1) := by decide +kernel
theorem dX5_row_36 : decode cX5_row 36 = .ok (.getfield 41, 3) := by decide +kernel
theorem dX5_row_39 : decode cX5_row 39 = .ok (.iload_n 1, 1) := by decide +kernel
theorem dX5_row_40 : decode cX5_row 40 = .ok (.lload_n 2, 1) := by decide +kernel
theorem dX5_row_41 : decode cX5_row 41 = .ok (.invokevirtual 110, 3) := by decide +kernel
theorem dX5_row_44 : decode cX5_row 44 = .ok (.bipush (-4), 2) := by decide +kernel
theorem dX5_row_46 : decode cX5_row 46 = .ok (.ireturn, 1) := by decide +kernel
theorem dX5_row_47 : decode cX5_row 47 = .ok (.aload_n 0, 1) := by decide +kernel
theorem dX5_row_48 : decode cX5_row 48 = .ok (.getfield 41, 3) := by decide +kernel
theorem dX5_row_51 : decode cX5_row 51 = .ok (.iload_n 1, 1) := by decide +kernel
theorem dX5_row_52 : decode cX5_row 52 = .ok (.invokevirtual 114, 3) := by decide +kernel
theorem dX5_row_55 : decode cX5_row 55 = .ok (.iload 4, 2) := by decide +kernel
theorem dX5_row_57 : decode cX5_row 57 = .ok (.ireturn, 1) := by decide +kernel
theorem dX5_asks_0 : decode cX5_asks 0 = .ok (.aload_n 0, 1) := by decide +kernel
theorem dX5_asks_1 : decode cX5_asks 1 = .ok (.getfield 55, 3) := by decide +kernel
theorem dX5_asks_4 : decode cX5_asks 4 = .ok (.ifCond .eq 15, 3) := by decide +kernel
theorem dX5_asks_7 : decode cX5_asks 7 = .ok (.aload_n 0, 1) := by decide +kernel
theorem dX5_asks_8 : decode cX5_asks 8 = .ok (.getfield 34, 3) := by decide +kernel
theorem dX5_asks_11 : decode cX5_asks 11 = .ok (.iload_n 1, 1) := by decide +kernel
theorem dX5_asks_12 : decode cX5_asks 12 = .ok (.invokevirtual 117, 3) := by decide +kernel
theorem dX5_asks_15 : decode cX5_asks 15 = .ok (.iconst 1, 1) := by decide +kernel
theorem dX5_asks_16 : decode cX5_asks 16 = .ok (.if_icmp .eq 5, 3) := by decide +kernel
theorem dX5_asks_19 : decode cX5_asks 19 = .ok (.iconst (-1), 1) := by decide +kernel
theorem dX5_asks_20 : decode cX5_asks 20 = .ok (.ireturn, 1) := by decide +kernel
theorem dX5_asks_21 : decode cX5_asks 21 = .ok (.iload_n 2, 1) := by decide +kernel
theorem dX5_asks_22 : decode cX5_asks 22 = .ok (.invokestatic 102, 3) := by decide +kernel
theorem dX5_asks_25 : decode cX5_asks 25 = .ok (.ifCond .ne 6, 3) := by decide +kernel
theorem dX5_asks_28 : decode cX5_asks 28 = .ok (.bipush (-2), 2) := by decide +kernel
theorem dX5_asks_30 : decode cX5_asks 30 = .ok (.ireturn, 1) := by decide +kernel
theorem dX5_asks_31 : decode cX5_asks 31 = .ok (.iload_n 1, 1) := by decide +kernel
theorem dX5_asks_32 : decode cX5_asks 32 = .ok (.aload_n 0, 1) := by decide +kernel
theorem dX5_asks_33 : decode cX5_asks 33 = .ok (.getfield 34, 3) := by decide +kernel
theorem dX5_asks_36 : decode cX5_asks 36 = .ok (.invokevirtual 93, 3) := by decide +kernel
theorem dX5_asks_39 : decode cX5_asks 39 = .ok (.iconst 1, 1) := by decide +kernel
theorem dX5_asks_40 : decode cX5_asks 40 = .ok (.isub, 1) := by decide +kernel
theorem dX5_asks_41 : decode cX5_asks 41 = .ok (.if_icmp .ne 19, 3) := by decide +kernel
theorem dX5_asks_44 : decode cX5_asks 44 = .ok (.iload_n 1, 1) := by decide +kernel
theorem dX5_asks_45 : decode cX5_asks 45 = .ok (.aload_n 0, 1) := by decide +kernel
theorem dX5_asks_46 : decode cX5_asks 46 = .ok (.getfield 96, 3) := by decide +kernel
theorem dX5_asks_49 : decode cX5_asks 49 = .ok (.if_icmp .lt 11, 3) := by decide +kernel
theorem dX5_asks_52 : decode cX5_asks 52 = .ok (.iload_n 1, 1) := by decide +kernel
theorem dX5_asks_53 : decode cX5_asks 53 = .ok (.aload_n 0, 1) := by decide +kernel
theorem dX5_asks_54 : decode cX5_asks 54 = .ok (.getfield 49, 3) := by decide +kernel
theorem dX5_asks_57 : decode cX5_asks 57 = .ok (.if_icmp .ge 6, 3) := by decide +kernel
theorem dX5_asks_60 : decode cX5_asks 60 = .ok (.bipush (-3), 2) := by decide +kernel
theorem dX5_asks_62 : decode cX5_asks 62 = .ok (.ireturn, 1) := by decide +kernel
theorem dX5_asks_63 : decode cX5_asks 63 = .ok (.aload_n 0, 1) := by decide +kernel
theorem dX5_asks_64 : decode cX5_asks 64 = .ok (.getfield 34, 3) := by decide +kernel
theorem dX5_asks_67 : decode cX5_asks 67 = .ok (.iload_n 1, 1) := by decide +kernel
theorem dX5_asks_68 : decode cX5_asks 68 = .ok (.invokevirtual 121, 3) := by decide +kernel
theorem dX5_asks_71 : decode cX5_asks 71 = .ok (.bipush 6, 2) := by decide +kernel
theorem dX5_asks_73 : decode cX5_asks 73 = .ok (.if_icmp .lt 6, 3) := by decide +kernel
theorem dX5_asks_76 : decode cX5_asks 76 = .ok (.bipush (-4), 2) := by decide +kernel
theorem dX5_asks_78 : decode cX5_asks 78 = .ok (.ireturn, 1) := by decide +kernel
theorem dX5_asks_79 : decode cX5_asks 79 = .ok (.aload_n 0, 1) := by decide +kernel
theorem dX5_asks_80 : decode cX5_asks 80 = .ok (.getfield 34, 3) := by decide +kernel
theorem dX5_asks_83 : decode cX5_asks 83 = .ok (.iload_n 1, 1) := by decide +kernel
theorem dX5_asks_84 : decode cX5_asks 84 = .ok (.iload_n 2, 1) := by decide +kernel
theorem dX5_asks_85 : decode cX5_asks 85 = .ok (.invokevirtual 124, 3) := by decide +kernel
theorem dX5_asks_88 : decode cX5_asks 88 = .ok (.aload_n 0, 1) := by decide +kernel
theorem dX5_asks_89 : decode cX5_asks 89 = .ok (.iload_n 1, 1) := by decide +kernel
theorem dX5_asks_90 : decode cX5_asks 90 = .ok (.aload_n 0, 1) := by decide +kernel
theorem dX5_asks_91 : decode cX5_asks 91 = .ok (.getfield 128, 3) := by decide +kernel
theorem dX5_asks_94 : decode cX5_asks 94 = .ok (.iload_n 1, 1) := by decide +kernel
theorem dX5_asks_95 : decode cX5_asks 95 = .ok (.invokevirtual 131, 3) := by decide +kernel
theorem dX5_asks_98 : decode cX5_asks 98 = .ok (.aload_n 0, 1) := by decide +kernel
theorem dX5_asks_99 : decode cX5_asks 99 = .ok (.getfield 34, 3) := by decide +kernel
theorem dX5_asks_102 : decode cX5_asks 102 = .ok (.iload_n 1, 1) := by decide +kernel
theorem dX5_asks_103 : decode cX5_asks 103 = .ok (.invokevirtual 121, 3) := by decide +kernel
theorem dX5_asks_106 : decode cX5_asks 106 = .ok (.ireturn, 1) := by decide +kernel
theorem dX5_sync_0 : decode cX5_sync 0 = .ok (.aload_n 0, 1) := by decide +kernel
theorem dX5_sync_1 : decode cX5_sync 1 = .ok (.getfield 55, 3) := by decide +kernel
theorem dX5_sync_4 : decode cX5_sync 4 = .ok (.ifCond .ne 6, 3) := by decide +kernel
theorem dX5_sync_7 : decode cX5_sync 7 = .ok (.bipush (-3), 2) := by decide +kernel
theorem dX5_sync_9 : decode cX5_sync 9 = .ok (.ireturn, 1) := by decide +kernel
theorem dX5_sync_10 : decode cX5_sync 10 = .ok (.aload_n 0, 1) := by decide +kernel
theorem dX5_sync_11 : decode cX5_sync 11 = .ok (.aload_n 0, 1) := by decide +kernel
theorem dX5_sync_12 : decode cX5_sync 12 = .ok (.getfield 34, 3) := by decide +kernel
theorem dX5_sync_15 : decode cX5_sync 15 = .ok (.invokevirtual 93, 3) := by decide +kernel
theorem dX5_sync_18 : decode cX5_sync 18 = .ok (.putfield 96, 3) := by decide +kernel
theorem dX5_sync_21 : decode cX5_sync 21 = .ok (.aload_n 0, 1) := by decide +kernel
theorem dX5_sync_22 : decode cX5_sync 22 = .ok (.getfield 27, 3) := by decide +kernel
theorem dX5_sync_25 : decode cX5_sync 25 = .ok (.bipush 64, 2) := by decide +kernel
theorem dX5_sync_27 : decode cX5_sync 27 = .ok (.iconst 0, 1) := by decide +kernel
theorem dX5_sync_28 : decode cX5_sync 28 = .ok (.invokevirtual 135, 3) := by decide +kernel
theorem dX5_sync_31 : decode cX5_sync 31 = .ok (.ireturn, 1) := by decide +kernel
theorem dX5_compact_0 : decode cX5_compact 0 = .ok (.iload_n 1, 1) := by decide +kernel
theorem dX5_compact_1 : decode cX5_compact 1 = .ok (.iconst 1, 1) := by decide +kernel
theorem dX5_compact_2 : decode cX5_compact 2 = .ok (.if_icmp .lt 10, 3) := by decide +kernel
theorem dX5_compact_5 : decode cX5_compact 5 = .ok (.iload_n 1, 1) := by decide +kernel
theorem dX5_compact_6 : decode cX5_compact 6 = .ok (.sipush 1000, 3) := by decide +kernel
theorem dX5_compact_9 : decode cX5_compact 9 = .ok (.if_icmp .le 6, 3) := by decide +kernel
theorem dX5_compact_12 : decode cX5_compact 12 = .ok (.bipush (-2), 2) := by decide +kernel
theorem dX5_compact_14 : decode cX5_compact 14 = .ok (.ireturn, 1) := by decide +kernel
theorem dX5_compact_15 : decode cX5_compact 15 = .ok (.aload_n 0, 1) := by decide +kernel
theorem dX5_compact_16 : decode cX5_compact 16 = .ok (.getfield 55, 3) := by decide +kernel
theorem dX5_compact_19 : decode cX5_compact 19 = .ok (.ifCond .ne 6, 3) := by decide +kernel
theorem dX5_compact_22 : decode cX5_compact 22 = .ok (.bipush (-3), 2) := by decide +kernel
theorem dX5_compact_24 : decode cX5_compact 24 = .ok (.ireturn, 1) := by decide +kernel
theorem dX5_compact_25 : decode cX5_compact 25 = .ok (.iconst 0, 1) := by decide +kernel
theorem dX5_compact_26 : decode cX5_compact 26 = .ok (.istore_n 2, 1) := by decide +kernel
theorem dX5_compact_27 : decode cX5_compact 27 = .ok (.iconst 0, 1) := by decide +kernel
theorem dX5_compact_28 : decode cX5_compact 28 = .ok (.istore_n 3, 1) := by decide +kernel
theorem dX5_compact_29 : decode cX5_compact 29 = .ok (.iload_n 2, 1) := by decide +kernel
theorem dX5_compact_30 : decode cX5_compact 30 = .ok (.iload_n 1, 1) := by decide +kernel
theorem dX5_compact_31 : decode cX5_compact 31 = .ok (.if_icmp .ge 18, 3) := by decide +kernel
theorem dX5_compact_34 : decode cX5_compact 34 = .ok (.iload_n 3, 1) := by decide +kernel
theorem dX5_compact_35 : decode cX5_compact 35 = .ok (.ifCond .ne 14, 3) := by decide +kernel
theorem dX5_compact_38 : decode cX5_compact 38 = .ok (.aload_n 0, 1) := by decide +kernel
theorem dX5_compact_39 : decode cX5_compact 39 = .ok (.invokevirtual 138, 3) := by decide +kernel
theorem dX5_compact_42 : decode cX5_compact 42 = .ok (.istore_n 3, 1) := by decide +kernel
theorem dX5_compact_43 : decode cX5_compact 43 = .ok (.iinc 2 1, 3) := by decide +kernel
theorem dX5_compact_46 : decode cX5_compact 46 = .ok (.goto (-17), 3) := by decide +kernel
theorem dX5_compact_49 : decode cX5_compact 49 = .ok (.iload_n 2, 1) := by decide +kernel
theorem dX5_compact_50 : decode cX5_compact 50 = .ok (.ireturn, 1) := by decide +kernel
theorem dX5_cut_0 : decode cX5_cut 0 = .ok (.aload_n 0, 1) := by decide +kernel
theorem dX5_cut_1 : decode cX5_cut 1 = .ok (.getfield 27, 3) := by decide +kernel
theorem dX5_cut_4 : decode cX5_cut 4 = .ok (.iload_n 1, 1) := by decide +kernel
theorem dX5_cut_5 : decode cX5_cut 5 = .ok (.iconst 0, 1) := by decide +kernel
theorem dX5_cut_6 : decode cX5_cut 6 = .ok (.invokestatic 9, 3) := by decide +kernel
theorem dX5_cut_9 : decode cX5_cut 9 = .ok (.iload_n 2, 1) := by decide +kernel
theorem dX5_cut_10 : decode cX5_cut 10 = .ok (.iconst 0, 1) := by decide +kernel
theorem dX5_cut_11 : decode cX5_cut 11 = .ok (.invokestatic 9, 3) := by decide +kernel
theorem dX5_cut_14 : decode cX5_cut 14 = .ok (.sipush 512, 3) := by decide +kernel
theorem dX5_cut_17 : decode cX5_cut 17 = .ok (.invokestatic 15, 3) := by decide +kernel
theorem dX5_cut_20 : decode cX5_cut 20 = .ok (.invokevirtual 135, 3) := by decide +kernel
theorem dX5_cut_23 : decode cX5_cut 23 = .ok (.pop, 1) := by decide +kernel
theorem dX5_cut_24 : decode cX5_cut 24 = .ok (.aload_n 0, 1) := by decide +kernel
theorem dX5_cut_25 : decode cX5_cut 25 = .ok (.iconst 0, 1) := by decide +kernel
theorem dX5_cut_26 : decode cX5_cut 26 = .ok (.putfield 55, 3) := by decide +kernel
theorem dX5_cut_29 : decode cX5_cut 29 = .ok (.aload_n 0, 1) := by decide +kernel
theorem dX5_cut_30 : decode cX5_cut 30 = .ok (.iconst (-1), 1) := by decide +kernel
theorem dX5_cut_31 : decode cX5_cut 31 = .ok (.putfield 49, 3) := by decide +kernel
theorem dX5_cut_34 : decode cX5_cut 34 = .ok (.aload_n 0, 1) := by decide +kernel
theorem dX5_cut_35 : decode cX5_cut 35 = .ok (.getfield 41, 3) := by decide +kernel
theorem dX5_cut_38 : decode cX5_cut 38 = .ok (.invokevirtual 142, 3) := by decide +kernel
theorem dX5_cut_41 : decode cX5_cut 41 = .ok (.return_, 1) := by decide +kernel
theorem dX5_digest_0 : decode cX5_digest 0 = .ok (.aload_n 0, 1) := by decide +kernel
theorem dX5_digest_1 : decode cX5_digest 1 = .ok (.getfield 55, 3) := by decide +kernel
theorem dX5_digest_4 : decode cX5_digest 4 = .ok (.ifCond .eq 10, 3) := by decide +kernel
theorem dX5_digest_7 : decode cX5_digest 7 = .ok (.iload_n 1, 1) := by decide +kernel
theorem dX5_digest_8 : decode cX5_digest 8 = .ok (.invokestatic 102, 3) := by decide +kernel
theorem dX5_digest_11 : decode cX5_digest 11 = .ok (.ifCond .ne 5, 3) := by decide +kernel
theorem dX5_digest_14 : decode cX5_digest 14 = .ok (.lconst 0, 1) := by decide +kernel
theorem dX5_digest_15 : decode cX5_digest 15 = .ok (.lreturn, 1) := by decide +kernel
theorem dX5_digest_16 : decode cX5_digest 16 = .ok (.aload_n 0, 1) := by decide +kernel
theorem dX5_digest_17 : decode cX5_digest 17 = .ok (.getfield 41, 3) := by decide +kernel
theorem dX5_digest_20 : decode cX5_digest 20 = .ok (.iload_n 1, 1) := by decide +kernel
theorem dX5_digest_21 : decode cX5_digest 21 = .ok (.invokevirtual 145, 3) := by decide +kernel
theorem dX5_digest_24 : decode cX5_digest 24 = .ok (.ifCond .eq 12, 3) := by decide +kernel
theorem dX5_digest_27 : decode cX5_digest 27 = .ok (.aload_n 0, 1) := by decide +kernel
theorem dX5_digest_28 : decode cX5_digest 28 = .ok (.getfield 41, 3) := by decide +kernel
theorem dX5_digest_31 : decode cX5_digest 31 = .ok (.iload_n 1, 1) := by decide +kernel
theorem dX5_digest_32 : decode cX5_digest 32 = .ok (.invokevirtual 148, 3) := by decide +kernel
theorem dX5_digest_35 : decode cX5_digest 35 = .ok (.lreturn, 1) := by decide +kernel
theorem dX5_digest_36 : decode cX5_digest 36 = .ok (.aload_n 0, 1) := by decide +kernel
theorem dX5_digest_37 : decode cX5_digest 37 = .ok (.getfield 34, 3) := by decide +kernel
theorem dX5_digest_40 : decode cX5_digest 40 = .ok (.iload_n 1, 1) := by decide +kernel
theorem dX5_digest_41 : decode cX5_digest 41 = .ok (.invokevirtual 152, 3) := by decide +kernel
theorem dX5_digest_44 : decode cX5_digest 44 = .ok (.istore_n 2, 1) := by decide +kernel
theorem dX5_digest_45 : decode cX5_digest 45 = .ok (.iload_n 2, 1) := by decide +kernel
theorem dX5_digest_46 : decode cX5_digest 46 = .ok (.iconst (-1), 1) := by decide +kernel
theorem dX5_digest_47 : decode cX5_digest 47 = .ok (.if_icmp .ne 7, 3) := by decide +kernel
theorem dX5_digest_50 : decode cX5_digest 50 = .ok (.lconst 0, 1) := by decide +kernel
theorem dX5_digest_51 : decode cX5_digest 51 = .ok (.goto 11, 3) := by decide +kernel
theorem dX5_digest_54 : decode cX5_digest 54 = .ok (.aload_n 0, 1) := by decide +kernel
theorem dX5_digest_55 : decode cX5_digest 55 = .ok (.getfield 34, 3) := by decide +kernel
theorem dX5_digest_58 : decode cX5_digest 58 = .ok (.iload_n 2, 1) := by decide +kernel
theorem dX5_digest_59 : decode cX5_digest 59 = .ok (.invokevirtual 155, 3) := by decide +kernel
theorem dX5_digest_62 : decode cX5_digest 62 = .ok (.lreturn, 1) := by decide +kernel
theorem dX5_asked_0 : decode cX5_asked 0 = .ok (.aload_n 0, 1) := by decide +kernel
theorem dX5_asked_1 : decode cX5_asked 1 = .ok (.getfield 55, 3) := by decide +kernel
theorem dX5_asked_4 : decode cX5_asked 4 = .ok (.ifCond .eq 21, 3) := by decide +kernel
theorem dX5_asked_7 : decode cX5_asked 7 = .ok (.iload_n 1, 1) := by decide +kernel
theorem dX5_asked_8 : decode cX5_asked 8 = .ok (.invokestatic 102, 3) := by decide +kernel
theorem dX5_asked_11 : decode cX5_asked 11 = .ok (.ifCond .eq 14, 3) := by decide +kernel
theorem dX5_asked_14 : decode cX5_asked 14 = .ok (.aload_n 0, 1) := by decide +kernel
theorem dX5_asked_15 : decode cX5_asked 15 = .ok (.getfield 41, 3) := by decide +kernel
theorem dX5_asked_18 : decode cX5_asked 18 = .ok (.iload_n 1, 1) := by decide +kernel
theorem dX5_asked_19 : decode cX5_asked 19 = .ok (.invokevirtual 145, 3) := by decide +kernel
theorem dX5_asked_22 : decode cX5_asked 22 = .ok (.ifCond .eq 5, 3) := by decide +kernel
theorem dX5_asked_25 : decode cX5_asked 25 = .ok (.iconst (-1), 1) := by decide +kernel
theorem dX5_asked_26 : decode cX5_asked 26 = .ok (.ireturn, 1) := by decide +kernel
theorem dX5_asked_27 : decode cX5_asked 27 = .ok (.aload_n 0, 1) := by decide +kernel
theorem dX5_asked_28 : decode cX5_asked 28 = .ok (.getfield 34, 3) := by decide +kernel
theorem dX5_asked_31 : decode cX5_asked 31 = .ok (.iload_n 1, 1) := by decide +kernel
theorem dX5_asked_32 : decode cX5_asked 32 = .ok (.invokevirtual 152, 3) := by decide +kernel
theorem dX5_asked_35 : decode cX5_asked 35 = .ok (.istore_n 3, 1) := by decide +kernel
theorem dX5_asked_36 : decode cX5_asked 36 = .ok (.iload_n 3, 1) := by decide +kernel
theorem dX5_asked_37 : decode cX5_asked 37 = .ok (.iconst (-1), 1) := by decide +kernel
theorem dX5_asked_38 : decode cX5_asked 38 = .ok (.if_icmp .eq 19, 3) := by decide +kernel
theorem dX5_asked_41 : decode cX5_asked 41 = .ok (.iload_n 2, 1) := by decide +kernel
theorem dX5_asked_42 : decode cX5_asked 42 = .ok (.ifCond .lt 15, 3) := by decide +kernel
theorem dX5_asked_45 : decode cX5_asked 45 = .ok (.iload_n 2, 1) := by decide +kernel
theorem dX5_asked_46 : decode cX5_asked 46 = .ok (.aload_n 0, 1) := by decide +kernel
theorem dX5_asked_47 : decode cX5_asked 47 = .ok (.getfield 34, 3) := by decide +kernel
theorem dX5_asked_50 : decode cX5_asked 50 = .ok (.iload_n 3, 1) := by decide +kernel
theorem dX5_asked_51 : decode cX5_asked 51 = .ok (.invokevirtual 121, 3) := by decide +kernel
theorem dX5_asked_54 : decode cX5_asked 54 = .ok (.if_icmp .lt 5, 3) := by decide +kernel
theorem dX5_asked_57 : decode cX5_asked 57 = .ok (.iconst (-1), 1) := by decide +kernel
theorem dX5_asked_58 : decode cX5_asked 58 = .ok (.ireturn, 1) := by decide +kernel
theorem dX5_asked_59 : decode cX5_asked 59 = .ok (.aload_n 0, 1) := by decide +kernel
theorem dX5_asked_60 : decode cX5_asked 60 = .ok (.getfield 34, 3) := by decide +kernel
theorem dX5_asked_63 : decode cX5_asked 63 = .ok (.iload_n 3, 1) := by decide +kernel
theorem dX5_asked_64 : decode cX5_asked 64 = .ok (.iload_n 2, 1) := by decide +kernel
theorem dX5_asked_65 : decode cX5_asked 65 = .ok (.invokevirtual 158, 3) := by decide +kernel
theorem dX5_asked_68 : decode cX5_asked 68 = .ok (.ireturn, 1) := by decide +kernel
theorem dX5_sure_0 : decode cX5_sure 0 = .ok (.aload_n 0, 1) := by decide +kernel
theorem dX5_sure_1 : decode cX5_sure 1 = .ok (.getfield 55, 3) := by decide +kernel
theorem dX5_sure_4 : decode cX5_sure 4 = .ok (.ifCond .eq 10, 3) := by decide +kernel
theorem dX5_sure_7 : decode cX5_sure 7 = .ok (.iload_n 1, 1) := by decide +kernel
theorem dX5_sure_8 : decode cX5_sure 8 = .ok (.invokestatic 102, 3) := by decide +kernel
theorem dX5_sure_11 : decode cX5_sure 11 = .ok (.ifCond .ne 5, 3) := by decide +kernel
theorem dX5_sure_14 : decode cX5_sure 14 = .ok (.iconst 0, 1) := by decide +kernel
theorem dX5_sure_15 : decode cX5_sure 15 = .ok (.ireturn, 1) := by decide +kernel
theorem dX5_sure_16 : decode cX5_sure 16 = .ok (.aload_n 0, 1) := by decide +kernel
theorem dX5_sure_17 : decode cX5_sure 17 = .ok (.getfield 41, 3) := by decide +kernel
theorem dX5_sure_20 : decode cX5_sure 20 = .ok (.iload_n 1, 1) := by decide +kernel
theorem dX5_sure_21 : decode cX5_sure 21 = .ok (.invokevirtual 145, 3) := by decide +kernel
theorem dX5_sure_24 : decode cX5_sure 24 = .ok (.ifCond .eq 5, 3) := by decide +kernel
theorem dX5_sure_27 : decode cX5_sure 27 = .ok (.iconst 1, 1) := by decide +kernel
theorem dX5_sure_28 : decode cX5_sure 28 = .ok (.ireturn, 1) := by decide +kernel
theorem dX5_sure_29 : decode cX5_sure 29 = .ok (.aload_n 0, 1) := by decide +kernel
theorem dX5_sure_30 : decode cX5_sure 30 = .ok (.getfield 34, 3) := by decide +kernel
theorem dX5_sure_33 : decode cX5_sure 33 = .ok (.iload_n 1, 1) := by decide +kernel
theorem dX5_sure_34 : decode cX5_sure 34 = .ok (.invokevirtual 152, 3) := by decide +kernel
theorem dX5_sure_37 : decode cX5_sure 37 = .ok (.istore_n 2, 1) := by decide +kernel
theorem dX5_sure_38 : decode cX5_sure 38 = .ok (.iload_n 2, 1) := by decide +kernel
theorem dX5_sure_39 : decode cX5_sure 39 = .ok (.iconst (-1), 1) := by decide +kernel
theorem dX5_sure_40 : decode cX5_sure 40 = .ok (.if_icmp .eq 26, 3) := by decide +kernel
theorem dX5_sure_43 : decode cX5_sure 43 = .ok (.aload_n 0, 1) := by decide +kernel
theorem dX5_sure_44 : decode cX5_sure 44 = .ok (.getfield 34, 3) := by decide +kernel
theorem dX5_sure_47 : decode cX5_sure 47 = .ok (.iload_n 2, 1) := by decide +kernel
theorem dX5_sure_48 : decode cX5_sure 48 = .ok (.invokevirtual 161, 3) := by decide +kernel
theorem dX5_sure_51 : decode cX5_sure 51 = .ok (.ifCond .ne 15, 3) := by decide +kernel
theorem dX5_sure_54 : decode cX5_sure 54 = .ok (.aload_n 0, 1) := by decide +kernel
theorem dX5_sure_55 : decode cX5_sure 55 = .ok (.iload_n 2, 1) := by decide +kernel
theorem dX5_sure_56 : decode cX5_sure 56 = .ok (.invokevirtual 164, 3) := by decide +kernel
theorem dX5_sure_59 : decode cX5_sure 59 = .ok (.ifCond .eq 7, 3) := by decide +kernel
theorem dX5_sure_62 : decode cX5_sure 62 = .ok (.iconst 1, 1) := by decide +kernel
theorem dX5_sure_63 : decode cX5_sure 63 = .ok (.goto 4, 3) := by decide +kernel
theorem dX5_sure_66 : decode cX5_sure 66 = .ok (.iconst 0, 1) := by decide +kernel
theorem dX5_sure_67 : decode cX5_sure 67 = .ok (.ireturn, 1) := by decide +kernel
theorem dX5_poke_0 : decode cX5_poke 0 = .ok (.iload_n 1, 1) := by decide +kernel
theorem dX5_poke_1 : decode cX5_poke 1 = .ok (.ifCond .lt 27, 3) := by decide +kernel
theorem dX5_poke_4 : decode cX5_poke 4 = .ok (.iload_n 1, 1) := by decide +kernel
theorem dX5_poke_5 : decode cX5_poke 5 = .ok (.aload_n 0, 1) := by decide +kernel
theorem dX5_poke_6 : decode cX5_poke 6 = .ok (.getfield 27, 3) := by decide +kernel
theorem dX5_poke_9 : decode cX5_poke 9 = .ok (.getfield 59, 3) := by decide +kernel
theorem dX5_poke_12 : decode cX5_poke 12 = .ok (.arraylength, 1) := by decide +kernel
theorem dX5_poke_13 : decode cX5_poke 13 = .ok (.if_icmp .ge 15, 3) := by decide +kernel
theorem dX5_poke_16 : decode cX5_poke 16 = .ok (.iload_n 2, 1) := by decide +kernel
theorem dX5_poke_17 : decode cX5_poke 17 = .ok (.iconst 1, 1) := by decide +kernel
theorem dX5_poke_18 : decode cX5_poke 18 = .ok (.if_icmp .lt 10, 3) := by decide +kernel
theorem dX5_poke_21 : decode cX5_poke 21 = .ok (.iload_n 2, 1) := by decide +kernel
theorem dX5_poke_22 : decode cX5_poke 22 = .ok (.sipush 255, 3) := by decide +kernel
theorem dX5_poke_25 : decode cX5_poke 25 = .ok (.if_icmp .le 6, 3) := by decide +kernel
theorem dX5_poke_28 : decode cX5_poke 28 = .ok (.bipush (-2), 2) := by decide +kernel
theorem dX5_poke_30 : decode cX5_poke 30 = .ok (.ireturn, 1) := by decide +kernel
theorem dX5_poke_31 : decode cX5_poke 31 = .ok (.aload_n 0, 1) := by decide +kernel
theorem dX5_poke_32 : decode cX5_poke 32 = .ok (.getfield 27, 3) := by decide +kernel
theorem dX5_poke_35 : decode cX5_poke 35 = .ok (.getfield 59, 3) := by decide +kernel
theorem dX5_poke_38 : decode cX5_poke 38 = .ok (.iload_n 1, 1) := by decide +kernel
theorem dX5_poke_39 : decode cX5_poke 39 = .ok (.aload_n 0, 1) := by decide +kernel
theorem dX5_poke_40 : decode cX5_poke 40 = .ok (.getfield 27, 3) := by decide +kernel
theorem dX5_poke_43 : decode cX5_poke 43 = .ok (.getfield 59, 3) := by decide +kernel
theorem dX5_poke_46 : decode cX5_poke 46 = .ok (.iload_n 1, 1) := by decide +kernel
theorem dX5_poke_47 : decode cX5_poke 47 = .ok (.baload, 1) := by decide +kernel
theorem dX5_poke_48 : decode cX5_poke 48 = .ok (.iload_n 2, 1) := by decide +kernel
theorem dX5_poke_49 : decode cX5_poke 49 = .ok (.ixor, 1) := by decide +kernel
theorem dX5_poke_50 : decode cX5_poke 50 = .ok (.i2b, 1) := by decide +kernel
theorem dX5_poke_51 : decode cX5_poke 51 = .ok (.bastore, 1) := by decide +kernel
theorem dX5_poke_52 : decode cX5_poke 52 = .ok (.iconst 1, 1) := by decide +kernel
theorem dX5_poke_53 : decode cX5_poke 53 = .ok (.ireturn, 1) := by decide +kernel
theorem dX5_wrong_0 : decode cX5_wrong 0 = .ok (.aload_n 0, 1) := by decide +kernel
theorem dX5_wrong_1 : decode cX5_wrong 1 = .ok (.getfield 90, 3) := by decide +kernel
theorem dX5_wrong_4 : decode cX5_wrong 4 = .ok (.ireturn, 1) := by decide +kernel
theorem dX5_lock_0 : decode cX5_lock 0 = .ok (.iload_n 1, 1) := by decide +kernel
theorem dX5_lock_1 : decode cX5_lock 1 = .ok (.invokestatic 177, 3) := by decide +kernel
theorem dX5_lock_4 : decode cX5_lock 4 = .ok (.ifCond .ne 6, 3) := by decide +kernel
theorem dX5_lock_7 : decode cX5_lock 7 = .ok (.bipush (-2), 2) := by decide +kernel
theorem dX5_lock_9 : decode cX5_lock 9 = .ok (.ireturn, 1) := by decide +kernel
theorem dX5_lock_10 : decode cX5_lock 10 = .ok (.aload_n 0, 1) := by decide +kernel
theorem dX5_lock_11 : decode cX5_lock 11 = .ok (.getfield 55, 3) := by decide +kernel
theorem dX5_lock_14 : decode cX5_lock 14 = .ok (.ifCond .ne 6, 3) := by decide +kernel
theorem dX5_lock_17 : decode cX5_lock 17 = .ok (.bipush (-3), 2) := by decide +kernel
theorem dX5_lock_19 : decode cX5_lock 19 = .ok (.ireturn, 1) := by decide +kernel
theorem dX5_lock_20 : decode cX5_lock 20 = .ok (.aload_n 0, 1) := by decide +kernel
theorem dX5_lock_21 : decode cX5_lock 21 = .ok (.getfield 34, 3) := by decide +kernel
theorem dX5_lock_24 : decode cX5_lock 24 = .ok (.invokevirtual 180, 3) := by decide +kernel
theorem dX5_lock_27 : decode cX5_lock 27 = .ok (.istore_n 2, 1) := by decide +kernel
theorem dX5_lock_28 : decode cX5_lock 28 = .ok (.iload_n 2, 1) := by decide +kernel
theorem dX5_lock_29 : decode cX5_lock 29 = .ok (.iconst (-1), 1) := by decide +kernel
theorem dX5_lock_30 : decode cX5_lock 30 = .ok (.if_icmp .eq 14, 3) := by decide +kernel
theorem dX5_lock_33 : decode cX5_lock 33 = .ok (.iload_n 2, 1) := by decide +kernel
theorem dX5_lock_34 : decode cX5_lock 34 = .ok (.iload_n 1, 1) := by decide +kernel
theorem dX5_lock_35 : decode cX5_lock 35 = .ok (.if_icmp .ne 7, 3) := by decide +kernel
theorem dX5_lock_38 : decode cX5_lock 38 = .ok (.iconst 1, 1) := by decide +kernel
theorem dX5_lock_39 : decode cX5_lock 39 = .ok (.goto 4, 3) := by decide +kernel
theorem dX5_lock_42 : decode cX5_lock 42 = .ok (.iconst 0, 1) := by decide +kernel
theorem dX5_lock_43 : decode cX5_lock 43 = .ok (.ireturn, 1) := by decide +kernel
theorem dX5_lock_44 : decode cX5_lock 44 = .ok (.aload_n 0, 1) := by decide +kernel
theorem dX5_lock_45 : decode cX5_lock 45 = .ok (.iconst 2, 1) := by decide +kernel
theorem dX5_lock_46 : decode cX5_lock 46 = .ok (.iload_n 1, 1) := by decide +kernel
theorem dX5_lock_47 : decode cX5_lock 47 = .ok (.lconst 0, 1) := by decide +kernel
theorem dX5_lock_48 : decode cX5_lock 48 = .ok (.invokevirtual 106, 3) := by decide +kernel
theorem dX5_lock_51 : decode cX5_lock 51 = .ok (.iconst (-1), 1) := by decide +kernel
theorem dX5_lock_52 : decode cX5_lock 52 = .ok (.if_icmp .ne 8, 3) := by decide +kernel
theorem dX5_lock_55 : decode cX5_lock 55 = .ok (.bipush (-4), 2) := by decide +kernel
theorem dX5_lock_57 : decode cX5_lock 57 = .ok (.goto 4, 3) := by decide +kernel
theorem dX5_lock_60 : decode cX5_lock 60 = .ok (.iconst 1, 1) := by decide +kernel
theorem dX5_lock_61 : decode cX5_lock 61 = .ok (.ireturn, 1) := by decide +kernel
theorem dX5_dead_0 : decode cX5_dead 0 = .ok (.iload_n 1, 1) := by decide +kernel
theorem dX5_dead_1 : decode cX5_dead 1 = .ok (.invokestatic 177, 3) := by decide +kernel
theorem dX5_dead_4 : decode cX5_dead 4 = .ok (.ifCond .ne 6, 3) := by decide +kernel
theorem dX5_dead_7 : decode cX5_dead 7 = .ok (.bipush (-2), 2) := by decide +kernel
theorem dX5_dead_9 : decode cX5_dead 9 = .ok (.ireturn, 1) := by decide +kernel
theorem dX5_dead_10 : decode cX5_dead 10 = .ok (.aload_n 0, 1) := by decide +kernel
theorem dX5_dead_11 : decode cX5_dead 11 = .ok (.getfield 55, 3) := by decide +kernel
theorem dX5_dead_14 : decode cX5_dead 14 = .ok (.ifCond .ne 6, 3) := by decide +kernel
theorem dX5_dead_17 : decode cX5_dead 17 = .ok (.bipush (-3), 2) := by decide +kernel
theorem dX5_dead_19 : decode cX5_dead 19 = .ok (.ireturn, 1) := by decide +kernel
theorem dX5_dead_20 : decode cX5_dead 20 = .ok (.aload_n 0, 1) := by decide +kernel
theorem dX5_dead_21 : decode cX5_dead 21 = .ok (.getfield 34, 3) := by decide +kernel
theorem dX5_dead_24 : decode cX5_dead 24 = .ok (.invokevirtual 180, 3) := by decide +kernel
theorem dX5_dead_27 : decode cX5_dead 27 = .ok (.iload_n 1, 1) := by decide +kernel
theorem dX5_dead_28 : decode cX5_dead 28 = .ok (.if_icmp .eq 5, 3) := by decide +kernel
theorem dX5_dead_31 : decode cX5_dead 31 = .ok (.iconst 0, 1) := by decide +kernel
theorem dX5_dead_32 : decode cX5_dead 32 = .ok (.ireturn, 1) := by decide +kernel
theorem dX5_dead_33 : decode cX5_dead 33 = .ok (.aload_n 0, 1) := by decide +kernel
theorem dX5_dead_34 : decode cX5_dead 34 = .ok (.iconst 3, 1) := by decide +kernel
theorem dX5_dead_35 : decode cX5_dead 35 = .ok (.iload_n 1, 1) := by decide +kernel
theorem dX5_dead_36 : decode cX5_dead 36 = .ok (.lconst 0, 1) := by decide +kernel
theorem dX5_dead_37 : decode cX5_dead 37 = .ok (.invokevirtual 106, 3) := by decide +kernel
theorem dX5_dead_40 : decode cX5_dead 40 = .ok (.iconst (-1), 1) := by decide +kernel
theorem dX5_dead_41 : decode cX5_dead 41 = .ok (.if_icmp .ne 8, 3) := by decide +kernel
theorem dX5_dead_44 : decode cX5_dead 44 = .ok (.bipush (-4), 2) := by decide +kernel
theorem dX5_dead_46 : decode cX5_dead 46 = .ok (.goto 4, 3) := by decide +kernel
theorem dX5_dead_49 : decode cX5_dead 49 = .ok (.iconst 1, 1) := by decide +kernel
theorem dX5_dead_50 : decode cX5_dead 50 = .ok (.ireturn, 1) := by decide +kernel
theorem dX5_edition_0 : decode cX5_edition 0 = .ok (.iload_n 1, 1) := by decide +kernel
theorem dX5_edition_1 : decode cX5_edition 1 = .ok (.iconst 1, 1) := by decide +kernel
theorem dX5_edition_2 : decode cX5_edition 2 = .ok (.if_icmp .lt 10, 3) := by decide +kernel
theorem dX5_edition_5 : decode cX5_edition 5 = .ok (.iload_n 1, 1) := by decide +kernel
theorem dX5_edition_6 : decode cX5_edition 6 = .ok (.sipush 200, 3) := by decide +kernel
theorem dX5_edition_9 : decode cX5_edition 9 = .ok (.if_icmp .le 6, 3) := by decide +kernel
theorem dX5_edition_12 : decode cX5_edition 12 = .ok (.bipush (-2), 2) := by decide +kernel
theorem dX5_edition_14 : decode cX5_edition 14 = .ok (.ireturn, 1) := by decide +kernel
theorem dX5_edition_15 : decode cX5_edition 15 = .ok (.aload_n 0, 1) := by decide +kernel
theorem dX5_edition_16 : decode cX5_edition 16 = .ok (.iload_n 1, 1) := by decide +kernel
theorem dX5_edition_17 : decode cX5_edition 17 = .ok (.putfield 52, 3) := by decide +kernel
theorem dX5_edition_20 : decode cX5_edition 20 = .ok (.iconst 1, 1) := by decide +kernel
theorem dX5_edition_21 : decode cX5_edition 21 = .ok (.ireturn, 1) := by decide +kernel
theorem dX5_aboutRunning_0 : decode cX5_aboutRunning 0 = .ok (.iload_n 1, 1) := by decide +kernel
theorem dX5_aboutRunning_1 : decode cX5_aboutRunning 1 = .ok (.tableswitch 90 1 7 #[43, 51, 59, 67, 75, 80, 85], 43) := by decide +kernel
theorem dX5_aboutRunning_44 : decode cX5_aboutRunning 44 = .ok (.aload_n 0, 1) := by decide +kernel
theorem dX5_aboutRunning_45 : decode cX5_aboutRunning 45 = .ok (.getfield 34, 3) := by decide +kernel
theorem dX5_aboutRunning_48 : decode cX5_aboutRunning 48 = .ok (.invokevirtual 93, 3) := by decide +kernel
theorem dX5_aboutRunning_51 : decode cX5_aboutRunning 51 = .ok (.ireturn, 1) := by decide +kernel
theorem dX5_aboutRunning_52 : decode cX5_aboutRunning 52 = .ok (.aload_n 0, 1) := by decide +kernel
theorem dX5_aboutRunning_53 : decode cX5_aboutRunning 53 = .ok (.getfield 27, 3) := by decide +kernel
theorem dX5_aboutRunning_56 : decode cX5_aboutRunning 56 = .ok (.invokevirtual 189, 3) := by decide +kernel
theorem dX5_aboutRunning_59 : decode cX5_aboutRunning 59 = .ok (.ireturn, 1) := by decide +kernel
theorem dX5_aboutRunning_60 : decode cX5_aboutRunning 60 = .ok (.aload_n 0, 1) := by decide +kernel
theorem dX5_aboutRunning_61 : decode cX5_aboutRunning 61 = .ok (.getfield 41, 3) := by decide +kernel
theorem dX5_aboutRunning_64 : decode cX5_aboutRunning 64 = .ok (.invokevirtual 192, 3) := by decide +kernel
theorem dX5_aboutRunning_67 : decode cX5_aboutRunning 67 = .ok (.ireturn, 1) := by decide +kernel
theorem dX5_aboutRunning_68 : decode cX5_aboutRunning 68 = .ok (.aload_n 0, 1) := by decide +kernel
theorem dX5_aboutRunning_69 : decode cX5_aboutRunning 69 = .ok (.getfield 34, 3) := by decide +kernel
theorem dX5_aboutRunning_72 : decode cX5_aboutRunning 72 = .ok (.invokevirtual 180, 3) := by decide +kernel
theorem dX5_aboutRunning_75 : decode cX5_aboutRunning 75 = .ok (.ireturn, 1) := by decide +kernel
theorem dX5_aboutRunning_76 : decode cX5_aboutRunning 76 = .ok (.aload_n 0, 1) := by decide +kernel
theorem dX5_aboutRunning_77 : decode cX5_aboutRunning 77 = .ok (.getfield 128, 3) := by decide +kernel
theorem dX5_aboutRunning_80 : decode cX5_aboutRunning 80 = .ok (.ireturn, 1) := by decide +kernel
theorem dX5_aboutRunning_81 : decode cX5_aboutRunning 81 = .ok (.aload_n 0, 1) := by decide +kernel
theorem dX5_aboutRunning_82 : decode cX5_aboutRunning 82 = .ok (.getfield 195, 3) := by decide +kernel
theorem dX5_aboutRunning_85 : decode cX5_aboutRunning 85 = .ok (.ireturn, 1) := by decide +kernel
theorem dX5_aboutRunning_86 : decode cX5_aboutRunning 86 = .ok (.aload_n 0, 1) := by decide +kernel
theorem dX5_aboutRunning_87 : decode cX5_aboutRunning 87 = .ok (.getfield 49, 3) := by decide +kernel
theorem dX5_aboutRunning_90 : decode cX5_aboutRunning 90 = .ok (.ireturn, 1) := by decide +kernel
theorem dX5_aboutRunning_91 : decode cX5_aboutRunning 91 = .ok (.iconst (-1), 1) := by decide +kernel
theorem dX5_aboutRunning_92 : decode cX5_aboutRunning 92 = .ok (.ireturn, 1) := by decide +kernel
theorem dX5_about_0 : decode cX5_about 0 = .ok (.iload_n 1, 1) := by decide +kernel
theorem dX5_about_1 : decode cX5_about 1 = .ok (.ifCond .ne 16, 3) := by decide +kernel
theorem dX5_about_4 : decode cX5_about 4 = .ok (.aload_n 0, 1) := by decide +kernel
theorem dX5_about_5 : decode cX5_about 5 = .ok (.getfield 55, 3) := by decide +kernel
theorem dX5_about_8 : decode cX5_about 8 = .ok (.ifCond .eq 7, 3) := by decide +kernel
theorem dX5_about_11 : decode cX5_about 11 = .ok (.iconst 1, 1) := by decide +kernel
theorem dX5_about_12 : decode cX5_about 12 = .ok (.goto 4, 3) := by decide +kernel
theorem dX5_about_15 : decode cX5_about 15 = .ok (.iconst 0, 1) := by decide +kernel
theorem dX5_about_16 : decode cX5_about 16 = .ok (.ireturn, 1) := by decide +kernel
theorem dX5_about_17 : decode cX5_about 17 = .ok (.iload_n 1, 1) := by decide +kernel
theorem dX5_about_18 : decode cX5_about 18 = .ok (.bipush 8, 2) := by decide +kernel
theorem dX5_about_20 : decode cX5_about 20 = .ok (.if_icmp .ne 11, 3) := by decide +kernel
theorem dX5_about_23 : decode cX5_about 23 = .ok (.aload_n 0, 1) := by decide +kernel
theorem dX5_about_24 : decode cX5_about 24 = .ok (.getfield 34, 3) := by decide +kernel
theorem dX5_about_27 : decode cX5_about 27 = .ok (.invokevirtual 183, 3) := by decide +kernel
theorem dX5_about_30 : decode cX5_about 30 = .ok (.ireturn, 1) := by decide +kernel
theorem dX5_about_31 : decode cX5_about 31 = .ok (.aload_n 0, 1) := by decide +kernel
theorem dX5_about_32 : decode cX5_about 32 = .ok (.getfield 55, 3) := by decide +kernel
theorem dX5_about_35 : decode cX5_about 35 = .ok (.ifCond .eq 11, 3) := by decide +kernel
theorem dX5_about_38 : decode cX5_about 38 = .ok (.aload_n 0, 1) := by decide +kernel
theorem dX5_about_39 : decode cX5_about 39 = .ok (.iload_n 1, 1) := by decide +kernel
theorem dX5_about_40 : decode cX5_about 40 = .ok (.invokevirtual 186, 3) := by decide +kernel
theorem dX5_about_43 : decode cX5_about 43 = .ok (.goto 4, 3) := by decide +kernel
theorem dX5_about_46 : decode cX5_about 46 = .ok (.iconst (-1), 1) := by decide +kernel
theorem dX5_about_47 : decode cX5_about 47 = .ok (.ireturn, 1) := by decide +kernel
theorem dX5_start_0 : decode cX5_start 0 = .ok (.aload_n 0, 1) := by decide +kernel
theorem dX5_start_1 : decode cX5_start 1 = .ok (.getfield 55, 3) := by decide +kernel
theorem dX5_start_4 : decode cX5_start 4 = .ok (.ifCond .eq 6, 3) := by decide +kernel
theorem dX5_start_7 : decode cX5_start 7 = .ok (.bipush (-3), 2) := by decide +kernel
theorem dX5_start_9 : decode cX5_start 9 = .ok (.ireturn, 1) := by decide +kernel
theorem dX5_start_10 : decode cX5_start 10 = .ok (.aload_n 0, 1) := by decide +kernel
theorem dX5_start_11 : decode cX5_start 11 = .ok (.getfield 27, 3) := by decide +kernel
theorem dX5_start_14 : decode cX5_start 14 = .ok (.getfield 59, 3) := by decide +kernel
theorem dX5_start_17 : decode cX5_start 17 = .ok (.invokestatic 63, 3) := by decide +kernel
theorem dX5_start_20 : decode cX5_start 20 = .ok (.istore_n 1, 1) := by decide +kernel
theorem dX5_start_21 : decode cX5_start 21 = .ok (.iload_n 1, 1) := by decide +kernel
theorem dX5_start_22 : decode cX5_start 22 = .ok (.iconst (-1), 1) := by decide +kernel
theorem dX5_start_23 : decode cX5_start 23 = .ok (.if_icmp .eq 23, 3) := by decide +kernel
theorem dX5_start_26 : decode cX5_start 26 = .ok (.aload_n 0, 1) := by decide +kernel
theorem dX5_start_27 : decode cX5_start 27 = .ok (.aload_n 0, 1) := by decide +kernel
theorem dX5_start_28 : decode cX5_start 28 = .ok (.getfield 27, 3) := by decide +kernel
theorem dX5_start_31 : decode cX5_start 31 = .ok (.getfield 59, 3) := by decide +kernel
theorem dX5_start_34 : decode cX5_start 34 = .ok (.iload_n 1, 1) := by decide +kernel
theorem dX5_start_35 : decode cX5_start 35 = .ok (.invokestatic 69, 3) := by decide +kernel
theorem dX5_start_38 : decode cX5_start 38 = .ok (.invokevirtual 73, 3) := by decide +kernel
theorem dX5_start_41 : decode cX5_start 41 = .ok (.ifCond .ne 5, 3) := by decide +kernel
theorem dX5_start_44 : decode cX5_start 44 = .ok (.iconst (-1), 1) := by decide +kernel
theorem dX5_start_45 : decode cX5_start 45 = .ok (.ireturn, 1) := by decide +kernel
theorem dX5_start_46 : decode cX5_start 46 = .ok (.iload_n 1, 1) := by decide +kernel
theorem dX5_start_47 : decode cX5_start 47 = .ok (.iconst (-1), 1) := by decide +kernel
theorem dX5_start_48 : decode cX5_start 48 = .ok (.if_icmp .ne 10, 3) := by decide +kernel
theorem dX5_start_51 : decode cX5_start 51 = .ok (.aload_n 0, 1) := by decide +kernel
theorem dX5_start_52 : decode cX5_start 52 = .ok (.invokevirtual 77, 3) := by decide +kernel
theorem dX5_start_55 : decode cX5_start 55 = .ok (.goto 8, 3) := by decide +kernel
theorem dX5_start_58 : decode cX5_start 58 = .ok (.aload_n 0, 1) := by decide +kernel
theorem dX5_start_59 : decode cX5_start 59 = .ok (.iload_n 1, 1) := by decide +kernel
theorem dX5_start_60 : decode cX5_start 60 = .ok (.invokevirtual 80, 3) := by decide +kernel
theorem dX5_start_63 : decode cX5_start 63 = .ok (.aload_n 0, 1) := by decide +kernel
theorem dX5_start_64 : decode cX5_start 64 = .ok (.aload_n 0, 1) := by decide +kernel
theorem dX5_start_65 : decode cX5_start 65 = .ok (.getfield 52, 3) := by decide +kernel
theorem dX5_start_68 : decode cX5_start 68 = .ok (.putfield 83, 3) := by decide +kernel
theorem dX5_start_71 : decode cX5_start 71 = .ok (.aload_n 0, 1) := by decide +kernel
theorem dX5_start_72 : decode cX5_start 72 = .ok (.aload_n 0, 1) := by decide +kernel
theorem dX5_start_73 : decode cX5_start 73 = .ok (.getfield 34, 3) := by decide +kernel
theorem dX5_start_76 : decode cX5_start 76 = .ok (.invokevirtual 86, 3) := by decide +kernel
theorem dX5_start_79 : decode cX5_start 79 = .ok (.putfield 90, 3) := by decide +kernel
theorem dX5_start_82 : decode cX5_start 82 = .ok (.aload_n 0, 1) := by decide +kernel
theorem dX5_start_83 : decode cX5_start 83 = .ok (.aload_n 0, 1) := by decide +kernel
theorem dX5_start_84 : decode cX5_start 84 = .ok (.getfield 34, 3) := by decide +kernel
theorem dX5_start_87 : decode cX5_start 87 = .ok (.invokevirtual 93, 3) := by decide +kernel
theorem dX5_start_90 : decode cX5_start 90 = .ok (.putfield 96, 3) := by decide +kernel
theorem dX5_start_93 : decode cX5_start 93 = .ok (.aload_n 0, 1) := by decide +kernel
theorem dX5_start_94 : decode cX5_start 94 = .ok (.invokevirtual 99, 3) := by decide +kernel
theorem dX5_start_97 : decode cX5_start 97 = .ok (.aload_n 0, 1) := by decide +kernel
theorem dX5_start_98 : decode cX5_start 98 = .ok (.iconst 1, 1) := by decide +kernel
theorem dX5_start_99 : decode cX5_start 99 = .ok (.putfield 55, 3) := by decide +kernel
theorem dX5_start_102 : decode cX5_start 102 = .ok (.aload_n 0, 1) := by decide +kernel
theorem dX5_start_103 : decode cX5_start 103 = .ok (.getfield 34, 3) := by decide +kernel
theorem dX5_start_106 : decode cX5_start 106 = .ok (.invokevirtual 93, 3) := by decide +kernel
theorem dX5_start_109 : decode cX5_start 109 = .ok (.aload_n 0, 1) := by decide +kernel
theorem dX5_start_110 : decode cX5_start 110 = .ok (.getfield 34, 3) := by decide +kernel
theorem dX5_start_113 : decode cX5_start 113 = .ok (.invokevirtual 86, 3) := by decide +kernel
theorem dX5_start_116 : decode cX5_start 116 = .ok (.isub, 1) := by decide +kernel
theorem dX5_start_117 : decode cX5_start 117 = .ok (.ireturn, 1) := by decide +kernel
theorem dX5_sector_0 : decode cX5_sector 0 = .ok (.iload_n 1, 1) := by decide +kernel
theorem dX5_sector_1 : decode cX5_sector 1 = .ok (.ifCond .lt 25, 3) := by decide +kernel
theorem dX5_sector_4 : decode cX5_sector 4 = .ok (.iload_n 1, 1) := by decide +kernel
theorem dX5_sector_5 : decode cX5_sector 5 = .ok (.aload_n 0, 1) := by decide +kernel
theorem dX5_sector_6 : decode cX5_sector 6 = .ok (.getfield 27, 3) := by decide +kernel
theorem dX5_sector_9 : decode cX5_sector 9 = .ok (.getfield 167, 3) := by decide +kernel
theorem dX5_sector_12 : decode cX5_sector 12 = .ok (.if_icmp .ge 14, 3) := by decide +kernel
theorem dX5_sector_15 : decode cX5_sector 15 = .ok (.iload_n 2, 1) := by decide +kernel
theorem dX5_sector_16 : decode cX5_sector 16 = .ok (.ifCond .lt 10, 3) := by decide +kernel
theorem dX5_sector_19 : decode cX5_sector 19 = .ok (.iload_n 2, 1) := by decide +kernel
theorem dX5_sector_20 : decode cX5_sector 20 = .ok (.sipush 512, 3) := by decide +kernel
theorem dX5_sector_23 : decode cX5_sector 23 = .ok (.if_icmp .lt 13, 3) := by decide +kernel
theorem dX5_sector_26 : decode cX5_sector 26 = .ok (.new 170, 3) := by decide +kernel
theorem dX5_sector_29 : decode cX5_sector 29 = .ok (.dup, 1) := by decide +kernel
theorem dX5_sector_30 : decode cX5_sector 30 = .ok (.ldc 172, 2) := by decide +kernel
theorem dX5_sector_32 : decode cX5_sector 32 = .ok (.invokespecial 174, 3) := by decide +kernel
theorem dX5_sector_35 : decode cX5_sector 35 = .ok (.athrow, 1) := by decide +kernel
theorem dX5_sector_36 : decode cX5_sector 36 = .ok (.aload_n 0, 1) := by decide +kernel
theorem dX5_sector_37 : decode cX5_sector 37 = .ok (.getfield 27, 3) := by decide +kernel
theorem dX5_sector_40 : decode cX5_sector 40 = .ok (.getfield 59, 3) := by decide +kernel
theorem dX5_sector_43 : decode cX5_sector 43 = .ok (.iload_n 1, 1) := by decide +kernel
theorem dX5_sector_44 : decode cX5_sector 44 = .ok (.sipush 512, 3) := by decide +kernel
theorem dX5_sector_47 : decode cX5_sector 47 = .ok (.imul, 1) := by decide +kernel
theorem dX5_sector_48 : decode cX5_sector 48 = .ok (.iload_n 2, 1) := by decide +kernel
theorem dX5_sector_49 : decode cX5_sector 49 = .ok (.iadd, 1) := by decide +kernel
theorem dX5_sector_50 : decode cX5_sector 50 = .ok (.baload, 1) := by decide +kernel
theorem dX5_sector_51 : decode cX5_sector 51 = .ok (.ireturn, 1) := by decide +kernel
theorem dX6_isKey_0 : decode cX6_isKey 0 = .ok (.iload_n 0, 1) := by decide +kernel
theorem dX6_isKey_1 : decode cX6_isKey 1 = .ok (.ifCond .lt 13, 3) := by decide +kernel
theorem dX6_isKey_4 : decode cX6_isKey 4 = .ok (.iload_n 0, 1) := by decide +kernel
theorem dX6_isKey_5 : decode cX6_isKey 5 = .ok (.bipush 64, 2) := by decide +kernel
theorem dX6_isKey_7 : decode cX6_isKey 7 = .ok (.if_icmp .ge 7, 3) := by decide +kernel
theorem dX6_isKey_10 : decode cX6_isKey 10 = .ok (.iconst 1, 1) := by decide +kernel
theorem dX6_isKey_11 : decode cX6_isKey 11 = .ok (.goto 4, 3) := by decide +kernel
theorem dX6_isKey_14 : decode cX6_isKey 14 = .ok (.iconst 0, 1) := by decide +kernel
theorem dX6_isKey_15 : decode cX6_isKey 15 = .ok (.ireturn, 1) := by decide +kernel
theorem dX6_isUser_0 : decode cX6_isUser 0 = .ok (.iload_n 0, 1) := by decide +kernel
theorem dX6_isUser_1 : decode cX6_isUser 1 = .ok (.ifCond .lt 13, 3) := by decide +kernel
theorem dX6_isUser_4 : decode cX6_isUser 4 = .ok (.iload_n 0, 1) := by decide +kernel
theorem dX6_isUser_5 : decode cX6_isUser 5 = .ok (.bipush 8, 2) := by decide +kernel
theorem dX6_isUser_7 : decode cX6_isUser 7 = .ok (.if_icmp .ge 7, 3) := by decide +kernel
theorem dX6_isUser_10 : decode cX6_isUser 10 = .ok (.iconst 1, 1) := by decide +kernel
theorem dX6_isUser_11 : decode cX6_isUser 11 = .ok (.goto 4, 3) := by decide +kernel
theorem dX6_isUser_14 : decode cX6_isUser 14 = .ok (.iconst 0, 1) := by decide +kernel
theorem dX6_isUser_15 : decode cX6_isUser 15 = .ok (.ireturn, 1) := by decide +kernel
theorem dX6_bring_0 : decode cX6_bring 0 = .ok (.iconst 0, 1) := by decide +kernel
theorem dX6_bring_1 : decode cX6_bring 1 = .ok (.istore_n 3, 1) := by decide +kernel
theorem dX6_bring_2 : decode cX6_bring 2 = .ok (.iload_n 3, 1) := by decide +kernel
theorem dX6_bring_3 : decode cX6_bring 3 = .ok (.iload_n 2, 1) := by decide +kernel
theorem dX6_bring_4 : decode cX6_bring 4 = .ok (.if_icmp .ge 38, 3) := by decide +kernel
theorem dX6_bring_7 : decode cX6_bring 7 = .ok (.aload_n 0, 1) := by decide +kernel
theorem dX6_bring_8 : decode cX6_bring 8 = .ok (.getfield 7, 3) := by decide +kernel
theorem dX6_bring_11 : decode cX6_bring 11 = .ok (.sipush 512, 3) := by decide +kernel
theorem dX6_bring_14 : decode cX6_bring 14 = .ok (.aload_n 0, 1) := by decide +kernel
theorem dX6_bring_15 : decode cX6_bring 15 = .ok (.getfield 17, 3) := by decide +kernel
theorem dX6_bring_18 : decode cX6_bring 18 = .ok (.iload_n 1, 1) := by decide +kernel
theorem dX6_bring_19 : decode cX6_bring 19 = .ok (.iaload, 1) := by decide +kernel
theorem dX6_bring_20 : decode cX6_bring 20 = .ok (.imul, 1) := by decide +kernel
theorem dX6_bring_21 : decode cX6_bring 21 = .ok (.iload_n 3, 1) := by decide +kernel
theorem dX6_bring_22 : decode cX6_bring 22 = .ok (.iadd, 1) := by decide +kernel
theorem dX6_bring_23 : decode cX6_bring 23 = .ok (.aload_n 0, 1) := by decide +kernel
theorem dX6_bring_24 : decode cX6_bring 24 = .ok (.getfield 14, 3) := by decide +kernel
theorem dX6_bring_27 : decode cX6_bring 27 = .ok (.sipush 512, 3) := by decide +kernel
theorem dX6_bring_30 : decode cX6_bring 30 = .ok (.iload_n 1, 1) := by decide +kernel
theorem dX6_bring_31 : decode cX6_bring 31 = .ok (.imul, 1) := by decide +kernel
theorem dX6_bring_32 : decode cX6_bring 32 = .ok (.iload_n 3, 1) := by decide +kernel
theorem dX6_bring_33 : decode cX6_bring 33 = .ok (.iadd, 1) := by decide +kernel
theorem dX6_bring_34 : decode cX6_bring 34 = .ok (.iaload, 1) := by decide +kernel
theorem dX6_bring_35 : decode cX6_bring 35 = .ok (.iastore, 1) := by decide +kernel
theorem dX6_bring_36 : decode cX6_bring 36 = .ok (.iinc 3 1, 3) := by decide +kernel
theorem dX6_bring_39 : decode cX6_bring 39 = .ok (.goto (-37), 3) := by decide +kernel
theorem dX6_bring_42 : decode cX6_bring 42 = .ok (.return_, 1) := by decide +kernel
theorem dX6_bringAll_0 : decode cX6_bringAll 0 = .ok (.iconst 0, 1) := by decide +kernel
theorem dX6_bringAll_1 : decode cX6_bringAll 1 = .ok (.istore_n 1, 1) := by decide +kernel
theorem dX6_bringAll_2 : decode cX6_bringAll 2 = .ok (.iload_n 1, 1) := by decide +kernel
theorem dX6_bringAll_3 : decode cX6_bringAll 3 = .ok (.aload_n 0, 1) := by decide +kernel
theorem dX6_bringAll_4 : decode cX6_bringAll 4 = .ok (.getfield 62, 3) := by decide +kernel
theorem dX6_bringAll_7 : decode cX6_bringAll 7 = .ok (.if_icmp .ge 17, 3) := by decide +kernel
theorem dX6_bringAll_10 : decode cX6_bringAll 10 = .ok (.aload_n 0, 1) := by decide +kernel
theorem dX6_bringAll_11 : decode cX6_bringAll 11 = .ok (.iload_n 1, 1) := by decide +kernel
theorem dX6_bringAll_12 : decode cX6_bringAll 12 = .ok (.sipush 512, 3) := by decide +kernel
theorem dX6_bringAll_15 : decode cX6_bringAll 15 = .ok (.invokevirtual 65, 3) := by decide +kernel
theorem dX6_bringAll_18 : decode cX6_bringAll 18 = .ok (.iinc 1 1, 3) := by decide +kernel
theorem dX6_bringAll_21 : decode cX6_bringAll 21 = .ok (.goto (-19), 3) := by decide +kernel
theorem dX6_bringAll_24 : decode cX6_bringAll 24 = .ok (.aload_n 0, 1) := by decide +kernel
theorem dX6_bringAll_25 : decode cX6_bringAll 25 = .ok (.iconst 0, 1) := by decide +kernel
theorem dX6_bringAll_26 : decode cX6_bringAll 26 = .ok (.putfield 62, 3) := by decide +kernel
theorem dX6_bringAll_29 : decode cX6_bringAll 29 = .ok (.return_, 1) := by decide +kernel
theorem dX6_load_0 : decode cX6_load 0 = .ok (.iconst 0, 1) := by decide +kernel
theorem dX6_load_1 : decode cX6_load 1 = .ok (.istore_n 2, 1) := by decide +kernel
theorem dX6_load_2 : decode cX6_load 2 = .ok (.iload_n 2, 1) := by decide +kernel
theorem dX6_load_3 : decode cX6_load 3 = .ok (.sipush 512, 3) := by decide +kernel
theorem dX6_load_6 : decode cX6_load 6 = .ok (.if_icmp .ge 27, 3) := by decide +kernel
theorem dX6_load_9 : decode cX6_load 9 = .ok (.aload_n 0, 1) := by decide +kernel
theorem dX6_load_10 : decode cX6_load 10 = .ok (.getfield 20, 3) := by decide +kernel
theorem dX6_load_13 : decode cX6_load 13 = .ok (.iload_n 2, 1) := by decide +kernel
theorem dX6_load_14 : decode cX6_load 14 = .ok (.aload_n 0, 1) := by decide +kernel
theorem dX6_load_15 : decode cX6_load 15 = .ok (.getfield 7, 3) := by decide +kernel
theorem dX6_load_18 : decode cX6_load 18 = .ok (.sipush 512, 3) := by decide +kernel
theorem dX6_load_21 : decode cX6_load 21 = .ok (.iload_n 1, 1) := by decide +kernel
theorem dX6_load_22 : decode cX6_load 22 = .ok (.imul, 1) := by decide +kernel
theorem dX6_load_23 : decode cX6_load 23 = .ok (.iload_n 2, 1) := by decide +kernel
theorem dX6_load_24 : decode cX6_load 24 = .ok (.iadd, 1) := by decide +kernel
theorem dX6_load_25 : decode cX6_load 25 = .ok (.iaload, 1) := by decide +kernel
theorem dX6_load_26 : decode cX6_load 26 = .ok (.iastore, 1) := by decide +kernel
theorem dX6_load_27 : decode cX6_load 27 = .ok (.iinc 2 1, 3) := by decide +kernel
theorem dX6_load_30 : decode cX6_load 30 = .ok (.goto (-28), 3) := by decide +kernel
theorem dX6_load_33 : decode cX6_load 33 = .ok (.iconst 0, 1) := by decide +kernel
theorem dX6_load_34 : decode cX6_load 34 = .ok (.istore_n 2, 1) := by decide +kernel
theorem dX6_load_35 : decode cX6_load 35 = .ok (.iload_n 2, 1) := by decide +kernel
theorem dX6_load_36 : decode cX6_load 36 = .ok (.aload_n 0, 1) := by decide +kernel
theorem dX6_load_37 : decode cX6_load 37 = .ok (.getfield 62, 3) := by decide +kernel
theorem dX6_load_40 : decode cX6_load 40 = .ok (.if_icmp .ge 52, 3) := by decide +kernel
theorem dX6_load_43 : decode cX6_load 43 = .ok (.aload_n 0, 1) := by decide +kernel
theorem dX6_load_44 : decode cX6_load 44 = .ok (.getfield 17, 3) := by decide +kernel
theorem dX6_load_47 : decode cX6_load 47 = .ok (.iload_n 2, 1) := by decide +kernel
theorem dX6_load_48 : decode cX6_load 48 = .ok (.iaload, 1) := by decide +kernel
theorem dX6_load_49 : decode cX6_load 49 = .ok (.iload_n 1, 1) := by decide +kernel
theorem dX6_load_50 : decode cX6_load 50 = .ok (.if_icmp .ne 36, 3) := by decide +kernel
theorem dX6_load_53 : decode cX6_load 53 = .ok (.iconst 0, 1) := by decide +kernel
theorem dX6_load_54 : decode cX6_load 54 = .ok (.istore_n 3, 1) := by decide +kernel
theorem dX6_load_55 : decode cX6_load 55 = .ok (.iload_n 3, 1) := by decide +kernel
theorem dX6_load_56 : decode cX6_load 56 = .ok (.sipush 512, 3) := by decide +kernel
theorem dX6_load_59 : decode cX6_load 59 = .ok (.if_icmp .ge 27, 3) := by decide +kernel
theorem dX6_load_62 : decode cX6_load 62 = .ok (.aload_n 0, 1) := by decide +kernel
theorem dX6_load_63 : decode cX6_load 63 = .ok (.getfield 20, 3) := by decide +kernel
theorem dX6_load_66 : decode cX6_load 66 = .ok (.iload_n 3, 1) := by decide +kernel
theorem dX6_load_67 : decode cX6_load 67 = .ok (.aload_n 0, 1) := by decide +kernel
theorem dX6_load_68 : decode cX6_load 68 = .ok (.getfield 14, 3) := by decide +kernel
theorem dX6_load_71 : decode cX6_load 71 = .ok (.sipush 512, 3) := by decide +kernel
theorem dX6_load_74 : decode cX6_load 74 = .ok (.iload_n 2, 1) := by decide +kernel
theorem dX6_load_75 : decode cX6_load 75 = .ok (.imul, 1) := by decide +kernel
theorem dX6_load_76 : decode cX6_load 76 = .ok (.iload_n 3, 1) := by decide +kernel
theorem dX6_load_77 : decode cX6_load 77 = .ok (.iadd, 1) := by decide +kernel
theorem dX6_load_78 : decode cX6_load 78 = .ok (.iaload, 1) := by decide +kernel
theorem dX6_load_79 : decode cX6_load 79 = .ok (.iastore, 1) := by decide +kernel
theorem dX6_load_80 : decode cX6_load 80 = .ok (.iinc 3 1, 3) := by decide +kernel
theorem dX6_load_83 : decode cX6_load 83 = .ok (.goto (-28), 3) := by decide +kernel
theorem dX6_load_86 : decode cX6_load 86 = .ok (.iinc 2 1, 3) := by decide +kernel
theorem dX6_load_89 : decode cX6_load 89 = .ok (.goto (-54), 3) := by decide +kernel
theorem dX6_load_92 : decode cX6_load 92 = .ok (.return_, 1) := by decide +kernel
theorem dX6_clear_0 : decode cX6_clear 0 = .ok (.iconst 0, 1) := by decide +kernel
theorem dX6_clear_1 : decode cX6_clear 1 = .ok (.istore_n 1, 1) := by decide +kernel
theorem dX6_clear_2 : decode cX6_clear 2 = .ok (.iload_n 1, 1) := by decide +kernel
theorem dX6_clear_3 : decode cX6_clear 3 = .ok (.sipush 512, 3) := by decide +kernel
theorem dX6_clear_6 : decode cX6_clear 6 = .ok (.if_icmp .ge 16, 3) := by decide +kernel
theorem dX6_clear_9 : decode cX6_clear 9 = .ok (.aload_n 0, 1) := by decide +kernel
theorem dX6_clear_10 : decode cX6_clear 10 = .ok (.getfield 20, 3) := by decide +kernel
theorem dX6_clear_13 : decode cX6_clear 13 = .ok (.iload_n 1, 1) := by decide +kernel
theorem dX6_clear_14 : decode cX6_clear 14 = .ok (.iconst 0, 1) := by decide +kernel
theorem dX6_clear_15 : decode cX6_clear 15 = .ok (.iastore, 1) := by decide +kernel
theorem dX6_clear_16 : decode cX6_clear 16 = .ok (.iinc 1 1, 3) := by decide +kernel
theorem dX6_clear_19 : decode cX6_clear 19 = .ok (.goto (-17), 3) := by decide +kernel
theorem dX6_clear_22 : decode cX6_clear 22 = .ok (.return_, 1) := by decide +kernel
theorem dX6_send_0 : decode cX6_send 0 = .ok (.aload_n 0, 1) := by decide +kernel
theorem dX6_send_1 : decode cX6_send 1 = .ok (.getfield 62, 3) := by decide +kernel
theorem dX6_send_4 : decode cX6_send 4 = .ok (.bipush 64, 2) := by decide +kernel
theorem dX6_send_6 : decode cX6_send 6 = .ok (.if_icmp .ne 7, 3) := by decide +kernel
theorem dX6_send_9 : decode cX6_send 9 = .ok (.aload_n 0, 1) := by decide +kernel
theorem dX6_send_10 : decode cX6_send 10 = .ok (.invokevirtual 69, 3) := by decide +kernel
theorem dX6_send_13 : decode cX6_send 13 = .ok (.aload_n 0, 1) := by decide +kernel
theorem dX6_send_14 : decode cX6_send 14 = .ok (.getfield 17, 3) := by decide +kernel
theorem dX6_send_17 : decode cX6_send 17 = .ok (.aload_n 0, 1) := by decide +kernel
theorem dX6_send_18 : decode cX6_send 18 = .ok (.getfield 62, 3) := by decide +kernel
theorem dX6_send_21 : decode cX6_send 21 = .ok (.iload_n 1, 1) := by decide +kernel
theorem dX6_send_22 : decode cX6_send 22 = .ok (.iastore, 1) := by decide +kernel
theorem dX6_send_23 : decode cX6_send 23 = .ok (.iconst 0, 1) := by decide +kernel
theorem dX6_send_24 : decode cX6_send 24 = .ok (.istore_n 2, 1) := by decide +kernel
theorem dX6_send_25 : decode cX6_send 25 = .ok (.iload_n 2, 1) := by decide +kernel
theorem dX6_send_26 : decode cX6_send 26 = .ok (.sipush 512, 3) := by decide +kernel
theorem dX6_send_29 : decode cX6_send 29 = .ok (.if_icmp .ge 30, 3) := by decide +kernel
theorem dX6_send_32 : decode cX6_send 32 = .ok (.aload_n 0, 1) := by decide +kernel
theorem dX6_send_33 : decode cX6_send 33 = .ok (.getfield 14, 3) := by decide +kernel
theorem dX6_send_36 : decode cX6_send 36 = .ok (.sipush 512, 3) := by decide +kernel
theorem dX6_send_39 : decode cX6_send 39 = .ok (.aload_n 0, 1) := by decide +kernel
theorem dX6_send_40 : decode cX6_send 40 = .ok (.getfield 62, 3) := by decide +kernel
theorem dX6_send_43 : decode cX6_send 43 = .ok (.imul, 1) := by decide +kernel
theorem dX6_send_44 : decode cX6_send 44 = .ok (.iload_n 2, 1) := by decide +kernel
theorem dX6_send_45 : decode cX6_send 45 = .ok (.iadd, 1) := by decide +kernel
theorem dX6_send_46 : decode cX6_send 46 = .ok (.aload_n 0, 1) := by decide +kernel
theorem dX6_send_47 : decode cX6_send 47 = .ok (.getfield 20, 3) := by decide +kernel
theorem dX6_send_50 : decode cX6_send 50 = .ok (.iload_n 2, 1) := by decide +kernel
theorem dX6_send_51 : decode cX6_send 51 = .ok (.iaload, 1) := by decide +kernel
theorem dX6_send_52 : decode cX6_send 52 = .ok (.iastore, 1) := by decide +kernel
theorem dX6_send_53 : decode cX6_send 53 = .ok (.iinc 2 1, 3) := by decide +kernel
theorem dX6_send_56 : decode cX6_send 56 = .ok (.goto (-31), 3) := by decide +kernel
theorem dX6_send_59 : decode cX6_send 59 = .ok (.aload_n 0, 1) := by decide +kernel
theorem dX6_send_60 : decode cX6_send 60 = .ok (.dup, 1) := by decide +kernel
theorem dX6_send_61 : decode cX6_send 61 = .ok (.getfield 62, 3) := by decide +kernel
theorem dX6_send_64 : decode cX6_send 64 = .ok (.iconst 1, 1) := by decide +kernel
theorem dX6_send_65 : decode cX6_send 65 = .ok (.iadd, 1) := by decide +kernel
theorem dX6_send_66 : decode cX6_send 66 = .ok (.putfield 62, 3) := by decide +kernel
theorem dX6_send_69 : decode cX6_send 69 = .ok (.return_, 1) := by decide +kernel
theorem dX6_put_0 : decode cX6_put 0 = .ok (.iconst 0, 1) := by decide +kernel
theorem dX6_put_1 : decode cX6_put 1 = .ok (.istore 5, 2) := by decide +kernel
theorem dX6_put_3 : decode cX6_put 3 = .ok (.iload 5, 2) := by decide +kernel
theorem dX6_put_5 : decode cX6_put 5 = .ok (.iload 4, 2) := by decide +kernel
theorem dX6_put_7 : decode cX6_put 7 = .ok (.if_icmp .ge 35, 3) := by decide +kernel
theorem dX6_put_10 : decode cX6_put 10 = .ok (.aload_n 0, 1) := by decide +kernel
theorem dX6_put_11 : decode cX6_put 11 = .ok (.getfield 20, 3) := by decide +kernel
theorem dX6_put_14 : decode cX6_put 14 = .ok (.iload_n 1, 1) := by decide +kernel
theorem dX6_put_15 : decode cX6_put 15 = .ok (.iload 5, 2) := by decide +kernel
theorem dX6_put_17 : decode cX6_put 17 = .ok (.iadd, 1) := by decide +kernel
theorem dX6_put_18 : decode cX6_put 18 = .ok (.lload_n 2, 1) := by decide +kernel
theorem dX6_put_19 : decode cX6_put 19 = .ok (.bipush 8, 2) := by decide +kernel
theorem dX6_put_21 : decode cX6_put 21 = .ok (.iload 4, 2) := by decide +kernel
theorem dX6_put_23 : decode cX6_put 23 = .ok (.iconst 1, 1) := by decide +kernel
theorem dX6_put_24 : decode cX6_put 24 = .ok (.isub, 1) := by decide +kernel
theorem dX6_put_25 : decode cX6_put 25 = .ok (.iload 5, 2) := by decide +kernel
theorem dX6_put_27 : decode cX6_put 27 = .ok (.isub, 1) := by decide +kernel
theorem dX6_put_28 : decode cX6_put 28 = .ok (.imul, 1) := by decide +kernel
theorem dX6_put_29 : decode cX6_put 29 = .ok (.lshr, 1) := by decide +kernel
theorem dX6_put_30 : decode cX6_put 30 = .ok (.ldc2_w 72, 3) := by decide +kernel
theorem dX6_put_33 : decode cX6_put 33 = .ok (.land, 1) := by decide +kernel
theorem dX6_put_34 : decode cX6_put 34 = .ok (.l2i, 1) := by decide +kernel
theorem dX6_put_35 : decode cX6_put 35 = .ok (.iastore, 1) := by decide +kernel
theorem dX6_put_36 : decode cX6_put 36 = .ok (.iinc 5 1, 3) := by decide +kernel
theorem dX6_put_39 : decode cX6_put 39 = .ok (.goto (-36), 3) := by decide +kernel
theorem dX6_put_42 : decode cX6_put 42 = .ok (.return_, 1) := by decide +kernel
theorem dX6_turned_0 : decode cX6_turned 0 = .ok (.iload_n 0, 1) := by decide +kernel
theorem dX6_turned_1 : decode cX6_turned 1 = .ok (.iload_n 1, 1) := by decide +kernel
theorem dX6_turned_2 : decode cX6_turned 2 = .ok (.ishl, 1) := by decide +kernel
theorem dX6_turned_3 : decode cX6_turned 3 = .ok (.iload_n 0, 1) := by decide +kernel
theorem dX6_turned_4 : decode cX6_turned 4 = .ok (.bipush 32, 2) := by decide +kernel
theorem dX6_turned_6 : decode cX6_turned 6 = .ok (.iload_n 1, 1) := by decide +kernel
theorem dX6_turned_7 : decode cX6_turned 7 = .ok (.isub, 1) := by decide +kernel
theorem dX6_turned_8 : decode cX6_turned 8 = .ok (.iushr, 1) := by decide +kernel
theorem dX6_turned_9 : decode cX6_turned 9 = .ok (.ior, 1) := by decide +kernel
theorem dX6_turned_10 : decode cX6_turned 10 = .ok (.ireturn, 1) := by decide +kernel
theorem dX6_sum_0 : decode cX6_sum 0 = .ok (.iload_n 3, 1) := by decide +kernel
theorem dX6_sum_1 : decode cX6_sum 1 = .ok (.iconst 1, 1) := by decide +kernel
theorem dX6_sum_2 : decode cX6_sum 2 = .ok (.iadd, 1) := by decide +kernel
theorem dX6_sum_3 : decode cX6_sum 3 = .ok (.istore 4, 2) := by decide +kernel
theorem dX6_sum_5 : decode cX6_sum 5 = .ok (.iload_n 1, 1) := by decide +kernel
theorem dX6_sum_6 : decode cX6_sum 6 = .ok (.istore 5, 2) := by decide +kernel
theorem dX6_sum_8 : decode cX6_sum 8 = .ok (.iload 5, 2) := by decide +kernel
theorem dX6_sum_10 : decode cX6_sum 10 = .ok (.iload_n 1, 1) := by decide +kernel
theorem dX6_sum_11 : decode cX6_sum 11 = .ok (.iload_n 2, 1) := by decide +kernel
theorem dX6_sum_12 : decode cX6_sum 12 = .ok (.iadd, 1) := by decide +kernel
theorem dX6_sum_13 : decode cX6_sum 13 = .ok (.if_icmp .ge 28, 3) := by decide +kernel
theorem dX6_sum_16 : decode cX6_sum 16 = .ok (.iload 4, 2) := by decide +kernel
theorem dX6_sum_18 : decode cX6_sum 18 = .ok (.aload_n 0, 1) := by decide +kernel
theorem dX6_sum_19 : decode cX6_sum 19 = .ok (.getfield 20, 3) := by decide +kernel
theorem dX6_sum_22 : decode cX6_sum 22 = .ok (.iload 5, 2) := by decide +kernel
theorem dX6_sum_24 : decode cX6_sum 24 = .ok (.iaload, 1) := by decide +kernel
theorem dX6_sum_25 : decode cX6_sum 25 = .ok (.ixor, 1) := by decide +kernel
theorem dX6_sum_26 : decode cX6_sum 26 = .ok (.iconst 5, 1) := by decide +kernel
theorem dX6_sum_27 : decode cX6_sum 27 = .ok (.invokestatic 74, 3) := by decide +kernel
theorem dX6_sum_30 : decode cX6_sum 30 = .ok (.ldc 78, 2) := by decide +kernel
theorem dX6_sum_32 : decode cX6_sum 32 = .ok (.imul, 1) := by decide +kernel
theorem dX6_sum_33 : decode cX6_sum 33 = .ok (.istore 4, 2) := by decide +kernel
theorem dX6_sum_35 : decode cX6_sum 35 = .ok (.iinc 5 1, 3) := by decide +kernel
theorem dX6_sum_38 : decode cX6_sum 38 = .ok (.goto (-30), 3) := by decide +kernel
theorem dX6_sum_41 : decode cX6_sum 41 = .ok (.iload 4, 2) := by decide +kernel
theorem dX6_sum_43 : decode cX6_sum 43 = .ok (.ireturn, 1) := by decide +kernel
theorem dX6_number_0 : decode cX6_number 0 = .ok (.iconst 0, 1) := by decide +kernel
theorem dX6_number_1 : decode cX6_number 1 = .ok (.istore_n 3, 1) := by decide +kernel
theorem dX6_number_2 : decode cX6_number 2 = .ok (.iconst 0, 1) := by decide +kernel
theorem dX6_number_3 : decode cX6_number 3 = .ok (.istore 4, 2) := by decide +kernel
theorem dX6_number_5 : decode cX6_number 5 = .ok (.iload 4, 2) := by decide +kernel
theorem dX6_number_7 : decode cX6_number 7 = .ok (.iload_n 2, 1) := by decide +kernel
theorem dX6_number_8 : decode cX6_number 8 = .ok (.if_icmp .ge 24, 3) := by decide +kernel
theorem dX6_number_11 : decode cX6_number 11 = .ok (.iload_n 3, 1) := by decide +kernel
theorem dX6_number_12 : decode cX6_number 12 = .ok (.bipush 8, 2) := by decide +kernel
theorem dX6_number_14 : decode cX6_number 14 = .ok (.ishl, 1) := by decide +kernel
theorem dX6_number_15 : decode cX6_number 15 = .ok (.aload_n 0, 1) := by decide +kernel
theorem dX6_number_16 : decode cX6_number 16 = .ok (.getfield 20, 3) := by decide +kernel
theorem dX6_number_19 : decode cX6_number 19 = .ok (.iload_n 1, 1) := by decide +kernel
theorem dX6_number_20 : decode cX6_number 20 = .ok (.iload 4, 2) := by decide +kernel
theorem dX6_number_22 : decode cX6_number 22 = .ok (.iadd, 1) := by decide +kernel
theorem dX6_number_23 : decode cX6_number 23 = .ok (.iaload, 1) := by decide +kernel
theorem dX6_number_24 : decode cX6_number 24 = .ok (.ior, 1) := by decide +kernel
theorem dX6_number_25 : decode cX6_number 25 = .ok (.istore_n 3, 1) := by decide +kernel
theorem dX6_number_26 : decode cX6_number 26 = .ok (.iinc 4 1, 3) := by decide +kernel
theorem dX6_number_29 : decode cX6_number 29 = .ok (.goto (-24), 3) := by decide +kernel
theorem dX6_number_32 : decode cX6_number 32 = .ok (.iload_n 3, 1) := by decide +kernel
theorem dX6_number_33 : decode cX6_number 33 = .ok (.ireturn, 1) := by decide +kernel
theorem dX6_sectorOf_0 : decode cX6_sectorOf 0 = .ok (.iconst 2, 1) := by decide +kernel
theorem dX6_sectorOf_1 : decode cX6_sectorOf 1 = .ok (.iload_n 1, 1) := by decide +kernel
theorem dX6_sectorOf_2 : decode cX6_sectorOf 2 = .ok (.aload_n 0, 1) := by decide +kernel
theorem dX6_sectorOf_3 : decode cX6_sectorOf 3 = .ok (.getfield 50, 3) := by decide +kernel
theorem dX6_sectorOf_6 : decode cX6_sectorOf 6 = .ok (.imul, 1) := by decide +kernel
theorem dX6_sectorOf_7 : decode cX6_sectorOf 7 = .ok (.iadd, 1) := by decide +kernel
theorem dX6_sectorOf_8 : decode cX6_sectorOf 8 = .ok (.iload_n 2, 1) := by decide +kernel
theorem dX6_sectorOf_9 : decode cX6_sectorOf 9 = .ok (.bipush 16, 2) := by decide +kernel
theorem dX6_sectorOf_11 : decode cX6_sectorOf 11 = .ok (.idiv, 1) := by decide +kernel
theorem dX6_sectorOf_12 : decode cX6_sectorOf 12 = .ok (.iadd, 1) := by decide +kernel
theorem dX6_sectorOf_13 : decode cX6_sectorOf 13 = .ok (.ireturn, 1) := by decide +kernel
theorem dX6_zeros_0 : decode cX6_zeros 0 = .ok (.aload_n 0, 1) := by decide +kernel
theorem dX6_zeros_1 : decode cX6_zeros 1 = .ok (.invokevirtual 125, 3) := by decide +kernel
theorem dX6_zeros_4 : decode cX6_zeros 4 = .ok (.iconst 0, 1) := by decide +kernel
theorem dX6_zeros_5 : decode cX6_zeros 5 = .ok (.istore_n 2, 1) := by decide +kernel
theorem dX6_zeros_6 : decode cX6_zeros 6 = .ok (.iload_n 2, 1) := by decide +kernel
theorem dX6_zeros_7 : decode cX6_zeros 7 = .ok (.aload_n 0, 1) := by decide +kernel
theorem dX6_zeros_8 : decode cX6_zeros 8 = .ok (.getfield 50, 3) := by decide +kernel
theorem dX6_zeros_11 : decode cX6_zeros 11 = .ok (.if_icmp .ge 23, 3) := by decide +kernel
theorem dX6_zeros_14 : decode cX6_zeros 14 = .ok (.aload_n 0, 1) := by decide +kernel
theorem dX6_zeros_15 : decode cX6_zeros 15 = .ok (.iconst 2, 1) := by decide +kernel
theorem dX6_zeros_16 : decode cX6_zeros 16 = .ok (.iload_n 1, 1) := by decide +kernel
theorem dX6_zeros_17 : decode cX6_zeros 17 = .ok (.aload_n 0, 1) := by decide +kernel
theorem dX6_zeros_18 : decode cX6_zeros 18 = .ok (.getfield 50, 3) := by decide +kernel
theorem dX6_zeros_21 : decode cX6_zeros 21 = .ok (.imul, 1) := by decide +kernel
theorem dX6_zeros_22 : decode cX6_zeros 22 = .ok (.iadd, 1) := by decide +kernel
theorem dX6_zeros_23 : decode cX6_zeros 23 = .ok (.iload_n 2, 1) := by decide +kernel
theorem dX6_zeros_24 : decode cX6_zeros 24 = .ok (.iadd, 1) := by decide +kernel
theorem dX6_zeros_25 : decode cX6_zeros 25 = .ok (.invokevirtual 94, 3) := by decide +kernel
theorem dX6_zeros_28 : decode cX6_zeros 28 = .ok (.iinc 2 1, 3) := by decide +kernel
theorem dX6_zeros_31 : decode cX6_zeros 31 = .ok (.goto (-25), 3) := by decide +kernel
theorem dX6_zeros_34 : decode cX6_zeros 34 = .ok (.return_, 1) := by decide +kernel
theorem dX6_head_0 : decode cX6_head 0 = .ok (.aload_n 0, 1) := by decide +kernel
theorem dX6_head_1 : decode cX6_head 1 = .ok (.dup, 1) := by decide +kernel
theorem dX6_head_2 : decode cX6_head 2 = .ok (.getfield 122, 3) := by decide +kernel
theorem dX6_head_5 : decode cX6_head 5 = .ok (.iconst 1, 1) := by decide +kernel
theorem dX6_head_6 : decode cX6_head 6 = .ok (.iadd, 1) := by decide +kernel
theorem dX6_head_7 : decode cX6_head 7 = .ok (.putfield 122, 3) := by decide +kernel
theorem dX6_head_10 : decode cX6_head 10 = .ok (.aload_n 0, 1) := by decide +kernel
theorem dX6_head_11 : decode cX6_head 11 = .ok (.invokevirtual 125, 3) := by decide +kernel
theorem dX6_head_14 : decode cX6_head 14 = .ok (.aload_n 0, 1) := by decide +kernel
theorem dX6_head_15 : decode cX6_head 15 = .ok (.iconst 0, 1) := by decide +kernel
theorem dX6_head_16 : decode cX6_head 16 = .ok (.aload_n 0, 1) := by decide +kernel
theorem dX6_head_17 : decode cX6_head 17 = .ok (.getfield 53, 3) := by decide +kernel
theorem dX6_head_20 : decode cX6_head 20 = .ok (.i2l, 1) := by decide +kernel
theorem dX6_head_21 : decode cX6_head 21 = .ok (.iconst 4, 1) := by decide +kernel
theorem dX6_head_22 : decode cX6_head 22 = .ok (.invokevirtual 86, 3) := by decide +kernel
theorem dX6_head_25 : decode cX6_head 25 = .ok (.aload_n 0, 1) := by decide +kernel
theorem dX6_head_26 : decode cX6_head 26 = .ok (.iconst 4, 1) := by decide +kernel
theorem dX6_head_27 : decode cX6_head 27 = .ok (.aload_n 0, 1) := by decide +kernel
theorem dX6_head_28 : decode cX6_head 28 = .ok (.getfield 122, 3) := by decide +kernel
theorem dX6_head_31 : decode cX6_head 31 = .ok (.i2l, 1) := by decide +kernel
theorem dX6_head_32 : decode cX6_head 32 = .ok (.iconst 4, 1) := by decide +kernel
theorem dX6_head_33 : decode cX6_head 33 = .ok (.invokevirtual 86, 3) := by decide +kernel
theorem dX6_head_36 : decode cX6_head 36 = .ok (.aload_n 0, 1) := by decide +kernel
theorem dX6_head_37 : decode cX6_head 37 = .ok (.getfield 20, 3) := by decide +kernel
theorem dX6_head_40 : decode cX6_head 40 = .ok (.bipush 8, 2) := by decide +kernel
theorem dX6_head_42 : decode cX6_head 42 = .ok (.aload_n 0, 1) := by decide +kernel
theorem dX6_head_43 : decode cX6_head 43 = .ok (.getfield 107, 3) := by decide +kernel
theorem dX6_head_46 : decode cX6_head 46 = .ok (.iastore, 1) := by decide +kernel
theorem dX6_head_47 : decode cX6_head 47 = .ok (.aload_n 0, 1) := by decide +kernel
theorem dX6_head_48 : decode cX6_head 48 = .ok (.sipush 508, 3) := by decide +kernel
theorem dX6_head_51 : decode cX6_head 51 = .ok (.aload_n 0, 1) := by decide +kernel
theorem dX6_head_52 : decode cX6_head 52 = .ok (.iconst 0, 1) := by decide +kernel
theorem dX6_head_53 : decode cX6_head 53 = .ok (.sipush 508, 3) := by decide +kernel
theorem dX6_head_56 : decode cX6_head 56 = .ok (.aload_n 0, 1) := by decide +kernel
theorem dX6_head_57 : decode cX6_head 57 = .ok (.getfield 122, 3) := by decide +kernel
theorem dX6_head_60 : decode cX6_head 60 = .ok (.invokevirtual 90, 3) := by decide +kernel
theorem dX6_head_63 : decode cX6_head 63 = .ok (.i2l, 1) := by decide +kernel
theorem dX6_head_64 : decode cX6_head 64 = .ok (.iconst 4, 1) := by decide +kernel
theorem dX6_head_65 : decode cX6_head 65 = .ok (.invokevirtual 86, 3) := by decide +kernel
theorem dX6_head_68 : decode cX6_head 68 = .ok (.aload_n 0, 1) := by decide +kernel
theorem dX6_head_69 : decode cX6_head 69 = .ok (.aload_n 0, 1) := by decide +kernel
theorem dX6_head_70 : decode cX6_head 70 = .ok (.getfield 122, 3) := by decide +kernel
theorem dX6_head_73 : decode cX6_head 73 = .ok (.iconst 2, 1) := by decide +kernel
theorem dX6_head_74 : decode cX6_head 74 = .ok (.irem, 1) := by decide +kernel
theorem dX6_head_75 : decode cX6_head 75 = .ok (.invokevirtual 94, 3) := by decide +kernel
theorem dX6_head_78 : decode cX6_head 78 = .ok (.return_, 1) := by decide +kernel
theorem dX6_changeHeads_0 : decode cX6_changeHeads 0 = .ok (.aload_n 0, 1) := by decide +kernel
theorem dX6_changeHeads_1 : decode cX6_changeHeads 1 = .ok (.invokevirtual 128, 3) := by decide +kernel
theorem dX6_changeHeads_4 : decode cX6_changeHeads 4 = .ok (.aload_n 0, 1) := by decide +kernel
theorem dX6_changeHeads_5 : decode cX6_changeHeads 5 = .ok (.invokevirtual 128, 3) := by decide +kernel
theorem dX6_changeHeads_8 : decode cX6_changeHeads 8 = .ok (.return_, 1) := by decide +kernel
theorem dX6_isHead_0 : decode cX6_isHead 0 = .ok (.aload_n 0, 1) := by decide +kernel
theorem dX6_isHead_1 : decode cX6_isHead 1 = .ok (.iload_n 1, 1) := by decide +kernel
theorem dX6_isHead_2 : decode cX6_isHead 2 = .ok (.invokevirtual 82, 3) := by decide +kernel
theorem dX6_isHead_5 : decode cX6_isHead 5 = .ok (.aload_n 0, 1) := by decide +kernel
theorem dX6_isHead_6 : decode cX6_isHead 6 = .ok (.iconst 4, 1) := by decide +kernel
theorem dX6_isHead_7 : decode cX6_isHead 7 = .ok (.iconst 4, 1) := by decide +kernel
theorem dX6_isHead_8 : decode cX6_isHead 8 = .ok (.invokevirtual 104, 3) := by decide +kernel
theorem dX6_isHead_11 : decode cX6_isHead 11 = .ok (.istore_n 2, 1) := by decide +kernel
theorem dX6_isHead_12 : decode cX6_isHead 12 = .ok (.iload_n 2, 1) := by decide +kernel
theorem dX6_isHead_13 : decode cX6_isHead 13 = .ok (.ifCond .lt 51, 3) := by decide +kernel
theorem dX6_isHead_16 : decode cX6_isHead 16 = .ok (.iload_n 2, 1) := by decide +kernel
theorem dX6_isHead_17 : decode cX6_isHead 17 = .ok (.ldc 131, 2) := by decide +kernel
theorem dX6_isHead_19 : decode cX6_isHead 19 = .ok (.if_icmp .ge 45, 3) := by decide +kernel
theorem dX6_isHead_22 : decode cX6_isHead 22 = .ok (.iload_n 2, 1) := by decide +kernel
theorem dX6_isHead_23 : decode cX6_isHead 23 = .ok (.iconst 2, 1) := by decide +kernel
theorem dX6_isHead_24 : decode cX6_isHead 24 = .ok (.irem, 1) := by decide +kernel
theorem dX6_isHead_25 : decode cX6_isHead 25 = .ok (.iload_n 1, 1) := by decide +kernel
theorem dX6_isHead_26 : decode cX6_isHead 26 = .ok (.if_icmp .ne 38, 3) := by decide +kernel
theorem dX6_isHead_29 : decode cX6_isHead 29 = .ok (.aload_n 0, 1) := by decide +kernel
theorem dX6_isHead_30 : decode cX6_isHead 30 = .ok (.getfield 20, 3) := by decide +kernel
theorem dX6_isHead_33 : decode cX6_isHead 33 = .ok (.bipush 8, 2) := by decide +kernel
theorem dX6_isHead_35 : decode cX6_isHead 35 = .ok (.iaload, 1) := by decide +kernel
theorem dX6_isHead_36 : decode cX6_isHead 36 = .ok (.iconst 2, 1) := by decide +kernel
theorem dX6_isHead_37 : decode cX6_isHead 37 = .ok (.if_icmp .ge 27, 3) := by decide +kernel
theorem dX6_isHead_40 : decode cX6_isHead 40 = .ok (.aload_n 0, 1) := by decide +kernel
theorem dX6_isHead_41 : decode cX6_isHead 41 = .ok (.sipush 508, 3) := by decide +kernel
theorem dX6_isHead_44 : decode cX6_isHead 44 = .ok (.iconst 4, 1) := by decide +kernel
theorem dX6_isHead_45 : decode cX6_isHead 45 = .ok (.invokevirtual 104, 3) := by decide +kernel
theorem dX6_isHead_48 : decode cX6_isHead 48 = .ok (.aload_n 0, 1) := by decide +kernel
theorem dX6_isHead_49 : decode cX6_isHead 49 = .ok (.iconst 0, 1) := by decide +kernel
theorem dX6_isHead_50 : decode cX6_isHead 50 = .ok (.sipush 508, 3) := by decide +kernel
theorem dX6_isHead_53 : decode cX6_isHead 53 = .ok (.iload_n 2, 1) := by decide +kernel
theorem dX6_isHead_54 : decode cX6_isHead 54 = .ok (.invokevirtual 90, 3) := by decide +kernel
theorem dX6_isHead_57 : decode cX6_isHead 57 = .ok (.if_icmp .ne 7, 3) := by decide +kernel
theorem dX6_isHead_60 : decode cX6_isHead 60 = .ok (.iconst 1, 1) := by decide +kernel
theorem dX6_isHead_61 : decode cX6_isHead 61 = .ok (.goto 4, 3) := by decide +kernel
theorem dX6_isHead_64 : decode cX6_isHead 64 = .ok (.iconst 0, 1) := by decide +kernel
theorem dX6_isHead_65 : decode cX6_isHead 65 = .ok (.ireturn, 1) := by decide +kernel
theorem dX6_write_0 : decode cX6_write 0 = .ok (.aload_n 0, 1) := by decide +kernel
theorem dX6_write_1 : decode cX6_write 1 = .ok (.aload_n 0, 1) := by decide +kernel
theorem dX6_write_2 : decode cX6_write 2 = .ok (.iload_n 1, 1) := by decide +kernel
theorem dX6_write_3 : decode cX6_write 3 = .ok (.iload_n 2, 1) := by decide +kernel
theorem dX6_write_4 : decode cX6_write 4 = .ok (.invokevirtual 79, 3) := by decide +kernel
theorem dX6_write_7 : decode cX6_write 7 = .ok (.invokevirtual 82, 3) := by decide +kernel
theorem dX6_write_10 : decode cX6_write 10 = .ok (.bipush 32, 2) := by decide +kernel
theorem dX6_write_12 : decode cX6_write 12 = .ok (.iload_n 2, 1) := by decide +kernel
theorem dX6_write_13 : decode cX6_write 13 = .ok (.bipush 16, 2) := by decide +kernel
theorem dX6_write_15 : decode cX6_write 15 = .ok (.irem, 1) := by decide +kernel
theorem dX6_write_16 : decode cX6_write 16 = .ok (.imul, 1) := by decide +kernel
theorem dX6_write_17 : decode cX6_write 17 = .ok (.istore 4, 2) := by decide +kernel
theorem dX6_write_19 : decode cX6_write 19 = .ok (.iload 4, 2) := by decide +kernel
theorem dX6_write_21 : decode cX6_write 21 = .ok (.istore 5, 2) := by decide +kernel
theorem dX6_write_23 : decode cX6_write 23 = .ok (.iload 5, 2) := by decide +kernel
theorem dX6_write_25 : decode cX6_write 25 = .ok (.iload 4, 2) := by decide +kernel
theorem dX6_write_27 : decode cX6_write 27 = .ok (.bipush 32, 2) := by decide +kernel
theorem dX6_write_29 : decode cX6_write 29 = .ok (.iadd, 1) := by decide +kernel
theorem dX6_write_30 : decode cX6_write 30 = .ok (.if_icmp .ge 17, 3) := by decide +kernel
theorem dX6_write_33 : decode cX6_write 33 = .ok (.aload_n 0, 1) := by decide +kernel
theorem dX6_write_34 : decode cX6_write 34 = .ok (.getfield 20, 3) := by decide +kernel
theorem dX6_write_37 : decode cX6_write 37 = .ok (.iload 5, 2) := by decide +kernel
theorem dX6_write_39 : decode cX6_write 39 = .ok (.iconst 0, 1) := by decide +kernel
theorem dX6_write_40 : decode cX6_write 40 = .ok (.iastore, 1) := by decide +kernel
theorem dX6_write_41 : decode cX6_write 41 = .ok (.iinc 5 1, 3) := by decide +kernel
theorem dX6_write_44 : decode cX6_write 44 = .ok (.goto (-21), 3) := by decide +kernel
theorem dX6_write_47 : decode cX6_write 47 = .ok (.aload_n 0, 1) := by decide +kernel
theorem dX6_write_48 : decode cX6_write 48 = .ok (.getfield 20, 3) := by decide +kernel
theorem dX6_write_51 : decode cX6_write 51 = .ok (.iload 4, 2) := by decide +kernel
theorem dX6_write_53 : decode cX6_write 53 = .ok (.aload_n 0, 1) := by decide +kernel
theorem dX6_write_54 : decode cX6_write 54 = .ok (.getfield 23, 3) := by decide +kernel
theorem dX6_write_57 : decode cX6_write 57 = .ok (.iload_n 3, 1) := by decide +kernel
theorem dX6_write_58 : decode cX6_write 58 = .ok (.iaload, 1) := by decide +kernel
theorem dX6_write_59 : decode cX6_write 59 = .ok (.iastore, 1) := by decide +kernel
theorem dX6_write_60 : decode cX6_write 60 = .ok (.aload_n 0, 1) := by decide +kernel
theorem dX6_write_61 : decode cX6_write 61 = .ok (.getfield 20, 3) := by decide +kernel
theorem dX6_write_64 : decode cX6_write 64 = .ok (.iload 4, 2) := by decide +kernel
theorem dX6_write_66 : decode cX6_write 66 = .ok (.iconst 1, 1) := by decide +kernel
theorem dX6_write_67 : decode cX6_write 67 = .ok (.iadd, 1) := by decide +kernel
theorem dX6_write_68 : decode cX6_write 68 = .ok (.aload_n 0, 1) := by decide +kernel
theorem dX6_write_69 : decode cX6_write 69 = .ok (.getfield 26, 3) := by decide +kernel
theorem dX6_write_72 : decode cX6_write 72 = .ok (.iload_n 3, 1) := by decide +kernel
theorem dX6_write_73 : decode cX6_write 73 = .ok (.iaload, 1) := by decide +kernel
theorem dX6_write_74 : decode cX6_write 74 = .ok (.iastore, 1) := by decide +kernel
theorem dX6_write_75 : decode cX6_write 75 = .ok (.aload_n 0, 1) := by decide +kernel
theorem dX6_write_76 : decode cX6_write 76 = .ok (.getfield 20, 3) := by decide +kernel
theorem dX6_write_79 : decode cX6_write 79 = .ok (.iload 4, 2) := by decide +kernel
theorem dX6_write_81 : decode cX6_write 81 = .ok (.iconst 2, 1) := by decide +kernel
theorem dX6_write_82 : decode cX6_write 82 = .ok (.iadd, 1) := by decide +kernel
theorem dX6_write_83 : decode cX6_write 83 = .ok (.aload_n 0, 1) := by decide +kernel
theorem dX6_write_84 : decode cX6_write 84 = .ok (.getfield 29, 3) := by decide +kernel
theorem dX6_write_87 : decode cX6_write 87 = .ok (.iload_n 3, 1) := by decide +kernel
theorem dX6_write_88 : decode cX6_write 88 = .ok (.iaload, 1) := by decide +kernel
theorem dX6_write_89 : decode cX6_write 89 = .ok (.iastore, 1) := by decide +kernel
theorem dX6_write_90 : decode cX6_write 90 = .ok (.iconst 0, 1) := by decide +kernel
theorem dX6_write_91 : decode cX6_write 91 = .ok (.istore 5, 2) := by decide +kernel
theorem dX6_write_93 : decode cX6_write 93 = .ok (.iload 5, 2) := by decide +kernel
theorem dX6_write_95 : decode cX6_write 95 = .ok (.aload_n 0, 1) := by decide +kernel
theorem dX6_write_96 : decode cX6_write 96 = .ok (.getfield 29, 3) := by decide +kernel
theorem dX6_write_99 : decode cX6_write 99 = .ok (.iload_n 3, 1) := by decide +kernel
theorem dX6_write_100 : decode cX6_write 100 = .ok (.iaload, 1) := by decide +kernel
theorem dX6_write_101 : decode cX6_write 101 = .ok (.if_icmp .ge 33, 3) := by decide +kernel
theorem dX6_write_104 : decode cX6_write 104 = .ok (.aload_n 0, 1) := by decide +kernel
theorem dX6_write_105 : decode cX6_write 105 = .ok (.getfield 20, 3) := by decide +kernel
theorem dX6_write_108 : decode cX6_write 108 = .ok (.iload 4, 2) := by decide +kernel
theorem dX6_write_110 : decode cX6_write 110 = .ok (.iconst 3, 1) := by decide +kernel
theorem dX6_write_111 : decode cX6_write 111 = .ok (.iadd, 1) := by decide +kernel
theorem dX6_write_112 : decode cX6_write 112 = .ok (.iload 5, 2) := by decide +kernel
theorem dX6_write_114 : decode cX6_write 114 = .ok (.iadd, 1) := by decide +kernel
theorem dX6_write_115 : decode cX6_write 115 = .ok (.aload_n 0, 1) := by decide +kernel
theorem dX6_write_116 : decode cX6_write 116 = .ok (.getfield 32, 3) := by decide +kernel
theorem dX6_write_119 : decode cX6_write 119 = .ok (.bipush 6, 2) := by decide +kernel
theorem dX6_write_121 : decode cX6_write 121 = .ok (.iload_n 3, 1) := by decide +kernel
theorem dX6_write_122 : decode cX6_write 122 = .ok (.imul, 1) := by decide +kernel
theorem dX6_write_123 : decode cX6_write 123 = .ok (.iload 5, 2) := by decide +kernel
theorem dX6_write_125 : decode cX6_write 125 = .ok (.iadd, 1) := by decide +kernel
theorem dX6_write_126 : decode cX6_write 126 = .ok (.iaload, 1) := by decide +kernel
theorem dX6_write_127 : decode cX6_write 127 = .ok (.iastore, 1) := by decide +kernel
theorem dX6_write_128 : decode cX6_write 128 = .ok (.iinc 5 1, 3) := by decide +kernel
theorem dX6_write_131 : decode cX6_write 131 = .ok (.goto (-38), 3) := by decide +kernel
theorem dX6_write_134 : decode cX6_write 134 = .ok (.aload_n 0, 1) := by decide +kernel
theorem dX6_write_135 : decode cX6_write 135 = .ok (.iload 4, 2) := by decide +kernel
theorem dX6_write_137 : decode cX6_write 137 = .ok (.bipush 16, 2) := by decide +kernel
theorem dX6_write_139 : decode cX6_write 139 = .ok (.iadd, 1) := by decide +kernel
theorem dX6_write_140 : decode cX6_write 140 = .ok (.aload_n 0, 1) := by decide +kernel
theorem dX6_write_141 : decode cX6_write 141 = .ok (.getfield 35, 3) := by decide +kernel
theorem dX6_write_144 : decode cX6_write 144 = .ok (.iload_n 3, 1) := by decide +kernel
theorem dX6_write_145 : decode cX6_write 145 = .ok (.laload, 1) := by decide +kernel
theorem dX6_write_146 : decode cX6_write 146 = .ok (.bipush 8, 2) := by decide +kernel
theorem dX6_write_148 : decode cX6_write 148 = .ok (.invokevirtual 86, 3) := by decide +kernel
theorem dX6_write_151 : decode cX6_write 151 = .ok (.aload_n 0, 1) := by decide +kernel
theorem dX6_write_152 : decode cX6_write 152 = .ok (.iload 4, 2) := by decide +kernel
theorem dX6_write_154 : decode cX6_write 154 = .ok (.bipush 28, 2) := by decide +kernel
theorem dX6_write_156 : decode cX6_write 156 = .ok (.iadd, 1) := by decide +kernel
theorem dX6_write_157 : decode cX6_write 157 = .ok (.aload_n 0, 1) := by decide +kernel
theorem dX6_write_158 : decode cX6_write 158 = .ok (.iload 4, 2) := by decide +kernel
theorem dX6_write_160 : decode cX6_write 160 = .ok (.bipush 28, 2) := by decide +kernel
theorem dX6_write_162 : decode cX6_write 162 = .ok (.iload_n 2, 1) := by decide +kernel
theorem dX6_write_163 : decode cX6_write 163 = .ok (.invokevirtual 90, 3) := by decide +kernel
theorem dX6_write_166 : decode cX6_write 166 = .ok (.i2l, 1) := by decide +kernel
theorem dX6_write_167 : decode cX6_write 167 = .ok (.iconst 4, 1) := by decide +kernel
theorem dX6_write_168 : decode cX6_write 168 = .ok (.invokevirtual 86, 3) := by decide +kernel
theorem dX6_write_171 : decode cX6_write 171 = .ok (.aload_n 0, 1) := by decide +kernel
theorem dX6_write_172 : decode cX6_write 172 = .ok (.aload_n 0, 1) := by decide +kernel
theorem dX6_write_173 : decode cX6_write 173 = .ok (.iload_n 1, 1) := by decide +kernel
theorem dX6_write_174 : decode cX6_write 174 = .ok (.iload_n 2, 1) := by decide +kernel
theorem dX6_write_175 : decode cX6_write 175 = .ok (.invokevirtual 79, 3) := by decide +kernel
theorem dX6_write_178 : decode cX6_write 178 = .ok (.invokevirtual 94, 3) := by decide +kernel
theorem dX6_write_181 : decode cX6_write 181 = .ok (.return_, 1) := by decide +kernel
theorem dX6_isRow_0 : decode cX6_isRow 0 = .ok (.bipush 32, 2) := by decide +kernel
theorem dX6_isRow_2 : decode cX6_isRow 2 = .ok (.iload_n 1, 1) := by decide +kernel
theorem dX6_isRow_3 : decode cX6_isRow 3 = .ok (.bipush 16, 2) := by decide +kernel
theorem dX6_isRow_5 : decode cX6_isRow 5 = .ok (.irem, 1) := by decide +kernel
theorem dX6_isRow_6 : decode cX6_isRow 6 = .ok (.imul, 1) := by decide +kernel
theorem dX6_isRow_7 : decode cX6_isRow 7 = .ok (.istore_n 2, 1) := by decide +kernel
theorem dX6_isRow_8 : decode cX6_isRow 8 = .ok (.aload_n 0, 1) := by decide +kernel
theorem dX6_isRow_9 : decode cX6_isRow 9 = .ok (.getfield 20, 3) := by decide +kernel
theorem dX6_isRow_12 : decode cX6_isRow 12 = .ok (.iload_n 2, 1) := by decide +kernel
theorem dX6_isRow_13 : decode cX6_isRow 13 = .ok (.iaload, 1) := by decide +kernel
theorem dX6_isRow_14 : decode cX6_isRow 14 = .ok (.istore_n 3, 1) := by decide +kernel
theorem dX6_isRow_15 : decode cX6_isRow 15 = .ok (.aload_n 0, 1) := by decide +kernel
theorem dX6_isRow_16 : decode cX6_isRow 16 = .ok (.getfield 20, 3) := by decide +kernel
theorem dX6_isRow_19 : decode cX6_isRow 19 = .ok (.iload_n 2, 1) := by decide +kernel
theorem dX6_isRow_20 : decode cX6_isRow 20 = .ok (.iconst 2, 1) := by decide +kernel
theorem dX6_isRow_21 : decode cX6_isRow 21 = .ok (.iadd, 1) := by decide +kernel
theorem dX6_isRow_22 : decode cX6_isRow 22 = .ok (.iaload, 1) := by decide +kernel
theorem dX6_isRow_23 : decode cX6_isRow 23 = .ok (.istore 4, 2) := by decide +kernel
theorem dX6_isRow_25 : decode cX6_isRow 25 = .ok (.iload_n 3, 1) := by decide +kernel
theorem dX6_isRow_26 : decode cX6_isRow 26 = .ok (.iconst 1, 1) := by decide +kernel
theorem dX6_isRow_27 : decode cX6_isRow 27 = .ok (.if_icmp .ne 32, 3) := by decide +kernel
theorem dX6_isRow_30 : decode cX6_isRow 30 = .ok (.aload_n 0, 1) := by decide +kernel
theorem dX6_isRow_31 : decode cX6_isRow 31 = .ok (.getfield 20, 3) := by decide +kernel
theorem dX6_isRow_34 : decode cX6_isRow 34 = .ok (.iload_n 2, 1) := by decide +kernel
theorem dX6_isRow_35 : decode cX6_isRow 35 = .ok (.iconst 1, 1) := by decide +kernel
theorem dX6_isRow_36 : decode cX6_isRow 36 = .ok (.iadd, 1) := by decide +kernel
theorem dX6_isRow_37 : decode cX6_isRow 37 = .ok (.iaload, 1) := by decide +kernel
theorem dX6_isRow_38 : decode cX6_isRow 38 = .ok (.invokestatic 97, 3) := by decide +kernel
theorem dX6_isRow_41 : decode cX6_isRow 41 = .ok (.ifCond .eq 14, 3) := by decide +kernel
theorem dX6_isRow_44 : decode cX6_isRow 44 = .ok (.iload 4, 2) := by decide +kernel
theorem dX6_isRow_46 : decode cX6_isRow 46 = .ok (.bipush 6, 2) := by decide +kernel
theorem dX6_isRow_48 : decode cX6_isRow 48 = .ok (.if_icmp .gt 7, 3) := by decide +kernel
theorem dX6_isRow_51 : decode cX6_isRow 51 = .ok (.iconst 1, 1) := by decide +kernel
theorem dX6_isRow_52 : decode cX6_isRow 52 = .ok (.goto 41, 3) := by decide +kernel
theorem dX6_isRow_55 : decode cX6_isRow 55 = .ok (.iconst 0, 1) := by decide +kernel
theorem dX6_isRow_56 : decode cX6_isRow 56 = .ok (.goto 37, 3) := by decide +kernel
theorem dX6_isRow_59 : decode cX6_isRow 59 = .ok (.iload_n 3, 1) := by decide +kernel
theorem dX6_isRow_60 : decode cX6_isRow 60 = .ok (.iconst 2, 1) := by decide +kernel
theorem dX6_isRow_61 : decode cX6_isRow 61 = .ok (.if_icmp .eq 8, 3) := by decide +kernel
theorem dX6_isRow_64 : decode cX6_isRow 64 = .ok (.iload_n 3, 1) := by decide +kernel
theorem dX6_isRow_65 : decode cX6_isRow 65 = .ok (.iconst 3, 1) := by decide +kernel
theorem dX6_isRow_66 : decode cX6_isRow 66 = .ok (.if_icmp .ne 26, 3) := by decide +kernel
theorem dX6_isRow_69 : decode cX6_isRow 69 = .ok (.aload_n 0, 1) := by decide +kernel
theorem dX6_isRow_70 : decode cX6_isRow 70 = .ok (.getfield 20, 3) := by decide +kernel
theorem dX6_isRow_73 : decode cX6_isRow 73 = .ok (.iload_n 2, 1) := by decide +kernel
theorem dX6_isRow_74 : decode cX6_isRow 74 = .ok (.iconst 1, 1) := by decide +kernel
theorem dX6_isRow_75 : decode cX6_isRow 75 = .ok (.iadd, 1) := by decide +kernel
theorem dX6_isRow_76 : decode cX6_isRow 76 = .ok (.iaload, 1) := by decide +kernel
theorem dX6_isRow_77 : decode cX6_isRow 77 = .ok (.invokestatic 101, 3) := by decide +kernel
theorem dX6_isRow_80 : decode cX6_isRow 80 = .ok (.ifCond .eq 12, 3) := by decide +kernel
theorem dX6_isRow_83 : decode cX6_isRow 83 = .ok (.iload 4, 2) := by decide +kernel
theorem dX6_isRow_85 : decode cX6_isRow 85 = .ok (.ifCond .ne 7, 3) := by decide +kernel
theorem dX6_isRow_88 : decode cX6_isRow 88 = .ok (.iconst 1, 1) := by decide +kernel
theorem dX6_isRow_89 : decode cX6_isRow 89 = .ok (.goto 4, 3) := by decide +kernel
theorem dX6_isRow_92 : decode cX6_isRow 92 = .ok (.iconst 0, 1) := by decide +kernel
theorem dX6_isRow_93 : decode cX6_isRow 93 = .ok (.istore 5, 2) := by decide +kernel
theorem dX6_isRow_95 : decode cX6_isRow 95 = .ok (.iconst 0, 1) := by decide +kernel
theorem dX6_isRow_96 : decode cX6_isRow 96 = .ok (.istore 6, 2) := by decide +kernel
theorem dX6_isRow_98 : decode cX6_isRow 98 = .ok (.iload 5, 2) := by decide +kernel
theorem dX6_isRow_100 : decode cX6_isRow 100 = .ok (.ifCond .eq 32, 3) := by decide +kernel
theorem dX6_isRow_103 : decode cX6_isRow 103 = .ok (.iload 6, 2) := by decide +kernel
theorem dX6_isRow_105 : decode cX6_isRow 105 = .ok (.iload 4, 2) := by decide +kernel
theorem dX6_isRow_107 : decode cX6_isRow 107 = .ok (.if_icmp .ge 25, 3) := by decide +kernel
theorem dX6_isRow_110 : decode cX6_isRow 110 = .ok (.aload_n 0, 1) := by decide +kernel
theorem dX6_isRow_111 : decode cX6_isRow 111 = .ok (.getfield 20, 3) := by decide +kernel
theorem dX6_isRow_114 : decode cX6_isRow 114 = .ok (.iload_n 2, 1) := by decide +kernel
theorem dX6_isRow_115 : decode cX6_isRow 115 = .ok (.iconst 3, 1) := by decide +kernel
theorem dX6_isRow_116 : decode cX6_isRow 116 = .ok (.iadd, 1) := by decide +kernel
theorem dX6_isRow_117 : decode cX6_isRow 117 = .ok (.iload 6, 2) := by decide +kernel
theorem dX6_isRow_119 : decode cX6_isRow 119 = .ok (.iadd, 1) := by decide +kernel
theorem dX6_isRow_120 : decode cX6_isRow 120 = .ok (.iaload, 1) := by decide +kernel
theorem dX6_isRow_121 : decode cX6_isRow 121 = .ok (.invokestatic 97, 3) := by decide +kernel
theorem dX6_isRow_124 : decode cX6_isRow 124 = .ok (.istore 5, 2) := by decide +kernel
theorem dX6_isRow_126 : decode cX6_isRow 126 = .ok (.iinc 6 1, 3) := by decide +kernel
theorem dX6_isRow_129 : decode cX6_isRow 129 = .ok (.goto (-31), 3) := by decide +kernel
theorem dX6_isRow_132 : decode cX6_isRow 132 = .ok (.iload 5, 2) := by decide +kernel
theorem dX6_isRow_134 : decode cX6_isRow 134 = .ok (.ifCond .eq 27, 3) := by decide +kernel
theorem dX6_isRow_137 : decode cX6_isRow 137 = .ok (.aload_n 0, 1) := by decide +kernel
theorem dX6_isRow_138 : decode cX6_isRow 138 = .ok (.iload_n 2, 1) := by decide +kernel
theorem dX6_isRow_139 : decode cX6_isRow 139 = .ok (.bipush 28, 2) := by decide +kernel
theorem dX6_isRow_141 : decode cX6_isRow 141 = .ok (.iadd, 1) := by decide +kernel
theorem dX6_isRow_142 : decode cX6_isRow 142 = .ok (.iconst 4, 1) := by decide +kernel
theorem dX6_isRow_143 : decode cX6_isRow 143 = .ok (.invokevirtual 104, 3) := by decide +kernel
theorem dX6_isRow_146 : decode cX6_isRow 146 = .ok (.aload_n 0, 1) := by decide +kernel
theorem dX6_isRow_147 : decode cX6_isRow 147 = .ok (.iload_n 2, 1) := by decide +kernel
theorem dX6_isRow_148 : decode cX6_isRow 148 = .ok (.bipush 28, 2) := by decide +kernel
theorem dX6_isRow_150 : decode cX6_isRow 150 = .ok (.iload_n 1, 1) := by decide +kernel
theorem dX6_isRow_151 : decode cX6_isRow 151 = .ok (.invokevirtual 90, 3) := by decide +kernel
theorem dX6_isRow_154 : decode cX6_isRow 154 = .ok (.if_icmp .ne 7, 3) := by decide +kernel
theorem dX6_isRow_157 : decode cX6_isRow 157 = .ok (.iconst 1, 1) := by decide +kernel
theorem dX6_isRow_158 : decode cX6_isRow 158 = .ok (.goto 4, 3) := by decide +kernel
theorem dX6_isRow_161 : decode cX6_isRow 161 = .ok (.iconst 0, 1) := by decide +kernel
theorem dX6_isRow_162 : decode cX6_isRow 162 = .ok (.ireturn, 1) := by decide +kernel
theorem dX6_read_0 : decode cX6_read 0 = .ok (.aload_n 0, 1) := by decide +kernel
theorem dX6_read_1 : decode cX6_read 1 = .ok (.aload_n 0, 1) := by decide +kernel
theorem dX6_read_2 : decode cX6_read 2 = .ok (.aload_n 0, 1) := by decide +kernel
theorem dX6_read_3 : decode cX6_read 3 = .ok (.getfield 107, 3) := by decide +kernel
theorem dX6_read_6 : decode cX6_read 6 = .ok (.iload_n 1, 1) := by decide +kernel
theorem dX6_read_7 : decode cX6_read 7 = .ok (.invokevirtual 79, 3) := by decide +kernel
theorem dX6_read_10 : decode cX6_read 10 = .ok (.invokevirtual 82, 3) := by decide +kernel
theorem dX6_read_13 : decode cX6_read 13 = .ok (.bipush 32, 2) := by decide +kernel
theorem dX6_read_15 : decode cX6_read 15 = .ok (.iload_n 1, 1) := by decide +kernel
theorem dX6_read_16 : decode cX6_read 16 = .ok (.bipush 16, 2) := by decide +kernel
theorem dX6_read_18 : decode cX6_read 18 = .ok (.irem, 1) := by decide +kernel
theorem dX6_read_19 : decode cX6_read 19 = .ok (.imul, 1) := by decide +kernel
theorem dX6_read_20 : decode cX6_read 20 = .ok (.istore_n 2, 1) := by decide +kernel
theorem dX6_read_21 : decode cX6_read 21 = .ok (.aload_n 0, 1) := by decide +kernel
theorem dX6_read_22 : decode cX6_read 22 = .ok (.iload_n 1, 1) := by decide +kernel
theorem dX6_read_23 : decode cX6_read 23 = .ok (.invokevirtual 110, 3) := by decide +kernel
theorem dX6_read_26 : decode cX6_read 26 = .ok (.istore_n 3, 1) := by decide +kernel
theorem dX6_read_27 : decode cX6_read 27 = .ok (.aload_n 0, 1) := by decide +kernel
theorem dX6_read_28 : decode cX6_read 28 = .ok (.getfield 23, 3) := by decide +kernel
theorem dX6_read_31 : decode cX6_read 31 = .ok (.iload_n 1, 1) := by decide +kernel
theorem dX6_read_32 : decode cX6_read 32 = .ok (.iload_n 3, 1) := by decide +kernel
theorem dX6_read_33 : decode cX6_read 33 = .ok (.ifCond .eq 12, 3) := by decide +kernel
theorem dX6_read_36 : decode cX6_read 36 = .ok (.aload_n 0, 1) := by decide +kernel
theorem dX6_read_37 : decode cX6_read 37 = .ok (.getfield 20, 3) := by decide +kernel
theorem dX6_read_40 : decode cX6_read 40 = .ok (.iload_n 2, 1) := by decide +kernel
theorem dX6_read_41 : decode cX6_read 41 = .ok (.iaload, 1) := by decide +kernel
theorem dX6_read_42 : decode cX6_read 42 = .ok (.goto 4, 3) := by decide +kernel
theorem dX6_read_45 : decode cX6_read 45 = .ok (.iconst 0, 1) := by decide +kernel
theorem dX6_read_46 : decode cX6_read 46 = .ok (.iastore, 1) := by decide +kernel
theorem dX6_read_47 : decode cX6_read 47 = .ok (.aload_n 0, 1) := by decide +kernel
theorem dX6_read_48 : decode cX6_read 48 = .ok (.getfield 26, 3) := by decide +kernel
theorem dX6_read_51 : decode cX6_read 51 = .ok (.iload_n 1, 1) := by decide +kernel
theorem dX6_read_52 : decode cX6_read 52 = .ok (.aload_n 0, 1) := by decide +kernel
theorem dX6_read_53 : decode cX6_read 53 = .ok (.getfield 20, 3) := by decide +kernel
theorem dX6_read_56 : decode cX6_read 56 = .ok (.iload_n 2, 1) := by decide +kernel
theorem dX6_read_57 : decode cX6_read 57 = .ok (.iconst 1, 1) := by decide +kernel
theorem dX6_read_58 : decode cX6_read 58 = .ok (.iadd, 1) := by decide +kernel
theorem dX6_read_59 : decode cX6_read 59 = .ok (.iaload, 1) := by decide +kernel
theorem dX6_read_60 : decode cX6_read 60 = .ok (.iastore, 1) := by decide +kernel
theorem dX6_read_61 : decode cX6_read 61 = .ok (.aload_n 0, 1) := by decide +kernel
theorem dX6_read_62 : decode cX6_read 62 = .ok (.getfield 29, 3) := by decide +kernel
theorem dX6_read_65 : decode cX6_read 65 = .ok (.iload_n 1, 1) := by decide +kernel
theorem dX6_read_66 : decode cX6_read 66 = .ok (.iload_n 3, 1) := by decide +kernel
theorem dX6_read_67 : decode cX6_read 67 = .ok (.ifCond .eq 14, 3) := by decide +kernel
theorem dX6_read_70 : decode cX6_read 70 = .ok (.aload_n 0, 1) := by decide +kernel
theorem dX6_read_71 : decode cX6_read 71 = .ok (.getfield 20, 3) := by decide +kernel
theorem dX6_read_74 : decode cX6_read 74 = .ok (.iload_n 2, 1) := by decide +kernel
theorem dX6_read_75 : decode cX6_read 75 = .ok (.iconst 2, 1) := by decide +kernel
theorem dX6_read_76 : decode cX6_read 76 = .ok (.iadd, 1) := by decide +kernel
theorem dX6_read_77 : decode cX6_read 77 = .ok (.iaload, 1) := by decide +kernel
theorem dX6_read_78 : decode cX6_read 78 = .ok (.goto 4, 3) := by decide +kernel
theorem dX6_read_81 : decode cX6_read 81 = .ok (.iconst 0, 1) := by decide +kernel
theorem dX6_read_82 : decode cX6_read 82 = .ok (.iastore, 1) := by decide +kernel
theorem dX6_read_83 : decode cX6_read 83 = .ok (.iconst 0, 1) := by decide +kernel
theorem dX6_read_84 : decode cX6_read 84 = .ok (.istore 4, 2) := by decide +kernel
theorem dX6_read_86 : decode cX6_read 86 = .ok (.iload 4, 2) := by decide +kernel
theorem dX6_read_88 : decode cX6_read 88 = .ok (.aload_n 0, 1) := by decide +kernel
theorem dX6_read_89 : decode cX6_read 89 = .ok (.getfield 29, 3) := by decide +kernel
theorem dX6_read_92 : decode cX6_read 92 = .ok (.iload_n 1, 1) := by decide +kernel
theorem dX6_read_93 : decode cX6_read 93 = .ok (.iaload, 1) := by decide +kernel
theorem dX6_read_94 : decode cX6_read 94 = .ok (.if_icmp .ge 32, 3) := by decide +kernel
theorem dX6_read_97 : decode cX6_read 97 = .ok (.aload_n 0, 1) := by decide +kernel
theorem dX6_read_98 : decode cX6_read 98 = .ok (.getfield 32, 3) := by decide +kernel
theorem dX6_read_101 : decode cX6_read 101 = .ok (.bipush 6, 2) := by decide +kernel
theorem dX6_read_103 : decode cX6_read 103 = .ok (.iload_n 1, 1) := by decide +kernel
theorem dX6_read_104 : decode cX6_read 104 = .ok (.imul, 1) := by decide +kernel
theorem dX6_read_105 : decode cX6_read 105 = .ok (.iload 4, 2) := by decide +kernel
theorem dX6_read_107 : decode cX6_read 107 = .ok (.iadd, 1) := by decide +kernel
theorem dX6_read_108 : decode cX6_read 108 = .ok (.aload_n 0, 1) := by decide +kernel
theorem dX6_read_109 : decode cX6_read 109 = .ok (.getfield 20, 3) := by decide +kernel
theorem dX6_read_112 : decode cX6_read 112 = .ok (.iload_n 2, 1) := by decide +kernel
theorem dX6_read_113 : decode cX6_read 113 = .ok (.iconst 3, 1) := by decide +kernel
theorem dX6_read_114 : decode cX6_read 114 = .ok (.iadd, 1) := by decide +kernel
theorem dX6_read_115 : decode cX6_read 115 = .ok (.iload 4, 2) := by decide +kernel
theorem dX6_read_117 : decode cX6_read 117 = .ok (.iadd, 1) := by decide +kernel
theorem dX6_read_118 : decode cX6_read 118 = .ok (.iaload, 1) := by decide +kernel
theorem dX6_read_119 : decode cX6_read 119 = .ok (.iastore, 1) := by decide +kernel
theorem dX6_read_120 : decode cX6_read 120 = .ok (.iinc 4 1, 3) := by decide +kernel
theorem dX6_read_123 : decode cX6_read 123 = .ok (.goto (-37), 3) := by decide +kernel
theorem dX6_read_126 : decode cX6_read 126 = .ok (.aload_n 0, 1) := by decide +kernel
theorem dX6_read_127 : decode cX6_read 127 = .ok (.getfield 35, 3) := by decide +kernel
theorem dX6_read_130 : decode cX6_read 130 = .ok (.iload_n 1, 1) := by decide +kernel
theorem dX6_read_131 : decode cX6_read 131 = .ok (.aload_n 0, 1) := by decide +kernel
theorem dX6_read_132 : decode cX6_read 132 = .ok (.iload_n 2, 1) := by decide +kernel
theorem dX6_read_133 : decode cX6_read 133 = .ok (.bipush 16, 2) := by decide +kernel
theorem dX6_read_135 : decode cX6_read 135 = .ok (.iadd, 1) := by decide +kernel
theorem dX6_read_136 : decode cX6_read 136 = .ok (.iconst 4, 1) := by decide +kernel
theorem dX6_read_137 : decode cX6_read 137 = .ok (.invokevirtual 104, 3) := by decide +kernel
theorem dX6_read_140 : decode cX6_read 140 = .ok (.i2l, 1) := by decide +kernel
theorem dX6_read_141 : decode cX6_read 141 = .ok (.bipush 32, 2) := by decide +kernel
theorem dX6_read_143 : decode cX6_read 143 = .ok (.lshl, 1) := by decide +kernel
theorem dX6_read_144 : decode cX6_read 144 = .ok (.aload_n 0, 1) := by decide +kernel
theorem dX6_read_145 : decode cX6_read 145 = .ok (.iload_n 2, 1) := by decide +kernel
theorem dX6_read_146 : decode cX6_read 146 = .ok (.bipush 20, 2) := by decide +kernel
theorem dX6_read_148 : decode cX6_read 148 = .ok (.iadd, 1) := by decide +kernel
theorem dX6_read_149 : decode cX6_read 149 = .ok (.iconst 4, 1) := by decide +kernel
theorem dX6_read_150 : decode cX6_read 150 = .ok (.invokevirtual 104, 3) := by decide +kernel
theorem dX6_read_153 : decode cX6_read 153 = .ok (.i2l, 1) := by decide +kernel
theorem dX6_read_154 : decode cX6_read 154 = .ok (.ldc2_w 113, 3) := by decide +kernel
theorem dX6_read_157 : decode cX6_read 157 = .ok (.land, 1) := by decide +kernel
theorem dX6_read_158 : decode cX6_read 158 = .ok (.lor, 1) := by decide +kernel
theorem dX6_read_159 : decode cX6_read 159 = .ok (.lastore, 1) := by decide +kernel
theorem dX6_read_160 : decode cX6_read 160 = .ok (.iload_n 3, 1) := by decide +kernel
theorem dX6_read_161 : decode cX6_read 161 = .ok (.ifCond .eq 10, 3) := by decide +kernel
theorem dX6_read_164 : decode cX6_read 164 = .ok (.aload_n 0, 1) := by decide +kernel
theorem dX6_read_165 : decode cX6_read 165 = .ok (.iload_n 1, 1) := by decide +kernel
theorem dX6_read_166 : decode cX6_read 166 = .ok (.iconst 1, 1) := by decide +kernel
theorem dX6_read_167 : decode cX6_read 167 = .ok (.iadd, 1) := by decide +kernel
theorem dX6_read_168 : decode cX6_read 168 = .ok (.putfield 115, 3) := by decide +kernel
theorem dX6_read_171 : decode cX6_read 171 = .ok (.return_, 1) := by decide +kernel
theorem dX6_copyRow_0 : decode cX6_copyRow 0 = .ok (.aload_n 0, 1) := by decide +kernel
theorem dX6_copyRow_1 : decode cX6_copyRow 1 = .ok (.getfield 23, 3) := by decide +kernel
theorem dX6_copyRow_4 : decode cX6_copyRow 4 = .ok (.iload_n 2, 1) := by decide +kernel
theorem dX6_copyRow_5 : decode cX6_copyRow 5 = .ok (.aload_n 0, 1) := by decide +kernel
theorem dX6_copyRow_6 : decode cX6_copyRow 6 = .ok (.getfield 23, 3) := by decide +kernel
theorem dX6_copyRow_9 : decode cX6_copyRow 9 = .ok (.iload_n 1, 1) := by decide +kernel
theorem dX6_copyRow_10 : decode cX6_copyRow 10 = .ok (.iaload, 1) := by decide +kernel
theorem dX6_copyRow_11 : decode cX6_copyRow 11 = .ok (.iastore, 1) := by decide +kernel
theorem dX6_copyRow_12 : decode cX6_copyRow 12 = .ok (.aload_n 0, 1) := by decide +kernel
theorem dX6_copyRow_13 : decode cX6_copyRow 13 = .ok (.getfield 26, 3) := by decide +kernel
theorem dX6_copyRow_16 : decode cX6_copyRow 16 = .ok (.iload_n 2, 1) := by decide +kernel
theorem dX6_copyRow_17 : decode cX6_copyRow 17 = .ok (.aload_n 0, 1) := by decide +kernel
theorem dX6_copyRow_18 : decode cX6_copyRow 18 = .ok (.getfield 26, 3) := by decide +kernel
theorem dX6_copyRow_21 : decode cX6_copyRow 21 = .ok (.iload_n 1, 1) := by decide +kernel
theorem dX6_copyRow_22 : decode cX6_copyRow 22 = .ok (.iaload, 1) := by decide +kernel
theorem dX6_copyRow_23 : decode cX6_copyRow 23 = .ok (.iastore, 1) := by decide +kernel
theorem dX6_copyRow_24 : decode cX6_copyRow 24 = .ok (.aload_n 0, 1) := by decide +kernel
theorem dX6_copyRow_25 : decode cX6_copyRow 25 = .ok (.getfield 29, 3) := by decide +kernel
theorem dX6_copyRow_28 : decode cX6_copyRow 28 = .ok (.iload_n 2, 1) := by decide +kernel
theorem dX6_copyRow_29 : decode cX6_copyRow 29 = .ok (.aload_n 0, 1) := by decide +kernel
theorem dX6_copyRow_30 : decode cX6_copyRow 30 = .ok (.getfield 29, 3) := by decide +kernel
theorem dX6_copyRow_33 : decode cX6_copyRow 33 = .ok (.iload_n 1, 1) := by decide +kernel
theorem dX6_copyRow_34 : decode cX6_copyRow 34 = .ok (.iaload, 1) := by decide +kernel
theorem dX6_copyRow_35 : decode cX6_copyRow 35 = .ok (.iastore, 1) := by decide +kernel
theorem dX6_copyRow_36 : decode cX6_copyRow 36 = .ok (.aload_n 0, 1) := by decide +kernel
theorem dX6_copyRow_37 : decode cX6_copyRow 37 = .ok (.getfield 35, 3) := by decide +kernel
theorem dX6_copyRow_40 : decode cX6_copyRow 40 = .ok (.iload_n 2, 1) := by decide +kernel
theorem dX6_copyRow_41 : decode cX6_copyRow 41 = .ok (.aload_n 0, 1) := by decide +kernel
theorem dX6_copyRow_42 : decode cX6_copyRow 42 = .ok (.getfield 35, 3) := by decide +kernel
theorem dX6_copyRow_45 : decode cX6_copyRow 45 = .ok (.iload_n 1, 1) := by decide +kernel
theorem dX6_copyRow_46 : decode cX6_copyRow 46 = .ok (.laload, 1) := by decide +kernel
theorem dX6_copyRow_47 : decode cX6_copyRow 47 = .ok (.lastore, 1) := by decide +kernel
theorem dX6_copyRow_48 : decode cX6_copyRow 48 = .ok (.iconst 0, 1) := by decide +kernel
theorem dX6_copyRow_49 : decode cX6_copyRow 49 = .ok (.istore_n 3, 1) := by decide +kernel
theorem dX6_copyRow_50 : decode cX6_copyRow 50 = .ok (.iload_n 3, 1) := by decide +kernel
theorem dX6_copyRow_51 : decode cX6_copyRow 51 = .ok (.bipush 6, 2) := by decide +kernel
theorem dX6_copyRow_53 : decode cX6_copyRow 53 = .ok (.if_icmp .ge 31, 3) := by decide +kernel
theorem dX6_copyRow_56 : decode cX6_copyRow 56 = .ok (.aload_n 0, 1) := by decide +kernel
theorem dX6_copyRow_57 : decode cX6_copyRow 57 = .ok (.getfield 32, 3) := by decide +kernel
theorem dX6_copyRow_60 : decode cX6_copyRow 60 = .ok (.bipush 6, 2) := by decide +kernel
theorem dX6_copyRow_62 : decode cX6_copyRow 62 = .ok (.iload_n 2, 1) := by decide +kernel
theorem dX6_copyRow_63 : decode cX6_copyRow 63 = .ok (.imul, 1) := by decide +kernel
theorem dX6_copyRow_64 : decode cX6_copyRow 64 = .ok (.iload_n 3, 1) := by decide +kernel
theorem dX6_copyRow_65 : decode cX6_copyRow 65 = .ok (.iadd, 1) := by decide +kernel
theorem dX6_copyRow_66 : decode cX6_copyRow 66 = .ok (.aload_n 0, 1) := by decide +kernel
theorem dX6_copyRow_67 : decode cX6_copyRow 67 = .ok (.getfield 32, 3) := by decide +kernel
theorem dX6_copyRow_70 : decode cX6_copyRow 70 = .ok (.bipush 6, 2) := by decide +kernel
theorem dX6_copyRow_72 : decode cX6_copyRow 72 = .ok (.iload_n 1, 1) := by decide +kernel
theorem dX6_copyRow_73 : decode cX6_copyRow 73 = .ok (.imul, 1) := by decide +kernel
theorem dX6_copyRow_74 : decode cX6_copyRow 74 = .ok (.iload_n 3, 1) := by decide +kernel
theorem dX6_copyRow_75 : decode cX6_copyRow 75 = .ok (.iadd, 1) := by decide +kernel
theorem dX6_copyRow_76 : decode cX6_copyRow 76 = .ok (.iaload, 1) := by decide +kernel
theorem dX6_copyRow_77 : decode cX6_copyRow 77 = .ok (.iastore, 1) := by decide +kernel
theorem dX6_copyRow_78 : decode cX6_copyRow 78 = .ok (.iinc 3 1, 3) := by decide +kernel
theorem dX6_copyRow_81 : decode cX6_copyRow 81 = .ok (.goto (-31), 3) := by decide +kernel
theorem dX6_copyRow_84 : decode cX6_copyRow 84 = .ok (.return_, 1) := by decide +kernel
theorem dX6_latest_0 : decode cX6_latest 0 = .ok (.iconst (-1), 1) := by decide +kernel
theorem dX6_latest_1 : decode cX6_latest 1 = .ok (.istore_n 2, 1) := by decide +kernel
theorem dX6_latest_2 : decode cX6_latest 2 = .ok (.iconst 0, 1) := by decide +kernel
theorem dX6_latest_3 : decode cX6_latest 3 = .ok (.istore_n 3, 1) := by decide +kernel
theorem dX6_latest_4 : decode cX6_latest 4 = .ok (.iload_n 3, 1) := by decide +kernel
theorem dX6_latest_5 : decode cX6_latest 5 = .ok (.aload_n 0, 1) := by decide +kernel
theorem dX6_latest_6 : decode cX6_latest 6 = .ok (.getfield 115, 3) := by decide +kernel
theorem dX6_latest_9 : decode cX6_latest 9 = .ok (.if_icmp .ge 31, 3) := by decide +kernel
theorem dX6_latest_12 : decode cX6_latest 12 = .ok (.aload_n 0, 1) := by decide +kernel
theorem dX6_latest_13 : decode cX6_latest 13 = .ok (.getfield 23, 3) := by decide +kernel
theorem dX6_latest_16 : decode cX6_latest 16 = .ok (.iload_n 3, 1) := by decide +kernel
theorem dX6_latest_17 : decode cX6_latest 17 = .ok (.iaload, 1) := by decide +kernel
theorem dX6_latest_18 : decode cX6_latest 18 = .ok (.iconst 1, 1) := by decide +kernel
theorem dX6_latest_19 : decode cX6_latest 19 = .ok (.if_icmp .ne 15, 3) := by decide +kernel
theorem dX6_latest_22 : decode cX6_latest 22 = .ok (.aload_n 0, 1) := by decide +kernel
theorem dX6_latest_23 : decode cX6_latest 23 = .ok (.getfield 26, 3) := by decide +kernel
theorem dX6_latest_26 : decode cX6_latest 26 = .ok (.iload_n 3, 1) := by decide +kernel
theorem dX6_latest_27 : decode cX6_latest 27 = .ok (.iaload, 1) := by decide +kernel
theorem dX6_latest_28 : decode cX6_latest 28 = .ok (.iload_n 1, 1) := by decide +kernel
theorem dX6_latest_29 : decode cX6_latest 29 = .ok (.if_icmp .ne 5, 3) := by decide +kernel
theorem dX6_latest_32 : decode cX6_latest 32 = .ok (.iload_n 3, 1) := by decide +kernel
theorem dX6_latest_33 : decode cX6_latest 33 = .ok (.istore_n 2, 1) := by decide +kernel
theorem dX6_latest_34 : decode cX6_latest 34 = .ok (.iinc 3 1, 3) := by decide +kernel
theorem dX6_latest_37 : decode cX6_latest 37 = .ok (.goto (-33), 3) := by decide +kernel
theorem dX6_latest_40 : decode cX6_latest 40 = .ok (.iload_n 2, 1) := by decide +kernel
theorem dX6_latest_41 : decode cX6_latest 41 = .ok (.ireturn, 1) := by decide +kernel
theorem dX6_lockRow_0 : decode cX6_lockRow 0 = .ok (.iconst (-1), 1) := by decide +kernel
theorem dX6_lockRow_1 : decode cX6_lockRow 1 = .ok (.istore_n 1, 1) := by decide +kernel
theorem dX6_lockRow_2 : decode cX6_lockRow 2 = .ok (.iconst 0, 1) := by decide +kernel
theorem dX6_lockRow_3 : decode cX6_lockRow 3 = .ok (.istore_n 2, 1) := by decide +kernel
theorem dX6_lockRow_4 : decode cX6_lockRow 4 = .ok (.iload_n 2, 1) := by decide +kernel
theorem dX6_lockRow_5 : decode cX6_lockRow 5 = .ok (.aload_n 0, 1) := by decide +kernel
theorem dX6_lockRow_6 : decode cX6_lockRow 6 = .ok (.getfield 115, 3) := by decide +kernel
theorem dX6_lockRow_9 : decode cX6_lockRow 9 = .ok (.if_icmp .ge 31, 3) := by decide +kernel
theorem dX6_lockRow_12 : decode cX6_lockRow 12 = .ok (.aload_n 0, 1) := by decide +kernel
theorem dX6_lockRow_13 : decode cX6_lockRow 13 = .ok (.getfield 23, 3) := by decide +kernel
theorem dX6_lockRow_16 : decode cX6_lockRow 16 = .ok (.iload_n 2, 1) := by decide +kernel
theorem dX6_lockRow_17 : decode cX6_lockRow 17 = .ok (.iaload, 1) := by decide +kernel
theorem dX6_lockRow_18 : decode cX6_lockRow 18 = .ok (.iconst 2, 1) := by decide +kernel
theorem dX6_lockRow_19 : decode cX6_lockRow 19 = .ok (.if_icmp .eq 13, 3) := by decide +kernel
theorem dX6_lockRow_22 : decode cX6_lockRow 22 = .ok (.aload_n 0, 1) := by decide +kernel
theorem dX6_lockRow_23 : decode cX6_lockRow 23 = .ok (.getfield 23, 3) := by decide +kernel
theorem dX6_lockRow_26 : decode cX6_lockRow 26 = .ok (.iload_n 2, 1) := by decide +kernel
theorem dX6_lockRow_27 : decode cX6_lockRow 27 = .ok (.iaload, 1) := by decide +kernel
theorem dX6_lockRow_28 : decode cX6_lockRow 28 = .ok (.iconst 3, 1) := by decide +kernel
theorem dX6_lockRow_29 : decode cX6_lockRow 29 = .ok (.if_icmp .ne 5, 3) := by decide +kernel
theorem dX6_lockRow_32 : decode cX6_lockRow 32 = .ok (.iload_n 2, 1) := by decide +kernel
theorem dX6_lockRow_33 : decode cX6_lockRow 33 = .ok (.istore_n 1, 1) := by decide +kernel
theorem dX6_lockRow_34 : decode cX6_lockRow 34 = .ok (.iinc 2 1, 3) := by decide +kernel
theorem dX6_lockRow_37 : decode cX6_lockRow 37 = .ok (.goto (-33), 3) := by decide +kernel
theorem dX6_lockRow_40 : decode cX6_lockRow 40 = .ok (.iload_n 1, 1) := by decide +kernel
theorem dX6_lockRow_41 : decode cX6_lockRow 41 = .ok (.ireturn, 1) := by decide +kernel
theorem dX6_isWrongBehind_0 : decode cX6_isWrongBehind 0 = .ok (.iconst 0, 1) := by decide +kernel
theorem dX6_isWrongBehind_1 : decode cX6_isWrongBehind 1 = .ok (.istore_n 2, 1) := by decide +kernel
theorem dX6_isWrongBehind_2 : decode cX6_isWrongBehind 2 = .ok (.iload_n 1, 1) := by decide +kernel
theorem dX6_isWrongBehind_3 : decode cX6_isWrongBehind 3 = .ok (.iconst 1, 1) := by decide +kernel
theorem dX6_isWrongBehind_4 : decode cX6_isWrongBehind 4 = .ok (.iadd, 1) := by decide +kernel
theorem dX6_isWrongBehind_5 : decode cX6_isWrongBehind 5 = .ok (.istore_n 3, 1) := by decide +kernel
theorem dX6_isWrongBehind_6 : decode cX6_isWrongBehind 6 = .ok (.iload_n 3, 1) := by decide +kernel
theorem dX6_isWrongBehind_7 : decode cX6_isWrongBehind 7 = .ok (.aload_n 0, 1) := by decide +kernel
theorem dX6_isWrongBehind_8 : decode cX6_isWrongBehind 8 = .ok (.getfield 115, 3) := by decide +kernel
theorem dX6_isWrongBehind_11 : decode cX6_isWrongBehind 11 = .ok (.if_icmp .ge 28, 3) := by decide +kernel
theorem dX6_isWrongBehind_14 : decode cX6_isWrongBehind 14 = .ok (.iload_n 2, 1) := by decide +kernel
theorem dX6_isWrongBehind_15 : decode cX6_isWrongBehind 15 = .ok (.ifCond .ne 12, 3) := by decide +kernel
theorem dX6_isWrongBehind_18 : decode cX6_isWrongBehind 18 = .ok (.aload_n 0, 1) := by decide +kernel
theorem dX6_isWrongBehind_19 : decode cX6_isWrongBehind 19 = .ok (.getfield 23, 3) := by decide +kernel
theorem dX6_isWrongBehind_22 : decode cX6_isWrongBehind 22 = .ok (.iload_n 3, 1) := by decide +kernel
theorem dX6_isWrongBehind_23 : decode cX6_isWrongBehind 23 = .ok (.iaload, 1) := by decide +kernel
theorem dX6_isWrongBehind_24 : decode cX6_isWrongBehind 24 = .ok (.ifCond .ne 7, 3) := by decide +kernel
theorem dX6_isWrongBehind_27 : decode cX6_isWrongBehind 27 = .ok (.iconst 1, 1) := by decide +kernel
theorem dX6_isWrongBehind_28 : decode cX6_isWrongBehind 28 = .ok (.goto 4, 3) := by decide +kernel
theorem dX6_isWrongBehind_31 : decode cX6_isWrongBehind 31 = .ok (.iconst 0, 1) := by decide +kernel
theorem dX6_isWrongBehind_32 : decode cX6_isWrongBehind 32 = .ok (.istore_n 2, 1) := by decide +kernel
theorem dX6_isWrongBehind_33 : decode cX6_isWrongBehind 33 = .ok (.iinc 3 1, 3) := by decide +kernel
theorem dX6_isWrongBehind_36 : decode cX6_isWrongBehind 36 = .ok (.goto (-30), 3) := by decide +kernel
theorem dX6_isWrongBehind_39 : decode cX6_isWrongBehind 39 = .ok (.iload_n 2, 1) := by decide +kernel
theorem dX6_isWrongBehind_40 : decode cX6_isWrongBehind 40 = .ok (.ireturn, 1) := by decide +kernel
theorem dX6_holder_0 : decode cX6_holder 0 = .ok (.aload_n 0, 1) := by decide +kernel
theorem dX6_holder_1 : decode cX6_holder 1 = .ok (.invokevirtual 174, 3) := by decide +kernel
theorem dX6_holder_4 : decode cX6_holder 4 = .ok (.istore_n 1, 1) := by decide +kernel
theorem dX6_holder_5 : decode cX6_holder 5 = .ok (.iload_n 1, 1) := by decide +kernel
theorem dX6_holder_6 : decode cX6_holder 6 = .ok (.iconst (-1), 1) := by decide +kernel
theorem dX6_holder_7 : decode cX6_holder 7 = .ok (.if_icmp .eq 13, 3) := by decide +kernel
theorem dX6_holder_10 : decode cX6_holder 10 = .ok (.aload_n 0, 1) := by decide +kernel
theorem dX6_holder_11 : decode cX6_holder 11 = .ok (.getfield 23, 3) := by decide +kernel
theorem dX6_holder_14 : decode cX6_holder 14 = .ok (.iload_n 1, 1) := by decide +kernel
theorem dX6_holder_15 : decode cX6_holder 15 = .ok (.iaload, 1) := by decide +kernel
theorem dX6_holder_16 : decode cX6_holder 16 = .ok (.iconst 3, 1) := by decide +kernel
theorem dX6_holder_17 : decode cX6_holder 17 = .ok (.if_icmp .ne 7, 3) := by decide +kernel
theorem dX6_holder_20 : decode cX6_holder 20 = .ok (.iconst (-1), 1) := by decide +kernel
theorem dX6_holder_21 : decode cX6_holder 21 = .ok (.goto 9, 3) := by decide +kernel
theorem dX6_holder_24 : decode cX6_holder 24 = .ok (.aload_n 0, 1) := by decide +kernel
theorem dX6_holder_25 : decode cX6_holder 25 = .ok (.getfield 26, 3) := by decide +kernel
theorem dX6_holder_28 : decode cX6_holder 28 = .ok (.iload_n 1, 1) := by decide +kernel
theorem dX6_holder_29 : decode cX6_holder 29 = .ok (.iaload, 1) := by decide +kernel
theorem dX6_holder_30 : decode cX6_holder 30 = .ok (.ireturn, 1) := by decide +kernel
theorem dX6_keep_0 : decode cX6_keep 0 = .ok (.aload_n 0, 1) := by decide +kernel
theorem dX6_keep_1 : decode cX6_keep 1 = .ok (.getfield 115, 3) := by decide +kernel
theorem dX6_keep_4 : decode cX6_keep 4 = .ok (.bipush 16, 2) := by decide +kernel
theorem dX6_keep_6 : decode cX6_keep 6 = .ok (.aload_n 0, 1) := by decide +kernel
theorem dX6_keep_7 : decode cX6_keep 7 = .ok (.getfield 50, 3) := by decide +kernel
theorem dX6_keep_10 : decode cX6_keep 10 = .ok (.imul, 1) := by decide +kernel
theorem dX6_keep_11 : decode cX6_keep 11 = .ok (.if_icmp .ne 6, 3) := by decide +kernel
theorem dX6_keep_14 : decode cX6_keep 14 = .ok (.bipush (-4), 2) := by decide +kernel
theorem dX6_keep_16 : decode cX6_keep 16 = .ok (.ireturn, 1) := by decide +kernel
theorem dX6_keep_17 : decode cX6_keep 17 = .ok (.aload_n 0, 1) := by decide +kernel
theorem dX6_keep_18 : decode cX6_keep 18 = .ok (.getfield 23, 3) := by decide +kernel
theorem dX6_keep_21 : decode cX6_keep 21 = .ok (.aload_n 0, 1) := by decide +kernel
theorem dX6_keep_22 : decode cX6_keep 22 = .ok (.getfield 115, 3) := by decide +kernel
theorem dX6_keep_25 : decode cX6_keep 25 = .ok (.iload_n 1, 1) := by decide +kernel
theorem dX6_keep_26 : decode cX6_keep 26 = .ok (.iastore, 1) := by decide +kernel
theorem dX6_keep_27 : decode cX6_keep 27 = .ok (.aload_n 0, 1) := by decide +kernel
theorem dX6_keep_28 : decode cX6_keep 28 = .ok (.getfield 26, 3) := by decide +kernel
theorem dX6_keep_31 : decode cX6_keep 31 = .ok (.aload_n 0, 1) := by decide +kernel
theorem dX6_keep_32 : decode cX6_keep 32 = .ok (.getfield 115, 3) := by decide +kernel
theorem dX6_keep_35 : decode cX6_keep 35 = .ok (.iload_n 2, 1) := by decide +kernel
theorem dX6_keep_36 : decode cX6_keep 36 = .ok (.iastore, 1) := by decide +kernel
theorem dX6_keep_37 : decode cX6_keep 37 = .ok (.aload_n 0, 1) := by decide +kernel
theorem dX6_keep_38 : decode cX6_keep 38 = .ok (.getfield 29, 3) := by decide +kernel
theorem dX6_keep_41 : decode cX6_keep 41 = .ok (.aload_n 0, 1) := by decide +kernel
theorem dX6_keep_42 : decode cX6_keep 42 = .ok (.getfield 115, 3) := by decide +kernel
theorem dX6_keep_45 : decode cX6_keep 45 = .ok (.iconst 0, 1) := by decide +kernel
theorem dX6_keep_46 : decode cX6_keep 46 = .ok (.iastore, 1) := by decide +kernel
theorem dX6_keep_47 : decode cX6_keep 47 = .ok (.aload_n 0, 1) := by decide +kernel
theorem dX6_keep_48 : decode cX6_keep 48 = .ok (.getfield 35, 3) := by decide +kernel
theorem dX6_keep_51 : decode cX6_keep 51 = .ok (.aload_n 0, 1) := by decide +kernel
theorem dX6_keep_52 : decode cX6_keep 52 = .ok (.getfield 115, 3) := by decide +kernel
theorem dX6_keep_55 : decode cX6_keep 55 = .ok (.lload_n 3, 1) := by decide +kernel
theorem dX6_keep_56 : decode cX6_keep 56 = .ok (.lastore, 1) := by decide +kernel
theorem dX6_keep_57 : decode cX6_keep 57 = .ok (.aload_n 0, 1) := by decide +kernel
theorem dX6_keep_58 : decode cX6_keep 58 = .ok (.aload_n 0, 1) := by decide +kernel
theorem dX6_keep_59 : decode cX6_keep 59 = .ok (.getfield 107, 3) := by decide +kernel
theorem dX6_keep_62 : decode cX6_keep 62 = .ok (.aload_n 0, 1) := by decide +kernel
theorem dX6_keep_63 : decode cX6_keep 63 = .ok (.getfield 115, 3) := by decide +kernel
theorem dX6_keep_66 : decode cX6_keep 66 = .ok (.aload_n 0, 1) := by decide +kernel
theorem dX6_keep_67 : decode cX6_keep 67 = .ok (.getfield 115, 3) := by decide +kernel
theorem dX6_keep_70 : decode cX6_keep 70 = .ok (.invokevirtual 118, 3) := by decide +kernel
theorem dX6_keep_73 : decode cX6_keep 73 = .ok (.aload_n 0, 1) := by decide +kernel
theorem dX6_keep_74 : decode cX6_keep 74 = .ok (.dup, 1) := by decide +kernel
theorem dX6_keep_75 : decode cX6_keep 75 = .ok (.getfield 115, 3) := by decide +kernel
theorem dX6_keep_78 : decode cX6_keep 78 = .ok (.iconst 1, 1) := by decide +kernel
theorem dX6_keep_79 : decode cX6_keep 79 = .ok (.iadd, 1) := by decide +kernel
theorem dX6_keep_80 : decode cX6_keep 80 = .ok (.putfield 115, 3) := by decide +kernel
theorem dX6_keep_83 : decode cX6_keep 83 = .ok (.aload_n 0, 1) := by decide +kernel
theorem dX6_keep_84 : decode cX6_keep 84 = .ok (.getfield 115, 3) := by decide +kernel
theorem dX6_keep_87 : decode cX6_keep 87 = .ok (.iconst 1, 1) := by decide +kernel
theorem dX6_keep_88 : decode cX6_keep 88 = .ok (.isub, 1) := by decide +kernel
theorem dX6_keep_89 : decode cX6_keep 89 = .ok (.ireturn, 1) := by decide +kernel
theorem dX6_step_0 : decode cX6_step 0 = .ok (.aload_n 0, 1) := by decide +kernel
theorem dX6_step_1 : decode cX6_step 1 = .ok (.getfield 158, 3) := by decide +kernel
theorem dX6_step_4 : decode cX6_step 4 = .ok (.ifCond .ne 30, 3) := by decide +kernel
theorem dX6_step_7 : decode cX6_step 7 = .ok (.aload_n 0, 1) := by decide +kernel
theorem dX6_step_8 : decode cX6_step 8 = .ok (.iconst 1, 1) := by decide +kernel
theorem dX6_step_9 : decode cX6_step 9 = .ok (.aload_n 0, 1) := by decide +kernel
theorem dX6_step_10 : decode cX6_step 10 = .ok (.getfield 107, 3) := by decide +kernel
theorem dX6_step_13 : decode cX6_step 13 = .ok (.isub, 1) := by decide +kernel
theorem dX6_step_14 : decode cX6_step 14 = .ok (.invokevirtual 139, 3) := by decide +kernel
theorem dX6_step_17 : decode cX6_step 17 = .ok (.aload_n 0, 1) := by decide +kernel
theorem dX6_step_18 : decode cX6_step 18 = .ok (.iconst 1, 1) := by decide +kernel
theorem dX6_step_19 : decode cX6_step 19 = .ok (.putfield 158, 3) := by decide +kernel
theorem dX6_step_22 : decode cX6_step 22 = .ok (.aload_n 0, 1) := by decide +kernel
theorem dX6_step_23 : decode cX6_step 23 = .ok (.iconst 0, 1) := by decide +kernel
theorem dX6_step_24 : decode cX6_step 24 = .ok (.putfield 161, 3) := by decide +kernel
theorem dX6_step_27 : decode cX6_step 27 = .ok (.aload_n 0, 1) := by decide +kernel
theorem dX6_step_28 : decode cX6_step 28 = .ok (.iconst 0, 1) := by decide +kernel
theorem dX6_step_29 : decode cX6_step 29 = .ok (.putfield 164, 3) := by decide +kernel
theorem dX6_step_32 : decode cX6_step 32 = .ok (.iconst 0, 1) := by decide +kernel
theorem dX6_step_33 : decode cX6_step 33 = .ok (.ireturn, 1) := by decide +kernel
theorem dX6_step_34 : decode cX6_step 34 = .ok (.aload_n 0, 1) := by decide +kernel
theorem dX6_step_35 : decode cX6_step 35 = .ok (.getfield 161, 3) := by decide +kernel
theorem dX6_step_38 : decode cX6_step 38 = .ok (.aload_n 0, 1) := by decide +kernel
theorem dX6_step_39 : decode cX6_step 39 = .ok (.getfield 115, 3) := by decide +kernel
theorem dX6_step_42 : decode cX6_step 42 = .ok (.if_icmp .ge 134, 3) := by decide +kernel
theorem dX6_step_45 : decode cX6_step 45 = .ok (.aload_n 0, 1) := by decide +kernel
theorem dX6_step_46 : decode cX6_step 46 = .ok (.getfield 161, 3) := by decide +kernel
theorem dX6_step_49 : decode cX6_step 49 = .ok (.istore_n 1, 1) := by decide +kernel
theorem dX6_step_50 : decode cX6_step 50 = .ok (.aload_n 0, 1) := by decide +kernel
theorem dX6_step_51 : decode cX6_step 51 = .ok (.dup, 1) := by decide +kernel
theorem dX6_step_52 : decode cX6_step 52 = .ok (.getfield 161, 3) := by decide +kernel
theorem dX6_step_55 : decode cX6_step 55 = .ok (.iconst 1, 1) := by decide +kernel
theorem dX6_step_56 : decode cX6_step 56 = .ok (.iadd, 1) := by decide +kernel
theorem dX6_step_57 : decode cX6_step 57 = .ok (.putfield 161, 3) := by decide +kernel
theorem dX6_step_60 : decode cX6_step 60 = .ok (.aload_n 0, 1) := by decide +kernel
theorem dX6_step_61 : decode cX6_step 61 = .ok (.getfield 23, 3) := by decide +kernel
theorem dX6_step_64 : decode cX6_step 64 = .ok (.iload_n 1, 1) := by decide +kernel
theorem dX6_step_65 : decode cX6_step 65 = .ok (.iaload, 1) := by decide +kernel
theorem dX6_step_66 : decode cX6_step 66 = .ok (.iconst 1, 1) := by decide +kernel
theorem dX6_step_67 : decode cX6_step 67 = .ok (.if_icmp .ne 33, 3) := by decide +kernel
theorem dX6_step_70 : decode cX6_step 70 = .ok (.aload_n 0, 1) := by decide +kernel
theorem dX6_step_71 : decode cX6_step 71 = .ok (.aload_n 0, 1) := by decide +kernel
theorem dX6_step_72 : decode cX6_step 72 = .ok (.getfield 26, 3) := by decide +kernel
theorem dX6_step_75 : decode cX6_step 75 = .ok (.iload_n 1, 1) := by decide +kernel
theorem dX6_step_76 : decode cX6_step 76 = .ok (.iaload, 1) := by decide +kernel
theorem dX6_step_77 : decode cX6_step 77 = .ok (.invokevirtual 167, 3) := by decide +kernel
theorem dX6_step_80 : decode cX6_step 80 = .ok (.iload_n 1, 1) := by decide +kernel
theorem dX6_step_81 : decode cX6_step 81 = .ok (.if_icmp .ne 15, 3) := by decide +kernel
theorem dX6_step_84 : decode cX6_step 84 = .ok (.aload_n 0, 1) := by decide +kernel
theorem dX6_step_85 : decode cX6_step 85 = .ok (.iload_n 1, 1) := by decide +kernel
theorem dX6_step_86 : decode cX6_step 86 = .ok (.invokevirtual 171, 3) := by decide +kernel
theorem dX6_step_89 : decode cX6_step 89 = .ok (.ifCond .ne 7, 3) := by decide +kernel
theorem dX6_step_92 : decode cX6_step 92 = .ok (.iconst 1, 1) := by decide +kernel
theorem dX6_step_93 : decode cX6_step 93 = .ok (.goto 29, 3) := by decide +kernel
theorem dX6_step_96 : decode cX6_step 96 = .ok (.iconst 0, 1) := by decide +kernel
theorem dX6_step_97 : decode cX6_step 97 = .ok (.goto 25, 3) := by decide +kernel
theorem dX6_step_100 : decode cX6_step 100 = .ok (.aload_n 0, 1) := by decide +kernel
theorem dX6_step_101 : decode cX6_step 101 = .ok (.getfield 23, 3) := by decide +kernel
theorem dX6_step_104 : decode cX6_step 104 = .ok (.iload_n 1, 1) := by decide +kernel
theorem dX6_step_105 : decode cX6_step 105 = .ok (.iaload, 1) := by decide +kernel
theorem dX6_step_106 : decode cX6_step 106 = .ok (.ifCond .eq 15, 3) := by decide +kernel
theorem dX6_step_109 : decode cX6_step 109 = .ok (.aload_n 0, 1) := by decide +kernel
theorem dX6_step_110 : decode cX6_step 110 = .ok (.invokevirtual 174, 3) := by decide +kernel
theorem dX6_step_113 : decode cX6_step 113 = .ok (.iload_n 1, 1) := by decide +kernel
theorem dX6_step_114 : decode cX6_step 114 = .ok (.if_icmp .ne 7, 3) := by decide +kernel
theorem dX6_step_117 : decode cX6_step 117 = .ok (.iconst 1, 1) := by decide +kernel
theorem dX6_step_118 : decode cX6_step 118 = .ok (.goto 4, 3) := by decide +kernel
theorem dX6_step_121 : decode cX6_step 121 = .ok (.iconst 0, 1) := by decide +kernel
theorem dX6_step_122 : decode cX6_step 122 = .ok (.istore_n 2, 1) := by decide +kernel
theorem dX6_step_123 : decode cX6_step 123 = .ok (.iload_n 2, 1) := by decide +kernel
theorem dX6_step_124 : decode cX6_step 124 = .ok (.ifCond .ne 5, 3) := by decide +kernel
theorem dX6_step_127 : decode cX6_step 127 = .ok (.iconst 0, 1) := by decide +kernel
theorem dX6_step_128 : decode cX6_step 128 = .ok (.ireturn, 1) := by decide +kernel
theorem dX6_step_129 : decode cX6_step 129 = .ok (.aload_n 0, 1) := by decide +kernel
theorem dX6_step_130 : decode cX6_step 130 = .ok (.iload_n 1, 1) := by decide +kernel
theorem dX6_step_131 : decode cX6_step 131 = .ok (.sipush 304, 3) := by decide +kernel
theorem dX6_step_134 : decode cX6_step 134 = .ok (.aload_n 0, 1) := by decide +kernel
theorem dX6_step_135 : decode cX6_step 135 = .ok (.getfield 164, 3) := by decide +kernel
theorem dX6_step_138 : decode cX6_step 138 = .ok (.iadd, 1) := by decide +kernel
theorem dX6_step_139 : decode cX6_step 139 = .ok (.invokevirtual 178, 3) := by decide +kernel
theorem dX6_step_142 : decode cX6_step 142 = .ok (.aload_n 0, 1) := by decide +kernel
theorem dX6_step_143 : decode cX6_step 143 = .ok (.iconst 1, 1) := by decide +kernel
theorem dX6_step_144 : decode cX6_step 144 = .ok (.aload_n 0, 1) := by decide +kernel
theorem dX6_step_145 : decode cX6_step 145 = .ok (.getfield 107, 3) := by decide +kernel
theorem dX6_step_148 : decode cX6_step 148 = .ok (.isub, 1) := by decide +kernel
theorem dX6_step_149 : decode cX6_step 149 = .ok (.aload_n 0, 1) := by decide +kernel
theorem dX6_step_150 : decode cX6_step 150 = .ok (.getfield 164, 3) := by decide +kernel
theorem dX6_step_153 : decode cX6_step 153 = .ok (.sipush 304, 3) := by decide +kernel
theorem dX6_step_156 : decode cX6_step 156 = .ok (.aload_n 0, 1) := by decide +kernel
theorem dX6_step_157 : decode cX6_step 157 = .ok (.getfield 164, 3) := by decide +kernel
theorem dX6_step_160 : decode cX6_step 160 = .ok (.iadd, 1) := by decide +kernel
theorem dX6_step_161 : decode cX6_step 161 = .ok (.invokevirtual 118, 3) := by decide +kernel
theorem dX6_step_164 : decode cX6_step 164 = .ok (.aload_n 0, 1) := by decide +kernel
theorem dX6_step_165 : decode cX6_step 165 = .ok (.dup, 1) := by decide +kernel
theorem dX6_step_166 : decode cX6_step 166 = .ok (.getfield 164, 3) := by decide +kernel
theorem dX6_step_169 : decode cX6_step 169 = .ok (.iconst 1, 1) := by decide +kernel
theorem dX6_step_170 : decode cX6_step 170 = .ok (.iadd, 1) := by decide +kernel
theorem dX6_step_171 : decode cX6_step 171 = .ok (.putfield 164, 3) := by decide +kernel
theorem dX6_step_174 : decode cX6_step 174 = .ok (.iconst 0, 1) := by decide +kernel
theorem dX6_step_175 : decode cX6_step 175 = .ok (.ireturn, 1) := by decide +kernel
theorem dX6_step_176 : decode cX6_step 176 = .ok (.aload_n 0, 1) := by decide +kernel
theorem dX6_step_177 : decode cX6_step 177 = .ok (.iconst 1, 1) := by decide +kernel
theorem dX6_step_178 : decode cX6_step 178 = .ok (.aload_n 0, 1) := by decide +kernel
theorem dX6_step_179 : decode cX6_step 179 = .ok (.getfield 107, 3) := by decide +kernel
theorem dX6_step_182 : decode cX6_step 182 = .ok (.isub, 1) := by decide +kernel
theorem dX6_step_183 : decode cX6_step 183 = .ok (.putfield 107, 3) := by decide +kernel
theorem dX6_step_186 : decode cX6_step 186 = .ok (.aload_n 0, 1) := by decide +kernel
theorem dX6_step_187 : decode cX6_step 187 = .ok (.invokevirtual 145, 3) := by decide +kernel
theorem dX6_step_190 : decode cX6_step 190 = .ok (.iconst 0, 1) := by decide +kernel
theorem dX6_step_191 : decode cX6_step 191 = .ok (.istore_n 1, 1) := by decide +kernel
theorem dX6_step_192 : decode cX6_step 192 = .ok (.iload_n 1, 1) := by decide +kernel
theorem dX6_step_193 : decode cX6_step 193 = .ok (.aload_n 0, 1) := by decide +kernel
theorem dX6_step_194 : decode cX6_step 194 = .ok (.getfield 164, 3) := by decide +kernel
theorem dX6_step_197 : decode cX6_step 197 = .ok (.if_icmp .ge 19, 3) := by decide +kernel
theorem dX6_step_200 : decode cX6_step 200 = .ok (.aload_n 0, 1) := by decide +kernel
theorem dX6_step_201 : decode cX6_step 201 = .ok (.sipush 304, 3) := by decide +kernel
theorem dX6_step_204 : decode cX6_step 204 = .ok (.iload_n 1, 1) := by decide +kernel
theorem dX6_step_205 : decode cX6_step 205 = .ok (.iadd, 1) := by decide +kernel
theorem dX6_step_206 : decode cX6_step 206 = .ok (.iload_n 1, 1) := by decide +kernel
theorem dX6_step_207 : decode cX6_step 207 = .ok (.invokevirtual 178, 3) := by decide +kernel
theorem dX6_step_210 : decode cX6_step 210 = .ok (.iinc 1 1, 3) := by decide +kernel
theorem dX6_step_213 : decode cX6_step 213 = .ok (.goto (-21), 3) := by decide +kernel
theorem dX6_step_216 : decode cX6_step 216 = .ok (.aload_n 0, 1) := by decide +kernel
theorem dX6_step_217 : decode cX6_step 217 = .ok (.aload_n 0, 1) := by decide +kernel
theorem dX6_step_218 : decode cX6_step 218 = .ok (.getfield 164, 3) := by decide +kernel
theorem dX6_step_221 : decode cX6_step 221 = .ok (.putfield 115, 3) := by decide +kernel
theorem dX6_step_224 : decode cX6_step 224 = .ok (.aload_n 0, 1) := by decide +kernel
theorem dX6_step_225 : decode cX6_step 225 = .ok (.aload_n 0, 1) := by decide +kernel
theorem dX6_step_226 : decode cX6_step 226 = .ok (.getfield 115, 3) := by decide +kernel
theorem dX6_step_229 : decode cX6_step 229 = .ok (.putfield 148, 3) := by decide +kernel
theorem dX6_step_232 : decode cX6_step 232 = .ok (.aload_n 0, 1) := by decide +kernel
theorem dX6_step_233 : decode cX6_step 233 = .ok (.iconst 0, 1) := by decide +kernel
theorem dX6_step_234 : decode cX6_step 234 = .ok (.putfield 158, 3) := by decide +kernel
theorem dX6_step_237 : decode cX6_step 237 = .ok (.iconst 1, 1) := by decide +kernel
theorem dX6_step_238 : decode cX6_step 238 = .ok (.ireturn, 1) := by decide +kernel
theorem dX6_row_0 : decode cX6_row 0 = .ok (.aload_n 0, 1) := by decide +kernel
theorem dX6_row_1 : decode cX6_row 1 = .ok (.iconst 0, 1) := by decide +kernel
theorem dX6_row_2 : decode cX6_row 2 = .ok (.putfield 59, 3) := by decide +kernel
theorem dX6_row_5 : decode cX6_row 5 = .ok (.iload_n 1, 1) := by decide +kernel
theorem dX6_row_6 : decode cX6_row 6 = .ok (.invokestatic 97, 3) := by decide +kernel
theorem dX6_row_9 : decode cX6_row 9 = .ok (.ifCond .ne 6, 3) := by decide +kernel
theorem dX6_row_12 : decode cX6_row 12 = .ok (.bipush (-2), 2) := by decide +kernel
theorem dX6_row_14 : decode cX6_row 14 = .ok (.ireturn, 1) := by decide +kernel
theorem dX6_row_15 : decode cX6_row 15 = .ok (.aload_n 0, 1) := by decide +kernel
theorem dX6_row_16 : decode cX6_row 16 = .ok (.getfield 132, 3) := by decide +kernel
theorem dX6_row_19 : decode cX6_row 19 = .ok (.ifCond .ne 6, 3) := by decide +kernel
theorem dX6_row_22 : decode cX6_row 22 = .ok (.bipush (-3), 2) := by decide +kernel
theorem dX6_row_24 : decode cX6_row 24 = .ok (.ireturn, 1) := by decide +kernel
theorem dX6_row_25 : decode cX6_row 25 = .ok (.aload_n 0, 1) := by decide +kernel
theorem dX6_row_26 : decode cX6_row 26 = .ok (.iconst 1, 1) := by decide +kernel
theorem dX6_row_27 : decode cX6_row 27 = .ok (.iload_n 1, 1) := by decide +kernel
theorem dX6_row_28 : decode cX6_row 28 = .ok (.lload_n 2, 1) := by decide +kernel
theorem dX6_row_29 : decode cX6_row 29 = .ok (.invokevirtual 154, 3) := by decide +kernel
theorem dX6_row_32 : decode cX6_row 32 = .ok (.istore 4, 2) := by decide +kernel
theorem dX6_row_34 : decode cX6_row 34 = .ok (.aload_n 0, 1) := by decide +kernel
theorem dX6_row_35 : decode cX6_row 35 = .ok (.getfield 39, 3) := by decide +kernel
theorem dX6_row_38 : decode cX6_row 38 = .ok (.iload_n 1, 1) := by decide +kernel
theorem dX6_row_39 : decode cX6_row 39 = .ok (.iload 4, 2) := by decide +kernel
theorem dX6_row_41 : decode cX6_row 41 = .ok (.ifCond .ge 7, 3) := by decide +kernel
theorem dX6_row_44 : decode cX6_row 44 = .ok (.iconst 1, 1) := by decide +kernel
theorem dX6_row_45 : decode cX6_row 45 = .ok (.goto 4, 3) := by decide +kernel
theorem dX6_row_48 : decode cX6_row 48 = .ok (.iconst 0, 1) := by decide +kernel
theorem dX6_row_49 : decode cX6_row 49 = .ok (.bastore, 1) := by decide +kernel
theorem dX6_row_50 : decode cX6_row 50 = .ok (.aload_n 0, 1) := by decide +kernel
theorem dX6_row_51 : decode cX6_row 51 = .ok (.getfield 43, 3) := by decide +kernel
theorem dX6_row_54 : decode cX6_row 54 = .ok (.iload_n 1, 1) := by decide +kernel
theorem dX6_row_55 : decode cX6_row 55 = .ok (.lload_n 2, 1) := by decide +kernel
theorem dX6_row_56 : decode cX6_row 56 = .ok (.lastore, 1) := by decide +kernel
theorem dX6_row_57 : decode cX6_row 57 = .ok (.iload 4, 2) := by decide +kernel
theorem dX6_row_59 : decode cX6_row 59 = .ok (.ireturn, 1) := by decide +kernel
theorem dX6_asks_0 : decode cX6_asks 0 = .ok (.aload_n 0, 1) := by decide +kernel
theorem dX6_asks_1 : decode cX6_asks 1 = .ok (.iconst 0, 1) := by decide +kernel
theorem dX6_asks_2 : decode cX6_asks 2 = .ok (.putfield 59, 3) := by decide +kernel
theorem dX6_asks_5 : decode cX6_asks 5 = .ok (.aload_n 0, 1) := by decide +kernel
theorem dX6_asks_6 : decode cX6_asks 6 = .ok (.getfield 132, 3) := by decide +kernel
theorem dX6_asks_9 : decode cX6_asks 9 = .ok (.ifCond .eq 25, 3) := by decide +kernel
theorem dX6_asks_12 : decode cX6_asks 12 = .ok (.iload_n 1, 1) := by decide +kernel
theorem dX6_asks_13 : decode cX6_asks 13 = .ok (.ifCond .lt 21, 3) := by decide +kernel
theorem dX6_asks_16 : decode cX6_asks 16 = .ok (.iload_n 1, 1) := by decide +kernel
theorem dX6_asks_17 : decode cX6_asks 17 = .ok (.aload_n 0, 1) := by decide +kernel
theorem dX6_asks_18 : decode cX6_asks 18 = .ok (.getfield 115, 3) := by decide +kernel
theorem dX6_asks_21 : decode cX6_asks 21 = .ok (.if_icmp .ge 13, 3) := by decide +kernel
theorem dX6_asks_24 : decode cX6_asks 24 = .ok (.aload_n 0, 1) := by decide +kernel
theorem dX6_asks_25 : decode cX6_asks 25 = .ok (.getfield 23, 3) := by decide +kernel
theorem dX6_asks_28 : decode cX6_asks 28 = .ok (.iload_n 1, 1) := by decide +kernel
theorem dX6_asks_29 : decode cX6_asks 29 = .ok (.iaload, 1) := by decide +kernel
theorem dX6_asks_30 : decode cX6_asks 30 = .ok (.iconst 1, 1) := by decide +kernel
theorem dX6_asks_31 : decode cX6_asks 31 = .ok (.if_icmp .eq 5, 3) := by decide +kernel
theorem dX6_asks_34 : decode cX6_asks 34 = .ok (.iconst (-1), 1) := by decide +kernel
theorem dX6_asks_35 : decode cX6_asks 35 = .ok (.ireturn, 1) := by decide +kernel
theorem dX6_asks_36 : decode cX6_asks 36 = .ok (.iload_n 2, 1) := by decide +kernel
theorem dX6_asks_37 : decode cX6_asks 37 = .ok (.invokestatic 97, 3) := by decide +kernel
theorem dX6_asks_40 : decode cX6_asks 40 = .ok (.ifCond .ne 6, 3) := by decide +kernel
theorem dX6_asks_43 : decode cX6_asks 43 = .ok (.bipush (-2), 2) := by decide +kernel
theorem dX6_asks_45 : decode cX6_asks 45 = .ok (.ireturn, 1) := by decide +kernel
theorem dX6_asks_46 : decode cX6_asks 46 = .ok (.iload_n 1, 1) := by decide +kernel
theorem dX6_asks_47 : decode cX6_asks 47 = .ok (.aload_n 0, 1) := by decide +kernel
theorem dX6_asks_48 : decode cX6_asks 48 = .ok (.getfield 115, 3) := by decide +kernel
theorem dX6_asks_51 : decode cX6_asks 51 = .ok (.iconst 1, 1) := by decide +kernel
theorem dX6_asks_52 : decode cX6_asks 52 = .ok (.isub, 1) := by decide +kernel
theorem dX6_asks_53 : decode cX6_asks 53 = .ok (.if_icmp .ne 26, 3) := by decide +kernel
theorem dX6_asks_56 : decode cX6_asks 56 = .ok (.iload_n 1, 1) := by decide +kernel
theorem dX6_asks_57 : decode cX6_asks 57 = .ok (.aload_n 0, 1) := by decide +kernel
theorem dX6_asks_58 : decode cX6_asks 58 = .ok (.getfield 148, 3) := by decide +kernel
theorem dX6_asks_61 : decode cX6_asks 61 = .ok (.if_icmp .lt 18, 3) := by decide +kernel
theorem dX6_asks_64 : decode cX6_asks 64 = .ok (.aload_n 0, 1) := by decide +kernel
theorem dX6_asks_65 : decode cX6_asks 65 = .ok (.getfield 158, 3) := by decide +kernel
theorem dX6_asks_68 : decode cX6_asks 68 = .ok (.ifCond .eq 14, 3) := by decide +kernel
theorem dX6_asks_71 : decode cX6_asks 71 = .ok (.iload_n 1, 1) := by decide +kernel
theorem dX6_asks_72 : decode cX6_asks 72 = .ok (.aload_n 0, 1) := by decide +kernel
theorem dX6_asks_73 : decode cX6_asks 73 = .ok (.getfield 161, 3) := by decide +kernel
theorem dX6_asks_76 : decode cX6_asks 76 = .ok (.if_icmp .ge 6, 3) := by decide +kernel
theorem dX6_asks_79 : decode cX6_asks 79 = .ok (.bipush (-3), 2) := by decide +kernel
theorem dX6_asks_81 : decode cX6_asks 81 = .ok (.ireturn, 1) := by decide +kernel
theorem dX6_asks_82 : decode cX6_asks 82 = .ok (.aload_n 0, 1) := by decide +kernel
theorem dX6_asks_83 : decode cX6_asks 83 = .ok (.getfield 29, 3) := by decide +kernel
theorem dX6_asks_86 : decode cX6_asks 86 = .ok (.iload_n 1, 1) := by decide +kernel
theorem dX6_asks_87 : decode cX6_asks 87 = .ok (.iaload, 1) := by decide +kernel
theorem dX6_asks_88 : decode cX6_asks 88 = .ok (.bipush 6, 2) := by decide +kernel
theorem dX6_asks_90 : decode cX6_asks 90 = .ok (.if_icmp .ne 6, 3) := by decide +kernel
theorem dX6_asks_93 : decode cX6_asks 93 = .ok (.bipush (-4), 2) := by decide +kernel
theorem dX6_asks_95 : decode cX6_asks 95 = .ok (.ireturn, 1) := by decide +kernel
theorem dX6_asks_96 : decode cX6_asks 96 = .ok (.aload_n 0, 1) := by decide +kernel
theorem dX6_asks_97 : decode cX6_asks 97 = .ok (.getfield 32, 3) := by decide +kernel
theorem dX6_asks_100 : decode cX6_asks 100 = .ok (.bipush 6, 2) := by decide +kernel
theorem dX6_asks_102 : decode cX6_asks 102 = .ok (.iload_n 1, 1) := by decide +kernel
theorem dX6_asks_103 : decode cX6_asks 103 = .ok (.imul, 1) := by decide +kernel
theorem dX6_asks_104 : decode cX6_asks 104 = .ok (.aload_n 0, 1) := by decide +kernel
theorem dX6_asks_105 : decode cX6_asks 105 = .ok (.getfield 29, 3) := by decide +kernel
theorem dX6_asks_108 : decode cX6_asks 108 = .ok (.iload_n 1, 1) := by decide +kernel
theorem dX6_asks_109 : decode cX6_asks 109 = .ok (.iaload, 1) := by decide +kernel
theorem dX6_asks_110 : decode cX6_asks 110 = .ok (.iadd, 1) := by decide +kernel
theorem dX6_asks_111 : decode cX6_asks 111 = .ok (.iload_n 2, 1) := by decide +kernel
theorem dX6_asks_112 : decode cX6_asks 112 = .ok (.iastore, 1) := by decide +kernel
theorem dX6_asks_113 : decode cX6_asks 113 = .ok (.aload_n 0, 1) := by decide +kernel
theorem dX6_asks_114 : decode cX6_asks 114 = .ok (.getfield 29, 3) := by decide +kernel
theorem dX6_asks_117 : decode cX6_asks 117 = .ok (.iload_n 1, 1) := by decide +kernel
theorem dX6_asks_118 : decode cX6_asks 118 = .ok (.dup2, 1) := by decide +kernel
theorem dX6_asks_119 : decode cX6_asks 119 = .ok (.iaload, 1) := by decide +kernel
theorem dX6_asks_120 : decode cX6_asks 120 = .ok (.iconst 1, 1) := by decide +kernel
theorem dX6_asks_121 : decode cX6_asks 121 = .ok (.iadd, 1) := by decide +kernel
theorem dX6_asks_122 : decode cX6_asks 122 = .ok (.iastore, 1) := by decide +kernel
theorem dX6_asks_123 : decode cX6_asks 123 = .ok (.aload_n 0, 1) := by decide +kernel
theorem dX6_asks_124 : decode cX6_asks 124 = .ok (.aload_n 0, 1) := by decide +kernel
theorem dX6_asks_125 : decode cX6_asks 125 = .ok (.getfield 107, 3) := by decide +kernel
theorem dX6_asks_128 : decode cX6_asks 128 = .ok (.iload_n 1, 1) := by decide +kernel
theorem dX6_asks_129 : decode cX6_asks 129 = .ok (.iload_n 1, 1) := by decide +kernel
theorem dX6_asks_130 : decode cX6_asks 130 = .ok (.invokevirtual 118, 3) := by decide +kernel
theorem dX6_asks_133 : decode cX6_asks 133 = .ok (.aload_n 0, 1) := by decide +kernel
theorem dX6_asks_134 : decode cX6_asks 134 = .ok (.getfield 29, 3) := by decide +kernel
theorem dX6_asks_137 : decode cX6_asks 137 = .ok (.iload_n 1, 1) := by decide +kernel
theorem dX6_asks_138 : decode cX6_asks 138 = .ok (.iaload, 1) := by decide +kernel
theorem dX6_asks_139 : decode cX6_asks 139 = .ok (.ireturn, 1) := by decide +kernel
theorem dX6_sync_0 : decode cX6_sync 0 = .ok (.aload_n 0, 1) := by decide +kernel
theorem dX6_sync_1 : decode cX6_sync 1 = .ok (.iconst 0, 1) := by decide +kernel
theorem dX6_sync_2 : decode cX6_sync 2 = .ok (.putfield 59, 3) := by decide +kernel
theorem dX6_sync_5 : decode cX6_sync 5 = .ok (.aload_n 0, 1) := by decide +kernel
theorem dX6_sync_6 : decode cX6_sync 6 = .ok (.getfield 132, 3) := by decide +kernel
theorem dX6_sync_9 : decode cX6_sync 9 = .ok (.ifCond .ne 6, 3) := by decide +kernel
theorem dX6_sync_12 : decode cX6_sync 12 = .ok (.bipush (-3), 2) := by decide +kernel
theorem dX6_sync_14 : decode cX6_sync 14 = .ok (.ireturn, 1) := by decide +kernel
theorem dX6_sync_15 : decode cX6_sync 15 = .ok (.aload_n 0, 1) := by decide +kernel
theorem dX6_sync_16 : decode cX6_sync 16 = .ok (.getfield 62, 3) := by decide +kernel
theorem dX6_sync_19 : decode cX6_sync 19 = .ok (.istore_n 1, 1) := by decide +kernel
theorem dX6_sync_20 : decode cX6_sync 20 = .ok (.aload_n 0, 1) := by decide +kernel
theorem dX6_sync_21 : decode cX6_sync 21 = .ok (.invokevirtual 69, 3) := by decide +kernel
theorem dX6_sync_24 : decode cX6_sync 24 = .ok (.aload_n 0, 1) := by decide +kernel
theorem dX6_sync_25 : decode cX6_sync 25 = .ok (.aload_n 0, 1) := by decide +kernel
theorem dX6_sync_26 : decode cX6_sync 26 = .ok (.getfield 115, 3) := by decide +kernel
theorem dX6_sync_29 : decode cX6_sync 29 = .ok (.putfield 148, 3) := by decide +kernel
theorem dX6_sync_32 : decode cX6_sync 32 = .ok (.iload_n 1, 1) := by decide +kernel
theorem dX6_sync_33 : decode cX6_sync 33 = .ok (.ireturn, 1) := by decide +kernel
theorem dX6_compact_0 : decode cX6_compact 0 = .ok (.aload_n 0, 1) := by decide +kernel
theorem dX6_compact_1 : decode cX6_compact 1 = .ok (.iconst 0, 1) := by decide +kernel
theorem dX6_compact_2 : decode cX6_compact 2 = .ok (.putfield 59, 3) := by decide +kernel
theorem dX6_compact_5 : decode cX6_compact 5 = .ok (.iload_n 1, 1) := by decide +kernel
theorem dX6_compact_6 : decode cX6_compact 6 = .ok (.iconst 1, 1) := by decide +kernel
theorem dX6_compact_7 : decode cX6_compact 7 = .ok (.if_icmp .lt 10, 3) := by decide +kernel
theorem dX6_compact_10 : decode cX6_compact 10 = .ok (.iload_n 1, 1) := by decide +kernel
theorem dX6_compact_11 : decode cX6_compact 11 = .ok (.sipush 1000, 3) := by decide +kernel
theorem dX6_compact_14 : decode cX6_compact 14 = .ok (.if_icmp .le 6, 3) := by decide +kernel
theorem dX6_compact_17 : decode cX6_compact 17 = .ok (.bipush (-2), 2) := by decide +kernel
theorem dX6_compact_19 : decode cX6_compact 19 = .ok (.ireturn, 1) := by decide +kernel
theorem dX6_compact_20 : decode cX6_compact 20 = .ok (.aload_n 0, 1) := by decide +kernel
theorem dX6_compact_21 : decode cX6_compact 21 = .ok (.getfield 132, 3) := by decide +kernel
theorem dX6_compact_24 : decode cX6_compact 24 = .ok (.ifCond .ne 6, 3) := by decide +kernel
theorem dX6_compact_27 : decode cX6_compact 27 = .ok (.bipush (-3), 2) := by decide +kernel
theorem dX6_compact_29 : decode cX6_compact 29 = .ok (.ireturn, 1) := by decide +kernel
theorem dX6_compact_30 : decode cX6_compact 30 = .ok (.iconst 0, 1) := by decide +kernel
theorem dX6_compact_31 : decode cX6_compact 31 = .ok (.istore_n 2, 1) := by decide +kernel
theorem dX6_compact_32 : decode cX6_compact 32 = .ok (.iconst 0, 1) := by decide +kernel
theorem dX6_compact_33 : decode cX6_compact 33 = .ok (.istore_n 3, 1) := by decide +kernel
theorem dX6_compact_34 : decode cX6_compact 34 = .ok (.iload_n 2, 1) := by decide +kernel
theorem dX6_compact_35 : decode cX6_compact 35 = .ok (.iload_n 1, 1) := by decide +kernel
theorem dX6_compact_36 : decode cX6_compact 36 = .ok (.if_icmp .ge 18, 3) := by decide +kernel
theorem dX6_compact_39 : decode cX6_compact 39 = .ok (.iload_n 3, 1) := by decide +kernel
theorem dX6_compact_40 : decode cX6_compact 40 = .ok (.ifCond .ne 14, 3) := by decide +kernel
theorem dX6_compact_43 : decode cX6_compact 43 = .ok (.aload_n 0, 1) := by decide +kernel
theorem dX6_compact_44 : decode cX6_compact 44 = .ok (.invokevirtual 181, 3) := by decide +kernel
theorem dX6_compact_47 : decode cX6_compact 47 = .ok (.istore_n 3, 1) := by decide +kernel
theorem dX6_compact_48 : decode cX6_compact 48 = .ok (.iinc 2 1, 3) := by decide +kernel
theorem dX6_compact_51 : decode cX6_compact 51 = .ok (.goto (-17), 3) := by decide +kernel
theorem dX6_compact_54 : decode cX6_compact 54 = .ok (.iload_n 2, 1) := by decide +kernel
theorem dX6_compact_55 : decode cX6_compact 55 = .ok (.ireturn, 1) := by decide +kernel
theorem dX6_cut_0 : decode cX6_cut 0 = .ok (.aload_n 0, 1) := by decide +kernel
theorem dX6_cut_1 : decode cX6_cut 1 = .ok (.iconst 0, 1) := by decide +kernel
theorem dX6_cut_2 : decode cX6_cut 2 = .ok (.putfield 59, 3) := by decide +kernel
theorem dX6_cut_5 : decode cX6_cut 5 = .ok (.iload_n 1, 1) := by decide +kernel
theorem dX6_cut_6 : decode cX6_cut 6 = .ok (.ifCond .ge 7, 3) := by decide +kernel
theorem dX6_cut_9 : decode cX6_cut 9 = .ok (.iconst 0, 1) := by decide +kernel
theorem dX6_cut_10 : decode cX6_cut 10 = .ok (.goto 19, 3) := by decide +kernel
theorem dX6_cut_13 : decode cX6_cut 13 = .ok (.iload_n 1, 1) := by decide +kernel
theorem dX6_cut_14 : decode cX6_cut 14 = .ok (.aload_n 0, 1) := by decide +kernel
theorem dX6_cut_15 : decode cX6_cut 15 = .ok (.getfield 62, 3) := by decide +kernel
theorem dX6_cut_18 : decode cX6_cut 18 = .ok (.if_icmp .le 10, 3) := by decide +kernel
theorem dX6_cut_21 : decode cX6_cut 21 = .ok (.aload_n 0, 1) := by decide +kernel
theorem dX6_cut_22 : decode cX6_cut 22 = .ok (.getfield 62, 3) := by decide +kernel
theorem dX6_cut_25 : decode cX6_cut 25 = .ok (.goto 4, 3) := by decide +kernel
theorem dX6_cut_28 : decode cX6_cut 28 = .ok (.iload_n 1, 1) := by decide +kernel
theorem dX6_cut_29 : decode cX6_cut 29 = .ok (.istore_n 3, 1) := by decide +kernel
theorem dX6_cut_30 : decode cX6_cut 30 = .ok (.iload_n 2, 1) := by decide +kernel
theorem dX6_cut_31 : decode cX6_cut 31 = .ok (.ifCond .ge 7, 3) := by decide +kernel
theorem dX6_cut_34 : decode cX6_cut 34 = .ok (.iconst 0, 1) := by decide +kernel
theorem dX6_cut_35 : decode cX6_cut 35 = .ok (.goto 17, 3) := by decide +kernel
theorem dX6_cut_38 : decode cX6_cut 38 = .ok (.iload_n 2, 1) := by decide +kernel
theorem dX6_cut_39 : decode cX6_cut 39 = .ok (.sipush 512, 3) := by decide +kernel
theorem dX6_cut_42 : decode cX6_cut 42 = .ok (.if_icmp .le 9, 3) := by decide +kernel
theorem dX6_cut_45 : decode cX6_cut 45 = .ok (.sipush 512, 3) := by decide +kernel
theorem dX6_cut_48 : decode cX6_cut 48 = .ok (.goto 4, 3) := by decide +kernel
theorem dX6_cut_51 : decode cX6_cut 51 = .ok (.iload_n 2, 1) := by decide +kernel
theorem dX6_cut_52 : decode cX6_cut 52 = .ok (.istore 4, 2) := by decide +kernel
theorem dX6_cut_54 : decode cX6_cut 54 = .ok (.iconst 0, 1) := by decide +kernel
theorem dX6_cut_55 : decode cX6_cut 55 = .ok (.istore 5, 2) := by decide +kernel
theorem dX6_cut_57 : decode cX6_cut 57 = .ok (.iload 5, 2) := by decide +kernel
theorem dX6_cut_59 : decode cX6_cut 59 = .ok (.iload_n 3, 1) := by decide +kernel
theorem dX6_cut_60 : decode cX6_cut 60 = .ok (.if_icmp .ge 18, 3) := by decide +kernel
theorem dX6_cut_63 : decode cX6_cut 63 = .ok (.aload_n 0, 1) := by decide +kernel
theorem dX6_cut_64 : decode cX6_cut 64 = .ok (.iload 5, 2) := by decide +kernel
theorem dX6_cut_66 : decode cX6_cut 66 = .ok (.sipush 512, 3) := by decide +kernel
theorem dX6_cut_69 : decode cX6_cut 69 = .ok (.invokevirtual 65, 3) := by decide +kernel
theorem dX6_cut_72 : decode cX6_cut 72 = .ok (.iinc 5 1, 3) := by decide +kernel
theorem dX6_cut_75 : decode cX6_cut 75 = .ok (.goto (-18), 3) := by decide +kernel
theorem dX6_cut_78 : decode cX6_cut 78 = .ok (.iload_n 3, 1) := by decide +kernel
theorem dX6_cut_79 : decode cX6_cut 79 = .ok (.aload_n 0, 1) := by decide +kernel
theorem dX6_cut_80 : decode cX6_cut 80 = .ok (.getfield 62, 3) := by decide +kernel
theorem dX6_cut_83 : decode cX6_cut 83 = .ok (.if_icmp .ge 10, 3) := by decide +kernel
theorem dX6_cut_86 : decode cX6_cut 86 = .ok (.aload_n 0, 1) := by decide +kernel
theorem dX6_cut_87 : decode cX6_cut 87 = .ok (.iload_n 3, 1) := by decide +kernel
theorem dX6_cut_88 : decode cX6_cut 88 = .ok (.iload 4, 2) := by decide +kernel
theorem dX6_cut_90 : decode cX6_cut 90 = .ok (.invokevirtual 65, 3) := by decide +kernel
theorem dX6_cut_93 : decode cX6_cut 93 = .ok (.aload_n 0, 1) := by decide +kernel
theorem dX6_cut_94 : decode cX6_cut 94 = .ok (.iconst 0, 1) := by decide +kernel
theorem dX6_cut_95 : decode cX6_cut 95 = .ok (.putfield 62, 3) := by decide +kernel
theorem dX6_cut_98 : decode cX6_cut 98 = .ok (.aload_n 0, 1) := by decide +kernel
theorem dX6_cut_99 : decode cX6_cut 99 = .ok (.iconst 0, 1) := by decide +kernel
theorem dX6_cut_100 : decode cX6_cut 100 = .ok (.putfield 132, 3) := by decide +kernel
theorem dX6_cut_103 : decode cX6_cut 103 = .ok (.aload_n 0, 1) := by decide +kernel
theorem dX6_cut_104 : decode cX6_cut 104 = .ok (.iconst 0, 1) := by decide +kernel
theorem dX6_cut_105 : decode cX6_cut 105 = .ok (.putfield 158, 3) := by decide +kernel
theorem dX6_cut_108 : decode cX6_cut 108 = .ok (.iconst 0, 1) := by decide +kernel
theorem dX6_cut_109 : decode cX6_cut 109 = .ok (.istore 5, 2) := by decide +kernel
theorem dX6_cut_111 : decode cX6_cut 111 = .ok (.iload 5, 2) := by decide +kernel
theorem dX6_cut_113 : decode cX6_cut 113 = .ok (.bipush 64, 2) := by decide +kernel
theorem dX6_cut_115 : decode cX6_cut 115 = .ok (.if_icmp .ge 17, 3) := by decide +kernel
theorem dX6_cut_118 : decode cX6_cut 118 = .ok (.aload_n 0, 1) := by decide +kernel
theorem dX6_cut_119 : decode cX6_cut 119 = .ok (.getfield 39, 3) := by decide +kernel
theorem dX6_cut_122 : decode cX6_cut 122 = .ok (.iload 5, 2) := by decide +kernel
theorem dX6_cut_124 : decode cX6_cut 124 = .ok (.iconst 0, 1) := by decide +kernel
theorem dX6_cut_125 : decode cX6_cut 125 = .ok (.bastore, 1) := by decide +kernel
theorem dX6_cut_126 : decode cX6_cut 126 = .ok (.iinc 5 1, 3) := by decide +kernel
theorem dX6_cut_129 : decode cX6_cut 129 = .ok (.goto (-18), 3) := by decide +kernel
theorem dX6_cut_132 : decode cX6_cut 132 = .ok (.return_, 1) := by decide +kernel
theorem dX6_digest_0 : decode cX6_digest 0 = .ok (.aload_n 0, 1) := by decide +kernel
theorem dX6_digest_1 : decode cX6_digest 1 = .ok (.iconst 0, 1) := by decide +kernel
theorem dX6_digest_2 : decode cX6_digest 2 = .ok (.putfield 59, 3) := by decide +kernel
theorem dX6_digest_5 : decode cX6_digest 5 = .ok (.iload_n 1, 1) := by decide +kernel
theorem dX6_digest_6 : decode cX6_digest 6 = .ok (.invokestatic 97, 3) := by decide +kernel
theorem dX6_digest_9 : decode cX6_digest 9 = .ok (.ifCond .eq 10, 3) := by decide +kernel
theorem dX6_digest_12 : decode cX6_digest 12 = .ok (.aload_n 0, 1) := by decide +kernel
theorem dX6_digest_13 : decode cX6_digest 13 = .ok (.getfield 132, 3) := by decide +kernel
theorem dX6_digest_16 : decode cX6_digest 16 = .ok (.ifCond .ne 5, 3) := by decide +kernel
theorem dX6_digest_19 : decode cX6_digest 19 = .ok (.lconst 0, 1) := by decide +kernel
theorem dX6_digest_20 : decode cX6_digest 20 = .ok (.lreturn, 1) := by decide +kernel
theorem dX6_digest_21 : decode cX6_digest 21 = .ok (.aload_n 0, 1) := by decide +kernel
theorem dX6_digest_22 : decode cX6_digest 22 = .ok (.getfield 39, 3) := by decide +kernel
theorem dX6_digest_25 : decode cX6_digest 25 = .ok (.iload_n 1, 1) := by decide +kernel
theorem dX6_digest_26 : decode cX6_digest 26 = .ok (.baload, 1) := by decide +kernel
theorem dX6_digest_27 : decode cX6_digest 27 = .ok (.ifCond .eq 10, 3) := by decide +kernel
theorem dX6_digest_30 : decode cX6_digest 30 = .ok (.aload_n 0, 1) := by decide +kernel
theorem dX6_digest_31 : decode cX6_digest 31 = .ok (.getfield 43, 3) := by decide +kernel
theorem dX6_digest_34 : decode cX6_digest 34 = .ok (.iload_n 1, 1) := by decide +kernel
theorem dX6_digest_35 : decode cX6_digest 35 = .ok (.laload, 1) := by decide +kernel
theorem dX6_digest_36 : decode cX6_digest 36 = .ok (.lreturn, 1) := by decide +kernel
theorem dX6_digest_37 : decode cX6_digest 37 = .ok (.aload_n 0, 1) := by decide +kernel
theorem dX6_digest_38 : decode cX6_digest 38 = .ok (.iload_n 1, 1) := by decide +kernel
theorem dX6_digest_39 : decode cX6_digest 39 = .ok (.invokevirtual 167, 3) := by decide +kernel
theorem dX6_digest_42 : decode cX6_digest 42 = .ok (.istore_n 2, 1) := by decide +kernel
theorem dX6_digest_43 : decode cX6_digest 43 = .ok (.iload_n 2, 1) := by decide +kernel
theorem dX6_digest_44 : decode cX6_digest 44 = .ok (.iconst (-1), 1) := by decide +kernel
theorem dX6_digest_45 : decode cX6_digest 45 = .ok (.if_icmp .ne 7, 3) := by decide +kernel
theorem dX6_digest_48 : decode cX6_digest 48 = .ok (.lconst 0, 1) := by decide +kernel
theorem dX6_digest_49 : decode cX6_digest 49 = .ok (.goto 9, 3) := by decide +kernel
theorem dX6_digest_52 : decode cX6_digest 52 = .ok (.aload_n 0, 1) := by decide +kernel
theorem dX6_digest_53 : decode cX6_digest 53 = .ok (.getfield 35, 3) := by decide +kernel
theorem dX6_digest_56 : decode cX6_digest 56 = .ok (.iload_n 2, 1) := by decide +kernel
theorem dX6_digest_57 : decode cX6_digest 57 = .ok (.laload, 1) := by decide +kernel
theorem dX6_digest_58 : decode cX6_digest 58 = .ok (.lreturn, 1) := by decide +kernel
theorem dX6_asked_0 : decode cX6_asked 0 = .ok (.aload_n 0, 1) := by decide +kernel
theorem dX6_asked_1 : decode cX6_asked 1 = .ok (.iconst 0, 1) := by decide +kernel
theorem dX6_asked_2 : decode cX6_asked 2 = .ok (.putfield 59, 3) := by decide +kernel
theorem dX6_asked_5 : decode cX6_asked 5 = .ok (.iload_n 1, 1) := by decide +kernel
theorem dX6_asked_6 : decode cX6_asked 6 = .ok (.invokestatic 97, 3) := by decide +kernel
theorem dX6_asked_9 : decode cX6_asked 9 = .ok (.ifCond .eq 19, 3) := by decide +kernel
theorem dX6_asked_12 : decode cX6_asked 12 = .ok (.aload_n 0, 1) := by decide +kernel
theorem dX6_asked_13 : decode cX6_asked 13 = .ok (.getfield 132, 3) := by decide +kernel
theorem dX6_asked_16 : decode cX6_asked 16 = .ok (.ifCond .eq 12, 3) := by decide +kernel
theorem dX6_asked_19 : decode cX6_asked 19 = .ok (.aload_n 0, 1) := by decide +kernel
theorem dX6_asked_20 : decode cX6_asked 20 = .ok (.getfield 39, 3) := by decide +kernel
theorem dX6_asked_23 : decode cX6_asked 23 = .ok (.iload_n 1, 1) := by decide +kernel
theorem dX6_asked_24 : decode cX6_asked 24 = .ok (.baload, 1) := by decide +kernel
theorem dX6_asked_25 : decode cX6_asked 25 = .ok (.ifCond .eq 5, 3) := by decide +kernel
theorem dX6_asked_28 : decode cX6_asked 28 = .ok (.iconst (-1), 1) := by decide +kernel
theorem dX6_asked_29 : decode cX6_asked 29 = .ok (.ireturn, 1) := by decide +kernel
theorem dX6_asked_30 : decode cX6_asked 30 = .ok (.aload_n 0, 1) := by decide +kernel
theorem dX6_asked_31 : decode cX6_asked 31 = .ok (.iload_n 1, 1) := by decide +kernel
theorem dX6_asked_32 : decode cX6_asked 32 = .ok (.invokevirtual 167, 3) := by decide +kernel
theorem dX6_asked_35 : decode cX6_asked 35 = .ok (.istore_n 3, 1) := by decide +kernel
theorem dX6_asked_36 : decode cX6_asked 36 = .ok (.iload_n 3, 1) := by decide +kernel
theorem dX6_asked_37 : decode cX6_asked 37 = .ok (.iconst (-1), 1) := by decide +kernel
theorem dX6_asked_38 : decode cX6_asked 38 = .ok (.if_icmp .eq 17, 3) := by decide +kernel
theorem dX6_asked_41 : decode cX6_asked 41 = .ok (.iload_n 2, 1) := by decide +kernel
theorem dX6_asked_42 : decode cX6_asked 42 = .ok (.ifCond .lt 13, 3) := by decide +kernel
theorem dX6_asked_45 : decode cX6_asked 45 = .ok (.iload_n 2, 1) := by decide +kernel
theorem dX6_asked_46 : decode cX6_asked 46 = .ok (.aload_n 0, 1) := by decide +kernel
theorem dX6_asked_47 : decode cX6_asked 47 = .ok (.getfield 29, 3) := by decide +kernel
theorem dX6_asked_50 : decode cX6_asked 50 = .ok (.iload_n 3, 1) := by decide +kernel
theorem dX6_asked_51 : decode cX6_asked 51 = .ok (.iaload, 1) := by decide +kernel
theorem dX6_asked_52 : decode cX6_asked 52 = .ok (.if_icmp .lt 7, 3) := by decide +kernel
theorem dX6_asked_55 : decode cX6_asked 55 = .ok (.iconst (-1), 1) := by decide +kernel
theorem dX6_asked_56 : decode cX6_asked 56 = .ok (.goto 14, 3) := by decide +kernel
theorem dX6_asked_59 : decode cX6_asked 59 = .ok (.aload_n 0, 1) := by decide +kernel
theorem dX6_asked_60 : decode cX6_asked 60 = .ok (.getfield 32, 3) := by decide +kernel
theorem dX6_asked_63 : decode cX6_asked 63 = .ok (.bipush 6, 2) := by decide +kernel
theorem dX6_asked_65 : decode cX6_asked 65 = .ok (.iload_n 3, 1) := by decide +kernel
theorem dX6_asked_66 : decode cX6_asked 66 = .ok (.imul, 1) := by decide +kernel
theorem dX6_asked_67 : decode cX6_asked 67 = .ok (.iload_n 2, 1) := by decide +kernel
theorem dX6_asked_68 : decode cX6_asked 68 = .ok (.iadd, 1) := by decide +kernel
theorem dX6_asked_69 : decode cX6_asked 69 = .ok (.iaload, 1) := by decide +kernel
theorem dX6_asked_70 : decode cX6_asked 70 = .ok (.ireturn, 1) := by decide +kernel
theorem dX6_sure_0 : decode cX6_sure 0 = .ok (.aload_n 0, 1) := by decide +kernel
theorem dX6_sure_1 : decode cX6_sure 1 = .ok (.iconst 0, 1) := by decide +kernel
theorem dX6_sure_2 : decode cX6_sure 2 = .ok (.putfield 59, 3) := by decide +kernel
theorem dX6_sure_5 : decode cX6_sure 5 = .ok (.iload_n 1, 1) := by decide +kernel
theorem dX6_sure_6 : decode cX6_sure 6 = .ok (.invokestatic 97, 3) := by decide +kernel
theorem dX6_sure_9 : decode cX6_sure 9 = .ok (.ifCond .eq 10, 3) := by decide +kernel
theorem dX6_sure_12 : decode cX6_sure 12 = .ok (.aload_n 0, 1) := by decide +kernel
theorem dX6_sure_13 : decode cX6_sure 13 = .ok (.getfield 132, 3) := by decide +kernel
theorem dX6_sure_16 : decode cX6_sure 16 = .ok (.ifCond .ne 5, 3) := by decide +kernel
theorem dX6_sure_19 : decode cX6_sure 19 = .ok (.iconst 0, 1) := by decide +kernel
theorem dX6_sure_20 : decode cX6_sure 20 = .ok (.ireturn, 1) := by decide +kernel
theorem dX6_sure_21 : decode cX6_sure 21 = .ok (.aload_n 0, 1) := by decide +kernel
theorem dX6_sure_22 : decode cX6_sure 22 = .ok (.getfield 39, 3) := by decide +kernel
theorem dX6_sure_25 : decode cX6_sure 25 = .ok (.iload_n 1, 1) := by decide +kernel
theorem dX6_sure_26 : decode cX6_sure 26 = .ok (.baload, 1) := by decide +kernel
theorem dX6_sure_27 : decode cX6_sure 27 = .ok (.ifCond .eq 5, 3) := by decide +kernel
theorem dX6_sure_30 : decode cX6_sure 30 = .ok (.iconst 1, 1) := by decide +kernel
theorem dX6_sure_31 : decode cX6_sure 31 = .ok (.ireturn, 1) := by decide +kernel
theorem dX6_sure_32 : decode cX6_sure 32 = .ok (.aload_n 0, 1) := by decide +kernel
theorem dX6_sure_33 : decode cX6_sure 33 = .ok (.iload_n 1, 1) := by decide +kernel
theorem dX6_sure_34 : decode cX6_sure 34 = .ok (.invokevirtual 167, 3) := by decide +kernel
theorem dX6_sure_37 : decode cX6_sure 37 = .ok (.istore_n 2, 1) := by decide +kernel
theorem dX6_sure_38 : decode cX6_sure 38 = .ok (.iload_n 2, 1) := by decide +kernel
theorem dX6_sure_39 : decode cX6_sure 39 = .ok (.iconst (-1), 1) := by decide +kernel
theorem dX6_sure_40 : decode cX6_sure 40 = .ok (.if_icmp .eq 11, 3) := by decide +kernel
theorem dX6_sure_43 : decode cX6_sure 43 = .ok (.aload_n 0, 1) := by decide +kernel
theorem dX6_sure_44 : decode cX6_sure 44 = .ok (.iload_n 2, 1) := by decide +kernel
theorem dX6_sure_45 : decode cX6_sure 45 = .ok (.invokevirtual 171, 3) := by decide +kernel
theorem dX6_sure_48 : decode cX6_sure 48 = .ok (.ifCond .eq 5, 3) := by decide +kernel
theorem dX6_sure_51 : decode cX6_sure 51 = .ok (.iconst 0, 1) := by decide +kernel
theorem dX6_sure_52 : decode cX6_sure 52 = .ok (.ireturn, 1) := by decide +kernel
theorem dX6_sure_53 : decode cX6_sure 53 = .ok (.iconst 1, 1) := by decide +kernel
theorem dX6_sure_54 : decode cX6_sure 54 = .ok (.istore_n 3, 1) := by decide +kernel
theorem dX6_sure_55 : decode cX6_sure 55 = .ok (.iconst 0, 1) := by decide +kernel
theorem dX6_sure_56 : decode cX6_sure 56 = .ok (.istore 4, 2) := by decide +kernel
theorem dX6_sure_58 : decode cX6_sure 58 = .ok (.iload 4, 2) := by decide +kernel
theorem dX6_sure_60 : decode cX6_sure 60 = .ok (.aload_n 0, 1) := by decide +kernel
theorem dX6_sure_61 : decode cX6_sure 61 = .ok (.getfield 29, 3) := by decide +kernel
theorem dX6_sure_64 : decode cX6_sure 64 = .ok (.iload_n 2, 1) := by decide +kernel
theorem dX6_sure_65 : decode cX6_sure 65 = .ok (.iaload, 1) := by decide +kernel
theorem dX6_sure_66 : decode cX6_sure 66 = .ok (.if_icmp .ge 63, 3) := by decide +kernel
theorem dX6_sure_69 : decode cX6_sure 69 = .ok (.aload_n 0, 1) := by decide +kernel
theorem dX6_sure_70 : decode cX6_sure 70 = .ok (.getfield 32, 3) := by decide +kernel
theorem dX6_sure_73 : decode cX6_sure 73 = .ok (.bipush 6, 2) := by decide +kernel
theorem dX6_sure_75 : decode cX6_sure 75 = .ok (.iload_n 2, 1) := by decide +kernel
theorem dX6_sure_76 : decode cX6_sure 76 = .ok (.imul, 1) := by decide +kernel
theorem dX6_sure_77 : decode cX6_sure 77 = .ok (.iload 4, 2) := by decide +kernel
theorem dX6_sure_79 : decode cX6_sure 79 = .ok (.iadd, 1) := by decide +kernel
theorem dX6_sure_80 : decode cX6_sure 80 = .ok (.iaload, 1) := by decide +kernel
theorem dX6_sure_81 : decode cX6_sure 81 = .ok (.istore 5, 2) := by decide +kernel
theorem dX6_sure_83 : decode cX6_sure 83 = .ok (.iload_n 3, 1) := by decide +kernel
theorem dX6_sure_84 : decode cX6_sure 84 = .ok (.ifCond .eq 37, 3) := by decide +kernel
theorem dX6_sure_87 : decode cX6_sure 87 = .ok (.aload_n 0, 1) := by decide +kernel
theorem dX6_sure_88 : decode cX6_sure 88 = .ok (.getfield 39, 3) := by decide +kernel
theorem dX6_sure_91 : decode cX6_sure 91 = .ok (.iload 5, 2) := by decide +kernel
theorem dX6_sure_93 : decode cX6_sure 93 = .ok (.baload, 1) := by decide +kernel
theorem dX6_sure_94 : decode cX6_sure 94 = .ok (.ifCond .ne 27, 3) := by decide +kernel
theorem dX6_sure_97 : decode cX6_sure 97 = .ok (.aload_n 0, 1) := by decide +kernel
theorem dX6_sure_98 : decode cX6_sure 98 = .ok (.iload 5, 2) := by decide +kernel
theorem dX6_sure_100 : decode cX6_sure 100 = .ok (.invokevirtual 167, 3) := by decide +kernel
theorem dX6_sure_103 : decode cX6_sure 103 = .ok (.iconst (-1), 1) := by decide +kernel
theorem dX6_sure_104 : decode cX6_sure 104 = .ok (.if_icmp .eq 17, 3) := by decide +kernel
theorem dX6_sure_107 : decode cX6_sure 107 = .ok (.aload_n 0, 1) := by decide +kernel
theorem dX6_sure_108 : decode cX6_sure 108 = .ok (.iload 5, 2) := by decide +kernel
theorem dX6_sure_110 : decode cX6_sure 110 = .ok (.invokevirtual 167, 3) := by decide +kernel
theorem dX6_sure_113 : decode cX6_sure 113 = .ok (.iload_n 2, 1) := by decide +kernel
theorem dX6_sure_114 : decode cX6_sure 114 = .ok (.if_icmp .ge 7, 3) := by decide +kernel
theorem dX6_sure_117 : decode cX6_sure 117 = .ok (.iconst 1, 1) := by decide +kernel
theorem dX6_sure_118 : decode cX6_sure 118 = .ok (.goto 4, 3) := by decide +kernel
theorem dX6_sure_121 : decode cX6_sure 121 = .ok (.iconst 0, 1) := by decide +kernel
theorem dX6_sure_122 : decode cX6_sure 122 = .ok (.istore_n 3, 1) := by decide +kernel
theorem dX6_sure_123 : decode cX6_sure 123 = .ok (.iinc 4 1, 3) := by decide +kernel
theorem dX6_sure_126 : decode cX6_sure 126 = .ok (.goto (-68), 3) := by decide +kernel
theorem dX6_sure_129 : decode cX6_sure 129 = .ok (.iload_n 3, 1) := by decide +kernel
theorem dX6_sure_130 : decode cX6_sure 130 = .ok (.ireturn, 1) := by decide +kernel
theorem dX6_poke_0 : decode cX6_poke 0 = .ok (.aload_n 0, 1) := by decide +kernel
theorem dX6_poke_1 : decode cX6_poke 1 = .ok (.iconst 0, 1) := by decide +kernel
theorem dX6_poke_2 : decode cX6_poke 2 = .ok (.putfield 59, 3) := by decide +kernel
theorem dX6_poke_5 : decode cX6_poke 5 = .ok (.iload_n 1, 1) := by decide +kernel
theorem dX6_poke_6 : decode cX6_poke 6 = .ok (.ifCond .lt 27, 3) := by decide +kernel
theorem dX6_poke_9 : decode cX6_poke 9 = .ok (.iload_n 1, 1) := by decide +kernel
theorem dX6_poke_10 : decode cX6_poke 10 = .ok (.sipush 512, 3) := by decide +kernel
theorem dX6_poke_13 : decode cX6_poke 13 = .ok (.aload_n 0, 1) := by decide +kernel
theorem dX6_poke_14 : decode cX6_poke 14 = .ok (.getfield 46, 3) := by decide +kernel
theorem dX6_poke_17 : decode cX6_poke 17 = .ok (.imul, 1) := by decide +kernel
theorem dX6_poke_18 : decode cX6_poke 18 = .ok (.if_icmp .ge 15, 3) := by decide +kernel
theorem dX6_poke_21 : decode cX6_poke 21 = .ok (.iload_n 2, 1) := by decide +kernel
theorem dX6_poke_22 : decode cX6_poke 22 = .ok (.iconst 1, 1) := by decide +kernel
theorem dX6_poke_23 : decode cX6_poke 23 = .ok (.if_icmp .lt 10, 3) := by decide +kernel
theorem dX6_poke_26 : decode cX6_poke 26 = .ok (.iload_n 2, 1) := by decide +kernel
theorem dX6_poke_27 : decode cX6_poke 27 = .ok (.sipush 255, 3) := by decide +kernel
theorem dX6_poke_30 : decode cX6_poke 30 = .ok (.if_icmp .le 6, 3) := by decide +kernel
theorem dX6_poke_33 : decode cX6_poke 33 = .ok (.bipush (-2), 2) := by decide +kernel
theorem dX6_poke_35 : decode cX6_poke 35 = .ok (.ireturn, 1) := by decide +kernel
theorem dX6_poke_36 : decode cX6_poke 36 = .ok (.aload_n 0, 1) := by decide +kernel
theorem dX6_poke_37 : decode cX6_poke 37 = .ok (.getfield 7, 3) := by decide +kernel
theorem dX6_poke_40 : decode cX6_poke 40 = .ok (.iload_n 1, 1) := by decide +kernel
theorem dX6_poke_41 : decode cX6_poke 41 = .ok (.aload_n 0, 1) := by decide +kernel
theorem dX6_poke_42 : decode cX6_poke 42 = .ok (.getfield 7, 3) := by decide +kernel
theorem dX6_poke_45 : decode cX6_poke 45 = .ok (.iload_n 1, 1) := by decide +kernel
theorem dX6_poke_46 : decode cX6_poke 46 = .ok (.iaload, 1) := by decide +kernel
theorem dX6_poke_47 : decode cX6_poke 47 = .ok (.iload_n 2, 1) := by decide +kernel
theorem dX6_poke_48 : decode cX6_poke 48 = .ok (.ixor, 1) := by decide +kernel
theorem dX6_poke_49 : decode cX6_poke 49 = .ok (.iastore, 1) := by decide +kernel
theorem dX6_poke_50 : decode cX6_poke 50 = .ok (.iconst 1, 1) := by decide +kernel
theorem dX6_poke_51 : decode cX6_poke 51 = .ok (.ireturn, 1) := by decide +kernel
theorem dX6_sector_0 : decode cX6_sector 0 = .ok (.aload_n 0, 1) := by decide +kernel
theorem dX6_sector_1 : decode cX6_sector 1 = .ok (.iload_n 1, 1) := by decide +kernel
theorem dX6_sector_2 : decode cX6_sector 2 = .ok (.ifCond .lt 26, 3) := by decide +kernel
theorem dX6_sector_5 : decode cX6_sector 5 = .ok (.iload_n 1, 1) := by decide +kernel
theorem dX6_sector_6 : decode cX6_sector 6 = .ok (.aload_n 0, 1) := by decide +kernel
theorem dX6_sector_7 : decode cX6_sector 7 = .ok (.getfield 46, 3) := by decide +kernel
theorem dX6_sector_10 : decode cX6_sector 10 = .ok (.if_icmp .ge 18, 3) := by decide +kernel
theorem dX6_sector_13 : decode cX6_sector 13 = .ok (.iload_n 2, 1) := by decide +kernel
theorem dX6_sector_14 : decode cX6_sector 14 = .ok (.ifCond .lt 14, 3) := by decide +kernel
theorem dX6_sector_17 : decode cX6_sector 17 = .ok (.iload_n 2, 1) := by decide +kernel
theorem dX6_sector_18 : decode cX6_sector 18 = .ok (.sipush 512, 3) := by decide +kernel
theorem dX6_sector_21 : decode cX6_sector 21 = .ok (.if_icmp .ge 7, 3) := by decide +kernel
theorem dX6_sector_24 : decode cX6_sector 24 = .ok (.iconst 0, 1) := by decide +kernel
theorem dX6_sector_25 : decode cX6_sector 25 = .ok (.goto 4, 3) := by decide +kernel
theorem dX6_sector_28 : decode cX6_sector 28 = .ok (.iconst 1, 1) := by decide +kernel
theorem dX6_sector_29 : decode cX6_sector 29 = .ok (.putfield 59, 3) := by decide +kernel
theorem dX6_sector_32 : decode cX6_sector 32 = .ok (.aload_n 0, 1) := by decide +kernel
theorem dX6_sector_33 : decode cX6_sector 33 = .ok (.getfield 59, 3) := by decide +kernel
theorem dX6_sector_36 : decode cX6_sector 36 = .ok (.ifCond .le 7, 3) := by decide +kernel
theorem dX6_sector_39 : decode cX6_sector 39 = .ok (.iconst 0, 1) := by decide +kernel
theorem dX6_sector_40 : decode cX6_sector 40 = .ok (.goto 16, 3) := by decide +kernel
theorem dX6_sector_43 : decode cX6_sector 43 = .ok (.aload_n 0, 1) := by decide +kernel
theorem dX6_sector_44 : decode cX6_sector 44 = .ok (.getfield 7, 3) := by decide +kernel
theorem dX6_sector_47 : decode cX6_sector 47 = .ok (.sipush 512, 3) := by decide +kernel
theorem dX6_sector_50 : decode cX6_sector 50 = .ok (.iload_n 1, 1) := by decide +kernel
theorem dX6_sector_51 : decode cX6_sector 51 = .ok (.imul, 1) := by decide +kernel
theorem dX6_sector_52 : decode cX6_sector 52 = .ok (.iload_n 2, 1) := by decide +kernel
theorem dX6_sector_53 : decode cX6_sector 53 = .ok (.iadd, 1) := by decide +kernel
theorem dX6_sector_54 : decode cX6_sector 54 = .ok (.iaload, 1) := by decide +kernel
theorem dX6_sector_55 : decode cX6_sector 55 = .ok (.i2b, 1) := by decide +kernel
theorem dX6_sector_56 : decode cX6_sector 56 = .ok (.ireturn, 1) := by decide +kernel
theorem dX6_wrong_0 : decode cX6_wrong 0 = .ok (.aload_n 0, 1) := by decide +kernel
theorem dX6_wrong_1 : decode cX6_wrong 1 = .ok (.iconst 0, 1) := by decide +kernel
theorem dX6_wrong_2 : decode cX6_wrong 2 = .ok (.putfield 59, 3) := by decide +kernel
theorem dX6_wrong_5 : decode cX6_wrong 5 = .ok (.aload_n 0, 1) := by decide +kernel
theorem dX6_wrong_6 : decode cX6_wrong 6 = .ok (.getfield 151, 3) := by decide +kernel
theorem dX6_wrong_9 : decode cX6_wrong 9 = .ok (.ireturn, 1) := by decide +kernel
theorem dX6_lock_0 : decode cX6_lock 0 = .ok (.aload_n 0, 1) := by decide +kernel
theorem dX6_lock_1 : decode cX6_lock 1 = .ok (.iconst 0, 1) := by decide +kernel
theorem dX6_lock_2 : decode cX6_lock 2 = .ok (.putfield 59, 3) := by decide +kernel
theorem dX6_lock_5 : decode cX6_lock 5 = .ok (.iload_n 1, 1) := by decide +kernel
theorem dX6_lock_6 : decode cX6_lock 6 = .ok (.invokestatic 101, 3) := by decide +kernel
theorem dX6_lock_9 : decode cX6_lock 9 = .ok (.ifCond .ne 6, 3) := by decide +kernel
theorem dX6_lock_12 : decode cX6_lock 12 = .ok (.bipush (-2), 2) := by decide +kernel
theorem dX6_lock_14 : decode cX6_lock 14 = .ok (.ireturn, 1) := by decide +kernel
theorem dX6_lock_15 : decode cX6_lock 15 = .ok (.aload_n 0, 1) := by decide +kernel
theorem dX6_lock_16 : decode cX6_lock 16 = .ok (.getfield 132, 3) := by decide +kernel
theorem dX6_lock_19 : decode cX6_lock 19 = .ok (.ifCond .ne 6, 3) := by decide +kernel
theorem dX6_lock_22 : decode cX6_lock 22 = .ok (.bipush (-3), 2) := by decide +kernel
theorem dX6_lock_24 : decode cX6_lock 24 = .ok (.ireturn, 1) := by decide +kernel
theorem dX6_lock_25 : decode cX6_lock 25 = .ok (.aload_n 0, 1) := by decide +kernel
theorem dX6_lock_26 : decode cX6_lock 26 = .ok (.invokevirtual 185, 3) := by decide +kernel
theorem dX6_lock_29 : decode cX6_lock 29 = .ok (.istore_n 2, 1) := by decide +kernel
theorem dX6_lock_30 : decode cX6_lock 30 = .ok (.iload_n 2, 1) := by decide +kernel
theorem dX6_lock_31 : decode cX6_lock 31 = .ok (.iconst (-1), 1) := by decide +kernel
theorem dX6_lock_32 : decode cX6_lock 32 = .ok (.if_icmp .eq 14, 3) := by decide +kernel
theorem dX6_lock_35 : decode cX6_lock 35 = .ok (.iload_n 2, 1) := by decide +kernel
theorem dX6_lock_36 : decode cX6_lock 36 = .ok (.iload_n 1, 1) := by decide +kernel
theorem dX6_lock_37 : decode cX6_lock 37 = .ok (.if_icmp .ne 7, 3) := by decide +kernel
theorem dX6_lock_40 : decode cX6_lock 40 = .ok (.iconst 1, 1) := by decide +kernel
theorem dX6_lock_41 : decode cX6_lock 41 = .ok (.goto 4, 3) := by decide +kernel
theorem dX6_lock_44 : decode cX6_lock 44 = .ok (.iconst 0, 1) := by decide +kernel
theorem dX6_lock_45 : decode cX6_lock 45 = .ok (.ireturn, 1) := by decide +kernel
theorem dX6_lock_46 : decode cX6_lock 46 = .ok (.aload_n 0, 1) := by decide +kernel
theorem dX6_lock_47 : decode cX6_lock 47 = .ok (.iconst 2, 1) := by decide +kernel
theorem dX6_lock_48 : decode cX6_lock 48 = .ok (.iload_n 1, 1) := by decide +kernel
theorem dX6_lock_49 : decode cX6_lock 49 = .ok (.lconst 0, 1) := by decide +kernel
theorem dX6_lock_50 : decode cX6_lock 50 = .ok (.invokevirtual 154, 3) := by decide +kernel
theorem dX6_lock_53 : decode cX6_lock 53 = .ok (.ifCond .ge 8, 3) := by decide +kernel
theorem dX6_lock_56 : decode cX6_lock 56 = .ok (.bipush (-4), 2) := by decide +kernel
theorem dX6_lock_58 : decode cX6_lock 58 = .ok (.goto 4, 3) := by decide +kernel
theorem dX6_lock_61 : decode cX6_lock 61 = .ok (.iconst 1, 1) := by decide +kernel
theorem dX6_lock_62 : decode cX6_lock 62 = .ok (.ireturn, 1) := by decide +kernel
theorem dX6_dead_0 : decode cX6_dead 0 = .ok (.aload_n 0, 1) := by decide +kernel
theorem dX6_dead_1 : decode cX6_dead 1 = .ok (.iconst 0, 1) := by decide +kernel
theorem dX6_dead_2 : decode cX6_dead 2 = .ok (.putfield 59, 3) := by decide +kernel
theorem dX6_dead_5 : decode cX6_dead 5 = .ok (.iload_n 1, 1) := by decide +kernel
theorem dX6_dead_6 : decode cX6_dead 6 = .ok (.invokestatic 101, 3) := by decide +kernel
theorem dX6_dead_9 : decode cX6_dead 9 = .ok (.ifCond .ne 6, 3) := by decide +kernel
theorem dX6_dead_12 : decode cX6_dead 12 = .ok (.bipush (-2), 2) := by decide +kernel
theorem dX6_dead_14 : decode cX6_dead 14 = .ok (.ireturn, 1) := by decide +kernel
theorem dX6_dead_15 : decode cX6_dead 15 = .ok (.aload_n 0, 1) := by decide +kernel
theorem dX6_dead_16 : decode cX6_dead 16 = .ok (.getfield 132, 3) := by decide +kernel
theorem dX6_dead_19 : decode cX6_dead 19 = .ok (.ifCond .ne 6, 3) := by decide +kernel
theorem dX6_dead_22 : decode cX6_dead 22 = .ok (.bipush (-3), 2) := by decide +kernel
theorem dX6_dead_24 : decode cX6_dead 24 = .ok (.ireturn, 1) := by decide +kernel
theorem dX6_dead_25 : decode cX6_dead 25 = .ok (.aload_n 0, 1) := by decide +kernel
theorem dX6_dead_26 : decode cX6_dead 26 = .ok (.invokevirtual 185, 3) := by decide +kernel
theorem dX6_dead_29 : decode cX6_dead 29 = .ok (.iload_n 1, 1) := by decide +kernel
theorem dX6_dead_30 : decode cX6_dead 30 = .ok (.if_icmp .eq 5, 3) := by decide +kernel
theorem dX6_dead_33 : decode cX6_dead 33 = .ok (.iconst 0, 1) := by decide +kernel
theorem dX6_dead_34 : decode cX6_dead 34 = .ok (.ireturn, 1) := by decide +kernel
theorem dX6_dead_35 : decode cX6_dead 35 = .ok (.aload_n 0, 1) := by decide +kernel
theorem dX6_dead_36 : decode cX6_dead 36 = .ok (.iconst 3, 1) := by decide +kernel
theorem dX6_dead_37 : decode cX6_dead 37 = .ok (.iload_n 1, 1) := by decide +kernel
theorem dX6_dead_38 : decode cX6_dead 38 = .ok (.lconst 0, 1) := by decide +kernel
theorem dX6_dead_39 : decode cX6_dead 39 = .ok (.invokevirtual 154, 3) := by decide +kernel
theorem dX6_dead_42 : decode cX6_dead 42 = .ok (.ifCond .ge 8, 3) := by decide +kernel
theorem dX6_dead_45 : decode cX6_dead 45 = .ok (.bipush (-4), 2) := by decide +kernel
theorem dX6_dead_47 : decode cX6_dead 47 = .ok (.goto 4, 3) := by decide +kernel
theorem dX6_dead_50 : decode cX6_dead 50 = .ok (.iconst 1, 1) := by decide +kernel
theorem dX6_dead_51 : decode cX6_dead 51 = .ok (.ireturn, 1) := by decide +kernel
theorem dX6_edition_0 : decode cX6_edition 0 = .ok (.aload_n 0, 1) := by decide +kernel
theorem dX6_edition_1 : decode cX6_edition 1 = .ok (.iconst 0, 1) := by decide +kernel
theorem dX6_edition_2 : decode cX6_edition 2 = .ok (.putfield 59, 3) := by decide +kernel
theorem dX6_edition_5 : decode cX6_edition 5 = .ok (.iload_n 1, 1) := by decide +kernel
theorem dX6_edition_6 : decode cX6_edition 6 = .ok (.iconst 1, 1) := by decide +kernel
theorem dX6_edition_7 : decode cX6_edition 7 = .ok (.if_icmp .lt 10, 3) := by decide +kernel
theorem dX6_edition_10 : decode cX6_edition 10 = .ok (.iload_n 1, 1) := by decide +kernel
theorem dX6_edition_11 : decode cX6_edition 11 = .ok (.sipush 200, 3) := by decide +kernel
theorem dX6_edition_14 : decode cX6_edition 14 = .ok (.if_icmp .le 6, 3) := by decide +kernel
theorem dX6_edition_17 : decode cX6_edition 17 = .ok (.bipush (-2), 2) := by decide +kernel
theorem dX6_edition_19 : decode cX6_edition 19 = .ok (.ireturn, 1) := by decide +kernel
theorem dX6_edition_20 : decode cX6_edition 20 = .ok (.aload_n 0, 1) := by decide +kernel
theorem dX6_edition_21 : decode cX6_edition 21 = .ok (.iload_n 1, 1) := by decide +kernel
theorem dX6_edition_22 : decode cX6_edition 22 = .ok (.putfield 56, 3) := by decide +kernel
theorem dX6_edition_25 : decode cX6_edition 25 = .ok (.iconst 1, 1) := by decide +kernel
theorem dX6_edition_26 : decode cX6_edition 26 = .ok (.ireturn, 1) := by decide +kernel
theorem dX6_about_0 : decode cX6_about 0 = .ok (.aload_n 0, 1) := by decide +kernel
theorem dX6_about_1 : decode cX6_about 1 = .ok (.iconst 0, 1) := by decide +kernel
theorem dX6_about_2 : decode cX6_about 2 = .ok (.putfield 59, 3) := by decide +kernel
theorem dX6_about_5 : decode cX6_about 5 = .ok (.iload_n 1, 1) := by decide +kernel
theorem dX6_about_6 : decode cX6_about 6 = .ok (.ifCond .ne 16, 3) := by decide +kernel
theorem dX6_about_9 : decode cX6_about 9 = .ok (.aload_n 0, 1) := by decide +kernel
theorem dX6_about_10 : decode cX6_about 10 = .ok (.getfield 132, 3) := by decide +kernel
theorem dX6_about_13 : decode cX6_about 13 = .ok (.ifCond .eq 7, 3) := by decide +kernel
theorem dX6_about_16 : decode cX6_about 16 = .ok (.iconst 1, 1) := by decide +kernel
theorem dX6_about_17 : decode cX6_about 17 = .ok (.goto 4, 3) := by decide +kernel
theorem dX6_about_20 : decode cX6_about 20 = .ok (.iconst 0, 1) := by decide +kernel
theorem dX6_about_21 : decode cX6_about 21 = .ok (.ireturn, 1) := by decide +kernel
theorem dX6_about_22 : decode cX6_about 22 = .ok (.iload_n 1, 1) := by decide +kernel
theorem dX6_about_23 : decode cX6_about 23 = .ok (.bipush 8, 2) := by decide +kernel
theorem dX6_about_25 : decode cX6_about 25 = .ok (.if_icmp .ne 11, 3) := by decide +kernel
theorem dX6_about_28 : decode cX6_about 28 = .ok (.bipush 16, 2) := by decide +kernel
theorem dX6_about_30 : decode cX6_about 30 = .ok (.aload_n 0, 1) := by decide +kernel
theorem dX6_about_31 : decode cX6_about 31 = .ok (.getfield 50, 3) := by decide +kernel
theorem dX6_about_34 : decode cX6_about 34 = .ok (.imul, 1) := by decide +kernel
theorem dX6_about_35 : decode cX6_about 35 = .ok (.ireturn, 1) := by decide +kernel
theorem dX6_about_36 : decode cX6_about 36 = .ok (.aload_n 0, 1) := by decide +kernel
theorem dX6_about_37 : decode cX6_about 37 = .ok (.getfield 132, 3) := by decide +kernel
theorem dX6_about_40 : decode cX6_about 40 = .ok (.ifCond .ne 5, 3) := by decide +kernel
theorem dX6_about_43 : decode cX6_about 43 = .ok (.iconst (-1), 1) := by decide +kernel
theorem dX6_about_44 : decode cX6_about 44 = .ok (.ireturn, 1) := by decide +kernel
theorem dX6_about_45 : decode cX6_about 45 = .ok (.iconst 0, 1) := by decide +kernel
theorem dX6_about_46 : decode cX6_about 46 = .ok (.istore_n 2, 1) := by decide +kernel
theorem dX6_about_47 : decode cX6_about 47 = .ok (.iload_n 1, 1) := by decide +kernel
theorem dX6_about_48 : decode cX6_about 48 = .ok (.tableswitch 118 1 7 #[44, 49, 54, 87, 92, 97, 102], 44) := by decide +kernel
theorem dX6_about_92 : decode cX6_about 92 = .ok (.aload_n 0, 1) := by decide +kernel
theorem dX6_about_93 : decode cX6_about 93 = .ok (.getfield 115, 3) := by decide +kernel
theorem dX6_about_96 : decode cX6_about 96 = .ok (.ireturn, 1) := by decide +kernel
theorem dX6_about_97 : decode cX6_about 97 = .ok (.aload_n 0, 1) := by decide +kernel
theorem dX6_about_98 : decode cX6_about 98 = .ok (.getfield 62, 3) := by decide +kernel
theorem dX6_about_101 : decode cX6_about 101 = .ok (.ireturn, 1) := by decide +kernel
theorem dX6_about_102 : decode cX6_about 102 = .ok (.iconst 0, 1) := by decide +kernel
theorem dX6_about_103 : decode cX6_about 103 = .ok (.istore_n 3, 1) := by decide +kernel
theorem dX6_about_104 : decode cX6_about 104 = .ok (.iload_n 3, 1) := by decide +kernel
theorem dX6_about_105 : decode cX6_about 105 = .ok (.bipush 64, 2) := by decide +kernel
theorem dX6_about_107 : decode cX6_about 107 = .ok (.if_icmp .ge 26, 3) := by decide +kernel
theorem dX6_about_110 : decode cX6_about 110 = .ok (.iload_n 2, 1) := by decide +kernel
theorem dX6_about_111 : decode cX6_about 111 = .ok (.aload_n 0, 1) := by decide +kernel
theorem dX6_about_112 : decode cX6_about 112 = .ok (.getfield 39, 3) := by decide +kernel
theorem dX6_about_115 : decode cX6_about 115 = .ok (.iload_n 3, 1) := by decide +kernel
theorem dX6_about_116 : decode cX6_about 116 = .ok (.baload, 1) := by decide +kernel
theorem dX6_about_117 : decode cX6_about 117 = .ok (.ifCond .eq 7, 3) := by decide +kernel
theorem dX6_about_120 : decode cX6_about 120 = .ok (.iconst 1, 1) := by decide +kernel
theorem dX6_about_121 : decode cX6_about 121 = .ok (.goto 4, 3) := by decide +kernel
theorem dX6_about_124 : decode cX6_about 124 = .ok (.iconst 0, 1) := by decide +kernel
theorem dX6_about_125 : decode cX6_about 125 = .ok (.iadd, 1) := by decide +kernel
theorem dX6_about_126 : decode cX6_about 126 = .ok (.istore_n 2, 1) := by decide +kernel
theorem dX6_about_127 : decode cX6_about 127 = .ok (.iinc 3 1, 3) := by decide +kernel
theorem dX6_about_130 : decode cX6_about 130 = .ok (.goto (-26), 3) := by decide +kernel
theorem dX6_about_133 : decode cX6_about 133 = .ok (.iload_n 2, 1) := by decide +kernel
theorem dX6_about_134 : decode cX6_about 134 = .ok (.ireturn, 1) := by decide +kernel
theorem dX6_about_135 : decode cX6_about 135 = .ok (.aload_n 0, 1) := by decide +kernel
theorem dX6_about_136 : decode cX6_about 136 = .ok (.invokevirtual 185, 3) := by decide +kernel
theorem dX6_about_139 : decode cX6_about 139 = .ok (.ireturn, 1) := by decide +kernel
theorem dX6_about_140 : decode cX6_about 140 = .ok (.aload_n 0, 1) := by decide +kernel
theorem dX6_about_141 : decode cX6_about 141 = .ok (.getfield 107, 3) := by decide +kernel
theorem dX6_about_144 : decode cX6_about 144 = .ok (.ireturn, 1) := by decide +kernel
theorem dX6_about_145 : decode cX6_about 145 = .ok (.aload_n 0, 1) := by decide +kernel
theorem dX6_about_146 : decode cX6_about 146 = .ok (.getfield 122, 3) := by decide +kernel
theorem dX6_about_149 : decode cX6_about 149 = .ok (.ireturn, 1) := by decide +kernel
theorem dX6_about_150 : decode cX6_about 150 = .ok (.aload_n 0, 1) := by decide +kernel
theorem dX6_about_151 : decode cX6_about 151 = .ok (.getfield 158, 3) := by decide +kernel
theorem dX6_about_154 : decode cX6_about 154 = .ok (.ifCond .eq 10, 3) := by decide +kernel
theorem dX6_about_157 : decode cX6_about 157 = .ok (.aload_n 0, 1) := by decide +kernel
theorem dX6_about_158 : decode cX6_about 158 = .ok (.getfield 161, 3) := by decide +kernel
theorem dX6_about_161 : decode cX6_about 161 = .ok (.goto 4, 3) := by decide +kernel
theorem dX6_about_164 : decode cX6_about 164 = .ok (.iconst (-1), 1) := by decide +kernel
theorem dX6_about_165 : decode cX6_about 165 = .ok (.ireturn, 1) := by decide +kernel
theorem dX6_about_166 : decode cX6_about 166 = .ok (.iconst (-1), 1) := by decide +kernel
theorem dX6_about_167 : decode cX6_about 167 = .ok (.ireturn, 1) := by decide +kernel
theorem dX6_start_0 : decode cX6_start 0 = .ok (.aload_n 0, 1) := by decide +kernel
theorem dX6_start_1 : decode cX6_start 1 = .ok (.iconst 0, 1) := by decide +kernel
theorem dX6_start_2 : decode cX6_start 2 = .ok (.putfield 59, 3) := by decide +kernel
theorem dX6_start_5 : decode cX6_start 5 = .ok (.aload_n 0, 1) := by decide +kernel
theorem dX6_start_6 : decode cX6_start 6 = .ok (.getfield 132, 3) := by decide +kernel
theorem dX6_start_9 : decode cX6_start 9 = .ok (.ifCond .eq 6, 3) := by decide +kernel
theorem dX6_start_12 : decode cX6_start 12 = .ok (.bipush (-3), 2) := by decide +kernel
theorem dX6_start_14 : decode cX6_start 14 = .ok (.ireturn, 1) := by decide +kernel
theorem dX6_start_15 : decode cX6_start 15 = .ok (.iconst (-1), 1) := by decide +kernel
theorem dX6_start_16 : decode cX6_start 16 = .ok (.istore_n 1, 1) := by decide +kernel
theorem dX6_start_17 : decode cX6_start 17 = .ok (.iconst (-1), 1) := by decide +kernel
theorem dX6_start_18 : decode cX6_start 18 = .ok (.istore_n 2, 1) := by decide +kernel
theorem dX6_start_19 : decode cX6_start 19 = .ok (.iconst 0, 1) := by decide +kernel
theorem dX6_start_20 : decode cX6_start 20 = .ok (.istore_n 3, 1) := by decide +kernel
theorem dX6_start_21 : decode cX6_start 21 = .ok (.iload_n 3, 1) := by decide +kernel
theorem dX6_start_22 : decode cX6_start 22 = .ok (.iconst 2, 1) := by decide +kernel
theorem dX6_start_23 : decode cX6_start 23 = .ok (.if_icmp .ge 39, 3) := by decide +kernel
theorem dX6_start_26 : decode cX6_start 26 = .ok (.aload_n 0, 1) := by decide +kernel
theorem dX6_start_27 : decode cX6_start 27 = .ok (.iload_n 3, 1) := by decide +kernel
theorem dX6_start_28 : decode cX6_start 28 = .ok (.invokevirtual 136, 3) := by decide +kernel
theorem dX6_start_31 : decode cX6_start 31 = .ok (.ifCond .eq 25, 3) := by decide +kernel
theorem dX6_start_34 : decode cX6_start 34 = .ok (.aload_n 0, 1) := by decide +kernel
theorem dX6_start_35 : decode cX6_start 35 = .ok (.iconst 4, 1) := by decide +kernel
theorem dX6_start_36 : decode cX6_start 36 = .ok (.iconst 4, 1) := by decide +kernel
theorem dX6_start_37 : decode cX6_start 37 = .ok (.invokevirtual 104, 3) := by decide +kernel
theorem dX6_start_40 : decode cX6_start 40 = .ok (.iload_n 2, 1) := by decide +kernel
theorem dX6_start_41 : decode cX6_start 41 = .ok (.if_icmp .gt 6, 3) := by decide +kernel
theorem dX6_start_44 : decode cX6_start 44 = .ok (.goto 12, 3) := by decide +kernel
theorem dX6_start_47 : decode cX6_start 47 = .ok (.aload_n 0, 1) := by decide +kernel
theorem dX6_start_48 : decode cX6_start 48 = .ok (.iconst 4, 1) := by decide +kernel
theorem dX6_start_49 : decode cX6_start 49 = .ok (.iconst 4, 1) := by decide +kernel
theorem dX6_start_50 : decode cX6_start 50 = .ok (.invokevirtual 104, 3) := by decide +kernel
theorem dX6_start_53 : decode cX6_start 53 = .ok (.istore_n 2, 1) := by decide +kernel
theorem dX6_start_54 : decode cX6_start 54 = .ok (.iload_n 3, 1) := by decide +kernel
theorem dX6_start_55 : decode cX6_start 55 = .ok (.istore_n 1, 1) := by decide +kernel
theorem dX6_start_56 : decode cX6_start 56 = .ok (.iinc 3 1, 3) := by decide +kernel
theorem dX6_start_59 : decode cX6_start 59 = .ok (.goto (-38), 3) := by decide +kernel
theorem dX6_start_62 : decode cX6_start 62 = .ok (.iload_n 1, 1) := by decide +kernel
theorem dX6_start_63 : decode cX6_start 63 = .ok (.iconst (-1), 1) := by decide +kernel
theorem dX6_start_64 : decode cX6_start 64 = .ok (.if_icmp .eq 8, 3) := by decide +kernel
theorem dX6_start_67 : decode cX6_start 67 = .ok (.aload_n 0, 1) := by decide +kernel
theorem dX6_start_68 : decode cX6_start 68 = .ok (.iload_n 1, 1) := by decide +kernel
theorem dX6_start_69 : decode cX6_start 69 = .ok (.invokevirtual 82, 3) := by decide +kernel
theorem dX6_start_72 : decode cX6_start 72 = .ok (.aload_n 0, 1) := by decide +kernel
theorem dX6_start_73 : decode cX6_start 73 = .ok (.iconst 0, 1) := by decide +kernel
theorem dX6_start_74 : decode cX6_start 74 = .ok (.iconst 4, 1) := by decide +kernel
theorem dX6_start_75 : decode cX6_start 75 = .ok (.invokevirtual 104, 3) := by decide +kernel
theorem dX6_start_78 : decode cX6_start 78 = .ok (.istore_n 3, 1) := by decide +kernel
theorem dX6_start_79 : decode cX6_start 79 = .ok (.iload_n 1, 1) := by decide +kernel
theorem dX6_start_80 : decode cX6_start 80 = .ok (.iconst (-1), 1) := by decide +kernel
theorem dX6_start_81 : decode cX6_start 81 = .ok (.if_icmp .eq 23, 3) := by decide +kernel
theorem dX6_start_84 : decode cX6_start 84 = .ok (.iload_n 3, 1) := by decide +kernel
theorem dX6_start_85 : decode cX6_start 85 = .ok (.aload_n 0, 1) := by decide +kernel
theorem dX6_start_86 : decode cX6_start 86 = .ok (.getfield 56, 3) := by decide +kernel
theorem dX6_start_89 : decode cX6_start 89 = .ok (.if_icmp .eq 15, 3) := by decide +kernel
theorem dX6_start_92 : decode cX6_start 92 = .ok (.iload_n 3, 1) := by decide +kernel
theorem dX6_start_93 : decode cX6_start 93 = .ok (.aload_n 0, 1) := by decide +kernel
theorem dX6_start_94 : decode cX6_start 94 = .ok (.getfield 56, 3) := by decide +kernel
theorem dX6_start_97 : decode cX6_start 97 = .ok (.iconst 1, 1) := by decide +kernel
theorem dX6_start_98 : decode cX6_start 98 = .ok (.isub, 1) := by decide +kernel
theorem dX6_start_99 : decode cX6_start 99 = .ok (.if_icmp .eq 5, 3) := by decide +kernel
theorem dX6_start_102 : decode cX6_start 102 = .ok (.iconst (-1), 1) := by decide +kernel
theorem dX6_start_103 : decode cX6_start 103 = .ok (.ireturn, 1) := by decide +kernel
theorem dX6_start_104 : decode cX6_start 104 = .ok (.aload_n 0, 1) := by decide +kernel
theorem dX6_start_105 : decode cX6_start 105 = .ok (.aload_n 0, 1) := by decide +kernel
theorem dX6_start_106 : decode cX6_start 106 = .ok (.getfield 56, 3) := by decide +kernel
theorem dX6_start_109 : decode cX6_start 109 = .ok (.putfield 53, 3) := by decide +kernel
theorem dX6_start_112 : decode cX6_start 112 = .ok (.aload_n 0, 1) := by decide +kernel
theorem dX6_start_113 : decode cX6_start 113 = .ok (.iload_n 1, 1) := by decide +kernel
theorem dX6_start_114 : decode cX6_start 114 = .ok (.iconst (-1), 1) := by decide +kernel
theorem dX6_start_115 : decode cX6_start 115 = .ok (.if_icmp .ne 7, 3) := by decide +kernel
theorem dX6_start_118 : decode cX6_start 118 = .ok (.iconst 0, 1) := by decide +kernel
theorem dX6_start_119 : decode cX6_start 119 = .ok (.goto 4, 3) := by decide +kernel
theorem dX6_start_122 : decode cX6_start 122 = .ok (.iload_n 2, 1) := by decide +kernel
theorem dX6_start_123 : decode cX6_start 123 = .ok (.putfield 122, 3) := by decide +kernel
theorem dX6_start_126 : decode cX6_start 126 = .ok (.aload_n 0, 1) := by decide +kernel
theorem dX6_start_127 : decode cX6_start 127 = .ok (.iload_n 1, 1) := by decide +kernel
theorem dX6_start_128 : decode cX6_start 128 = .ok (.iconst (-1), 1) := by decide +kernel
theorem dX6_start_129 : decode cX6_start 129 = .ok (.if_icmp .ne 7, 3) := by decide +kernel
theorem dX6_start_132 : decode cX6_start 132 = .ok (.iconst 0, 1) := by decide +kernel
theorem dX6_start_133 : decode cX6_start 133 = .ok (.goto 10, 3) := by decide +kernel
theorem dX6_start_136 : decode cX6_start 136 = .ok (.aload_n 0, 1) := by decide +kernel
theorem dX6_start_137 : decode cX6_start 137 = .ok (.getfield 20, 3) := by decide +kernel
theorem dX6_start_140 : decode cX6_start 140 = .ok (.bipush 8, 2) := by decide +kernel
theorem dX6_start_142 : decode cX6_start 142 = .ok (.iaload, 1) := by decide +kernel
theorem dX6_start_143 : decode cX6_start 143 = .ok (.putfield 107, 3) := by decide +kernel
theorem dX6_start_146 : decode cX6_start 146 = .ok (.aload_n 0, 1) := by decide +kernel
theorem dX6_start_147 : decode cX6_start 147 = .ok (.iconst 0, 1) := by decide +kernel
theorem dX6_start_148 : decode cX6_start 148 = .ok (.putfield 115, 3) := by decide +kernel
theorem dX6_start_151 : decode cX6_start 151 = .ok (.iload_n 1, 1) := by decide +kernel
theorem dX6_start_152 : decode cX6_start 152 = .ok (.iconst (-1), 1) := by decide +kernel
theorem dX6_start_153 : decode cX6_start 153 = .ok (.if_icmp .ne 11, 3) := by decide +kernel
theorem dX6_start_156 : decode cX6_start 156 = .ok (.aload_n 0, 1) := by decide +kernel
theorem dX6_start_157 : decode cX6_start 157 = .ok (.iconst 0, 1) := by decide +kernel
theorem dX6_start_158 : decode cX6_start 158 = .ok (.invokevirtual 139, 3) := by decide +kernel
theorem dX6_start_161 : decode cX6_start 161 = .ok (.goto 30, 3) := by decide +kernel
theorem dX6_start_164 : decode cX6_start 164 = .ok (.iconst 0, 1) := by decide +kernel
theorem dX6_start_165 : decode cX6_start 165 = .ok (.istore 4, 2) := by decide +kernel
theorem dX6_start_167 : decode cX6_start 167 = .ok (.iload 4, 2) := by decide +kernel
theorem dX6_start_169 : decode cX6_start 169 = .ok (.bipush 16, 2) := by decide +kernel
theorem dX6_start_171 : decode cX6_start 171 = .ok (.aload_n 0, 1) := by decide +kernel
theorem dX6_start_172 : decode cX6_start 172 = .ok (.getfield 50, 3) := by decide +kernel
theorem dX6_start_175 : decode cX6_start 175 = .ok (.imul, 1) := by decide +kernel
theorem dX6_start_176 : decode cX6_start 176 = .ok (.if_icmp .ge 15, 3) := by decide +kernel
theorem dX6_start_179 : decode cX6_start 179 = .ok (.aload_n 0, 1) := by decide +kernel
theorem dX6_start_180 : decode cX6_start 180 = .ok (.iload 4, 2) := by decide +kernel
theorem dX6_start_182 : decode cX6_start 182 = .ok (.invokevirtual 142, 3) := by decide +kernel
theorem dX6_start_185 : decode cX6_start 185 = .ok (.iinc 4 1, 3) := by decide +kernel
theorem dX6_start_188 : decode cX6_start 188 = .ok (.goto (-21), 3) := by decide +kernel
theorem dX6_start_191 : decode cX6_start 191 = .ok (.aload_n 0, 1) := by decide +kernel
theorem dX6_start_192 : decode cX6_start 192 = .ok (.invokevirtual 145, 3) := by decide +kernel
theorem dX6_start_195 : decode cX6_start 195 = .ok (.aload_n 0, 1) := by decide +kernel
theorem dX6_start_196 : decode cX6_start 196 = .ok (.iconst 1, 1) := by decide +kernel
theorem dX6_start_197 : decode cX6_start 197 = .ok (.putfield 132, 3) := by decide +kernel
theorem dX6_start_200 : decode cX6_start 200 = .ok (.aload_n 0, 1) := by decide +kernel
theorem dX6_start_201 : decode cX6_start 201 = .ok (.aload_n 0, 1) := by decide +kernel
theorem dX6_start_202 : decode cX6_start 202 = .ok (.getfield 115, 3) := by decide +kernel
theorem dX6_start_205 : decode cX6_start 205 = .ok (.putfield 148, 3) := by decide +kernel
theorem dX6_start_208 : decode cX6_start 208 = .ok (.aload_n 0, 1) := by decide +kernel
theorem dX6_start_209 : decode cX6_start 209 = .ok (.iconst 0, 1) := by decide +kernel
theorem dX6_start_210 : decode cX6_start 210 = .ok (.putfield 151, 3) := by decide +kernel
theorem dX6_start_213 : decode cX6_start 213 = .ok (.iconst 0, 1) := by decide +kernel
theorem dX6_start_214 : decode cX6_start 214 = .ok (.istore 4, 2) := by decide +kernel
theorem dX6_start_216 : decode cX6_start 216 = .ok (.iload 4, 2) := by decide +kernel
theorem dX6_start_218 : decode cX6_start 218 = .ok (.aload_n 0, 1) := by decide +kernel
theorem dX6_start_219 : decode cX6_start 219 = .ok (.getfield 115, 3) := by decide +kernel
theorem dX6_start_222 : decode cX6_start 222 = .ok (.if_icmp .ge 33, 3) := by decide +kernel
theorem dX6_start_225 : decode cX6_start 225 = .ok (.aload_n 0, 1) := by decide +kernel
theorem dX6_start_226 : decode cX6_start 226 = .ok (.dup, 1) := by decide +kernel
theorem dX6_start_227 : decode cX6_start 227 = .ok (.getfield 151, 3) := by decide +kernel
theorem dX6_start_230 : decode cX6_start 230 = .ok (.aload_n 0, 1) := by decide +kernel
theorem dX6_start_231 : decode cX6_start 231 = .ok (.getfield 23, 3) := by decide +kernel
theorem dX6_start_234 : decode cX6_start 234 = .ok (.iload 4, 2) := by decide +kernel
theorem dX6_start_236 : decode cX6_start 236 = .ok (.iaload, 1) := by decide +kernel
theorem dX6_start_237 : decode cX6_start 237 = .ok (.ifCond .ne 7, 3) := by decide +kernel
theorem dX6_start_240 : decode cX6_start 240 = .ok (.iconst 1, 1) := by decide +kernel
theorem dX6_start_241 : decode cX6_start 241 = .ok (.goto 4, 3) := by decide +kernel
theorem dX6_start_244 : decode cX6_start 244 = .ok (.iconst 0, 1) := by decide +kernel
theorem dX6_start_245 : decode cX6_start 245 = .ok (.iadd, 1) := by decide +kernel
theorem dX6_start_246 : decode cX6_start 246 = .ok (.putfield 151, 3) := by decide +kernel
theorem dX6_start_249 : decode cX6_start 249 = .ok (.iinc 4 1, 3) := by decide +kernel
theorem dX6_start_252 : decode cX6_start 252 = .ok (.goto (-36), 3) := by decide +kernel
theorem dX6_start_255 : decode cX6_start 255 = .ok (.aload_n 0, 1) := by decide +kernel
theorem dX6_start_256 : decode cX6_start 256 = .ok (.getfield 115, 3) := by decide +kernel
theorem dX6_start_259 : decode cX6_start 259 = .ok (.aload_n 0, 1) := by decide +kernel
theorem dX6_start_260 : decode cX6_start 260 = .ok (.getfield 151, 3) := by decide +kernel
theorem dX6_start_263 : decode cX6_start 263 = .ok (.isub, 1) := by decide +kernel
theorem dX6_start_264 : decode cX6_start 264 = .ok (.ireturn, 1) := by decide +kernel
theorem dX0_init_0 : decode cX0_init 0 = .ok (.aload_n 0, 1) := by decide +kernel
theorem dX0_init_1 : decode cX0_init 1 = .ok (.invokespecial 3, 3) := by decide +kernel
theorem dX0_init_4 : decode cX0_init 4 = .ok (.aload_n 0, 1) := by decide +kernel
theorem dX0_init_5 : decode cX0_init 5 = .ok (.iload_n 1, 1) := by decide +kernel
theorem dX0_init_6 : decode cX0_init 6 = .ok (.putfield 9, 3) := by decide +kernel
theorem dX0_init_9 : decode cX0_init 9 = .ok (.aload_n 0, 1) := by decide +kernel
theorem dX0_init_10 : decode cX0_init 10 = .ok (.iload_n 1, 1) := by decide +kernel
theorem dX0_init_11 : decode cX0_init 11 = .ok (.sipush 512, 3) := by decide +kernel
theorem dX0_init_14 : decode cX0_init 14 = .ok (.imul, 1) := by decide +kernel
theorem dX0_init_15 : decode cX0_init 15 = .ok (.newarray .byte, 2) := by decide +kernel
theorem dX0_init_17 : decode cX0_init 17 = .ok (.putfield 15, 3) := by decide +kernel
theorem dX0_init_20 : decode cX0_init 20 = .ok (.aload_n 0, 1) := by decide +kernel
theorem dX0_init_21 : decode cX0_init 21 = .ok (.ldc 19, 2) := by decide +kernel
theorem dX0_init_23 : decode cX0_init 23 = .ok (.newarray .byte, 2) := by decide +kernel
theorem dX0_init_25 : decode cX0_init 25 = .ok (.putfield 20, 3) := by decide +kernel
theorem dX0_init_28 : decode cX0_init 28 = .ok (.aload_n 0, 1) := by decide +kernel
theorem dX0_init_29 : decode cX0_init 29 = .ok (.bipush 64, 2) := by decide +kernel
theorem dX0_init_31 : decode cX0_init 31 = .ok (.newarray .int, 2) := by decide +kernel
theorem dX0_init_33 : decode cX0_init 33 = .ok (.putfield 23, 3) := by decide +kernel
theorem dX0_init_36 : decode cX0_init 36 = .ok (.return_, 1) := by decide +kernel
theorem dX3_init_0 : decode cX3_init 0 = .ok (.aload_n 0, 1) := by decide +kernel
theorem dX3_init_1 : decode cX3_init 1 = .ok (.invokespecial 3, 3) := by decide +kernel
theorem dX3_init_4 : decode cX3_init 4 = .ok (.aload_n 0, 1) := by decide +kernel
theorem dX3_init_5 : decode cX3_init 5 = .ok (.iload_n 1, 1) := by decide +kernel
theorem dX3_init_6 : decode cX3_init 6 = .ok (.newarray .int, 2) := by decide +kernel
theorem dX3_init_8 : decode cX3_init 8 = .ok (.putfield 9, 3) := by decide +kernel
theorem dX3_init_11 : decode cX3_init 11 = .ok (.aload_n 0, 1) := by decide +kernel
theorem dX3_init_12 : decode cX3_init 12 = .ok (.iload_n 1, 1) := by decide +kernel
theorem dX3_init_13 : decode cX3_init 13 = .ok (.newarray .int, 2) := by decide +kernel
theorem dX3_init_15 : decode cX3_init 15 = .ok (.putfield 15, 3) := by decide +kernel
theorem dX3_init_18 : decode cX3_init 18 = .ok (.aload_n 0, 1) := by decide +kernel
theorem dX3_init_19 : decode cX3_init 19 = .ok (.iload_n 1, 1) := by decide +kernel
theorem dX3_init_20 : decode cX3_init 20 = .ok (.newarray .int, 2) := by decide +kernel
theorem dX3_init_22 : decode cX3_init 22 = .ok (.putfield 18, 3) := by decide +kernel
theorem dX3_init_25 : decode cX3_init 25 = .ok (.aload_n 0, 1) := by decide +kernel
theorem dX3_init_26 : decode cX3_init 26 = .ok (.iload_n 1, 1) := by decide +kernel
theorem dX3_init_27 : decode cX3_init 27 = .ok (.bipush 6, 2) := by decide +kernel
theorem dX3_init_29 : decode cX3_init 29 = .ok (.imul, 1) := by decide +kernel
theorem dX3_init_30 : decode cX3_init 30 = .ok (.newarray .int, 2) := by decide +kernel
theorem dX3_init_32 : decode cX3_init 32 = .ok (.putfield 21, 3) := by decide +kernel
theorem dX3_init_35 : decode cX3_init 35 = .ok (.aload_n 0, 1) := by decide +kernel
theorem dX3_init_36 : decode cX3_init 36 = .ok (.iload_n 1, 1) := by decide +kernel
theorem dX3_init_37 : decode cX3_init 37 = .ok (.newarray .long, 2) := by decide +kernel
theorem dX3_init_39 : decode cX3_init 39 = .ok (.putfield 24, 3) := by decide +kernel
theorem dX3_init_42 : decode cX3_init 42 = .ok (.aload_n 0, 1) := by decide +kernel
theorem dX3_init_43 : decode cX3_init 43 = .ok (.bipush 64, 2) := by decide +kernel
theorem dX3_init_45 : decode cX3_init 45 = .ok (.newarray .int, 2) := by decide +kernel
theorem dX3_init_47 : decode cX3_init 47 = .ok (.putfield 28, 3) := by decide +kernel
theorem dX3_init_50 : decode cX3_init 50 = .ok (.return_, 1) := by decide +kernel
theorem dX4_init_0 : decode cX4_init 0 = .ok (.aload_n 0, 1) := by decide +kernel
theorem dX4_init_1 : decode cX4_init 1 = .ok (.invokespecial 3, 3) := by decide +kernel
theorem dX4_init_4 : decode cX4_init 4 = .ok (.aload_n 0, 1) := by decide +kernel
theorem dX4_init_5 : decode cX4_init 5 = .ok (.bipush 64, 2) := by decide +kernel
theorem dX4_init_7 : decode cX4_init 7 = .ok (.newarray .boolean, 2) := by decide +kernel
theorem dX4_init_9 : decode cX4_init 9 = .ok (.putfield 9, 3) := by decide +kernel
theorem dX4_init_12 : decode cX4_init 12 = .ok (.aload_n 0, 1) := by decide +kernel
theorem dX4_init_13 : decode cX4_init 13 = .ok (.bipush 64, 2) := by decide +kernel
theorem dX4_init_15 : decode cX4_init 15 = .ok (.newarray .long, 2) := by decide +kernel
theorem dX4_init_17 : decode cX4_init 17 = .ok (.putfield 15, 3) := by decide +kernel
theorem dX4_init_20 : decode cX4_init 20 = .ok (.return_, 1) := by decide +kernel
theorem dX5_init_0 : decode cX5_init 0 = .ok (.aload_n 0, 1) := by decide +kernel
theorem dX5_init_1 : decode cX5_init 1 = .ok (.invokespecial 1, 3) := by decide +kernel
theorem dX5_init_4 : decode cX5_init 4 = .ok (.iload_n 1, 1) := by decide +kernel
theorem dX5_init_5 : decode cX5_init 5 = .ok (.iconst 4, 1) := by decide +kernel
theorem dX5_init_6 : decode cX5_init 6 = .ok (.invokestatic 9, 3) := by decide +kernel
theorem dX5_init_9 : decode cX5_init 9 = .ok (.bipush 40, 2) := by decide +kernel
theorem dX5_init_11 : decode cX5_init 11 = .ok (.invokestatic 15, 3) := by decide +kernel
theorem dX5_init_14 : decode cX5_init 14 = .ok (.istore_n 2, 1) := by decide +kernel
theorem dX5_init_15 : decode cX5_init 15 = .ok (.aload_n 0, 1) := by decide +kernel
theorem dX5_init_16 : decode cX5_init 16 = .ok (.iload_n 2, 1) := by decide +kernel
theorem dX5_init_17 : decode cX5_init 17 = .ok (.iconst 2, 1) := by decide +kernel
theorem dX5_init_18 : decode cX5_init 18 = .ok (.isub, 1) := by decide +kernel
theorem dX5_init_19 : decode cX5_init 19 = .ok (.iconst 2, 1) := by decide +kernel
theorem dX5_init_20 : decode cX5_init 20 = .ok (.idiv, 1) := by decide +kernel
theorem dX5_init_21 : decode cX5_init 21 = .ok (.putfield 18, 3) := by decide +kernel
theorem dX5_init_24 : decode cX5_init 24 = .ok (.aload_n 0, 1) := by decide +kernel
theorem dX5_init_25 : decode cX5_init 25 = .ok (.getfield 18, 3) := by decide +kernel
theorem dX5_init_28 : decode cX5_init 28 = .ok (.bipush 16, 2) := by decide +kernel
theorem dX5_init_30 : decode cX5_init 30 = .ok (.imul, 1) := by decide +kernel
theorem dX5_init_31 : decode cX5_init 31 = .ok (.istore_n 3, 1) := by decide +kernel
theorem dX5_init_32 : decode cX5_init 32 = .ok (.aload_n 0, 1) := by decide +kernel
theorem dX5_init_33 : decode cX5_init 33 = .ok (.new 22, 3) := by decide +kernel
theorem dX5_init_36 : decode cX5_init 36 = .ok (.dup, 1) := by decide +kernel
theorem dX5_init_37 : decode cX5_init 37 = .ok (.iload_n 2, 1) := by decide +kernel
theorem dX5_init_38 : decode cX5_init 38 = .ok (.invokespecial 24, 3) := by decide +kernel
theorem dX5_init_41 : decode cX5_init 41 = .ok (.putfield 27, 3) := by decide +kernel
theorem dX5_init_44 : decode cX5_init 44 = .ok (.aload_n 0, 1) := by decide +kernel
theorem dX5_init_45 : decode cX5_init 45 = .ok (.new 31, 3) := by decide +kernel
theorem dX5_init_48 : decode cX5_init 48 = .ok (.dup, 1) := by decide +kernel
theorem dX5_init_49 : decode cX5_init 49 = .ok (.iload_n 3, 1) := by decide +kernel
theorem dX5_init_50 : decode cX5_init 50 = .ok (.invokespecial 33, 3) := by decide +kernel
theorem dX5_init_53 : decode cX5_init 53 = .ok (.putfield 34, 3) := by decide +kernel
theorem dX5_init_56 : decode cX5_init 56 = .ok (.aload_n 0, 1) := by decide +kernel
theorem dX5_init_57 : decode cX5_init 57 = .ok (.new 38, 3) := by decide +kernel
theorem dX5_init_60 : decode cX5_init 60 = .ok (.dup, 1) := by decide +kernel
theorem dX5_init_61 : decode cX5_init 61 = .ok (.invokespecial 40, 3) := by decide +kernel
theorem dX5_init_64 : decode cX5_init 64 = .ok (.putfield 41, 3) := by decide +kernel
theorem dX5_init_67 : decode cX5_init 67 = .ok (.aload_n 0, 1) := by decide +kernel
theorem dX5_init_68 : decode cX5_init 68 = .ok (.iload_n 3, 1) := by decide +kernel
theorem dX5_init_69 : decode cX5_init 69 = .ok (.newarray .int, 2) := by decide +kernel
theorem dX5_init_71 : decode cX5_init 71 = .ok (.putfield 45, 3) := by decide +kernel
theorem dX5_init_74 : decode cX5_init 74 = .ok (.aload_n 0, 1) := by decide +kernel
theorem dX5_init_75 : decode cX5_init 75 = .ok (.iconst (-1), 1) := by decide +kernel
theorem dX5_init_76 : decode cX5_init 76 = .ok (.putfield 49, 3) := by decide +kernel
theorem dX5_init_79 : decode cX5_init 79 = .ok (.aload_n 0, 1) := by decide +kernel
theorem dX5_init_80 : decode cX5_init 80 = .ok (.iconst 1, 1) := by decide +kernel
theorem dX5_init_81 : decode cX5_init 81 = .ok (.putfield 52, 3) := by decide +kernel
theorem dX5_init_84 : decode cX5_init 84 = .ok (.return_, 1) := by decide +kernel
theorem dX6_init_0 : decode cX6_init 0 = .ok (.aload_n 0, 1) := by decide +kernel
theorem dX6_init_1 : decode cX6_init 1 = .ok (.invokespecial 1, 3) := by decide +kernel
theorem dX6_init_4 : decode cX6_init 4 = .ok (.aload_n 0, 1) := by decide +kernel
theorem dX6_init_5 : decode cX6_init 5 = .ok (.sipush 20480, 3) := by decide +kernel
theorem dX6_init_8 : decode cX6_init 8 = .ok (.newarray .int, 2) := by decide +kernel
theorem dX6_init_10 : decode cX6_init 10 = .ok (.putfield 7, 3) := by decide +kernel
theorem dX6_init_13 : decode cX6_init 13 = .ok (.aload_n 0, 1) := by decide +kernel
theorem dX6_init_14 : decode cX6_init 14 = .ok (.ldc 13, 2) := by decide +kernel
theorem dX6_init_16 : decode cX6_init 16 = .ok (.newarray .int, 2) := by decide +kernel
theorem dX6_init_18 : decode cX6_init 18 = .ok (.putfield 14, 3) := by decide +kernel
theorem dX6_init_21 : decode cX6_init 21 = .ok (.aload_n 0, 1) := by decide +kernel
theorem dX6_init_22 : decode cX6_init 22 = .ok (.bipush 64, 2) := by decide +kernel
theorem dX6_init_24 : decode cX6_init 24 = .ok (.newarray .int, 2) := by decide +kernel
theorem dX6_init_26 : decode cX6_init 26 = .ok (.putfield 17, 3) := by decide +kernel
theorem dX6_init_29 : decode cX6_init 29 = .ok (.aload_n 0, 1) := by decide +kernel
theorem dX6_init_30 : decode cX6_init 30 = .ok (.sipush 512, 3) := by decide +kernel
theorem dX6_init_33 : decode cX6_init 33 = .ok (.newarray .int, 2) := by decide +kernel
theorem dX6_init_35 : decode cX6_init 35 = .ok (.putfield 20, 3) := by decide +kernel
theorem dX6_init_38 : decode cX6_init 38 = .ok (.aload_n 0, 1) := by decide +kernel
theorem dX6_init_39 : decode cX6_init 39 = .ok (.sipush 608, 3) := by decide +kernel
theorem dX6_init_42 : decode cX6_init 42 = .ok (.newarray .int, 2) := by decide +kernel
theorem dX6_init_44 : decode cX6_init 44 = .ok (.putfield 23, 3) := by decide +kernel
theorem dX6_init_47 : decode cX6_init 47 = .ok (.aload_n 0, 1) := by decide +kernel
theorem dX6_init_48 : decode cX6_init 48 = .ok (.sipush 608, 3) := by decide +kernel
theorem dX6_init_51 : decode cX6_init 51 = .ok (.newarray .int, 2) := by decide +kernel
theorem dX6_init_53 : decode cX6_init 53 = .ok (.putfield 26, 3) := by decide +kernel
theorem dX6_init_56 : decode cX6_init 56 = .ok (.aload_n 0, 1) := by decide +kernel
theorem dX6_init_57 : decode cX6_init 57 = .ok (.sipush 608, 3) := by decide +kernel
theorem dX6_init_60 : decode cX6_init 60 = .ok (.newarray .int, 2) := by decide +kernel
theorem dX6_init_62 : decode cX6_init 62 = .ok (.putfield 29, 3) := by decide +kernel
theorem dX6_init_65 : decode cX6_init 65 = .ok (.aload_n 0, 1) := by decide +kernel
theorem dX6_init_66 : decode cX6_init 66 = .ok (.sipush 3648, 3) := by decide +kernel
theorem dX6_init_69 : decode cX6_init 69 = .ok (.newarray .int, 2) := by decide +kernel
theorem dX6_init_71 : decode cX6_init 71 = .ok (.putfield 32, 3) := by decide +kernel
theorem dX6_init_74 : decode cX6_init 74 = .ok (.aload_n 0, 1) := by decide +kernel
theorem dX6_init_75 : decode cX6_init 75 = .ok (.sipush 608, 3) := by decide +kernel
theorem dX6_init_78 : decode cX6_init 78 = .ok (.newarray .long, 2) := by decide +kernel
theorem dX6_init_80 : decode cX6_init 80 = .ok (.putfield 35, 3) := by decide +kernel
theorem dX6_init_83 : decode cX6_init 83 = .ok (.aload_n 0, 1) := by decide +kernel
theorem dX6_init_84 : decode cX6_init 84 = .ok (.bipush 64, 2) := by decide +kernel
theorem dX6_init_86 : decode cX6_init 86 = .ok (.newarray .boolean, 2) := by decide +kernel
theorem dX6_init_88 : decode cX6_init 88 = .ok (.putfield 39, 3) := by decide +kernel
theorem dX6_init_91 : decode cX6_init 91 = .ok (.aload_n 0, 1) := by decide +kernel
theorem dX6_init_92 : decode cX6_init 92 = .ok (.bipush 64, 2) := by decide +kernel
theorem dX6_init_94 : decode cX6_init 94 = .ok (.newarray .long, 2) := by decide +kernel
theorem dX6_init_96 : decode cX6_init 96 = .ok (.putfield 43, 3) := by decide +kernel
theorem dX6_init_99 : decode cX6_init 99 = .ok (.aload_n 0, 1) := by decide +kernel
theorem dX6_init_100 : decode cX6_init 100 = .ok (.iload_n 1, 1) := by decide +kernel
theorem dX6_init_101 : decode cX6_init 101 = .ok (.iconst 4, 1) := by decide +kernel
theorem dX6_init_102 : decode cX6_init 102 = .ok (.if_icmp .ge 7, 3) := by decide +kernel
theorem dX6_init_105 : decode cX6_init 105 = .ok (.iconst 4, 1) := by decide +kernel
theorem dX6_init_106 : decode cX6_init 106 = .ok (.goto 15, 3) := by decide +kernel
theorem dX6_init_109 : decode cX6_init 109 = .ok (.iload_n 1, 1) := by decide +kernel
theorem dX6_init_110 : decode cX6_init 110 = .ok (.bipush 40, 2) := by decide +kernel
theorem dX6_init_112 : decode cX6_init 112 = .ok (.if_icmp .le 8, 3) := by decide +kernel
theorem dX6_init_115 : decode cX6_init 115 = .ok (.bipush 40, 2) := by decide +kernel
theorem dX6_init_117 : decode cX6_init 117 = .ok (.goto 4, 3) := by decide +kernel
theorem dX6_init_120 : decode cX6_init 120 = .ok (.iload_n 1, 1) := by decide +kernel
theorem dX6_init_121 : decode cX6_init 121 = .ok (.putfield 46, 3) := by decide +kernel
theorem dX6_init_124 : decode cX6_init 124 = .ok (.aload_n 0, 1) := by decide +kernel
theorem dX6_init_125 : decode cX6_init 125 = .ok (.aload_n 0, 1) := by decide +kernel
theorem dX6_init_126 : decode cX6_init 126 = .ok (.getfield 46, 3) := by decide +kernel
theorem dX6_init_129 : decode cX6_init 129 = .ok (.iconst 2, 1) := by decide +kernel
theorem dX6_init_130 : decode cX6_init 130 = .ok (.isub, 1) := by decide +kernel
theorem dX6_init_131 : decode cX6_init 131 = .ok (.iconst 2, 1) := by decide +kernel
theorem dX6_init_132 : decode cX6_init 132 = .ok (.idiv, 1) := by decide +kernel
theorem dX6_init_133 : decode cX6_init 133 = .ok (.putfield 50, 3) := by decide +kernel
theorem dX6_init_136 : decode cX6_init 136 = .ok (.aload_n 0, 1) := by decide +kernel
theorem dX6_init_137 : decode cX6_init 137 = .ok (.iconst 1, 1) := by decide +kernel
theorem dX6_init_138 : decode cX6_init 138 = .ok (.putfield 53, 3) := by decide +kernel
theorem dX6_init_141 : decode cX6_init 141 = .ok (.aload_n 0, 1) := by decide +kernel
theorem dX6_init_142 : decode cX6_init 142 = .ok (.iconst 1, 1) := by decide +kernel
theorem dX6_init_143 : decode cX6_init 143 = .ok (.putfield 56, 3) := by decide +kernel
theorem dX6_init_146 : decode cX6_init 146 = .ok (.return_, 1) := by decide +kernel
theorem dL_sector_0 : decode cL_sector 0 = .ok (.aload_n 3, 1) := by decide +kernel
theorem dL_sector_1 : decode cL_sector 1 = .ok (.iconst 0, 1) := by decide +kernel
theorem dL_sector_2 : decode cL_sector 2 = .ok (.aload_n 0, 1) := by decide +kernel
theorem dL_sector_3 : decode cL_sector 3 = .ok (.iload_n 1, 1) := by decide +kernel
theorem dL_sector_4 : decode cL_sector 4 = .ok (.iload_n 2, 1) := by decide +kernel
theorem dL_sector_5 : decode cL_sector 5 = .ok (.invokevirtual 7, 3) := by decide +kernel
theorem dL_sector_8 : decode cL_sector 8 = .ok (.i2l, 1) := by decide +kernel
theorem dL_sector_9 : decode cL_sector 9 = .ok (.lastore, 1) := by decide +kernel
theorem dL_sector_10 : decode cL_sector 10 = .ok (.goto 7, 3) := by decide +kernel
theorem dL_sector_13 : decode cL_sector 13 = .ok (.astore 4, 2) := by decide +kernel
theorem dL_sector_15 : decode cL_sector 15 = .ok (.iconst 1, 1) := by decide +kernel
theorem dL_sector_16 : decode cL_sector 16 = .ok (.ireturn, 1) := by decide +kernel
theorem dL_sector_17 : decode cL_sector 17 = .ok (.iconst 0, 1) := by decide +kernel
theorem dL_sector_18 : decode cL_sector 18 = .ok (.ireturn, 1) := by decide +kernel
theorem dL_cell_0 : decode cL_cell 0 = .ok (.iload_n 1, 1) := by decide +kernel
theorem dL_cell_1 : decode cL_cell 1 = .ok (.aload_n 0, 1) := by decide +kernel
theorem dL_cell_2 : decode cL_cell 2 = .ok (.arraylength, 1) := by decide +kernel
theorem dL_cell_3 : decode cL_cell 3 = .ok (.if_icmp .ge 9, 3) := by decide +kernel
theorem dL_cell_6 : decode cL_cell 6 = .ok (.aload_n 0, 1) := by decide +kernel
theorem dL_cell_7 : decode cL_cell 7 = .ok (.iload_n 1, 1) := by decide +kernel
theorem dL_cell_8 : decode cL_cell 8 = .ok (.iaload, 1) := by decide +kernel
theorem dL_cell_9 : decode cL_cell 9 = .ok (.goto 4, 3) := by decide +kernel
theorem dL_cell_12 : decode cL_cell 12 = .ok (.iconst 0, 1) := by decide +kernel
theorem dL_cell_13 : decode cL_cell 13 = .ok (.ireturn, 1) := by decide +kernel
theorem dL_law_0 : decode cL_law 0 = .ok (.new 8, 3) := by decide +kernel
theorem dL_law_3 : decode cL_law 3 = .ok (.dup, 1) := by decide +kernel
theorem dL_law_4 : decode cL_law 4 = .ok (.aload_n 0, 1) := by decide +kernel
theorem dL_law_5 : decode cL_law 5 = .ok (.iconst 0, 1) := by decide +kernel
theorem dL_law_6 : decode cL_law 6 = .ok (.invokestatic 15, 3) := by decide +kernel
theorem dL_law_9 : decode cL_law 9 = .ok (.invokespecial 21, 3) := by decide +kernel
theorem dL_law_12 : decode cL_law 12 = .ok (.astore_n 1, 1) := by decide +kernel
theorem dL_law_13 : decode cL_law 13 = .ok (.new 24, 3) := by decide +kernel
theorem dL_law_16 : decode cL_law 16 = .ok (.dup, 1) := by decide +kernel
theorem dL_law_17 : decode cL_law 17 = .ok (.aload_n 0, 1) := by decide +kernel
theorem dL_law_18 : decode cL_law 18 = .ok (.iconst 0, 1) := by decide +kernel
theorem dL_law_19 : decode cL_law 19 = .ok (.invokestatic 15, 3) := by decide +kernel
theorem dL_law_22 : decode cL_law 22 = .ok (.invokespecial 26, 3) := by decide +kernel
theorem dL_law_25 : decode cL_law 25 = .ok (.astore_n 2, 1) := by decide +kernel
theorem dL_law_26 : decode cL_law 26 = .ok (.iconst 1, 1) := by decide +kernel
theorem dL_law_27 : decode cL_law 27 = .ok (.newarray .long, 2) := by decide +kernel
theorem dL_law_29 : decode cL_law 29 = .ok (.astore_n 3, 1) := by decide +kernel
theorem dL_law_30 : decode cL_law 30 = .ok (.iconst 1, 1) := by decide +kernel
theorem dL_law_31 : decode cL_law 31 = .ok (.istore 4, 2) := by decide +kernel
theorem dL_law_33 : decode cL_law 33 = .ok (.iload 4, 2) := by decide +kernel
theorem dL_law_35 : decode cL_law 35 = .ok (.aload_n 0, 1) := by decide +kernel
theorem dL_law_36 : decode cL_law 36 = .ok (.arraylength, 1) := by decide +kernel
theorem dL_law_37 : decode cL_law 37 = .ok (.iconst 4, 1) := by decide +kernel
theorem dL_law_38 : decode cL_law 38 = .ok (.isub, 1) := by decide +kernel
theorem dL_law_39 : decode cL_law 39 = .ok (.if_icmp .gt 564, 3) := by decide +kernel
theorem dL_law_42 : decode cL_law 42 = .ok (.aload_n 0, 1) := by decide +kernel
theorem dL_law_43 : decode cL_law 43 = .ok (.iload 4, 2) := by decide +kernel
theorem dL_law_45 : decode cL_law 45 = .ok (.iaload, 1) := by decide +kernel
theorem dL_law_46 : decode cL_law 46 = .ok (.bipush 15, 2) := by decide +kernel
theorem dL_law_48 : decode cL_law 48 = .ok (.iand, 1) := by decide +kernel
theorem dL_law_49 : decode cL_law 49 = .ok (.tableswitch 548 0 15 #[79, 92, 161, 198, 211, 236, 271, 296, 333, 358, 398, 435, 448, 473, 498, 523], 79) := by decide +kernel
theorem dL_law_128 : decode cL_law 128 = .ok (.aload_n 1, 1) := by decide +kernel
theorem dL_law_129 : decode cL_law 129 = .ok (.invokevirtual 27, 3) := by decide +kernel
theorem dL_law_132 : decode cL_law 132 = .ok (.pop, 1) := by decide +kernel
theorem dL_law_133 : decode cL_law 133 = .ok (.aload_n 2, 1) := by decide +kernel
theorem dL_law_134 : decode cL_law 134 = .ok (.invokevirtual 31, 3) := by decide +kernel
theorem dL_law_137 : decode cL_law 137 = .ok (.pop, 1) := by decide +kernel
theorem dL_law_138 : decode cL_law 138 = .ok (.goto 459, 3) := by decide +kernel
theorem dL_law_141 : decode cL_law 141 = .ok (.aload_n 1, 1) := by decide +kernel
theorem dL_law_142 : decode cL_law 142 = .ok (.aload_n 0, 1) := by decide +kernel
theorem dL_law_143 : decode cL_law 143 = .ok (.iload 4, 2) := by decide +kernel
theorem dL_law_145 : decode cL_law 145 = .ok (.iconst 1, 1) := by decide +kernel
theorem dL_law_146 : decode cL_law 146 = .ok (.iadd, 1) := by decide +kernel
theorem dL_law_147 : decode cL_law 147 = .ok (.iaload, 1) := by decide +kernel
theorem dL_law_148 : decode cL_law 148 = .ok (.aload_n 0, 1) := by decide +kernel
theorem dL_law_149 : decode cL_law 149 = .ok (.iload 4, 2) := by decide +kernel
theorem dL_law_151 : decode cL_law 151 = .ok (.iconst 2, 1) := by decide +kernel
theorem dL_law_152 : decode cL_law 152 = .ok (.iadd, 1) := by decide +kernel
theorem dL_law_153 : decode cL_law 153 = .ok (.iaload, 1) := by decide +kernel
theorem dL_law_154 : decode cL_law 154 = .ok (.i2l, 1) := by decide +kernel
theorem dL_law_155 : decode cL_law 155 = .ok (.bipush 32, 2) := by decide +kernel
theorem dL_law_157 : decode cL_law 157 = .ok (.lshl, 1) := by decide +kernel
theorem dL_law_158 : decode cL_law 158 = .ok (.aload_n 0, 1) := by decide +kernel
theorem dL_law_159 : decode cL_law 159 = .ok (.iload 4, 2) := by decide +kernel
theorem dL_law_161 : decode cL_law 161 = .ok (.iconst 3, 1) := by decide +kernel
theorem dL_law_162 : decode cL_law 162 = .ok (.iadd, 1) := by decide +kernel
theorem dL_law_163 : decode cL_law 163 = .ok (.iaload, 1) := by decide +kernel
theorem dL_law_164 : decode cL_law 164 = .ok (.i2l, 1) := by decide +kernel
theorem dL_law_165 : decode cL_law 165 = .ok (.ldc2_w 32, 3) := by decide +kernel
theorem dL_law_168 : decode cL_law 168 = .ok (.land, 1) := by decide +kernel
theorem dL_law_169 : decode cL_law 169 = .ok (.lor, 1) := by decide +kernel
theorem dL_law_170 : decode cL_law 170 = .ok (.invokevirtual 34, 3) := by decide +kernel
theorem dL_law_173 : decode cL_law 173 = .ok (.pop, 1) := by decide +kernel
theorem dL_law_174 : decode cL_law 174 = .ok (.aload_n 2, 1) := by decide +kernel
theorem dL_law_175 : decode cL_law 175 = .ok (.aload_n 0, 1) := by decide +kernel
theorem dL_law_176 : decode cL_law 176 = .ok (.iload 4, 2) := by decide +kernel
theorem dL_law_178 : decode cL_law 178 = .ok (.iconst 1, 1) := by decide +kernel
theorem dL_law_179 : decode cL_law 179 = .ok (.iadd, 1) := by decide +kernel
theorem dL_law_180 : decode cL_law 180 = .ok (.iaload, 1) := by decide +kernel
theorem dL_law_181 : decode cL_law 181 = .ok (.aload_n 0, 1) := by decide +kernel
theorem dL_law_182 : decode cL_law 182 = .ok (.iload 4, 2) := by decide +kernel
theorem dL_law_184 : decode cL_law 184 = .ok (.iconst 2, 1) := by decide +kernel
theorem dL_law_185 : decode cL_law 185 = .ok (.iadd, 1) := by decide +kernel
theorem dL_law_186 : decode cL_law 186 = .ok (.iaload, 1) := by decide +kernel
theorem dL_law_187 : decode cL_law 187 = .ok (.i2l, 1) := by decide +kernel
theorem dL_law_188 : decode cL_law 188 = .ok (.bipush 32, 2) := by decide +kernel
theorem dL_law_190 : decode cL_law 190 = .ok (.lshl, 1) := by decide +kernel
theorem dL_law_191 : decode cL_law 191 = .ok (.aload_n 0, 1) := by decide +kernel
theorem dL_law_192 : decode cL_law 192 = .ok (.iload 4, 2) := by decide +kernel
theorem dL_law_194 : decode cL_law 194 = .ok (.iconst 3, 1) := by decide +kernel
theorem dL_law_195 : decode cL_law 195 = .ok (.iadd, 1) := by decide +kernel
theorem dL_law_196 : decode cL_law 196 = .ok (.iaload, 1) := by decide +kernel
theorem dL_law_197 : decode cL_law 197 = .ok (.i2l, 1) := by decide +kernel
theorem dL_law_198 : decode cL_law 198 = .ok (.ldc2_w 32, 3) := by decide +kernel
theorem dL_law_201 : decode cL_law 201 = .ok (.land, 1) := by decide +kernel
theorem dL_law_202 : decode cL_law 202 = .ok (.lor, 1) := by decide +kernel
theorem dL_law_203 : decode cL_law 203 = .ok (.invokevirtual 38, 3) := by decide +kernel
theorem dL_law_206 : decode cL_law 206 = .ok (.pop, 1) := by decide +kernel
theorem dL_law_207 : decode cL_law 207 = .ok (.goto 390, 3) := by decide +kernel
theorem dL_law_210 : decode cL_law 210 = .ok (.aload_n 1, 1) := by decide +kernel
theorem dL_law_211 : decode cL_law 211 = .ok (.aload_n 0, 1) := by decide +kernel
theorem dL_law_212 : decode cL_law 212 = .ok (.iload 4, 2) := by decide +kernel
theorem dL_law_214 : decode cL_law 214 = .ok (.iconst 1, 1) := by decide +kernel
theorem dL_law_215 : decode cL_law 215 = .ok (.iadd, 1) := by decide +kernel
theorem dL_law_216 : decode cL_law 216 = .ok (.iaload, 1) := by decide +kernel
theorem dL_law_217 : decode cL_law 217 = .ok (.aload_n 0, 1) := by decide +kernel
theorem dL_law_218 : decode cL_law 218 = .ok (.iload 4, 2) := by decide +kernel
theorem dL_law_220 : decode cL_law 220 = .ok (.iconst 2, 1) := by decide +kernel
theorem dL_law_221 : decode cL_law 221 = .ok (.iadd, 1) := by decide +kernel
theorem dL_law_222 : decode cL_law 222 = .ok (.iaload, 1) := by decide +kernel
theorem dL_law_223 : decode cL_law 223 = .ok (.invokevirtual 39, 3) := by decide +kernel
theorem dL_law_226 : decode cL_law 226 = .ok (.pop, 1) := by decide +kernel
theorem dL_law_227 : decode cL_law 227 = .ok (.aload_n 2, 1) := by decide +kernel
theorem dL_law_228 : decode cL_law 228 = .ok (.aload_n 0, 1) := by decide +kernel
theorem dL_law_229 : decode cL_law 229 = .ok (.iload 4, 2) := by decide +kernel
theorem dL_law_231 : decode cL_law 231 = .ok (.iconst 1, 1) := by decide +kernel
theorem dL_law_232 : decode cL_law 232 = .ok (.iadd, 1) := by decide +kernel
theorem dL_law_233 : decode cL_law 233 = .ok (.iaload, 1) := by decide +kernel
theorem dL_law_234 : decode cL_law 234 = .ok (.aload_n 0, 1) := by decide +kernel
theorem dL_law_235 : decode cL_law 235 = .ok (.iload 4, 2) := by decide +kernel
theorem dL_law_237 : decode cL_law 237 = .ok (.iconst 2, 1) := by decide +kernel
theorem dL_law_238 : decode cL_law 238 = .ok (.iadd, 1) := by decide +kernel
theorem dL_law_239 : decode cL_law 239 = .ok (.iaload, 1) := by decide +kernel
theorem dL_law_240 : decode cL_law 240 = .ok (.invokevirtual 43, 3) := by decide +kernel
theorem dL_law_243 : decode cL_law 243 = .ok (.pop, 1) := by decide +kernel
theorem dL_law_244 : decode cL_law 244 = .ok (.goto 353, 3) := by decide +kernel
theorem dL_law_247 : decode cL_law 247 = .ok (.aload_n 1, 1) := by decide +kernel
theorem dL_law_248 : decode cL_law 248 = .ok (.invokevirtual 44, 3) := by decide +kernel
theorem dL_law_251 : decode cL_law 251 = .ok (.pop, 1) := by decide +kernel
theorem dL_law_252 : decode cL_law 252 = .ok (.aload_n 2, 1) := by decide +kernel
theorem dL_law_253 : decode cL_law 253 = .ok (.invokevirtual 47, 3) := by decide +kernel
theorem dL_law_256 : decode cL_law 256 = .ok (.pop, 1) := by decide +kernel
theorem dL_law_257 : decode cL_law 257 = .ok (.goto 340, 3) := by decide +kernel
theorem dL_law_260 : decode cL_law 260 = .ok (.aload_n 1, 1) := by decide +kernel
theorem dL_law_261 : decode cL_law 261 = .ok (.aload_n 0, 1) := by decide +kernel
theorem dL_law_262 : decode cL_law 262 = .ok (.iload 4, 2) := by decide +kernel
theorem dL_law_264 : decode cL_law 264 = .ok (.iconst 1, 1) := by decide +kernel
theorem dL_law_265 : decode cL_law 265 = .ok (.iadd, 1) := by decide +kernel
theorem dL_law_266 : decode cL_law 266 = .ok (.iaload, 1) := by decide +kernel
theorem dL_law_267 : decode cL_law 267 = .ok (.invokevirtual 48, 3) := by decide +kernel
theorem dL_law_270 : decode cL_law 270 = .ok (.pop, 1) := by decide +kernel
theorem dL_law_271 : decode cL_law 271 = .ok (.aload_n 2, 1) := by decide +kernel
theorem dL_law_272 : decode cL_law 272 = .ok (.aload_n 0, 1) := by decide +kernel
theorem dL_law_273 : decode cL_law 273 = .ok (.iload 4, 2) := by decide +kernel
theorem dL_law_275 : decode cL_law 275 = .ok (.iconst 1, 1) := by decide +kernel
theorem dL_law_276 : decode cL_law 276 = .ok (.iadd, 1) := by decide +kernel
theorem dL_law_277 : decode cL_law 277 = .ok (.iaload, 1) := by decide +kernel
theorem dL_law_278 : decode cL_law 278 = .ok (.invokevirtual 52, 3) := by decide +kernel
theorem dL_law_281 : decode cL_law 281 = .ok (.pop, 1) := by decide +kernel
theorem dL_law_282 : decode cL_law 282 = .ok (.goto 315, 3) := by decide +kernel
theorem dL_law_285 : decode cL_law 285 = .ok (.aload_n 1, 1) := by decide +kernel
theorem dL_law_286 : decode cL_law 286 = .ok (.aload_n 0, 1) := by decide +kernel
theorem dL_law_287 : decode cL_law 287 = .ok (.iload 4, 2) := by decide +kernel
theorem dL_law_289 : decode cL_law 289 = .ok (.iconst 1, 1) := by decide +kernel
theorem dL_law_290 : decode cL_law 290 = .ok (.iadd, 1) := by decide +kernel
theorem dL_law_291 : decode cL_law 291 = .ok (.iaload, 1) := by decide +kernel
theorem dL_law_292 : decode cL_law 292 = .ok (.aload_n 0, 1) := by decide +kernel
theorem dL_law_293 : decode cL_law 293 = .ok (.iload 4, 2) := by decide +kernel
theorem dL_law_295 : decode cL_law 295 = .ok (.iconst 2, 1) := by decide +kernel
theorem dL_law_296 : decode cL_law 296 = .ok (.iadd, 1) := by decide +kernel
theorem dL_law_297 : decode cL_law 297 = .ok (.iaload, 1) := by decide +kernel
theorem dL_law_298 : decode cL_law 298 = .ok (.invokevirtual 53, 3) := by decide +kernel
theorem dL_law_301 : decode cL_law 301 = .ok (.aload_n 2, 1) := by decide +kernel
theorem dL_law_302 : decode cL_law 302 = .ok (.aload_n 0, 1) := by decide +kernel
theorem dL_law_303 : decode cL_law 303 = .ok (.iload 4, 2) := by decide +kernel
theorem dL_law_305 : decode cL_law 305 = .ok (.iconst 1, 1) := by decide +kernel
theorem dL_law_306 : decode cL_law 306 = .ok (.iadd, 1) := by decide +kernel
theorem dL_law_307 : decode cL_law 307 = .ok (.iaload, 1) := by decide +kernel
theorem dL_law_308 : decode cL_law 308 = .ok (.aload_n 0, 1) := by decide +kernel
theorem dL_law_309 : decode cL_law 309 = .ok (.iload 4, 2) := by decide +kernel
theorem dL_law_311 : decode cL_law 311 = .ok (.iconst 2, 1) := by decide +kernel
theorem dL_law_312 : decode cL_law 312 = .ok (.iadd, 1) := by decide +kernel
theorem dL_law_313 : decode cL_law 313 = .ok (.iaload, 1) := by decide +kernel
theorem dL_law_314 : decode cL_law 314 = .ok (.invokevirtual 57, 3) := by decide +kernel
theorem dL_law_317 : decode cL_law 317 = .ok (.goto 280, 3) := by decide +kernel
theorem dL_law_320 : decode cL_law 320 = .ok (.aload_n 1, 1) := by decide +kernel
theorem dL_law_321 : decode cL_law 321 = .ok (.aload_n 0, 1) := by decide +kernel
theorem dL_law_322 : decode cL_law 322 = .ok (.iload 4, 2) := by decide +kernel
theorem dL_law_324 : decode cL_law 324 = .ok (.iconst 1, 1) := by decide +kernel
theorem dL_law_325 : decode cL_law 325 = .ok (.iadd, 1) := by decide +kernel
theorem dL_law_326 : decode cL_law 326 = .ok (.iaload, 1) := by decide +kernel
theorem dL_law_327 : decode cL_law 327 = .ok (.invokevirtual 58, 3) := by decide +kernel
theorem dL_law_330 : decode cL_law 330 = .ok (.pop2, 1) := by decide +kernel
theorem dL_law_331 : decode cL_law 331 = .ok (.aload_n 2, 1) := by decide +kernel
theorem dL_law_332 : decode cL_law 332 = .ok (.aload_n 0, 1) := by decide +kernel
theorem dL_law_333 : decode cL_law 333 = .ok (.iload 4, 2) := by decide +kernel
theorem dL_law_335 : decode cL_law 335 = .ok (.iconst 1, 1) := by decide +kernel
theorem dL_law_336 : decode cL_law 336 = .ok (.iadd, 1) := by decide +kernel
theorem dL_law_337 : decode cL_law 337 = .ok (.iaload, 1) := by decide +kernel
theorem dL_law_338 : decode cL_law 338 = .ok (.invokevirtual 62, 3) := by decide +kernel
theorem dL_law_341 : decode cL_law 341 = .ok (.pop2, 1) := by decide +kernel
theorem dL_law_342 : decode cL_law 342 = .ok (.goto 255, 3) := by decide +kernel
theorem dL_law_345 : decode cL_law 345 = .ok (.aload_n 1, 1) := by decide +kernel
theorem dL_law_346 : decode cL_law 346 = .ok (.aload_n 0, 1) := by decide +kernel
theorem dL_law_347 : decode cL_law 347 = .ok (.iload 4, 2) := by decide +kernel
theorem dL_law_349 : decode cL_law 349 = .ok (.iconst 1, 1) := by decide +kernel
theorem dL_law_350 : decode cL_law 350 = .ok (.iadd, 1) := by decide +kernel
theorem dL_law_351 : decode cL_law 351 = .ok (.iaload, 1) := by decide +kernel
theorem dL_law_352 : decode cL_law 352 = .ok (.aload_n 0, 1) := by decide +kernel
theorem dL_law_353 : decode cL_law 353 = .ok (.iload 4, 2) := by decide +kernel
theorem dL_law_355 : decode cL_law 355 = .ok (.iconst 2, 1) := by decide +kernel
theorem dL_law_356 : decode cL_law 356 = .ok (.iadd, 1) := by decide +kernel
theorem dL_law_357 : decode cL_law 357 = .ok (.iaload, 1) := by decide +kernel
theorem dL_law_358 : decode cL_law 358 = .ok (.invokevirtual 63, 3) := by decide +kernel
theorem dL_law_361 : decode cL_law 361 = .ok (.pop, 1) := by decide +kernel
theorem dL_law_362 : decode cL_law 362 = .ok (.aload_n 2, 1) := by decide +kernel
theorem dL_law_363 : decode cL_law 363 = .ok (.aload_n 0, 1) := by decide +kernel
theorem dL_law_364 : decode cL_law 364 = .ok (.iload 4, 2) := by decide +kernel
theorem dL_law_366 : decode cL_law 366 = .ok (.iconst 1, 1) := by decide +kernel
theorem dL_law_367 : decode cL_law 367 = .ok (.iadd, 1) := by decide +kernel
theorem dL_law_368 : decode cL_law 368 = .ok (.iaload, 1) := by decide +kernel
theorem dL_law_369 : decode cL_law 369 = .ok (.aload_n 0, 1) := by decide +kernel
theorem dL_law_370 : decode cL_law 370 = .ok (.iload 4, 2) := by decide +kernel
theorem dL_law_372 : decode cL_law 372 = .ok (.iconst 2, 1) := by decide +kernel
theorem dL_law_373 : decode cL_law 373 = .ok (.iadd, 1) := by decide +kernel
theorem dL_law_374 : decode cL_law 374 = .ok (.iaload, 1) := by decide +kernel
theorem dL_law_375 : decode cL_law 375 = .ok (.invokevirtual 66, 3) := by decide +kernel
theorem dL_law_378 : decode cL_law 378 = .ok (.pop, 1) := by decide +kernel
theorem dL_law_379 : decode cL_law 379 = .ok (.goto 218, 3) := by decide +kernel
theorem dL_law_382 : decode cL_law 382 = .ok (.aload_n 1, 1) := by decide +kernel
theorem dL_law_383 : decode cL_law 383 = .ok (.aload_n 0, 1) := by decide +kernel
theorem dL_law_384 : decode cL_law 384 = .ok (.iload 4, 2) := by decide +kernel
theorem dL_law_386 : decode cL_law 386 = .ok (.iconst 1, 1) := by decide +kernel
theorem dL_law_387 : decode cL_law 387 = .ok (.iadd, 1) := by decide +kernel
theorem dL_law_388 : decode cL_law 388 = .ok (.iaload, 1) := by decide +kernel
theorem dL_law_389 : decode cL_law 389 = .ok (.invokevirtual 67, 3) := by decide +kernel
theorem dL_law_392 : decode cL_law 392 = .ok (.pop, 1) := by decide +kernel
theorem dL_law_393 : decode cL_law 393 = .ok (.aload_n 2, 1) := by decide +kernel
theorem dL_law_394 : decode cL_law 394 = .ok (.aload_n 0, 1) := by decide +kernel
theorem dL_law_395 : decode cL_law 395 = .ok (.iload 4, 2) := by decide +kernel
theorem dL_law_397 : decode cL_law 397 = .ok (.iconst 1, 1) := by decide +kernel
theorem dL_law_398 : decode cL_law 398 = .ok (.iadd, 1) := by decide +kernel
theorem dL_law_399 : decode cL_law 399 = .ok (.iaload, 1) := by decide +kernel
theorem dL_law_400 : decode cL_law 400 = .ok (.invokevirtual 71, 3) := by decide +kernel
theorem dL_law_403 : decode cL_law 403 = .ok (.pop, 1) := by decide +kernel
theorem dL_law_404 : decode cL_law 404 = .ok (.goto 193, 3) := by decide +kernel
theorem dL_law_407 : decode cL_law 407 = .ok (.aload_n 1, 1) := by decide +kernel
theorem dL_law_408 : decode cL_law 408 = .ok (.aload_n 0, 1) := by decide +kernel
theorem dL_law_409 : decode cL_law 409 = .ok (.iload 4, 2) := by decide +kernel
theorem dL_law_411 : decode cL_law 411 = .ok (.iconst 1, 1) := by decide +kernel
theorem dL_law_412 : decode cL_law 412 = .ok (.iadd, 1) := by decide +kernel
theorem dL_law_413 : decode cL_law 413 = .ok (.iaload, 1) := by decide +kernel
theorem dL_law_414 : decode cL_law 414 = .ok (.aload_n 0, 1) := by decide +kernel
theorem dL_law_415 : decode cL_law 415 = .ok (.iload 4, 2) := by decide +kernel
theorem dL_law_417 : decode cL_law 417 = .ok (.iconst 2, 1) := by decide +kernel
theorem dL_law_418 : decode cL_law 418 = .ok (.iadd, 1) := by decide +kernel
theorem dL_law_419 : decode cL_law 419 = .ok (.iaload, 1) := by decide +kernel
theorem dL_law_420 : decode cL_law 420 = .ok (.aload_n 3, 1) := by decide +kernel
theorem dL_law_421 : decode cL_law 421 = .ok (.invokestatic 72, 3) := by decide +kernel
theorem dL_law_424 : decode cL_law 424 = .ok (.istore 5, 2) := by decide +kernel
theorem dL_law_426 : decode cL_law 426 = .ok (.aload_n 2, 1) := by decide +kernel
theorem dL_law_427 : decode cL_law 427 = .ok (.aload_n 0, 1) := by decide +kernel
theorem dL_law_428 : decode cL_law 428 = .ok (.iload 4, 2) := by decide +kernel
theorem dL_law_430 : decode cL_law 430 = .ok (.iconst 1, 1) := by decide +kernel
theorem dL_law_431 : decode cL_law 431 = .ok (.iadd, 1) := by decide +kernel
theorem dL_law_432 : decode cL_law 432 = .ok (.iaload, 1) := by decide +kernel
theorem dL_law_433 : decode cL_law 433 = .ok (.aload_n 0, 1) := by decide +kernel
theorem dL_law_434 : decode cL_law 434 = .ok (.iload 4, 2) := by decide +kernel
theorem dL_law_436 : decode cL_law 436 = .ok (.iconst 2, 1) := by decide +kernel
theorem dL_law_437 : decode cL_law 437 = .ok (.iadd, 1) := by decide +kernel
theorem dL_law_438 : decode cL_law 438 = .ok (.iaload, 1) := by decide +kernel
theorem dL_law_439 : decode cL_law 439 = .ok (.invokevirtual 75, 3) := by decide +kernel
theorem dL_law_442 : decode cL_law 442 = .ok (.istore 6, 2) := by decide +kernel
theorem dL_law_444 : decode cL_law 444 = .ok (.goto 153, 3) := by decide +kernel
theorem dL_law_447 : decode cL_law 447 = .ok (.aload_n 1, 1) := by decide +kernel
theorem dL_law_448 : decode cL_law 448 = .ok (.aload_n 0, 1) := by decide +kernel
theorem dL_law_449 : decode cL_law 449 = .ok (.iload 4, 2) := by decide +kernel
theorem dL_law_451 : decode cL_law 451 = .ok (.iconst 1, 1) := by decide +kernel
theorem dL_law_452 : decode cL_law 452 = .ok (.iadd, 1) := by decide +kernel
theorem dL_law_453 : decode cL_law 453 = .ok (.iaload, 1) := by decide +kernel
theorem dL_law_454 : decode cL_law 454 = .ok (.aload_n 0, 1) := by decide +kernel
theorem dL_law_455 : decode cL_law 455 = .ok (.iload 4, 2) := by decide +kernel
theorem dL_law_457 : decode cL_law 457 = .ok (.iconst 2, 1) := by decide +kernel
theorem dL_law_458 : decode cL_law 458 = .ok (.iadd, 1) := by decide +kernel
theorem dL_law_459 : decode cL_law 459 = .ok (.iaload, 1) := by decide +kernel
theorem dL_law_460 : decode cL_law 460 = .ok (.invokevirtual 76, 3) := by decide +kernel
theorem dL_law_463 : decode cL_law 463 = .ok (.aload_n 2, 1) := by decide +kernel
theorem dL_law_464 : decode cL_law 464 = .ok (.aload_n 0, 1) := by decide +kernel
theorem dL_law_465 : decode cL_law 465 = .ok (.iload 4, 2) := by decide +kernel
theorem dL_law_467 : decode cL_law 467 = .ok (.iconst 1, 1) := by decide +kernel
theorem dL_law_468 : decode cL_law 468 = .ok (.iadd, 1) := by decide +kernel
theorem dL_law_469 : decode cL_law 469 = .ok (.iaload, 1) := by decide +kernel
theorem dL_law_470 : decode cL_law 470 = .ok (.aload_n 0, 1) := by decide +kernel
theorem dL_law_471 : decode cL_law 471 = .ok (.iload 4, 2) := by decide +kernel
theorem dL_law_473 : decode cL_law 473 = .ok (.iconst 2, 1) := by decide +kernel
theorem dL_law_474 : decode cL_law 474 = .ok (.iadd, 1) := by decide +kernel
theorem dL_law_475 : decode cL_law 475 = .ok (.iaload, 1) := by decide +kernel
theorem dL_law_476 : decode cL_law 476 = .ok (.invokevirtual 79, 3) := by decide +kernel
theorem dL_law_479 : decode cL_law 479 = .ok (.if_icmp .eq 118, 3) := by decide +kernel
theorem dL_law_482 : decode cL_law 482 = .ok (.iconst 0, 1) := by decide +kernel
theorem dL_law_483 : decode cL_law 483 = .ok (.ireturn, 1) := by decide +kernel
theorem dL_law_484 : decode cL_law 484 = .ok (.aload_n 1, 1) := by decide +kernel
theorem dL_law_485 : decode cL_law 485 = .ok (.invokevirtual 80, 3) := by decide +kernel
theorem dL_law_488 : decode cL_law 488 = .ok (.pop, 1) := by decide +kernel
theorem dL_law_489 : decode cL_law 489 = .ok (.aload_n 2, 1) := by decide +kernel
theorem dL_law_490 : decode cL_law 490 = .ok (.invokevirtual 83, 3) := by decide +kernel
theorem dL_law_493 : decode cL_law 493 = .ok (.pop, 1) := by decide +kernel
theorem dL_law_494 : decode cL_law 494 = .ok (.goto 103, 3) := by decide +kernel
theorem dL_law_497 : decode cL_law 497 = .ok (.aload_n 1, 1) := by decide +kernel
theorem dL_law_498 : decode cL_law 498 = .ok (.aload_n 0, 1) := by decide +kernel
theorem dL_law_499 : decode cL_law 499 = .ok (.iload 4, 2) := by decide +kernel
theorem dL_law_501 : decode cL_law 501 = .ok (.iconst 1, 1) := by decide +kernel
theorem dL_law_502 : decode cL_law 502 = .ok (.iadd, 1) := by decide +kernel
theorem dL_law_503 : decode cL_law 503 = .ok (.iaload, 1) := by decide +kernel
theorem dL_law_504 : decode cL_law 504 = .ok (.invokevirtual 84, 3) := by decide +kernel
theorem dL_law_507 : decode cL_law 507 = .ok (.pop, 1) := by decide +kernel
theorem dL_law_508 : decode cL_law 508 = .ok (.aload_n 2, 1) := by decide +kernel
theorem dL_law_509 : decode cL_law 509 = .ok (.aload_n 0, 1) := by decide +kernel
theorem dL_law_510 : decode cL_law 510 = .ok (.iload 4, 2) := by decide +kernel
theorem dL_law_512 : decode cL_law 512 = .ok (.iconst 1, 1) := by decide +kernel
theorem dL_law_513 : decode cL_law 513 = .ok (.iadd, 1) := by decide +kernel
theorem dL_law_514 : decode cL_law 514 = .ok (.iaload, 1) := by decide +kernel
theorem dL_law_515 : decode cL_law 515 = .ok (.invokevirtual 87, 3) := by decide +kernel
theorem dL_law_518 : decode cL_law 518 = .ok (.pop, 1) := by decide +kernel
theorem dL_law_519 : decode cL_law 519 = .ok (.goto 78, 3) := by decide +kernel
theorem dL_law_522 : decode cL_law 522 = .ok (.aload_n 1, 1) := by decide +kernel
theorem dL_law_523 : decode cL_law 523 = .ok (.aload_n 0, 1) := by decide +kernel
theorem dL_law_524 : decode cL_law 524 = .ok (.iload 4, 2) := by decide +kernel
theorem dL_law_526 : decode cL_law 526 = .ok (.iconst 1, 1) := by decide +kernel
theorem dL_law_527 : decode cL_law 527 = .ok (.iadd, 1) := by decide +kernel
theorem dL_law_528 : decode cL_law 528 = .ok (.iaload, 1) := by decide +kernel
theorem dL_law_529 : decode cL_law 529 = .ok (.invokevirtual 88, 3) := by decide +kernel
theorem dL_law_532 : decode cL_law 532 = .ok (.pop, 1) := by decide +kernel
theorem dL_law_533 : decode cL_law 533 = .ok (.aload_n 2, 1) := by decide +kernel
theorem dL_law_534 : decode cL_law 534 = .ok (.aload_n 0, 1) := by decide +kernel
theorem dL_law_535 : decode cL_law 535 = .ok (.iload 4, 2) := by decide +kernel
theorem dL_law_537 : decode cL_law 537 = .ok (.iconst 1, 1) := by decide +kernel
theorem dL_law_538 : decode cL_law 538 = .ok (.iadd, 1) := by decide +kernel
theorem dL_law_539 : decode cL_law 539 = .ok (.iaload, 1) := by decide +kernel
theorem dL_law_540 : decode cL_law 540 = .ok (.invokevirtual 91, 3) := by decide +kernel
theorem dL_law_543 : decode cL_law 543 = .ok (.pop, 1) := by decide +kernel
theorem dL_law_544 : decode cL_law 544 = .ok (.goto 53, 3) := by decide +kernel
theorem dL_law_547 : decode cL_law 547 = .ok (.aload_n 1, 1) := by decide +kernel
theorem dL_law_548 : decode cL_law 548 = .ok (.aload_n 0, 1) := by decide +kernel
theorem dL_law_549 : decode cL_law 549 = .ok (.iload 4, 2) := by decide +kernel
theorem dL_law_551 : decode cL_law 551 = .ok (.iconst 1, 1) := by decide +kernel
theorem dL_law_552 : decode cL_law 552 = .ok (.iadd, 1) := by decide +kernel
theorem dL_law_553 : decode cL_law 553 = .ok (.iaload, 1) := by decide +kernel
theorem dL_law_554 : decode cL_law 554 = .ok (.invokevirtual 92, 3) := by decide +kernel
theorem dL_law_557 : decode cL_law 557 = .ok (.pop, 1) := by decide +kernel
theorem dL_law_558 : decode cL_law 558 = .ok (.aload_n 2, 1) := by decide +kernel
theorem dL_law_559 : decode cL_law 559 = .ok (.aload_n 0, 1) := by decide +kernel
theorem dL_law_560 : decode cL_law 560 = .ok (.iload 4, 2) := by decide +kernel
theorem dL_law_562 : decode cL_law 562 = .ok (.iconst 1, 1) := by decide +kernel
theorem dL_law_563 : decode cL_law 563 = .ok (.iadd, 1) := by decide +kernel
theorem dL_law_564 : decode cL_law 564 = .ok (.iaload, 1) := by decide +kernel
theorem dL_law_565 : decode cL_law 565 = .ok (.invokevirtual 95, 3) := by decide +kernel
theorem dL_law_568 : decode cL_law 568 = .ok (.pop, 1) := by decide +kernel
theorem dL_law_569 : decode cL_law 569 = .ok (.goto 28, 3) := by decide +kernel
theorem dL_law_572 : decode cL_law 572 = .ok (.aload_n 1, 1) := by decide +kernel
theorem dL_law_573 : decode cL_law 573 = .ok (.aload_n 0, 1) := by decide +kernel
theorem dL_law_574 : decode cL_law 574 = .ok (.iload 4, 2) := by decide +kernel
theorem dL_law_576 : decode cL_law 576 = .ok (.iconst 1, 1) := by decide +kernel
theorem dL_law_577 : decode cL_law 577 = .ok (.iadd, 1) := by decide +kernel
theorem dL_law_578 : decode cL_law 578 = .ok (.iaload, 1) := by decide +kernel
theorem dL_law_579 : decode cL_law 579 = .ok (.invokevirtual 96, 3) := by decide +kernel
theorem dL_law_582 : decode cL_law 582 = .ok (.pop, 1) := by decide +kernel
theorem dL_law_583 : decode cL_law 583 = .ok (.aload_n 2, 1) := by decide +kernel
theorem dL_law_584 : decode cL_law 584 = .ok (.aload_n 0, 1) := by decide +kernel
theorem dL_law_585 : decode cL_law 585 = .ok (.iload 4, 2) := by decide +kernel
theorem dL_law_587 : decode cL_law 587 = .ok (.iconst 1, 1) := by decide +kernel
theorem dL_law_588 : decode cL_law 588 = .ok (.iadd, 1) := by decide +kernel
theorem dL_law_589 : decode cL_law 589 = .ok (.iaload, 1) := by decide +kernel
theorem dL_law_590 : decode cL_law 590 = .ok (.invokevirtual 99, 3) := by decide +kernel
theorem dL_law_593 : decode cL_law 593 = .ok (.pop, 1) := by decide +kernel
theorem dL_law_594 : decode cL_law 594 = .ok (.goto 3, 3) := by decide +kernel
theorem dL_law_597 : decode cL_law 597 = .ok (.iinc 4 4, 3) := by decide +kernel
theorem dL_law_600 : decode cL_law 600 = .ok (.goto (-567), 3) := by decide +kernel
theorem dL_law_603 : decode cL_law 603 = .ok (.iconst 1, 1) := by decide +kernel
theorem dL_law_604 : decode cL_law 604 = .ok (.ireturn, 1) := by decide +kernel
