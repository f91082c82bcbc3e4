theorem dLa_put_0 : decode cLa_put 0 = .ok (.aload_n 3, 1) := by decide +kernel
theorem dLa_put_1 : decode cLa_put 1 = .ok (.iconst 0, 1) := by decide +kernel
theorem dLa_put_2 : decode cLa_put 2 = .ok (.aload_n 0, 1) := by decide +kernel
theorem dLa_put_3 : decode cLa_put 3 = .ok (.lload_n 1, 1) := by decide +kernel
theorem dLa_put_4 : decode cLa_put 4 = .ok (.invokevirtual 7, 3) := by decide +kernel
theorem dLa_put_7 : decode cLa_put 7 = .ok (.i2l, 1) := by decide +kernel
theorem dLa_put_8 : decode cLa_put 8 = .ok (.lastore, 1) := by decide +kernel
theorem dLa_put_9 : decode cLa_put 9 = .ok (.goto 7, 3) := by decide +kernel
theorem dLa_put_12 : decode cLa_put 12 = .ok (.astore 4, 2) := by decide +kernel
theorem dLa_put_14 : decode cLa_put 14 = .ok (.iconst 1, 1) := by decide +kernel
theorem dLa_put_15 : decode cLa_put 15 = .ok (.ireturn, 1) := by decide +kernel
theorem dLa_put_16 : decode cLa_put 16 = .ok (.iconst 0, 1) := by decide +kernel
theorem dLa_put_17 : decode cLa_put 17 = .ok (.ireturn, 1) := by decide +kernel
theorem dLa_fill_0 : decode cLa_fill 0 = .ok (.aload 6, 2) := by decide +kernel
theorem dLa_fill_2 : decode cLa_fill 2 = .ok (.iconst 0, 1) := by decide +kernel
theorem dLa_fill_3 : decode cLa_fill 3 = .ok (.aload_n 0, 1) := by decide +kernel
theorem dLa_fill_4 : decode cLa_fill 4 = .ok (.lload_n 1, 1) := by decide +kernel
theorem dLa_fill_5 : decode cLa_fill 5 = .ok (.lload_n 3, 1) := by decide +kernel
theorem dLa_fill_6 : decode cLa_fill 6 = .ok (.iload 5, 2) := by decide +kernel
theorem dLa_fill_8 : decode cLa_fill 8 = .ok (.invokevirtual 15, 3) := by decide +kernel
theorem dLa_fill_11 : decode cLa_fill 11 = .ok (.i2l, 1) := by decide +kernel
theorem dLa_fill_12 : decode cLa_fill 12 = .ok (.lastore, 1) := by decide +kernel
theorem dLa_fill_13 : decode cLa_fill 13 = .ok (.goto 11, 3) := by decide +kernel
theorem dLa_fill_16 : decode cLa_fill 16 = .ok (.astore 7, 2) := by decide +kernel
theorem dLa_fill_18 : decode cLa_fill 18 = .ok (.iconst 1, 1) := by decide +kernel
theorem dLa_fill_19 : decode cLa_fill 19 = .ok (.ireturn, 1) := by decide +kernel
theorem dLa_fill_20 : decode cLa_fill 20 = .ok (.astore 7, 2) := by decide +kernel
theorem dLa_fill_22 : decode cLa_fill 22 = .ok (.iconst 2, 1) := by decide +kernel
theorem dLa_fill_23 : decode cLa_fill 23 = .ok (.ireturn, 1) := by decide +kernel
theorem dLa_fill_24 : decode cLa_fill 24 = .ok (.iconst 0, 1) := by decide +kernel
theorem dLa_fill_25 : decode cLa_fill 25 = .ok (.ireturn, 1) := by decide +kernel
theorem dLa_weight_0 : decode cLa_weight 0 = .ok (.aload_n 2, 1) := by decide +kernel
theorem dLa_weight_1 : decode cLa_weight 1 = .ok (.iconst 0, 1) := by decide +kernel
theorem dLa_weight_2 : decode cLa_weight 2 = .ok (.aload_n 0, 1) := by decide +kernel
theorem dLa_weight_3 : decode cLa_weight 3 = .ok (.iload_n 1, 1) := by decide +kernel
theorem dLa_weight_4 : decode cLa_weight 4 = .ok (.invokevirtual 21, 3) := by decide +kernel
theorem dLa_weight_7 : decode cLa_weight 7 = .ok (.i2l, 1) := by decide +kernel
theorem dLa_weight_8 : decode cLa_weight 8 = .ok (.lastore, 1) := by decide +kernel
theorem dLa_weight_9 : decode cLa_weight 9 = .ok (.goto 9, 3) := by decide +kernel
theorem dLa_weight_12 : decode cLa_weight 12 = .ok (.astore_n 3, 1) := by decide +kernel
theorem dLa_weight_13 : decode cLa_weight 13 = .ok (.iconst 1, 1) := by decide +kernel
theorem dLa_weight_14 : decode cLa_weight 14 = .ok (.ireturn, 1) := by decide +kernel
theorem dLa_weight_15 : decode cLa_weight 15 = .ok (.astore_n 3, 1) := by decide +kernel
theorem dLa_weight_16 : decode cLa_weight 16 = .ok (.iconst 2, 1) := by decide +kernel
theorem dLa_weight_17 : decode cLa_weight 17 = .ok (.ireturn, 1) := by decide +kernel
theorem dLa_weight_18 : decode cLa_weight 18 = .ok (.iconst 0, 1) := by decide +kernel
theorem dLa_weight_19 : decode cLa_weight 19 = .ok (.ireturn, 1) := by decide +kernel
theorem dLa_write_0 : decode cLa_write 0 = .ok (.aload_n 1, 1) := by decide +kernel
theorem dLa_write_1 : decode cLa_write 1 = .ok (.iconst 0, 1) := by decide +kernel
theorem dLa_write_2 : decode cLa_write 2 = .ok (.aload_n 0, 1) := by decide +kernel
theorem dLa_write_3 : decode cLa_write 3 = .ok (.invokevirtual 25, 3) := by decide +kernel
theorem dLa_write_6 : decode cLa_write 6 = .ok (.i2l, 1) := by decide +kernel
theorem dLa_write_7 : decode cLa_write 7 = .ok (.lastore, 1) := by decide +kernel
theorem dLa_write_8 : decode cLa_write 8 = .ok (.goto 6, 3) := by decide +kernel
theorem dLa_write_11 : decode cLa_write 11 = .ok (.astore_n 2, 1) := by decide +kernel
theorem dLa_write_12 : decode cLa_write 12 = .ok (.iconst 1, 1) := by decide +kernel
theorem dLa_write_13 : decode cLa_write 13 = .ok (.ireturn, 1) := by decide +kernel
theorem dLa_write_14 : decode cLa_write 14 = .ok (.iconst 0, 1) := by decide +kernel
theorem dLa_write_15 : decode cLa_write 15 = .ok (.ireturn, 1) := by decide +kernel
theorem dLa_writeAs_0 : decode cLa_writeAs 0 = .ok (.aload_n 2, 1) := by decide +kernel
theorem dLa_writeAs_1 : decode cLa_writeAs 1 = .ok (.iconst 0, 1) := by decide +kernel
theorem dLa_writeAs_2 : decode cLa_writeAs 2 = .ok (.aload_n 0, 1) := by decide +kernel
theorem dLa_writeAs_3 : decode cLa_writeAs 3 = .ok (.iload_n 1, 1) := by decide +kernel
theorem dLa_writeAs_4 : decode cLa_writeAs 4 = .ok (.invokevirtual 29, 3) := by decide +kernel
theorem dLa_writeAs_7 : decode cLa_writeAs 7 = .ok (.i2l, 1) := by decide +kernel
theorem dLa_writeAs_8 : decode cLa_writeAs 8 = .ok (.lastore, 1) := by decide +kernel
theorem dLa_writeAs_9 : decode cLa_writeAs 9 = .ok (.goto 9, 3) := by decide +kernel
theorem dLa_writeAs_12 : decode cLa_writeAs 12 = .ok (.astore_n 3, 1) := by decide +kernel
theorem dLa_writeAs_13 : decode cLa_writeAs 13 = .ok (.iconst 1, 1) := by decide +kernel
theorem dLa_writeAs_14 : decode cLa_writeAs 14 = .ok (.ireturn, 1) := by decide +kernel
theorem dLa_writeAs_15 : decode cLa_writeAs 15 = .ok (.astore_n 3, 1) := by decide +kernel
theorem dLa_writeAs_16 : decode cLa_writeAs 16 = .ok (.iconst 2, 1) := by decide +kernel
theorem dLa_writeAs_17 : decode cLa_writeAs 17 = .ok (.ireturn, 1) := by decide +kernel
theorem dLa_writeAs_18 : decode cLa_writeAs 18 = .ok (.iconst 0, 1) := by decide +kernel
theorem dLa_writeAs_19 : decode cLa_writeAs 19 = .ok (.ireturn, 1) := by decide +kernel
theorem dLa_byteAt_0 : decode cLa_byteAt 0 = .ok (.aload_n 2, 1) := by decide +kernel
theorem dLa_byteAt_1 : decode cLa_byteAt 1 = .ok (.iconst 0, 1) := by decide +kernel
theorem dLa_byteAt_2 : decode cLa_byteAt 2 = .ok (.aload_n 0, 1) := by decide +kernel
theorem dLa_byteAt_3 : decode cLa_byteAt 3 = .ok (.iload_n 1, 1) := by decide +kernel
theorem dLa_byteAt_4 : decode cLa_byteAt 4 = .ok (.invokevirtual 32, 3) := by decide +kernel
theorem dLa_byteAt_7 : decode cLa_byteAt 7 = .ok (.i2l, 1) := by decide +kernel
theorem dLa_byteAt_8 : decode cLa_byteAt 8 = .ok (.lastore, 1) := by decide +kernel
theorem dLa_byteAt_9 : decode cLa_byteAt 9 = .ok (.goto 6, 3) := by decide +kernel
theorem dLa_byteAt_12 : decode cLa_byteAt 12 = .ok (.astore_n 3, 1) := by decide +kernel
theorem dLa_byteAt_13 : decode cLa_byteAt 13 = .ok (.iconst 1, 1) := by decide +kernel
theorem dLa_byteAt_14 : decode cLa_byteAt 14 = .ok (.ireturn, 1) := by decide +kernel
theorem dLa_byteAt_15 : decode cLa_byteAt 15 = .ok (.iconst 0, 1) := by decide +kernel
theorem dLa_byteAt_16 : decode cLa_byteAt 16 = .ok (.ireturn, 1) := by decide +kernel
theorem dLa_cell_0 : decode cLa_cell 0 = .ok (.aload_n 2, 1) := by decide +kernel
theorem dLa_cell_1 : decode cLa_cell 1 = .ok (.iconst 0, 1) := by decide +kernel
theorem dLa_cell_2 : decode cLa_cell 2 = .ok (.aload_n 0, 1) := by decide +kernel
theorem dLa_cell_3 : decode cLa_cell 3 = .ok (.iload_n 1, 1) := by decide +kernel
theorem dLa_cell_4 : decode cLa_cell 4 = .ok (.invokevirtual 35, 3) := by decide +kernel
theorem dLa_cell_7 : decode cLa_cell 7 = .ok (.lastore, 1) := by decide +kernel
theorem dLa_cell_8 : decode cLa_cell 8 = .ok (.goto 6, 3) := by decide +kernel
theorem dLa_cell_11 : decode cLa_cell 11 = .ok (.astore_n 3, 1) := by decide +kernel
theorem dLa_cell_12 : decode cLa_cell 12 = .ok (.iconst 1, 1) := by decide +kernel
theorem dLa_cell_13 : decode cLa_cell 13 = .ok (.ireturn, 1) := by decide +kernel
theorem dLa_cell_14 : decode cLa_cell 14 = .ok (.iconst 0, 1) := by decide +kernel
theorem dLa_cell_15 : decode cLa_cell 15 = .ok (.ireturn, 1) := by decide +kernel
theorem dLa_count_0 : decode cLa_count 0 = .ok (.aload 4, 2) := by decide +kernel
theorem dLa_count_2 : decode cLa_count 2 = .ok (.iconst 0, 1) := by decide +kernel
theorem dLa_count_3 : decode cLa_count 3 = .ok (.aload_n 0, 1) := by decide +kernel
theorem dLa_count_4 : decode cLa_count 4 = .ok (.iload_n 1, 1) := by decide +kernel
theorem dLa_count_5 : decode cLa_count 5 = .ok (.lload_n 2, 1) := by decide +kernel
theorem dLa_count_6 : decode cLa_count 6 = .ok (.invokevirtual 39, 3) := by decide +kernel
theorem dLa_count_9 : decode cLa_count 9 = .ok (.i2l, 1) := by decide +kernel
theorem dLa_count_10 : decode cLa_count 10 = .ok (.lastore, 1) := by decide +kernel
theorem dLa_count_11 : decode cLa_count 11 = .ok (.goto 11, 3) := by decide +kernel
theorem dLa_count_14 : decode cLa_count 14 = .ok (.astore 5, 2) := by decide +kernel
theorem dLa_count_16 : decode cLa_count 16 = .ok (.iconst 1, 1) := by decide +kernel
theorem dLa_count_17 : decode cLa_count 17 = .ok (.ireturn, 1) := by decide +kernel
theorem dLa_count_18 : decode cLa_count 18 = .ok (.astore 5, 2) := by decide +kernel
theorem dLa_count_20 : decode cLa_count 20 = .ok (.iconst 2, 1) := by decide +kernel
theorem dLa_count_21 : decode cLa_count 21 = .ok (.ireturn, 1) := by decide +kernel
theorem dLa_count_22 : decode cLa_count 22 = .ok (.iconst 0, 1) := by decide +kernel
theorem dLa_count_23 : decode cLa_count 23 = .ok (.ireturn, 1) := by decide +kernel
theorem dLa_sum_0 : decode cLa_sum 0 = .ok (.aload 5, 2) := by decide +kernel
theorem dLa_sum_2 : decode cLa_sum 2 = .ok (.iconst 0, 1) := by decide +kernel
theorem dLa_sum_3 : decode cLa_sum 3 = .ok (.aload_n 0, 1) := by decide +kernel
theorem dLa_sum_4 : decode cLa_sum 4 = .ok (.lload_n 1, 1) := by decide +kernel
theorem dLa_sum_5 : decode cLa_sum 5 = .ok (.lload_n 3, 1) := by decide +kernel
theorem dLa_sum_6 : decode cLa_sum 6 = .ok (.invokevirtual 43, 3) := by decide +kernel
theorem dLa_sum_9 : decode cLa_sum 9 = .ok (.lastore, 1) := by decide +kernel
theorem dLa_sum_10 : decode cLa_sum 10 = .ok (.goto 7, 3) := by decide +kernel
theorem dLa_sum_13 : decode cLa_sum 13 = .ok (.astore 6, 2) := by decide +kernel
theorem dLa_sum_15 : decode cLa_sum 15 = .ok (.iconst 1, 1) := by decide +kernel
theorem dLa_sum_16 : decode cLa_sum 16 = .ok (.ireturn, 1) := by decide +kernel
theorem dLa_sum_17 : decode cLa_sum 17 = .ok (.iconst 0, 1) := by decide +kernel
theorem dLa_sum_18 : decode cLa_sum 18 = .ok (.ireturn, 1) := by decide +kernel
