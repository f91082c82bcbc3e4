theorem dMo_writeIn_161 : decode cMo_writeIn 161 = .ok (.if_icmp .ne 10, 3) := by decide +kernel
theorem dMo_writeIn_164 : decode cMo_writeIn 164 = .ok (.aload_n 0, 1) := by decide +kernel
theorem dMo_writeIn_165 : decode cMo_writeIn 165 = .ok (.invokevirtual 91, 3) := by decide +kernel
theorem dMo_writeIn_168 : decode cMo_writeIn 168 = .ok (.goto 19, 3) := by decide +kernel
theorem dMo_writeIn_171 : decode cMo_writeIn 171 = .ok (.iload_n 1, 1) := by decide +kernel
theorem dMo_writeIn_172 : decode cMo_writeIn 172 = .ok (.iconst 3, 1) := by decide +kernel
theorem dMo_writeIn_173 : decode cMo_writeIn 173 = .ok (.if_icmp .ne 10, 3) := by decide +kernel
theorem dMo_writeIn_176 : decode cMo_writeIn 176 = .ok (.aload_n 0, 1) := by decide +kernel
theorem dMo_writeIn_177 : decode cMo_writeIn 177 = .ok (.invokevirtual 94, 3) := by decide +kernel
theorem dMo_writeIn_180 : decode cMo_writeIn 180 = .ok (.goto 7, 3) := by decide +kernel
theorem dMo_writeIn_183 : decode cMo_writeIn 183 = .ok (.aload_n 0, 1) := by decide +kernel
theorem dMo_writeIn_184 : decode cMo_writeIn 184 = .ok (.invokevirtual 97, 3) := by decide +kernel
theorem dMo_writeIn_187 : decode cMo_writeIn 187 = .ok (.aload_n 0, 1) := by decide +kernel
theorem dMo_writeIn_188 : decode cMo_writeIn 188 = .ok (.getfield 77, 3) := by decide +kernel
theorem dMo_writeIn_191 : decode cMo_writeIn 191 = .ok (.ireturn, 1) := by decide +kernel
theorem dMo_number_0 : decode cMo_number 0 = .ok (.iload_n 3, 1) := by decide +kernel
theorem dMo_number_1 : decode cMo_number 1 = .ok (.iconst 1, 1) := by decide +kernel
theorem dMo_number_2 : decode cMo_number 2 = .ok (.isub, 1) := by decide +kernel
theorem dMo_number_3 : decode cMo_number 3 = .ok (.istore 4, 2) := by decide +kernel
theorem dMo_number_5 : decode cMo_number 5 = .ok (.iload 4, 2) := by decide +kernel
theorem dMo_number_7 : decode cMo_number 7 = .ok (.ifCond .lt 20, 3) := by decide +kernel
theorem dMo_number_10 : decode cMo_number 10 = .ok (.aload_n 0, 1) := by decide +kernel
theorem dMo_number_11 : decode cMo_number 11 = .ok (.lload_n 1, 1) := by decide +kernel
theorem dMo_number_12 : decode cMo_number 12 = .ok (.iload 4, 2) := by decide +kernel
theorem dMo_number_14 : decode cMo_number 14 = .ok (.lshr, 1) := by decide +kernel
theorem dMo_number_15 : decode cMo_number 15 = .ok (.lconst 1, 1) := by decide +kernel
theorem dMo_number_16 : decode cMo_number 16 = .ok (.land, 1) := by decide +kernel
theorem dMo_number_17 : decode cMo_number 17 = .ok (.l2i, 1) := by decide +kernel
theorem dMo_number_18 : decode cMo_number 18 = .ok (.invokevirtual 80, 3) := by decide +kernel
theorem dMo_number_21 : decode cMo_number 21 = .ok (.iinc 4 (-1), 3) := by decide +kernel
theorem dMo_number_24 : decode cMo_number 24 = .ok (.goto (-19), 3) := by decide +kernel
theorem dMo_number_27 : decode cMo_number 27 = .ok (.return_, 1) := by decide +kernel
theorem dMo_bit_0 : decode cMo_bit 0 = .ok (.aload_n 0, 1) := by decide +kernel
theorem dMo_bit_1 : decode cMo_bit 1 = .ok (.getfield 74, 3) := by decide +kernel
theorem dMo_bit_4 : decode cMo_bit 4 = .ok (.ifCond .ne 23, 3) := by decide +kernel
theorem dMo_bit_7 : decode cMo_bit 7 = .ok (.aload_n 0, 1) := by decide +kernel
theorem dMo_bit_8 : decode cMo_bit 8 = .ok (.getfield 20, 3) := by decide +kernel
theorem dMo_bit_11 : decode cMo_bit 11 = .ok (.aload_n 0, 1) := by decide +kernel
theorem dMo_bit_12 : decode cMo_bit 12 = .ok (.getfield 77, 3) := by decide +kernel
theorem dMo_bit_15 : decode cMo_bit 15 = .ok (.iconst 0, 1) := by decide +kernel
theorem dMo_bit_16 : decode cMo_bit 16 = .ok (.iastore, 1) := by decide +kernel
theorem dMo_bit_17 : decode cMo_bit 17 = .ok (.aload_n 0, 1) := by decide +kernel
theorem dMo_bit_18 : decode cMo_bit 18 = .ok (.dup, 1) := by decide +kernel
theorem dMo_bit_19 : decode cMo_bit 19 = .ok (.getfield 77, 3) := by decide +kernel
theorem dMo_bit_22 : decode cMo_bit 22 = .ok (.iconst 1, 1) := by decide +kernel
theorem dMo_bit_23 : decode cMo_bit 23 = .ok (.iadd, 1) := by decide +kernel
theorem dMo_bit_24 : decode cMo_bit 24 = .ok (.putfield 77, 3) := by decide +kernel
theorem dMo_bit_27 : decode cMo_bit 27 = .ok (.aload_n 0, 1) := by decide +kernel
theorem dMo_bit_28 : decode cMo_bit 28 = .ok (.getfield 20, 3) := by decide +kernel
theorem dMo_bit_31 : decode cMo_bit 31 = .ok (.aload_n 0, 1) := by decide +kernel
theorem dMo_bit_32 : decode cMo_bit 32 = .ok (.getfield 77, 3) := by decide +kernel
theorem dMo_bit_35 : decode cMo_bit 35 = .ok (.iconst 1, 1) := by decide +kernel
theorem dMo_bit_36 : decode cMo_bit 36 = .ok (.isub, 1) := by decide +kernel
theorem dMo_bit_37 : decode cMo_bit 37 = .ok (.dup2, 1) := by decide +kernel
theorem dMo_bit_38 : decode cMo_bit 38 = .ok (.iaload, 1) := by decide +kernel
theorem dMo_bit_39 : decode cMo_bit 39 = .ok (.iload_n 1, 1) := by decide +kernel
theorem dMo_bit_40 : decode cMo_bit 40 = .ok (.bipush 7, 2) := by decide +kernel
theorem dMo_bit_42 : decode cMo_bit 42 = .ok (.aload_n 0, 1) := by decide +kernel
theorem dMo_bit_43 : decode cMo_bit 43 = .ok (.getfield 74, 3) := by decide +kernel
theorem dMo_bit_46 : decode cMo_bit 46 = .ok (.isub, 1) := by decide +kernel
theorem dMo_bit_47 : decode cMo_bit 47 = .ok (.ishl, 1) := by decide +kernel
theorem dMo_bit_48 : decode cMo_bit 48 = .ok (.iadd, 1) := by decide +kernel
theorem dMo_bit_49 : decode cMo_bit 49 = .ok (.iastore, 1) := by decide +kernel
theorem dMo_bit_50 : decode cMo_bit 50 = .ok (.aload_n 0, 1) := by decide +kernel
theorem dMo_bit_51 : decode cMo_bit 51 = .ok (.aload_n 0, 1) := by decide +kernel
theorem dMo_bit_52 : decode cMo_bit 52 = .ok (.getfield 74, 3) := by decide +kernel
theorem dMo_bit_55 : decode cMo_bit 55 = .ok (.iconst 1, 1) := by decide +kernel
theorem dMo_bit_56 : decode cMo_bit 56 = .ok (.iadd, 1) := by decide +kernel
theorem dMo_bit_57 : decode cMo_bit 57 = .ok (.bipush 8, 2) := by decide +kernel
theorem dMo_bit_59 : decode cMo_bit 59 = .ok (.irem, 1) := by decide +kernel
theorem dMo_bit_60 : decode cMo_bit 60 = .ok (.putfield 74, 3) := by decide +kernel
theorem dMo_bit_63 : decode cMo_bit 63 = .ok (.return_, 1) := by decide +kernel
theorem dMo_writeList_0 : decode cMo_writeList 0 = .ok (.aload_n 0, 1) := by decide +kernel
theorem dMo_writeList_1 : decode cMo_writeList 1 = .ok (.invokevirtual 58, 3) := by decide +kernel
theorem dMo_writeList_4 : decode cMo_writeList 4 = .ok (.aload_n 0, 1) := by decide +kernel
theorem dMo_writeList_5 : decode cMo_writeList 5 = .ok (.aload_n 0, 1) := by decide +kernel
theorem dMo_writeList_6 : decode cMo_writeList 6 = .ok (.getfield 37, 3) := by decide +kernel
theorem dMo_writeList_9 : decode cMo_writeList 9 = .ok (.i2l, 1) := by decide +kernel
theorem dMo_writeList_10 : decode cMo_writeList 10 = .ok (.bipush 16, 2) := by decide +kernel
theorem dMo_writeList_12 : decode cMo_writeList 12 = .ok (.invokevirtual 84, 3) := by decide +kernel
theorem dMo_writeList_15 : decode cMo_writeList 15 = .ok (.iconst 0, 1) := by decide +kernel
theorem dMo_writeList_16 : decode cMo_writeList 16 = .ok (.istore_n 1, 1) := by decide +kernel
theorem dMo_writeList_17 : decode cMo_writeList 17 = .ok (.iload_n 1, 1) := by decide +kernel
theorem dMo_writeList_18 : decode cMo_writeList 18 = .ok (.aload_n 0, 1) := by decide +kernel
theorem dMo_writeList_19 : decode cMo_writeList 19 = .ok (.getfield 37, 3) := by decide +kernel
theorem dMo_writeList_22 : decode cMo_writeList 22 = .ok (.if_icmp .ge 21, 3) := by decide +kernel
theorem dMo_writeList_25 : decode cMo_writeList 25 = .ok (.aload_n 0, 1) := by decide +kernel
theorem dMo_writeList_26 : decode cMo_writeList 26 = .ok (.aload_n 0, 1) := by decide +kernel
theorem dMo_writeList_27 : decode cMo_writeList 27 = .ok (.getfield 24, 3) := by decide +kernel
theorem dMo_writeList_30 : decode cMo_writeList 30 = .ok (.iload_n 1, 1) := by decide +kernel
theorem dMo_writeList_31 : decode cMo_writeList 31 = .ok (.laload, 1) := by decide +kernel
theorem dMo_writeList_32 : decode cMo_writeList 32 = .ok (.bipush 64, 2) := by decide +kernel
theorem dMo_writeList_34 : decode cMo_writeList 34 = .ok (.invokevirtual 84, 3) := by decide +kernel
theorem dMo_writeList_37 : decode cMo_writeList 37 = .ok (.iinc 1 1, 3) := by decide +kernel
theorem dMo_writeList_40 : decode cMo_writeList 40 = .ok (.goto (-23), 3) := by decide +kernel
theorem dMo_writeList_43 : decode cMo_writeList 43 = .ok (.aload_n 0, 1) := by decide +kernel
theorem dMo_writeList_44 : decode cMo_writeList 44 = .ok (.getfield 37, 3) := by decide +kernel
theorem dMo_writeList_47 : decode cMo_writeList 47 = .ok (.iconst 1, 1) := by decide +kernel
theorem dMo_writeList_48 : decode cMo_writeList 48 = .ok (.isub, 1) := by decide +kernel
theorem dMo_writeList_49 : decode cMo_writeList 49 = .ok (.i2l, 1) := by decide +kernel
theorem dMo_writeList_50 : decode cMo_writeList 50 = .ok (.invokestatic 51, 3) := by decide +kernel
theorem dMo_writeList_53 : decode cMo_writeList 53 = .ok (.istore_n 1, 1) := by decide +kernel
theorem dMo_writeList_54 : decode cMo_writeList 54 = .ok (.iconst 0, 1) := by decide +kernel
theorem dMo_writeList_55 : decode cMo_writeList 55 = .ok (.istore_n 2, 1) := by decide +kernel
theorem dMo_writeList_56 : decode cMo_writeList 56 = .ok (.iload_n 2, 1) := by decide +kernel
theorem dMo_writeList_57 : decode cMo_writeList 57 = .ok (.aload_n 0, 1) := by decide +kernel
theorem dMo_writeList_58 : decode cMo_writeList 58 = .ok (.getfield 30, 3) := by decide +kernel
theorem dMo_writeList_61 : decode cMo_writeList 61 = .ok (.if_icmp .ge 25, 3) := by decide +kernel
theorem dMo_writeList_64 : decode cMo_writeList 64 = .ok (.aload_n 0, 1) := by decide +kernel
theorem dMo_writeList_65 : decode cMo_writeList 65 = .ok (.aload_n 0, 1) := by decide +kernel
theorem dMo_writeList_66 : decode cMo_writeList 66 = .ok (.aload_n 0, 1) := by decide +kernel
theorem dMo_writeList_67 : decode cMo_writeList 67 = .ok (.getfield 7, 3) := by decide +kernel
theorem dMo_writeList_70 : decode cMo_writeList 70 = .ok (.iload_n 2, 1) := by decide +kernel
theorem dMo_writeList_71 : decode cMo_writeList 71 = .ok (.laload, 1) := by decide +kernel
theorem dMo_writeList_72 : decode cMo_writeList 72 = .ok (.invokevirtual 40, 3) := by decide +kernel
theorem dMo_writeList_75 : decode cMo_writeList 75 = .ok (.i2l, 1) := by decide +kernel
theorem dMo_writeList_76 : decode cMo_writeList 76 = .ok (.iload_n 1, 1) := by decide +kernel
theorem dMo_writeList_77 : decode cMo_writeList 77 = .ok (.invokevirtual 84, 3) := by decide +kernel
theorem dMo_writeList_80 : decode cMo_writeList 80 = .ok (.iinc 2 1, 3) := by decide +kernel
theorem dMo_writeList_83 : decode cMo_writeList 83 = .ok (.goto (-27), 3) := by decide +kernel
theorem dMo_writeList_86 : decode cMo_writeList 86 = .ok (.return_, 1) := by decide +kernel
theorem dMo_writeRuns_0 : decode cMo_writeRuns 0 = .ok (.aload_n 0, 1) := by decide +kernel
theorem dMo_writeRuns_1 : decode cMo_writeRuns 1 = .ok (.aload_n 0, 1) := by decide +kernel
theorem dMo_writeRuns_2 : decode cMo_writeRuns 2 = .ok (.invokevirtual 61, 3) := by decide +kernel
theorem dMo_writeRuns_5 : decode cMo_writeRuns 5 = .ok (.i2l, 1) := by decide +kernel
theorem dMo_writeRuns_6 : decode cMo_writeRuns 6 = .ok (.bipush 16, 2) := by decide +kernel
theorem dMo_writeRuns_8 : decode cMo_writeRuns 8 = .ok (.invokevirtual 84, 3) := by decide +kernel
theorem dMo_writeRuns_11 : decode cMo_writeRuns 11 = .ok (.iconst 0, 1) := by decide +kernel
theorem dMo_writeRuns_12 : decode cMo_writeRuns 12 = .ok (.istore_n 1, 1) := by decide +kernel
theorem dMo_writeRuns_13 : decode cMo_writeRuns 13 = .ok (.iconst 1, 1) := by decide +kernel
theorem dMo_writeRuns_14 : decode cMo_writeRuns 14 = .ok (.istore_n 2, 1) := by decide +kernel
theorem dMo_writeRuns_15 : decode cMo_writeRuns 15 = .ok (.iload_n 2, 1) := by decide +kernel
theorem dMo_writeRuns_16 : decode cMo_writeRuns 16 = .ok (.aload_n 0, 1) := by decide +kernel
theorem dMo_writeRuns_17 : decode cMo_writeRuns 17 = .ok (.getfield 30, 3) := by decide +kernel
theorem dMo_writeRuns_20 : decode cMo_writeRuns 20 = .ok (.if_icmp .gt 57, 3) := by decide +kernel
theorem dMo_writeRuns_23 : decode cMo_writeRuns 23 = .ok (.iload_n 2, 1) := by decide +kernel
theorem dMo_writeRuns_24 : decode cMo_writeRuns 24 = .ok (.aload_n 0, 1) := by decide +kernel
theorem dMo_writeRuns_25 : decode cMo_writeRuns 25 = .ok (.getfield 30, 3) := by decide +kernel
theorem dMo_writeRuns_28 : decode cMo_writeRuns 28 = .ok (.if_icmp .eq 19, 3) := by decide +kernel
theorem dMo_writeRuns_31 : decode cMo_writeRuns 31 = .ok (.aload_n 0, 1) := by decide +kernel
theorem dMo_writeRuns_32 : decode cMo_writeRuns 32 = .ok (.getfield 7, 3) := by decide +kernel
theorem dMo_writeRuns_35 : decode cMo_writeRuns 35 = .ok (.iload_n 2, 1) := by decide +kernel
theorem dMo_writeRuns_36 : decode cMo_writeRuns 36 = .ok (.laload, 1) := by decide +kernel
theorem dMo_writeRuns_37 : decode cMo_writeRuns 37 = .ok (.aload_n 0, 1) := by decide +kernel
theorem dMo_writeRuns_38 : decode cMo_writeRuns 38 = .ok (.getfield 7, 3) := by decide +kernel
theorem dMo_writeRuns_41 : decode cMo_writeRuns 41 = .ok (.iload_n 1, 1) := by decide +kernel
theorem dMo_writeRuns_42 : decode cMo_writeRuns 42 = .ok (.laload, 1) := by decide +kernel
theorem dMo_writeRuns_43 : decode cMo_writeRuns 43 = .ok (.lcmp, 1) := by decide +kernel
theorem dMo_writeRuns_44 : decode cMo_writeRuns 44 = .ok (.ifCond .eq 27, 3) := by decide +kernel
theorem dMo_writeRuns_47 : decode cMo_writeRuns 47 = .ok (.aload_n 0, 1) := by decide +kernel
theorem dMo_writeRuns_48 : decode cMo_writeRuns 48 = .ok (.aload_n 0, 1) := by decide +kernel
theorem dMo_writeRuns_49 : decode cMo_writeRuns 49 = .ok (.getfield 7, 3) := by decide +kernel
theorem dMo_writeRuns_52 : decode cMo_writeRuns 52 = .ok (.iload_n 1, 1) := by decide +kernel
theorem dMo_writeRuns_53 : decode cMo_writeRuns 53 = .ok (.laload, 1) := by decide +kernel
theorem dMo_writeRuns_54 : decode cMo_writeRuns 54 = .ok (.bipush 64, 2) := by decide +kernel
theorem dMo_writeRuns_56 : decode cMo_writeRuns 56 = .ok (.invokevirtual 84, 3) := by decide +kernel
theorem dMo_writeRuns_59 : decode cMo_writeRuns 59 = .ok (.aload_n 0, 1) := by decide +kernel
theorem dMo_writeRuns_60 : decode cMo_writeRuns 60 = .ok (.iload_n 2, 1) := by decide +kernel
theorem dMo_writeRuns_61 : decode cMo_writeRuns 61 = .ok (.iload_n 1, 1) := by decide +kernel
theorem dMo_writeRuns_62 : decode cMo_writeRuns 62 = .ok (.isub, 1) := by decide +kernel
theorem dMo_writeRuns_63 : decode cMo_writeRuns 63 = .ok (.i2l, 1) := by decide +kernel
theorem dMo_writeRuns_64 : decode cMo_writeRuns 64 = .ok (.bipush 16, 2) := by decide +kernel
theorem dMo_writeRuns_66 : decode cMo_writeRuns 66 = .ok (.invokevirtual 84, 3) := by decide +kernel
theorem dMo_writeRuns_69 : decode cMo_writeRuns 69 = .ok (.iload_n 2, 1) := by decide +kernel
theorem dMo_writeRuns_70 : decode cMo_writeRuns 70 = .ok (.istore_n 1, 1) := by decide +kernel
theorem dMo_writeRuns_71 : decode cMo_writeRuns 71 = .ok (.iinc 2 1, 3) := by decide +kernel
theorem dMo_writeRuns_74 : decode cMo_writeRuns 74 = .ok (.goto (-59), 3) := by decide +kernel
theorem dMo_writeRuns_77 : decode cMo_writeRuns 77 = .ok (.return_, 1) := by decide +kernel
theorem dMo_writeSteps_0 : decode cMo_writeSteps 0 = .ok (.aload_n 0, 1) := by decide +kernel
theorem dMo_writeSteps_1 : decode cMo_writeSteps 1 = .ok (.invokevirtual 68, 3) := by decide +kernel
theorem dMo_writeSteps_4 : decode cMo_writeSteps 4 = .ok (.lstore_n 1, 1) := by decide +kernel
theorem dMo_writeSteps_5 : decode cMo_writeSteps 5 = .ok (.aload_n 0, 1) := by decide +kernel
theorem dMo_writeSteps_6 : decode cMo_writeSteps 6 = .ok (.invokevirtual 65, 3) := by decide +kernel
theorem dMo_writeSteps_9 : decode cMo_writeSteps 9 = .ok (.lload_n 1, 1) := by decide +kernel
theorem dMo_writeSteps_10 : decode cMo_writeSteps 10 = .ok (.lsub, 1) := by decide +kernel
theorem dMo_writeSteps_11 : decode cMo_writeSteps 11 = .ok (.invokestatic 51, 3) := by decide +kernel
theorem dMo_writeSteps_14 : decode cMo_writeSteps 14 = .ok (.istore_n 3, 1) := by decide +kernel
theorem dMo_writeSteps_15 : decode cMo_writeSteps 15 = .ok (.aload_n 0, 1) := by decide +kernel
theorem dMo_writeSteps_16 : decode cMo_writeSteps 16 = .ok (.aload_n 0, 1) := by decide +kernel
theorem dMo_writeSteps_17 : decode cMo_writeSteps 17 = .ok (.getfield 7, 3) := by decide +kernel
theorem dMo_writeSteps_20 : decode cMo_writeSteps 20 = .ok (.iconst 0, 1) := by decide +kernel
theorem dMo_writeSteps_21 : decode cMo_writeSteps 21 = .ok (.laload, 1) := by decide +kernel
theorem dMo_writeSteps_22 : decode cMo_writeSteps 22 = .ok (.bipush 64, 2) := by decide +kernel
theorem dMo_writeSteps_24 : decode cMo_writeSteps 24 = .ok (.invokevirtual 84, 3) := by decide +kernel
theorem dMo_writeSteps_27 : decode cMo_writeSteps 27 = .ok (.aload_n 0, 1) := by decide +kernel
theorem dMo_writeSteps_28 : decode cMo_writeSteps 28 = .ok (.lload_n 1, 1) := by decide +kernel
theorem dMo_writeSteps_29 : decode cMo_writeSteps 29 = .ok (.bipush 64, 2) := by decide +kernel
theorem dMo_writeSteps_31 : decode cMo_writeSteps 31 = .ok (.invokevirtual 84, 3) := by decide +kernel
theorem dMo_writeSteps_34 : decode cMo_writeSteps 34 = .ok (.aload_n 0, 1) := by decide +kernel
theorem dMo_writeSteps_35 : decode cMo_writeSteps 35 = .ok (.iload_n 3, 1) := by decide +kernel
theorem dMo_writeSteps_36 : decode cMo_writeSteps 36 = .ok (.i2l, 1) := by decide +kernel
theorem dMo_writeSteps_37 : decode cMo_writeSteps 37 = .ok (.bipush 8, 2) := by decide +kernel
theorem dMo_writeSteps_39 : decode cMo_writeSteps 39 = .ok (.invokevirtual 84, 3) := by decide +kernel
theorem dMo_writeSteps_42 : decode cMo_writeSteps 42 = .ok (.iconst 1, 1) := by decide +kernel
theorem dMo_writeSteps_43 : decode cMo_writeSteps 43 = .ok (.istore 4, 2) := by decide +kernel
theorem dMo_writeSteps_45 : decode cMo_writeSteps 45 = .ok (.iload 4, 2) := by decide +kernel
theorem dMo_writeSteps_47 : decode cMo_writeSteps 47 = .ok (.aload_n 0, 1) := by decide +kernel
theorem dMo_writeSteps_48 : decode cMo_writeSteps 48 = .ok (.getfield 30, 3) := by decide +kernel
theorem dMo_writeSteps_51 : decode cMo_writeSteps 51 = .ok (.if_icmp .ge 22, 3) := by decide +kernel
theorem dMo_writeSteps_54 : decode cMo_writeSteps 54 = .ok (.aload_n 0, 1) := by decide +kernel
theorem dMo_writeSteps_55 : decode cMo_writeSteps 55 = .ok (.aload_n 0, 1) := by decide +kernel
theorem dMo_writeSteps_56 : decode cMo_writeSteps 56 = .ok (.iload 4, 2) := by decide +kernel
theorem dMo_writeSteps_58 : decode cMo_writeSteps 58 = .ok (.invokevirtual 33, 3) := by decide +kernel
theorem dMo_writeSteps_61 : decode cMo_writeSteps 61 = .ok (.lload_n 1, 1) := by decide +kernel
theorem dMo_writeSteps_62 : decode cMo_writeSteps 62 = .ok (.lsub, 1) := by decide +kernel
theorem dMo_writeSteps_63 : decode cMo_writeSteps 63 = .ok (.iload_n 3, 1) := by decide +kernel
theorem dMo_writeSteps_64 : decode cMo_writeSteps 64 = .ok (.invokevirtual 84, 3) := by decide +kernel
theorem dMo_writeSteps_67 : decode cMo_writeSteps 67 = .ok (.iinc 4 1, 3) := by decide +kernel
theorem dMo_writeSteps_70 : decode cMo_writeSteps 70 = .ok (.goto (-25), 3) := by decide +kernel
theorem dMo_writeSteps_73 : decode cMo_writeSteps 73 = .ok (.return_, 1) := by decide +kernel
theorem dMo_writeAs_0 : decode cMo_writeAs 0 = .ok (.aload_n 0, 1) := by decide +kernel
theorem dMo_writeAs_1 : decode cMo_writeAs 1 = .ok (.iload_n 1, 1) := by decide +kernel
theorem dMo_writeAs_2 : decode cMo_writeAs 2 = .ok (.ifCond .lt 8, 3) := by decide +kernel
theorem dMo_writeAs_5 : decode cMo_writeAs 5 = .ok (.iload_n 1, 1) := by decide +kernel
theorem dMo_writeAs_6 : decode cMo_writeAs 6 = .ok (.iconst 4, 1) := by decide +kernel
theorem dMo_writeAs_7 : decode cMo_writeAs 7 = .ok (.if_icmp .le 7, 3) := by decide +kernel
theorem dMo_writeAs_10 : decode cMo_writeAs 10 = .ok (.iconst 1, 1) := by decide +kernel
theorem dMo_writeAs_11 : decode cMo_writeAs 11 = .ok (.goto 15, 3) := by decide +kernel
theorem dMo_writeAs_14 : decode cMo_writeAs 14 = .ok (.aload_n 0, 1) := by decide +kernel
theorem dMo_writeAs_15 : decode cMo_writeAs 15 = .ok (.getfield 30, 3) := by decide +kernel
theorem dMo_writeAs_18 : decode cMo_writeAs 18 = .ok (.ifCond .ne 7, 3) := by decide +kernel
theorem dMo_writeAs_21 : decode cMo_writeAs 21 = .ok (.iconst 2, 1) := by decide +kernel
theorem dMo_writeAs_22 : decode cMo_writeAs 22 = .ok (.goto 4, 3) := by decide +kernel
theorem dMo_writeAs_25 : decode cMo_writeAs 25 = .ok (.iconst 0, 1) := by decide +kernel
theorem dMo_writeAs_26 : decode cMo_writeAs 26 = .ok (.putfield 27, 3) := by decide +kernel
theorem dMo_writeAs_29 : decode cMo_writeAs 29 = .ok (.aload_n 0, 1) := by decide +kernel
theorem dMo_writeAs_30 : decode cMo_writeAs 30 = .ok (.getfield 27, 3) := by decide +kernel
theorem dMo_writeAs_33 : decode cMo_writeAs 33 = .ok (.ifCond .le 7, 3) := by decide +kernel
theorem dMo_writeAs_36 : decode cMo_writeAs 36 = .ok (.iconst 0, 1) := by decide +kernel
theorem dMo_writeAs_37 : decode cMo_writeAs 37 = .ok (.goto 8, 3) := by decide +kernel
theorem dMo_writeAs_40 : decode cMo_writeAs 40 = .ok (.aload_n 0, 1) := by decide +kernel
theorem dMo_writeAs_41 : decode cMo_writeAs 41 = .ok (.iload_n 1, 1) := by decide +kernel
theorem dMo_writeAs_42 : decode cMo_writeAs 42 = .ok (.invokevirtual 100, 3) := by decide +kernel
theorem dMo_writeAs_45 : decode cMo_writeAs 45 = .ok (.ireturn, 1) := by decide +kernel
theorem dMo_form_0 : decode cMo_form 0 = .ok (.aload_n 0, 1) := by decide +kernel
theorem dMo_form_1 : decode cMo_form 1 = .ok (.iconst 0, 1) := by decide +kernel
theorem dMo_form_2 : decode cMo_form 2 = .ok (.putfield 27, 3) := by decide +kernel
theorem dMo_form_5 : decode cMo_form 5 = .ok (.aload_n 0, 1) := by decide +kernel
theorem dMo_form_6 : decode cMo_form 6 = .ok (.getfield 13, 3) := by decide +kernel
theorem dMo_form_9 : decode cMo_form 9 = .ok (.ireturn, 1) := by decide +kernel
theorem dMo_size_0 : decode cMo_size 0 = .ok (.aload_n 0, 1) := by decide +kernel
theorem dMo_size_1 : decode cMo_size 1 = .ok (.iconst 0, 1) := by decide +kernel
theorem dMo_size_2 : decode cMo_size 2 = .ok (.putfield 27, 3) := by decide +kernel
theorem dMo_size_5 : decode cMo_size 5 = .ok (.aload_n 0, 1) := by decide +kernel
theorem dMo_size_6 : decode cMo_size 6 = .ok (.getfield 13, 3) := by decide +kernel
theorem dMo_size_9 : decode cMo_size 9 = .ok (.ifCond .ge 7, 3) := by decide +kernel
theorem dMo_size_12 : decode cMo_size 12 = .ok (.iconst 0, 1) := by decide +kernel
theorem dMo_size_13 : decode cMo_size 13 = .ok (.goto 7, 3) := by decide +kernel
theorem dMo_size_16 : decode cMo_size 16 = .ok (.aload_n 0, 1) := by decide +kernel
theorem dMo_size_17 : decode cMo_size 17 = .ok (.getfield 77, 3) := by decide +kernel
theorem dMo_size_20 : decode cMo_size 20 = .ok (.ireturn, 1) := by decide +kernel
theorem dMo_byteAt_0 : decode cMo_byteAt 0 = .ok (.aload_n 0, 1) := by decide +kernel
theorem dMo_byteAt_1 : decode cMo_byteAt 1 = .ok (.aload_n 0, 1) := by decide +kernel
theorem dMo_byteAt_2 : decode cMo_byteAt 2 = .ok (.getfield 13, 3) := by decide +kernel
theorem dMo_byteAt_5 : decode cMo_byteAt 5 = .ok (.ifCond .lt 15, 3) := by decide +kernel
theorem dMo_byteAt_8 : decode cMo_byteAt 8 = .ok (.iload_n 1, 1) := by decide +kernel
theorem dMo_byteAt_9 : decode cMo_byteAt 9 = .ok (.ifCond .lt 11, 3) := by decide +kernel
theorem dMo_byteAt_12 : decode cMo_byteAt 12 = .ok (.iload_n 1, 1) := by decide +kernel
theorem dMo_byteAt_13 : decode cMo_byteAt 13 = .ok (.aload_n 0, 1) := by decide +kernel
theorem dMo_byteAt_14 : decode cMo_byteAt 14 = .ok (.getfield 77, 3) := by decide +kernel
theorem dMo_byteAt_17 : decode cMo_byteAt 17 = .ok (.if_icmp .lt 7, 3) := by decide +kernel
theorem dMo_byteAt_20 : decode cMo_byteAt 20 = .ok (.iconst 1, 1) := by decide +kernel
theorem dMo_byteAt_21 : decode cMo_byteAt 21 = .ok (.goto 4, 3) := by decide +kernel
theorem dMo_byteAt_24 : decode cMo_byteAt 24 = .ok (.iconst 0, 1) := by decide +kernel
theorem dMo_byteAt_25 : decode cMo_byteAt 25 = .ok (.putfield 27, 3) := by decide +kernel
theorem dMo_byteAt_28 : decode cMo_byteAt 28 = .ok (.aload_n 0, 1) := by decide +kernel
theorem dMo_byteAt_29 : decode cMo_byteAt 29 = .ok (.getfield 27, 3) := by decide +kernel
theorem dMo_byteAt_32 : decode cMo_byteAt 32 = .ok (.ifCond .le 7, 3) := by decide +kernel
theorem dMo_byteAt_35 : decode cMo_byteAt 35 = .ok (.iconst 0, 1) := by decide +kernel
theorem dMo_byteAt_36 : decode cMo_byteAt 36 = .ok (.goto 9, 3) := by decide +kernel
theorem dMo_byteAt_39 : decode cMo_byteAt 39 = .ok (.aload_n 0, 1) := by decide +kernel
theorem dMo_byteAt_40 : decode cMo_byteAt 40 = .ok (.getfield 20, 3) := by decide +kernel
theorem dMo_byteAt_43 : decode cMo_byteAt 43 = .ok (.iload_n 1, 1) := by decide +kernel
theorem dMo_byteAt_44 : decode cMo_byteAt 44 = .ok (.iaload, 1) := by decide +kernel
theorem dMo_byteAt_45 : decode cMo_byteAt 45 = .ok (.ireturn, 1) := by decide +kernel
theorem dMo_cell_0 : decode cMo_cell 0 = .ok (.aload_n 0, 1) := by decide +kernel
theorem dMo_cell_1 : decode cMo_cell 1 = .ok (.aload_n 0, 1) := by decide +kernel
theorem dMo_cell_2 : decode cMo_cell 2 = .ok (.getfield 13, 3) := by decide +kernel
theorem dMo_cell_5 : decode cMo_cell 5 = .ok (.ifCond .lt 15, 3) := by decide +kernel
theorem dMo_cell_8 : decode cMo_cell 8 = .ok (.iload_n 1, 1) := by decide +kernel
theorem dMo_cell_9 : decode cMo_cell 9 = .ok (.ifCond .lt 11, 3) := by decide +kernel
theorem dMo_cell_12 : decode cMo_cell 12 = .ok (.iload_n 1, 1) := by decide +kernel
theorem dMo_cell_13 : decode cMo_cell 13 = .ok (.aload_n 0, 1) := by decide +kernel
theorem dMo_cell_14 : decode cMo_cell 14 = .ok (.getfield 88, 3) := by decide +kernel
theorem dMo_cell_17 : decode cMo_cell 17 = .ok (.if_icmp .lt 7, 3) := by decide +kernel
theorem dMo_cell_20 : decode cMo_cell 20 = .ok (.iconst 1, 1) := by decide +kernel
theorem dMo_cell_21 : decode cMo_cell 21 = .ok (.goto 4, 3) := by decide +kernel
theorem dMo_cell_24 : decode cMo_cell 24 = .ok (.iconst 0, 1) := by decide +kernel
theorem dMo_cell_25 : decode cMo_cell 25 = .ok (.putfield 27, 3) := by decide +kernel
theorem dMo_cell_28 : decode cMo_cell 28 = .ok (.aload_n 0, 1) := by decide +kernel
theorem dMo_cell_29 : decode cMo_cell 29 = .ok (.getfield 27, 3) := by decide +kernel
theorem dMo_cell_32 : decode cMo_cell 32 = .ok (.ifCond .le 7, 3) := by decide +kernel
theorem dMo_cell_35 : decode cMo_cell 35 = .ok (.lconst 0, 1) := by decide +kernel
theorem dMo_cell_36 : decode cMo_cell 36 = .ok (.goto 9, 3) := by decide +kernel
theorem dMo_cell_39 : decode cMo_cell 39 = .ok (.aload_n 0, 1) := by decide +kernel
theorem dMo_cell_40 : decode cMo_cell 40 = .ok (.getfield 17, 3) := by decide +kernel
theorem dMo_cell_43 : decode cMo_cell 43 = .ok (.iload_n 1, 1) := by decide +kernel
theorem dMo_cell_44 : decode cMo_cell 44 = .ok (.laload, 1) := by decide +kernel
theorem dMo_cell_45 : decode cMo_cell 45 = .ok (.lreturn, 1) := by decide +kernel
theorem dMo_count_0 : decode cMo_count 0 = .ok (.aload_n 0, 1) := by decide +kernel
theorem dMo_count_1 : decode cMo_count 1 = .ok (.iload_n 1, 1) := by decide +kernel
theorem dMo_count_2 : decode cMo_count 2 = .ok (.ifCond .lt 8, 3) := by decide +kernel
theorem dMo_count_5 : decode cMo_count 5 = .ok (.iload_n 1, 1) := by decide +kernel
theorem dMo_count_6 : decode cMo_count 6 = .ok (.iconst 3, 1) := by decide +kernel
theorem dMo_count_7 : decode cMo_count 7 = .ok (.if_icmp .le 7, 3) := by decide +kernel
theorem dMo_count_10 : decode cMo_count 10 = .ok (.iconst 1, 1) := by decide +kernel
theorem dMo_count_11 : decode cMo_count 11 = .ok (.goto 15, 3) := by decide +kernel
theorem dMo_count_14 : decode cMo_count 14 = .ok (.aload_n 0, 1) := by decide +kernel
theorem dMo_count_15 : decode cMo_count 15 = .ok (.getfield 13, 3) := by decide +kernel
theorem dMo_count_18 : decode cMo_count 18 = .ok (.ifCond .ge 7, 3) := by decide +kernel
theorem dMo_count_21 : decode cMo_count 21 = .ok (.iconst 2, 1) := by decide +kernel
theorem dMo_count_22 : decode cMo_count 22 = .ok (.goto 4, 3) := by decide +kernel
theorem dMo_count_25 : decode cMo_count 25 = .ok (.iconst 0, 1) := by decide +kernel
theorem dMo_count_26 : decode cMo_count 26 = .ok (.putfield 27, 3) := by decide +kernel
theorem dMo_count_29 : decode cMo_count 29 = .ok (.iconst 0, 1) := by decide +kernel
theorem dMo_count_30 : decode cMo_count 30 = .ok (.istore 4, 2) := by decide +kernel
theorem dMo_count_32 : decode cMo_count 32 = .ok (.iconst 0, 1) := by decide +kernel
theorem dMo_count_33 : decode cMo_count 33 = .ok (.istore 5, 2) := by decide +kernel
theorem dMo_count_35 : decode cMo_count 35 = .ok (.iload 5, 2) := by decide +kernel
theorem dMo_count_37 : decode cMo_count 37 = .ok (.aload_n 0, 1) := by decide +kernel
theorem dMo_count_38 : decode cMo_count 38 = .ok (.getfield 88, 3) := by decide +kernel
theorem dMo_count_41 : decode cMo_count 41 = .ok (.if_icmp .ge 41, 3) := by decide +kernel
theorem dMo_count_44 : decode cMo_count 44 = .ok (.aload_n 0, 1) := by decide +kernel
theorem dMo_count_45 : decode cMo_count 45 = .ok (.getfield 27, 3) := by decide +kernel
theorem dMo_count_48 : decode cMo_count 48 = .ok (.ifCond .ne 34, 3) := by decide +kernel
theorem dMo_count_51 : decode cMo_count 51 = .ok (.iload 4, 2) := by decide +kernel
theorem dMo_count_53 : decode cMo_count 53 = .ok (.iload_n 1, 1) := by decide +kernel
theorem dMo_count_54 : decode cMo_count 54 = .ok (.aload_n 0, 1) := by decide +kernel
theorem dMo_count_55 : decode cMo_count 55 = .ok (.getfield 17, 3) := by decide +kernel
theorem dMo_count_58 : decode cMo_count 58 = .ok (.iload 5, 2) := by decide +kernel
theorem dMo_count_60 : decode cMo_count 60 = .ok (.laload, 1) := by decide +kernel
theorem dMo_count_61 : decode cMo_count 61 = .ok (.lload_n 2, 1) := by decide +kernel
theorem dMo_count_62 : decode cMo_count 62 = .ok (.invokestatic 103, 3) := by decide +kernel
theorem dMo_count_65 : decode cMo_count 65 = .ok (.ifCond .eq 7, 3) := by decide +kernel
theorem dMo_count_68 : decode cMo_count 68 = .ok (.iconst 1, 1) := by decide +kernel
theorem dMo_count_69 : decode cMo_count 69 = .ok (.goto 4, 3) := by decide +kernel
theorem dMo_count_72 : decode cMo_count 72 = .ok (.iconst 0, 1) := by decide +kernel
theorem dMo_count_73 : decode cMo_count 73 = .ok (.iadd, 1) := by decide +kernel
theorem dMo_count_74 : decode cMo_count 74 = .ok (.istore 4, 2) := by decide +kernel
theorem dMo_count_76 : decode cMo_count 76 = .ok (.iinc 5 1, 3) := by decide +kernel
theorem dMo_count_79 : decode cMo_count 79 = .ok (.goto (-44), 3) := by decide +kernel
theorem dMo_count_82 : decode cMo_count 82 = .ok (.iload 4, 2) := by decide +kernel
theorem dMo_count_84 : decode cMo_count 84 = .ok (.ireturn, 1) := by decide +kernel
theorem dMo_is_0 : decode cMo_is 0 = .ok (.iload_n 0, 1) := by decide +kernel
theorem dMo_is_1 : decode cMo_is 1 = .ok (.ifCond .ne 17, 3) := by decide +kernel
theorem dMo_is_4 : decode cMo_is 4 = .ok (.lload_n 1, 1) := by decide +kernel
theorem dMo_is_5 : decode cMo_is 5 = .ok (.lload_n 3, 1) := by decide +kernel
theorem dMo_is_6 : decode cMo_is 6 = .ok (.lcmp, 1) := by decide +kernel
theorem dMo_is_7 : decode cMo_is 7 = .ok (.ifCond .ne 7, 3) := by decide +kernel
theorem dMo_is_10 : decode cMo_is 10 = .ok (.iconst 1, 1) := by decide +kernel
theorem dMo_is_11 : decode cMo_is 11 = .ok (.goto 58, 3) := by decide +kernel
theorem dMo_is_14 : decode cMo_is 14 = .ok (.iconst 0, 1) := by decide +kernel
theorem dMo_is_15 : decode cMo_is 15 = .ok (.goto 54, 3) := by decide +kernel
theorem dMo_is_18 : decode cMo_is 18 = .ok (.iload_n 0, 1) := by decide +kernel
theorem dMo_is_19 : decode cMo_is 19 = .ok (.iconst 1, 1) := by decide +kernel
theorem dMo_is_20 : decode cMo_is 20 = .ok (.if_icmp .ne 17, 3) := by decide +kernel
theorem dMo_is_23 : decode cMo_is 23 = .ok (.lload_n 1, 1) := by decide +kernel
theorem dMo_is_24 : decode cMo_is 24 = .ok (.lload_n 3, 1) := by decide +kernel
theorem dMo_is_25 : decode cMo_is 25 = .ok (.lcmp, 1) := by decide +kernel
theorem dMo_is_26 : decode cMo_is 26 = .ok (.ifCond .ge 7, 3) := by decide +kernel
theorem dMo_is_29 : decode cMo_is 29 = .ok (.iconst 1, 1) := by decide +kernel
theorem dMo_is_30 : decode cMo_is 30 = .ok (.goto 39, 3) := by decide +kernel
theorem dMo_is_33 : decode cMo_is 33 = .ok (.iconst 0, 1) := by decide +kernel
theorem dMo_is_34 : decode cMo_is 34 = .ok (.goto 35, 3) := by decide +kernel
theorem dMo_is_37 : decode cMo_is 37 = .ok (.iload_n 0, 1) := by decide +kernel
theorem dMo_is_38 : decode cMo_is 38 = .ok (.iconst 2, 1) := by decide +kernel
theorem dMo_is_39 : decode cMo_is 39 = .ok (.if_icmp .ne 17, 3) := by decide +kernel
theorem dMo_is_42 : decode cMo_is 42 = .ok (.lload_n 1, 1) := by decide +kernel
theorem dMo_is_43 : decode cMo_is 43 = .ok (.lload_n 3, 1) := by decide +kernel
theorem dMo_is_44 : decode cMo_is 44 = .ok (.lcmp, 1) := by decide +kernel
theorem dMo_is_45 : decode cMo_is 45 = .ok (.ifCond .le 7, 3) := by decide +kernel
theorem dMo_is_48 : decode cMo_is 48 = .ok (.iconst 1, 1) := by decide +kernel
theorem dMo_is_49 : decode cMo_is 49 = .ok (.goto 20, 3) := by decide +kernel
theorem dMo_is_52 : decode cMo_is 52 = .ok (.iconst 0, 1) := by decide +kernel
theorem dMo_is_53 : decode cMo_is 53 = .ok (.goto 16, 3) := by decide +kernel
theorem dMo_is_56 : decode cMo_is 56 = .ok (.lload_n 1, 1) := by decide +kernel
theorem dMo_is_57 : decode cMo_is 57 = .ok (.lload_n 3, 1) := by decide +kernel
theorem dMo_is_58 : decode cMo_is 58 = .ok (.land, 1) := by decide +kernel
theorem dMo_is_59 : decode cMo_is 59 = .ok (.lload_n 3, 1) := by decide +kernel
theorem dMo_is_60 : decode cMo_is 60 = .ok (.lcmp, 1) := by decide +kernel
theorem dMo_is_61 : decode cMo_is 61 = .ok (.ifCond .ne 7, 3) := by decide +kernel
theorem dMo_is_64 : decode cMo_is 64 = .ok (.iconst 1, 1) := by decide +kernel
theorem dMo_is_65 : decode cMo_is 65 = .ok (.goto 4, 3) := by decide +kernel
theorem dMo_is_68 : decode cMo_is 68 = .ok (.iconst 0, 1) := by decide +kernel
theorem dMo_is_69 : decode cMo_is 69 = .ok (.ireturn, 1) := by decide +kernel
theorem dMo_sum_0 : decode cMo_sum 0 = .ok (.aload_n 0, 1) := by decide +kernel
theorem dMo_sum_1 : decode cMo_sum 1 = .ok (.aload_n 0, 1) := by decide +kernel
theorem dMo_sum_2 : decode cMo_sum 2 = .ok (.getfield 13, 3) := by decide +kernel
theorem dMo_sum_5 : decode cMo_sum 5 = .ok (.ifCond .ge 7, 3) := by decide +kernel
theorem dMo_sum_8 : decode cMo_sum 8 = .ok (.iconst 1, 1) := by decide +kernel
theorem dMo_sum_9 : decode cMo_sum 9 = .ok (.goto 4, 3) := by decide +kernel
theorem dMo_sum_12 : decode cMo_sum 12 = .ok (.iconst 0, 1) := by decide +kernel
theorem dMo_sum_13 : decode cMo_sum 13 = .ok (.putfield 27, 3) := by decide +kernel
theorem dMo_sum_16 : decode cMo_sum 16 = .ok (.lconst 0, 1) := by decide +kernel
theorem dMo_sum_17 : decode cMo_sum 17 = .ok (.lstore 5, 2) := by decide +kernel
theorem dMo_sum_19 : decode cMo_sum 19 = .ok (.iconst 0, 1) := by decide +kernel
theorem dMo_sum_20 : decode cMo_sum 20 = .ok (.istore 7, 2) := by decide +kernel
theorem dMo_sum_22 : decode cMo_sum 22 = .ok (.iload 7, 2) := by decide +kernel
theorem dMo_sum_24 : decode cMo_sum 24 = .ok (.aload_n 0, 1) := by decide +kernel
theorem dMo_sum_25 : decode cMo_sum 25 = .ok (.getfield 88, 3) := by decide +kernel
theorem dMo_sum_28 : decode cMo_sum 28 = .ok (.if_icmp .ge 56, 3) := by decide +kernel
theorem dMo_sum_31 : decode cMo_sum 31 = .ok (.aload_n 0, 1) := by decide +kernel
theorem dMo_sum_32 : decode cMo_sum 32 = .ok (.getfield 27, 3) := by decide +kernel
theorem dMo_sum_35 : decode cMo_sum 35 = .ok (.ifCond .ne 49, 3) := by decide +kernel
theorem dMo_sum_38 : decode cMo_sum 38 = .ok (.lload 5, 2) := by decide +kernel
theorem dMo_sum_40 : decode cMo_sum 40 = .ok (.aload_n 0, 1) := by decide +kernel
theorem dMo_sum_41 : decode cMo_sum 41 = .ok (.getfield 17, 3) := by decide +kernel
theorem dMo_sum_44 : decode cMo_sum 44 = .ok (.iload 7, 2) := by decide +kernel
theorem dMo_sum_46 : decode cMo_sum 46 = .ok (.laload, 1) := by decide +kernel
theorem dMo_sum_47 : decode cMo_sum 47 = .ok (.lload_n 1, 1) := by decide +kernel
theorem dMo_sum_48 : decode cMo_sum 48 = .ok (.lcmp, 1) := by decide +kernel
theorem dMo_sum_49 : decode cMo_sum 49 = .ok (.ifCond .lt 25, 3) := by decide +kernel
theorem dMo_sum_52 : decode cMo_sum 52 = .ok (.aload_n 0, 1) := by decide +kernel
theorem dMo_sum_53 : decode cMo_sum 53 = .ok (.getfield 17, 3) := by decide +kernel
theorem dMo_sum_56 : decode cMo_sum 56 = .ok (.iload 7, 2) := by decide +kernel
theorem dMo_sum_58 : decode cMo_sum 58 = .ok (.laload, 1) := by decide +kernel
theorem dMo_sum_59 : decode cMo_sum 59 = .ok (.lload_n 3, 1) := by decide +kernel
theorem dMo_sum_60 : decode cMo_sum 60 = .ok (.lcmp, 1) := by decide +kernel
theorem dMo_sum_61 : decode cMo_sum 61 = .ok (.ifCond .gt 13, 3) := by decide +kernel
theorem dMo_sum_64 : decode cMo_sum 64 = .ok (.aload_n 0, 1) := by decide +kernel
theorem dMo_sum_65 : decode cMo_sum 65 = .ok (.getfield 17, 3) := by decide +kernel
theorem dMo_sum_68 : decode cMo_sum 68 = .ok (.iload 7, 2) := by decide +kernel
theorem dMo_sum_70 : decode cMo_sum 70 = .ok (.laload, 1) := by decide +kernel
theorem dMo_sum_71 : decode cMo_sum 71 = .ok (.goto 4, 3) := by decide +kernel
theorem dMo_sum_74 : decode cMo_sum 74 = .ok (.lconst 0, 1) := by decide +kernel
theorem dMo_sum_75 : decode cMo_sum 75 = .ok (.ladd, 1) := by decide +kernel
theorem dMo_sum_76 : decode cMo_sum 76 = .ok (.lstore 5, 2) := by decide +kernel
theorem dMo_sum_78 : decode cMo_sum 78 = .ok (.iinc 7 1, 3) := by decide +kernel
theorem dMo_sum_81 : decode cMo_sum 81 = .ok (.goto (-59), 3) := by decide +kernel
theorem dMo_sum_84 : decode cMo_sum 84 = .ok (.lload 5, 2) := by decide +kernel
theorem dMo_sum_86 : decode cMo_sum 86 = .ok (.lreturn, 1) := by decide +kernel
