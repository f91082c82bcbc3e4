theorem dMo_weigh_82 : decode cMo_weigh 82 = .ok (.getfield 37, 3) := by decide +kernel
theorem dMo_weigh_85 : decode cMo_weigh 85 = .ok (.iconst 1, 1) := by decide +kernel
theorem dMo_weigh_86 : decode cMo_weigh 86 = .ok (.isub, 1) := by decide +kernel
theorem dMo_weigh_87 : decode cMo_weigh 87 = .ok (.i2l, 1) := by decide +kernel
theorem dMo_weigh_88 : decode cMo_weigh 88 = .ok (.invokestatic 51, 3) := by decide +kernel
theorem dMo_weigh_91 : decode cMo_weigh 91 = .ok (.imul, 1) := by decide +kernel
theorem dMo_weigh_92 : decode cMo_weigh 92 = .ok (.invokestatic 54, 3) := by decide +kernel
theorem dMo_weigh_95 : decode cMo_weigh 95 = .ok (.iadd, 1) := by decide +kernel
theorem dMo_weigh_96 : decode cMo_weigh 96 = .ok (.ireturn, 1) := by decide +kernel
theorem dMo_weigh_97 : decode cMo_weigh 97 = .ok (.iconst 2, 1) := by decide +kernel
theorem dMo_weigh_98 : decode cMo_weigh 98 = .ok (.bipush 10, 2) := by decide +kernel
theorem dMo_weigh_100 : decode cMo_weigh 100 = .ok (.aload_n 0, 1) := by decide +kernel
theorem dMo_weigh_101 : decode cMo_weigh 101 = .ok (.invokevirtual 61, 3) := by decide +kernel
theorem dMo_weigh_104 : decode cMo_weigh 104 = .ok (.imul, 1) := by decide +kernel
theorem dMo_weigh_105 : decode cMo_weigh 105 = .ok (.iadd, 1) := by decide +kernel
theorem dMo_weigh_106 : decode cMo_weigh 106 = .ok (.ireturn, 1) := by decide +kernel
theorem dMo_weigh_107 : decode cMo_weigh 107 = .ok (.bipush 17, 2) := by decide +kernel
theorem dMo_weigh_109 : decode cMo_weigh 109 = .ok (.aload_n 0, 1) := by decide +kernel
theorem dMo_weigh_110 : decode cMo_weigh 110 = .ok (.getfield 30, 3) := by decide +kernel
theorem dMo_weigh_113 : decode cMo_weigh 113 = .ok (.iconst 1, 1) := by decide +kernel
theorem dMo_weigh_114 : decode cMo_weigh 114 = .ok (.isub, 1) := by decide +kernel
theorem dMo_weigh_115 : decode cMo_weigh 115 = .ok (.aload_n 0, 1) := by decide +kernel
theorem dMo_weigh_116 : decode cMo_weigh 116 = .ok (.invokevirtual 65, 3) := by decide +kernel
theorem dMo_weigh_119 : decode cMo_weigh 119 = .ok (.aload_n 0, 1) := by decide +kernel
theorem dMo_weigh_120 : decode cMo_weigh 120 = .ok (.invokevirtual 68, 3) := by decide +kernel
theorem dMo_weigh_123 : decode cMo_weigh 123 = .ok (.lsub, 1) := by decide +kernel
theorem dMo_weigh_124 : decode cMo_weigh 124 = .ok (.invokestatic 51, 3) := by decide +kernel
theorem dMo_weigh_127 : decode cMo_weigh 127 = .ok (.imul, 1) := by decide +kernel
theorem dMo_weigh_128 : decode cMo_weigh 128 = .ok (.invokestatic 54, 3) := by decide +kernel
theorem dMo_weigh_131 : decode cMo_weigh 131 = .ok (.iadd, 1) := by decide +kernel
theorem dMo_weigh_132 : decode cMo_weigh 132 = .ok (.ireturn, 1) := by decide +kernel
theorem dMo_greatest_0 : decode cMo_greatest 0 = .ok (.aload_n 0, 1) := by decide +kernel
theorem dMo_greatest_1 : decode cMo_greatest 1 = .ok (.getfield 7, 3) := by decide +kernel
theorem dMo_greatest_4 : decode cMo_greatest 4 = .ok (.iconst 0, 1) := by decide +kernel
theorem dMo_greatest_5 : decode cMo_greatest 5 = .ok (.laload, 1) := by decide +kernel
theorem dMo_greatest_6 : decode cMo_greatest 6 = .ok (.lstore_n 1, 1) := by decide +kernel
theorem dMo_greatest_7 : decode cMo_greatest 7 = .ok (.iconst 1, 1) := by decide +kernel
theorem dMo_greatest_8 : decode cMo_greatest 8 = .ok (.istore_n 3, 1) := by decide +kernel
theorem dMo_greatest_9 : decode cMo_greatest 9 = .ok (.iload_n 3, 1) := by decide +kernel
theorem dMo_greatest_10 : decode cMo_greatest 10 = .ok (.aload_n 0, 1) := by decide +kernel
theorem dMo_greatest_11 : decode cMo_greatest 11 = .ok (.getfield 30, 3) := by decide +kernel
theorem dMo_greatest_14 : decode cMo_greatest 14 = .ok (.if_icmp .ge 31, 3) := by decide +kernel
theorem dMo_greatest_17 : decode cMo_greatest 17 = .ok (.aload_n 0, 1) := by decide +kernel
theorem dMo_greatest_18 : decode cMo_greatest 18 = .ok (.getfield 7, 3) := by decide +kernel
theorem dMo_greatest_21 : decode cMo_greatest 21 = .ok (.iload_n 3, 1) := by decide +kernel
theorem dMo_greatest_22 : decode cMo_greatest 22 = .ok (.laload, 1) := by decide +kernel
theorem dMo_greatest_23 : decode cMo_greatest 23 = .ok (.lload_n 1, 1) := by decide +kernel
theorem dMo_greatest_24 : decode cMo_greatest 24 = .ok (.lcmp, 1) := by decide +kernel
theorem dMo_greatest_25 : decode cMo_greatest 25 = .ok (.ifCond .le 12, 3) := by decide +kernel
theorem dMo_greatest_28 : decode cMo_greatest 28 = .ok (.aload_n 0, 1) := by decide +kernel
theorem dMo_greatest_29 : decode cMo_greatest 29 = .ok (.getfield 7, 3) := by decide +kernel
theorem dMo_greatest_32 : decode cMo_greatest 32 = .ok (.iload_n 3, 1) := by decide +kernel
theorem dMo_greatest_33 : decode cMo_greatest 33 = .ok (.laload, 1) := by decide +kernel
theorem dMo_greatest_34 : decode cMo_greatest 34 = .ok (.goto 4, 3) := by decide +kernel
theorem dMo_greatest_37 : decode cMo_greatest 37 = .ok (.lload_n 1, 1) := by decide +kernel
theorem dMo_greatest_38 : decode cMo_greatest 38 = .ok (.lstore_n 1, 1) := by decide +kernel
theorem dMo_greatest_39 : decode cMo_greatest 39 = .ok (.iinc 3 1, 3) := by decide +kernel
theorem dMo_greatest_42 : decode cMo_greatest 42 = .ok (.goto (-33), 3) := by decide +kernel
theorem dMo_greatest_45 : decode cMo_greatest 45 = .ok (.lload_n 1, 1) := by decide +kernel
theorem dMo_greatest_46 : decode cMo_greatest 46 = .ok (.lreturn, 1) := by decide +kernel
theorem dMo_least_0 : decode cMo_least 0 = .ok (.aload_n 0, 1) := by decide +kernel
theorem dMo_least_1 : decode cMo_least 1 = .ok (.getfield 7, 3) := by decide +kernel
theorem dMo_least_4 : decode cMo_least 4 = .ok (.iconst 0, 1) := by decide +kernel
theorem dMo_least_5 : decode cMo_least 5 = .ok (.laload, 1) := by decide +kernel
theorem dMo_least_6 : decode cMo_least 6 = .ok (.lstore_n 1, 1) := by decide +kernel
theorem dMo_least_7 : decode cMo_least 7 = .ok (.iconst 1, 1) := by decide +kernel
theorem dMo_least_8 : decode cMo_least 8 = .ok (.istore_n 3, 1) := by decide +kernel
theorem dMo_least_9 : decode cMo_least 9 = .ok (.iload_n 3, 1) := by decide +kernel
theorem dMo_least_10 : decode cMo_least 10 = .ok (.aload_n 0, 1) := by decide +kernel
theorem dMo_least_11 : decode cMo_least 11 = .ok (.getfield 30, 3) := by decide +kernel
theorem dMo_least_14 : decode cMo_least 14 = .ok (.if_icmp .ge 31, 3) := by decide +kernel
theorem dMo_least_17 : decode cMo_least 17 = .ok (.aload_n 0, 1) := by decide +kernel
theorem dMo_least_18 : decode cMo_least 18 = .ok (.getfield 7, 3) := by decide +kernel
theorem dMo_least_21 : decode cMo_least 21 = .ok (.iload_n 3, 1) := by decide +kernel
theorem dMo_least_22 : decode cMo_least 22 = .ok (.laload, 1) := by decide +kernel
theorem dMo_least_23 : decode cMo_least 23 = .ok (.lload_n 1, 1) := by decide +kernel
theorem dMo_least_24 : decode cMo_least 24 = .ok (.lcmp, 1) := by decide +kernel
theorem dMo_least_25 : decode cMo_least 25 = .ok (.ifCond .ge 12, 3) := by decide +kernel
theorem dMo_least_28 : decode cMo_least 28 = .ok (.aload_n 0, 1) := by decide +kernel
theorem dMo_least_29 : decode cMo_least 29 = .ok (.getfield 7, 3) := by decide +kernel
theorem dMo_least_32 : decode cMo_least 32 = .ok (.iload_n 3, 1) := by decide +kernel
theorem dMo_least_33 : decode cMo_least 33 = .ok (.laload, 1) := by decide +kernel
theorem dMo_least_34 : decode cMo_least 34 = .ok (.goto 4, 3) := by decide +kernel
theorem dMo_least_37 : decode cMo_least 37 = .ok (.lload_n 1, 1) := by decide +kernel
theorem dMo_least_38 : decode cMo_least 38 = .ok (.lstore_n 1, 1) := by decide +kernel
theorem dMo_least_39 : decode cMo_least 39 = .ok (.iinc 3 1, 3) := by decide +kernel
theorem dMo_least_42 : decode cMo_least 42 = .ok (.goto (-33), 3) := by decide +kernel
theorem dMo_least_45 : decode cMo_least 45 = .ok (.lload_n 1, 1) := by decide +kernel
theorem dMo_least_46 : decode cMo_least 46 = .ok (.lreturn, 1) := by decide +kernel
theorem dMo_digits_0 : decode cMo_digits 0 = .ok (.iconst 0, 1) := by decide +kernel
theorem dMo_digits_1 : decode cMo_digits 1 = .ok (.istore_n 2, 1) := by decide +kernel
theorem dMo_digits_2 : decode cMo_digits 2 = .ok (.iconst 0, 1) := by decide +kernel
theorem dMo_digits_3 : decode cMo_digits 3 = .ok (.istore_n 3, 1) := by decide +kernel
theorem dMo_digits_4 : decode cMo_digits 4 = .ok (.iload_n 3, 1) := by decide +kernel
theorem dMo_digits_5 : decode cMo_digits 5 = .ok (.bipush 64, 2) := by decide +kernel
theorem dMo_digits_7 : decode cMo_digits 7 = .ok (.if_icmp .ge 27, 3) := by decide +kernel
theorem dMo_digits_10 : decode cMo_digits 10 = .ok (.lload_n 0, 1) := by decide +kernel
theorem dMo_digits_11 : decode cMo_digits 11 = .ok (.iload_n 3, 1) := by decide +kernel
theorem dMo_digits_12 : decode cMo_digits 12 = .ok (.lshr, 1) := by decide +kernel
theorem dMo_digits_13 : decode cMo_digits 13 = .ok (.lconst 1, 1) := by decide +kernel
theorem dMo_digits_14 : decode cMo_digits 14 = .ok (.land, 1) := by decide +kernel
theorem dMo_digits_15 : decode cMo_digits 15 = .ok (.lconst 1, 1) := by decide +kernel
theorem dMo_digits_16 : decode cMo_digits 16 = .ok (.lcmp, 1) := by decide +kernel
theorem dMo_digits_17 : decode cMo_digits 17 = .ok (.ifCond .ne 9, 3) := by decide +kernel
theorem dMo_digits_20 : decode cMo_digits 20 = .ok (.iload_n 3, 1) := by decide +kernel
theorem dMo_digits_21 : decode cMo_digits 21 = .ok (.iconst 1, 1) := by decide +kernel
theorem dMo_digits_22 : decode cMo_digits 22 = .ok (.iadd, 1) := by decide +kernel
theorem dMo_digits_23 : decode cMo_digits 23 = .ok (.goto 4, 3) := by decide +kernel
theorem dMo_digits_26 : decode cMo_digits 26 = .ok (.iload_n 2, 1) := by decide +kernel
theorem dMo_digits_27 : decode cMo_digits 27 = .ok (.istore_n 2, 1) := by decide +kernel
theorem dMo_digits_28 : decode cMo_digits 28 = .ok (.iinc 3 1, 3) := by decide +kernel
theorem dMo_digits_31 : decode cMo_digits 31 = .ok (.goto (-27), 3) := by decide +kernel
theorem dMo_digits_34 : decode cMo_digits 34 = .ok (.iload_n 2, 1) := by decide +kernel
theorem dMo_digits_35 : decode cMo_digits 35 = .ok (.ireturn, 1) := by decide +kernel
theorem dMo_whole_0 : decode cMo_whole 0 = .ok (.iload_n 0, 1) := by decide +kernel
theorem dMo_whole_1 : decode cMo_whole 1 = .ok (.bipush 7, 2) := by decide +kernel
theorem dMo_whole_3 : decode cMo_whole 3 = .ok (.iadd, 1) := by decide +kernel
theorem dMo_whole_4 : decode cMo_whole 4 = .ok (.bipush 8, 2) := by decide +kernel
theorem dMo_whole_6 : decode cMo_whole 6 = .ok (.idiv, 1) := by decide +kernel
theorem dMo_whole_7 : decode cMo_whole 7 = .ok (.ireturn, 1) := by decide +kernel
theorem dMo_listAll_0 : decode cMo_listAll 0 = .ok (.aload_n 0, 1) := by decide +kernel
theorem dMo_listAll_1 : decode cMo_listAll 1 = .ok (.iconst 0, 1) := by decide +kernel
theorem dMo_listAll_2 : decode cMo_listAll 2 = .ok (.putfield 37, 3) := by decide +kernel
theorem dMo_listAll_5 : decode cMo_listAll 5 = .ok (.iconst 0, 1) := by decide +kernel
theorem dMo_listAll_6 : decode cMo_listAll 6 = .ok (.istore_n 1, 1) := by decide +kernel
theorem dMo_listAll_7 : decode cMo_listAll 7 = .ok (.iload_n 1, 1) := by decide +kernel
theorem dMo_listAll_8 : decode cMo_listAll 8 = .ok (.aload_n 0, 1) := by decide +kernel
theorem dMo_listAll_9 : decode cMo_listAll 9 = .ok (.getfield 30, 3) := by decide +kernel
theorem dMo_listAll_12 : decode cMo_listAll 12 = .ok (.if_icmp .ge 96, 3) := by decide +kernel
theorem dMo_listAll_15 : decode cMo_listAll 15 = .ok (.aload_n 0, 1) := by decide +kernel
theorem dMo_listAll_16 : decode cMo_listAll 16 = .ok (.aload_n 0, 1) := by decide +kernel
theorem dMo_listAll_17 : decode cMo_listAll 17 = .ok (.getfield 7, 3) := by decide +kernel
theorem dMo_listAll_20 : decode cMo_listAll 20 = .ok (.iload_n 1, 1) := by decide +kernel
theorem dMo_listAll_21 : decode cMo_listAll 21 = .ok (.laload, 1) := by decide +kernel
theorem dMo_listAll_22 : decode cMo_listAll 22 = .ok (.invokevirtual 40, 3) := by decide +kernel
theorem dMo_listAll_25 : decode cMo_listAll 25 = .ok (.istore_n 2, 1) := by decide +kernel
theorem dMo_listAll_26 : decode cMo_listAll 26 = .ok (.iload_n 2, 1) := by decide +kernel
theorem dMo_listAll_27 : decode cMo_listAll 27 = .ok (.aload_n 0, 1) := by decide +kernel
theorem dMo_listAll_28 : decode cMo_listAll 28 = .ok (.getfield 37, 3) := by decide +kernel
theorem dMo_listAll_31 : decode cMo_listAll 31 = .ok (.if_icmp .eq 19, 3) := by decide +kernel
theorem dMo_listAll_34 : decode cMo_listAll 34 = .ok (.aload_n 0, 1) := by decide +kernel
theorem dMo_listAll_35 : decode cMo_listAll 35 = .ok (.getfield 24, 3) := by decide +kernel
theorem dMo_listAll_38 : decode cMo_listAll 38 = .ok (.iload_n 2, 1) := by decide +kernel
theorem dMo_listAll_39 : decode cMo_listAll 39 = .ok (.laload, 1) := by decide +kernel
theorem dMo_listAll_40 : decode cMo_listAll 40 = .ok (.aload_n 0, 1) := by decide +kernel
theorem dMo_listAll_41 : decode cMo_listAll 41 = .ok (.getfield 7, 3) := by decide +kernel
theorem dMo_listAll_44 : decode cMo_listAll 44 = .ok (.iload_n 1, 1) := by decide +kernel
theorem dMo_listAll_45 : decode cMo_listAll 45 = .ok (.laload, 1) := by decide +kernel
theorem dMo_listAll_46 : decode cMo_listAll 46 = .ok (.lcmp, 1) := by decide +kernel
theorem dMo_listAll_47 : decode cMo_listAll 47 = .ok (.ifCond .eq 55, 3) := by decide +kernel
theorem dMo_listAll_50 : decode cMo_listAll 50 = .ok (.aload_n 0, 1) := by decide +kernel
theorem dMo_listAll_51 : decode cMo_listAll 51 = .ok (.getfield 37, 3) := by decide +kernel
theorem dMo_listAll_54 : decode cMo_listAll 54 = .ok (.istore_n 3, 1) := by decide +kernel
theorem dMo_listAll_55 : decode cMo_listAll 55 = .ok (.iload_n 3, 1) := by decide +kernel
theorem dMo_listAll_56 : decode cMo_listAll 56 = .ok (.iload_n 2, 1) := by decide +kernel
theorem dMo_listAll_57 : decode cMo_listAll 57 = .ok (.if_icmp .le 23, 3) := by decide +kernel
theorem dMo_listAll_60 : decode cMo_listAll 60 = .ok (.aload_n 0, 1) := by decide +kernel
theorem dMo_listAll_61 : decode cMo_listAll 61 = .ok (.getfield 24, 3) := by decide +kernel
theorem dMo_listAll_64 : decode cMo_listAll 64 = .ok (.iload_n 3, 1) := by decide +kernel
theorem dMo_listAll_65 : decode cMo_listAll 65 = .ok (.aload_n 0, 1) := by decide +kernel
theorem dMo_listAll_66 : decode cMo_listAll 66 = .ok (.getfield 24, 3) := by decide +kernel
theorem dMo_listAll_69 : decode cMo_listAll 69 = .ok (.iload_n 3, 1) := by decide +kernel
theorem dMo_listAll_70 : decode cMo_listAll 70 = .ok (.iconst 1, 1) := by decide +kernel
theorem dMo_listAll_71 : decode cMo_listAll 71 = .ok (.isub, 1) := by decide +kernel
theorem dMo_listAll_72 : decode cMo_listAll 72 = .ok (.laload, 1) := by decide +kernel
theorem dMo_listAll_73 : decode cMo_listAll 73 = .ok (.lastore, 1) := by decide +kernel
theorem dMo_listAll_74 : decode cMo_listAll 74 = .ok (.iinc 3 (-1), 3) := by decide +kernel
theorem dMo_listAll_77 : decode cMo_listAll 77 = .ok (.goto (-22), 3) := by decide +kernel
theorem dMo_listAll_80 : decode cMo_listAll 80 = .ok (.aload_n 0, 1) := by decide +kernel
theorem dMo_listAll_81 : decode cMo_listAll 81 = .ok (.getfield 24, 3) := by decide +kernel
theorem dMo_listAll_84 : decode cMo_listAll 84 = .ok (.iload_n 2, 1) := by decide +kernel
theorem dMo_listAll_85 : decode cMo_listAll 85 = .ok (.aload_n 0, 1) := by decide +kernel
theorem dMo_listAll_86 : decode cMo_listAll 86 = .ok (.getfield 7, 3) := by decide +kernel
theorem dMo_listAll_89 : decode cMo_listAll 89 = .ok (.iload_n 1, 1) := by decide +kernel
theorem dMo_listAll_90 : decode cMo_listAll 90 = .ok (.laload, 1) := by decide +kernel
theorem dMo_listAll_91 : decode cMo_listAll 91 = .ok (.lastore, 1) := by decide +kernel
theorem dMo_listAll_92 : decode cMo_listAll 92 = .ok (.aload_n 0, 1) := by decide +kernel
theorem dMo_listAll_93 : decode cMo_listAll 93 = .ok (.dup, 1) := by decide +kernel
theorem dMo_listAll_94 : decode cMo_listAll 94 = .ok (.getfield 37, 3) := by decide +kernel
theorem dMo_listAll_97 : decode cMo_listAll 97 = .ok (.iconst 1, 1) := by decide +kernel
theorem dMo_listAll_98 : decode cMo_listAll 98 = .ok (.iadd, 1) := by decide +kernel
theorem dMo_listAll_99 : decode cMo_listAll 99 = .ok (.putfield 37, 3) := by decide +kernel
theorem dMo_listAll_102 : decode cMo_listAll 102 = .ok (.iinc 1 1, 3) := by decide +kernel
theorem dMo_listAll_105 : decode cMo_listAll 105 = .ok (.goto (-98), 3) := by decide +kernel
theorem dMo_listAll_108 : decode cMo_listAll 108 = .ok (.return_, 1) := by decide +kernel
theorem dMo_placeOf_0 : decode cMo_placeOf 0 = .ok (.iconst 0, 1) := by decide +kernel
theorem dMo_placeOf_1 : decode cMo_placeOf 1 = .ok (.istore_n 3, 1) := by decide +kernel
theorem dMo_placeOf_2 : decode cMo_placeOf 2 = .ok (.iload_n 3, 1) := by decide +kernel
theorem dMo_placeOf_3 : decode cMo_placeOf 3 = .ok (.aload_n 0, 1) := by decide +kernel
theorem dMo_placeOf_4 : decode cMo_placeOf 4 = .ok (.getfield 37, 3) := by decide +kernel
theorem dMo_placeOf_7 : decode cMo_placeOf 7 = .ok (.if_icmp .ge 20, 3) := by decide +kernel
theorem dMo_placeOf_10 : decode cMo_placeOf 10 = .ok (.aload_n 0, 1) := by decide +kernel
theorem dMo_placeOf_11 : decode cMo_placeOf 11 = .ok (.getfield 24, 3) := by decide +kernel
theorem dMo_placeOf_14 : decode cMo_placeOf 14 = .ok (.iload_n 3, 1) := by decide +kernel
theorem dMo_placeOf_15 : decode cMo_placeOf 15 = .ok (.laload, 1) := by decide +kernel
theorem dMo_placeOf_16 : decode cMo_placeOf 16 = .ok (.lload_n 1, 1) := by decide +kernel
theorem dMo_placeOf_17 : decode cMo_placeOf 17 = .ok (.lcmp, 1) := by decide +kernel
theorem dMo_placeOf_18 : decode cMo_placeOf 18 = .ok (.ifCond .ge 9, 3) := by decide +kernel
theorem dMo_placeOf_21 : decode cMo_placeOf 21 = .ok (.iinc 3 1, 3) := by decide +kernel
theorem dMo_placeOf_24 : decode cMo_placeOf 24 = .ok (.goto (-22), 3) := by decide +kernel
theorem dMo_placeOf_27 : decode cMo_placeOf 27 = .ok (.iload_n 3, 1) := by decide +kernel
theorem dMo_placeOf_28 : decode cMo_placeOf 28 = .ok (.ireturn, 1) := by decide +kernel
theorem dMo_runs_0 : decode cMo_runs 0 = .ok (.iconst 1, 1) := by decide +kernel
theorem dMo_runs_1 : decode cMo_runs 1 = .ok (.istore_n 1, 1) := by decide +kernel
theorem dMo_runs_2 : decode cMo_runs 2 = .ok (.iconst 1, 1) := by decide +kernel
theorem dMo_runs_3 : decode cMo_runs 3 = .ok (.istore_n 2, 1) := by decide +kernel
theorem dMo_runs_4 : decode cMo_runs 4 = .ok (.iload_n 2, 1) := by decide +kernel
theorem dMo_runs_5 : decode cMo_runs 5 = .ok (.aload_n 0, 1) := by decide +kernel
theorem dMo_runs_6 : decode cMo_runs 6 = .ok (.getfield 30, 3) := by decide +kernel
theorem dMo_runs_9 : decode cMo_runs 9 = .ok (.if_icmp .ge 35, 3) := by decide +kernel
theorem dMo_runs_12 : decode cMo_runs 12 = .ok (.iload_n 1, 1) := by decide +kernel
theorem dMo_runs_13 : decode cMo_runs 13 = .ok (.aload_n 0, 1) := by decide +kernel
theorem dMo_runs_14 : decode cMo_runs 14 = .ok (.getfield 7, 3) := by decide +kernel
theorem dMo_runs_17 : decode cMo_runs 17 = .ok (.iload_n 2, 1) := by decide +kernel
theorem dMo_runs_18 : decode cMo_runs 18 = .ok (.laload, 1) := by decide +kernel
theorem dMo_runs_19 : decode cMo_runs 19 = .ok (.aload_n 0, 1) := by decide +kernel
theorem dMo_runs_20 : decode cMo_runs 20 = .ok (.getfield 7, 3) := by decide +kernel
theorem dMo_runs_23 : decode cMo_runs 23 = .ok (.iload_n 2, 1) := by decide +kernel
theorem dMo_runs_24 : decode cMo_runs 24 = .ok (.iconst 1, 1) := by decide +kernel
theorem dMo_runs_25 : decode cMo_runs 25 = .ok (.isub, 1) := by decide +kernel
theorem dMo_runs_26 : decode cMo_runs 26 = .ok (.laload, 1) := by decide +kernel
theorem dMo_runs_27 : decode cMo_runs 27 = .ok (.lcmp, 1) := by decide +kernel
theorem dMo_runs_28 : decode cMo_runs 28 = .ok (.ifCond .eq 7, 3) := by decide +kernel
theorem dMo_runs_31 : decode cMo_runs 31 = .ok (.iconst 1, 1) := by decide +kernel
theorem dMo_runs_32 : decode cMo_runs 32 = .ok (.goto 4, 3) := by decide +kernel
theorem dMo_runs_35 : decode cMo_runs 35 = .ok (.iconst 0, 1) := by decide +kernel
theorem dMo_runs_36 : decode cMo_runs 36 = .ok (.iadd, 1) := by decide +kernel
theorem dMo_runs_37 : decode cMo_runs 37 = .ok (.istore_n 1, 1) := by decide +kernel
theorem dMo_runs_38 : decode cMo_runs 38 = .ok (.iinc 2 1, 3) := by decide +kernel
theorem dMo_runs_41 : decode cMo_runs 41 = .ok (.goto (-37), 3) := by decide +kernel
theorem dMo_runs_44 : decode cMo_runs 44 = .ok (.iload_n 1, 1) := by decide +kernel
theorem dMo_runs_45 : decode cMo_runs 45 = .ok (.ireturn, 1) := by decide +kernel
theorem dMo_greatestStep_0 : decode cMo_greatestStep 0 = .ok (.aload_n 0, 1) := by decide +kernel
theorem dMo_greatestStep_1 : decode cMo_greatestStep 1 = .ok (.getfield 30, 3) := by decide +kernel
theorem dMo_greatestStep_4 : decode cMo_greatestStep 4 = .ok (.iconst 1, 1) := by decide +kernel
theorem dMo_greatestStep_5 : decode cMo_greatestStep 5 = .ok (.if_icmp .le 11, 3) := by decide +kernel
theorem dMo_greatestStep_8 : decode cMo_greatestStep 8 = .ok (.aload_n 0, 1) := by decide +kernel
theorem dMo_greatestStep_9 : decode cMo_greatestStep 9 = .ok (.iconst 1, 1) := by decide +kernel
theorem dMo_greatestStep_10 : decode cMo_greatestStep 10 = .ok (.invokevirtual 33, 3) := by decide +kernel
theorem dMo_greatestStep_13 : decode cMo_greatestStep 13 = .ok (.goto 4, 3) := by decide +kernel
theorem dMo_greatestStep_16 : decode cMo_greatestStep 16 = .ok (.lconst 0, 1) := by decide +kernel
theorem dMo_greatestStep_17 : decode cMo_greatestStep 17 = .ok (.lstore_n 1, 1) := by decide +kernel
theorem dMo_greatestStep_18 : decode cMo_greatestStep 18 = .ok (.iconst 2, 1) := by decide +kernel
theorem dMo_greatestStep_19 : decode cMo_greatestStep 19 = .ok (.istore_n 3, 1) := by decide +kernel
theorem dMo_greatestStep_20 : decode cMo_greatestStep 20 = .ok (.iload_n 3, 1) := by decide +kernel
theorem dMo_greatestStep_21 : decode cMo_greatestStep 21 = .ok (.aload_n 0, 1) := by decide +kernel
theorem dMo_greatestStep_22 : decode cMo_greatestStep 22 = .ok (.getfield 30, 3) := by decide +kernel
theorem dMo_greatestStep_25 : decode cMo_greatestStep 25 = .ok (.if_icmp .ge 29, 3) := by decide +kernel
theorem dMo_greatestStep_28 : decode cMo_greatestStep 28 = .ok (.aload_n 0, 1) := by decide +kernel
theorem dMo_greatestStep_29 : decode cMo_greatestStep 29 = .ok (.iload_n 3, 1) := by decide +kernel
theorem dMo_greatestStep_30 : decode cMo_greatestStep 30 = .ok (.invokevirtual 33, 3) := by decide +kernel
theorem dMo_greatestStep_33 : decode cMo_greatestStep 33 = .ok (.lload_n 1, 1) := by decide +kernel
theorem dMo_greatestStep_34 : decode cMo_greatestStep 34 = .ok (.lcmp, 1) := by decide +kernel
theorem dMo_greatestStep_35 : decode cMo_greatestStep 35 = .ok (.ifCond .le 11, 3) := by decide +kernel
theorem dMo_greatestStep_38 : decode cMo_greatestStep 38 = .ok (.aload_n 0, 1) := by decide +kernel
theorem dMo_greatestStep_39 : decode cMo_greatestStep 39 = .ok (.iload_n 3, 1) := by decide +kernel
theorem dMo_greatestStep_40 : decode cMo_greatestStep 40 = .ok (.invokevirtual 33, 3) := by decide +kernel
theorem dMo_greatestStep_43 : decode cMo_greatestStep 43 = .ok (.goto 4, 3) := by decide +kernel
theorem dMo_greatestStep_46 : decode cMo_greatestStep 46 = .ok (.lload_n 1, 1) := by decide +kernel
theorem dMo_greatestStep_47 : decode cMo_greatestStep 47 = .ok (.lstore_n 1, 1) := by decide +kernel
theorem dMo_greatestStep_48 : decode cMo_greatestStep 48 = .ok (.iinc 3 1, 3) := by decide +kernel
theorem dMo_greatestStep_51 : decode cMo_greatestStep 51 = .ok (.goto (-31), 3) := by decide +kernel
theorem dMo_greatestStep_54 : decode cMo_greatestStep 54 = .ok (.lload_n 1, 1) := by decide +kernel
theorem dMo_greatestStep_55 : decode cMo_greatestStep 55 = .ok (.lreturn, 1) := by decide +kernel
theorem dMo_step_0 : decode cMo_step 0 = .ok (.aload_n 0, 1) := by decide +kernel
theorem dMo_step_1 : decode cMo_step 1 = .ok (.getfield 7, 3) := by decide +kernel
theorem dMo_step_4 : decode cMo_step 4 = .ok (.iload_n 1, 1) := by decide +kernel
theorem dMo_step_5 : decode cMo_step 5 = .ok (.laload, 1) := by decide +kernel
theorem dMo_step_6 : decode cMo_step 6 = .ok (.aload_n 0, 1) := by decide +kernel
theorem dMo_step_7 : decode cMo_step 7 = .ok (.getfield 7, 3) := by decide +kernel
theorem dMo_step_10 : decode cMo_step 10 = .ok (.iload_n 1, 1) := by decide +kernel
theorem dMo_step_11 : decode cMo_step 11 = .ok (.iconst 1, 1) := by decide +kernel
theorem dMo_step_12 : decode cMo_step 12 = .ok (.isub, 1) := by decide +kernel
theorem dMo_step_13 : decode cMo_step 13 = .ok (.laload, 1) := by decide +kernel
theorem dMo_step_14 : decode cMo_step 14 = .ok (.lsub, 1) := by decide +kernel
theorem dMo_step_15 : decode cMo_step 15 = .ok (.lreturn, 1) := by decide +kernel
theorem dMo_leastStep_0 : decode cMo_leastStep 0 = .ok (.aload_n 0, 1) := by decide +kernel
theorem dMo_leastStep_1 : decode cMo_leastStep 1 = .ok (.getfield 30, 3) := by decide +kernel
theorem dMo_leastStep_4 : decode cMo_leastStep 4 = .ok (.iconst 1, 1) := by decide +kernel
theorem dMo_leastStep_5 : decode cMo_leastStep 5 = .ok (.if_icmp .le 11, 3) := by decide +kernel
theorem dMo_leastStep_8 : decode cMo_leastStep 8 = .ok (.aload_n 0, 1) := by decide +kernel
theorem dMo_leastStep_9 : decode cMo_leastStep 9 = .ok (.iconst 1, 1) := by decide +kernel
theorem dMo_leastStep_10 : decode cMo_leastStep 10 = .ok (.invokevirtual 33, 3) := by decide +kernel
theorem dMo_leastStep_13 : decode cMo_leastStep 13 = .ok (.goto 4, 3) := by decide +kernel
theorem dMo_leastStep_16 : decode cMo_leastStep 16 = .ok (.lconst 0, 1) := by decide +kernel
theorem dMo_leastStep_17 : decode cMo_leastStep 17 = .ok (.lstore_n 1, 1) := by decide +kernel
theorem dMo_leastStep_18 : decode cMo_leastStep 18 = .ok (.iconst 2, 1) := by decide +kernel
theorem dMo_leastStep_19 : decode cMo_leastStep 19 = .ok (.istore_n 3, 1) := by decide +kernel
theorem dMo_leastStep_20 : decode cMo_leastStep 20 = .ok (.iload_n 3, 1) := by decide +kernel
theorem dMo_leastStep_21 : decode cMo_leastStep 21 = .ok (.aload_n 0, 1) := by decide +kernel
theorem dMo_leastStep_22 : decode cMo_leastStep 22 = .ok (.getfield 30, 3) := by decide +kernel
theorem dMo_leastStep_25 : decode cMo_leastStep 25 = .ok (.if_icmp .ge 29, 3) := by decide +kernel
theorem dMo_leastStep_28 : decode cMo_leastStep 28 = .ok (.aload_n 0, 1) := by decide +kernel
theorem dMo_leastStep_29 : decode cMo_leastStep 29 = .ok (.iload_n 3, 1) := by decide +kernel
theorem dMo_leastStep_30 : decode cMo_leastStep 30 = .ok (.invokevirtual 33, 3) := by decide +kernel
theorem dMo_leastStep_33 : decode cMo_leastStep 33 = .ok (.lload_n 1, 1) := by decide +kernel
theorem dMo_leastStep_34 : decode cMo_leastStep 34 = .ok (.lcmp, 1) := by decide +kernel
theorem dMo_leastStep_35 : decode cMo_leastStep 35 = .ok (.ifCond .ge 11, 3) := by decide +kernel
theorem dMo_leastStep_38 : decode cMo_leastStep 38 = .ok (.aload_n 0, 1) := by decide +kernel
theorem dMo_leastStep_39 : decode cMo_leastStep 39 = .ok (.iload_n 3, 1) := by decide +kernel
theorem dMo_leastStep_40 : decode cMo_leastStep 40 = .ok (.invokevirtual 33, 3) := by decide +kernel
theorem dMo_leastStep_43 : decode cMo_leastStep 43 = .ok (.goto 4, 3) := by decide +kernel
theorem dMo_leastStep_46 : decode cMo_leastStep 46 = .ok (.lload_n 1, 1) := by decide +kernel
theorem dMo_leastStep_47 : decode cMo_leastStep 47 = .ok (.lstore_n 1, 1) := by decide +kernel
theorem dMo_leastStep_48 : decode cMo_leastStep 48 = .ok (.iinc 3 1, 3) := by decide +kernel
theorem dMo_leastStep_51 : decode cMo_leastStep 51 = .ok (.goto (-31), 3) := by decide +kernel
theorem dMo_leastStep_54 : decode cMo_leastStep 54 = .ok (.lload_n 1, 1) := by decide +kernel
theorem dMo_leastStep_55 : decode cMo_leastStep 55 = .ok (.lreturn, 1) := by decide +kernel
theorem dMo_write_0 : decode cMo_write 0 = .ok (.aload_n 0, 1) := by decide +kernel
theorem dMo_write_1 : decode cMo_write 1 = .ok (.aload_n 0, 1) := by decide +kernel
theorem dMo_write_2 : decode cMo_write 2 = .ok (.getfield 30, 3) := by decide +kernel
theorem dMo_write_5 : decode cMo_write 5 = .ok (.ifCond .ne 7, 3) := by decide +kernel
theorem dMo_write_8 : decode cMo_write 8 = .ok (.iconst 1, 1) := by decide +kernel
theorem dMo_write_9 : decode cMo_write 9 = .ok (.goto 4, 3) := by decide +kernel
theorem dMo_write_12 : decode cMo_write 12 = .ok (.iconst 0, 1) := by decide +kernel
theorem dMo_write_13 : decode cMo_write 13 = .ok (.putfield 27, 3) := by decide +kernel
theorem dMo_write_16 : decode cMo_write 16 = .ok (.aload_n 0, 1) := by decide +kernel
theorem dMo_write_17 : decode cMo_write 17 = .ok (.getfield 27, 3) := by decide +kernel
theorem dMo_write_20 : decode cMo_write 20 = .ok (.ifCond .le 5, 3) := by decide +kernel
theorem dMo_write_23 : decode cMo_write 23 = .ok (.iconst 0, 1) := by decide +kernel
theorem dMo_write_24 : decode cMo_write 24 = .ok (.ireturn, 1) := by decide +kernel
theorem dMo_write_25 : decode cMo_write 25 = .ok (.iconst 0, 1) := by decide +kernel
theorem dMo_write_26 : decode cMo_write 26 = .ok (.istore_n 1, 1) := by decide +kernel
theorem dMo_write_27 : decode cMo_write 27 = .ok (.iconst 1, 1) := by decide +kernel
theorem dMo_write_28 : decode cMo_write 28 = .ok (.istore_n 2, 1) := by decide +kernel
theorem dMo_write_29 : decode cMo_write 29 = .ok (.iload_n 2, 1) := by decide +kernel
theorem dMo_write_30 : decode cMo_write 30 = .ok (.iconst 5, 1) := by decide +kernel
theorem dMo_write_31 : decode cMo_write 31 = .ok (.if_icmp .ge 28, 3) := by decide +kernel
theorem dMo_write_34 : decode cMo_write 34 = .ok (.aload_n 0, 1) := by decide +kernel
theorem dMo_write_35 : decode cMo_write 35 = .ok (.iload_n 2, 1) := by decide +kernel
theorem dMo_write_36 : decode cMo_write 36 = .ok (.invokevirtual 71, 3) := by decide +kernel
theorem dMo_write_39 : decode cMo_write 39 = .ok (.aload_n 0, 1) := by decide +kernel
theorem dMo_write_40 : decode cMo_write 40 = .ok (.iload_n 1, 1) := by decide +kernel
theorem dMo_write_41 : decode cMo_write 41 = .ok (.invokevirtual 71, 3) := by decide +kernel
theorem dMo_write_44 : decode cMo_write 44 = .ok (.if_icmp .ge 7, 3) := by decide +kernel
theorem dMo_write_47 : decode cMo_write 47 = .ok (.iload_n 2, 1) := by decide +kernel
theorem dMo_write_48 : decode cMo_write 48 = .ok (.goto 4, 3) := by decide +kernel
theorem dMo_write_51 : decode cMo_write 51 = .ok (.iload_n 1, 1) := by decide +kernel
theorem dMo_write_52 : decode cMo_write 52 = .ok (.istore_n 1, 1) := by decide +kernel
theorem dMo_write_53 : decode cMo_write 53 = .ok (.iinc 2 1, 3) := by decide +kernel
theorem dMo_write_56 : decode cMo_write 56 = .ok (.goto (-27), 3) := by decide +kernel
theorem dMo_write_59 : decode cMo_write 59 = .ok (.aload_n 0, 1) := by decide +kernel
theorem dMo_write_60 : decode cMo_write 60 = .ok (.iload_n 1, 1) := by decide +kernel
theorem dMo_write_61 : decode cMo_write 61 = .ok (.invokevirtual 100, 3) := by decide +kernel
theorem dMo_write_64 : decode cMo_write 64 = .ok (.ireturn, 1) := by decide +kernel
theorem dMo_writeIn_0 : decode cMo_writeIn 0 = .ok (.aload_n 0, 1) := by decide +kernel
theorem dMo_writeIn_1 : decode cMo_writeIn 1 = .ok (.iconst 0, 1) := by decide +kernel
theorem dMo_writeIn_2 : decode cMo_writeIn 2 = .ok (.putfield 77, 3) := by decide +kernel
theorem dMo_writeIn_5 : decode cMo_writeIn 5 = .ok (.aload_n 0, 1) := by decide +kernel
theorem dMo_writeIn_6 : decode cMo_writeIn 6 = .ok (.iconst 0, 1) := by decide +kernel
theorem dMo_writeIn_7 : decode cMo_writeIn 7 = .ok (.putfield 74, 3) := by decide +kernel
theorem dMo_writeIn_10 : decode cMo_writeIn 10 = .ok (.aload_n 0, 1) := by decide +kernel
theorem dMo_writeIn_11 : decode cMo_writeIn 11 = .ok (.iload_n 1, 1) := by decide +kernel
theorem dMo_writeIn_12 : decode cMo_writeIn 12 = .ok (.putfield 13, 3) := by decide +kernel
theorem dMo_writeIn_15 : decode cMo_writeIn 15 = .ok (.aload_n 0, 1) := by decide +kernel
theorem dMo_writeIn_16 : decode cMo_writeIn 16 = .ok (.aload_n 0, 1) := by decide +kernel
theorem dMo_writeIn_17 : decode cMo_writeIn 17 = .ok (.getfield 30, 3) := by decide +kernel
theorem dMo_writeIn_20 : decode cMo_writeIn 20 = .ok (.putfield 88, 3) := by decide +kernel
theorem dMo_writeIn_23 : decode cMo_writeIn 23 = .ok (.iconst 0, 1) := by decide +kernel
theorem dMo_writeIn_24 : decode cMo_writeIn 24 = .ok (.istore_n 2, 1) := by decide +kernel
theorem dMo_writeIn_25 : decode cMo_writeIn 25 = .ok (.iload_n 2, 1) := by decide +kernel
theorem dMo_writeIn_26 : decode cMo_writeIn 26 = .ok (.aload_n 0, 1) := by decide +kernel
theorem dMo_writeIn_27 : decode cMo_writeIn 27 = .ok (.getfield 30, 3) := by decide +kernel
theorem dMo_writeIn_30 : decode cMo_writeIn 30 = .ok (.if_icmp .ge 21, 3) := by decide +kernel
theorem dMo_writeIn_33 : decode cMo_writeIn 33 = .ok (.aload_n 0, 1) := by decide +kernel
theorem dMo_writeIn_34 : decode cMo_writeIn 34 = .ok (.getfield 17, 3) := by decide +kernel
theorem dMo_writeIn_37 : decode cMo_writeIn 37 = .ok (.iload_n 2, 1) := by decide +kernel
theorem dMo_writeIn_38 : decode cMo_writeIn 38 = .ok (.aload_n 0, 1) := by decide +kernel
theorem dMo_writeIn_39 : decode cMo_writeIn 39 = .ok (.getfield 7, 3) := by decide +kernel
theorem dMo_writeIn_42 : decode cMo_writeIn 42 = .ok (.iload_n 2, 1) := by decide +kernel
theorem dMo_writeIn_43 : decode cMo_writeIn 43 = .ok (.laload, 1) := by decide +kernel
theorem dMo_writeIn_44 : decode cMo_writeIn 44 = .ok (.lastore, 1) := by decide +kernel
theorem dMo_writeIn_45 : decode cMo_writeIn 45 = .ok (.iinc 2 1, 3) := by decide +kernel
theorem dMo_writeIn_48 : decode cMo_writeIn 48 = .ok (.goto (-23), 3) := by decide +kernel
theorem dMo_writeIn_51 : decode cMo_writeIn 51 = .ok (.iload_n 1, 1) := by decide +kernel
theorem dMo_writeIn_52 : decode cMo_writeIn 52 = .ok (.ifCond .ne 34, 3) := by decide +kernel
theorem dMo_writeIn_55 : decode cMo_writeIn 55 = .ok (.iconst 0, 1) := by decide +kernel
theorem dMo_writeIn_56 : decode cMo_writeIn 56 = .ok (.istore_n 2, 1) := by decide +kernel
theorem dMo_writeIn_57 : decode cMo_writeIn 57 = .ok (.iload_n 2, 1) := by decide +kernel
theorem dMo_writeIn_58 : decode cMo_writeIn 58 = .ok (.aload_n 0, 1) := by decide +kernel
theorem dMo_writeIn_59 : decode cMo_writeIn 59 = .ok (.getfield 30, 3) := by decide +kernel
theorem dMo_writeIn_62 : decode cMo_writeIn 62 = .ok (.if_icmp .ge 21, 3) := by decide +kernel
theorem dMo_writeIn_65 : decode cMo_writeIn 65 = .ok (.aload_n 0, 1) := by decide +kernel
theorem dMo_writeIn_66 : decode cMo_writeIn 66 = .ok (.aload_n 0, 1) := by decide +kernel
theorem dMo_writeIn_67 : decode cMo_writeIn 67 = .ok (.getfield 7, 3) := by decide +kernel
theorem dMo_writeIn_70 : decode cMo_writeIn 70 = .ok (.iload_n 2, 1) := by decide +kernel
theorem dMo_writeIn_71 : decode cMo_writeIn 71 = .ok (.laload, 1) := by decide +kernel
theorem dMo_writeIn_72 : decode cMo_writeIn 72 = .ok (.bipush 64, 2) := by decide +kernel
theorem dMo_writeIn_74 : decode cMo_writeIn 74 = .ok (.invokevirtual 84, 3) := by decide +kernel
theorem dMo_writeIn_77 : decode cMo_writeIn 77 = .ok (.iinc 2 1, 3) := by decide +kernel
theorem dMo_writeIn_80 : decode cMo_writeIn 80 = .ok (.goto (-23), 3) := by decide +kernel
theorem dMo_writeIn_83 : decode cMo_writeIn 83 = .ok (.goto 104, 3) := by decide +kernel
theorem dMo_writeIn_86 : decode cMo_writeIn 86 = .ok (.iload_n 1, 1) := by decide +kernel
theorem dMo_writeIn_87 : decode cMo_writeIn 87 = .ok (.iconst 1, 1) := by decide +kernel
theorem dMo_writeIn_88 : decode cMo_writeIn 88 = .ok (.if_icmp .ne 71, 3) := by decide +kernel
theorem dMo_writeIn_91 : decode cMo_writeIn 91 = .ok (.aload_n 0, 1) := by decide +kernel
theorem dMo_writeIn_92 : decode cMo_writeIn 92 = .ok (.invokevirtual 48, 3) := by decide +kernel
theorem dMo_writeIn_95 : decode cMo_writeIn 95 = .ok (.lstore_n 2, 1) := by decide +kernel
theorem dMo_writeIn_96 : decode cMo_writeIn 96 = .ok (.aload_n 0, 1) := by decide +kernel
theorem dMo_writeIn_97 : decode cMo_writeIn 97 = .ok (.invokevirtual 44, 3) := by decide +kernel
theorem dMo_writeIn_100 : decode cMo_writeIn 100 = .ok (.lload_n 2, 1) := by decide +kernel
theorem dMo_writeIn_101 : decode cMo_writeIn 101 = .ok (.lsub, 1) := by decide +kernel
theorem dMo_writeIn_102 : decode cMo_writeIn 102 = .ok (.invokestatic 51, 3) := by decide +kernel
theorem dMo_writeIn_105 : decode cMo_writeIn 105 = .ok (.istore 4, 2) := by decide +kernel
theorem dMo_writeIn_107 : decode cMo_writeIn 107 = .ok (.aload_n 0, 1) := by decide +kernel
theorem dMo_writeIn_108 : decode cMo_writeIn 108 = .ok (.lload_n 2, 1) := by decide +kernel
theorem dMo_writeIn_109 : decode cMo_writeIn 109 = .ok (.bipush 64, 2) := by decide +kernel
theorem dMo_writeIn_111 : decode cMo_writeIn 111 = .ok (.invokevirtual 84, 3) := by decide +kernel
theorem dMo_writeIn_114 : decode cMo_writeIn 114 = .ok (.aload_n 0, 1) := by decide +kernel
theorem dMo_writeIn_115 : decode cMo_writeIn 115 = .ok (.iload 4, 2) := by decide +kernel
theorem dMo_writeIn_117 : decode cMo_writeIn 117 = .ok (.i2l, 1) := by decide +kernel
theorem dMo_writeIn_118 : decode cMo_writeIn 118 = .ok (.bipush 8, 2) := by decide +kernel
theorem dMo_writeIn_120 : decode cMo_writeIn 120 = .ok (.invokevirtual 84, 3) := by decide +kernel
theorem dMo_writeIn_123 : decode cMo_writeIn 123 = .ok (.iconst 0, 1) := by decide +kernel
theorem dMo_writeIn_124 : decode cMo_writeIn 124 = .ok (.istore 5, 2) := by decide +kernel
theorem dMo_writeIn_126 : decode cMo_writeIn 126 = .ok (.iload 5, 2) := by decide +kernel
theorem dMo_writeIn_128 : decode cMo_writeIn 128 = .ok (.aload_n 0, 1) := by decide +kernel
theorem dMo_writeIn_129 : decode cMo_writeIn 129 = .ok (.getfield 30, 3) := by decide +kernel
theorem dMo_writeIn_132 : decode cMo_writeIn 132 = .ok (.if_icmp .ge 24, 3) := by decide +kernel
theorem dMo_writeIn_135 : decode cMo_writeIn 135 = .ok (.aload_n 0, 1) := by decide +kernel
theorem dMo_writeIn_136 : decode cMo_writeIn 136 = .ok (.aload_n 0, 1) := by decide +kernel
theorem dMo_writeIn_137 : decode cMo_writeIn 137 = .ok (.getfield 7, 3) := by decide +kernel
theorem dMo_writeIn_140 : decode cMo_writeIn 140 = .ok (.iload 5, 2) := by decide +kernel
theorem dMo_writeIn_142 : decode cMo_writeIn 142 = .ok (.laload, 1) := by decide +kernel
theorem dMo_writeIn_143 : decode cMo_writeIn 143 = .ok (.lload_n 2, 1) := by decide +kernel
theorem dMo_writeIn_144 : decode cMo_writeIn 144 = .ok (.lsub, 1) := by decide +kernel
theorem dMo_writeIn_145 : decode cMo_writeIn 145 = .ok (.iload 4, 2) := by decide +kernel
theorem dMo_writeIn_147 : decode cMo_writeIn 147 = .ok (.invokevirtual 84, 3) := by decide +kernel
theorem dMo_writeIn_150 : decode cMo_writeIn 150 = .ok (.iinc 5 1, 3) := by decide +kernel
theorem dMo_writeIn_153 : decode cMo_writeIn 153 = .ok (.goto (-27), 3) := by decide +kernel
theorem dMo_writeIn_156 : decode cMo_writeIn 156 = .ok (.goto 31, 3) := by decide +kernel
theorem dMo_writeIn_159 : decode cMo_writeIn 159 = .ok (.iload_n 1, 1) := by decide +kernel
theorem dMo_writeIn_160 : decode cMo_writeIn 160 = .ok (.iconst 2, 1) := by decide +kernel
