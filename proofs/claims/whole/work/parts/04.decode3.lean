theorem dRu_lay_65 : decode cRu_lay 65 = .ok (.i2l, 1) := by decide +kernel
theorem dRu_lay_66 : decode cRu_lay 66 = .ok (.bipush 16, 2) := by decide +kernel
theorem dRu_lay_68 : decode cRu_lay 68 = .ok (.invokevirtual 21, 3) := by decide +kernel
theorem dRu_lay_71 : decode cRu_lay 71 = .ok (.iload 4, 2) := by decide +kernel
theorem dRu_lay_73 : decode cRu_lay 73 = .ok (.istore_n 3, 1) := by decide +kernel
theorem dRu_lay_74 : decode cRu_lay 74 = .ok (.iinc 4 1, 3) := by decide +kernel
theorem dRu_lay_77 : decode cRu_lay 77 = .ok (.goto (-61), 3) := by decide +kernel
theorem dRu_lay_80 : decode cRu_lay 80 = .ok (.return_, 1) := by decide +kernel
theorem dSs_lay_0 : decode cSs_lay 0 = .ok (.aload_n 1, 1) := by decide +kernel
theorem dSs_lay_1 : decode cSs_lay 1 = .ok (.invokestatic 15, 3) := by decide +kernel
theorem dSs_lay_4 : decode cSs_lay 4 = .ok (.istore_n 3, 1) := by decide +kernel
theorem dSs_lay_5 : decode cSs_lay 5 = .ok (.aload_n 2, 1) := by decide +kernel
theorem dSs_lay_6 : decode cSs_lay 6 = .ok (.aload_n 1, 1) := by decide +kernel
theorem dSs_lay_7 : decode cSs_lay 7 = .ok (.iconst 0, 1) := by decide +kernel
theorem dSs_lay_8 : decode cSs_lay 8 = .ok (.invokevirtual 25, 3) := by decide +kernel
theorem dSs_lay_11 : decode cSs_lay 11 = .ok (.bipush 64, 2) := by decide +kernel
theorem dSs_lay_13 : decode cSs_lay 13 = .ok (.invokevirtual 29, 3) := by decide +kernel
theorem dSs_lay_16 : decode cSs_lay 16 = .ok (.aload_n 2, 1) := by decide +kernel
theorem dSs_lay_17 : decode cSs_lay 17 = .ok (.aload_n 1, 1) := by decide +kernel
theorem dSs_lay_18 : decode cSs_lay 18 = .ok (.getfield 35, 3) := by decide +kernel
theorem dSs_lay_21 : decode cSs_lay 21 = .ok (.bipush 64, 2) := by decide +kernel
theorem dSs_lay_23 : decode cSs_lay 23 = .ok (.invokevirtual 29, 3) := by decide +kernel
theorem dSs_lay_26 : decode cSs_lay 26 = .ok (.aload_n 2, 1) := by decide +kernel
theorem dSs_lay_27 : decode cSs_lay 27 = .ok (.iload_n 3, 1) := by decide +kernel
theorem dSs_lay_28 : decode cSs_lay 28 = .ok (.i2l, 1) := by decide +kernel
theorem dSs_lay_29 : decode cSs_lay 29 = .ok (.bipush 8, 2) := by decide +kernel
theorem dSs_lay_31 : decode cSs_lay 31 = .ok (.invokevirtual 29, 3) := by decide +kernel
theorem dSs_lay_34 : decode cSs_lay 34 = .ok (.iconst 1, 1) := by decide +kernel
theorem dSs_lay_35 : decode cSs_lay 35 = .ok (.istore 4, 2) := by decide +kernel
theorem dSs_lay_37 : decode cSs_lay 37 = .ok (.iload 4, 2) := by decide +kernel
theorem dSs_lay_39 : decode cSs_lay 39 = .ok (.aload_n 1, 1) := by decide +kernel
theorem dSs_lay_40 : decode cSs_lay 40 = .ok (.getfield 9, 3) := by decide +kernel
theorem dSs_lay_43 : decode cSs_lay 43 = .ok (.if_icmp .ge 34, 3) := by decide +kernel
theorem dSs_lay_46 : decode cSs_lay 46 = .ok (.aload_n 2, 1) := by decide +kernel
theorem dSs_lay_47 : decode cSs_lay 47 = .ok (.aload_n 1, 1) := by decide +kernel
theorem dSs_lay_48 : decode cSs_lay 48 = .ok (.iload 4, 2) := by decide +kernel
theorem dSs_lay_50 : decode cSs_lay 50 = .ok (.invokevirtual 25, 3) := by decide +kernel
theorem dSs_lay_53 : decode cSs_lay 53 = .ok (.aload_n 1, 1) := by decide +kernel
theorem dSs_lay_54 : decode cSs_lay 54 = .ok (.iload 4, 2) := by decide +kernel
theorem dSs_lay_56 : decode cSs_lay 56 = .ok (.iconst 1, 1) := by decide +kernel
theorem dSs_lay_57 : decode cSs_lay 57 = .ok (.isub, 1) := by decide +kernel
theorem dSs_lay_58 : decode cSs_lay 58 = .ok (.invokevirtual 25, 3) := by decide +kernel
theorem dSs_lay_61 : decode cSs_lay 61 = .ok (.lsub, 1) := by decide +kernel
theorem dSs_lay_62 : decode cSs_lay 62 = .ok (.aload_n 1, 1) := by decide +kernel
theorem dSs_lay_63 : decode cSs_lay 63 = .ok (.getfield 35, 3) := by decide +kernel
theorem dSs_lay_66 : decode cSs_lay 66 = .ok (.lsub, 1) := by decide +kernel
theorem dSs_lay_67 : decode cSs_lay 67 = .ok (.iload_n 3, 1) := by decide +kernel
theorem dSs_lay_68 : decode cSs_lay 68 = .ok (.invokevirtual 29, 3) := by decide +kernel
theorem dSs_lay_71 : decode cSs_lay 71 = .ok (.iinc 4 1, 3) := by decide +kernel
theorem dSs_lay_74 : decode cSs_lay 74 = .ok (.goto (-37), 3) := by decide +kernel
theorem dSs_lay_77 : decode cSs_lay 77 = .ok (.return_, 1) := by decide +kernel
theorem dCf_writeAs_0 : decode cCf_writeAs 0 = .ok (.iload_n 1, 1) := by decide +kernel
theorem dCf_writeAs_1 : decode cCf_writeAs 1 = .ok (.invokestatic 75, 3) := by decide +kernel
theorem dCf_writeAs_4 : decode cCf_writeAs 4 = .ok (.aload_n 0, 1) := by decide +kernel
theorem dCf_writeAs_5 : decode cCf_writeAs 5 = .ok (.invokevirtual 79, 3) := by decide +kernel
theorem dCf_writeAs_8 : decode cCf_writeAs 8 = .ok (.aload_n 0, 1) := by decide +kernel
theorem dCf_writeAs_9 : decode cCf_writeAs 9 = .ok (.iload_n 1, 1) := by decide +kernel
theorem dCf_writeAs_10 : decode cCf_writeAs 10 = .ok (.invokevirtual 90, 3) := by decide +kernel
theorem dCf_writeAs_13 : decode cCf_writeAs 13 = .ok (.ireturn, 1) := by decide +kernel
theorem dCf_byteAt_0 : decode cCf_byteAt 0 = .ok (.iload_n 1, 1) := by decide +kernel
theorem dCf_byteAt_1 : decode cCf_byteAt 1 = .ok (.ifCond .lt 14, 3) := by decide +kernel
theorem dCf_byteAt_4 : decode cCf_byteAt 4 = .ok (.iload_n 1, 1) := by decide +kernel
theorem dCf_byteAt_5 : decode cCf_byteAt 5 = .ok (.aload_n 0, 1) := by decide +kernel
theorem dCf_byteAt_6 : decode cCf_byteAt 6 = .ok (.getfield 19, 3) := by decide +kernel
theorem dCf_byteAt_9 : decode cCf_byteAt 9 = .ok (.invokevirtual 94, 3) := by decide +kernel
theorem dCf_byteAt_12 : decode cCf_byteAt 12 = .ok (.if_icmp .lt 13, 3) := by decide +kernel
theorem dCf_byteAt_15 : decode cCf_byteAt 15 = .ok (.new 65, 3) := by decide +kernel
theorem dCf_byteAt_18 : decode cCf_byteAt 18 = .ok (.dup, 1) := by decide +kernel
theorem dCf_byteAt_19 : decode cCf_byteAt 19 = .ok (.ldc 96, 2) := by decide +kernel
theorem dCf_byteAt_21 : decode cCf_byteAt 21 = .ok (.invokespecial 69, 3) := by decide +kernel
theorem dCf_byteAt_24 : decode cCf_byteAt 24 = .ok (.athrow, 1) := by decide +kernel
theorem dCf_byteAt_25 : decode cCf_byteAt 25 = .ok (.aload_n 0, 1) := by decide +kernel
theorem dCf_byteAt_26 : decode cCf_byteAt 26 = .ok (.getfield 19, 3) := by decide +kernel
theorem dCf_byteAt_29 : decode cCf_byteAt 29 = .ok (.iload_n 1, 1) := by decide +kernel
theorem dCf_byteAt_30 : decode cCf_byteAt 30 = .ok (.invokevirtual 98, 3) := by decide +kernel
theorem dCf_byteAt_33 : decode cCf_byteAt 33 = .ok (.ireturn, 1) := by decide +kernel
theorem dBy_octet_0 : decode cBy_octet 0 = .ok (.iload_n 1, 1) := by decide +kernel
theorem dBy_octet_1 : decode cBy_octet 1 = .ok (.ifCond .lt 25, 3) := by decide +kernel
theorem dBy_octet_4 : decode cBy_octet 4 = .ok (.iload_n 1, 1) := by decide +kernel
theorem dBy_octet_5 : decode cBy_octet 5 = .ok (.aload_n 0, 1) := by decide +kernel
theorem dBy_octet_6 : decode cBy_octet 6 = .ok (.getfield 9, 3) := by decide +kernel
theorem dBy_octet_9 : decode cBy_octet 9 = .ok (.arraylength, 1) := by decide +kernel
theorem dBy_octet_10 : decode cBy_octet 10 = .ok (.if_icmp .ge 16, 3) := by decide +kernel
theorem dBy_octet_13 : decode cBy_octet 13 = .ok (.aload_n 0, 1) := by decide +kernel
theorem dBy_octet_14 : decode cBy_octet 14 = .ok (.getfield 9, 3) := by decide +kernel
theorem dBy_octet_17 : decode cBy_octet 17 = .ok (.iload_n 1, 1) := by decide +kernel
theorem dBy_octet_18 : decode cBy_octet 18 = .ok (.baload, 1) := by decide +kernel
theorem dBy_octet_19 : decode cBy_octet 19 = .ok (.sipush 255, 3) := by decide +kernel
theorem dBy_octet_22 : decode cBy_octet 22 = .ok (.iand, 1) := by decide +kernel
theorem dBy_octet_23 : decode cBy_octet 23 = .ok (.goto 4, 3) := by decide +kernel
theorem dBy_octet_26 : decode cBy_octet 26 = .ok (.iconst 0, 1) := by decide +kernel
theorem dBy_octet_27 : decode cBy_octet 27 = .ok (.ireturn, 1) := by decide +kernel
theorem dCf_cell_0 : decode cCf_cell 0 = .ok (.aload_n 0, 1) := by decide +kernel
theorem dCf_cell_1 : decode cCf_cell 1 = .ok (.getfield 44, 3) := by decide +kernel
theorem dCf_cell_4 : decode cCf_cell 4 = .ok (.iconst (-1), 1) := by decide +kernel
theorem dCf_cell_5 : decode cCf_cell 5 = .ok (.if_icmp .eq 15, 3) := by decide +kernel
theorem dCf_cell_8 : decode cCf_cell 8 = .ok (.iload_n 1, 1) := by decide +kernel
theorem dCf_cell_9 : decode cCf_cell 9 = .ok (.ifCond .lt 11, 3) := by decide +kernel
theorem dCf_cell_12 : decode cCf_cell 12 = .ok (.iload_n 1, 1) := by decide +kernel
theorem dCf_cell_13 : decode cCf_cell 13 = .ok (.aload_n 0, 1) := by decide +kernel
theorem dCf_cell_14 : decode cCf_cell 14 = .ok (.getfield 48, 3) := by decide +kernel
theorem dCf_cell_17 : decode cCf_cell 17 = .ok (.if_icmp .lt 13, 3) := by decide +kernel
theorem dCf_cell_20 : decode cCf_cell 20 = .ok (.new 65, 3) := by decide +kernel
theorem dCf_cell_23 : decode cCf_cell 23 = .ok (.dup, 1) := by decide +kernel
theorem dCf_cell_24 : decode cCf_cell 24 = .ok (.ldc 101, 2) := by decide +kernel
theorem dCf_cell_26 : decode cCf_cell 26 = .ok (.invokespecial 69, 3) := by decide +kernel
theorem dCf_cell_29 : decode cCf_cell 29 = .ok (.athrow, 1) := by decide +kernel
theorem dCf_cell_30 : decode cCf_cell 30 = .ok (.aload_n 0, 1) := by decide +kernel
theorem dCf_cell_31 : decode cCf_cell 31 = .ok (.getfield 40, 3) := by decide +kernel
theorem dCf_cell_34 : decode cCf_cell 34 = .ok (.aload_n 0, 1) := by decide +kernel
theorem dCf_cell_35 : decode cCf_cell 35 = .ok (.getfield 44, 3) := by decide +kernel
theorem dCf_cell_38 : decode cCf_cell 38 = .ok (.aaload, 1) := by decide +kernel
theorem dCf_cell_39 : decode cCf_cell 39 = .ok (.aload_n 0, 1) := by decide +kernel
theorem dCf_cell_40 : decode cCf_cell 40 = .ok (.getfield 19, 3) := by decide +kernel
theorem dCf_cell_43 : decode cCf_cell 43 = .ok (.iload_n 1, 1) := by decide +kernel
theorem dCf_cell_44 : decode cCf_cell 44 = .ok (.invokevirtual 103, 3) := by decide +kernel
theorem dCf_cell_47 : decode cCf_cell 47 = .ok (.lreturn, 1) := by decide +kernel
theorem dLi_read_0 : decode cLi_read 0 = .ok (.aload_n 1, 1) := by decide +kernel
theorem dLi_read_1 : decode cLi_read 1 = .ok (.invokestatic 51, 3) := by decide +kernel
theorem dLi_read_4 : decode cLi_read 4 = .ok (.istore_n 3, 1) := by decide +kernel
theorem dLi_read_5 : decode cLi_read 5 = .ok (.iload_n 3, 1) := by decide +kernel
theorem dLi_read_6 : decode cLi_read 6 = .ok (.iconst 1, 1) := by decide +kernel
theorem dLi_read_7 : decode cLi_read 7 = .ok (.isub, 1) := by decide +kernel
theorem dLi_read_8 : decode cLi_read 8 = .ok (.i2l, 1) := by decide +kernel
theorem dLi_read_9 : decode cLi_read 9 = .ok (.invokestatic 28, 3) := by decide +kernel
theorem dLi_read_12 : decode cLi_read 12 = .ok (.istore 4, 2) := by decide +kernel
theorem dLi_read_14 : decode cLi_read 14 = .ok (.aload_n 1, 1) := by decide +kernel
theorem dLi_read_15 : decode cLi_read 15 = .ok (.aload_n 1, 1) := by decide +kernel
theorem dLi_read_16 : decode cLi_read 16 = .ok (.iload_n 3, 1) := by decide +kernel
theorem dLi_read_17 : decode cLi_read 17 = .ok (.invokestatic 21, 3) := by decide +kernel
theorem dLi_read_20 : decode cLi_read 20 = .ok (.iload_n 2, 1) := by decide +kernel
theorem dLi_read_21 : decode cLi_read 21 = .ok (.iload 4, 2) := by decide +kernel
theorem dLi_read_23 : decode cLi_read 23 = .ok (.imul, 1) := by decide +kernel
theorem dLi_read_24 : decode cLi_read 24 = .ok (.iadd, 1) := by decide +kernel
theorem dLi_read_25 : decode cLi_read 25 = .ok (.iload 4, 2) := by decide +kernel
theorem dLi_read_27 : decode cLi_read 27 = .ok (.invokevirtual 55, 3) := by decide +kernel
theorem dLi_read_30 : decode cLi_read 30 = .ok (.l2i, 1) := by decide +kernel
theorem dLi_read_31 : decode cLi_read 31 = .ok (.invokestatic 59, 3) := by decide +kernel
theorem dLi_read_34 : decode cLi_read 34 = .ok (.lreturn, 1) := by decide +kernel
theorem dLi_differentIn_0 : decode cLi_differentIn 0 = .ok (.aload_n 0, 1) := by decide +kernel
theorem dLi_differentIn_1 : decode cLi_differentIn 1 = .ok (.iconst 0, 1) := by decide +kernel
theorem dLi_differentIn_2 : decode cLi_differentIn 2 = .ok (.bipush 16, 2) := by decide +kernel
theorem dLi_differentIn_4 : decode cLi_differentIn 4 = .ok (.invokevirtual 55, 3) := by decide +kernel
theorem dLi_differentIn_7 : decode cLi_differentIn 7 = .ok (.l2i, 1) := by decide +kernel
theorem dLi_differentIn_8 : decode cLi_differentIn 8 = .ok (.ireturn, 1) := by decide +kernel
theorem dBy_bitsAt_0 : decode cBy_bitsAt 0 = .ok (.lconst 0, 1) := by decide +kernel
theorem dBy_bitsAt_1 : decode cBy_bitsAt 1 = .ok (.lstore_n 3, 1) := by decide +kernel
theorem dBy_bitsAt_2 : decode cBy_bitsAt 2 = .ok (.iload_n 1, 1) := by decide +kernel
theorem dBy_bitsAt_3 : decode cBy_bitsAt 3 = .ok (.istore 5, 2) := by decide +kernel
theorem dBy_bitsAt_5 : decode cBy_bitsAt 5 = .ok (.iload_n 2, 1) := by decide +kernel
theorem dBy_bitsAt_6 : decode cBy_bitsAt 6 = .ok (.istore 6, 2) := by decide +kernel
theorem dBy_bitsAt_8 : decode cBy_bitsAt 8 = .ok (.iconst 0, 1) := by decide +kernel
theorem dBy_bitsAt_9 : decode cBy_bitsAt 9 = .ok (.istore 7, 2) := by decide +kernel
theorem dBy_bitsAt_11 : decode cBy_bitsAt 11 = .ok (.iload 7, 2) := by decide +kernel
theorem dBy_bitsAt_13 : decode cBy_bitsAt 13 = .ok (.bipush 9, 2) := by decide +kernel
theorem dBy_bitsAt_15 : decode cBy_bitsAt 15 = .ok (.if_icmp .ge 79, 3) := by decide +kernel
theorem dBy_bitsAt_18 : decode cBy_bitsAt 18 = .ok (.iload 6, 2) := by decide +kernel
theorem dBy_bitsAt_20 : decode cBy_bitsAt 20 = .ok (.ifCond .le 74, 3) := by decide +kernel
theorem dBy_bitsAt_23 : decode cBy_bitsAt 23 = .ok (.bipush 8, 2) := by decide +kernel
theorem dBy_bitsAt_25 : decode cBy_bitsAt 25 = .ok (.iload 5, 2) := by decide +kernel
theorem dBy_bitsAt_27 : decode cBy_bitsAt 27 = .ok (.bipush 7, 2) := by decide +kernel
theorem dBy_bitsAt_29 : decode cBy_bitsAt 29 = .ok (.iand, 1) := by decide +kernel
theorem dBy_bitsAt_30 : decode cBy_bitsAt 30 = .ok (.isub, 1) := by decide +kernel
theorem dBy_bitsAt_31 : decode cBy_bitsAt 31 = .ok (.istore 8, 2) := by decide +kernel
theorem dBy_bitsAt_33 : decode cBy_bitsAt 33 = .ok (.iload 8, 2) := by decide +kernel
theorem dBy_bitsAt_35 : decode cBy_bitsAt 35 = .ok (.iload 6, 2) := by decide +kernel
theorem dBy_bitsAt_37 : decode cBy_bitsAt 37 = .ok (.invokestatic 23, 3) := by decide +kernel
theorem dBy_bitsAt_40 : decode cBy_bitsAt 40 = .ok (.istore 9, 2) := by decide +kernel
theorem dBy_bitsAt_42 : decode cBy_bitsAt 42 = .ok (.aload_n 0, 1) := by decide +kernel
theorem dBy_bitsAt_43 : decode cBy_bitsAt 43 = .ok (.iload 5, 2) := by decide +kernel
theorem dBy_bitsAt_45 : decode cBy_bitsAt 45 = .ok (.iconst 3, 1) := by decide +kernel
theorem dBy_bitsAt_46 : decode cBy_bitsAt 46 = .ok (.ishr, 1) := by decide +kernel
theorem dBy_bitsAt_47 : decode cBy_bitsAt 47 = .ok (.invokevirtual 33, 3) := by decide +kernel
theorem dBy_bitsAt_50 : decode cBy_bitsAt 50 = .ok (.iload 8, 2) := by decide +kernel
theorem dBy_bitsAt_52 : decode cBy_bitsAt 52 = .ok (.iload 9, 2) := by decide +kernel
theorem dBy_bitsAt_54 : decode cBy_bitsAt 54 = .ok (.isub, 1) := by decide +kernel
theorem dBy_bitsAt_55 : decode cBy_bitsAt 55 = .ok (.iushr, 1) := by decide +kernel
theorem dBy_bitsAt_56 : decode cBy_bitsAt 56 = .ok (.iconst 1, 1) := by decide +kernel
theorem dBy_bitsAt_57 : decode cBy_bitsAt 57 = .ok (.iload 9, 2) := by decide +kernel
theorem dBy_bitsAt_59 : decode cBy_bitsAt 59 = .ok (.ishl, 1) := by decide +kernel
theorem dBy_bitsAt_60 : decode cBy_bitsAt 60 = .ok (.iconst 1, 1) := by decide +kernel
theorem dBy_bitsAt_61 : decode cBy_bitsAt 61 = .ok (.isub, 1) := by decide +kernel
theorem dBy_bitsAt_62 : decode cBy_bitsAt 62 = .ok (.iand, 1) := by decide +kernel
theorem dBy_bitsAt_63 : decode cBy_bitsAt 63 = .ok (.istore 10, 2) := by decide +kernel
theorem dBy_bitsAt_65 : decode cBy_bitsAt 65 = .ok (.lload_n 3, 1) := by decide +kernel
theorem dBy_bitsAt_66 : decode cBy_bitsAt 66 = .ok (.iload 9, 2) := by decide +kernel
theorem dBy_bitsAt_68 : decode cBy_bitsAt 68 = .ok (.lshl, 1) := by decide +kernel
theorem dBy_bitsAt_69 : decode cBy_bitsAt 69 = .ok (.iload 10, 2) := by decide +kernel
theorem dBy_bitsAt_71 : decode cBy_bitsAt 71 = .ok (.i2l, 1) := by decide +kernel
theorem dBy_bitsAt_72 : decode cBy_bitsAt 72 = .ok (.lor, 1) := by decide +kernel
theorem dBy_bitsAt_73 : decode cBy_bitsAt 73 = .ok (.lstore_n 3, 1) := by decide +kernel
theorem dBy_bitsAt_74 : decode cBy_bitsAt 74 = .ok (.iload 5, 2) := by decide +kernel
theorem dBy_bitsAt_76 : decode cBy_bitsAt 76 = .ok (.iload 9, 2) := by decide +kernel
theorem dBy_bitsAt_78 : decode cBy_bitsAt 78 = .ok (.iadd, 1) := by decide +kernel
theorem dBy_bitsAt_79 : decode cBy_bitsAt 79 = .ok (.istore 5, 2) := by decide +kernel
theorem dBy_bitsAt_81 : decode cBy_bitsAt 81 = .ok (.iload 6, 2) := by decide +kernel
theorem dBy_bitsAt_83 : decode cBy_bitsAt 83 = .ok (.iload 9, 2) := by decide +kernel
theorem dBy_bitsAt_85 : decode cBy_bitsAt 85 = .ok (.isub, 1) := by decide +kernel
theorem dBy_bitsAt_86 : decode cBy_bitsAt 86 = .ok (.istore 6, 2) := by decide +kernel
theorem dBy_bitsAt_88 : decode cBy_bitsAt 88 = .ok (.iinc 7 1, 3) := by decide +kernel
theorem dBy_bitsAt_91 : decode cBy_bitsAt 91 = .ok (.goto (-80), 3) := by decide +kernel
theorem dBy_bitsAt_94 : decode cBy_bitsAt 94 = .ok (.lload_n 3, 1) := by decide +kernel
theorem dBy_bitsAt_95 : decode cBy_bitsAt 95 = .ok (.lreturn, 1) := by decide +kernel
theorem dLi_listedAt_0 : decode cLi_listedAt 0 = .ok (.aload_n 0, 1) := by decide +kernel
theorem dLi_listedAt_1 : decode cLi_listedAt 1 = .ok (.bipush 16, 2) := by decide +kernel
theorem dLi_listedAt_3 : decode cLi_listedAt 3 = .ok (.bipush 64, 2) := by decide +kernel
theorem dLi_listedAt_5 : decode cLi_listedAt 5 = .ok (.iload_n 1, 1) := by decide +kernel
theorem dLi_listedAt_6 : decode cLi_listedAt 6 = .ok (.imul, 1) := by decide +kernel
theorem dLi_listedAt_7 : decode cLi_listedAt 7 = .ok (.iadd, 1) := by decide +kernel
theorem dLi_listedAt_8 : decode cLi_listedAt 8 = .ok (.bipush 64, 2) := by decide +kernel
theorem dLi_listedAt_10 : decode cLi_listedAt 10 = .ok (.invokevirtual 55, 3) := by decide +kernel
theorem dLi_listedAt_13 : decode cLi_listedAt 13 = .ok (.lreturn, 1) := by decide +kernel
theorem dPa_read_0 : decode cPa_read 0 = .ok (.aload_n 1, 1) := by decide +kernel
theorem dPa_read_1 : decode cPa_read 1 = .ok (.bipush 64, 2) := by decide +kernel
theorem dPa_read_3 : decode cPa_read 3 = .ok (.bipush 8, 2) := by decide +kernel
theorem dPa_read_5 : decode cPa_read 5 = .ok (.invokevirtual 39, 3) := by decide +kernel
theorem dPa_read_8 : decode cPa_read 8 = .ok (.l2i, 1) := by decide +kernel
theorem dPa_read_9 : decode cPa_read 9 = .ok (.istore_n 3, 1) := by decide +kernel
theorem dPa_read_10 : decode cPa_read 10 = .ok (.aload_n 1, 1) := by decide +kernel
theorem dPa_read_11 : decode cPa_read 11 = .ok (.iconst 0, 1) := by decide +kernel
theorem dPa_read_12 : decode cPa_read 12 = .ok (.bipush 64, 2) := by decide +kernel
theorem dPa_read_14 : decode cPa_read 14 = .ok (.invokevirtual 39, 3) := by decide +kernel
theorem dPa_read_17 : decode cPa_read 17 = .ok (.aload_n 1, 1) := by decide +kernel
theorem dPa_read_18 : decode cPa_read 18 = .ok (.bipush 72, 2) := by decide +kernel
theorem dPa_read_20 : decode cPa_read 20 = .ok (.iload_n 2, 1) := by decide +kernel
theorem dPa_read_21 : decode cPa_read 21 = .ok (.iload_n 3, 1) := by decide +kernel
theorem dPa_read_22 : decode cPa_read 22 = .ok (.imul, 1) := by decide +kernel
theorem dPa_read_23 : decode cPa_read 23 = .ok (.iadd, 1) := by decide +kernel
theorem dPa_read_24 : decode cPa_read 24 = .ok (.iload_n 3, 1) := by decide +kernel
theorem dPa_read_25 : decode cPa_read 25 = .ok (.invokevirtual 39, 3) := by decide +kernel
theorem dPa_read_28 : decode cPa_read 28 = .ok (.ladd, 1) := by decide +kernel
theorem dPa_read_29 : decode cPa_read 29 = .ok (.lreturn, 1) := by decide +kernel
theorem dPl_read_0 : decode cPl_read 0 = .ok (.aload_n 1, 1) := by decide +kernel
theorem dPl_read_1 : decode cPl_read 1 = .ok (.bipush 64, 2) := by decide +kernel
theorem dPl_read_3 : decode cPl_read 3 = .ok (.iload_n 2, 1) := by decide +kernel
theorem dPl_read_4 : decode cPl_read 4 = .ok (.imul, 1) := by decide +kernel
theorem dPl_read_5 : decode cPl_read 5 = .ok (.bipush 64, 2) := by decide +kernel
theorem dPl_read_7 : decode cPl_read 7 = .ok (.invokevirtual 23, 3) := by decide +kernel
theorem dPl_read_10 : decode cPl_read 10 = .ok (.lreturn, 1) := by decide +kernel
theorem dRu_read_0 : decode cRu_read 0 = .ok (.aload_n 1, 1) := by decide +kernel
theorem dRu_read_1 : decode cRu_read 1 = .ok (.invokestatic 34, 3) := by decide +kernel
theorem dRu_read_4 : decode cRu_read 4 = .ok (.istore_n 3, 1) := by decide +kernel
theorem dRu_read_5 : decode cRu_read 5 = .ok (.iconst 0, 1) := by decide +kernel
theorem dRu_read_6 : decode cRu_read 6 = .ok (.istore 4, 2) := by decide +kernel
theorem dRu_read_8 : decode cRu_read 8 = .ok (.iconst 0, 1) := by decide +kernel
theorem dRu_read_9 : decode cRu_read 9 = .ok (.istore 5, 2) := by decide +kernel
theorem dRu_read_11 : decode cRu_read 11 = .ok (.iload 5, 2) := by decide +kernel
theorem dRu_read_13 : decode cRu_read 13 = .ok (.iload_n 3, 1) := by decide +kernel
theorem dRu_read_14 : decode cRu_read 14 = .ok (.if_icmp .ge 33, 3) := by decide +kernel
theorem dRu_read_17 : decode cRu_read 17 = .ok (.iload 4, 2) := by decide +kernel
theorem dRu_read_19 : decode cRu_read 19 = .ok (.aload_n 1, 1) := by decide +kernel
theorem dRu_read_20 : decode cRu_read 20 = .ok (.iload 5, 2) := by decide +kernel
theorem dRu_read_22 : decode cRu_read 22 = .ok (.invokestatic 38, 3) := by decide +kernel
theorem dRu_read_25 : decode cRu_read 25 = .ok (.iadd, 1) := by decide +kernel
theorem dRu_read_26 : decode cRu_read 26 = .ok (.istore 4, 2) := by decide +kernel
theorem dRu_read_28 : decode cRu_read 28 = .ok (.iload_n 2, 1) := by decide +kernel
theorem dRu_read_29 : decode cRu_read 29 = .ok (.iload 4, 2) := by decide +kernel
theorem dRu_read_31 : decode cRu_read 31 = .ok (.if_icmp .ge 10, 3) := by decide +kernel
theorem dRu_read_34 : decode cRu_read 34 = .ok (.aload_n 1, 1) := by decide +kernel
theorem dRu_read_35 : decode cRu_read 35 = .ok (.iload 5, 2) := by decide +kernel
theorem dRu_read_37 : decode cRu_read 37 = .ok (.invokestatic 42, 3) := by decide +kernel
theorem dRu_read_40 : decode cRu_read 40 = .ok (.lreturn, 1) := by decide +kernel
theorem dRu_read_41 : decode cRu_read 41 = .ok (.iinc 5 1, 3) := by decide +kernel
theorem dRu_read_44 : decode cRu_read 44 = .ok (.goto (-33), 3) := by decide +kernel
theorem dRu_read_47 : decode cRu_read 47 = .ok (.lconst 0, 1) := by decide +kernel
theorem dRu_read_48 : decode cRu_read 48 = .ok (.lreturn, 1) := by decide +kernel
theorem dRu_runsIn_0 : decode cRu_runsIn 0 = .ok (.aload_n 0, 1) := by decide +kernel
theorem dRu_runsIn_1 : decode cRu_runsIn 1 = .ok (.iconst 0, 1) := by decide +kernel
theorem dRu_runsIn_2 : decode cRu_runsIn 2 = .ok (.bipush 16, 2) := by decide +kernel
theorem dRu_runsIn_4 : decode cRu_runsIn 4 = .ok (.invokevirtual 51, 3) := by decide +kernel
theorem dRu_runsIn_7 : decode cRu_runsIn 7 = .ok (.l2i, 1) := by decide +kernel
theorem dRu_runsIn_8 : decode cRu_runsIn 8 = .ok (.ireturn, 1) := by decide +kernel
theorem dRu_lengthOf_0 : decode cRu_lengthOf 0 = .ok (.aload_n 0, 1) := by decide +kernel
theorem dRu_lengthOf_1 : decode cRu_lengthOf 1 = .ok (.bipush 16, 2) := by decide +kernel
theorem dRu_lengthOf_3 : decode cRu_lengthOf 3 = .ok (.bipush 80, 2) := by decide +kernel
theorem dRu_lengthOf_5 : decode cRu_lengthOf 5 = .ok (.iload_n 1, 1) := by decide +kernel
theorem dRu_lengthOf_6 : decode cRu_lengthOf 6 = .ok (.imul, 1) := by decide +kernel
theorem dRu_lengthOf_7 : decode cRu_lengthOf 7 = .ok (.iadd, 1) := by decide +kernel
theorem dRu_lengthOf_8 : decode cRu_lengthOf 8 = .ok (.bipush 64, 2) := by decide +kernel
theorem dRu_lengthOf_10 : decode cRu_lengthOf 10 = .ok (.iadd, 1) := by decide +kernel
theorem dRu_lengthOf_11 : decode cRu_lengthOf 11 = .ok (.bipush 16, 2) := by decide +kernel
theorem dRu_lengthOf_13 : decode cRu_lengthOf 13 = .ok (.invokevirtual 51, 3) := by decide +kernel
theorem dRu_lengthOf_16 : decode cRu_lengthOf 16 = .ok (.l2i, 1) := by decide +kernel
theorem dRu_lengthOf_17 : decode cRu_lengthOf 17 = .ok (.ireturn, 1) := by decide +kernel
theorem dRu_cellOf_0 : decode cRu_cellOf 0 = .ok (.aload_n 0, 1) := by decide +kernel
theorem dRu_cellOf_1 : decode cRu_cellOf 1 = .ok (.bipush 16, 2) := by decide +kernel
theorem dRu_cellOf_3 : decode cRu_cellOf 3 = .ok (.bipush 80, 2) := by decide +kernel
theorem dRu_cellOf_5 : decode cRu_cellOf 5 = .ok (.iload_n 1, 1) := by decide +kernel
theorem dRu_cellOf_6 : decode cRu_cellOf 6 = .ok (.imul, 1) := by decide +kernel
theorem dRu_cellOf_7 : decode cRu_cellOf 7 = .ok (.iadd, 1) := by decide +kernel
theorem dRu_cellOf_8 : decode cRu_cellOf 8 = .ok (.bipush 64, 2) := by decide +kernel
theorem dRu_cellOf_10 : decode cRu_cellOf 10 = .ok (.invokevirtual 51, 3) := by decide +kernel
theorem dRu_cellOf_13 : decode cRu_cellOf 13 = .ok (.lreturn, 1) := by decide +kernel
theorem dSs_read_0 : decode cSs_read 0 = .ok (.aload_n 1, 1) := by decide +kernel
theorem dSs_read_1 : decode cSs_read 1 = .ok (.invokestatic 39, 3) := by decide +kernel
theorem dSs_read_4 : decode cSs_read 4 = .ok (.istore_n 3, 1) := by decide +kernel
theorem dSs_read_5 : decode cSs_read 5 = .ok (.aload_n 1, 1) := by decide +kernel
theorem dSs_read_6 : decode cSs_read 6 = .ok (.iconst 0, 1) := by decide +kernel
theorem dSs_read_7 : decode cSs_read 7 = .ok (.bipush 64, 2) := by decide +kernel
theorem dSs_read_9 : decode cSs_read 9 = .ok (.invokevirtual 43, 3) := by decide +kernel
theorem dSs_read_12 : decode cSs_read 12 = .ok (.iload_n 2, 1) := by decide +kernel
theorem dSs_read_13 : decode cSs_read 13 = .ok (.i2l, 1) := by decide +kernel
theorem dSs_read_14 : decode cSs_read 14 = .ok (.aload_n 1, 1) := by decide +kernel
theorem dSs_read_15 : decode cSs_read 15 = .ok (.bipush 64, 2) := by decide +kernel
theorem dSs_read_17 : decode cSs_read 17 = .ok (.bipush 64, 2) := by decide +kernel
theorem dSs_read_19 : decode cSs_read 19 = .ok (.invokevirtual 43, 3) := by decide +kernel
theorem dSs_read_22 : decode cSs_read 22 = .ok (.lmul, 1) := by decide +kernel
theorem dSs_read_23 : decode cSs_read 23 = .ok (.ladd, 1) := by decide +kernel
theorem dSs_read_24 : decode cSs_read 24 = .ok (.lstore 4, 2) := by decide +kernel
theorem dSs_read_26 : decode cSs_read 26 = .ok (.iconst 0, 1) := by decide +kernel
theorem dSs_read_27 : decode cSs_read 27 = .ok (.istore 6, 2) := by decide +kernel
theorem dSs_read_29 : decode cSs_read 29 = .ok (.iload 6, 2) := by decide +kernel
theorem dSs_read_31 : decode cSs_read 31 = .ok (.iload_n 2, 1) := by decide +kernel
theorem dSs_read_32 : decode cSs_read 32 = .ok (.if_icmp .ge 27, 3) := by decide +kernel
theorem dSs_read_35 : decode cSs_read 35 = .ok (.lload 4, 2) := by decide +kernel
theorem dSs_read_37 : decode cSs_read 37 = .ok (.aload_n 1, 1) := by decide +kernel
theorem dSs_read_38 : decode cSs_read 38 = .ok (.sipush 136, 3) := by decide +kernel
theorem dSs_read_41 : decode cSs_read 41 = .ok (.iload 6, 2) := by decide +kernel
theorem dSs_read_43 : decode cSs_read 43 = .ok (.iload_n 3, 1) := by decide +kernel
theorem dSs_read_44 : decode cSs_read 44 = .ok (.imul, 1) := by decide +kernel
theorem dSs_read_45 : decode cSs_read 45 = .ok (.iadd, 1) := by decide +kernel
theorem dSs_read_46 : decode cSs_read 46 = .ok (.iload_n 3, 1) := by decide +kernel
theorem dSs_read_47 : decode cSs_read 47 = .ok (.invokevirtual 43, 3) := by decide +kernel
theorem dSs_read_50 : decode cSs_read 50 = .ok (.ladd, 1) := by decide +kernel
theorem dSs_read_51 : decode cSs_read 51 = .ok (.lstore 4, 2) := by decide +kernel
theorem dSs_read_53 : decode cSs_read 53 = .ok (.iinc 6 1, 3) := by decide +kernel
theorem dSs_read_56 : decode cSs_read 56 = .ok (.goto (-27), 3) := by decide +kernel
theorem dSs_read_59 : decode cSs_read 59 = .ok (.lload 4, 2) := by decide +kernel
theorem dSs_read_61 : decode cSs_read 61 = .ok (.lreturn, 1) := by decide +kernel
theorem dSs_widthIn_0 : decode cSs_widthIn 0 = .ok (.aload_n 0, 1) := by decide +kernel
theorem dSs_widthIn_1 : decode cSs_widthIn 1 = .ok (.sipush 128, 3) := by decide +kernel
theorem dSs_widthIn_4 : decode cSs_widthIn 4 = .ok (.bipush 8, 2) := by decide +kernel
theorem dSs_widthIn_6 : decode cSs_widthIn 6 = .ok (.invokevirtual 43, 3) := by decide +kernel
theorem dSs_widthIn_9 : decode cSs_widthIn 9 = .ok (.l2i, 1) := by decide +kernel
theorem dSs_widthIn_10 : decode cSs_widthIn 10 = .ok (.ireturn, 1) := by decide +kernel
theorem dCf_count_0 : decode cCf_count 0 = .ok (.iload_n 1, 1) := by decide +kernel
theorem dCf_count_1 : decode cCf_count 1 = .ok (.ifCond .lt 8, 3) := by decide +kernel
theorem dCf_count_4 : decode cCf_count 4 = .ok (.iload_n 1, 1) := by decide +kernel
theorem dCf_count_5 : decode cCf_count 5 = .ok (.iconst 4, 1) := by decide +kernel
theorem dCf_count_6 : decode cCf_count 6 = .ok (.if_icmp .lt 13, 3) := by decide +kernel
theorem dCf_count_9 : decode cCf_count 9 = .ok (.new 65, 3) := by decide +kernel
theorem dCf_count_12 : decode cCf_count 12 = .ok (.dup, 1) := by decide +kernel
theorem dCf_count_13 : decode cCf_count 13 = .ok (.ldc 107, 2) := by decide +kernel
theorem dCf_count_15 : decode cCf_count 15 = .ok (.invokespecial 69, 3) := by decide +kernel
theorem dCf_count_18 : decode cCf_count 18 = .ok (.athrow, 1) := by decide +kernel
theorem dCf_count_19 : decode cCf_count 19 = .ok (.aload_n 0, 1) := by decide +kernel
theorem dCf_count_20 : decode cCf_count 20 = .ok (.invokevirtual 109, 3) := by decide +kernel
theorem dCf_count_23 : decode cCf_count 23 = .ok (.new 112, 3) := by decide +kernel
theorem dCf_count_26 : decode cCf_count 26 = .ok (.dup, 1) := by decide +kernel
theorem dCf_count_27 : decode cCf_count 27 = .ok (.iload_n 1, 1) := by decide +kernel
theorem dCf_count_28 : decode cCf_count 28 = .ok (.lload_n 2, 1) := by decide +kernel
theorem dCf_count_29 : decode cCf_count 29 = .ok (.lload_n 2, 1) := by decide +kernel
theorem dCf_count_30 : decode cCf_count 30 = .ok (.invokespecial 114, 3) := by decide +kernel
theorem dCf_count_33 : decode cCf_count 33 = .ok (.astore 4, 2) := by decide +kernel
theorem dCf_count_35 : decode cCf_count 35 = .ok (.aload_n 0, 1) := by decide +kernel
theorem dCf_count_36 : decode cCf_count 36 = .ok (.getfield 40, 3) := by decide +kernel
theorem dCf_count_39 : decode cCf_count 39 = .ok (.aload_n 0, 1) := by decide +kernel
theorem dCf_count_40 : decode cCf_count 40 = .ok (.getfield 44, 3) := by decide +kernel
theorem dCf_count_43 : decode cCf_count 43 = .ok (.aaload, 1) := by decide +kernel
theorem dCf_count_44 : decode cCf_count 44 = .ok (.aload_n 0, 1) := by decide +kernel
theorem dCf_count_45 : decode cCf_count 45 = .ok (.getfield 19, 3) := by decide +kernel
theorem dCf_count_48 : decode cCf_count 48 = .ok (.aload_n 0, 1) := by decide +kernel
theorem dCf_count_49 : decode cCf_count 49 = .ok (.getfield 48, 3) := by decide +kernel
theorem dCf_count_52 : decode cCf_count 52 = .ok (.aload 4, 2) := by decide +kernel
theorem dCf_count_54 : decode cCf_count 54 = .ok (.invokevirtual 117, 3) := by decide +kernel
theorem dCf_count_57 : decode cCf_count 57 = .ok (.aload 4, 2) := by decide +kernel
theorem dCf_count_59 : decode cCf_count 59 = .ok (.getfield 121, 3) := by decide +kernel
theorem dCf_count_62 : decode cCf_count 62 = .ok (.ireturn, 1) := by decide +kernel
theorem dCf_refuseNoColumn_0 : decode cCf_refuseNoColumn 0 = .ok (.aload_n 0, 1) := by decide +kernel
theorem dCf_refuseNoColumn_1 : decode cCf_refuseNoColumn 1 = .ok (.getfield 44, 3) := by decide +kernel
theorem dCf_refuseNoColumn_4 : decode cCf_refuseNoColumn 4 = .ok (.iconst (-1), 1) := by decide +kernel
theorem dCf_refuseNoColumn_5 : decode cCf_refuseNoColumn 5 = .ok (.if_icmp .ne 13, 3) := by decide +kernel
theorem dCf_refuseNoColumn_8 : decode cCf_refuseNoColumn 8 = .ok (.new 54, 3) := by decide +kernel
theorem dCf_refuseNoColumn_11 : decode cCf_refuseNoColumn 11 = .ok (.dup, 1) := by decide +kernel
theorem dCf_refuseNoColumn_12 : decode cCf_refuseNoColumn 12 = .ok (.ldc 132, 2) := by decide +kernel
theorem dCf_refuseNoColumn_14 : decode cCf_refuseNoColumn 14 = .ok (.invokespecial 58, 3) := by decide +kernel
theorem dCf_refuseNoColumn_17 : decode cCf_refuseNoColumn 17 = .ok (.athrow, 1) := by decide +kernel
theorem dCf_refuseNoColumn_18 : decode cCf_refuseNoColumn 18 = .ok (.return_, 1) := by decide +kernel
theorem dQu_init_0 : decode cQu_init 0 = .ok (.aload_n 0, 1) := by decide +kernel
theorem dQu_init_1 : decode cQu_init 1 = .ok (.invokespecial 1, 3) := by decide +kernel
theorem dQu_init_4 : decode cQu_init 4 = .ok (.aload_n 0, 1) := by decide +kernel
theorem dQu_init_5 : decode cQu_init 5 = .ok (.iload_n 1, 1) := by decide +kernel
theorem dQu_init_6 : decode cQu_init 6 = .ok (.putfield 7, 3) := by decide +kernel
theorem dQu_init_9 : decode cQu_init 9 = .ok (.aload_n 0, 1) := by decide +kernel
theorem dQu_init_10 : decode cQu_init 10 = .ok (.lload_n 2, 1) := by decide +kernel
theorem dQu_init_11 : decode cQu_init 11 = .ok (.putfield 13, 3) := by decide +kernel
theorem dQu_init_14 : decode cQu_init 14 = .ok (.aload_n 0, 1) := by decide +kernel
theorem dQu_init_15 : decode cQu_init 15 = .ok (.lload 4, 2) := by decide +kernel
theorem dQu_init_17 : decode cQu_init 17 = .ok (.putfield 17, 3) := by decide +kernel
theorem dQu_init_20 : decode cQu_init 20 = .ok (.return_, 1) := by decide +kernel
theorem dLi_askAll_0 : decode cLi_askAll 0 = .ok (.aload_n 1, 1) := by decide +kernel
theorem dLi_askAll_1 : decode cLi_askAll 1 = .ok (.invokestatic 51, 3) := by decide +kernel
theorem dLi_askAll_4 : decode cLi_askAll 4 = .ok (.aload_n 0, 1) := by decide +kernel
theorem dLi_askAll_5 : decode cLi_askAll 5 = .ok (.getfield 9, 3) := by decide +kernel
theorem dLi_askAll_8 : decode cLi_askAll 8 = .ok (.arraylength, 1) := by decide +kernel
theorem dLi_askAll_9 : decode cLi_askAll 9 = .ok (.invokestatic 63, 3) := by decide +kernel
theorem dLi_askAll_12 : decode cLi_askAll 12 = .ok (.istore 4, 2) := by decide +kernel
theorem dLi_askAll_14 : decode cLi_askAll 14 = .ok (.aload_n 0, 1) := by decide +kernel
theorem dLi_askAll_15 : decode cLi_askAll 15 = .ok (.aload_n 1, 1) := by decide +kernel
theorem dLi_askAll_16 : decode cLi_askAll 16 = .ok (.iload_n 2, 1) := by decide +kernel
theorem dLi_askAll_17 : decode cLi_askAll 17 = .ok (.iload 4, 2) := by decide +kernel
theorem dLi_askAll_19 : decode cLi_askAll 19 = .ok (.invokevirtual 69, 3) := by decide +kernel
theorem dLi_askAll_22 : decode cLi_askAll 22 = .ok (.iconst 0, 1) := by decide +kernel
theorem dLi_askAll_23 : decode cLi_askAll 23 = .ok (.istore 5, 2) := by decide +kernel
theorem dLi_askAll_25 : decode cLi_askAll 25 = .ok (.iload 5, 2) := by decide +kernel
theorem dLi_askAll_27 : decode cLi_askAll 27 = .ok (.iload 4, 2) := by decide +kernel
theorem dLi_askAll_29 : decode cLi_askAll 29 = .ok (.if_icmp .ge 26, 3) := by decide +kernel
theorem dLi_askAll_32 : decode cLi_askAll 32 = .ok (.aload_n 3, 1) := by decide +kernel
theorem dLi_askAll_33 : decode cLi_askAll 33 = .ok (.aload_n 1, 1) := by decide +kernel
theorem dLi_askAll_34 : decode cLi_askAll 34 = .ok (.iload 5, 2) := by decide +kernel
theorem dLi_askAll_36 : decode cLi_askAll 36 = .ok (.invokestatic 59, 3) := by decide +kernel
theorem dLi_askAll_39 : decode cLi_askAll 39 = .ok (.aload_n 0, 1) := by decide +kernel
theorem dLi_askAll_40 : decode cLi_askAll 40 = .ok (.getfield 9, 3) := by decide +kernel
theorem dLi_askAll_43 : decode cLi_askAll 43 = .ok (.iload 5, 2) := by decide +kernel
theorem dLi_askAll_45 : decode cLi_askAll 45 = .ok (.iaload, 1) := by decide +kernel
theorem dLi_askAll_46 : decode cLi_askAll 46 = .ok (.invokevirtual 73, 3) := by decide +kernel
theorem dLi_askAll_49 : decode cLi_askAll 49 = .ok (.iinc 5 1, 3) := by decide +kernel
theorem dLi_askAll_52 : decode cLi_askAll 52 = .ok (.goto (-27), 3) := by decide +kernel
theorem dLi_askAll_55 : decode cLi_askAll 55 = .ok (.return_, 1) := by decide +kernel
theorem dLi_countPlaces_0 : decode cLi_countPlaces 0 = .ok (.aload_n 0, 1) := by decide +kernel
theorem dLi_countPlaces_1 : decode cLi_countPlaces 1 = .ok (.getfield 9, 3) := by decide +kernel
theorem dLi_countPlaces_4 : decode cLi_countPlaces 4 = .ok (.iconst 0, 1) := by decide +kernel
theorem dLi_countPlaces_5 : decode cLi_countPlaces 5 = .ok (.invokestatic 78, 3) := by decide +kernel
theorem dLi_countPlaces_8 : decode cLi_countPlaces 8 = .ok (.iload_n 3, 1) := by decide +kernel
theorem dLi_countPlaces_9 : decode cLi_countPlaces 9 = .ok (.iconst 1, 1) := by decide +kernel
theorem dLi_countPlaces_10 : decode cLi_countPlaces 10 = .ok (.isub, 1) := by decide +kernel
theorem dLi_countPlaces_11 : decode cLi_countPlaces 11 = .ok (.i2l, 1) := by decide +kernel
theorem dLi_countPlaces_12 : decode cLi_countPlaces 12 = .ok (.invokestatic 28, 3) := by decide +kernel
theorem dLi_countPlaces_15 : decode cLi_countPlaces 15 = .ok (.istore 4, 2) := by decide +kernel
theorem dLi_countPlaces_17 : decode cLi_countPlaces 17 = .ok (.iload_n 3, 1) := by decide +kernel
theorem dLi_countPlaces_18 : decode cLi_countPlaces 18 = .ok (.invokestatic 21, 3) := by decide +kernel
theorem dLi_countPlaces_21 : decode cLi_countPlaces 21 = .ok (.istore 5, 2) := by decide +kernel
theorem dLi_countPlaces_23 : decode cLi_countPlaces 23 = .ok (.iconst 0, 1) := by decide +kernel
