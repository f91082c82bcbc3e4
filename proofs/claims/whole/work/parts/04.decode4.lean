theorem dLi_countPlaces_24 : decode cLi_countPlaces 24 = .ok (.istore 6, 2) := by decide +kernel
theorem dLi_countPlaces_26 : decode cLi_countPlaces 26 = .ok (.iload 6, 2) := by decide +kernel
theorem dLi_countPlaces_28 : decode cLi_countPlaces 28 = .ok (.iload_n 2, 1) := by decide +kernel
theorem dLi_countPlaces_29 : decode cLi_countPlaces 29 = .ok (.if_icmp .ge 52, 3) := by decide +kernel
theorem dLi_countPlaces_32 : decode cLi_countPlaces 32 = .ok (.aload_n 1, 1) := by decide +kernel
theorem dLi_countPlaces_33 : decode cLi_countPlaces 33 = .ok (.iload 5, 2) := by decide +kernel
theorem dLi_countPlaces_35 : decode cLi_countPlaces 35 = .ok (.iload 6, 2) := by decide +kernel
theorem dLi_countPlaces_37 : decode cLi_countPlaces 37 = .ok (.iload 4, 2) := by decide +kernel
theorem dLi_countPlaces_39 : decode cLi_countPlaces 39 = .ok (.imul, 1) := by decide +kernel
theorem dLi_countPlaces_40 : decode cLi_countPlaces 40 = .ok (.iadd, 1) := by decide +kernel
theorem dLi_countPlaces_41 : decode cLi_countPlaces 41 = .ok (.iload 4, 2) := by decide +kernel
theorem dLi_countPlaces_43 : decode cLi_countPlaces 43 = .ok (.invokevirtual 55, 3) := by decide +kernel
theorem dLi_countPlaces_46 : decode cLi_countPlaces 46 = .ok (.l2i, 1) := by decide +kernel
theorem dLi_countPlaces_47 : decode cLi_countPlaces 47 = .ok (.istore 7, 2) := by decide +kernel
theorem dLi_countPlaces_49 : decode cLi_countPlaces 49 = .ok (.iload 7, 2) := by decide +kernel
theorem dLi_countPlaces_51 : decode cLi_countPlaces 51 = .ok (.ifCond .lt 24, 3) := by decide +kernel
theorem dLi_countPlaces_54 : decode cLi_countPlaces 54 = .ok (.iload 7, 2) := by decide +kernel
theorem dLi_countPlaces_56 : decode cLi_countPlaces 56 = .ok (.aload_n 0, 1) := by decide +kernel
theorem dLi_countPlaces_57 : decode cLi_countPlaces 57 = .ok (.getfield 9, 3) := by decide +kernel
theorem dLi_countPlaces_60 : decode cLi_countPlaces 60 = .ok (.arraylength, 1) := by decide +kernel
theorem dLi_countPlaces_61 : decode cLi_countPlaces 61 = .ok (.if_icmp .ge 14, 3) := by decide +kernel
theorem dLi_countPlaces_64 : decode cLi_countPlaces 64 = .ok (.aload_n 0, 1) := by decide +kernel
theorem dLi_countPlaces_65 : decode cLi_countPlaces 65 = .ok (.getfield 9, 3) := by decide +kernel
theorem dLi_countPlaces_68 : decode cLi_countPlaces 68 = .ok (.iload 7, 2) := by decide +kernel
theorem dLi_countPlaces_70 : decode cLi_countPlaces 70 = .ok (.dup2, 1) := by decide +kernel
theorem dLi_countPlaces_71 : decode cLi_countPlaces 71 = .ok (.iaload, 1) := by decide +kernel
theorem dLi_countPlaces_72 : decode cLi_countPlaces 72 = .ok (.iconst 1, 1) := by decide +kernel
theorem dLi_countPlaces_73 : decode cLi_countPlaces 73 = .ok (.iadd, 1) := by decide +kernel
theorem dLi_countPlaces_74 : decode cLi_countPlaces 74 = .ok (.iastore, 1) := by decide +kernel
theorem dLi_countPlaces_75 : decode cLi_countPlaces 75 = .ok (.iinc 6 1, 3) := by decide +kernel
theorem dLi_countPlaces_78 : decode cLi_countPlaces 78 = .ok (.goto (-52), 3) := by decide +kernel
theorem dLi_countPlaces_81 : decode cLi_countPlaces 81 = .ok (.return_, 1) := by decide +kernel
theorem dJA_fill_0 : decode cJA_fill 0 = .ok (.iconst 0, 1) := by decide +kernel
theorem dJA_fill_1 : decode cJA_fill 1 = .ok (.istore_n 2, 1) := by decide +kernel
theorem dJA_fill_2 : decode cJA_fill 2 = .ok (.aload_n 0, 1) := by decide +kernel
theorem dJA_fill_3 : decode cJA_fill 3 = .ok (.arraylength, 1) := by decide +kernel
theorem dJA_fill_4 : decode cJA_fill 4 = .ok (.istore_n 3, 1) := by decide +kernel
theorem dJA_fill_5 : decode cJA_fill 5 = .ok (.iload_n 2, 1) := by decide +kernel
theorem dJA_fill_6 : decode cJA_fill 6 = .ok (.iload_n 3, 1) := by decide +kernel
theorem dJA_fill_7 : decode cJA_fill 7 = .ok (.if_icmp .ge 13, 3) := by decide +kernel
theorem dJA_fill_10 : decode cJA_fill 10 = .ok (.aload_n 0, 1) := by decide +kernel
theorem dJA_fill_11 : decode cJA_fill 11 = .ok (.iload_n 2, 1) := by decide +kernel
theorem dJA_fill_12 : decode cJA_fill 12 = .ok (.iload_n 1, 1) := by decide +kernel
theorem dJA_fill_13 : decode cJA_fill 13 = .ok (.iastore, 1) := by decide +kernel
theorem dJA_fill_14 : decode cJA_fill 14 = .ok (.iinc 2 1, 3) := by decide +kernel
theorem dJA_fill_17 : decode cJA_fill 17 = .ok (.goto (-12), 3) := by decide +kernel
theorem dJA_fill_20 : decode cJA_fill 20 = .ok (.return_, 1) := by decide +kernel
theorem dQu_ask_0 : decode cQu_ask 0 = .ok (.aload_n 0, 1) := by decide +kernel
theorem dQu_ask_1 : decode cQu_ask 1 = .ok (.lload_n 1, 1) := by decide +kernel
theorem dQu_ask_2 : decode cQu_ask 2 = .ok (.invokevirtual 20, 3) := by decide +kernel
theorem dQu_ask_5 : decode cQu_ask 5 = .ok (.ifCond .eq 26, 3) := by decide +kernel
theorem dQu_ask_8 : decode cQu_ask 8 = .ok (.aload_n 0, 1) := by decide +kernel
theorem dQu_ask_9 : decode cQu_ask 9 = .ok (.dup, 1) := by decide +kernel
theorem dQu_ask_10 : decode cQu_ask 10 = .ok (.getfield 24, 3) := by decide +kernel
theorem dQu_ask_13 : decode cQu_ask 13 = .ok (.iload_n 3, 1) := by decide +kernel
theorem dQu_ask_14 : decode cQu_ask 14 = .ok (.iadd, 1) := by decide +kernel
theorem dQu_ask_15 : decode cQu_ask 15 = .ok (.putfield 24, 3) := by decide +kernel
theorem dQu_ask_18 : decode cQu_ask 18 = .ok (.aload_n 0, 1) := by decide +kernel
theorem dQu_ask_19 : decode cQu_ask 19 = .ok (.dup, 1) := by decide +kernel
theorem dQu_ask_20 : decode cQu_ask 20 = .ok (.getfield 27, 3) := by decide +kernel
theorem dQu_ask_23 : decode cQu_ask 23 = .ok (.lload_n 1, 1) := by decide +kernel
theorem dQu_ask_24 : decode cQu_ask 24 = .ok (.iload_n 3, 1) := by decide +kernel
theorem dQu_ask_25 : decode cQu_ask 25 = .ok (.i2l, 1) := by decide +kernel
theorem dQu_ask_26 : decode cQu_ask 26 = .ok (.lmul, 1) := by decide +kernel
theorem dQu_ask_27 : decode cQu_ask 27 = .ok (.ladd, 1) := by decide +kernel
theorem dQu_ask_28 : decode cQu_ask 28 = .ok (.putfield 27, 3) := by decide +kernel
theorem dQu_ask_31 : decode cQu_ask 31 = .ok (.return_, 1) := by decide +kernel
theorem dQu_fits_0 : decode cQu_fits 0 = .ok (.aload_n 0, 1) := by decide +kernel
theorem dQu_fits_1 : decode cQu_fits 1 = .ok (.getfield 7, 3) := by decide +kernel
theorem dQu_fits_4 : decode cQu_fits 4 = .ok (.tableswitch 125 0 4 #[36, 51, 66, 81, 101], 36) := by decide +kernel
theorem dQu_fits_40 : decode cQu_fits 40 = .ok (.lload_n 1, 1) := by decide +kernel
theorem dQu_fits_41 : decode cQu_fits 41 = .ok (.aload_n 0, 1) := by decide +kernel
theorem dQu_fits_42 : decode cQu_fits 42 = .ok (.getfield 13, 3) := by decide +kernel
theorem dQu_fits_45 : decode cQu_fits 45 = .ok (.lcmp, 1) := by decide +kernel
theorem dQu_fits_46 : decode cQu_fits 46 = .ok (.ifCond .ne 7, 3) := by decide +kernel
theorem dQu_fits_49 : decode cQu_fits 49 = .ok (.iconst 1, 1) := by decide +kernel
theorem dQu_fits_50 : decode cQu_fits 50 = .ok (.goto 4, 3) := by decide +kernel
theorem dQu_fits_53 : decode cQu_fits 53 = .ok (.iconst 0, 1) := by decide +kernel
theorem dQu_fits_54 : decode cQu_fits 54 = .ok (.ireturn, 1) := by decide +kernel
theorem dQu_fits_55 : decode cQu_fits 55 = .ok (.lload_n 1, 1) := by decide +kernel
theorem dQu_fits_56 : decode cQu_fits 56 = .ok (.aload_n 0, 1) := by decide +kernel
theorem dQu_fits_57 : decode cQu_fits 57 = .ok (.getfield 13, 3) := by decide +kernel
theorem dQu_fits_60 : decode cQu_fits 60 = .ok (.lcmp, 1) := by decide +kernel
theorem dQu_fits_61 : decode cQu_fits 61 = .ok (.ifCond .ge 7, 3) := by decide +kernel
theorem dQu_fits_64 : decode cQu_fits 64 = .ok (.iconst 1, 1) := by decide +kernel
theorem dQu_fits_65 : decode cQu_fits 65 = .ok (.goto 4, 3) := by decide +kernel
theorem dQu_fits_68 : decode cQu_fits 68 = .ok (.iconst 0, 1) := by decide +kernel
theorem dQu_fits_69 : decode cQu_fits 69 = .ok (.ireturn, 1) := by decide +kernel
theorem dQu_fits_70 : decode cQu_fits 70 = .ok (.lload_n 1, 1) := by decide +kernel
theorem dQu_fits_71 : decode cQu_fits 71 = .ok (.aload_n 0, 1) := by decide +kernel
theorem dQu_fits_72 : decode cQu_fits 72 = .ok (.getfield 13, 3) := by decide +kernel
theorem dQu_fits_75 : decode cQu_fits 75 = .ok (.lcmp, 1) := by decide +kernel
theorem dQu_fits_76 : decode cQu_fits 76 = .ok (.ifCond .le 7, 3) := by decide +kernel
theorem dQu_fits_79 : decode cQu_fits 79 = .ok (.iconst 1, 1) := by decide +kernel
theorem dQu_fits_80 : decode cQu_fits 80 = .ok (.goto 4, 3) := by decide +kernel
theorem dQu_fits_83 : decode cQu_fits 83 = .ok (.iconst 0, 1) := by decide +kernel
theorem dQu_fits_84 : decode cQu_fits 84 = .ok (.ireturn, 1) := by decide +kernel
theorem dQu_fits_85 : decode cQu_fits 85 = .ok (.lload_n 1, 1) := by decide +kernel
theorem dQu_fits_86 : decode cQu_fits 86 = .ok (.aload_n 0, 1) := by decide +kernel
theorem dQu_fits_87 : decode cQu_fits 87 = .ok (.getfield 13, 3) := by decide +kernel
theorem dQu_fits_90 : decode cQu_fits 90 = .ok (.land, 1) := by decide +kernel
theorem dQu_fits_91 : decode cQu_fits 91 = .ok (.aload_n 0, 1) := by decide +kernel
theorem dQu_fits_92 : decode cQu_fits 92 = .ok (.getfield 13, 3) := by decide +kernel
theorem dQu_fits_95 : decode cQu_fits 95 = .ok (.lcmp, 1) := by decide +kernel
theorem dQu_fits_96 : decode cQu_fits 96 = .ok (.ifCond .ne 7, 3) := by decide +kernel
theorem dQu_fits_99 : decode cQu_fits 99 = .ok (.iconst 1, 1) := by decide +kernel
theorem dQu_fits_100 : decode cQu_fits 100 = .ok (.goto 4, 3) := by decide +kernel
theorem dQu_fits_103 : decode cQu_fits 103 = .ok (.iconst 0, 1) := by decide +kernel
theorem dQu_fits_104 : decode cQu_fits 104 = .ok (.ireturn, 1) := by decide +kernel
theorem dQu_fits_105 : decode cQu_fits 105 = .ok (.lload_n 1, 1) := by decide +kernel
theorem dQu_fits_106 : decode cQu_fits 106 = .ok (.aload_n 0, 1) := by decide +kernel
theorem dQu_fits_107 : decode cQu_fits 107 = .ok (.getfield 13, 3) := by decide +kernel
theorem dQu_fits_110 : decode cQu_fits 110 = .ok (.lcmp, 1) := by decide +kernel
theorem dQu_fits_111 : decode cQu_fits 111 = .ok (.ifCond .lt 16, 3) := by decide +kernel
theorem dQu_fits_114 : decode cQu_fits 114 = .ok (.lload_n 1, 1) := by decide +kernel
theorem dQu_fits_115 : decode cQu_fits 115 = .ok (.aload_n 0, 1) := by decide +kernel
theorem dQu_fits_116 : decode cQu_fits 116 = .ok (.getfield 17, 3) := by decide +kernel
theorem dQu_fits_119 : decode cQu_fits 119 = .ok (.lcmp, 1) := by decide +kernel
theorem dQu_fits_120 : decode cQu_fits 120 = .ok (.ifCond .gt 7, 3) := by decide +kernel
theorem dQu_fits_123 : decode cQu_fits 123 = .ok (.iconst 1, 1) := by decide +kernel
theorem dQu_fits_124 : decode cQu_fits 124 = .ok (.goto 4, 3) := by decide +kernel
theorem dQu_fits_127 : decode cQu_fits 127 = .ok (.iconst 0, 1) := by decide +kernel
theorem dQu_fits_128 : decode cQu_fits 128 = .ok (.ireturn, 1) := by decide +kernel
theorem dQu_fits_129 : decode cQu_fits 129 = .ok (.iconst 0, 1) := by decide +kernel
theorem dQu_fits_130 : decode cQu_fits 130 = .ok (.ireturn, 1) := by decide +kernel
theorem dPa_askAll_0 : decode cPa_askAll 0 = .ok (.aload_n 1, 1) := by decide +kernel
theorem dPa_askAll_1 : decode cPa_askAll 1 = .ok (.iconst 0, 1) := by decide +kernel
theorem dPa_askAll_2 : decode cPa_askAll 2 = .ok (.bipush 64, 2) := by decide +kernel
theorem dPa_askAll_4 : decode cPa_askAll 4 = .ok (.invokevirtual 39, 3) := by decide +kernel
theorem dPa_askAll_7 : decode cPa_askAll 7 = .ok (.lstore 4, 2) := by decide +kernel
theorem dPa_askAll_9 : decode cPa_askAll 9 = .ok (.aload_n 1, 1) := by decide +kernel
theorem dPa_askAll_10 : decode cPa_askAll 10 = .ok (.bipush 64, 2) := by decide +kernel
theorem dPa_askAll_12 : decode cPa_askAll 12 = .ok (.bipush 8, 2) := by decide +kernel
theorem dPa_askAll_14 : decode cPa_askAll 14 = .ok (.invokevirtual 39, 3) := by decide +kernel
theorem dPa_askAll_17 : decode cPa_askAll 17 = .ok (.l2i, 1) := by decide +kernel
theorem dPa_askAll_18 : decode cPa_askAll 18 = .ok (.istore 6, 2) := by decide +kernel
theorem dPa_askAll_20 : decode cPa_askAll 20 = .ok (.iconst 0, 1) := by decide +kernel
theorem dPa_askAll_21 : decode cPa_askAll 21 = .ok (.istore 7, 2) := by decide +kernel
theorem dPa_askAll_23 : decode cPa_askAll 23 = .ok (.iload 7, 2) := by decide +kernel
theorem dPa_askAll_25 : decode cPa_askAll 25 = .ok (.iload_n 2, 1) := by decide +kernel
theorem dPa_askAll_26 : decode cPa_askAll 26 = .ok (.if_icmp .ge 31, 3) := by decide +kernel
theorem dPa_askAll_29 : decode cPa_askAll 29 = .ok (.aload_n 3, 1) := by decide +kernel
theorem dPa_askAll_30 : decode cPa_askAll 30 = .ok (.lload 4, 2) := by decide +kernel
theorem dPa_askAll_32 : decode cPa_askAll 32 = .ok (.aload_n 1, 1) := by decide +kernel
theorem dPa_askAll_33 : decode cPa_askAll 33 = .ok (.bipush 72, 2) := by decide +kernel
theorem dPa_askAll_35 : decode cPa_askAll 35 = .ok (.iload 7, 2) := by decide +kernel
theorem dPa_askAll_37 : decode cPa_askAll 37 = .ok (.iload 6, 2) := by decide +kernel
theorem dPa_askAll_39 : decode cPa_askAll 39 = .ok (.imul, 1) := by decide +kernel
theorem dPa_askAll_40 : decode cPa_askAll 40 = .ok (.iadd, 1) := by decide +kernel
theorem dPa_askAll_41 : decode cPa_askAll 41 = .ok (.iload 6, 2) := by decide +kernel
theorem dPa_askAll_43 : decode cPa_askAll 43 = .ok (.invokevirtual 39, 3) := by decide +kernel
theorem dPa_askAll_46 : decode cPa_askAll 46 = .ok (.ladd, 1) := by decide +kernel
theorem dPa_askAll_47 : decode cPa_askAll 47 = .ok (.iconst 1, 1) := by decide +kernel
theorem dPa_askAll_48 : decode cPa_askAll 48 = .ok (.invokevirtual 43, 3) := by decide +kernel
theorem dPa_askAll_51 : decode cPa_askAll 51 = .ok (.iinc 7 1, 3) := by decide +kernel
theorem dPa_askAll_54 : decode cPa_askAll 54 = .ok (.goto (-31), 3) := by decide +kernel
theorem dPa_askAll_57 : decode cPa_askAll 57 = .ok (.return_, 1) := by decide +kernel
theorem dPl_askAll_0 : decode cPl_askAll 0 = .ok (.iconst 0, 1) := by decide +kernel
theorem dPl_askAll_1 : decode cPl_askAll 1 = .ok (.istore 4, 2) := by decide +kernel
theorem dPl_askAll_3 : decode cPl_askAll 3 = .ok (.iload 4, 2) := by decide +kernel
theorem dPl_askAll_5 : decode cPl_askAll 5 = .ok (.iload_n 2, 1) := by decide +kernel
theorem dPl_askAll_6 : decode cPl_askAll 6 = .ok (.if_icmp .ge 21, 3) := by decide +kernel
theorem dPl_askAll_9 : decode cPl_askAll 9 = .ok (.aload_n 3, 1) := by decide +kernel
theorem dPl_askAll_10 : decode cPl_askAll 10 = .ok (.aload_n 0, 1) := by decide +kernel
theorem dPl_askAll_11 : decode cPl_askAll 11 = .ok (.aload_n 1, 1) := by decide +kernel
theorem dPl_askAll_12 : decode cPl_askAll 12 = .ok (.iload 4, 2) := by decide +kernel
theorem dPl_askAll_14 : decode cPl_askAll 14 = .ok (.invokevirtual 27, 3) := by decide +kernel
theorem dPl_askAll_17 : decode cPl_askAll 17 = .ok (.iconst 1, 1) := by decide +kernel
theorem dPl_askAll_18 : decode cPl_askAll 18 = .ok (.invokevirtual 33, 3) := by decide +kernel
theorem dPl_askAll_21 : decode cPl_askAll 21 = .ok (.iinc 4 1, 3) := by decide +kernel
theorem dPl_askAll_24 : decode cPl_askAll 24 = .ok (.goto (-21), 3) := by decide +kernel
theorem dPl_askAll_27 : decode cPl_askAll 27 = .ok (.return_, 1) := by decide +kernel
theorem dRu_askAll_0 : decode cRu_askAll 0 = .ok (.aload_n 1, 1) := by decide +kernel
theorem dRu_askAll_1 : decode cRu_askAll 1 = .ok (.invokestatic 34, 3) := by decide +kernel
theorem dRu_askAll_4 : decode cRu_askAll 4 = .ok (.istore 4, 2) := by decide +kernel
theorem dRu_askAll_6 : decode cRu_askAll 6 = .ok (.iconst 0, 1) := by decide +kernel
theorem dRu_askAll_7 : decode cRu_askAll 7 = .ok (.istore 5, 2) := by decide +kernel
theorem dRu_askAll_9 : decode cRu_askAll 9 = .ok (.iload 5, 2) := by decide +kernel
theorem dRu_askAll_11 : decode cRu_askAll 11 = .ok (.iload 4, 2) := by decide +kernel
theorem dRu_askAll_13 : decode cRu_askAll 13 = .ok (.if_icmp .ge 25, 3) := by decide +kernel
theorem dRu_askAll_16 : decode cRu_askAll 16 = .ok (.aload_n 3, 1) := by decide +kernel
theorem dRu_askAll_17 : decode cRu_askAll 17 = .ok (.aload_n 1, 1) := by decide +kernel
theorem dRu_askAll_18 : decode cRu_askAll 18 = .ok (.iload 5, 2) := by decide +kernel
theorem dRu_askAll_20 : decode cRu_askAll 20 = .ok (.invokestatic 42, 3) := by decide +kernel
theorem dRu_askAll_23 : decode cRu_askAll 23 = .ok (.aload_n 1, 1) := by decide +kernel
theorem dRu_askAll_24 : decode cRu_askAll 24 = .ok (.iload 5, 2) := by decide +kernel
theorem dRu_askAll_26 : decode cRu_askAll 26 = .ok (.invokestatic 38, 3) := by decide +kernel
theorem dRu_askAll_29 : decode cRu_askAll 29 = .ok (.invokevirtual 46, 3) := by decide +kernel
theorem dRu_askAll_32 : decode cRu_askAll 32 = .ok (.iinc 5 1, 3) := by decide +kernel
theorem dRu_askAll_35 : decode cRu_askAll 35 = .ok (.goto (-26), 3) := by decide +kernel
theorem dRu_askAll_38 : decode cRu_askAll 38 = .ok (.return_, 1) := by decide +kernel
theorem dSs_askAll_0 : decode cSs_askAll 0 = .ok (.aload_n 1, 1) := by decide +kernel
theorem dSs_askAll_1 : decode cSs_askAll 1 = .ok (.invokestatic 39, 3) := by decide +kernel
theorem dSs_askAll_4 : decode cSs_askAll 4 = .ok (.istore 4, 2) := by decide +kernel
theorem dSs_askAll_6 : decode cSs_askAll 6 = .ok (.aload_n 1, 1) := by decide +kernel
theorem dSs_askAll_7 : decode cSs_askAll 7 = .ok (.bipush 64, 2) := by decide +kernel
theorem dSs_askAll_9 : decode cSs_askAll 9 = .ok (.bipush 64, 2) := by decide +kernel
theorem dSs_askAll_11 : decode cSs_askAll 11 = .ok (.invokevirtual 43, 3) := by decide +kernel
theorem dSs_askAll_14 : decode cSs_askAll 14 = .ok (.lstore 5, 2) := by decide +kernel
theorem dSs_askAll_16 : decode cSs_askAll 16 = .ok (.aload_n 1, 1) := by decide +kernel
theorem dSs_askAll_17 : decode cSs_askAll 17 = .ok (.iconst 0, 1) := by decide +kernel
theorem dSs_askAll_18 : decode cSs_askAll 18 = .ok (.bipush 64, 2) := by decide +kernel
theorem dSs_askAll_20 : decode cSs_askAll 20 = .ok (.invokevirtual 43, 3) := by decide +kernel
theorem dSs_askAll_23 : decode cSs_askAll 23 = .ok (.lstore 7, 2) := by decide +kernel
theorem dSs_askAll_25 : decode cSs_askAll 25 = .ok (.aload_n 3, 1) := by decide +kernel
theorem dSs_askAll_26 : decode cSs_askAll 26 = .ok (.lload 7, 2) := by decide +kernel
theorem dSs_askAll_28 : decode cSs_askAll 28 = .ok (.iconst 1, 1) := by decide +kernel
theorem dSs_askAll_29 : decode cSs_askAll 29 = .ok (.invokevirtual 47, 3) := by decide +kernel
theorem dSs_askAll_32 : decode cSs_askAll 32 = .ok (.iconst 0, 1) := by decide +kernel
theorem dSs_askAll_33 : decode cSs_askAll 33 = .ok (.istore 9, 2) := by decide +kernel
theorem dSs_askAll_35 : decode cSs_askAll 35 = .ok (.iload 9, 2) := by decide +kernel
theorem dSs_askAll_37 : decode cSs_askAll 37 = .ok (.iload_n 2, 1) := by decide +kernel
theorem dSs_askAll_38 : decode cSs_askAll 38 = .ok (.iconst 1, 1) := by decide +kernel
theorem dSs_askAll_39 : decode cSs_askAll 39 = .ok (.isub, 1) := by decide +kernel
theorem dSs_askAll_40 : decode cSs_askAll 40 = .ok (.if_icmp .ge 39, 3) := by decide +kernel
theorem dSs_askAll_43 : decode cSs_askAll 43 = .ok (.lload 7, 2) := by decide +kernel
theorem dSs_askAll_45 : decode cSs_askAll 45 = .ok (.lload 5, 2) := by decide +kernel
theorem dSs_askAll_47 : decode cSs_askAll 47 = .ok (.aload_n 1, 1) := by decide +kernel
theorem dSs_askAll_48 : decode cSs_askAll 48 = .ok (.sipush 136, 3) := by decide +kernel
theorem dSs_askAll_51 : decode cSs_askAll 51 = .ok (.iload 9, 2) := by decide +kernel
theorem dSs_askAll_53 : decode cSs_askAll 53 = .ok (.iload 4, 2) := by decide +kernel
theorem dSs_askAll_55 : decode cSs_askAll 55 = .ok (.imul, 1) := by decide +kernel
theorem dSs_askAll_56 : decode cSs_askAll 56 = .ok (.iadd, 1) := by decide +kernel
theorem dSs_askAll_57 : decode cSs_askAll 57 = .ok (.iload 4, 2) := by decide +kernel
theorem dSs_askAll_59 : decode cSs_askAll 59 = .ok (.invokevirtual 43, 3) := by decide +kernel
theorem dSs_askAll_62 : decode cSs_askAll 62 = .ok (.ladd, 1) := by decide +kernel
theorem dSs_askAll_63 : decode cSs_askAll 63 = .ok (.ladd, 1) := by decide +kernel
theorem dSs_askAll_64 : decode cSs_askAll 64 = .ok (.lstore 7, 2) := by decide +kernel
theorem dSs_askAll_66 : decode cSs_askAll 66 = .ok (.aload_n 3, 1) := by decide +kernel
theorem dSs_askAll_67 : decode cSs_askAll 67 = .ok (.lload 7, 2) := by decide +kernel
theorem dSs_askAll_69 : decode cSs_askAll 69 = .ok (.iconst 1, 1) := by decide +kernel
theorem dSs_askAll_70 : decode cSs_askAll 70 = .ok (.invokevirtual 47, 3) := by decide +kernel
theorem dSs_askAll_73 : decode cSs_askAll 73 = .ok (.iinc 9 1, 3) := by decide +kernel
theorem dSs_askAll_76 : decode cSs_askAll 76 = .ok (.goto (-41), 3) := by decide +kernel
theorem dSs_askAll_79 : decode cSs_askAll 79 = .ok (.return_, 1) := by decide +kernel
theorem dCf_sum_0 : decode cCf_sum 0 = .ok (.aload_n 0, 1) := by decide +kernel
theorem dCf_sum_1 : decode cCf_sum 1 = .ok (.invokevirtual 109, 3) := by decide +kernel
theorem dCf_sum_4 : decode cCf_sum 4 = .ok (.new 112, 3) := by decide +kernel
theorem dCf_sum_7 : decode cCf_sum 7 = .ok (.dup, 1) := by decide +kernel
theorem dCf_sum_8 : decode cCf_sum 8 = .ok (.iconst 4, 1) := by decide +kernel
theorem dCf_sum_9 : decode cCf_sum 9 = .ok (.lload_n 1, 1) := by decide +kernel
theorem dCf_sum_10 : decode cCf_sum 10 = .ok (.lload_n 3, 1) := by decide +kernel
theorem dCf_sum_11 : decode cCf_sum 11 = .ok (.invokespecial 114, 3) := by decide +kernel
theorem dCf_sum_14 : decode cCf_sum 14 = .ok (.astore 5, 2) := by decide +kernel
theorem dCf_sum_16 : decode cCf_sum 16 = .ok (.aload_n 0, 1) := by decide +kernel
theorem dCf_sum_17 : decode cCf_sum 17 = .ok (.getfield 40, 3) := by decide +kernel
theorem dCf_sum_20 : decode cCf_sum 20 = .ok (.aload_n 0, 1) := by decide +kernel
theorem dCf_sum_21 : decode cCf_sum 21 = .ok (.getfield 44, 3) := by decide +kernel
theorem dCf_sum_24 : decode cCf_sum 24 = .ok (.aaload, 1) := by decide +kernel
theorem dCf_sum_25 : decode cCf_sum 25 = .ok (.aload_n 0, 1) := by decide +kernel
theorem dCf_sum_26 : decode cCf_sum 26 = .ok (.getfield 19, 3) := by decide +kernel
theorem dCf_sum_29 : decode cCf_sum 29 = .ok (.aload_n 0, 1) := by decide +kernel
theorem dCf_sum_30 : decode cCf_sum 30 = .ok (.getfield 48, 3) := by decide +kernel
theorem dCf_sum_33 : decode cCf_sum 33 = .ok (.aload 5, 2) := by decide +kernel
theorem dCf_sum_35 : decode cCf_sum 35 = .ok (.invokevirtual 117, 3) := by decide +kernel
theorem dCf_sum_38 : decode cCf_sum 38 = .ok (.aload 5, 2) := by decide +kernel
theorem dCf_sum_40 : decode cCf_sum 40 = .ok (.getfield 124, 3) := by decide +kernel
theorem dCf_sum_43 : decode cCf_sum 43 = .ok (.lreturn, 1) := by decide +kernel
theorem dMo_init_0 : decode cMo_init 0 = .ok (.aload_n 0, 1) := by decide +kernel
theorem dMo_init_1 : decode cMo_init 1 = .ok (.invokespecial 1, 3) := by decide +kernel
theorem dMo_init_4 : decode cMo_init 4 = .ok (.aload_n 0, 1) := by decide +kernel
theorem dMo_init_5 : decode cMo_init 5 = .ok (.sipush 1024, 3) := by decide +kernel
theorem dMo_init_8 : decode cMo_init 8 = .ok (.newarray .long, 2) := by decide +kernel
theorem dMo_init_10 : decode cMo_init 10 = .ok (.putfield 7, 3) := by decide +kernel
theorem dMo_init_13 : decode cMo_init 13 = .ok (.aload_n 0, 1) := by decide +kernel
theorem dMo_init_14 : decode cMo_init 14 = .ok (.iconst (-1), 1) := by decide +kernel
theorem dMo_init_15 : decode cMo_init 15 = .ok (.putfield 13, 3) := by decide +kernel
theorem dMo_init_18 : decode cMo_init 18 = .ok (.aload_n 0, 1) := by decide +kernel
theorem dMo_init_19 : decode cMo_init 19 = .ok (.sipush 1024, 3) := by decide +kernel
theorem dMo_init_22 : decode cMo_init 22 = .ok (.newarray .long, 2) := by decide +kernel
theorem dMo_init_24 : decode cMo_init 24 = .ok (.putfield 17, 3) := by decide +kernel
theorem dMo_init_27 : decode cMo_init 27 = .ok (.aload_n 0, 1) := by decide +kernel
theorem dMo_init_28 : decode cMo_init 28 = .ok (.sipush 10400, 3) := by decide +kernel
theorem dMo_init_31 : decode cMo_init 31 = .ok (.newarray .int, 2) := by decide +kernel
theorem dMo_init_33 : decode cMo_init 33 = .ok (.putfield 20, 3) := by decide +kernel
theorem dMo_init_36 : decode cMo_init 36 = .ok (.aload_n 0, 1) := by decide +kernel
theorem dMo_init_37 : decode cMo_init 37 = .ok (.sipush 1024, 3) := by decide +kernel
theorem dMo_init_40 : decode cMo_init 40 = .ok (.newarray .long, 2) := by decide +kernel
theorem dMo_init_42 : decode cMo_init 42 = .ok (.putfield 24, 3) := by decide +kernel
theorem dMo_init_45 : decode cMo_init 45 = .ok (.return_, 1) := by decide +kernel
theorem dMo_thrown_0 : decode cMo_thrown 0 = .ok (.aload_n 0, 1) := by decide +kernel
theorem dMo_thrown_1 : decode cMo_thrown 1 = .ok (.getfield 27, 3) := by decide +kernel
theorem dMo_thrown_4 : decode cMo_thrown 4 = .ok (.ireturn, 1) := by decide +kernel
theorem dMo_put_0 : decode cMo_put 0 = .ok (.aload_n 0, 1) := by decide +kernel
theorem dMo_put_1 : decode cMo_put 1 = .ok (.aload_n 0, 1) := by decide +kernel
theorem dMo_put_2 : decode cMo_put 2 = .ok (.getfield 30, 3) := by decide +kernel
theorem dMo_put_5 : decode cMo_put 5 = .ok (.sipush 1024, 3) := by decide +kernel
theorem dMo_put_8 : decode cMo_put 8 = .ok (.if_icmp .ne 7, 3) := by decide +kernel
theorem dMo_put_11 : decode cMo_put 11 = .ok (.iconst 1, 1) := by decide +kernel
theorem dMo_put_12 : decode cMo_put 12 = .ok (.goto 4, 3) := by decide +kernel
theorem dMo_put_15 : decode cMo_put 15 = .ok (.iconst 0, 1) := by decide +kernel
theorem dMo_put_16 : decode cMo_put 16 = .ok (.putfield 27, 3) := by decide +kernel
theorem dMo_put_19 : decode cMo_put 19 = .ok (.aload_n 0, 1) := by decide +kernel
theorem dMo_put_20 : decode cMo_put 20 = .ok (.getfield 27, 3) := by decide +kernel
theorem dMo_put_23 : decode cMo_put 23 = .ok (.ifCond .le 5, 3) := by decide +kernel
theorem dMo_put_26 : decode cMo_put 26 = .ok (.iconst 0, 1) := by decide +kernel
theorem dMo_put_27 : decode cMo_put 27 = .ok (.ireturn, 1) := by decide +kernel
theorem dMo_put_28 : decode cMo_put 28 = .ok (.aload_n 0, 1) := by decide +kernel
theorem dMo_put_29 : decode cMo_put 29 = .ok (.getfield 7, 3) := by decide +kernel
theorem dMo_put_32 : decode cMo_put 32 = .ok (.aload_n 0, 1) := by decide +kernel
theorem dMo_put_33 : decode cMo_put 33 = .ok (.getfield 30, 3) := by decide +kernel
theorem dMo_put_36 : decode cMo_put 36 = .ok (.lload_n 1, 1) := by decide +kernel
theorem dMo_put_37 : decode cMo_put 37 = .ok (.lastore, 1) := by decide +kernel
theorem dMo_put_38 : decode cMo_put 38 = .ok (.aload_n 0, 1) := by decide +kernel
theorem dMo_put_39 : decode cMo_put 39 = .ok (.dup, 1) := by decide +kernel
theorem dMo_put_40 : decode cMo_put 40 = .ok (.getfield 30, 3) := by decide +kernel
theorem dMo_put_43 : decode cMo_put 43 = .ok (.iconst 1, 1) := by decide +kernel
theorem dMo_put_44 : decode cMo_put 44 = .ok (.iadd, 1) := by decide +kernel
theorem dMo_put_45 : decode cMo_put 45 = .ok (.putfield 30, 3) := by decide +kernel
theorem dMo_put_48 : decode cMo_put 48 = .ok (.aload_n 0, 1) := by decide +kernel
theorem dMo_put_49 : decode cMo_put 49 = .ok (.getfield 30, 3) := by decide +kernel
theorem dMo_put_52 : decode cMo_put 52 = .ok (.ireturn, 1) := by decide +kernel
theorem dMo_fill_0 : decode cMo_fill 0 = .ok (.aload_n 0, 1) := by decide +kernel
theorem dMo_fill_1 : decode cMo_fill 1 = .ok (.iload 5, 2) := by decide +kernel
theorem dMo_fill_3 : decode cMo_fill 3 = .ok (.iconst 1, 1) := by decide +kernel
theorem dMo_fill_4 : decode cMo_fill 4 = .ok (.if_icmp .lt 11, 3) := by decide +kernel
theorem dMo_fill_7 : decode cMo_fill 7 = .ok (.iload 5, 2) := by decide +kernel
theorem dMo_fill_9 : decode cMo_fill 9 = .ok (.sipush 1024, 3) := by decide +kernel
theorem dMo_fill_12 : decode cMo_fill 12 = .ok (.if_icmp .le 7, 3) := by decide +kernel
theorem dMo_fill_15 : decode cMo_fill 15 = .ok (.iconst 1, 1) := by decide +kernel
theorem dMo_fill_16 : decode cMo_fill 16 = .ok (.goto 21, 3) := by decide +kernel
theorem dMo_fill_19 : decode cMo_fill 19 = .ok (.aload_n 0, 1) := by decide +kernel
theorem dMo_fill_20 : decode cMo_fill 20 = .ok (.getfield 30, 3) := by decide +kernel
theorem dMo_fill_23 : decode cMo_fill 23 = .ok (.iload 5, 2) := by decide +kernel
theorem dMo_fill_25 : decode cMo_fill 25 = .ok (.iadd, 1) := by decide +kernel
theorem dMo_fill_26 : decode cMo_fill 26 = .ok (.sipush 1024, 3) := by decide +kernel
theorem dMo_fill_29 : decode cMo_fill 29 = .ok (.if_icmp .le 7, 3) := by decide +kernel
theorem dMo_fill_32 : decode cMo_fill 32 = .ok (.iconst 2, 1) := by decide +kernel
theorem dMo_fill_33 : decode cMo_fill 33 = .ok (.goto 4, 3) := by decide +kernel
theorem dMo_fill_36 : decode cMo_fill 36 = .ok (.iconst 0, 1) := by decide +kernel
theorem dMo_fill_37 : decode cMo_fill 37 = .ok (.putfield 27, 3) := by decide +kernel
theorem dMo_fill_40 : decode cMo_fill 40 = .ok (.lload_n 1, 1) := by decide +kernel
theorem dMo_fill_41 : decode cMo_fill 41 = .ok (.lstore 6, 2) := by decide +kernel
theorem dMo_fill_43 : decode cMo_fill 43 = .ok (.iconst 0, 1) := by decide +kernel
theorem dMo_fill_44 : decode cMo_fill 44 = .ok (.istore 8, 2) := by decide +kernel
theorem dMo_fill_46 : decode cMo_fill 46 = .ok (.iload 8, 2) := by decide +kernel
theorem dMo_fill_48 : decode cMo_fill 48 = .ok (.iload 5, 2) := by decide +kernel
theorem dMo_fill_50 : decode cMo_fill 50 = .ok (.if_icmp .ge 43, 3) := by decide +kernel
theorem dMo_fill_53 : decode cMo_fill 53 = .ok (.aload_n 0, 1) := by decide +kernel
theorem dMo_fill_54 : decode cMo_fill 54 = .ok (.getfield 27, 3) := by decide +kernel
theorem dMo_fill_57 : decode cMo_fill 57 = .ok (.ifCond .ne 36, 3) := by decide +kernel
theorem dMo_fill_60 : decode cMo_fill 60 = .ok (.aload_n 0, 1) := by decide +kernel
theorem dMo_fill_61 : decode cMo_fill 61 = .ok (.getfield 7, 3) := by decide +kernel
theorem dMo_fill_64 : decode cMo_fill 64 = .ok (.aload_n 0, 1) := by decide +kernel
theorem dMo_fill_65 : decode cMo_fill 65 = .ok (.getfield 30, 3) := by decide +kernel
theorem dMo_fill_68 : decode cMo_fill 68 = .ok (.lload 6, 2) := by decide +kernel
theorem dMo_fill_70 : decode cMo_fill 70 = .ok (.lastore, 1) := by decide +kernel
theorem dMo_fill_71 : decode cMo_fill 71 = .ok (.aload_n 0, 1) := by decide +kernel
theorem dMo_fill_72 : decode cMo_fill 72 = .ok (.dup, 1) := by decide +kernel
theorem dMo_fill_73 : decode cMo_fill 73 = .ok (.getfield 30, 3) := by decide +kernel
theorem dMo_fill_76 : decode cMo_fill 76 = .ok (.iconst 1, 1) := by decide +kernel
theorem dMo_fill_77 : decode cMo_fill 77 = .ok (.iadd, 1) := by decide +kernel
theorem dMo_fill_78 : decode cMo_fill 78 = .ok (.putfield 30, 3) := by decide +kernel
theorem dMo_fill_81 : decode cMo_fill 81 = .ok (.lload 6, 2) := by decide +kernel
theorem dMo_fill_83 : decode cMo_fill 83 = .ok (.lload_n 3, 1) := by decide +kernel
theorem dMo_fill_84 : decode cMo_fill 84 = .ok (.ladd, 1) := by decide +kernel
theorem dMo_fill_85 : decode cMo_fill 85 = .ok (.lstore 6, 2) := by decide +kernel
theorem dMo_fill_87 : decode cMo_fill 87 = .ok (.iinc 8 1, 3) := by decide +kernel
theorem dMo_fill_90 : decode cMo_fill 90 = .ok (.goto (-44), 3) := by decide +kernel
theorem dMo_fill_93 : decode cMo_fill 93 = .ok (.aload_n 0, 1) := by decide +kernel
theorem dMo_fill_94 : decode cMo_fill 94 = .ok (.getfield 27, 3) := by decide +kernel
theorem dMo_fill_97 : decode cMo_fill 97 = .ok (.ifCond .le 7, 3) := by decide +kernel
theorem dMo_fill_100 : decode cMo_fill 100 = .ok (.iconst 0, 1) := by decide +kernel
theorem dMo_fill_101 : decode cMo_fill 101 = .ok (.goto 7, 3) := by decide +kernel
theorem dMo_fill_104 : decode cMo_fill 104 = .ok (.aload_n 0, 1) := by decide +kernel
theorem dMo_fill_105 : decode cMo_fill 105 = .ok (.getfield 30, 3) := by decide +kernel
theorem dMo_fill_108 : decode cMo_fill 108 = .ok (.ireturn, 1) := by decide +kernel
theorem dMo_clear_0 : decode cMo_clear 0 = .ok (.aload_n 0, 1) := by decide +kernel
theorem dMo_clear_1 : decode cMo_clear 1 = .ok (.iconst 0, 1) := by decide +kernel
theorem dMo_clear_2 : decode cMo_clear 2 = .ok (.putfield 27, 3) := by decide +kernel
theorem dMo_clear_5 : decode cMo_clear 5 = .ok (.aload_n 0, 1) := by decide +kernel
theorem dMo_clear_6 : decode cMo_clear 6 = .ok (.getfield 30, 3) := by decide +kernel
theorem dMo_clear_9 : decode cMo_clear 9 = .ok (.istore_n 1, 1) := by decide +kernel
theorem dMo_clear_10 : decode cMo_clear 10 = .ok (.aload_n 0, 1) := by decide +kernel
theorem dMo_clear_11 : decode cMo_clear 11 = .ok (.iconst 0, 1) := by decide +kernel
theorem dMo_clear_12 : decode cMo_clear 12 = .ok (.putfield 30, 3) := by decide +kernel
theorem dMo_clear_15 : decode cMo_clear 15 = .ok (.iload_n 1, 1) := by decide +kernel
theorem dMo_clear_16 : decode cMo_clear 16 = .ok (.ireturn, 1) := by decide +kernel
theorem dMo_weight_0 : decode cMo_weight 0 = .ok (.aload_n 0, 1) := by decide +kernel
theorem dMo_weight_1 : decode cMo_weight 1 = .ok (.iload_n 1, 1) := by decide +kernel
theorem dMo_weight_2 : decode cMo_weight 2 = .ok (.ifCond .lt 8, 3) := by decide +kernel
theorem dMo_weight_5 : decode cMo_weight 5 = .ok (.iload_n 1, 1) := by decide +kernel
theorem dMo_weight_6 : decode cMo_weight 6 = .ok (.iconst 4, 1) := by decide +kernel
theorem dMo_weight_7 : decode cMo_weight 7 = .ok (.if_icmp .le 7, 3) := by decide +kernel
theorem dMo_weight_10 : decode cMo_weight 10 = .ok (.iconst 1, 1) := by decide +kernel
theorem dMo_weight_11 : decode cMo_weight 11 = .ok (.goto 15, 3) := by decide +kernel
theorem dMo_weight_14 : decode cMo_weight 14 = .ok (.aload_n 0, 1) := by decide +kernel
theorem dMo_weight_15 : decode cMo_weight 15 = .ok (.getfield 30, 3) := by decide +kernel
theorem dMo_weight_18 : decode cMo_weight 18 = .ok (.ifCond .ne 7, 3) := by decide +kernel
theorem dMo_weight_21 : decode cMo_weight 21 = .ok (.iconst 2, 1) := by decide +kernel
theorem dMo_weight_22 : decode cMo_weight 22 = .ok (.goto 4, 3) := by decide +kernel
theorem dMo_weight_25 : decode cMo_weight 25 = .ok (.iconst 0, 1) := by decide +kernel
theorem dMo_weight_26 : decode cMo_weight 26 = .ok (.putfield 27, 3) := by decide +kernel
theorem dMo_weight_29 : decode cMo_weight 29 = .ok (.aload_n 0, 1) := by decide +kernel
theorem dMo_weight_30 : decode cMo_weight 30 = .ok (.getfield 27, 3) := by decide +kernel
theorem dMo_weight_33 : decode cMo_weight 33 = .ok (.ifCond .le 7, 3) := by decide +kernel
theorem dMo_weight_36 : decode cMo_weight 36 = .ok (.iconst 0, 1) := by decide +kernel
theorem dMo_weight_37 : decode cMo_weight 37 = .ok (.goto 8, 3) := by decide +kernel
theorem dMo_weight_40 : decode cMo_weight 40 = .ok (.aload_n 0, 1) := by decide +kernel
theorem dMo_weight_41 : decode cMo_weight 41 = .ok (.iload_n 1, 1) := by decide +kernel
theorem dMo_weight_42 : decode cMo_weight 42 = .ok (.invokevirtual 71, 3) := by decide +kernel
theorem dMo_weight_45 : decode cMo_weight 45 = .ok (.ireturn, 1) := by decide +kernel
theorem dMo_weigh_0 : decode cMo_weigh 0 = .ok (.iload_n 1, 1) := by decide +kernel
theorem dMo_weigh_1 : decode cMo_weigh 1 = .ok (.tableswitch 106 0 3 #[31, 39, 63, 96], 31) := by decide +kernel
theorem dMo_weigh_32 : decode cMo_weigh 32 = .ok (.bipush 8, 2) := by decide +kernel
theorem dMo_weigh_34 : decode cMo_weigh 34 = .ok (.aload_n 0, 1) := by decide +kernel
theorem dMo_weigh_35 : decode cMo_weigh 35 = .ok (.getfield 30, 3) := by decide +kernel
theorem dMo_weigh_38 : decode cMo_weigh 38 = .ok (.imul, 1) := by decide +kernel
theorem dMo_weigh_39 : decode cMo_weigh 39 = .ok (.ireturn, 1) := by decide +kernel
theorem dMo_weigh_40 : decode cMo_weigh 40 = .ok (.bipush 9, 2) := by decide +kernel
theorem dMo_weigh_42 : decode cMo_weigh 42 = .ok (.aload_n 0, 1) := by decide +kernel
theorem dMo_weigh_43 : decode cMo_weigh 43 = .ok (.getfield 30, 3) := by decide +kernel
theorem dMo_weigh_46 : decode cMo_weigh 46 = .ok (.aload_n 0, 1) := by decide +kernel
theorem dMo_weigh_47 : decode cMo_weigh 47 = .ok (.invokevirtual 44, 3) := by decide +kernel
theorem dMo_weigh_50 : decode cMo_weigh 50 = .ok (.aload_n 0, 1) := by decide +kernel
theorem dMo_weigh_51 : decode cMo_weigh 51 = .ok (.invokevirtual 48, 3) := by decide +kernel
theorem dMo_weigh_54 : decode cMo_weigh 54 = .ok (.lsub, 1) := by decide +kernel
theorem dMo_weigh_55 : decode cMo_weigh 55 = .ok (.invokestatic 51, 3) := by decide +kernel
theorem dMo_weigh_58 : decode cMo_weigh 58 = .ok (.imul, 1) := by decide +kernel
theorem dMo_weigh_59 : decode cMo_weigh 59 = .ok (.invokestatic 54, 3) := by decide +kernel
theorem dMo_weigh_62 : decode cMo_weigh 62 = .ok (.iadd, 1) := by decide +kernel
theorem dMo_weigh_63 : decode cMo_weigh 63 = .ok (.ireturn, 1) := by decide +kernel
theorem dMo_weigh_64 : decode cMo_weigh 64 = .ok (.aload_n 0, 1) := by decide +kernel
theorem dMo_weigh_65 : decode cMo_weigh 65 = .ok (.invokevirtual 58, 3) := by decide +kernel
theorem dMo_weigh_68 : decode cMo_weigh 68 = .ok (.iconst 2, 1) := by decide +kernel
theorem dMo_weigh_69 : decode cMo_weigh 69 = .ok (.bipush 8, 2) := by decide +kernel
theorem dMo_weigh_71 : decode cMo_weigh 71 = .ok (.aload_n 0, 1) := by decide +kernel
theorem dMo_weigh_72 : decode cMo_weigh 72 = .ok (.getfield 37, 3) := by decide +kernel
theorem dMo_weigh_75 : decode cMo_weigh 75 = .ok (.imul, 1) := by decide +kernel
theorem dMo_weigh_76 : decode cMo_weigh 76 = .ok (.iadd, 1) := by decide +kernel
theorem dMo_weigh_77 : decode cMo_weigh 77 = .ok (.aload_n 0, 1) := by decide +kernel
theorem dMo_weigh_78 : decode cMo_weigh 78 = .ok (.getfield 30, 3) := by decide +kernel
theorem dMo_weigh_81 : decode cMo_weigh 81 = .ok (.aload_n 0, 1) := by decide +kernel
