theorem dCf_init_0 : decode cCf_init 0 = .ok (.aload_n 0, 1) := by decide +kernel
theorem dCf_init_1 : decode cCf_init 1 = .ok (.invokespecial 1, 3) := by decide +kernel
theorem dCf_init_4 : decode cCf_init 4 = .ok (.aload_n 0, 1) := by decide +kernel
theorem dCf_init_5 : decode cCf_init 5 = .ok (.new 7, 3) := by decide +kernel
theorem dCf_init_8 : decode cCf_init 8 = .ok (.dup, 1) := by decide +kernel
theorem dCf_init_9 : decode cCf_init 9 = .ok (.invokespecial 9, 3) := by decide +kernel
theorem dCf_init_12 : decode cCf_init 12 = .ok (.putfield 10, 3) := by decide +kernel
theorem dCf_init_15 : decode cCf_init 15 = .ok (.aload_n 0, 1) := by decide +kernel
theorem dCf_init_16 : decode cCf_init 16 = .ok (.new 16, 3) := by decide +kernel
theorem dCf_init_19 : decode cCf_init 19 = .ok (.dup, 1) := by decide +kernel
theorem dCf_init_20 : decode cCf_init 20 = .ok (.invokespecial 18, 3) := by decide +kernel
theorem dCf_init_23 : decode cCf_init 23 = .ok (.putfield 19, 3) := by decide +kernel
theorem dCf_init_26 : decode cCf_init 26 = .ok (.aload_n 0, 1) := by decide +kernel
theorem dCf_init_27 : decode cCf_init 27 = .ok (.iconst 5, 1) := by decide +kernel
theorem dCf_init_28 : decode cCf_init 28 = .ok (.anewarray 23, 3) := by decide +kernel
theorem dCf_init_31 : decode cCf_init 31 = .ok (.dup, 1) := by decide +kernel
theorem dCf_init_32 : decode cCf_init 32 = .ok (.iconst 0, 1) := by decide +kernel
theorem dCf_init_33 : decode cCf_init 33 = .ok (.new 25, 3) := by decide +kernel
theorem dCf_init_36 : decode cCf_init 36 = .ok (.dup, 1) := by decide +kernel
theorem dCf_init_37 : decode cCf_init 37 = .ok (.invokespecial 27, 3) := by decide +kernel
theorem dCf_init_40 : decode cCf_init 40 = .ok (.aastore, 1) := by decide +kernel
theorem dCf_init_41 : decode cCf_init 41 = .ok (.dup, 1) := by decide +kernel
theorem dCf_init_42 : decode cCf_init 42 = .ok (.iconst 1, 1) := by decide +kernel
theorem dCf_init_43 : decode cCf_init 43 = .ok (.new 28, 3) := by decide +kernel
theorem dCf_init_46 : decode cCf_init 46 = .ok (.dup, 1) := by decide +kernel
theorem dCf_init_47 : decode cCf_init 47 = .ok (.invokespecial 30, 3) := by decide +kernel
theorem dCf_init_50 : decode cCf_init 50 = .ok (.aastore, 1) := by decide +kernel
theorem dCf_init_51 : decode cCf_init 51 = .ok (.dup, 1) := by decide +kernel
theorem dCf_init_52 : decode cCf_init 52 = .ok (.iconst 2, 1) := by decide +kernel
theorem dCf_init_53 : decode cCf_init 53 = .ok (.new 31, 3) := by decide +kernel
theorem dCf_init_56 : decode cCf_init 56 = .ok (.dup, 1) := by decide +kernel
theorem dCf_init_57 : decode cCf_init 57 = .ok (.invokespecial 33, 3) := by decide +kernel
theorem dCf_init_60 : decode cCf_init 60 = .ok (.aastore, 1) := by decide +kernel
theorem dCf_init_61 : decode cCf_init 61 = .ok (.dup, 1) := by decide +kernel
theorem dCf_init_62 : decode cCf_init 62 = .ok (.iconst 3, 1) := by decide +kernel
theorem dCf_init_63 : decode cCf_init 63 = .ok (.new 34, 3) := by decide +kernel
theorem dCf_init_66 : decode cCf_init 66 = .ok (.dup, 1) := by decide +kernel
theorem dCf_init_67 : decode cCf_init 67 = .ok (.invokespecial 36, 3) := by decide +kernel
theorem dCf_init_70 : decode cCf_init 70 = .ok (.aastore, 1) := by decide +kernel
theorem dCf_init_71 : decode cCf_init 71 = .ok (.dup, 1) := by decide +kernel
theorem dCf_init_72 : decode cCf_init 72 = .ok (.iconst 4, 1) := by decide +kernel
theorem dCf_init_73 : decode cCf_init 73 = .ok (.new 37, 3) := by decide +kernel
theorem dCf_init_76 : decode cCf_init 76 = .ok (.dup, 1) := by decide +kernel
theorem dCf_init_77 : decode cCf_init 77 = .ok (.invokespecial 39, 3) := by decide +kernel
theorem dCf_init_80 : decode cCf_init 80 = .ok (.aastore, 1) := by decide +kernel
theorem dCf_init_81 : decode cCf_init 81 = .ok (.putfield 40, 3) := by decide +kernel
theorem dCf_init_84 : decode cCf_init 84 = .ok (.aload_n 0, 1) := by decide +kernel
theorem dCf_init_85 : decode cCf_init 85 = .ok (.iconst (-1), 1) := by decide +kernel
theorem dCf_init_86 : decode cCf_init 86 = .ok (.putfield 44, 3) := by decide +kernel
theorem dCf_init_89 : decode cCf_init 89 = .ok (.aload_n 0, 1) := by decide +kernel
theorem dCf_init_90 : decode cCf_init 90 = .ok (.iconst 0, 1) := by decide +kernel
theorem dCf_init_91 : decode cCf_init 91 = .ok (.putfield 48, 3) := by decide +kernel
theorem dCf_init_94 : decode cCf_init 94 = .ok (.return_, 1) := by decide +kernel
theorem dRo_init_0 : decode cRo_init 0 = .ok (.aload_n 0, 1) := by decide +kernel
theorem dRo_init_1 : decode cRo_init 1 = .ok (.invokespecial 3, 3) := by decide +kernel
theorem dRo_init_4 : decode cRo_init 4 = .ok (.aload_n 0, 1) := by decide +kernel
theorem dRo_init_5 : decode cRo_init 5 = .ok (.sipush 1024, 3) := by decide +kernel
theorem dRo_init_8 : decode cRo_init 8 = .ok (.newarray .long, 2) := by decide +kernel
theorem dRo_init_10 : decode cRo_init 10 = .ok (.putfield 9, 3) := by decide +kernel
theorem dRo_init_13 : decode cRo_init 13 = .ok (.aload_n 0, 1) := by decide +kernel
theorem dRo_init_14 : decode cRo_init 14 = .ok (.sipush 1024, 3) := by decide +kernel
theorem dRo_init_17 : decode cRo_init 17 = .ok (.newarray .long, 2) := by decide +kernel
theorem dRo_init_19 : decode cRo_init 19 = .ok (.putfield 15, 3) := by decide +kernel
theorem dRo_init_22 : decode cRo_init 22 = .ok (.return_, 1) := by decide +kernel
theorem dBy_init_0 : decode cBy_init 0 = .ok (.aload_n 0, 1) := by decide +kernel
theorem dBy_init_1 : decode cBy_init 1 = .ok (.invokespecial 3, 3) := by decide +kernel
theorem dBy_init_4 : decode cBy_init 4 = .ok (.aload_n 0, 1) := by decide +kernel
theorem dBy_init_5 : decode cBy_init 5 = .ok (.iconst 0, 1) := by decide +kernel
theorem dBy_init_6 : decode cBy_init 6 = .ok (.newarray .byte, 2) := by decide +kernel
theorem dBy_init_8 : decode cBy_init 8 = .ok (.putfield 9, 3) := by decide +kernel
theorem dBy_init_11 : decode cBy_init 11 = .ok (.return_, 1) := by decide +kernel
theorem dPl_init_0 : decode cPl_init 0 = .ok (.aload_n 0, 1) := by decide +kernel
theorem dPl_init_1 : decode cPl_init 1 = .ok (.invokespecial 1, 3) := by decide +kernel
theorem dPl_init_4 : decode cPl_init 4 = .ok (.return_, 1) := by decide +kernel
theorem dFo_init_0 : decode cFo_init 0 = .ok (.aload_n 0, 1) := by decide +kernel
theorem dFo_init_1 : decode cFo_init 1 = .ok (.invokespecial 1, 3) := by decide +kernel
theorem dFo_init_4 : decode cFo_init 4 = .ok (.return_, 1) := by decide +kernel
theorem dPa_init_0 : decode cPa_init 0 = .ok (.aload_n 0, 1) := by decide +kernel
theorem dPa_init_1 : decode cPa_init 1 = .ok (.invokespecial 1, 3) := by decide +kernel
theorem dPa_init_4 : decode cPa_init 4 = .ok (.return_, 1) := by decide +kernel
theorem dLi_init_0 : decode cLi_init 0 = .ok (.aload_n 0, 1) := by decide +kernel
theorem dLi_init_1 : decode cLi_init 1 = .ok (.invokespecial 3, 3) := by decide +kernel
theorem dLi_init_4 : decode cLi_init 4 = .ok (.aload_n 0, 1) := by decide +kernel
theorem dLi_init_5 : decode cLi_init 5 = .ok (.sipush 1024, 3) := by decide +kernel
theorem dLi_init_8 : decode cLi_init 8 = .ok (.newarray .int, 2) := by decide +kernel
theorem dLi_init_10 : decode cLi_init 10 = .ok (.putfield 9, 3) := by decide +kernel
theorem dLi_init_13 : decode cLi_init 13 = .ok (.return_, 1) := by decide +kernel
theorem dRu_init_0 : decode cRu_init 0 = .ok (.aload_n 0, 1) := by decide +kernel
theorem dRu_init_1 : decode cRu_init 1 = .ok (.invokespecial 1, 3) := by decide +kernel
theorem dRu_init_4 : decode cRu_init 4 = .ok (.return_, 1) := by decide +kernel
theorem dSs_init_0 : decode cSs_init 0 = .ok (.aload_n 0, 1) := by decide +kernel
theorem dSs_init_1 : decode cSs_init 1 = .ok (.invokespecial 1, 3) := by decide +kernel
theorem dSs_init_4 : decode cSs_init 4 = .ok (.return_, 1) := by decide +kernel
theorem dCf_clear_0 : decode cCf_clear 0 = .ok (.aload_n 0, 1) := by decide +kernel
theorem dCf_clear_1 : decode cCf_clear 1 = .ok (.getfield 10, 3) := by decide +kernel
theorem dCf_clear_4 : decode cCf_clear 4 = .ok (.getfield 51, 3) := by decide +kernel
theorem dCf_clear_7 : decode cCf_clear 7 = .ok (.istore_n 1, 1) := by decide +kernel
theorem dCf_clear_8 : decode cCf_clear 8 = .ok (.aload_n 0, 1) := by decide +kernel
theorem dCf_clear_9 : decode cCf_clear 9 = .ok (.getfield 10, 3) := by decide +kernel
theorem dCf_clear_12 : decode cCf_clear 12 = .ok (.invokevirtual 72, 3) := by decide +kernel
theorem dCf_clear_15 : decode cCf_clear 15 = .ok (.iload_n 1, 1) := by decide +kernel
theorem dCf_clear_16 : decode cCf_clear 16 = .ok (.ireturn, 1) := by decide +kernel
theorem dRo_empty_0 : decode cRo_empty 0 = .ok (.aload_n 0, 1) := by decide +kernel
theorem dRo_empty_1 : decode cRo_empty 1 = .ok (.iconst 0, 1) := by decide +kernel
theorem dRo_empty_2 : decode cRo_empty 2 = .ok (.putfield 18, 3) := by decide +kernel
theorem dRo_empty_5 : decode cRo_empty 5 = .ok (.aload_n 0, 1) := by decide +kernel
theorem dRo_empty_6 : decode cRo_empty 6 = .ok (.iconst 0, 1) := by decide +kernel
theorem dRo_empty_7 : decode cRo_empty 7 = .ok (.putfield 22, 3) := by decide +kernel
theorem dRo_empty_10 : decode cRo_empty 10 = .ok (.aload_n 0, 1) := by decide +kernel
theorem dRo_empty_11 : decode cRo_empty 11 = .ok (.iconst 0, 1) := by decide +kernel
theorem dRo_empty_12 : decode cRo_empty 12 = .ok (.putfield 29, 3) := by decide +kernel
theorem dRo_empty_15 : decode cRo_empty 15 = .ok (.return_, 1) := by decide +kernel
theorem dCf_form_0 : decode cCf_form 0 = .ok (.aload_n 0, 1) := by decide +kernel
theorem dCf_form_1 : decode cCf_form 1 = .ok (.getfield 44, 3) := by decide +kernel
theorem dCf_form_4 : decode cCf_form 4 = .ok (.ireturn, 1) := by decide +kernel
theorem dCf_size_0 : decode cCf_size 0 = .ok (.aload_n 0, 1) := by decide +kernel
theorem dCf_size_1 : decode cCf_size 1 = .ok (.getfield 19, 3) := by decide +kernel
theorem dCf_size_4 : decode cCf_size 4 = .ok (.invokevirtual 94, 3) := by decide +kernel
theorem dCf_size_7 : decode cCf_size 7 = .ok (.ireturn, 1) := by decide +kernel
theorem dBy_length_0 : decode cBy_length 0 = .ok (.aload_n 0, 1) := by decide +kernel
theorem dBy_length_1 : decode cBy_length 1 = .ok (.getfield 15, 3) := by decide +kernel
theorem dBy_length_4 : decode cBy_length 4 = .ok (.invokestatic 19, 3) := by decide +kernel
theorem dBy_length_7 : decode cBy_length 7 = .ok (.ireturn, 1) := by decide +kernel
theorem dCf_wholeBytes_0 : decode cCf_wholeBytes 0 = .ok (.iload_n 0, 1) := by decide +kernel
theorem dCf_wholeBytes_1 : decode cCf_wholeBytes 1 = .ok (.bipush 7, 2) := by decide +kernel
theorem dCf_wholeBytes_3 : decode cCf_wholeBytes 3 = .ok (.iadd, 1) := by decide +kernel
theorem dCf_wholeBytes_4 : decode cCf_wholeBytes 4 = .ok (.iconst 3, 1) := by decide +kernel
theorem dCf_wholeBytes_5 : decode cCf_wholeBytes 5 = .ok (.ishr, 1) := by decide +kernel
theorem dCf_wholeBytes_6 : decode cCf_wholeBytes 6 = .ok (.ireturn, 1) := by decide +kernel
theorem dCf_put_0 : decode cCf_put 0 = .ok (.aload_n 0, 1) := by decide +kernel
theorem dCf_put_1 : decode cCf_put 1 = .ok (.getfield 10, 3) := by decide +kernel
theorem dCf_put_4 : decode cCf_put 4 = .ok (.getfield 51, 3) := by decide +kernel
theorem dCf_put_7 : decode cCf_put 7 = .ok (.sipush 1024, 3) := by decide +kernel
theorem dCf_put_10 : decode cCf_put 10 = .ok (.if_icmp .lt 13, 3) := by decide +kernel
theorem dCf_put_13 : decode cCf_put 13 = .ok (.new 54, 3) := by decide +kernel
theorem dCf_put_16 : decode cCf_put 16 = .ok (.dup, 1) := by decide +kernel
theorem dCf_put_17 : decode cCf_put 17 = .ok (.ldc 56, 2) := by decide +kernel
theorem dCf_put_19 : decode cCf_put 19 = .ok (.invokespecial 58, 3) := by decide +kernel
theorem dCf_put_22 : decode cCf_put 22 = .ok (.athrow, 1) := by decide +kernel
theorem dCf_put_23 : decode cCf_put 23 = .ok (.aload_n 0, 1) := by decide +kernel
theorem dCf_put_24 : decode cCf_put 24 = .ok (.getfield 10, 3) := by decide +kernel
theorem dCf_put_27 : decode cCf_put 27 = .ok (.lload_n 1, 1) := by decide +kernel
theorem dCf_put_28 : decode cCf_put 28 = .ok (.invokevirtual 61, 3) := by decide +kernel
theorem dCf_put_31 : decode cCf_put 31 = .ok (.aload_n 0, 1) := by decide +kernel
theorem dCf_put_32 : decode cCf_put 32 = .ok (.getfield 10, 3) := by decide +kernel
theorem dCf_put_35 : decode cCf_put 35 = .ok (.getfield 51, 3) := by decide +kernel
theorem dCf_put_38 : decode cCf_put 38 = .ok (.ireturn, 1) := by decide +kernel
theorem dRo_add_0 : decode cRo_add 0 = .ok (.aload_n 0, 1) := by decide +kernel
theorem dRo_add_1 : decode cRo_add 1 = .ok (.getfield 18, 3) := by decide +kernel
theorem dRo_add_4 : decode cRo_add 4 = .ok (.sipush 1024, 3) := by decide +kernel
theorem dRo_add_7 : decode cRo_add 7 = .ok (.if_icmp .lt 4, 3) := by decide +kernel
theorem dRo_add_10 : decode cRo_add 10 = .ok (.return_, 1) := by decide +kernel
theorem dRo_add_11 : decode cRo_add 11 = .ok (.aload_n 0, 1) := by decide +kernel
theorem dRo_add_12 : decode cRo_add 12 = .ok (.getfield 18, 3) := by decide +kernel
theorem dRo_add_15 : decode cRo_add 15 = .ok (.ifCond .ne 11, 3) := by decide +kernel
theorem dRo_add_18 : decode cRo_add 18 = .ok (.aload_n 0, 1) := by decide +kernel
theorem dRo_add_19 : decode cRo_add 19 = .ok (.lload_n 1, 1) := by decide +kernel
theorem dRo_add_20 : decode cRo_add 20 = .ok (.invokevirtual 32, 3) := by decide +kernel
theorem dRo_add_23 : decode cRo_add 23 = .ok (.goto 20, 3) := by decide +kernel
theorem dRo_add_26 : decode cRo_add 26 = .ok (.aload_n 0, 1) := by decide +kernel
theorem dRo_add_27 : decode cRo_add 27 = .ok (.lload_n 1, 1) := by decide +kernel
theorem dRo_add_28 : decode cRo_add 28 = .ok (.lload_n 1, 1) := by decide +kernel
theorem dRo_add_29 : decode cRo_add 29 = .ok (.aload_n 0, 1) := by decide +kernel
theorem dRo_add_30 : decode cRo_add 30 = .ok (.aload_n 0, 1) := by decide +kernel
theorem dRo_add_31 : decode cRo_add 31 = .ok (.getfield 18, 3) := by decide +kernel
theorem dRo_add_34 : decode cRo_add 34 = .ok (.iconst 1, 1) := by decide +kernel
theorem dRo_add_35 : decode cRo_add 35 = .ok (.isub, 1) := by decide +kernel
theorem dRo_add_36 : decode cRo_add 36 = .ok (.invokevirtual 36, 3) := by decide +kernel
theorem dRo_add_39 : decode cRo_add 39 = .ok (.lsub, 1) := by decide +kernel
theorem dRo_add_40 : decode cRo_add 40 = .ok (.invokevirtual 39, 3) := by decide +kernel
theorem dRo_add_43 : decode cRo_add 43 = .ok (.aload_n 0, 1) := by decide +kernel
theorem dRo_add_44 : decode cRo_add 44 = .ok (.lload_n 1, 1) := by decide +kernel
theorem dRo_add_45 : decode cRo_add 45 = .ok (.aload_n 0, 1) := by decide +kernel
theorem dRo_add_46 : decode cRo_add 46 = .ok (.lload_n 1, 1) := by decide +kernel
theorem dRo_add_47 : decode cRo_add 47 = .ok (.invokevirtual 43, 3) := by decide +kernel
theorem dRo_add_50 : decode cRo_add 50 = .ok (.invokevirtual 47, 3) := by decide +kernel
theorem dRo_add_53 : decode cRo_add 53 = .ok (.aload_n 0, 1) := by decide +kernel
theorem dRo_add_54 : decode cRo_add 54 = .ok (.getfield 9, 3) := by decide +kernel
theorem dRo_add_57 : decode cRo_add 57 = .ok (.aload_n 0, 1) := by decide +kernel
theorem dRo_add_58 : decode cRo_add 58 = .ok (.getfield 18, 3) := by decide +kernel
theorem dRo_add_61 : decode cRo_add 61 = .ok (.lload_n 1, 1) := by decide +kernel
theorem dRo_add_62 : decode cRo_add 62 = .ok (.lastore, 1) := by decide +kernel
theorem dRo_add_63 : decode cRo_add 63 = .ok (.aload_n 0, 1) := by decide +kernel
theorem dRo_add_64 : decode cRo_add 64 = .ok (.dup, 1) := by decide +kernel
theorem dRo_add_65 : decode cRo_add 65 = .ok (.getfield 18, 3) := by decide +kernel
theorem dRo_add_68 : decode cRo_add 68 = .ok (.iconst 1, 1) := by decide +kernel
theorem dRo_add_69 : decode cRo_add 69 = .ok (.iadd, 1) := by decide +kernel
theorem dRo_add_70 : decode cRo_add 70 = .ok (.putfield 18, 3) := by decide +kernel
theorem dRo_add_73 : decode cRo_add 73 = .ok (.return_, 1) := by decide +kernel
theorem dRo_noteFirst_0 : decode cRo_noteFirst 0 = .ok (.aload_n 0, 1) := by decide +kernel
theorem dRo_noteFirst_1 : decode cRo_noteFirst 1 = .ok (.iconst 1, 1) := by decide +kernel
theorem dRo_noteFirst_2 : decode cRo_noteFirst 2 = .ok (.putfield 29, 3) := by decide +kernel
theorem dRo_noteFirst_5 : decode cRo_noteFirst 5 = .ok (.aload_n 0, 1) := by decide +kernel
theorem dRo_noteFirst_6 : decode cRo_noteFirst 6 = .ok (.lload_n 1, 1) := by decide +kernel
theorem dRo_noteFirst_7 : decode cRo_noteFirst 7 = .ok (.putfield 51, 3) := by decide +kernel
theorem dRo_noteFirst_10 : decode cRo_noteFirst 10 = .ok (.aload_n 0, 1) := by decide +kernel
theorem dRo_noteFirst_11 : decode cRo_noteFirst 11 = .ok (.lload_n 1, 1) := by decide +kernel
theorem dRo_noteFirst_12 : decode cRo_noteFirst 12 = .ok (.putfield 55, 3) := by decide +kernel
theorem dRo_noteFirst_15 : decode cRo_noteFirst 15 = .ok (.aload_n 0, 1) := by decide +kernel
theorem dRo_noteFirst_16 : decode cRo_noteFirst 16 = .ok (.lconst 0, 1) := by decide +kernel
theorem dRo_noteFirst_17 : decode cRo_noteFirst 17 = .ok (.putfield 58, 3) := by decide +kernel
theorem dRo_noteFirst_20 : decode cRo_noteFirst 20 = .ok (.aload_n 0, 1) := by decide +kernel
theorem dRo_noteFirst_21 : decode cRo_noteFirst 21 = .ok (.lconst 0, 1) := by decide +kernel
theorem dRo_noteFirst_22 : decode cRo_noteFirst 22 = .ok (.putfield 61, 3) := by decide +kernel
theorem dRo_noteFirst_25 : decode cRo_noteFirst 25 = .ok (.return_, 1) := by decide +kernel
theorem dRo_at_0 : decode cRo_at 0 = .ok (.iload_n 1, 1) := by decide +kernel
theorem dRo_at_1 : decode cRo_at 1 = .ok (.ifCond .lt 20, 3) := by decide +kernel
theorem dRo_at_4 : decode cRo_at 4 = .ok (.iload_n 1, 1) := by decide +kernel
theorem dRo_at_5 : decode cRo_at 5 = .ok (.aload_n 0, 1) := by decide +kernel
theorem dRo_at_6 : decode cRo_at 6 = .ok (.getfield 18, 3) := by decide +kernel
theorem dRo_at_9 : decode cRo_at 9 = .ok (.if_icmp .ge 12, 3) := by decide +kernel
theorem dRo_at_12 : decode cRo_at 12 = .ok (.aload_n 0, 1) := by decide +kernel
theorem dRo_at_13 : decode cRo_at 13 = .ok (.getfield 9, 3) := by decide +kernel
theorem dRo_at_16 : decode cRo_at 16 = .ok (.iload_n 1, 1) := by decide +kernel
theorem dRo_at_17 : decode cRo_at 17 = .ok (.laload, 1) := by decide +kernel
theorem dRo_at_18 : decode cRo_at 18 = .ok (.goto 4, 3) := by decide +kernel
theorem dRo_at_21 : decode cRo_at 21 = .ok (.lconst 0, 1) := by decide +kernel
theorem dRo_at_22 : decode cRo_at 22 = .ok (.lreturn, 1) := by decide +kernel
theorem dRo_noteNext_0 : decode cRo_noteNext 0 = .ok (.lload_n 3, 1) := by decide +kernel
theorem dRo_noteNext_1 : decode cRo_noteNext 1 = .ok (.lconst 0, 1) := by decide +kernel
theorem dRo_noteNext_2 : decode cRo_noteNext 2 = .ok (.lcmp, 1) := by decide +kernel
theorem dRo_noteNext_3 : decode cRo_noteNext 3 = .ok (.ifCond .eq 13, 3) := by decide +kernel
theorem dRo_noteNext_6 : decode cRo_noteNext 6 = .ok (.aload_n 0, 1) := by decide +kernel
theorem dRo_noteNext_7 : decode cRo_noteNext 7 = .ok (.dup, 1) := by decide +kernel
theorem dRo_noteNext_8 : decode cRo_noteNext 8 = .ok (.getfield 29, 3) := by decide +kernel
theorem dRo_noteNext_11 : decode cRo_noteNext 11 = .ok (.iconst 1, 1) := by decide +kernel
theorem dRo_noteNext_12 : decode cRo_noteNext 12 = .ok (.iadd, 1) := by decide +kernel
theorem dRo_noteNext_13 : decode cRo_noteNext 13 = .ok (.putfield 29, 3) := by decide +kernel
theorem dRo_noteNext_16 : decode cRo_noteNext 16 = .ok (.aload_n 0, 1) := by decide +kernel
theorem dRo_noteNext_17 : decode cRo_noteNext 17 = .ok (.aload_n 0, 1) := by decide +kernel
theorem dRo_noteNext_18 : decode cRo_noteNext 18 = .ok (.getfield 51, 3) := by decide +kernel
theorem dRo_noteNext_21 : decode cRo_noteNext 21 = .ok (.lload_n 1, 1) := by decide +kernel
theorem dRo_noteNext_22 : decode cRo_noteNext 22 = .ok (.invokestatic 64, 3) := by decide +kernel
theorem dRo_noteNext_25 : decode cRo_noteNext 25 = .ok (.putfield 51, 3) := by decide +kernel
theorem dRo_noteNext_28 : decode cRo_noteNext 28 = .ok (.aload_n 0, 1) := by decide +kernel
theorem dRo_noteNext_29 : decode cRo_noteNext 29 = .ok (.aload_n 0, 1) := by decide +kernel
theorem dRo_noteNext_30 : decode cRo_noteNext 30 = .ok (.getfield 55, 3) := by decide +kernel
theorem dRo_noteNext_33 : decode cRo_noteNext 33 = .ok (.lload_n 1, 1) := by decide +kernel
theorem dRo_noteNext_34 : decode cRo_noteNext 34 = .ok (.invokestatic 70, 3) := by decide +kernel
theorem dRo_noteNext_37 : decode cRo_noteNext 37 = .ok (.putfield 55, 3) := by decide +kernel
theorem dRo_noteNext_40 : decode cRo_noteNext 40 = .ok (.aload_n 0, 1) := by decide +kernel
theorem dRo_noteNext_41 : decode cRo_noteNext 41 = .ok (.aload_n 0, 1) := by decide +kernel
theorem dRo_noteNext_42 : decode cRo_noteNext 42 = .ok (.getfield 18, 3) := by decide +kernel
theorem dRo_noteNext_45 : decode cRo_noteNext 45 = .ok (.iconst 1, 1) := by decide +kernel
theorem dRo_noteNext_46 : decode cRo_noteNext 46 = .ok (.if_icmp .ne 7, 3) := by decide +kernel
theorem dRo_noteNext_49 : decode cRo_noteNext 49 = .ok (.lload_n 3, 1) := by decide +kernel
theorem dRo_noteNext_50 : decode cRo_noteNext 50 = .ok (.goto 11, 3) := by decide +kernel
theorem dRo_noteNext_53 : decode cRo_noteNext 53 = .ok (.aload_n 0, 1) := by decide +kernel
theorem dRo_noteNext_54 : decode cRo_noteNext 54 = .ok (.getfield 58, 3) := by decide +kernel
theorem dRo_noteNext_57 : decode cRo_noteNext 57 = .ok (.lload_n 3, 1) := by decide +kernel
theorem dRo_noteNext_58 : decode cRo_noteNext 58 = .ok (.invokestatic 64, 3) := by decide +kernel
theorem dRo_noteNext_61 : decode cRo_noteNext 61 = .ok (.putfield 58, 3) := by decide +kernel
theorem dRo_noteNext_64 : decode cRo_noteNext 64 = .ok (.aload_n 0, 1) := by decide +kernel
theorem dRo_noteNext_65 : decode cRo_noteNext 65 = .ok (.aload_n 0, 1) := by decide +kernel
theorem dRo_noteNext_66 : decode cRo_noteNext 66 = .ok (.getfield 18, 3) := by decide +kernel
theorem dRo_noteNext_69 : decode cRo_noteNext 69 = .ok (.iconst 1, 1) := by decide +kernel
theorem dRo_noteNext_70 : decode cRo_noteNext 70 = .ok (.if_icmp .ne 7, 3) := by decide +kernel
theorem dRo_noteNext_73 : decode cRo_noteNext 73 = .ok (.lload_n 3, 1) := by decide +kernel
theorem dRo_noteNext_74 : decode cRo_noteNext 74 = .ok (.goto 11, 3) := by decide +kernel
theorem dRo_noteNext_77 : decode cRo_noteNext 77 = .ok (.aload_n 0, 1) := by decide +kernel
theorem dRo_noteNext_78 : decode cRo_noteNext 78 = .ok (.getfield 61, 3) := by decide +kernel
theorem dRo_noteNext_81 : decode cRo_noteNext 81 = .ok (.lload_n 3, 1) := by decide +kernel
theorem dRo_noteNext_82 : decode cRo_noteNext 82 = .ok (.invokestatic 70, 3) := by decide +kernel
theorem dRo_noteNext_85 : decode cRo_noteNext 85 = .ok (.putfield 61, 3) := by decide +kernel
theorem dRo_noteNext_88 : decode cRo_noteNext 88 = .ok (.return_, 1) := by decide +kernel
theorem dRo_placeOf_0 : decode cRo_placeOf 0 = .ok (.iconst 0, 1) := by decide +kernel
theorem dRo_placeOf_1 : decode cRo_placeOf 1 = .ok (.istore_n 3, 1) := by decide +kernel
theorem dRo_placeOf_2 : decode cRo_placeOf 2 = .ok (.sipush 1024, 3) := by decide +kernel
theorem dRo_placeOf_5 : decode cRo_placeOf 5 = .ok (.istore 4, 2) := by decide +kernel
theorem dRo_placeOf_7 : decode cRo_placeOf 7 = .ok (.iload 4, 2) := by decide +kernel
theorem dRo_placeOf_9 : decode cRo_placeOf 9 = .ok (.ifCond .le 43, 3) := by decide +kernel
theorem dRo_placeOf_12 : decode cRo_placeOf 12 = .ok (.iload_n 3, 1) := by decide +kernel
theorem dRo_placeOf_13 : decode cRo_placeOf 13 = .ok (.iload 4, 2) := by decide +kernel
theorem dRo_placeOf_15 : decode cRo_placeOf 15 = .ok (.iadd, 1) := by decide +kernel
theorem dRo_placeOf_16 : decode cRo_placeOf 16 = .ok (.aload_n 0, 1) := by decide +kernel
theorem dRo_placeOf_17 : decode cRo_placeOf 17 = .ok (.getfield 22, 3) := by decide +kernel
theorem dRo_placeOf_20 : decode cRo_placeOf 20 = .ok (.if_icmp .gt 23, 3) := by decide +kernel
theorem dRo_placeOf_23 : decode cRo_placeOf 23 = .ok (.aload_n 0, 1) := by decide +kernel
theorem dRo_placeOf_24 : decode cRo_placeOf 24 = .ok (.iload_n 3, 1) := by decide +kernel
theorem dRo_placeOf_25 : decode cRo_placeOf 25 = .ok (.iload 4, 2) := by decide +kernel
theorem dRo_placeOf_27 : decode cRo_placeOf 27 = .ok (.iadd, 1) := by decide +kernel
theorem dRo_placeOf_28 : decode cRo_placeOf 28 = .ok (.iconst 1, 1) := by decide +kernel
theorem dRo_placeOf_29 : decode cRo_placeOf 29 = .ok (.isub, 1) := by decide +kernel
theorem dRo_placeOf_30 : decode cRo_placeOf 30 = .ok (.invokevirtual 25, 3) := by decide +kernel
theorem dRo_placeOf_33 : decode cRo_placeOf 33 = .ok (.lload_n 1, 1) := by decide +kernel
theorem dRo_placeOf_34 : decode cRo_placeOf 34 = .ok (.lcmp, 1) := by decide +kernel
theorem dRo_placeOf_35 : decode cRo_placeOf 35 = .ok (.ifCond .ge 8, 3) := by decide +kernel
theorem dRo_placeOf_38 : decode cRo_placeOf 38 = .ok (.iload_n 3, 1) := by decide +kernel
theorem dRo_placeOf_39 : decode cRo_placeOf 39 = .ok (.iload 4, 2) := by decide +kernel
theorem dRo_placeOf_41 : decode cRo_placeOf 41 = .ok (.iadd, 1) := by decide +kernel
theorem dRo_placeOf_42 : decode cRo_placeOf 42 = .ok (.istore_n 3, 1) := by decide +kernel
theorem dRo_placeOf_43 : decode cRo_placeOf 43 = .ok (.iload 4, 2) := by decide +kernel
theorem dRo_placeOf_45 : decode cRo_placeOf 45 = .ok (.iconst 1, 1) := by decide +kernel
theorem dRo_placeOf_46 : decode cRo_placeOf 46 = .ok (.ishr, 1) := by decide +kernel
theorem dRo_placeOf_47 : decode cRo_placeOf 47 = .ok (.istore 4, 2) := by decide +kernel
theorem dRo_placeOf_49 : decode cRo_placeOf 49 = .ok (.goto (-42), 3) := by decide +kernel
theorem dRo_placeOf_52 : decode cRo_placeOf 52 = .ok (.iload_n 3, 1) := by decide +kernel
theorem dRo_placeOf_53 : decode cRo_placeOf 53 = .ok (.ireturn, 1) := by decide +kernel
theorem dRo_differentAt_0 : decode cRo_differentAt 0 = .ok (.iload_n 1, 1) := by decide +kernel
theorem dRo_differentAt_1 : decode cRo_differentAt 1 = .ok (.ifCond .lt 20, 3) := by decide +kernel
theorem dRo_differentAt_4 : decode cRo_differentAt 4 = .ok (.iload_n 1, 1) := by decide +kernel
theorem dRo_differentAt_5 : decode cRo_differentAt 5 = .ok (.aload_n 0, 1) := by decide +kernel
theorem dRo_differentAt_6 : decode cRo_differentAt 6 = .ok (.getfield 22, 3) := by decide +kernel
theorem dRo_differentAt_9 : decode cRo_differentAt 9 = .ok (.if_icmp .ge 12, 3) := by decide +kernel
theorem dRo_differentAt_12 : decode cRo_differentAt 12 = .ok (.aload_n 0, 1) := by decide +kernel
theorem dRo_differentAt_13 : decode cRo_differentAt 13 = .ok (.getfield 15, 3) := by decide +kernel
theorem dRo_differentAt_16 : decode cRo_differentAt 16 = .ok (.iload_n 1, 1) := by decide +kernel
theorem dRo_differentAt_17 : decode cRo_differentAt 17 = .ok (.laload, 1) := by decide +kernel
theorem dRo_differentAt_18 : decode cRo_differentAt 18 = .ok (.goto 4, 3) := by decide +kernel
theorem dRo_differentAt_21 : decode cRo_differentAt 21 = .ok (.lconst 0, 1) := by decide +kernel
theorem dRo_differentAt_22 : decode cRo_differentAt 22 = .ok (.lreturn, 1) := by decide +kernel
theorem dRo_noteDifferent_0 : decode cRo_noteDifferent 0 = .ok (.iload_n 3, 1) := by decide +kernel
theorem dRo_noteDifferent_1 : decode cRo_noteDifferent 1 = .ok (.aload_n 0, 1) := by decide +kernel
theorem dRo_noteDifferent_2 : decode cRo_noteDifferent 2 = .ok (.getfield 22, 3) := by decide +kernel
theorem dRo_noteDifferent_5 : decode cRo_noteDifferent 5 = .ok (.if_icmp .ge 17, 3) := by decide +kernel
theorem dRo_noteDifferent_8 : decode cRo_noteDifferent 8 = .ok (.aload_n 0, 1) := by decide +kernel
theorem dRo_noteDifferent_9 : decode cRo_noteDifferent 9 = .ok (.iload_n 3, 1) := by decide +kernel
theorem dRo_noteDifferent_10 : decode cRo_noteDifferent 10 = .ok (.invokevirtual 25, 3) := by decide +kernel
theorem dRo_noteDifferent_13 : decode cRo_noteDifferent 13 = .ok (.lload_n 1, 1) := by decide +kernel
theorem dRo_noteDifferent_14 : decode cRo_noteDifferent 14 = .ok (.lcmp, 1) := by decide +kernel
theorem dRo_noteDifferent_15 : decode cRo_noteDifferent 15 = .ok (.ifCond .ne 7, 3) := by decide +kernel
theorem dRo_noteDifferent_18 : decode cRo_noteDifferent 18 = .ok (.iconst 1, 1) := by decide +kernel
theorem dRo_noteDifferent_19 : decode cRo_noteDifferent 19 = .ok (.goto 4, 3) := by decide +kernel
theorem dRo_noteDifferent_22 : decode cRo_noteDifferent 22 = .ok (.iconst 0, 1) := by decide +kernel
theorem dRo_noteDifferent_23 : decode cRo_noteDifferent 23 = .ok (.istore 4, 2) := by decide +kernel
theorem dRo_noteDifferent_25 : decode cRo_noteDifferent 25 = .ok (.iload 4, 2) := by decide +kernel
theorem dRo_noteDifferent_27 : decode cRo_noteDifferent 27 = .ok (.ifCond .ne 25, 3) := by decide +kernel
theorem dRo_noteDifferent_30 : decode cRo_noteDifferent 30 = .ok (.iload_n 3, 1) := by decide +kernel
theorem dRo_noteDifferent_31 : decode cRo_noteDifferent 31 = .ok (.ifCond .lt 21, 3) := by decide +kernel
theorem dRo_noteDifferent_34 : decode cRo_noteDifferent 34 = .ok (.iload_n 3, 1) := by decide +kernel
theorem dRo_noteDifferent_35 : decode cRo_noteDifferent 35 = .ok (.aload_n 0, 1) := by decide +kernel
theorem dRo_noteDifferent_36 : decode cRo_noteDifferent 36 = .ok (.getfield 22, 3) := by decide +kernel
theorem dRo_noteDifferent_39 : decode cRo_noteDifferent 39 = .ok (.if_icmp .gt 13, 3) := by decide +kernel
theorem dRo_noteDifferent_42 : decode cRo_noteDifferent 42 = .ok (.aload_n 0, 1) := by decide +kernel
theorem dRo_noteDifferent_43 : decode cRo_noteDifferent 43 = .ok (.getfield 22, 3) := by decide +kernel
theorem dRo_noteDifferent_46 : decode cRo_noteDifferent 46 = .ok (.sipush 1024, 3) := by decide +kernel
theorem dRo_noteDifferent_49 : decode cRo_noteDifferent 49 = .ok (.if_icmp .lt 4, 3) := by decide +kernel
theorem dRo_noteDifferent_52 : decode cRo_noteDifferent 52 = .ok (.return_, 1) := by decide +kernel
theorem dRo_noteDifferent_53 : decode cRo_noteDifferent 53 = .ok (.aload_n 0, 1) := by decide +kernel
theorem dRo_noteDifferent_54 : decode cRo_noteDifferent 54 = .ok (.getfield 15, 3) := by decide +kernel
theorem dRo_noteDifferent_57 : decode cRo_noteDifferent 57 = .ok (.iload_n 3, 1) := by decide +kernel
theorem dRo_noteDifferent_58 : decode cRo_noteDifferent 58 = .ok (.aload_n 0, 1) := by decide +kernel
theorem dRo_noteDifferent_59 : decode cRo_noteDifferent 59 = .ok (.getfield 15, 3) := by decide +kernel
theorem dRo_noteDifferent_62 : decode cRo_noteDifferent 62 = .ok (.iload_n 3, 1) := by decide +kernel
theorem dRo_noteDifferent_63 : decode cRo_noteDifferent 63 = .ok (.iconst 1, 1) := by decide +kernel
theorem dRo_noteDifferent_64 : decode cRo_noteDifferent 64 = .ok (.iadd, 1) := by decide +kernel
theorem dRo_noteDifferent_65 : decode cRo_noteDifferent 65 = .ok (.aload_n 0, 1) := by decide +kernel
theorem dRo_noteDifferent_66 : decode cRo_noteDifferent 66 = .ok (.getfield 22, 3) := by decide +kernel
theorem dRo_noteDifferent_69 : decode cRo_noteDifferent 69 = .ok (.iload_n 3, 1) := by decide +kernel
theorem dRo_noteDifferent_70 : decode cRo_noteDifferent 70 = .ok (.isub, 1) := by decide +kernel
theorem dRo_noteDifferent_71 : decode cRo_noteDifferent 71 = .ok (.invokestatic 73, 3) := by decide +kernel
theorem dRo_noteDifferent_74 : decode cRo_noteDifferent 74 = .ok (.aload_n 0, 1) := by decide +kernel
theorem dRo_noteDifferent_75 : decode cRo_noteDifferent 75 = .ok (.getfield 15, 3) := by decide +kernel
theorem dRo_noteDifferent_78 : decode cRo_noteDifferent 78 = .ok (.iload_n 3, 1) := by decide +kernel
theorem dRo_noteDifferent_79 : decode cRo_noteDifferent 79 = .ok (.lload_n 1, 1) := by decide +kernel
theorem dRo_noteDifferent_80 : decode cRo_noteDifferent 80 = .ok (.lastore, 1) := by decide +kernel
theorem dRo_noteDifferent_81 : decode cRo_noteDifferent 81 = .ok (.aload_n 0, 1) := by decide +kernel
theorem dRo_noteDifferent_82 : decode cRo_noteDifferent 82 = .ok (.dup, 1) := by decide +kernel
theorem dRo_noteDifferent_83 : decode cRo_noteDifferent 83 = .ok (.getfield 22, 3) := by decide +kernel
theorem dRo_noteDifferent_86 : decode cRo_noteDifferent 86 = .ok (.iconst 1, 1) := by decide +kernel
theorem dRo_noteDifferent_87 : decode cRo_noteDifferent 87 = .ok (.iadd, 1) := by decide +kernel
theorem dRo_noteDifferent_88 : decode cRo_noteDifferent 88 = .ok (.putfield 22, 3) := by decide +kernel
theorem dRo_noteDifferent_91 : decode cRo_noteDifferent 91 = .ok (.return_, 1) := by decide +kernel
theorem dCf_fill_0 : decode cCf_fill 0 = .ok (.iload 5, 2) := by decide +kernel
theorem dCf_fill_2 : decode cCf_fill 2 = .ok (.iconst 1, 1) := by decide +kernel
theorem dCf_fill_3 : decode cCf_fill 3 = .ok (.if_icmp .lt 11, 3) := by decide +kernel
theorem dCf_fill_6 : decode cCf_fill 6 = .ok (.iload 5, 2) := by decide +kernel
theorem dCf_fill_8 : decode cCf_fill 8 = .ok (.sipush 1024, 3) := by decide +kernel
theorem dCf_fill_11 : decode cCf_fill 11 = .ok (.if_icmp .le 13, 3) := by decide +kernel
theorem dCf_fill_14 : decode cCf_fill 14 = .ok (.new 65, 3) := by decide +kernel
theorem dCf_fill_17 : decode cCf_fill 17 = .ok (.dup, 1) := by decide +kernel
theorem dCf_fill_18 : decode cCf_fill 18 = .ok (.ldc 67, 2) := by decide +kernel
theorem dCf_fill_20 : decode cCf_fill 20 = .ok (.invokespecial 69, 3) := by decide +kernel
theorem dCf_fill_23 : decode cCf_fill 23 = .ok (.athrow, 1) := by decide +kernel
theorem dCf_fill_24 : decode cCf_fill 24 = .ok (.iload 5, 2) := by decide +kernel
theorem dCf_fill_26 : decode cCf_fill 26 = .ok (.sipush 1024, 3) := by decide +kernel
theorem dCf_fill_29 : decode cCf_fill 29 = .ok (.aload_n 0, 1) := by decide +kernel
theorem dCf_fill_30 : decode cCf_fill 30 = .ok (.getfield 10, 3) := by decide +kernel
theorem dCf_fill_33 : decode cCf_fill 33 = .ok (.getfield 51, 3) := by decide +kernel
theorem dCf_fill_36 : decode cCf_fill 36 = .ok (.isub, 1) := by decide +kernel
theorem dCf_fill_37 : decode cCf_fill 37 = .ok (.if_icmp .le 13, 3) := by decide +kernel
theorem dCf_fill_40 : decode cCf_fill 40 = .ok (.new 54, 3) := by decide +kernel
theorem dCf_fill_43 : decode cCf_fill 43 = .ok (.dup, 1) := by decide +kernel
theorem dCf_fill_44 : decode cCf_fill 44 = .ok (.ldc 70, 2) := by decide +kernel
theorem dCf_fill_46 : decode cCf_fill 46 = .ok (.invokespecial 58, 3) := by decide +kernel
theorem dCf_fill_49 : decode cCf_fill 49 = .ok (.athrow, 1) := by decide +kernel
theorem dCf_fill_50 : decode cCf_fill 50 = .ok (.lload_n 1, 1) := by decide +kernel
theorem dCf_fill_51 : decode cCf_fill 51 = .ok (.lstore 6, 2) := by decide +kernel
theorem dCf_fill_53 : decode cCf_fill 53 = .ok (.iconst 0, 1) := by decide +kernel
theorem dCf_fill_54 : decode cCf_fill 54 = .ok (.istore 8, 2) := by decide +kernel
theorem dCf_fill_56 : decode cCf_fill 56 = .ok (.iload 8, 2) := by decide +kernel
theorem dCf_fill_58 : decode cCf_fill 58 = .ok (.iload 5, 2) := by decide +kernel
theorem dCf_fill_60 : decode cCf_fill 60 = .ok (.if_icmp .ge 24, 3) := by decide +kernel
theorem dCf_fill_63 : decode cCf_fill 63 = .ok (.aload_n 0, 1) := by decide +kernel
theorem dCf_fill_64 : decode cCf_fill 64 = .ok (.getfield 10, 3) := by decide +kernel
theorem dCf_fill_67 : decode cCf_fill 67 = .ok (.lload 6, 2) := by decide +kernel
theorem dCf_fill_69 : decode cCf_fill 69 = .ok (.invokevirtual 61, 3) := by decide +kernel
theorem dCf_fill_72 : decode cCf_fill 72 = .ok (.lload 6, 2) := by decide +kernel
theorem dCf_fill_74 : decode cCf_fill 74 = .ok (.lload_n 3, 1) := by decide +kernel
theorem dCf_fill_75 : decode cCf_fill 75 = .ok (.ladd, 1) := by decide +kernel
theorem dCf_fill_76 : decode cCf_fill 76 = .ok (.lstore 6, 2) := by decide +kernel
theorem dCf_fill_78 : decode cCf_fill 78 = .ok (.iinc 8 1, 3) := by decide +kernel
theorem dCf_fill_81 : decode cCf_fill 81 = .ok (.goto (-25), 3) := by decide +kernel
theorem dCf_fill_84 : decode cCf_fill 84 = .ok (.aload_n 0, 1) := by decide +kernel
theorem dCf_fill_85 : decode cCf_fill 85 = .ok (.getfield 10, 3) := by decide +kernel
theorem dCf_fill_88 : decode cCf_fill 88 = .ok (.getfield 51, 3) := by decide +kernel
theorem dCf_fill_91 : decode cCf_fill 91 = .ok (.ireturn, 1) := by decide +kernel
theorem dCf_weight_0 : decode cCf_weight 0 = .ok (.iload_n 1, 1) := by decide +kernel
theorem dCf_weight_1 : decode cCf_weight 1 = .ok (.invokestatic 75, 3) := by decide +kernel
theorem dCf_weight_4 : decode cCf_weight 4 = .ok (.aload_n 0, 1) := by decide +kernel
theorem dCf_weight_5 : decode cCf_weight 5 = .ok (.invokevirtual 79, 3) := by decide +kernel
theorem dCf_weight_8 : decode cCf_weight 8 = .ok (.aload_n 0, 1) := by decide +kernel
theorem dCf_weight_9 : decode cCf_weight 9 = .ok (.getfield 40, 3) := by decide +kernel
theorem dCf_weight_12 : decode cCf_weight 12 = .ok (.iload_n 1, 1) := by decide +kernel
theorem dCf_weight_13 : decode cCf_weight 13 = .ok (.aaload, 1) := by decide +kernel
theorem dCf_weight_14 : decode cCf_weight 14 = .ok (.aload_n 0, 1) := by decide +kernel
theorem dCf_weight_15 : decode cCf_weight 15 = .ok (.getfield 10, 3) := by decide +kernel
theorem dCf_weight_18 : decode cCf_weight 18 = .ok (.invokevirtual 82, 3) := by decide +kernel
theorem dCf_weight_21 : decode cCf_weight 21 = .ok (.ireturn, 1) := by decide +kernel
theorem dCf_refuseUnknownForm_0 : decode cCf_refuseUnknownForm 0 = .ok (.iload_n 0, 1) := by decide +kernel
theorem dCf_refuseUnknownForm_1 : decode cCf_refuseUnknownForm 1 = .ok (.ifCond .lt 8, 3) := by decide +kernel
theorem dCf_refuseUnknownForm_4 : decode cCf_refuseUnknownForm 4 = .ok (.iload_n 0, 1) := by decide +kernel
theorem dCf_refuseUnknownForm_5 : decode cCf_refuseUnknownForm 5 = .ok (.iconst 5, 1) := by decide +kernel
theorem dCf_refuseUnknownForm_6 : decode cCf_refuseUnknownForm 6 = .ok (.if_icmp .lt 13, 3) := by decide +kernel
theorem dCf_refuseUnknownForm_9 : decode cCf_refuseUnknownForm 9 = .ok (.new 65, 3) := by decide +kernel
theorem dCf_refuseUnknownForm_12 : decode cCf_refuseUnknownForm 12 = .ok (.dup, 1) := by decide +kernel
theorem dCf_refuseUnknownForm_13 : decode cCf_refuseUnknownForm 13 = .ok (.ldc 128, 2) := by decide +kernel
theorem dCf_refuseUnknownForm_15 : decode cCf_refuseUnknownForm 15 = .ok (.invokespecial 69, 3) := by decide +kernel
theorem dCf_refuseUnknownForm_18 : decode cCf_refuseUnknownForm 18 = .ok (.athrow, 1) := by decide +kernel
theorem dCf_refuseUnknownForm_19 : decode cCf_refuseUnknownForm 19 = .ok (.return_, 1) := by decide +kernel
theorem dCf_refuseEmptyRow_0 : decode cCf_refuseEmptyRow 0 = .ok (.aload_n 0, 1) := by decide +kernel
theorem dCf_refuseEmptyRow_1 : decode cCf_refuseEmptyRow 1 = .ok (.getfield 10, 3) := by decide +kernel
theorem dCf_refuseEmptyRow_4 : decode cCf_refuseEmptyRow 4 = .ok (.getfield 51, 3) := by decide +kernel
