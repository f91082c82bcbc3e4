theorem dCf_refuseEmptyRow_7 : decode cCf_refuseEmptyRow 7 = .ok (.ifCond .ne 13, 3) := by decide +kernel
theorem dCf_refuseEmptyRow_10 : decode cCf_refuseEmptyRow 10 = .ok (.new 54, 3) := by decide +kernel
theorem dCf_refuseEmptyRow_13 : decode cCf_refuseEmptyRow 13 = .ok (.dup, 1) := by decide +kernel
theorem dCf_refuseEmptyRow_14 : decode cCf_refuseEmptyRow 14 = .ok (.ldc 130, 2) := by decide +kernel
theorem dCf_refuseEmptyRow_16 : decode cCf_refuseEmptyRow 16 = .ok (.invokespecial 58, 3) := by decide +kernel
theorem dCf_refuseEmptyRow_19 : decode cCf_refuseEmptyRow 19 = .ok (.athrow, 1) := by decide +kernel
theorem dCf_refuseEmptyRow_20 : decode cCf_refuseEmptyRow 20 = .ok (.return_, 1) := by decide +kernel
theorem dLi_weigh_0 : decode cLi_weigh 0 = .ok (.aload_n 1, 1) := by decide +kernel
theorem dLi_weigh_1 : decode cLi_weigh 1 = .ok (.getfield 15, 3) := by decide +kernel
theorem dLi_weigh_4 : decode cLi_weigh 4 = .ok (.invokestatic 21, 3) := by decide +kernel
theorem dLi_weigh_7 : decode cLi_weigh 7 = .ok (.aload_n 1, 1) := by decide +kernel
theorem dLi_weigh_8 : decode cLi_weigh 8 = .ok (.getfield 25, 3) := by decide +kernel
theorem dLi_weigh_11 : decode cLi_weigh 11 = .ok (.aload_n 1, 1) := by decide +kernel
theorem dLi_weigh_12 : decode cLi_weigh 12 = .ok (.getfield 15, 3) := by decide +kernel
theorem dLi_weigh_15 : decode cLi_weigh 15 = .ok (.iconst 1, 1) := by decide +kernel
theorem dLi_weigh_16 : decode cLi_weigh 16 = .ok (.isub, 1) := by decide +kernel
theorem dLi_weigh_17 : decode cLi_weigh 17 = .ok (.i2l, 1) := by decide +kernel
theorem dLi_weigh_18 : decode cLi_weigh 18 = .ok (.invokestatic 28, 3) := by decide +kernel
theorem dLi_weigh_21 : decode cLi_weigh 21 = .ok (.imul, 1) := by decide +kernel
theorem dLi_weigh_22 : decode cLi_weigh 22 = .ok (.iadd, 1) := by decide +kernel
theorem dLi_weigh_23 : decode cLi_weigh 23 = .ok (.invokestatic 32, 3) := by decide +kernel
theorem dLi_weigh_26 : decode cLi_weigh 26 = .ok (.ireturn, 1) := by decide +kernel
theorem dLi_placesFrom_0 : decode cLi_placesFrom 0 = .ok (.bipush 16, 2) := by decide +kernel
theorem dLi_placesFrom_2 : decode cLi_placesFrom 2 = .ok (.bipush 64, 2) := by decide +kernel
theorem dLi_placesFrom_4 : decode cLi_placesFrom 4 = .ok (.iload_n 0, 1) := by decide +kernel
theorem dLi_placesFrom_5 : decode cLi_placesFrom 5 = .ok (.imul, 1) := by decide +kernel
theorem dLi_placesFrom_6 : decode cLi_placesFrom 6 = .ok (.iadd, 1) := by decide +kernel
theorem dLi_placesFrom_7 : decode cLi_placesFrom 7 = .ok (.ireturn, 1) := by decide +kernel
theorem dCf_bits_0 : decode cCf_bits 0 = .ok (.bipush 64, 2) := by decide +kernel
theorem dCf_bits_2 : decode cCf_bits 2 = .ok (.lload_n 0, 1) := by decide +kernel
theorem dCf_bits_3 : decode cCf_bits 3 = .ok (.invokestatic 141, 3) := by decide +kernel
theorem dCf_bits_6 : decode cCf_bits 6 = .ok (.isub, 1) := by decide +kernel
theorem dCf_bits_7 : decode cCf_bits 7 = .ok (.ireturn, 1) := by decide +kernel
theorem dJL_numberOfLeadingZeros_0 : decode cJL_numberOfLeadingZeros 0 = .ok (.lload_n 0, 1) := by decide +kernel
theorem dJL_numberOfLeadingZeros_1 : decode cJL_numberOfLeadingZeros 1 = .ok (.bipush 32, 2) := by decide +kernel
theorem dJL_numberOfLeadingZeros_3 : decode cJL_numberOfLeadingZeros 3 = .ok (.lushr, 1) := by decide +kernel
theorem dJL_numberOfLeadingZeros_4 : decode cJL_numberOfLeadingZeros 4 = .ok (.l2i, 1) := by decide +kernel
theorem dJL_numberOfLeadingZeros_5 : decode cJL_numberOfLeadingZeros 5 = .ok (.istore_n 2, 1) := by decide +kernel
theorem dJL_numberOfLeadingZeros_6 : decode cJL_numberOfLeadingZeros 6 = .ok (.iload_n 2, 1) := by decide +kernel
theorem dJL_numberOfLeadingZeros_7 : decode cJL_numberOfLeadingZeros 7 = .ok (.ifCond .ne 14, 3) := by decide +kernel
theorem dJL_numberOfLeadingZeros_10 : decode cJL_numberOfLeadingZeros 10 = .ok (.bipush 32, 2) := by decide +kernel
theorem dJL_numberOfLeadingZeros_12 : decode cJL_numberOfLeadingZeros 12 = .ok (.lload_n 0, 1) := by decide +kernel
theorem dJL_numberOfLeadingZeros_13 : decode cJL_numberOfLeadingZeros 13 = .ok (.l2i, 1) := by decide +kernel
theorem dJL_numberOfLeadingZeros_14 : decode cJL_numberOfLeadingZeros 14 = .ok (.invokestatic 308, 3) := by decide +kernel
theorem dJL_numberOfLeadingZeros_17 : decode cJL_numberOfLeadingZeros 17 = .ok (.iadd, 1) := by decide +kernel
theorem dJL_numberOfLeadingZeros_18 : decode cJL_numberOfLeadingZeros 18 = .ok (.goto 7, 3) := by decide +kernel
theorem dJL_numberOfLeadingZeros_21 : decode cJL_numberOfLeadingZeros 21 = .ok (.iload_n 2, 1) := by decide +kernel
theorem dJL_numberOfLeadingZeros_22 : decode cJL_numberOfLeadingZeros 22 = .ok (.invokestatic 308, 3) := by decide +kernel
theorem dJL_numberOfLeadingZeros_25 : decode cJL_numberOfLeadingZeros 25 = .ok (.ireturn, 1) := by decide +kernel
theorem dJI_numberOfLeadingZeros_0 : decode cJI_numberOfLeadingZeros 0 = .ok (.iload_n 0, 1) := by decide +kernel
theorem dJI_numberOfLeadingZeros_1 : decode cJI_numberOfLeadingZeros 1 = .ok (.ifCond .gt 14, 3) := by decide +kernel
theorem dJI_numberOfLeadingZeros_4 : decode cJI_numberOfLeadingZeros 4 = .ok (.iload_n 0, 1) := by decide +kernel
theorem dJI_numberOfLeadingZeros_5 : decode cJI_numberOfLeadingZeros 5 = .ok (.ifCond .ne 8, 3) := by decide +kernel
theorem dJI_numberOfLeadingZeros_8 : decode cJI_numberOfLeadingZeros 8 = .ok (.bipush 32, 2) := by decide +kernel
theorem dJI_numberOfLeadingZeros_10 : decode cJI_numberOfLeadingZeros 10 = .ok (.goto 4, 3) := by decide +kernel
theorem dJI_numberOfLeadingZeros_13 : decode cJI_numberOfLeadingZeros 13 = .ok (.iconst 0, 1) := by decide +kernel
theorem dJI_numberOfLeadingZeros_14 : decode cJI_numberOfLeadingZeros 14 = .ok (.ireturn, 1) := by decide +kernel
theorem dJI_numberOfLeadingZeros_15 : decode cJI_numberOfLeadingZeros 15 = .ok (.bipush 31, 2) := by decide +kernel
theorem dJI_numberOfLeadingZeros_17 : decode cJI_numberOfLeadingZeros 17 = .ok (.istore_n 1, 1) := by decide +kernel
theorem dJI_numberOfLeadingZeros_18 : decode cJI_numberOfLeadingZeros 18 = .ok (.iload_n 0, 1) := by decide +kernel
theorem dJI_numberOfLeadingZeros_19 : decode cJI_numberOfLeadingZeros 19 = .ok (.ldc_w 264, 3) := by decide +kernel
theorem dJI_numberOfLeadingZeros_22 : decode cJI_numberOfLeadingZeros 22 = .ok (.if_icmp .lt 11, 3) := by decide +kernel
theorem dJI_numberOfLeadingZeros_25 : decode cJI_numberOfLeadingZeros 25 = .ok (.iinc 1 (-16), 3) := by decide +kernel
theorem dJI_numberOfLeadingZeros_28 : decode cJI_numberOfLeadingZeros 28 = .ok (.iload_n 0, 1) := by decide +kernel
theorem dJI_numberOfLeadingZeros_29 : decode cJI_numberOfLeadingZeros 29 = .ok (.bipush 16, 2) := by decide +kernel
theorem dJI_numberOfLeadingZeros_31 : decode cJI_numberOfLeadingZeros 31 = .ok (.iushr, 1) := by decide +kernel
theorem dJI_numberOfLeadingZeros_32 : decode cJI_numberOfLeadingZeros 32 = .ok (.istore_n 0, 1) := by decide +kernel
theorem dJI_numberOfLeadingZeros_33 : decode cJI_numberOfLeadingZeros 33 = .ok (.iload_n 0, 1) := by decide +kernel
theorem dJI_numberOfLeadingZeros_34 : decode cJI_numberOfLeadingZeros 34 = .ok (.sipush 256, 3) := by decide +kernel
theorem dJI_numberOfLeadingZeros_37 : decode cJI_numberOfLeadingZeros 37 = .ok (.if_icmp .lt 11, 3) := by decide +kernel
theorem dJI_numberOfLeadingZeros_40 : decode cJI_numberOfLeadingZeros 40 = .ok (.iinc 1 (-8), 3) := by decide +kernel
theorem dJI_numberOfLeadingZeros_43 : decode cJI_numberOfLeadingZeros 43 = .ok (.iload_n 0, 1) := by decide +kernel
theorem dJI_numberOfLeadingZeros_44 : decode cJI_numberOfLeadingZeros 44 = .ok (.bipush 8, 2) := by decide +kernel
theorem dJI_numberOfLeadingZeros_46 : decode cJI_numberOfLeadingZeros 46 = .ok (.iushr, 1) := by decide +kernel
theorem dJI_numberOfLeadingZeros_47 : decode cJI_numberOfLeadingZeros 47 = .ok (.istore_n 0, 1) := by decide +kernel
theorem dJI_numberOfLeadingZeros_48 : decode cJI_numberOfLeadingZeros 48 = .ok (.iload_n 0, 1) := by decide +kernel
theorem dJI_numberOfLeadingZeros_49 : decode cJI_numberOfLeadingZeros 49 = .ok (.bipush 16, 2) := by decide +kernel
theorem dJI_numberOfLeadingZeros_51 : decode cJI_numberOfLeadingZeros 51 = .ok (.if_icmp .lt 10, 3) := by decide +kernel
theorem dJI_numberOfLeadingZeros_54 : decode cJI_numberOfLeadingZeros 54 = .ok (.iinc 1 (-4), 3) := by decide +kernel
theorem dJI_numberOfLeadingZeros_57 : decode cJI_numberOfLeadingZeros 57 = .ok (.iload_n 0, 1) := by decide +kernel
theorem dJI_numberOfLeadingZeros_58 : decode cJI_numberOfLeadingZeros 58 = .ok (.iconst 4, 1) := by decide +kernel
theorem dJI_numberOfLeadingZeros_59 : decode cJI_numberOfLeadingZeros 59 = .ok (.iushr, 1) := by decide +kernel
theorem dJI_numberOfLeadingZeros_60 : decode cJI_numberOfLeadingZeros 60 = .ok (.istore_n 0, 1) := by decide +kernel
theorem dJI_numberOfLeadingZeros_61 : decode cJI_numberOfLeadingZeros 61 = .ok (.iload_n 0, 1) := by decide +kernel
theorem dJI_numberOfLeadingZeros_62 : decode cJI_numberOfLeadingZeros 62 = .ok (.iconst 4, 1) := by decide +kernel
theorem dJI_numberOfLeadingZeros_63 : decode cJI_numberOfLeadingZeros 63 = .ok (.if_icmp .lt 10, 3) := by decide +kernel
theorem dJI_numberOfLeadingZeros_66 : decode cJI_numberOfLeadingZeros 66 = .ok (.iinc 1 (-2), 3) := by decide +kernel
theorem dJI_numberOfLeadingZeros_69 : decode cJI_numberOfLeadingZeros 69 = .ok (.iload_n 0, 1) := by decide +kernel
theorem dJI_numberOfLeadingZeros_70 : decode cJI_numberOfLeadingZeros 70 = .ok (.iconst 2, 1) := by decide +kernel
theorem dJI_numberOfLeadingZeros_71 : decode cJI_numberOfLeadingZeros 71 = .ok (.iushr, 1) := by decide +kernel
theorem dJI_numberOfLeadingZeros_72 : decode cJI_numberOfLeadingZeros 72 = .ok (.istore_n 0, 1) := by decide +kernel
theorem dJI_numberOfLeadingZeros_73 : decode cJI_numberOfLeadingZeros 73 = .ok (.iload_n 1, 1) := by decide +kernel
theorem dJI_numberOfLeadingZeros_74 : decode cJI_numberOfLeadingZeros 74 = .ok (.iload_n 0, 1) := by decide +kernel
theorem dJI_numberOfLeadingZeros_75 : decode cJI_numberOfLeadingZeros 75 = .ok (.iconst 1, 1) := by decide +kernel
theorem dJI_numberOfLeadingZeros_76 : decode cJI_numberOfLeadingZeros 76 = .ok (.iushr, 1) := by decide +kernel
theorem dJI_numberOfLeadingZeros_77 : decode cJI_numberOfLeadingZeros 77 = .ok (.isub, 1) := by decide +kernel
theorem dJI_numberOfLeadingZeros_78 : decode cJI_numberOfLeadingZeros 78 = .ok (.ireturn, 1) := by decide +kernel
theorem dPa_weigh_0 : decode cPa_weigh 0 = .ok (.bipush 72, 2) := by decide +kernel
theorem dPa_weigh_2 : decode cPa_weigh 2 = .ok (.aload_n 1, 1) := by decide +kernel
theorem dPa_weigh_3 : decode cPa_weigh 3 = .ok (.getfield 9, 3) := by decide +kernel
theorem dPa_weigh_6 : decode cPa_weigh 6 = .ok (.aload_n 1, 1) := by decide +kernel
theorem dPa_weigh_7 : decode cPa_weigh 7 = .ok (.invokestatic 15, 3) := by decide +kernel
theorem dPa_weigh_10 : decode cPa_weigh 10 = .ok (.imul, 1) := by decide +kernel
theorem dPa_weigh_11 : decode cPa_weigh 11 = .ok (.iadd, 1) := by decide +kernel
theorem dPa_weigh_12 : decode cPa_weigh 12 = .ok (.invokestatic 19, 3) := by decide +kernel
theorem dPa_weigh_15 : decode cPa_weigh 15 = .ok (.ireturn, 1) := by decide +kernel
theorem dPa_widthOf_0 : decode cPa_widthOf 0 = .ok (.aload_n 0, 1) := by decide +kernel
theorem dPa_widthOf_1 : decode cPa_widthOf 1 = .ok (.getfield 48, 3) := by decide +kernel
theorem dPa_widthOf_4 : decode cPa_widthOf 4 = .ok (.aload_n 0, 1) := by decide +kernel
theorem dPa_widthOf_5 : decode cPa_widthOf 5 = .ok (.getfield 25, 3) := by decide +kernel
theorem dPa_widthOf_8 : decode cPa_widthOf 8 = .ok (.lsub, 1) := by decide +kernel
theorem dPa_widthOf_9 : decode cPa_widthOf 9 = .ok (.invokestatic 51, 3) := by decide +kernel
theorem dPa_widthOf_12 : decode cPa_widthOf 12 = .ok (.ireturn, 1) := by decide +kernel
theorem dPl_weigh_0 : decode cPl_weigh 0 = .ok (.bipush 8, 2) := by decide +kernel
theorem dPl_weigh_2 : decode cPl_weigh 2 = .ok (.aload_n 1, 1) := by decide +kernel
theorem dPl_weigh_3 : decode cPl_weigh 3 = .ok (.getfield 7, 3) := by decide +kernel
theorem dPl_weigh_6 : decode cPl_weigh 6 = .ok (.imul, 1) := by decide +kernel
theorem dPl_weigh_7 : decode cPl_weigh 7 = .ok (.ireturn, 1) := by decide +kernel
theorem dRu_weigh_0 : decode cRu_weigh 0 = .ok (.bipush 16, 2) := by decide +kernel
theorem dRu_weigh_2 : decode cRu_weigh 2 = .ok (.bipush 80, 2) := by decide +kernel
theorem dRu_weigh_4 : decode cRu_weigh 4 = .ok (.aload_n 1, 1) := by decide +kernel
theorem dRu_weigh_5 : decode cRu_weigh 5 = .ok (.getfield 9, 3) := by decide +kernel
theorem dRu_weigh_8 : decode cRu_weigh 8 = .ok (.imul, 1) := by decide +kernel
theorem dRu_weigh_9 : decode cRu_weigh 9 = .ok (.iadd, 1) := by decide +kernel
theorem dRu_weigh_10 : decode cRu_weigh 10 = .ok (.invokestatic 15, 3) := by decide +kernel
theorem dRu_weigh_13 : decode cRu_weigh 13 = .ok (.ireturn, 1) := by decide +kernel
theorem dSs_weigh_0 : decode cSs_weigh 0 = .ok (.sipush 136, 3) := by decide +kernel
theorem dSs_weigh_3 : decode cSs_weigh 3 = .ok (.aload_n 1, 1) := by decide +kernel
theorem dSs_weigh_4 : decode cSs_weigh 4 = .ok (.getfield 9, 3) := by decide +kernel
theorem dSs_weigh_7 : decode cSs_weigh 7 = .ok (.iconst 1, 1) := by decide +kernel
theorem dSs_weigh_8 : decode cSs_weigh 8 = .ok (.isub, 1) := by decide +kernel
theorem dSs_weigh_9 : decode cSs_weigh 9 = .ok (.aload_n 1, 1) := by decide +kernel
theorem dSs_weigh_10 : decode cSs_weigh 10 = .ok (.invokestatic 15, 3) := by decide +kernel
theorem dSs_weigh_13 : decode cSs_weigh 13 = .ok (.imul, 1) := by decide +kernel
theorem dSs_weigh_14 : decode cSs_weigh 14 = .ok (.iadd, 1) := by decide +kernel
theorem dSs_weigh_15 : decode cSs_weigh 15 = .ok (.invokestatic 19, 3) := by decide +kernel
theorem dSs_weigh_18 : decode cSs_weigh 18 = .ok (.ireturn, 1) := by decide +kernel
theorem dSs_widthOf_0 : decode cSs_widthOf 0 = .ok (.aload_n 0, 1) := by decide +kernel
theorem dSs_widthOf_1 : decode cSs_widthOf 1 = .ok (.getfield 52, 3) := by decide +kernel
theorem dSs_widthOf_4 : decode cSs_widthOf 4 = .ok (.aload_n 0, 1) := by decide +kernel
theorem dSs_widthOf_5 : decode cSs_widthOf 5 = .ok (.getfield 35, 3) := by decide +kernel
theorem dSs_widthOf_8 : decode cSs_widthOf 8 = .ok (.lsub, 1) := by decide +kernel
theorem dSs_widthOf_9 : decode cSs_widthOf 9 = .ok (.invokestatic 55, 3) := by decide +kernel
theorem dSs_widthOf_12 : decode cSs_widthOf 12 = .ok (.ireturn, 1) := by decide +kernel
theorem dCf_write_0 : decode cCf_write 0 = .ok (.aload_n 0, 1) := by decide +kernel
theorem dCf_write_1 : decode cCf_write 1 = .ok (.invokevirtual 79, 3) := by decide +kernel
theorem dCf_write_4 : decode cCf_write 4 = .ok (.aload_n 0, 1) := by decide +kernel
theorem dCf_write_5 : decode cCf_write 5 = .ok (.aload_n 0, 1) := by decide +kernel
theorem dCf_write_6 : decode cCf_write 6 = .ok (.invokevirtual 86, 3) := by decide +kernel
theorem dCf_write_9 : decode cCf_write 9 = .ok (.invokevirtual 90, 3) := by decide +kernel
theorem dCf_write_12 : decode cCf_write 12 = .ok (.ireturn, 1) := by decide +kernel
theorem dCf_lightestForm_0 : decode cCf_lightestForm 0 = .ok (.iconst 0, 1) := by decide +kernel
theorem dCf_lightestForm_1 : decode cCf_lightestForm 1 = .ok (.istore_n 1, 1) := by decide +kernel
theorem dCf_lightestForm_2 : decode cCf_lightestForm 2 = .ok (.aload_n 0, 1) := by decide +kernel
theorem dCf_lightestForm_3 : decode cCf_lightestForm 3 = .ok (.getfield 40, 3) := by decide +kernel
theorem dCf_lightestForm_6 : decode cCf_lightestForm 6 = .ok (.iconst 0, 1) := by decide +kernel
theorem dCf_lightestForm_7 : decode cCf_lightestForm 7 = .ok (.aaload, 1) := by decide +kernel
theorem dCf_lightestForm_8 : decode cCf_lightestForm 8 = .ok (.aload_n 0, 1) := by decide +kernel
theorem dCf_lightestForm_9 : decode cCf_lightestForm 9 = .ok (.getfield 10, 3) := by decide +kernel
theorem dCf_lightestForm_12 : decode cCf_lightestForm 12 = .ok (.invokevirtual 82, 3) := by decide +kernel
theorem dCf_lightestForm_15 : decode cCf_lightestForm 15 = .ok (.istore_n 2, 1) := by decide +kernel
theorem dCf_lightestForm_16 : decode cCf_lightestForm 16 = .ok (.iconst 1, 1) := by decide +kernel
theorem dCf_lightestForm_17 : decode cCf_lightestForm 17 = .ok (.istore_n 3, 1) := by decide +kernel
theorem dCf_lightestForm_18 : decode cCf_lightestForm 18 = .ok (.iload_n 3, 1) := by decide +kernel
theorem dCf_lightestForm_19 : decode cCf_lightestForm 19 = .ok (.iconst 5, 1) := by decide +kernel
theorem dCf_lightestForm_20 : decode cCf_lightestForm 20 = .ok (.if_icmp .ge 35, 3) := by decide +kernel
theorem dCf_lightestForm_23 : decode cCf_lightestForm 23 = .ok (.aload_n 0, 1) := by decide +kernel
theorem dCf_lightestForm_24 : decode cCf_lightestForm 24 = .ok (.getfield 40, 3) := by decide +kernel
theorem dCf_lightestForm_27 : decode cCf_lightestForm 27 = .ok (.iload_n 3, 1) := by decide +kernel
theorem dCf_lightestForm_28 : decode cCf_lightestForm 28 = .ok (.aaload, 1) := by decide +kernel
theorem dCf_lightestForm_29 : decode cCf_lightestForm 29 = .ok (.aload_n 0, 1) := by decide +kernel
theorem dCf_lightestForm_30 : decode cCf_lightestForm 30 = .ok (.getfield 10, 3) := by decide +kernel
theorem dCf_lightestForm_33 : decode cCf_lightestForm 33 = .ok (.invokevirtual 82, 3) := by decide +kernel
theorem dCf_lightestForm_36 : decode cCf_lightestForm 36 = .ok (.istore 4, 2) := by decide +kernel
theorem dCf_lightestForm_38 : decode cCf_lightestForm 38 = .ok (.iload 4, 2) := by decide +kernel
theorem dCf_lightestForm_40 : decode cCf_lightestForm 40 = .ok (.iload_n 2, 1) := by decide +kernel
theorem dCf_lightestForm_41 : decode cCf_lightestForm 41 = .ok (.if_icmp .ge 8, 3) := by decide +kernel
theorem dCf_lightestForm_44 : decode cCf_lightestForm 44 = .ok (.iload_n 3, 1) := by decide +kernel
theorem dCf_lightestForm_45 : decode cCf_lightestForm 45 = .ok (.istore_n 1, 1) := by decide +kernel
theorem dCf_lightestForm_46 : decode cCf_lightestForm 46 = .ok (.iload 4, 2) := by decide +kernel
theorem dCf_lightestForm_48 : decode cCf_lightestForm 48 = .ok (.istore_n 2, 1) := by decide +kernel
theorem dCf_lightestForm_49 : decode cCf_lightestForm 49 = .ok (.iinc 3 1, 3) := by decide +kernel
theorem dCf_lightestForm_52 : decode cCf_lightestForm 52 = .ok (.goto (-34), 3) := by decide +kernel
theorem dCf_lightestForm_55 : decode cCf_lightestForm 55 = .ok (.iload_n 1, 1) := by decide +kernel
theorem dCf_lightestForm_56 : decode cCf_lightestForm 56 = .ok (.ireturn, 1) := by decide +kernel
theorem dCf_writeRow_0 : decode cCf_writeRow 0 = .ok (.aload_n 0, 1) := by decide +kernel
theorem dCf_writeRow_1 : decode cCf_writeRow 1 = .ok (.getfield 19, 3) := by decide +kernel
theorem dCf_writeRow_4 : decode cCf_writeRow 4 = .ok (.invokevirtual 134, 3) := by decide +kernel
theorem dCf_writeRow_7 : decode cCf_writeRow 7 = .ok (.aload_n 0, 1) := by decide +kernel
theorem dCf_writeRow_8 : decode cCf_writeRow 8 = .ok (.getfield 40, 3) := by decide +kernel
theorem dCf_writeRow_11 : decode cCf_writeRow 11 = .ok (.iload_n 1, 1) := by decide +kernel
theorem dCf_writeRow_12 : decode cCf_writeRow 12 = .ok (.aaload, 1) := by decide +kernel
theorem dCf_writeRow_13 : decode cCf_writeRow 13 = .ok (.aload_n 0, 1) := by decide +kernel
theorem dCf_writeRow_14 : decode cCf_writeRow 14 = .ok (.getfield 10, 3) := by decide +kernel
theorem dCf_writeRow_17 : decode cCf_writeRow 17 = .ok (.aload_n 0, 1) := by decide +kernel
theorem dCf_writeRow_18 : decode cCf_writeRow 18 = .ok (.getfield 19, 3) := by decide +kernel
theorem dCf_writeRow_21 : decode cCf_writeRow 21 = .ok (.invokevirtual 137, 3) := by decide +kernel
theorem dCf_writeRow_24 : decode cCf_writeRow 24 = .ok (.aload_n 0, 1) := by decide +kernel
theorem dCf_writeRow_25 : decode cCf_writeRow 25 = .ok (.iload_n 1, 1) := by decide +kernel
theorem dCf_writeRow_26 : decode cCf_writeRow 26 = .ok (.putfield 44, 3) := by decide +kernel
theorem dCf_writeRow_29 : decode cCf_writeRow 29 = .ok (.aload_n 0, 1) := by decide +kernel
theorem dCf_writeRow_30 : decode cCf_writeRow 30 = .ok (.aload_n 0, 1) := by decide +kernel
theorem dCf_writeRow_31 : decode cCf_writeRow 31 = .ok (.getfield 10, 3) := by decide +kernel
theorem dCf_writeRow_34 : decode cCf_writeRow 34 = .ok (.getfield 51, 3) := by decide +kernel
theorem dCf_writeRow_37 : decode cCf_writeRow 37 = .ok (.putfield 48, 3) := by decide +kernel
theorem dCf_writeRow_40 : decode cCf_writeRow 40 = .ok (.aload_n 0, 1) := by decide +kernel
theorem dCf_writeRow_41 : decode cCf_writeRow 41 = .ok (.getfield 19, 3) := by decide +kernel
theorem dCf_writeRow_44 : decode cCf_writeRow 44 = .ok (.invokevirtual 94, 3) := by decide +kernel
theorem dCf_writeRow_47 : decode cCf_writeRow 47 = .ok (.ireturn, 1) := by decide +kernel
theorem dBy_restart_0 : decode cBy_restart 0 = .ok (.aload_n 0, 1) := by decide +kernel
theorem dBy_restart_1 : decode cBy_restart 1 = .ok (.getfield 9, 3) := by decide +kernel
theorem dBy_restart_4 : decode cBy_restart 4 = .ok (.arraylength, 1) := by decide +kernel
theorem dBy_restart_5 : decode cBy_restart 5 = .ok (.sipush 10242, 3) := by decide +kernel
theorem dBy_restart_8 : decode cBy_restart 8 = .ok (.if_icmp .ge 12, 3) := by decide +kernel
theorem dBy_restart_11 : decode cBy_restart 11 = .ok (.aload_n 0, 1) := by decide +kernel
theorem dBy_restart_12 : decode cBy_restart 12 = .ok (.sipush 10242, 3) := by decide +kernel
theorem dBy_restart_15 : decode cBy_restart 15 = .ok (.newarray .byte, 2) := by decide +kernel
theorem dBy_restart_17 : decode cBy_restart 17 = .ok (.putfield 9, 3) := by decide +kernel
theorem dBy_restart_20 : decode cBy_restart 20 = .ok (.aload_n 0, 1) := by decide +kernel
theorem dBy_restart_21 : decode cBy_restart 21 = .ok (.iconst 0, 1) := by decide +kernel
theorem dBy_restart_22 : decode cBy_restart 22 = .ok (.putfield 15, 3) := by decide +kernel
theorem dBy_restart_25 : decode cBy_restart 25 = .ok (.return_, 1) := by decide +kernel
theorem dLi_lay_0 : decode cLi_lay 0 = .ok (.aload_n 2, 1) := by decide +kernel
theorem dLi_lay_1 : decode cLi_lay 1 = .ok (.aload_n 1, 1) := by decide +kernel
theorem dLi_lay_2 : decode cLi_lay 2 = .ok (.getfield 15, 3) := by decide +kernel
theorem dLi_lay_5 : decode cLi_lay 5 = .ok (.i2l, 1) := by decide +kernel
theorem dLi_lay_6 : decode cLi_lay 6 = .ok (.bipush 16, 2) := by decide +kernel
theorem dLi_lay_8 : decode cLi_lay 8 = .ok (.invokevirtual 35, 3) := by decide +kernel
theorem dLi_lay_11 : decode cLi_lay 11 = .ok (.iconst 0, 1) := by decide +kernel
theorem dLi_lay_12 : decode cLi_lay 12 = .ok (.istore_n 3, 1) := by decide +kernel
theorem dLi_lay_13 : decode cLi_lay 13 = .ok (.iload_n 3, 1) := by decide +kernel
theorem dLi_lay_14 : decode cLi_lay 14 = .ok (.aload_n 1, 1) := by decide +kernel
theorem dLi_lay_15 : decode cLi_lay 15 = .ok (.getfield 15, 3) := by decide +kernel
theorem dLi_lay_18 : decode cLi_lay 18 = .ok (.if_icmp .ge 20, 3) := by decide +kernel
theorem dLi_lay_21 : decode cLi_lay 21 = .ok (.aload_n 2, 1) := by decide +kernel
theorem dLi_lay_22 : decode cLi_lay 22 = .ok (.aload_n 1, 1) := by decide +kernel
theorem dLi_lay_23 : decode cLi_lay 23 = .ok (.iload_n 3, 1) := by decide +kernel
theorem dLi_lay_24 : decode cLi_lay 24 = .ok (.invokevirtual 41, 3) := by decide +kernel
theorem dLi_lay_27 : decode cLi_lay 27 = .ok (.bipush 64, 2) := by decide +kernel
theorem dLi_lay_29 : decode cLi_lay 29 = .ok (.invokevirtual 35, 3) := by decide +kernel
theorem dLi_lay_32 : decode cLi_lay 32 = .ok (.iinc 3 1, 3) := by decide +kernel
theorem dLi_lay_35 : decode cLi_lay 35 = .ok (.goto (-22), 3) := by decide +kernel
theorem dLi_lay_38 : decode cLi_lay 38 = .ok (.aload_n 1, 1) := by decide +kernel
theorem dLi_lay_39 : decode cLi_lay 39 = .ok (.getfield 15, 3) := by decide +kernel
theorem dLi_lay_42 : decode cLi_lay 42 = .ok (.iconst 1, 1) := by decide +kernel
theorem dLi_lay_43 : decode cLi_lay 43 = .ok (.isub, 1) := by decide +kernel
theorem dLi_lay_44 : decode cLi_lay 44 = .ok (.i2l, 1) := by decide +kernel
theorem dLi_lay_45 : decode cLi_lay 45 = .ok (.invokestatic 28, 3) := by decide +kernel
theorem dLi_lay_48 : decode cLi_lay 48 = .ok (.istore_n 3, 1) := by decide +kernel
theorem dLi_lay_49 : decode cLi_lay 49 = .ok (.iconst 0, 1) := by decide +kernel
theorem dLi_lay_50 : decode cLi_lay 50 = .ok (.istore 4, 2) := by decide +kernel
theorem dLi_lay_52 : decode cLi_lay 52 = .ok (.iload 4, 2) := by decide +kernel
theorem dLi_lay_54 : decode cLi_lay 54 = .ok (.aload_n 1, 1) := by decide +kernel
theorem dLi_lay_55 : decode cLi_lay 55 = .ok (.getfield 25, 3) := by decide +kernel
theorem dLi_lay_58 : decode cLi_lay 58 = .ok (.if_icmp .ge 25, 3) := by decide +kernel
theorem dLi_lay_61 : decode cLi_lay 61 = .ok (.aload_n 2, 1) := by decide +kernel
theorem dLi_lay_62 : decode cLi_lay 62 = .ok (.aload_n 1, 1) := by decide +kernel
theorem dLi_lay_63 : decode cLi_lay 63 = .ok (.aload_n 1, 1) := by decide +kernel
theorem dLi_lay_64 : decode cLi_lay 64 = .ok (.iload 4, 2) := by decide +kernel
theorem dLi_lay_66 : decode cLi_lay 66 = .ok (.invokevirtual 45, 3) := by decide +kernel
theorem dLi_lay_69 : decode cLi_lay 69 = .ok (.invokevirtual 48, 3) := by decide +kernel
theorem dLi_lay_72 : decode cLi_lay 72 = .ok (.i2l, 1) := by decide +kernel
theorem dLi_lay_73 : decode cLi_lay 73 = .ok (.iload_n 3, 1) := by decide +kernel
theorem dLi_lay_74 : decode cLi_lay 74 = .ok (.invokevirtual 35, 3) := by decide +kernel
theorem dLi_lay_77 : decode cLi_lay 77 = .ok (.iinc 4 1, 3) := by decide +kernel
theorem dLi_lay_80 : decode cLi_lay 80 = .ok (.goto (-28), 3) := by decide +kernel
theorem dLi_lay_83 : decode cLi_lay 83 = .ok (.return_, 1) := by decide +kernel
theorem dBy_append_0 : decode cBy_append 0 = .ok (.iload_n 3, 1) := by decide +kernel
theorem dBy_append_1 : decode cBy_append 1 = .ok (.istore 4, 2) := by decide +kernel
theorem dBy_append_3 : decode cBy_append 3 = .ok (.iconst 0, 1) := by decide +kernel
theorem dBy_append_4 : decode cBy_append 4 = .ok (.istore 5, 2) := by decide +kernel
theorem dBy_append_6 : decode cBy_append 6 = .ok (.iload 5, 2) := by decide +kernel
theorem dBy_append_8 : decode cBy_append 8 = .ok (.bipush 9, 2) := by decide +kernel
theorem dBy_append_10 : decode cBy_append 10 = .ok (.if_icmp .ge 70, 3) := by decide +kernel
theorem dBy_append_13 : decode cBy_append 13 = .ok (.iload 4, 2) := by decide +kernel
theorem dBy_append_15 : decode cBy_append 15 = .ok (.ifCond .le 65, 3) := by decide +kernel
theorem dBy_append_18 : decode cBy_append 18 = .ok (.bipush 8, 2) := by decide +kernel
theorem dBy_append_20 : decode cBy_append 20 = .ok (.aload_n 0, 1) := by decide +kernel
theorem dBy_append_21 : decode cBy_append 21 = .ok (.getfield 15, 3) := by decide +kernel
theorem dBy_append_24 : decode cBy_append 24 = .ok (.bipush 7, 2) := by decide +kernel
theorem dBy_append_26 : decode cBy_append 26 = .ok (.iand, 1) := by decide +kernel
theorem dBy_append_27 : decode cBy_append 27 = .ok (.isub, 1) := by decide +kernel
theorem dBy_append_28 : decode cBy_append 28 = .ok (.istore 6, 2) := by decide +kernel
theorem dBy_append_30 : decode cBy_append 30 = .ok (.iload 6, 2) := by decide +kernel
theorem dBy_append_32 : decode cBy_append 32 = .ok (.iload 4, 2) := by decide +kernel
theorem dBy_append_34 : decode cBy_append 34 = .ok (.invokestatic 23, 3) := by decide +kernel
theorem dBy_append_37 : decode cBy_append 37 = .ok (.istore 7, 2) := by decide +kernel
theorem dBy_append_39 : decode cBy_append 39 = .ok (.iload 4, 2) := by decide +kernel
theorem dBy_append_41 : decode cBy_append 41 = .ok (.iload 7, 2) := by decide +kernel
theorem dBy_append_43 : decode cBy_append 43 = .ok (.isub, 1) := by decide +kernel
theorem dBy_append_44 : decode cBy_append 44 = .ok (.istore 4, 2) := by decide +kernel
theorem dBy_append_46 : decode cBy_append 46 = .ok (.lload_n 1, 1) := by decide +kernel
theorem dBy_append_47 : decode cBy_append 47 = .ok (.iload 4, 2) := by decide +kernel
theorem dBy_append_49 : decode cBy_append 49 = .ok (.lushr, 1) := by decide +kernel
theorem dBy_append_50 : decode cBy_append 50 = .ok (.l2i, 1) := by decide +kernel
theorem dBy_append_51 : decode cBy_append 51 = .ok (.iconst 1, 1) := by decide +kernel
theorem dBy_append_52 : decode cBy_append 52 = .ok (.iload 7, 2) := by decide +kernel
theorem dBy_append_54 : decode cBy_append 54 = .ok (.ishl, 1) := by decide +kernel
theorem dBy_append_55 : decode cBy_append 55 = .ok (.iconst 1, 1) := by decide +kernel
theorem dBy_append_56 : decode cBy_append 56 = .ok (.isub, 1) := by decide +kernel
theorem dBy_append_57 : decode cBy_append 57 = .ok (.iand, 1) := by decide +kernel
theorem dBy_append_58 : decode cBy_append 58 = .ok (.istore 8, 2) := by decide +kernel
theorem dBy_append_60 : decode cBy_append 60 = .ok (.aload_n 0, 1) := by decide +kernel
theorem dBy_append_61 : decode cBy_append 61 = .ok (.iload 8, 2) := by decide +kernel
theorem dBy_append_63 : decode cBy_append 63 = .ok (.iload 6, 2) := by decide +kernel
theorem dBy_append_65 : decode cBy_append 65 = .ok (.iload 7, 2) := by decide +kernel
theorem dBy_append_67 : decode cBy_append 67 = .ok (.isub, 1) := by decide +kernel
theorem dBy_append_68 : decode cBy_append 68 = .ok (.ishl, 1) := by decide +kernel
theorem dBy_append_69 : decode cBy_append 69 = .ok (.iload 7, 2) := by decide +kernel
theorem dBy_append_71 : decode cBy_append 71 = .ok (.invokevirtual 29, 3) := by decide +kernel
theorem dBy_append_74 : decode cBy_append 74 = .ok (.iinc 5 1, 3) := by decide +kernel
theorem dBy_append_77 : decode cBy_append 77 = .ok (.goto (-71), 3) := by decide +kernel
theorem dBy_append_80 : decode cBy_append 80 = .ok (.return_, 1) := by decide +kernel
theorem dBy_addToLast_0 : decode cBy_addToLast 0 = .ok (.aload_n 0, 1) := by decide +kernel
theorem dBy_addToLast_1 : decode cBy_addToLast 1 = .ok (.getfield 15, 3) := by decide +kernel
theorem dBy_addToLast_4 : decode cBy_addToLast 4 = .ok (.iconst 3, 1) := by decide +kernel
theorem dBy_addToLast_5 : decode cBy_addToLast 5 = .ok (.ishr, 1) := by decide +kernel
theorem dBy_addToLast_6 : decode cBy_addToLast 6 = .ok (.istore_n 3, 1) := by decide +kernel
theorem dBy_addToLast_7 : decode cBy_addToLast 7 = .ok (.iload_n 3, 1) := by decide +kernel
theorem dBy_addToLast_8 : decode cBy_addToLast 8 = .ok (.aload_n 0, 1) := by decide +kernel
theorem dBy_addToLast_9 : decode cBy_addToLast 9 = .ok (.getfield 9, 3) := by decide +kernel
theorem dBy_addToLast_12 : decode cBy_addToLast 12 = .ok (.arraylength, 1) := by decide +kernel
theorem dBy_addToLast_13 : decode cBy_addToLast 13 = .ok (.if_icmp .lt 4, 3) := by decide +kernel
theorem dBy_addToLast_16 : decode cBy_addToLast 16 = .ok (.return_, 1) := by decide +kernel
theorem dBy_addToLast_17 : decode cBy_addToLast 17 = .ok (.aload_n 0, 1) := by decide +kernel
theorem dBy_addToLast_18 : decode cBy_addToLast 18 = .ok (.getfield 15, 3) := by decide +kernel
theorem dBy_addToLast_21 : decode cBy_addToLast 21 = .ok (.bipush 7, 2) := by decide +kernel
theorem dBy_addToLast_23 : decode cBy_addToLast 23 = .ok (.iand, 1) := by decide +kernel
theorem dBy_addToLast_24 : decode cBy_addToLast 24 = .ok (.ifCond .ne 7, 3) := by decide +kernel
theorem dBy_addToLast_27 : decode cBy_addToLast 27 = .ok (.iconst 0, 1) := by decide +kernel
theorem dBy_addToLast_28 : decode cBy_addToLast 28 = .ok (.goto 9, 3) := by decide +kernel
theorem dBy_addToLast_31 : decode cBy_addToLast 31 = .ok (.aload_n 0, 1) := by decide +kernel
theorem dBy_addToLast_32 : decode cBy_addToLast 32 = .ok (.getfield 9, 3) := by decide +kernel
theorem dBy_addToLast_35 : decode cBy_addToLast 35 = .ok (.iload_n 3, 1) := by decide +kernel
theorem dBy_addToLast_36 : decode cBy_addToLast 36 = .ok (.baload, 1) := by decide +kernel
theorem dBy_addToLast_37 : decode cBy_addToLast 37 = .ok (.istore 4, 2) := by decide +kernel
theorem dBy_addToLast_39 : decode cBy_addToLast 39 = .ok (.aload_n 0, 1) := by decide +kernel
theorem dBy_addToLast_40 : decode cBy_addToLast 40 = .ok (.getfield 9, 3) := by decide +kernel
theorem dBy_addToLast_43 : decode cBy_addToLast 43 = .ok (.iload_n 3, 1) := by decide +kernel
theorem dBy_addToLast_44 : decode cBy_addToLast 44 = .ok (.iload 4, 2) := by decide +kernel
theorem dBy_addToLast_46 : decode cBy_addToLast 46 = .ok (.iload_n 1, 1) := by decide +kernel
theorem dBy_addToLast_47 : decode cBy_addToLast 47 = .ok (.ior, 1) := by decide +kernel
theorem dBy_addToLast_48 : decode cBy_addToLast 48 = .ok (.i2b, 1) := by decide +kernel
theorem dBy_addToLast_49 : decode cBy_addToLast 49 = .ok (.bastore, 1) := by decide +kernel
theorem dBy_addToLast_50 : decode cBy_addToLast 50 = .ok (.aload_n 0, 1) := by decide +kernel
theorem dBy_addToLast_51 : decode cBy_addToLast 51 = .ok (.dup, 1) := by decide +kernel
theorem dBy_addToLast_52 : decode cBy_addToLast 52 = .ok (.getfield 15, 3) := by decide +kernel
theorem dBy_addToLast_55 : decode cBy_addToLast 55 = .ok (.iload_n 2, 1) := by decide +kernel
theorem dBy_addToLast_56 : decode cBy_addToLast 56 = .ok (.iadd, 1) := by decide +kernel
theorem dBy_addToLast_57 : decode cBy_addToLast 57 = .ok (.putfield 15, 3) := by decide +kernel
theorem dBy_addToLast_60 : decode cBy_addToLast 60 = .ok (.return_, 1) := by decide +kernel
theorem dPa_lay_0 : decode cPa_lay 0 = .ok (.aload_n 1, 1) := by decide +kernel
theorem dPa_lay_1 : decode cPa_lay 1 = .ok (.invokestatic 15, 3) := by decide +kernel
theorem dPa_lay_4 : decode cPa_lay 4 = .ok (.istore_n 3, 1) := by decide +kernel
theorem dPa_lay_5 : decode cPa_lay 5 = .ok (.aload_n 2, 1) := by decide +kernel
theorem dPa_lay_6 : decode cPa_lay 6 = .ok (.aload_n 1, 1) := by decide +kernel
theorem dPa_lay_7 : decode cPa_lay 7 = .ok (.getfield 25, 3) := by decide +kernel
theorem dPa_lay_10 : decode cPa_lay 10 = .ok (.bipush 64, 2) := by decide +kernel
theorem dPa_lay_12 : decode cPa_lay 12 = .ok (.invokevirtual 29, 3) := by decide +kernel
theorem dPa_lay_15 : decode cPa_lay 15 = .ok (.aload_n 2, 1) := by decide +kernel
theorem dPa_lay_16 : decode cPa_lay 16 = .ok (.iload_n 3, 1) := by decide +kernel
theorem dPa_lay_17 : decode cPa_lay 17 = .ok (.i2l, 1) := by decide +kernel
theorem dPa_lay_18 : decode cPa_lay 18 = .ok (.bipush 8, 2) := by decide +kernel
theorem dPa_lay_20 : decode cPa_lay 20 = .ok (.invokevirtual 29, 3) := by decide +kernel
theorem dPa_lay_23 : decode cPa_lay 23 = .ok (.iconst 0, 1) := by decide +kernel
theorem dPa_lay_24 : decode cPa_lay 24 = .ok (.istore 4, 2) := by decide +kernel
theorem dPa_lay_26 : decode cPa_lay 26 = .ok (.iload 4, 2) := by decide +kernel
theorem dPa_lay_28 : decode cPa_lay 28 = .ok (.aload_n 1, 1) := by decide +kernel
theorem dPa_lay_29 : decode cPa_lay 29 = .ok (.getfield 9, 3) := by decide +kernel
theorem dPa_lay_32 : decode cPa_lay 32 = .ok (.if_icmp .ge 25, 3) := by decide +kernel
theorem dPa_lay_35 : decode cPa_lay 35 = .ok (.aload_n 2, 1) := by decide +kernel
theorem dPa_lay_36 : decode cPa_lay 36 = .ok (.aload_n 1, 1) := by decide +kernel
theorem dPa_lay_37 : decode cPa_lay 37 = .ok (.iload 4, 2) := by decide +kernel
theorem dPa_lay_39 : decode cPa_lay 39 = .ok (.invokevirtual 35, 3) := by decide +kernel
theorem dPa_lay_42 : decode cPa_lay 42 = .ok (.aload_n 1, 1) := by decide +kernel
theorem dPa_lay_43 : decode cPa_lay 43 = .ok (.getfield 25, 3) := by decide +kernel
theorem dPa_lay_46 : decode cPa_lay 46 = .ok (.lsub, 1) := by decide +kernel
theorem dPa_lay_47 : decode cPa_lay 47 = .ok (.iload_n 3, 1) := by decide +kernel
theorem dPa_lay_48 : decode cPa_lay 48 = .ok (.invokevirtual 29, 3) := by decide +kernel
theorem dPa_lay_51 : decode cPa_lay 51 = .ok (.iinc 4 1, 3) := by decide +kernel
theorem dPa_lay_54 : decode cPa_lay 54 = .ok (.goto (-28), 3) := by decide +kernel
theorem dPa_lay_57 : decode cPa_lay 57 = .ok (.return_, 1) := by decide +kernel
theorem dPl_lay_0 : decode cPl_lay 0 = .ok (.iconst 0, 1) := by decide +kernel
theorem dPl_lay_1 : decode cPl_lay 1 = .ok (.istore_n 3, 1) := by decide +kernel
theorem dPl_lay_2 : decode cPl_lay 2 = .ok (.iload_n 3, 1) := by decide +kernel
theorem dPl_lay_3 : decode cPl_lay 3 = .ok (.aload_n 1, 1) := by decide +kernel
theorem dPl_lay_4 : decode cPl_lay 4 = .ok (.getfield 7, 3) := by decide +kernel
theorem dPl_lay_7 : decode cPl_lay 7 = .ok (.if_icmp .ge 20, 3) := by decide +kernel
theorem dPl_lay_10 : decode cPl_lay 10 = .ok (.aload_n 2, 1) := by decide +kernel
theorem dPl_lay_11 : decode cPl_lay 11 = .ok (.aload_n 1, 1) := by decide +kernel
theorem dPl_lay_12 : decode cPl_lay 12 = .ok (.iload_n 3, 1) := by decide +kernel
theorem dPl_lay_13 : decode cPl_lay 13 = .ok (.invokevirtual 13, 3) := by decide +kernel
theorem dPl_lay_16 : decode cPl_lay 16 = .ok (.bipush 64, 2) := by decide +kernel
theorem dPl_lay_18 : decode cPl_lay 18 = .ok (.invokevirtual 17, 3) := by decide +kernel
theorem dPl_lay_21 : decode cPl_lay 21 = .ok (.iinc 3 1, 3) := by decide +kernel
theorem dPl_lay_24 : decode cPl_lay 24 = .ok (.goto (-22), 3) := by decide +kernel
theorem dPl_lay_27 : decode cPl_lay 27 = .ok (.return_, 1) := by decide +kernel
theorem dRu_lay_0 : decode cRu_lay 0 = .ok (.aload_n 2, 1) := by decide +kernel
theorem dRu_lay_1 : decode cRu_lay 1 = .ok (.aload_n 1, 1) := by decide +kernel
theorem dRu_lay_2 : decode cRu_lay 2 = .ok (.getfield 9, 3) := by decide +kernel
theorem dRu_lay_5 : decode cRu_lay 5 = .ok (.i2l, 1) := by decide +kernel
theorem dRu_lay_6 : decode cRu_lay 6 = .ok (.bipush 16, 2) := by decide +kernel
theorem dRu_lay_8 : decode cRu_lay 8 = .ok (.invokevirtual 21, 3) := by decide +kernel
theorem dRu_lay_11 : decode cRu_lay 11 = .ok (.iconst 0, 1) := by decide +kernel
theorem dRu_lay_12 : decode cRu_lay 12 = .ok (.istore_n 3, 1) := by decide +kernel
theorem dRu_lay_13 : decode cRu_lay 13 = .ok (.iconst 1, 1) := by decide +kernel
theorem dRu_lay_14 : decode cRu_lay 14 = .ok (.istore 4, 2) := by decide +kernel
theorem dRu_lay_16 : decode cRu_lay 16 = .ok (.iload 4, 2) := by decide +kernel
theorem dRu_lay_18 : decode cRu_lay 18 = .ok (.aload_n 1, 1) := by decide +kernel
theorem dRu_lay_19 : decode cRu_lay 19 = .ok (.getfield 27, 3) := by decide +kernel
theorem dRu_lay_22 : decode cRu_lay 22 = .ok (.if_icmp .gt 58, 3) := by decide +kernel
theorem dRu_lay_25 : decode cRu_lay 25 = .ok (.iload 4, 2) := by decide +kernel
theorem dRu_lay_27 : decode cRu_lay 27 = .ok (.aload_n 1, 1) := by decide +kernel
theorem dRu_lay_28 : decode cRu_lay 28 = .ok (.getfield 27, 3) := by decide +kernel
theorem dRu_lay_31 : decode cRu_lay 31 = .ok (.if_icmp .eq 18, 3) := by decide +kernel
theorem dRu_lay_34 : decode cRu_lay 34 = .ok (.aload_n 1, 1) := by decide +kernel
theorem dRu_lay_35 : decode cRu_lay 35 = .ok (.iload 4, 2) := by decide +kernel
theorem dRu_lay_37 : decode cRu_lay 37 = .ok (.invokevirtual 30, 3) := by decide +kernel
theorem dRu_lay_40 : decode cRu_lay 40 = .ok (.aload_n 1, 1) := by decide +kernel
theorem dRu_lay_41 : decode cRu_lay 41 = .ok (.iload_n 3, 1) := by decide +kernel
theorem dRu_lay_42 : decode cRu_lay 42 = .ok (.invokevirtual 30, 3) := by decide +kernel
theorem dRu_lay_45 : decode cRu_lay 45 = .ok (.lcmp, 1) := by decide +kernel
theorem dRu_lay_46 : decode cRu_lay 46 = .ok (.ifCond .eq 28, 3) := by decide +kernel
theorem dRu_lay_49 : decode cRu_lay 49 = .ok (.aload_n 2, 1) := by decide +kernel
theorem dRu_lay_50 : decode cRu_lay 50 = .ok (.aload_n 1, 1) := by decide +kernel
theorem dRu_lay_51 : decode cRu_lay 51 = .ok (.iload_n 3, 1) := by decide +kernel
theorem dRu_lay_52 : decode cRu_lay 52 = .ok (.invokevirtual 30, 3) := by decide +kernel
theorem dRu_lay_55 : decode cRu_lay 55 = .ok (.bipush 64, 2) := by decide +kernel
theorem dRu_lay_57 : decode cRu_lay 57 = .ok (.invokevirtual 21, 3) := by decide +kernel
theorem dRu_lay_60 : decode cRu_lay 60 = .ok (.aload_n 2, 1) := by decide +kernel
theorem dRu_lay_61 : decode cRu_lay 61 = .ok (.iload 4, 2) := by decide +kernel
theorem dRu_lay_63 : decode cRu_lay 63 = .ok (.iload_n 3, 1) := by decide +kernel
theorem dRu_lay_64 : decode cRu_lay 64 = .ok (.isub, 1) := by decide +kernel
