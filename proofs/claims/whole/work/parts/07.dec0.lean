theorem dJ6_bitCount_0f7a4_0 : decode cJ6_bitCount_0f7a4 0 = .ok (.iload_n 0, 1) := by decide +kernel
theorem dJ6_bitCount_0f7a4_1 : decode cJ6_bitCount_0f7a4 1 = .ok (.iload_n 0, 1) := by decide +kernel
theorem dJ6_bitCount_0f7a4_2 : decode cJ6_bitCount_0f7a4 2 = .ok (.iconst 1, 1) := by decide +kernel
theorem dJ6_bitCount_0f7a4_3 : decode cJ6_bitCount_0f7a4 3 = .ok (.iushr, 1) := by decide +kernel
theorem dJ6_bitCount_0f7a4_4 : decode cJ6_bitCount_0f7a4 4 = .ok (.ldc_w 265, 3) := by decide +kernel
theorem dJ6_bitCount_0f7a4_7 : decode cJ6_bitCount_0f7a4 7 = .ok (.iand, 1) := by decide +kernel
theorem dJ6_bitCount_0f7a4_8 : decode cJ6_bitCount_0f7a4 8 = .ok (.isub, 1) := by decide +kernel
theorem dJ6_bitCount_0f7a4_9 : decode cJ6_bitCount_0f7a4 9 = .ok (.istore_n 0, 1) := by decide +kernel
theorem dJ6_bitCount_0f7a4_10 : decode cJ6_bitCount_0f7a4 10 = .ok (.iload_n 0, 1) := by decide +kernel
theorem dJ6_bitCount_0f7a4_11 : decode cJ6_bitCount_0f7a4 11 = .ok (.ldc_w 266, 3) := by decide +kernel
theorem dJ6_bitCount_0f7a4_14 : decode cJ6_bitCount_0f7a4 14 = .ok (.iand, 1) := by decide +kernel
theorem dJ6_bitCount_0f7a4_15 : decode cJ6_bitCount_0f7a4 15 = .ok (.iload_n 0, 1) := by decide +kernel
theorem dJ6_bitCount_0f7a4_16 : decode cJ6_bitCount_0f7a4 16 = .ok (.iconst 2, 1) := by decide +kernel
theorem dJ6_bitCount_0f7a4_17 : decode cJ6_bitCount_0f7a4 17 = .ok (.iushr, 1) := by decide +kernel
theorem dJ6_bitCount_0f7a4_18 : decode cJ6_bitCount_0f7a4 18 = .ok (.ldc_w 266, 3) := by decide +kernel
theorem dJ6_bitCount_0f7a4_21 : decode cJ6_bitCount_0f7a4 21 = .ok (.iand, 1) := by decide +kernel
theorem dJ6_bitCount_0f7a4_22 : decode cJ6_bitCount_0f7a4 22 = .ok (.iadd, 1) := by decide +kernel
theorem dJ6_bitCount_0f7a4_23 : decode cJ6_bitCount_0f7a4 23 = .ok (.istore_n 0, 1) := by decide +kernel
theorem dJ6_bitCount_0f7a4_24 : decode cJ6_bitCount_0f7a4 24 = .ok (.iload_n 0, 1) := by decide +kernel
theorem dJ6_bitCount_0f7a4_25 : decode cJ6_bitCount_0f7a4 25 = .ok (.iload_n 0, 1) := by decide +kernel
theorem dJ6_bitCount_0f7a4_26 : decode cJ6_bitCount_0f7a4 26 = .ok (.iconst 4, 1) := by decide +kernel
theorem dJ6_bitCount_0f7a4_27 : decode cJ6_bitCount_0f7a4 27 = .ok (.iushr, 1) := by decide +kernel
theorem dJ6_bitCount_0f7a4_28 : decode cJ6_bitCount_0f7a4 28 = .ok (.iadd, 1) := by decide +kernel
theorem dJ6_bitCount_0f7a4_29 : decode cJ6_bitCount_0f7a4 29 = .ok (.ldc_w 267, 3) := by decide +kernel
theorem dJ6_bitCount_0f7a4_32 : decode cJ6_bitCount_0f7a4 32 = .ok (.iand, 1) := by decide +kernel
theorem dJ6_bitCount_0f7a4_33 : decode cJ6_bitCount_0f7a4 33 = .ok (.istore_n 0, 1) := by decide +kernel
theorem dJ6_bitCount_0f7a4_34 : decode cJ6_bitCount_0f7a4 34 = .ok (.iload_n 0, 1) := by decide +kernel
theorem dJ6_bitCount_0f7a4_35 : decode cJ6_bitCount_0f7a4 35 = .ok (.iload_n 0, 1) := by decide +kernel
theorem dJ6_bitCount_0f7a4_36 : decode cJ6_bitCount_0f7a4 36 = .ok (.bipush 8, 2) := by decide +kernel
theorem dJ6_bitCount_0f7a4_38 : decode cJ6_bitCount_0f7a4 38 = .ok (.iushr, 1) := by decide +kernel
theorem dJ6_bitCount_0f7a4_39 : decode cJ6_bitCount_0f7a4 39 = .ok (.iadd, 1) := by decide +kernel
theorem dJ6_bitCount_0f7a4_40 : decode cJ6_bitCount_0f7a4 40 = .ok (.istore_n 0, 1) := by decide +kernel
theorem dJ6_bitCount_0f7a4_41 : decode cJ6_bitCount_0f7a4 41 = .ok (.iload_n 0, 1) := by decide +kernel
theorem dJ6_bitCount_0f7a4_42 : decode cJ6_bitCount_0f7a4 42 = .ok (.iload_n 0, 1) := by decide +kernel
theorem dJ6_bitCount_0f7a4_43 : decode cJ6_bitCount_0f7a4 43 = .ok (.bipush 16, 2) := by decide +kernel
theorem dJ6_bitCount_0f7a4_45 : decode cJ6_bitCount_0f7a4 45 = .ok (.iushr, 1) := by decide +kernel
theorem dJ6_bitCount_0f7a4_46 : decode cJ6_bitCount_0f7a4 46 = .ok (.iadd, 1) := by decide +kernel
theorem dJ6_bitCount_0f7a4_47 : decode cJ6_bitCount_0f7a4 47 = .ok (.istore_n 0, 1) := by decide +kernel
theorem dJ6_bitCount_0f7a4_48 : decode cJ6_bitCount_0f7a4 48 = .ok (.iload_n 0, 1) := by decide +kernel
theorem dJ6_bitCount_0f7a4_49 : decode cJ6_bitCount_0f7a4 49 = .ok (.bipush 63, 2) := by decide +kernel
theorem dJ6_bitCount_0f7a4_51 : decode cJ6_bitCount_0f7a4 51 = .ok (.iand, 1) := by decide +kernel
theorem dJ6_bitCount_0f7a4_52 : decode cJ6_bitCount_0f7a4 52 = .ok (.ireturn, 1) := by decide +kernel
theorem dJ7_rangeCheck_23922_0 : decode cJ7_rangeCheck_23922 0 = .ok (.iload_n 1, 1) := by decide +kernel
theorem dJ7_rangeCheck_23922_1 : decode cJ7_rangeCheck_23922 1 = .ok (.iload_n 2, 1) := by decide +kernel
theorem dJ7_rangeCheck_23922_2 : decode cJ7_rangeCheck_23922 2 = .ok (.if_icmp .le 44, 3) := by decide +kernel
theorem dJ7_rangeCheck_23922_5 : decode cJ7_rangeCheck_23922 5 = .ok (.new 43, 3) := by decide +kernel
theorem dJ7_rangeCheck_23922_8 : decode cJ7_rangeCheck_23922 8 = .ok (.dup, 1) := by decide +kernel
theorem dJ7_rangeCheck_23922_9 : decode cJ7_rangeCheck_23922 9 = .ok (.new 45, 3) := by decide +kernel
theorem dJ7_rangeCheck_23922_12 : decode cJ7_rangeCheck_23922 12 = .ok (.dup, 1) := by decide +kernel
theorem dJ7_rangeCheck_23922_13 : decode cJ7_rangeCheck_23922 13 = .ok (.invokespecial 47, 3) := by decide +kernel
theorem dJ7_rangeCheck_23922_16 : decode cJ7_rangeCheck_23922 16 = .ok (.ldc 48, 2) := by decide +kernel
theorem dJ7_rangeCheck_23922_18 : decode cJ7_rangeCheck_23922 18 = .ok (.invokevirtual 50, 3) := by decide +kernel
theorem dJ7_rangeCheck_23922_21 : decode cJ7_rangeCheck_23922 21 = .ok (.iload_n 1, 1) := by decide +kernel
theorem dJ7_rangeCheck_23922_22 : decode cJ7_rangeCheck_23922 22 = .ok (.invokevirtual 54, 3) := by decide +kernel
theorem dJ7_rangeCheck_23922_25 : decode cJ7_rangeCheck_23922 25 = .ok (.ldc 57, 2) := by decide +kernel
theorem dJ7_rangeCheck_23922_27 : decode cJ7_rangeCheck_23922 27 = .ok (.invokevirtual 50, 3) := by decide +kernel
theorem dJ7_rangeCheck_23922_30 : decode cJ7_rangeCheck_23922 30 = .ok (.iload_n 2, 1) := by decide +kernel
theorem dJ7_rangeCheck_23922_31 : decode cJ7_rangeCheck_23922 31 = .ok (.invokevirtual 54, 3) := by decide +kernel
theorem dJ7_rangeCheck_23922_34 : decode cJ7_rangeCheck_23922 34 = .ok (.ldc 59, 2) := by decide +kernel
theorem dJ7_rangeCheck_23922_36 : decode cJ7_rangeCheck_23922 36 = .ok (.invokevirtual 50, 3) := by decide +kernel
theorem dJ7_rangeCheck_23922_39 : decode cJ7_rangeCheck_23922 39 = .ok (.invokevirtual 61, 3) := by decide +kernel
theorem dJ7_rangeCheck_23922_42 : decode cJ7_rangeCheck_23922 42 = .ok (.invokespecial 65, 3) := by decide +kernel
theorem dJ7_rangeCheck_23922_45 : decode cJ7_rangeCheck_23922 45 = .ok (.athrow, 1) := by decide +kernel
theorem dJ7_rangeCheck_23922_46 : decode cJ7_rangeCheck_23922 46 = .ok (.iload_n 1, 1) := by decide +kernel
theorem dJ7_rangeCheck_23922_47 : decode cJ7_rangeCheck_23922 47 = .ok (.ifCond .ge 12, 3) := by decide +kernel
theorem dJ7_rangeCheck_23922_50 : decode cJ7_rangeCheck_23922 50 = .ok (.new 68, 3) := by decide +kernel
theorem dJ7_rangeCheck_23922_53 : decode cJ7_rangeCheck_23922 53 = .ok (.dup, 1) := by decide +kernel
theorem dJ7_rangeCheck_23922_54 : decode cJ7_rangeCheck_23922 54 = .ok (.iload_n 1, 1) := by decide +kernel
theorem dJ7_rangeCheck_23922_55 : decode cJ7_rangeCheck_23922 55 = .ok (.invokespecial 70, 3) := by decide +kernel
theorem dJ7_rangeCheck_23922_58 : decode cJ7_rangeCheck_23922 58 = .ok (.athrow, 1) := by decide +kernel
theorem dJ7_rangeCheck_23922_59 : decode cJ7_rangeCheck_23922 59 = .ok (.iload_n 2, 1) := by decide +kernel
theorem dJ7_rangeCheck_23922_60 : decode cJ7_rangeCheck_23922 60 = .ok (.iload_n 0, 1) := by decide +kernel
theorem dJ7_rangeCheck_23922_61 : decode cJ7_rangeCheck_23922 61 = .ok (.if_icmp .le 12, 3) := by decide +kernel
theorem dJ7_rangeCheck_23922_64 : decode cJ7_rangeCheck_23922 64 = .ok (.new 68, 3) := by decide +kernel
theorem dJ7_rangeCheck_23922_67 : decode cJ7_rangeCheck_23922 67 = .ok (.dup, 1) := by decide +kernel
theorem dJ7_rangeCheck_23922_68 : decode cJ7_rangeCheck_23922 68 = .ok (.iload_n 2, 1) := by decide +kernel
theorem dJ7_rangeCheck_23922_69 : decode cJ7_rangeCheck_23922 69 = .ok (.invokespecial 70, 3) := by decide +kernel
theorem dJ7_rangeCheck_23922_72 : decode cJ7_rangeCheck_23922 72 = .ok (.athrow, 1) := by decide +kernel
theorem dJ7_rangeCheck_23922_73 : decode cJ7_rangeCheck_23922 73 = .ok (.return_, 1) := by decide +kernel
theorem dJ7_fill_bad5a_0 : decode cJ7_fill_bad5a 0 = .ok (.aload_n 0, 1) := by decide +kernel
theorem dJ7_fill_bad5a_1 : decode cJ7_fill_bad5a 1 = .ok (.arraylength, 1) := by decide +kernel
theorem dJ7_fill_bad5a_2 : decode cJ7_fill_bad5a 2 = .ok (.iload_n 1, 1) := by decide +kernel
theorem dJ7_fill_bad5a_3 : decode cJ7_fill_bad5a 3 = .ok (.iload_n 2, 1) := by decide +kernel
theorem dJ7_fill_bad5a_4 : decode cJ7_fill_bad5a 4 = .ok (.invokestatic 13, 3) := by decide +kernel
theorem dJ7_fill_bad5a_7 : decode cJ7_fill_bad5a 7 = .ok (.iload_n 1, 1) := by decide +kernel
theorem dJ7_fill_bad5a_8 : decode cJ7_fill_bad5a 8 = .ok (.istore 5, 2) := by decide +kernel
theorem dJ7_fill_bad5a_10 : decode cJ7_fill_bad5a 10 = .ok (.iload 5, 2) := by decide +kernel
theorem dJ7_fill_bad5a_12 : decode cJ7_fill_bad5a 12 = .ok (.iload_n 2, 1) := by decide +kernel
theorem dJ7_fill_bad5a_13 : decode cJ7_fill_bad5a 13 = .ok (.if_icmp .ge 14, 3) := by decide +kernel
theorem dJ7_fill_bad5a_16 : decode cJ7_fill_bad5a 16 = .ok (.aload_n 0, 1) := by decide +kernel
theorem dJ7_fill_bad5a_17 : decode cJ7_fill_bad5a 17 = .ok (.iload 5, 2) := by decide +kernel
theorem dJ7_fill_bad5a_19 : decode cJ7_fill_bad5a 19 = .ok (.lload_n 3, 1) := by decide +kernel
theorem dJ7_fill_bad5a_20 : decode cJ7_fill_bad5a 20 = .ok (.lastore, 1) := by decide +kernel
theorem dJ7_fill_bad5a_21 : decode cJ7_fill_bad5a 21 = .ok (.iinc 5 1, 3) := by decide +kernel
theorem dJ7_fill_bad5a_24 : decode cJ7_fill_bad5a 24 = .ok (.goto (-14), 3) := by decide +kernel
theorem dJ7_fill_bad5a_27 : decode cJ7_fill_bad5a 27 = .ok (.return_, 1) := by decide +kernel
theorem dJ7_fill_53178_0 : decode cJ7_fill_53178 0 = .ok (.iconst 0, 1) := by decide +kernel
theorem dJ7_fill_53178_1 : decode cJ7_fill_53178 1 = .ok (.istore_n 2, 1) := by decide +kernel
theorem dJ7_fill_53178_2 : decode cJ7_fill_53178 2 = .ok (.aload_n 0, 1) := by decide +kernel
theorem dJ7_fill_53178_3 : decode cJ7_fill_53178 3 = .ok (.arraylength, 1) := by decide +kernel
theorem dJ7_fill_53178_4 : decode cJ7_fill_53178 4 = .ok (.istore_n 3, 1) := by decide +kernel
theorem dJ7_fill_53178_5 : decode cJ7_fill_53178 5 = .ok (.iload_n 2, 1) := by decide +kernel
theorem dJ7_fill_53178_6 : decode cJ7_fill_53178 6 = .ok (.iload_n 3, 1) := by decide +kernel
theorem dJ7_fill_53178_7 : decode cJ7_fill_53178 7 = .ok (.if_icmp .ge 13, 3) := by decide +kernel
theorem dJ7_fill_53178_10 : decode cJ7_fill_53178 10 = .ok (.aload_n 0, 1) := by decide +kernel
theorem dJ7_fill_53178_11 : decode cJ7_fill_53178 11 = .ok (.iload_n 2, 1) := by decide +kernel
theorem dJ7_fill_53178_12 : decode cJ7_fill_53178 12 = .ok (.iload_n 1, 1) := by decide +kernel
theorem dJ7_fill_53178_13 : decode cJ7_fill_53178 13 = .ok (.iastore, 1) := by decide +kernel
theorem dJ7_fill_53178_14 : decode cJ7_fill_53178 14 = .ok (.iinc 2 1, 3) := by decide +kernel
theorem dJ7_fill_53178_17 : decode cJ7_fill_53178 17 = .ok (.goto (-12), 3) := by decide +kernel
theorem dJ7_fill_53178_20 : decode cJ7_fill_53178 20 = .ok (.return_, 1) := by decide +kernel
theorem dJ7_fill_fda19_0 : decode cJ7_fill_fda19 0 = .ok (.aload_n 0, 1) := by decide +kernel
theorem dJ7_fill_fda19_1 : decode cJ7_fill_fda19 1 = .ok (.arraylength, 1) := by decide +kernel
theorem dJ7_fill_fda19_2 : decode cJ7_fill_fda19 2 = .ok (.iload_n 1, 1) := by decide +kernel
theorem dJ7_fill_fda19_3 : decode cJ7_fill_fda19 3 = .ok (.iload_n 2, 1) := by decide +kernel
theorem dJ7_fill_fda19_4 : decode cJ7_fill_fda19 4 = .ok (.invokestatic 13, 3) := by decide +kernel
theorem dJ7_fill_fda19_7 : decode cJ7_fill_fda19 7 = .ok (.iload_n 1, 1) := by decide +kernel
theorem dJ7_fill_fda19_8 : decode cJ7_fill_fda19 8 = .ok (.istore 4, 2) := by decide +kernel
theorem dJ7_fill_fda19_10 : decode cJ7_fill_fda19 10 = .ok (.iload 4, 2) := by decide +kernel
theorem dJ7_fill_fda19_12 : decode cJ7_fill_fda19 12 = .ok (.iload_n 2, 1) := by decide +kernel
theorem dJ7_fill_fda19_13 : decode cJ7_fill_fda19 13 = .ok (.if_icmp .ge 14, 3) := by decide +kernel
theorem dJ7_fill_fda19_16 : decode cJ7_fill_fda19 16 = .ok (.aload_n 0, 1) := by decide +kernel
theorem dJ7_fill_fda19_17 : decode cJ7_fill_fda19 17 = .ok (.iload 4, 2) := by decide +kernel
theorem dJ7_fill_fda19_19 : decode cJ7_fill_fda19 19 = .ok (.iload_n 3, 1) := by decide +kernel
theorem dJ7_fill_fda19_20 : decode cJ7_fill_fda19 20 = .ok (.iastore, 1) := by decide +kernel
theorem dJ7_fill_fda19_21 : decode cJ7_fill_fda19 21 = .ok (.iinc 4 1, 3) := by decide +kernel
theorem dJ7_fill_fda19_24 : decode cJ7_fill_fda19 24 = .ok (.goto (-14), 3) := by decide +kernel
theorem dJ7_fill_fda19_27 : decode cJ7_fill_fda19 27 = .ok (.return_, 1) := by decide +kernel
theorem dX1_init_0 : decode cX1_init 0 = .ok (.aload_n 0, 1) := by decide +kernel
theorem dX1_init_1 : decode cX1_init 1 = .ok (.invokespecial 3, 3) := by decide +kernel
theorem dX1_init_4 : decode cX1_init 4 = .ok (.aload_n 0, 1) := by decide +kernel
theorem dX1_init_5 : decode cX1_init 5 = .ok (.bipush 6, 2) := by decide +kernel
theorem dX1_init_7 : decode cX1_init 7 = .ok (.newarray .int, 2) := by decide +kernel
theorem dX1_init_9 : decode cX1_init 9 = .ok (.putfield 9, 3) := by decide +kernel
theorem dX1_init_12 : decode cX1_init 12 = .ok (.aload_n 0, 1) := by decide +kernel
theorem dX1_init_13 : decode cX1_init 13 = .ok (.bipush 24, 2) := by decide +kernel
theorem dX1_init_15 : decode cX1_init 15 = .ok (.newarray .int, 2) := by decide +kernel
theorem dX1_init_17 : decode cX1_init 17 = .ok (.putfield 15, 3) := by decide +kernel
theorem dX1_init_20 : decode cX1_init 20 = .ok (.aload_n 0, 1) := by decide +kernel
theorem dX1_init_21 : decode cX1_init 21 = .ok (.sipush 240, 3) := by decide +kernel
theorem dX1_init_24 : decode cX1_init 24 = .ok (.newarray .int, 2) := by decide +kernel
theorem dX1_init_26 : decode cX1_init 26 = .ok (.putfield 18, 3) := by decide +kernel
theorem dX1_init_29 : decode cX1_init 29 = .ok (.aload_n 0, 1) := by decide +kernel
theorem dX1_init_30 : decode cX1_init 30 = .ok (.sipush 240, 3) := by decide +kernel
theorem dX1_init_33 : decode cX1_init 33 = .ok (.newarray .int, 2) := by decide +kernel
theorem dX1_init_35 : decode cX1_init 35 = .ok (.putfield 21, 3) := by decide +kernel
theorem dX1_init_38 : decode cX1_init 38 = .ok (.aload_n 0, 1) := by decide +kernel
theorem dX1_init_39 : decode cX1_init 39 = .ok (.sipush 240, 3) := by decide +kernel
theorem dX1_init_42 : decode cX1_init 42 = .ok (.newarray .int, 2) := by decide +kernel
theorem dX1_init_44 : decode cX1_init 44 = .ok (.putfield 24, 3) := by decide +kernel
theorem dX1_init_47 : decode cX1_init 47 = .ok (.aload_n 0, 1) := by decide +kernel
theorem dX1_init_48 : decode cX1_init 48 = .ok (.sipush 240, 3) := by decide +kernel
theorem dX1_init_51 : decode cX1_init 51 = .ok (.newarray .int, 2) := by decide +kernel
theorem dX1_init_53 : decode cX1_init 53 = .ok (.putfield 27, 3) := by decide +kernel
theorem dX1_init_56 : decode cX1_init 56 = .ok (.aload_n 0, 1) := by decide +kernel
theorem dX1_init_57 : decode cX1_init 57 = .ok (.getfield 9, 3) := by decide +kernel
theorem dX1_init_60 : decode cX1_init 60 = .ok (.iconst (-1), 1) := by decide +kernel
theorem dX1_init_61 : decode cX1_init 61 = .ok (.invokestatic 30, 3) := by decide +kernel
theorem dX1_init_64 : decode cX1_init 64 = .ok (.aload_n 0, 1) := by decide +kernel
theorem dX1_init_65 : decode cX1_init 65 = .ok (.iconst 1, 1) := by decide +kernel
theorem dX1_init_66 : decode cX1_init 66 = .ok (.putfield 36, 3) := by decide +kernel
theorem dX1_init_69 : decode cX1_init 69 = .ok (.return_, 1) := by decide +kernel
theorem dX1_bodyOf_0 : decode cX1_bodyOf 0 = .ok (.iload_n 0, 1) := by decide +kernel
theorem dX1_bodyOf_1 : decode cX1_bodyOf 1 = .ok (.iconst 4, 1) := by decide +kernel
theorem dX1_bodyOf_2 : decode cX1_bodyOf 2 = .ok (.imul, 1) := by decide +kernel
theorem dX1_bodyOf_3 : decode cX1_bodyOf 3 = .ok (.iload_n 1, 1) := by decide +kernel
theorem dX1_bodyOf_4 : decode cX1_bodyOf 4 = .ok (.iadd, 1) := by decide +kernel
theorem dX1_bodyOf_5 : decode cX1_bodyOf 5 = .ok (.ireturn, 1) := by decide +kernel
theorem dX1_placeOf_0 : decode cX1_placeOf 0 = .ok (.iload_n 0, 1) := by decide +kernel
theorem dX1_placeOf_1 : decode cX1_placeOf 1 = .ok (.bipush 10, 2) := by decide +kernel
theorem dX1_placeOf_3 : decode cX1_placeOf 3 = .ok (.imul, 1) := by decide +kernel
theorem dX1_placeOf_4 : decode cX1_placeOf 4 = .ok (.iload_n 1, 1) := by decide +kernel
theorem dX1_placeOf_5 : decode cX1_placeOf 5 = .ok (.iadd, 1) := by decide +kernel
theorem dX1_placeOf_6 : decode cX1_placeOf 6 = .ok (.ireturn, 1) := by decide +kernel
theorem dX1_isWellFormed_0 : decode cX1_isWellFormed 0 = .ok (.iload_n 1, 1) := by decide +kernel
theorem dX1_isWellFormed_1 : decode cX1_isWellFormed 1 = .ok (.bipush 6, 2) := by decide +kernel
theorem dX1_isWellFormed_3 : decode cX1_isWellFormed 3 = .ok (.invokestatic 40, 3) := by decide +kernel
theorem dX1_isWellFormed_6 : decode cX1_isWellFormed 6 = .ok (.ifCond .ne 5, 3) := by decide +kernel
theorem dX1_isWellFormed_9 : decode cX1_isWellFormed 9 = .ok (.iconst 0, 1) := by decide +kernel
theorem dX1_isWellFormed_10 : decode cX1_isWellFormed 10 = .ok (.ireturn, 1) := by decide +kernel
theorem dX1_isWellFormed_11 : decode cX1_isWellFormed 11 = .ok (.iload_n 0, 1) := by decide +kernel
theorem dX1_isWellFormed_12 : decode cX1_isWellFormed 12 = .ok (.tableswitch 157 0 11 #[64, 66, 73, 73, 97, 104, 104, 127, 64, 150, 97, 64], 64) := by decide +kernel
theorem dX1_isWellFormed_76 : decode cX1_isWellFormed 76 = .ok (.iconst 1, 1) := by decide +kernel
theorem dX1_isWellFormed_77 : decode cX1_isWellFormed 77 = .ok (.ireturn, 1) := by decide +kernel
theorem dX1_isWellFormed_78 : decode cX1_isWellFormed 78 = .ok (.iload_n 2, 1) := by decide +kernel
theorem dX1_isWellFormed_79 : decode cX1_isWellFormed 79 = .ok (.bipush 6, 2) := by decide +kernel
theorem dX1_isWellFormed_81 : decode cX1_isWellFormed 81 = .ok (.invokestatic 40, 3) := by decide +kernel
theorem dX1_isWellFormed_84 : decode cX1_isWellFormed 84 = .ok (.ireturn, 1) := by decide +kernel
theorem dX1_isWellFormed_85 : decode cX1_isWellFormed 85 = .ok (.iload_n 2, 1) := by decide +kernel
theorem dX1_isWellFormed_86 : decode cX1_isWellFormed 86 = .ok (.bipush 6, 2) := by decide +kernel
theorem dX1_isWellFormed_88 : decode cX1_isWellFormed 88 = .ok (.invokestatic 40, 3) := by decide +kernel
theorem dX1_isWellFormed_91 : decode cX1_isWellFormed 91 = .ok (.ifCond .eq 16, 3) := by decide +kernel
theorem dX1_isWellFormed_94 : decode cX1_isWellFormed 94 = .ok (.iload_n 3, 1) := by decide +kernel
theorem dX1_isWellFormed_95 : decode cX1_isWellFormed 95 = .ok (.bipush 6, 2) := by decide +kernel
theorem dX1_isWellFormed_97 : decode cX1_isWellFormed 97 = .ok (.invokestatic 40, 3) := by decide +kernel
theorem dX1_isWellFormed_100 : decode cX1_isWellFormed 100 = .ok (.ifCond .eq 7, 3) := by decide +kernel
theorem dX1_isWellFormed_103 : decode cX1_isWellFormed 103 = .ok (.iconst 1, 1) := by decide +kernel
theorem dX1_isWellFormed_104 : decode cX1_isWellFormed 104 = .ok (.goto 4, 3) := by decide +kernel
theorem dX1_isWellFormed_107 : decode cX1_isWellFormed 107 = .ok (.iconst 0, 1) := by decide +kernel
theorem dX1_isWellFormed_108 : decode cX1_isWellFormed 108 = .ok (.ireturn, 1) := by decide +kernel
theorem dX1_isWellFormed_109 : decode cX1_isWellFormed 109 = .ok (.iload_n 2, 1) := by decide +kernel
theorem dX1_isWellFormed_110 : decode cX1_isWellFormed 110 = .ok (.bipush 6, 2) := by decide +kernel
theorem dX1_isWellFormed_112 : decode cX1_isWellFormed 112 = .ok (.invokestatic 40, 3) := by decide +kernel
theorem dX1_isWellFormed_115 : decode cX1_isWellFormed 115 = .ok (.ireturn, 1) := by decide +kernel
theorem dX1_isWellFormed_116 : decode cX1_isWellFormed 116 = .ok (.iload_n 2, 1) := by decide +kernel
theorem dX1_isWellFormed_117 : decode cX1_isWellFormed 117 = .ok (.bipush 6, 2) := by decide +kernel
theorem dX1_isWellFormed_119 : decode cX1_isWellFormed 119 = .ok (.invokestatic 40, 3) := by decide +kernel
theorem dX1_isWellFormed_122 : decode cX1_isWellFormed 122 = .ok (.ifCond .eq 15, 3) := by decide +kernel
theorem dX1_isWellFormed_125 : decode cX1_isWellFormed 125 = .ok (.iload_n 3, 1) := by decide +kernel
theorem dX1_isWellFormed_126 : decode cX1_isWellFormed 126 = .ok (.iconst 3, 1) := by decide +kernel
theorem dX1_isWellFormed_127 : decode cX1_isWellFormed 127 = .ok (.invokestatic 40, 3) := by decide +kernel
theorem dX1_isWellFormed_130 : decode cX1_isWellFormed 130 = .ok (.ifCond .eq 7, 3) := by decide +kernel
theorem dX1_isWellFormed_133 : decode cX1_isWellFormed 133 = .ok (.iconst 1, 1) := by decide +kernel
theorem dX1_isWellFormed_134 : decode cX1_isWellFormed 134 = .ok (.goto 4, 3) := by decide +kernel
theorem dX1_isWellFormed_137 : decode cX1_isWellFormed 137 = .ok (.iconst 0, 1) := by decide +kernel
theorem dX1_isWellFormed_138 : decode cX1_isWellFormed 138 = .ok (.ireturn, 1) := by decide +kernel
theorem dX1_isWellFormed_139 : decode cX1_isWellFormed 139 = .ok (.iload_n 2, 1) := by decide +kernel
theorem dX1_isWellFormed_140 : decode cX1_isWellFormed 140 = .ok (.bipush 6, 2) := by decide +kernel
theorem dX1_isWellFormed_142 : decode cX1_isWellFormed 142 = .ok (.invokestatic 40, 3) := by decide +kernel
theorem dX1_isWellFormed_145 : decode cX1_isWellFormed 145 = .ok (.ifCond .eq 15, 3) := by decide +kernel
theorem dX1_isWellFormed_148 : decode cX1_isWellFormed 148 = .ok (.iload_n 3, 1) := by decide +kernel
theorem dX1_isWellFormed_149 : decode cX1_isWellFormed 149 = .ok (.iconst 4, 1) := by decide +kernel
theorem dX1_isWellFormed_150 : decode cX1_isWellFormed 150 = .ok (.invokestatic 40, 3) := by decide +kernel
theorem dX1_isWellFormed_153 : decode cX1_isWellFormed 153 = .ok (.ifCond .eq 7, 3) := by decide +kernel
theorem dX1_isWellFormed_156 : decode cX1_isWellFormed 156 = .ok (.iconst 1, 1) := by decide +kernel
theorem dX1_isWellFormed_157 : decode cX1_isWellFormed 157 = .ok (.goto 4, 3) := by decide +kernel
theorem dX1_isWellFormed_160 : decode cX1_isWellFormed 160 = .ok (.iconst 0, 1) := by decide +kernel
theorem dX1_isWellFormed_161 : decode cX1_isWellFormed 161 = .ok (.ireturn, 1) := by decide +kernel
theorem dX1_isWellFormed_162 : decode cX1_isWellFormed 162 = .ok (.iload_n 2, 1) := by decide +kernel
theorem dX1_isWellFormed_163 : decode cX1_isWellFormed 163 = .ok (.bipush 10, 2) := by decide +kernel
theorem dX1_isWellFormed_165 : decode cX1_isWellFormed 165 = .ok (.invokestatic 40, 3) := by decide +kernel
theorem dX1_isWellFormed_168 : decode cX1_isWellFormed 168 = .ok (.ireturn, 1) := by decide +kernel
theorem dX1_isWellFormed_169 : decode cX1_isWellFormed 169 = .ok (.iconst 0, 1) := by decide +kernel
theorem dX1_isWellFormed_170 : decode cX1_isWellFormed 170 = .ok (.ireturn, 1) := by decide +kernel
theorem dX1_isWithin_0 : decode cX1_isWithin 0 = .ok (.iload_n 0, 1) := by decide +kernel
theorem dX1_isWithin_1 : decode cX1_isWithin 1 = .ok (.ifCond .lt 12, 3) := by decide +kernel
theorem dX1_isWithin_4 : decode cX1_isWithin 4 = .ok (.iload_n 0, 1) := by decide +kernel
theorem dX1_isWithin_5 : decode cX1_isWithin 5 = .ok (.iload_n 1, 1) := by decide +kernel
theorem dX1_isWithin_6 : decode cX1_isWithin 6 = .ok (.if_icmp .ge 7, 3) := by decide +kernel
theorem dX1_isWithin_9 : decode cX1_isWithin 9 = .ok (.iconst 1, 1) := by decide +kernel
theorem dX1_isWithin_10 : decode cX1_isWithin 10 = .ok (.goto 4, 3) := by decide +kernel
theorem dX1_isWithin_13 : decode cX1_isWithin 13 = .ok (.iconst 0, 1) := by decide +kernel
theorem dX1_isWithin_14 : decode cX1_isWithin 14 = .ok (.ireturn, 1) := by decide +kernel
theorem dX1_hasClass_0 : decode cX1_hasClass 0 = .ok (.iload_n 1, 1) := by decide +kernel
theorem dX1_hasClass_1 : decode cX1_hasClass 1 = .ok (.aload_n 0, 1) := by decide +kernel
theorem dX1_hasClass_2 : decode cX1_hasClass 2 = .ok (.getfield 36, 3) := by decide +kernel
theorem dX1_hasClass_5 : decode cX1_hasClass 5 = .ok (.invokestatic 40, 3) := by decide +kernel
theorem dX1_hasClass_8 : decode cX1_hasClass 8 = .ok (.ireturn, 1) := by decide +kernel
theorem dX1_hasPlaceFor_0 : decode cX1_hasPlaceFor 0 = .ok (.aload_n 0, 1) := by decide +kernel
theorem dX1_hasPlaceFor_1 : decode cX1_hasPlaceFor 1 = .ok (.iload_n 1, 1) := by decide +kernel
theorem dX1_hasPlaceFor_2 : decode cX1_hasPlaceFor 2 = .ok (.invokevirtual 44, 3) := by decide +kernel
theorem dX1_hasPlaceFor_5 : decode cX1_hasPlaceFor 5 = .ok (.ifCond .eq 15, 3) := by decide +kernel
theorem dX1_hasPlaceFor_8 : decode cX1_hasPlaceFor 8 = .ok (.iload_n 2, 1) := by decide +kernel
theorem dX1_hasPlaceFor_9 : decode cX1_hasPlaceFor 9 = .ok (.iconst 4, 1) := by decide +kernel
theorem dX1_hasPlaceFor_10 : decode cX1_hasPlaceFor 10 = .ok (.invokestatic 40, 3) := by decide +kernel
theorem dX1_hasPlaceFor_13 : decode cX1_hasPlaceFor 13 = .ok (.ifCond .eq 7, 3) := by decide +kernel
theorem dX1_hasPlaceFor_16 : decode cX1_hasPlaceFor 16 = .ok (.iconst 1, 1) := by decide +kernel
theorem dX1_hasPlaceFor_17 : decode cX1_hasPlaceFor 17 = .ok (.goto 4, 3) := by decide +kernel
theorem dX1_hasPlaceFor_20 : decode cX1_hasPlaceFor 20 = .ok (.iconst 0, 1) := by decide +kernel
theorem dX1_hasPlaceFor_21 : decode cX1_hasPlaceFor 21 = .ok (.ireturn, 1) := by decide +kernel
theorem dX1_isFullOfClasses_0 : decode cX1_isFullOfClasses 0 = .ok (.aload_n 0, 1) := by decide +kernel
theorem dX1_isFullOfClasses_1 : decode cX1_isFullOfClasses 1 = .ok (.getfield 36, 3) := by decide +kernel
theorem dX1_isFullOfClasses_4 : decode cX1_isFullOfClasses 4 = .ok (.bipush 6, 2) := by decide +kernel
theorem dX1_isFullOfClasses_6 : decode cX1_isFullOfClasses 6 = .ok (.if_icmp .lt 7, 3) := by decide +kernel
theorem dX1_isFullOfClasses_9 : decode cX1_isFullOfClasses 9 = .ok (.iconst 1, 1) := by decide +kernel
theorem dX1_isFullOfClasses_10 : decode cX1_isFullOfClasses 10 = .ok (.goto 4, 3) := by decide +kernel
theorem dX1_isFullOfClasses_13 : decode cX1_isFullOfClasses 13 = .ok (.iconst 0, 1) := by decide +kernel
theorem dX1_isFullOfClasses_14 : decode cX1_isFullOfClasses 14 = .ok (.ireturn, 1) := by decide +kernel
theorem dX1_addClass_0 : decode cX1_addClass 0 = .ok (.aload_n 0, 1) := by decide +kernel
theorem dX1_addClass_1 : decode cX1_addClass 1 = .ok (.getfield 36, 3) := by decide +kernel
theorem dX1_addClass_4 : decode cX1_addClass 4 = .ok (.istore_n 2, 1) := by decide +kernel
theorem dX1_addClass_5 : decode cX1_addClass 5 = .ok (.aload_n 0, 1) := by decide +kernel
theorem dX1_addClass_6 : decode cX1_addClass 6 = .ok (.getfield 9, 3) := by decide +kernel
theorem dX1_addClass_9 : decode cX1_addClass 9 = .ok (.iload_n 2, 1) := by decide +kernel
theorem dX1_addClass_10 : decode cX1_addClass 10 = .ok (.iload_n 1, 1) := by decide +kernel
theorem dX1_addClass_11 : decode cX1_addClass 11 = .ok (.iastore, 1) := by decide +kernel
theorem dX1_addClass_12 : decode cX1_addClass 12 = .ok (.aload_n 0, 1) := by decide +kernel
theorem dX1_addClass_13 : decode cX1_addClass 13 = .ok (.dup, 1) := by decide +kernel
theorem dX1_addClass_14 : decode cX1_addClass 14 = .ok (.getfield 36, 3) := by decide +kernel
theorem dX1_addClass_17 : decode cX1_addClass 17 = .ok (.iconst 1, 1) := by decide +kernel
theorem dX1_addClass_18 : decode cX1_addClass 18 = .ok (.iadd, 1) := by decide +kernel
theorem dX1_addClass_19 : decode cX1_addClass 19 = .ok (.putfield 36, 3) := by decide +kernel
theorem dX1_addClass_22 : decode cX1_addClass 22 = .ok (.iload_n 2, 1) := by decide +kernel
theorem dX1_addClass_23 : decode cX1_addClass 23 = .ok (.ireturn, 1) := by decide +kernel
theorem dX1_isFull_0 : decode cX1_isFull 0 = .ok (.aload_n 0, 1) := by decide +kernel
theorem dX1_isFull_1 : decode cX1_isFull 1 = .ok (.getfield 15, 3) := by decide +kernel
theorem dX1_isFull_4 : decode cX1_isFull 4 = .ok (.iload_n 1, 1) := by decide +kernel
theorem dX1_isFull_5 : decode cX1_isFull 5 = .ok (.iaload, 1) := by decide +kernel
theorem dX1_isFull_6 : decode cX1_isFull 6 = .ok (.bipush 10, 2) := by decide +kernel
theorem dX1_isFull_8 : decode cX1_isFull 8 = .ok (.if_icmp .lt 7, 3) := by decide +kernel
theorem dX1_isFull_11 : decode cX1_isFull 11 = .ok (.iconst 1, 1) := by decide +kernel
theorem dX1_isFull_12 : decode cX1_isFull 12 = .ok (.goto 4, 3) := by decide +kernel
theorem dX1_isFull_15 : decode cX1_isFull 15 = .ok (.iconst 0, 1) := by decide +kernel
theorem dX1_isFull_16 : decode cX1_isFull 16 = .ok (.ireturn, 1) := by decide +kernel
theorem dX1_append_0 : decode cX1_append 0 = .ok (.iload_n 1, 1) := by decide +kernel
theorem dX1_append_1 : decode cX1_append 1 = .ok (.aload_n 0, 1) := by decide +kernel
theorem dX1_append_2 : decode cX1_append 2 = .ok (.getfield 15, 3) := by decide +kernel
theorem dX1_append_5 : decode cX1_append 5 = .ok (.iload_n 1, 1) := by decide +kernel
theorem dX1_append_6 : decode cX1_append 6 = .ok (.iaload, 1) := by decide +kernel
theorem dX1_append_7 : decode cX1_append 7 = .ok (.invokestatic 48, 3) := by decide +kernel
theorem dX1_append_10 : decode cX1_append 10 = .ok (.istore 6, 2) := by decide +kernel
theorem dX1_append_12 : decode cX1_append 12 = .ok (.aload_n 0, 1) := by decide +kernel
theorem dX1_append_13 : decode cX1_append 13 = .ok (.getfield 18, 3) := by decide +kernel
theorem dX1_append_16 : decode cX1_append 16 = .ok (.iload 6, 2) := by decide +kernel
theorem dX1_append_18 : decode cX1_append 18 = .ok (.iload_n 2, 1) := by decide +kernel
theorem dX1_append_19 : decode cX1_append 19 = .ok (.iastore, 1) := by decide +kernel
theorem dX1_append_20 : decode cX1_append 20 = .ok (.aload_n 0, 1) := by decide +kernel
theorem dX1_append_21 : decode cX1_append 21 = .ok (.getfield 21, 3) := by decide +kernel
theorem dX1_append_24 : decode cX1_append 24 = .ok (.iload 6, 2) := by decide +kernel
theorem dX1_append_26 : decode cX1_append 26 = .ok (.iload_n 3, 1) := by decide +kernel
theorem dX1_append_27 : decode cX1_append 27 = .ok (.iastore, 1) := by decide +kernel
theorem dX1_append_28 : decode cX1_append 28 = .ok (.aload_n 0, 1) := by decide +kernel
theorem dX1_append_29 : decode cX1_append 29 = .ok (.getfield 24, 3) := by decide +kernel
theorem dX1_append_32 : decode cX1_append 32 = .ok (.iload 6, 2) := by decide +kernel
theorem dX1_append_34 : decode cX1_append 34 = .ok (.iload 4, 2) := by decide +kernel
theorem dX1_append_36 : decode cX1_append 36 = .ok (.iastore, 1) := by decide +kernel
theorem dX1_append_37 : decode cX1_append 37 = .ok (.aload_n 0, 1) := by decide +kernel
theorem dX1_append_38 : decode cX1_append 38 = .ok (.getfield 27, 3) := by decide +kernel
theorem dX1_append_41 : decode cX1_append 41 = .ok (.iload 6, 2) := by decide +kernel
theorem dX1_append_43 : decode cX1_append 43 = .ok (.iload 5, 2) := by decide +kernel
theorem dX1_append_45 : decode cX1_append 45 = .ok (.iastore, 1) := by decide +kernel
theorem dX1_append_46 : decode cX1_append 46 = .ok (.aload_n 0, 1) := by decide +kernel
theorem dX1_append_47 : decode cX1_append 47 = .ok (.getfield 15, 3) := by decide +kernel
theorem dX1_append_50 : decode cX1_append 50 = .ok (.iload_n 1, 1) := by decide +kernel
theorem dX1_append_51 : decode cX1_append 51 = .ok (.dup2, 1) := by decide +kernel
theorem dX1_append_52 : decode cX1_append 52 = .ok (.iaload, 1) := by decide +kernel
theorem dX1_append_53 : decode cX1_append 53 = .ok (.iconst 1, 1) := by decide +kernel
theorem dX1_append_54 : decode cX1_append 54 = .ok (.iadd, 1) := by decide +kernel
theorem dX1_append_55 : decode cX1_append 55 = .ok (.iastore, 1) := by decide +kernel
theorem dX1_append_56 : decode cX1_append 56 = .ok (.aload_n 0, 1) := by decide +kernel
theorem dX1_append_57 : decode cX1_append 57 = .ok (.getfield 15, 3) := by decide +kernel
theorem dX1_append_60 : decode cX1_append 60 = .ok (.iload_n 1, 1) := by decide +kernel
theorem dX1_append_61 : decode cX1_append 61 = .ok (.iaload, 1) := by decide +kernel
theorem dX1_append_62 : decode cX1_append 62 = .ok (.ireturn, 1) := by decide +kernel
theorem dX1_empty_0 : decode cX1_empty 0 = .ok (.aload_n 0, 1) := by decide +kernel
theorem dX1_empty_1 : decode cX1_empty 1 = .ok (.getfield 15, 3) := by decide +kernel
theorem dX1_empty_4 : decode cX1_empty 4 = .ok (.iload_n 1, 1) := by decide +kernel
theorem dX1_empty_5 : decode cX1_empty 5 = .ok (.iaload, 1) := by decide +kernel
theorem dX1_empty_6 : decode cX1_empty 6 = .ok (.istore_n 2, 1) := by decide +kernel
theorem dX1_empty_7 : decode cX1_empty 7 = .ok (.aload_n 0, 1) := by decide +kernel
theorem dX1_empty_8 : decode cX1_empty 8 = .ok (.getfield 15, 3) := by decide +kernel
theorem dX1_empty_11 : decode cX1_empty 11 = .ok (.iload_n 1, 1) := by decide +kernel
theorem dX1_empty_12 : decode cX1_empty 12 = .ok (.iconst 0, 1) := by decide +kernel
theorem dX1_empty_13 : decode cX1_empty 13 = .ok (.iastore, 1) := by decide +kernel
theorem dX1_empty_14 : decode cX1_empty 14 = .ok (.iload_n 2, 1) := by decide +kernel
theorem dX1_empty_15 : decode cX1_empty 15 = .ok (.ireturn, 1) := by decide +kernel
theorem dX1_length_0 : decode cX1_length 0 = .ok (.aload_n 0, 1) := by decide +kernel
theorem dX1_length_1 : decode cX1_length 1 = .ok (.getfield 15, 3) := by decide +kernel
theorem dX1_length_4 : decode cX1_length 4 = .ok (.iload_n 1, 1) := by decide +kernel
theorem dX1_length_5 : decode cX1_length 5 = .ok (.iaload, 1) := by decide +kernel
theorem dX1_length_6 : decode cX1_length 6 = .ok (.ireturn, 1) := by decide +kernel
theorem dX1_kind_0 : decode cX1_kind 0 = .ok (.aload_n 0, 1) := by decide +kernel
theorem dX1_kind_1 : decode cX1_kind 1 = .ok (.getfield 18, 3) := by decide +kernel
theorem dX1_kind_4 : decode cX1_kind 4 = .ok (.iload_n 1, 1) := by decide +kernel
theorem dX1_kind_5 : decode cX1_kind 5 = .ok (.iaload, 1) := by decide +kernel
theorem dX1_kind_6 : decode cX1_kind 6 = .ok (.ireturn, 1) := by decide +kernel
theorem dX1_x_0 : decode cX1_x 0 = .ok (.aload_n 0, 1) := by decide +kernel
theorem dX1_x_1 : decode cX1_x 1 = .ok (.getfield 21, 3) := by decide +kernel
theorem dX1_x_4 : decode cX1_x 4 = .ok (.iload_n 1, 1) := by decide +kernel
theorem dX1_x_5 : decode cX1_x 5 = .ok (.iaload, 1) := by decide +kernel
theorem dX1_x_6 : decode cX1_x 6 = .ok (.ireturn, 1) := by decide +kernel
theorem dX1_y_0 : decode cX1_y 0 = .ok (.aload_n 0, 1) := by decide +kernel
theorem dX1_y_1 : decode cX1_y 1 = .ok (.getfield 24, 3) := by decide +kernel
theorem dX1_y_4 : decode cX1_y 4 = .ok (.iload_n 1, 1) := by decide +kernel
theorem dX1_y_5 : decode cX1_y 5 = .ok (.iaload, 1) := by decide +kernel
theorem dX1_y_6 : decode cX1_y 6 = .ok (.ireturn, 1) := by decide +kernel
theorem dX1_z_0 : decode cX1_z 0 = .ok (.aload_n 0, 1) := by decide +kernel
theorem dX1_z_1 : decode cX1_z 1 = .ok (.getfield 27, 3) := by decide +kernel
theorem dX1_z_4 : decode cX1_z 4 = .ok (.iload_n 1, 1) := by decide +kernel
theorem dX1_z_5 : decode cX1_z 5 = .ok (.iaload, 1) := by decide +kernel
theorem dX1_z_6 : decode cX1_z 6 = .ok (.ireturn, 1) := by decide +kernel
theorem dX1_target_0 : decode cX1_target 0 = .ok (.iload_n 1, 1) := by decide +kernel
theorem dX1_target_1 : decode cX1_target 1 = .ok (.istore_n 3, 1) := by decide +kernel
theorem dX1_target_2 : decode cX1_target 2 = .ok (.bipush 6, 2) := by decide +kernel
theorem dX1_target_4 : decode cX1_target 4 = .ok (.istore 4, 2) := by decide +kernel
theorem dX1_target_6 : decode cX1_target 6 = .ok (.iload 4, 2) := by decide +kernel
theorem dX1_target_8 : decode cX1_target 8 = .ok (.ifCond .le 41, 3) := by decide +kernel
theorem dX1_target_11 : decode cX1_target 11 = .ok (.iload_n 3, 1) := by decide +kernel
theorem dX1_target_12 : decode cX1_target 12 = .ok (.iconst (-1), 1) := by decide +kernel
theorem dX1_target_13 : decode cX1_target 13 = .ok (.if_icmp .eq 36, 3) := by decide +kernel
theorem dX1_target_16 : decode cX1_target 16 = .ok (.iload_n 3, 1) := by decide +kernel
theorem dX1_target_17 : decode cX1_target 17 = .ok (.iload_n 2, 1) := by decide +kernel
theorem dX1_target_18 : decode cX1_target 18 = .ok (.invokestatic 52, 3) := by decide +kernel
theorem dX1_target_21 : decode cX1_target 21 = .ok (.istore 5, 2) := by decide +kernel
theorem dX1_target_23 : decode cX1_target 23 = .ok (.aload_n 0, 1) := by decide +kernel
theorem dX1_target_24 : decode cX1_target 24 = .ok (.getfield 15, 3) := by decide +kernel
theorem dX1_target_27 : decode cX1_target 27 = .ok (.iload 5, 2) := by decide +kernel
theorem dX1_target_29 : decode cX1_target 29 = .ok (.iaload, 1) := by decide +kernel
theorem dX1_target_30 : decode cX1_target 30 = .ok (.ifCond .le 6, 3) := by decide +kernel
theorem dX1_target_33 : decode cX1_target 33 = .ok (.iload 5, 2) := by decide +kernel
theorem dX1_target_35 : decode cX1_target 35 = .ok (.ireturn, 1) := by decide +kernel
theorem dX1_target_36 : decode cX1_target 36 = .ok (.aload_n 0, 1) := by decide +kernel
theorem dX1_target_37 : decode cX1_target 37 = .ok (.getfield 9, 3) := by decide +kernel
theorem dX1_target_40 : decode cX1_target 40 = .ok (.iload_n 3, 1) := by decide +kernel
theorem dX1_target_41 : decode cX1_target 41 = .ok (.iaload, 1) := by decide +kernel
theorem dX1_target_42 : decode cX1_target 42 = .ok (.istore_n 3, 1) := by decide +kernel
theorem dX1_target_43 : decode cX1_target 43 = .ok (.iinc 4 (-1), 3) := by decide +kernel
theorem dX1_target_46 : decode cX1_target 46 = .ok (.goto (-40), 3) := by decide +kernel
theorem dX1_target_49 : decode cX1_target 49 = .ok (.iconst (-1), 1) := by decide +kernel
theorem dX1_target_50 : decode cX1_target 50 = .ok (.ireturn, 1) := by decide +kernel
theorem dX1_classIs_0 : decode cX1_classIs 0 = .ok (.iload_n 1, 1) := by decide +kernel
theorem dX1_classIs_1 : decode cX1_classIs 1 = .ok (.istore_n 3, 1) := by decide +kernel
theorem dX1_classIs_2 : decode cX1_classIs 2 = .ok (.bipush 6, 2) := by decide +kernel
theorem dX1_classIs_4 : decode cX1_classIs 4 = .ok (.istore 4, 2) := by decide +kernel
theorem dX1_classIs_6 : decode cX1_classIs 6 = .ok (.iload 4, 2) := by decide +kernel
theorem dX1_classIs_8 : decode cX1_classIs 8 = .ok (.ifCond .le 28, 3) := by decide +kernel
theorem dX1_classIs_11 : decode cX1_classIs 11 = .ok (.iload_n 3, 1) := by decide +kernel
theorem dX1_classIs_12 : decode cX1_classIs 12 = .ok (.iconst (-1), 1) := by decide +kernel
theorem dX1_classIs_13 : decode cX1_classIs 13 = .ok (.if_icmp .eq 23, 3) := by decide +kernel
theorem dX1_classIs_16 : decode cX1_classIs 16 = .ok (.iload_n 3, 1) := by decide +kernel
theorem dX1_classIs_17 : decode cX1_classIs 17 = .ok (.iload_n 2, 1) := by decide +kernel
theorem dX1_classIs_18 : decode cX1_classIs 18 = .ok (.if_icmp .ne 5, 3) := by decide +kernel
theorem dX1_classIs_21 : decode cX1_classIs 21 = .ok (.iconst 1, 1) := by decide +kernel
theorem dX1_classIs_22 : decode cX1_classIs 22 = .ok (.ireturn, 1) := by decide +kernel
theorem dX1_classIs_23 : decode cX1_classIs 23 = .ok (.aload_n 0, 1) := by decide +kernel
theorem dX1_classIs_24 : decode cX1_classIs 24 = .ok (.getfield 9, 3) := by decide +kernel
theorem dX1_classIs_27 : decode cX1_classIs 27 = .ok (.iload_n 3, 1) := by decide +kernel
theorem dX1_classIs_28 : decode cX1_classIs 28 = .ok (.iaload, 1) := by decide +kernel
theorem dX1_classIs_29 : decode cX1_classIs 29 = .ok (.istore_n 3, 1) := by decide +kernel
theorem dX1_classIs_30 : decode cX1_classIs 30 = .ok (.iinc 4 (-1), 3) := by decide +kernel
theorem dX1_classIs_33 : decode cX1_classIs 33 = .ok (.goto (-27), 3) := by decide +kernel
theorem dX1_classIs_36 : decode cX1_classIs 36 = .ok (.iconst 0, 1) := by decide +kernel
theorem dX1_classIs_37 : decode cX1_classIs 37 = .ok (.ireturn, 1) := by decide +kernel
theorem dX1_fitsInPlace_0 : decode cX1_fitsInPlace 0 = .ok (.aload_n 0, 1) := by decide +kernel
theorem dX1_fitsInPlace_1 : decode cX1_fitsInPlace 1 = .ok (.getfield 15, 3) := by decide +kernel
theorem dX1_fitsInPlace_4 : decode cX1_fitsInPlace 4 = .ok (.iload_n 1, 1) := by decide +kernel
theorem dX1_fitsInPlace_5 : decode cX1_fitsInPlace 5 = .ok (.iaload, 1) := by decide +kernel
theorem dX1_fitsInPlace_6 : decode cX1_fitsInPlace 6 = .ok (.iconst 3, 1) := by decide +kernel
theorem dX1_fitsInPlace_7 : decode cX1_fitsInPlace 7 = .ok (.if_icmp .le 5, 3) := by decide +kernel
theorem dX1_fitsInPlace_10 : decode cX1_fitsInPlace 10 = .ok (.iconst 0, 1) := by decide +kernel
theorem dX1_fitsInPlace_11 : decode cX1_fitsInPlace 11 = .ok (.ireturn, 1) := by decide +kernel
theorem dX1_fitsInPlace_12 : decode cX1_fitsInPlace 12 = .ok (.iconst 0, 1) := by decide +kernel
theorem dX1_fitsInPlace_13 : decode cX1_fitsInPlace 13 = .ok (.istore_n 2, 1) := by decide +kernel
theorem dX1_fitsInPlace_14 : decode cX1_fitsInPlace 14 = .ok (.iload_n 2, 1) := by decide +kernel
theorem dX1_fitsInPlace_15 : decode cX1_fitsInPlace 15 = .ok (.aload_n 0, 1) := by decide +kernel
theorem dX1_fitsInPlace_16 : decode cX1_fitsInPlace 16 = .ok (.getfield 15, 3) := by decide +kernel
theorem dX1_fitsInPlace_19 : decode cX1_fitsInPlace 19 = .ok (.iload_n 1, 1) := by decide +kernel
theorem dX1_fitsInPlace_20 : decode cX1_fitsInPlace 20 = .ok (.iaload, 1) := by decide +kernel
theorem dX1_fitsInPlace_21 : decode cX1_fitsInPlace 21 = .ok (.if_icmp .ge 34, 3) := by decide +kernel
theorem dX1_fitsInPlace_24 : decode cX1_fitsInPlace 24 = .ok (.aload_n 0, 1) := by decide +kernel
theorem dX1_fitsInPlace_25 : decode cX1_fitsInPlace 25 = .ok (.getfield 18, 3) := by decide +kernel
theorem dX1_fitsInPlace_28 : decode cX1_fitsInPlace 28 = .ok (.iload_n 1, 1) := by decide +kernel
theorem dX1_fitsInPlace_29 : decode cX1_fitsInPlace 29 = .ok (.iload_n 2, 1) := by decide +kernel
theorem dX1_fitsInPlace_30 : decode cX1_fitsInPlace 30 = .ok (.invokestatic 48, 3) := by decide +kernel
theorem dX1_fitsInPlace_33 : decode cX1_fitsInPlace 33 = .ok (.iaload, 1) := by decide +kernel
theorem dX1_fitsInPlace_34 : decode cX1_fitsInPlace 34 = .ok (.istore_n 3, 1) := by decide +kernel
theorem dX1_fitsInPlace_35 : decode cX1_fitsInPlace 35 = .ok (.iload_n 3, 1) := by decide +kernel
theorem dX1_fitsInPlace_36 : decode cX1_fitsInPlace 36 = .ok (.bipush 7, 2) := by decide +kernel
theorem dX1_fitsInPlace_38 : decode cX1_fitsInPlace 38 = .ok (.if_icmp .eq 9, 3) := by decide +kernel
theorem dX1_fitsInPlace_41 : decode cX1_fitsInPlace 41 = .ok (.iload_n 3, 1) := by decide +kernel
