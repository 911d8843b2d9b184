theorem dX2_holders_36 : decode cX2_holders 36 = .ok (.istore 6, 2) := by decide +kernel
theorem dX2_holders_38 : decode cX2_holders 38 = .ok (.aload_n 0, 1) := by decide +kernel
theorem dX2_holders_39 : decode cX2_holders 39 = .ok (.getfield 18, 3) := by decide +kernel
theorem dX2_holders_42 : decode cX2_holders 42 = .ok (.iload 6, 2) := by decide +kernel
theorem dX2_holders_44 : decode cX2_holders 44 = .ok (.invokevirtual 85, 3) := by decide +kernel
theorem dX2_holders_47 : decode cX2_holders 47 = .ok (.iconst 1, 1) := by decide +kernel
theorem dX2_holders_48 : decode cX2_holders 48 = .ok (.if_icmp .ne 33, 3) := by decide +kernel
theorem dX2_holders_51 : decode cX2_holders 51 = .ok (.iload_n 3, 1) := by decide +kernel
theorem dX2_holders_52 : decode cX2_holders 52 = .ok (.aload_n 0, 1) := by decide +kernel
theorem dX2_holders_53 : decode cX2_holders 53 = .ok (.getfield 18, 3) := by decide +kernel
theorem dX2_holders_56 : decode cX2_holders 56 = .ok (.iload 6, 2) := by decide +kernel
theorem dX2_holders_58 : decode cX2_holders 58 = .ok (.invokevirtual 88, 3) := by decide +kernel
theorem dX2_holders_61 : decode cX2_holders 61 = .ok (.invokestatic 51, 3) := by decide +kernel
theorem dX2_holders_64 : decode cX2_holders 64 = .ok (.ifCond .eq 17, 3) := by decide +kernel
theorem dX2_holders_67 : decode cX2_holders 67 = .ok (.iload_n 3, 1) := by decide +kernel
theorem dX2_holders_68 : decode cX2_holders 68 = .ok (.iconst 1, 1) := by decide +kernel
theorem dX2_holders_69 : decode cX2_holders 69 = .ok (.aload_n 0, 1) := by decide +kernel
theorem dX2_holders_70 : decode cX2_holders 70 = .ok (.getfield 18, 3) := by decide +kernel
theorem dX2_holders_73 : decode cX2_holders 73 = .ok (.iload 6, 2) := by decide +kernel
theorem dX2_holders_75 : decode cX2_holders 75 = .ok (.invokevirtual 101, 3) := by decide +kernel
theorem dX2_holders_78 : decode cX2_holders 78 = .ok (.ishl, 1) := by decide +kernel
theorem dX2_holders_79 : decode cX2_holders 79 = .ok (.ior, 1) := by decide +kernel
theorem dX2_holders_80 : decode cX2_holders 80 = .ok (.istore_n 3, 1) := by decide +kernel
theorem dX2_holders_81 : decode cX2_holders 81 = .ok (.iinc 5 1, 3) := by decide +kernel
theorem dX2_holders_84 : decode cX2_holders 84 = .ok (.goto (-67), 3) := by decide +kernel
theorem dX2_holders_87 : decode cX2_holders 87 = .ok (.iinc 4 1, 3) := by decide +kernel
theorem dX2_holders_90 : decode cX2_holders 90 = .ok (.goto (-83), 3) := by decide +kernel
theorem dX2_holders_93 : decode cX2_holders 93 = .ok (.iload_n 3, 1) := by decide +kernel
theorem dX2_holders_94 : decode cX2_holders 94 = .ok (.ireturn, 1) := by decide +kernel
theorem dX3_init_0 : decode cX3_init 0 = .ok (.aload_n 0, 1) := by decide +kernel
theorem dX3_init_1 : decode cX3_init 1 = .ok (.invokespecial 3, 3) := by decide +kernel
theorem dX3_init_4 : decode cX3_init 4 = .ok (.aload_n 0, 1) := by decide +kernel
theorem dX3_init_5 : decode cX3_init 5 = .ok (.new 9, 3) := by decide +kernel
theorem dX3_init_8 : decode cX3_init 8 = .ok (.dup, 1) := by decide +kernel
theorem dX3_init_9 : decode cX3_init 9 = .ok (.invokespecial 11, 3) := by decide +kernel
theorem dX3_init_12 : decode cX3_init 12 = .ok (.putfield 12, 3) := by decide +kernel
theorem dX3_init_15 : decode cX3_init 15 = .ok (.aload_n 0, 1) := by decide +kernel
theorem dX3_init_16 : decode cX3_init 16 = .ok (.new 16, 3) := by decide +kernel
theorem dX3_init_19 : decode cX3_init 19 = .ok (.dup, 1) := by decide +kernel
theorem dX3_init_20 : decode cX3_init 20 = .ok (.aload_n 0, 1) := by decide +kernel
theorem dX3_init_21 : decode cX3_init 21 = .ok (.getfield 12, 3) := by decide +kernel
theorem dX3_init_24 : decode cX3_init 24 = .ok (.invokespecial 18, 3) := by decide +kernel
theorem dX3_init_27 : decode cX3_init 27 = .ok (.putfield 21, 3) := by decide +kernel
theorem dX3_init_30 : decode cX3_init 30 = .ok (.aload_n 0, 1) := by decide +kernel
theorem dX3_init_31 : decode cX3_init 31 = .ok (.new 25, 3) := by decide +kernel
theorem dX3_init_34 : decode cX3_init 34 = .ok (.dup, 1) := by decide +kernel
theorem dX3_init_35 : decode cX3_init 35 = .ok (.aload_n 0, 1) := by decide +kernel
theorem dX3_init_36 : decode cX3_init 36 = .ok (.getfield 12, 3) := by decide +kernel
theorem dX3_init_39 : decode cX3_init 39 = .ok (.aload_n 0, 1) := by decide +kernel
theorem dX3_init_40 : decode cX3_init 40 = .ok (.getfield 21, 3) := by decide +kernel
theorem dX3_init_43 : decode cX3_init 43 = .ok (.invokespecial 27, 3) := by decide +kernel
theorem dX3_init_46 : decode cX3_init 46 = .ok (.putfield 30, 3) := by decide +kernel
theorem dX3_init_49 : decode cX3_init 49 = .ok (.return_, 1) := by decide +kernel
theorem dX3_type_0 : decode cX3_type 0 = .ok (.iload_n 1, 1) := by decide +kernel
theorem dX3_type_1 : decode cX3_type 1 = .ok (.iconst (-1), 1) := by decide +kernel
theorem dX3_type_2 : decode cX3_type 2 = .ok (.if_icmp .eq 24, 3) := by decide +kernel
theorem dX3_type_5 : decode cX3_type 5 = .ok (.aload_n 0, 1) := by decide +kernel
theorem dX3_type_6 : decode cX3_type 6 = .ok (.getfield 12, 3) := by decide +kernel
theorem dX3_type_9 : decode cX3_type 9 = .ok (.iload_n 1, 1) := by decide +kernel
theorem dX3_type_10 : decode cX3_type 10 = .ok (.invokevirtual 34, 3) := by decide +kernel
theorem dX3_type_13 : decode cX3_type 13 = .ok (.ifCond .ne 13, 3) := by decide +kernel
theorem dX3_type_16 : decode cX3_type 16 = .ok (.new 38, 3) := by decide +kernel
theorem dX3_type_19 : decode cX3_type 19 = .ok (.dup, 1) := by decide +kernel
theorem dX3_type_20 : decode cX3_type 20 = .ok (.ldc 40, 2) := by decide +kernel
theorem dX3_type_22 : decode cX3_type 22 = .ok (.invokespecial 42, 3) := by decide +kernel
theorem dX3_type_25 : decode cX3_type 25 = .ok (.athrow, 1) := by decide +kernel
theorem dX3_type_26 : decode cX3_type 26 = .ok (.aload_n 0, 1) := by decide +kernel
theorem dX3_type_27 : decode cX3_type 27 = .ok (.getfield 12, 3) := by decide +kernel
theorem dX3_type_30 : decode cX3_type 30 = .ok (.invokevirtual 45, 3) := by decide +kernel
theorem dX3_type_33 : decode cX3_type 33 = .ok (.ifCond .eq 13, 3) := by decide +kernel
theorem dX3_type_36 : decode cX3_type 36 = .ok (.new 49, 3) := by decide +kernel
theorem dX3_type_39 : decode cX3_type 39 = .ok (.dup, 1) := by decide +kernel
theorem dX3_type_40 : decode cX3_type 40 = .ok (.ldc 51, 2) := by decide +kernel
theorem dX3_type_42 : decode cX3_type 42 = .ok (.invokespecial 53, 3) := by decide +kernel
theorem dX3_type_45 : decode cX3_type 45 = .ok (.athrow, 1) := by decide +kernel
theorem dX3_type_46 : decode cX3_type 46 = .ok (.aload_n 0, 1) := by decide +kernel
theorem dX3_type_47 : decode cX3_type 47 = .ok (.getfield 12, 3) := by decide +kernel
theorem dX3_type_50 : decode cX3_type 50 = .ok (.iload_n 1, 1) := by decide +kernel
theorem dX3_type_51 : decode cX3_type 51 = .ok (.invokevirtual 54, 3) := by decide +kernel
theorem dX3_type_54 : decode cX3_type 54 = .ok (.ireturn, 1) := by decide +kernel
theorem dX3_operation_0 : decode cX3_operation 0 = .ok (.aload_n 0, 1) := by decide +kernel
theorem dX3_operation_1 : decode cX3_operation 1 = .ok (.getfield 12, 3) := by decide +kernel
theorem dX3_operation_4 : decode cX3_operation 4 = .ok (.iload_n 1, 1) := by decide +kernel
theorem dX3_operation_5 : decode cX3_operation 5 = .ok (.iload_n 2, 1) := by decide +kernel
theorem dX3_operation_6 : decode cX3_operation 6 = .ok (.invokevirtual 58, 3) := by decide +kernel
theorem dX3_operation_9 : decode cX3_operation 9 = .ok (.ifCond .ne 13, 3) := by decide +kernel
theorem dX3_operation_12 : decode cX3_operation 12 = .ok (.new 38, 3) := by decide +kernel
theorem dX3_operation_15 : decode cX3_operation 15 = .ok (.dup, 1) := by decide +kernel
theorem dX3_operation_16 : decode cX3_operation 16 = .ok (.ldc 62, 2) := by decide +kernel
theorem dX3_operation_18 : decode cX3_operation 18 = .ok (.invokespecial 42, 3) := by decide +kernel
theorem dX3_operation_21 : decode cX3_operation 21 = .ok (.athrow, 1) := by decide +kernel
theorem dX3_operation_22 : decode cX3_operation 22 = .ok (.iload_n 3, 1) := by decide +kernel
theorem dX3_operation_23 : decode cX3_operation 23 = .ok (.iload 4, 2) := by decide +kernel
theorem dX3_operation_25 : decode cX3_operation 25 = .ok (.iload 5, 2) := by decide +kernel
theorem dX3_operation_27 : decode cX3_operation 27 = .ok (.iload 6, 2) := by decide +kernel
theorem dX3_operation_29 : decode cX3_operation 29 = .ok (.invokestatic 64, 3) := by decide +kernel
theorem dX3_operation_32 : decode cX3_operation 32 = .ok (.ifCond .ne 13, 3) := by decide +kernel
theorem dX3_operation_35 : decode cX3_operation 35 = .ok (.new 38, 3) := by decide +kernel
theorem dX3_operation_38 : decode cX3_operation 38 = .ok (.dup, 1) := by decide +kernel
theorem dX3_operation_39 : decode cX3_operation 39 = .ok (.ldc 68, 2) := by decide +kernel
theorem dX3_operation_41 : decode cX3_operation 41 = .ok (.invokespecial 42, 3) := by decide +kernel
theorem dX3_operation_44 : decode cX3_operation 44 = .ok (.athrow, 1) := by decide +kernel
theorem dX3_operation_45 : decode cX3_operation 45 = .ok (.iload_n 1, 1) := by decide +kernel
theorem dX3_operation_46 : decode cX3_operation 46 = .ok (.iload_n 2, 1) := by decide +kernel
theorem dX3_operation_47 : decode cX3_operation 47 = .ok (.invokestatic 70, 3) := by decide +kernel
theorem dX3_operation_50 : decode cX3_operation 50 = .ok (.istore 7, 2) := by decide +kernel
theorem dX3_operation_52 : decode cX3_operation 52 = .ok (.aload_n 0, 1) := by decide +kernel
theorem dX3_operation_53 : decode cX3_operation 53 = .ok (.getfield 12, 3) := by decide +kernel
theorem dX3_operation_56 : decode cX3_operation 56 = .ok (.iload 7, 2) := by decide +kernel
theorem dX3_operation_58 : decode cX3_operation 58 = .ok (.invokevirtual 74, 3) := by decide +kernel
theorem dX3_operation_61 : decode cX3_operation 61 = .ok (.ifCond .eq 13, 3) := by decide +kernel
theorem dX3_operation_64 : decode cX3_operation 64 = .ok (.new 49, 3) := by decide +kernel
theorem dX3_operation_67 : decode cX3_operation 67 = .ok (.dup, 1) := by decide +kernel
theorem dX3_operation_68 : decode cX3_operation 68 = .ok (.ldc 77, 2) := by decide +kernel
theorem dX3_operation_70 : decode cX3_operation 70 = .ok (.invokespecial 53, 3) := by decide +kernel
theorem dX3_operation_73 : decode cX3_operation 73 = .ok (.athrow, 1) := by decide +kernel
theorem dX3_operation_74 : decode cX3_operation 74 = .ok (.aload_n 0, 1) := by decide +kernel
theorem dX3_operation_75 : decode cX3_operation 75 = .ok (.getfield 21, 3) := by decide +kernel
theorem dX3_operation_78 : decode cX3_operation 78 = .ok (.iload 7, 2) := by decide +kernel
theorem dX3_operation_80 : decode cX3_operation 80 = .ok (.invokevirtual 79, 3) := by decide +kernel
theorem dX3_operation_83 : decode cX3_operation 83 = .ok (.aload_n 0, 1) := by decide +kernel
theorem dX3_operation_84 : decode cX3_operation 84 = .ok (.getfield 12, 3) := by decide +kernel
theorem dX3_operation_87 : decode cX3_operation 87 = .ok (.iload 7, 2) := by decide +kernel
theorem dX3_operation_89 : decode cX3_operation 89 = .ok (.iload_n 3, 1) := by decide +kernel
theorem dX3_operation_90 : decode cX3_operation 90 = .ok (.iload 4, 2) := by decide +kernel
theorem dX3_operation_92 : decode cX3_operation 92 = .ok (.iload 5, 2) := by decide +kernel
theorem dX3_operation_94 : decode cX3_operation 94 = .ok (.iload 6, 2) := by decide +kernel
theorem dX3_operation_96 : decode cX3_operation 96 = .ok (.invokevirtual 83, 3) := by decide +kernel
theorem dX3_operation_99 : decode cX3_operation 99 = .ok (.ireturn, 1) := by decide +kernel
theorem dX3_strip_0 : decode cX3_strip 0 = .ok (.aload_n 0, 1) := by decide +kernel
theorem dX3_strip_1 : decode cX3_strip 1 = .ok (.getfield 12, 3) := by decide +kernel
theorem dX3_strip_4 : decode cX3_strip 4 = .ok (.iload_n 1, 1) := by decide +kernel
theorem dX3_strip_5 : decode cX3_strip 5 = .ok (.iload_n 2, 1) := by decide +kernel
theorem dX3_strip_6 : decode cX3_strip 6 = .ok (.invokevirtual 58, 3) := by decide +kernel
theorem dX3_strip_9 : decode cX3_strip 9 = .ok (.ifCond .ne 13, 3) := by decide +kernel
theorem dX3_strip_12 : decode cX3_strip 12 = .ok (.new 38, 3) := by decide +kernel
theorem dX3_strip_15 : decode cX3_strip 15 = .ok (.dup, 1) := by decide +kernel
theorem dX3_strip_16 : decode cX3_strip 16 = .ok (.ldc 62, 2) := by decide +kernel
theorem dX3_strip_18 : decode cX3_strip 18 = .ok (.invokespecial 42, 3) := by decide +kernel
theorem dX3_strip_21 : decode cX3_strip 21 = .ok (.athrow, 1) := by decide +kernel
theorem dX3_strip_22 : decode cX3_strip 22 = .ok (.iload_n 1, 1) := by decide +kernel
theorem dX3_strip_23 : decode cX3_strip 23 = .ok (.iload_n 2, 1) := by decide +kernel
theorem dX3_strip_24 : decode cX3_strip 24 = .ok (.invokestatic 70, 3) := by decide +kernel
theorem dX3_strip_27 : decode cX3_strip 27 = .ok (.istore_n 3, 1) := by decide +kernel
theorem dX3_strip_28 : decode cX3_strip 28 = .ok (.aload_n 0, 1) := by decide +kernel
theorem dX3_strip_29 : decode cX3_strip 29 = .ok (.getfield 21, 3) := by decide +kernel
theorem dX3_strip_32 : decode cX3_strip 32 = .ok (.iload_n 3, 1) := by decide +kernel
theorem dX3_strip_33 : decode cX3_strip 33 = .ok (.invokevirtual 79, 3) := by decide +kernel
theorem dX3_strip_36 : decode cX3_strip 36 = .ok (.aload_n 0, 1) := by decide +kernel
theorem dX3_strip_37 : decode cX3_strip 37 = .ok (.getfield 12, 3) := by decide +kernel
theorem dX3_strip_40 : decode cX3_strip 40 = .ok (.iload_n 3, 1) := by decide +kernel
theorem dX3_strip_41 : decode cX3_strip 41 = .ok (.invokevirtual 87, 3) := by decide +kernel
theorem dX3_strip_44 : decode cX3_strip 44 = .ok (.ireturn, 1) := by decide +kernel
theorem dX3_shape_0 : decode cX3_shape 0 = .ok (.aload_n 0, 1) := by decide +kernel
theorem dX3_shape_1 : decode cX3_shape 1 = .ok (.getfield 21, 3) := by decide +kernel
theorem dX3_shape_4 : decode cX3_shape 4 = .ok (.invokevirtual 90, 3) := by decide +kernel
theorem dX3_shape_7 : decode cX3_shape 7 = .ok (.ireturn, 1) := by decide +kernel
theorem dX3_reach_0 : decode cX3_reach 0 = .ok (.aload_n 0, 1) := by decide +kernel
theorem dX3_reach_1 : decode cX3_reach 1 = .ok (.getfield 21, 3) := by decide +kernel
theorem dX3_reach_4 : decode cX3_reach 4 = .ok (.invokevirtual 94, 3) := by decide +kernel
theorem dX3_reach_7 : decode cX3_reach 7 = .ok (.ireturn, 1) := by decide +kernel
theorem dX3_site_0 : decode cX3_site 0 = .ok (.aload_n 0, 1) := by decide +kernel
theorem dX3_site_1 : decode cX3_site 1 = .ok (.getfield 12, 3) := by decide +kernel
theorem dX3_site_4 : decode cX3_site 4 = .ok (.iload_n 1, 1) := by decide +kernel
theorem dX3_site_5 : decode cX3_site 5 = .ok (.iload_n 2, 1) := by decide +kernel
theorem dX3_site_6 : decode cX3_site 6 = .ok (.invokevirtual 58, 3) := by decide +kernel
theorem dX3_site_9 : decode cX3_site 9 = .ok (.ifCond .ne 13, 3) := by decide +kernel
theorem dX3_site_12 : decode cX3_site 12 = .ok (.new 97, 3) := by decide +kernel
theorem dX3_site_15 : decode cX3_site 15 = .ok (.dup, 1) := by decide +kernel
theorem dX3_site_16 : decode cX3_site 16 = .ok (.ldc 62, 2) := by decide +kernel
theorem dX3_site_18 : decode cX3_site 18 = .ok (.invokespecial 99, 3) := by decide +kernel
theorem dX3_site_21 : decode cX3_site 21 = .ok (.athrow, 1) := by decide +kernel
theorem dX3_site_22 : decode cX3_site 22 = .ok (.iload_n 1, 1) := by decide +kernel
theorem dX3_site_23 : decode cX3_site 23 = .ok (.iload_n 2, 1) := by decide +kernel
theorem dX3_site_24 : decode cX3_site 24 = .ok (.invokestatic 70, 3) := by decide +kernel
theorem dX3_site_27 : decode cX3_site 27 = .ok (.istore 4, 2) := by decide +kernel
theorem dX3_site_29 : decode cX3_site 29 = .ok (.iload_n 3, 1) := by decide +kernel
theorem dX3_site_30 : decode cX3_site 30 = .ok (.ifCond .lt 16, 3) := by decide +kernel
theorem dX3_site_33 : decode cX3_site 33 = .ok (.iload_n 3, 1) := by decide +kernel
theorem dX3_site_34 : decode cX3_site 34 = .ok (.aload_n 0, 1) := by decide +kernel
theorem dX3_site_35 : decode cX3_site 35 = .ok (.getfield 12, 3) := by decide +kernel
theorem dX3_site_38 : decode cX3_site 38 = .ok (.iload 4, 2) := by decide +kernel
theorem dX3_site_40 : decode cX3_site 40 = .ok (.invokevirtual 100, 3) := by decide +kernel
theorem dX3_site_43 : decode cX3_site 43 = .ok (.if_icmp .lt 13, 3) := by decide +kernel
theorem dX3_site_46 : decode cX3_site 46 = .ok (.new 97, 3) := by decide +kernel
theorem dX3_site_49 : decode cX3_site 49 = .ok (.dup, 1) := by decide +kernel
theorem dX3_site_50 : decode cX3_site 50 = .ok (.ldc 103, 2) := by decide +kernel
theorem dX3_site_52 : decode cX3_site 52 = .ok (.invokespecial 99, 3) := by decide +kernel
theorem dX3_site_55 : decode cX3_site 55 = .ok (.athrow, 1) := by decide +kernel
theorem dX3_site_56 : decode cX3_site 56 = .ok (.aload_n 0, 1) := by decide +kernel
theorem dX3_site_57 : decode cX3_site 57 = .ok (.getfield 21, 3) := by decide +kernel
theorem dX3_site_60 : decode cX3_site 60 = .ok (.iload 4, 2) := by decide +kernel
theorem dX3_site_62 : decode cX3_site 62 = .ok (.iload_n 3, 1) := by decide +kernel
theorem dX3_site_63 : decode cX3_site 63 = .ok (.invokestatic 105, 3) := by decide +kernel
theorem dX3_site_66 : decode cX3_site 66 = .ok (.invokevirtual 108, 3) := by decide +kernel
theorem dX3_site_69 : decode cX3_site 69 = .ok (.ireturn, 1) := by decide +kernel
theorem dX3_run_0 : decode cX3_run 0 = .ok (.iload_n 2, 1) := by decide +kernel
theorem dX3_run_1 : decode cX3_run 1 = .ok (.ifCond .lt 9, 3) := by decide +kernel
theorem dX3_run_4 : decode cX3_run 4 = .ok (.iload_n 2, 1) := by decide +kernel
theorem dX3_run_5 : decode cX3_run 5 = .ok (.bipush 60, 2) := by decide +kernel
theorem dX3_run_7 : decode cX3_run 7 = .ok (.if_icmp .le 13, 3) := by decide +kernel
theorem dX3_run_10 : decode cX3_run 10 = .ok (.new 38, 3) := by decide +kernel
theorem dX3_run_13 : decode cX3_run 13 = .ok (.dup, 1) := by decide +kernel
theorem dX3_run_14 : decode cX3_run 14 = .ok (.ldc 111, 2) := by decide +kernel
theorem dX3_run_16 : decode cX3_run 16 = .ok (.invokespecial 42, 3) := by decide +kernel
theorem dX3_run_19 : decode cX3_run 19 = .ok (.athrow, 1) := by decide +kernel
theorem dX3_run_20 : decode cX3_run 20 = .ok (.aload_n 0, 1) := by decide +kernel
theorem dX3_run_21 : decode cX3_run 21 = .ok (.getfield 30, 3) := by decide +kernel
theorem dX3_run_24 : decode cX3_run 24 = .ok (.iload_n 1, 1) := by decide +kernel
theorem dX3_run_25 : decode cX3_run 25 = .ok (.iload_n 2, 1) := by decide +kernel
theorem dX3_run_26 : decode cX3_run 26 = .ok (.invokevirtual 113, 3) := by decide +kernel
theorem dX3_run_29 : decode cX3_run 29 = .ok (.ireturn, 1) := by decide +kernel
theorem dX3_count_0 : decode cX3_count 0 = .ok (.iload_n 1, 1) := by decide +kernel
theorem dX3_count_1 : decode cX3_count 1 = .ok (.ifCond .lt 9, 3) := by decide +kernel
theorem dX3_count_4 : decode cX3_count 4 = .ok (.iload_n 1, 1) := by decide +kernel
theorem dX3_count_5 : decode cX3_count 5 = .ok (.bipush 6, 2) := by decide +kernel
theorem dX3_count_7 : decode cX3_count 7 = .ok (.if_icmp .lt 13, 3) := by decide +kernel
theorem dX3_count_10 : decode cX3_count 10 = .ok (.new 97, 3) := by decide +kernel
theorem dX3_count_13 : decode cX3_count 13 = .ok (.dup, 1) := by decide +kernel
theorem dX3_count_14 : decode cX3_count 14 = .ok (.ldc 117, 2) := by decide +kernel
theorem dX3_count_16 : decode cX3_count 16 = .ok (.invokespecial 99, 3) := by decide +kernel
theorem dX3_count_19 : decode cX3_count 19 = .ok (.athrow, 1) := by decide +kernel
theorem dX3_count_20 : decode cX3_count 20 = .ok (.aload_n 0, 1) := by decide +kernel
theorem dX3_count_21 : decode cX3_count 21 = .ok (.getfield 30, 3) := by decide +kernel
theorem dX3_count_24 : decode cX3_count 24 = .ok (.iload_n 1, 1) := by decide +kernel
theorem dX3_count_25 : decode cX3_count 25 = .ok (.invokevirtual 119, 3) := by decide +kernel
theorem dX3_count_28 : decode cX3_count 28 = .ok (.ireturn, 1) := by decide +kernel
theorem dX3_out_0 : decode cX3_out 0 = .ok (.iload_n 1, 1) := by decide +kernel
theorem dX3_out_1 : decode cX3_out 1 = .ok (.ifCond .lt 15, 3) := by decide +kernel
theorem dX3_out_4 : decode cX3_out 4 = .ok (.iload_n 1, 1) := by decide +kernel
theorem dX3_out_5 : decode cX3_out 5 = .ok (.aload_n 0, 1) := by decide +kernel
theorem dX3_out_6 : decode cX3_out 6 = .ok (.getfield 30, 3) := by decide +kernel
theorem dX3_out_9 : decode cX3_out 9 = .ok (.iconst 0, 1) := by decide +kernel
theorem dX3_out_10 : decode cX3_out 10 = .ok (.invokevirtual 119, 3) := by decide +kernel
theorem dX3_out_13 : decode cX3_out 13 = .ok (.if_icmp .lt 13, 3) := by decide +kernel
theorem dX3_out_16 : decode cX3_out 16 = .ok (.new 97, 3) := by decide +kernel
theorem dX3_out_19 : decode cX3_out 19 = .ok (.dup, 1) := by decide +kernel
theorem dX3_out_20 : decode cX3_out 20 = .ok (.ldc 122, 2) := by decide +kernel
theorem dX3_out_22 : decode cX3_out 22 = .ok (.invokespecial 99, 3) := by decide +kernel
theorem dX3_out_25 : decode cX3_out 25 = .ok (.athrow, 1) := by decide +kernel
theorem dX3_out_26 : decode cX3_out 26 = .ok (.aload_n 0, 1) := by decide +kernel
theorem dX3_out_27 : decode cX3_out 27 = .ok (.getfield 30, 3) := by decide +kernel
theorem dX3_out_30 : decode cX3_out 30 = .ok (.iload_n 1, 1) := by decide +kernel
theorem dX3_out_31 : decode cX3_out 31 = .ok (.invokevirtual 124, 3) := by decide +kernel
theorem dX3_out_34 : decode cX3_out 34 = .ok (.ireturn, 1) := by decide +kernel
theorem dX0_init_0 : decode cX0_init 0 = .ok (.aload_n 0, 1) := by decide +kernel
theorem dX0_init_1 : decode cX0_init 1 = .ok (.invokespecial 3, 3) := by decide +kernel
theorem dX0_init_4 : decode cX0_init 4 = .ok (.aload_n 0, 1) := by decide +kernel
theorem dX0_init_5 : decode cX0_init 5 = .ok (.bipush 72, 2) := by decide +kernel
theorem dX0_init_7 : decode cX0_init 7 = .ok (.newarray .long, 2) := by decide +kernel
theorem dX0_init_9 : decode cX0_init 9 = .ok (.putfield 9, 3) := by decide +kernel
theorem dX0_init_12 : decode cX0_init 12 = .ok (.aload_n 0, 1) := by decide +kernel
theorem dX0_init_13 : decode cX0_init 13 = .ok (.bipush 12, 2) := by decide +kernel
theorem dX0_init_15 : decode cX0_init 15 = .ok (.newarray .int, 2) := by decide +kernel
theorem dX0_init_17 : decode cX0_init 17 = .ok (.putfield 15, 3) := by decide +kernel
theorem dX0_init_20 : decode cX0_init 20 = .ok (.aload_n 0, 1) := by decide +kernel
theorem dX0_init_21 : decode cX0_init 21 = .ok (.bipush 12, 2) := by decide +kernel
theorem dX0_init_23 : decode cX0_init 23 = .ok (.newarray .int, 2) := by decide +kernel
theorem dX0_init_25 : decode cX0_init 25 = .ok (.putfield 19, 3) := by decide +kernel
theorem dX0_init_28 : decode cX0_init 28 = .ok (.aload_n 0, 1) := by decide +kernel
theorem dX0_init_29 : decode cX0_init 29 = .ok (.bipush 12, 2) := by decide +kernel
theorem dX0_init_31 : decode cX0_init 31 = .ok (.newarray .int, 2) := by decide +kernel
theorem dX0_init_33 : decode cX0_init 33 = .ok (.putfield 22, 3) := by decide +kernel
theorem dX0_init_36 : decode cX0_init 36 = .ok (.aload_n 0, 1) := by decide +kernel
theorem dX0_init_37 : decode cX0_init 37 = .ok (.sipush 401, 3) := by decide +kernel
theorem dX0_init_40 : decode cX0_init 40 = .ok (.newarray .int, 2) := by decide +kernel
theorem dX0_init_42 : decode cX0_init 42 = .ok (.putfield 25, 3) := by decide +kernel
theorem dX0_init_45 : decode cX0_init 45 = .ok (.aload_n 0, 1) := by decide +kernel
theorem dX0_init_46 : decode cX0_init 46 = .ok (.sipush 1203, 3) := by decide +kernel
theorem dX0_init_49 : decode cX0_init 49 = .ok (.newarray .long, 2) := by decide +kernel
theorem dX0_init_51 : decode cX0_init 51 = .ok (.putfield 28, 3) := by decide +kernel
theorem dX0_init_54 : decode cX0_init 54 = .ok (.aload_n 0, 1) := by decide +kernel
theorem dX0_init_55 : decode cX0_init 55 = .ok (.bipush 40, 2) := by decide +kernel
theorem dX0_init_57 : decode cX0_init 57 = .ok (.newarray .int, 2) := by decide +kernel
theorem dX0_init_59 : decode cX0_init 59 = .ok (.putfield 31, 3) := by decide +kernel
theorem dX0_init_62 : decode cX0_init 62 = .ok (.aload_n 0, 1) := by decide +kernel
theorem dX0_init_63 : decode cX0_init 63 = .ok (.bipush 6, 2) := by decide +kernel
theorem dX0_init_65 : decode cX0_init 65 = .ok (.newarray .int, 2) := by decide +kernel
theorem dX0_init_67 : decode cX0_init 67 = .ok (.putfield 34, 3) := by decide +kernel
theorem dX0_init_70 : decode cX0_init 70 = .ok (.aload_n 0, 1) := by decide +kernel
theorem dX0_init_71 : decode cX0_init 71 = .ok (.aload_n 1, 1) := by decide +kernel
theorem dX0_init_72 : decode cX0_init 72 = .ok (.putfield 37, 3) := by decide +kernel
theorem dX0_init_75 : decode cX0_init 75 = .ok (.aload_n 0, 1) := by decide +kernel
theorem dX0_init_76 : decode cX0_init 76 = .ok (.aload_n 2, 1) := by decide +kernel
theorem dX0_init_77 : decode cX0_init 77 = .ok (.putfield 41, 3) := by decide +kernel
theorem dX0_init_80 : decode cX0_init 80 = .ok (.return_, 1) := by decide +kernel
theorem dX0_tally_0 : decode cX0_tally 0 = .ok (.aload_n 0, 1) := by decide +kernel
theorem dX0_tally_1 : decode cX0_tally 1 = .ok (.getfield 34, 3) := by decide +kernel
theorem dX0_tally_4 : decode cX0_tally 4 = .ok (.iload_n 1, 1) := by decide +kernel
theorem dX0_tally_5 : decode cX0_tally 5 = .ok (.iaload, 1) := by decide +kernel
theorem dX0_tally_6 : decode cX0_tally 6 = .ok (.ireturn, 1) := by decide +kernel
theorem dX0_valuePutOut_0 : decode cX0_valuePutOut 0 = .ok (.aload_n 0, 1) := by decide +kernel
theorem dX0_valuePutOut_1 : decode cX0_valuePutOut 1 = .ok (.getfield 31, 3) := by decide +kernel
theorem dX0_valuePutOut_4 : decode cX0_valuePutOut 4 = .ok (.iload_n 1, 1) := by decide +kernel
theorem dX0_valuePutOut_5 : decode cX0_valuePutOut 5 = .ok (.iaload, 1) := by decide +kernel
theorem dX0_valuePutOut_6 : decode cX0_valuePutOut 6 = .ok (.ireturn, 1) := by decide +kernel
theorem dX0_execute_0 : decode cX0_execute 0 = .ok (.aload_n 0, 1) := by decide +kernel
theorem dX0_execute_1 : decode cX0_execute 1 = .ok (.iload_n 1, 1) := by decide +kernel
theorem dX0_execute_2 : decode cX0_execute 2 = .ok (.putfield 45, 3) := by decide +kernel
theorem dX0_execute_5 : decode cX0_execute 5 = .ok (.aload_n 0, 1) := by decide +kernel
theorem dX0_execute_6 : decode cX0_execute 6 = .ok (.iload_n 2, 1) := by decide +kernel
theorem dX0_execute_7 : decode cX0_execute 7 = .ok (.putfield 49, 3) := by decide +kernel
theorem dX0_execute_10 : decode cX0_execute 10 = .ok (.aload_n 0, 1) := by decide +kernel
theorem dX0_execute_11 : decode cX0_execute 11 = .ok (.iconst 0, 1) := by decide +kernel
theorem dX0_execute_12 : decode cX0_execute 12 = .ok (.putfield 53, 3) := by decide +kernel
theorem dX0_execute_15 : decode cX0_execute 15 = .ok (.aload_n 0, 1) := by decide +kernel
theorem dX0_execute_16 : decode cX0_execute 16 = .ok (.iconst 0, 1) := by decide +kernel
theorem dX0_execute_17 : decode cX0_execute 17 = .ok (.putfield 56, 3) := by decide +kernel
theorem dX0_execute_20 : decode cX0_execute 20 = .ok (.aload_n 0, 1) := by decide +kernel
theorem dX0_execute_21 : decode cX0_execute 21 = .ok (.iconst 0, 1) := by decide +kernel
theorem dX0_execute_22 : decode cX0_execute 22 = .ok (.putfield 59, 3) := by decide +kernel
theorem dX0_execute_25 : decode cX0_execute 25 = .ok (.aload_n 0, 1) := by decide +kernel
theorem dX0_execute_26 : decode cX0_execute 26 = .ok (.getfield 34, 3) := by decide +kernel
theorem dX0_execute_29 : decode cX0_execute 29 = .ok (.iconst 0, 1) := by decide +kernel
theorem dX0_execute_30 : decode cX0_execute 30 = .ok (.invokestatic 62, 3) := by decide +kernel
theorem dX0_execute_33 : decode cX0_execute 33 = .ok (.aload_n 0, 1) := by decide +kernel
theorem dX0_execute_34 : decode cX0_execute 34 = .ok (.invokevirtual 68, 3) := by decide +kernel
theorem dX0_execute_37 : decode cX0_execute 37 = .ok (.iconst 0, 1) := by decide +kernel
theorem dX0_execute_38 : decode cX0_execute 38 = .ok (.istore_n 3, 1) := by decide +kernel
theorem dX0_execute_39 : decode cX0_execute 39 = .ok (.iload_n 3, 1) := by decide +kernel
theorem dX0_execute_40 : decode cX0_execute 40 = .ok (.sipush 400, 3) := by decide +kernel
theorem dX0_execute_43 : decode cX0_execute 43 = .ok (.if_icmp .gt 24, 3) := by decide +kernel
theorem dX0_execute_46 : decode cX0_execute 46 = .ok (.aload_n 0, 1) := by decide +kernel
theorem dX0_execute_47 : decode cX0_execute 47 = .ok (.invokevirtual 71, 3) := by decide +kernel
theorem dX0_execute_50 : decode cX0_execute 50 = .ok (.ifCond .eq 17, 3) := by decide +kernel
theorem dX0_execute_53 : decode cX0_execute 53 = .ok (.aload_n 0, 1) := by decide +kernel
theorem dX0_execute_54 : decode cX0_execute 54 = .ok (.invokevirtual 75, 3) := by decide +kernel
theorem dX0_execute_57 : decode cX0_execute 57 = .ok (.aload_n 0, 1) := by decide +kernel
theorem dX0_execute_58 : decode cX0_execute 58 = .ok (.invokevirtual 78, 3) := by decide +kernel
theorem dX0_execute_61 : decode cX0_execute 61 = .ok (.iinc 3 1, 3) := by decide +kernel
theorem dX0_execute_64 : decode cX0_execute 64 = .ok (.goto (-25), 3) := by decide +kernel
theorem dX0_execute_67 : decode cX0_execute 67 = .ok (.aload_n 0, 1) := by decide +kernel
theorem dX0_execute_68 : decode cX0_execute 68 = .ok (.getfield 59, 3) := by decide +kernel
theorem dX0_execute_71 : decode cX0_execute 71 = .ok (.ireturn, 1) := by decide +kernel
theorem dX0_begin_0 : decode cX0_begin 0 = .ok (.aload_n 0, 1) := by decide +kernel
theorem dX0_begin_1 : decode cX0_begin 1 = .ok (.getfield 49, 3) := by decide +kernel
theorem dX0_begin_4 : decode cX0_begin 4 = .ok (.iconst 1, 1) := by decide +kernel
theorem dX0_begin_5 : decode cX0_begin 5 = .ok (.if_icmp .ge 9, 3) := by decide +kernel
theorem dX0_begin_8 : decode cX0_begin 8 = .ok (.aload_n 0, 1) := by decide +kernel
theorem dX0_begin_9 : decode cX0_begin 9 = .ok (.iconst 3, 1) := by decide +kernel
theorem dX0_begin_10 : decode cX0_begin 10 = .ok (.putfield 59, 3) := by decide +kernel
theorem dX0_begin_13 : decode cX0_begin 13 = .ok (.return_, 1) := by decide +kernel
theorem dX0_begin_14 : decode cX0_begin 14 = .ok (.aload_n 0, 1) := by decide +kernel
theorem dX0_begin_15 : decode cX0_begin 15 = .ok (.iconst 0, 1) := by decide +kernel
theorem dX0_begin_16 : decode cX0_begin 16 = .ok (.invokevirtual 81, 3) := by decide +kernel
theorem dX0_begin_19 : decode cX0_begin 19 = .ok (.lstore_n 1, 1) := by decide +kernel
theorem dX0_begin_20 : decode cX0_begin 20 = .ok (.aload_n 0, 1) := by decide +kernel
theorem dX0_begin_21 : decode cX0_begin 21 = .ok (.getfield 34, 3) := by decide +kernel
theorem dX0_begin_24 : decode cX0_begin 24 = .ok (.iconst 1, 1) := by decide +kernel
theorem dX0_begin_25 : decode cX0_begin 25 = .ok (.dup2, 1) := by decide +kernel
theorem dX0_begin_26 : decode cX0_begin 26 = .ok (.iaload, 1) := by decide +kernel
theorem dX0_begin_27 : decode cX0_begin 27 = .ok (.iconst 1, 1) := by decide +kernel
theorem dX0_begin_28 : decode cX0_begin 28 = .ok (.iadd, 1) := by decide +kernel
theorem dX0_begin_29 : decode cX0_begin 29 = .ok (.iastore, 1) := by decide +kernel
theorem dX0_begin_30 : decode cX0_begin 30 = .ok (.aload_n 0, 1) := by decide +kernel
theorem dX0_begin_31 : decode cX0_begin 31 = .ok (.getfield 37, 3) := by decide +kernel
theorem dX0_begin_34 : decode cX0_begin 34 = .ok (.iconst 0, 1) := by decide +kernel
theorem dX0_begin_35 : decode cX0_begin 35 = .ok (.iconst 0, 1) := by decide +kernel
theorem dX0_begin_36 : decode cX0_begin 36 = .ok (.invokevirtual 85, 3) := by decide +kernel
theorem dX0_begin_39 : decode cX0_begin 39 = .ok (.istore_n 3, 1) := by decide +kernel
theorem dX0_begin_40 : decode cX0_begin 40 = .ok (.iload_n 3, 1) := by decide +kernel
theorem dX0_begin_41 : decode cX0_begin 41 = .ok (.iconst (-1), 1) := by decide +kernel
theorem dX0_begin_42 : decode cX0_begin 42 = .ok (.if_icmp .ne 10, 3) := by decide +kernel
theorem dX0_begin_45 : decode cX0_begin 45 = .ok (.aload_n 0, 1) := by decide +kernel
theorem dX0_begin_46 : decode cX0_begin 46 = .ok (.bipush 6, 2) := by decide +kernel
theorem dX0_begin_48 : decode cX0_begin 48 = .ok (.putfield 59, 3) := by decide +kernel
theorem dX0_begin_51 : decode cX0_begin 51 = .ok (.return_, 1) := by decide +kernel
theorem dX0_begin_52 : decode cX0_begin 52 = .ok (.aload_n 0, 1) := by decide +kernel
theorem dX0_begin_53 : decode cX0_begin 53 = .ok (.getfield 34, 3) := by decide +kernel
theorem dX0_begin_56 : decode cX0_begin 56 = .ok (.iconst 3, 1) := by decide +kernel
theorem dX0_begin_57 : decode cX0_begin 57 = .ok (.dup2, 1) := by decide +kernel
theorem dX0_begin_58 : decode cX0_begin 58 = .ok (.iaload, 1) := by decide +kernel
theorem dX0_begin_59 : decode cX0_begin 59 = .ok (.iconst 1, 1) := by decide +kernel
theorem dX0_begin_60 : decode cX0_begin 60 = .ok (.iadd, 1) := by decide +kernel
theorem dX0_begin_61 : decode cX0_begin 61 = .ok (.iastore, 1) := by decide +kernel
theorem dX0_begin_62 : decode cX0_begin 62 = .ok (.aload_n 0, 1) := by decide +kernel
theorem dX0_begin_63 : decode cX0_begin 63 = .ok (.iload_n 3, 1) := by decide +kernel
theorem dX0_begin_64 : decode cX0_begin 64 = .ok (.lload_n 1, 1) := by decide +kernel
theorem dX0_begin_65 : decode cX0_begin 65 = .ok (.lconst 0, 1) := by decide +kernel
theorem dX0_begin_66 : decode cX0_begin 66 = .ok (.invokevirtual 91, 3) := by decide +kernel
theorem dX0_begin_69 : decode cX0_begin 69 = .ok (.return_, 1) := by decide +kernel
theorem dX0_isGoing_0 : decode cX0_isGoing 0 = .ok (.aload_n 0, 1) := by decide +kernel
theorem dX0_isGoing_1 : decode cX0_isGoing 1 = .ok (.getfield 59, 3) := by decide +kernel
theorem dX0_isGoing_4 : decode cX0_isGoing 4 = .ok (.ifCond .ne 14, 3) := by decide +kernel
theorem dX0_isGoing_7 : decode cX0_isGoing 7 = .ok (.aload_n 0, 1) := by decide +kernel
theorem dX0_isGoing_8 : decode cX0_isGoing 8 = .ok (.getfield 53, 3) := by decide +kernel
theorem dX0_isGoing_11 : decode cX0_isGoing 11 = .ok (.ifCond .le 7, 3) := by decide +kernel
theorem dX0_isGoing_14 : decode cX0_isGoing 14 = .ok (.iconst 1, 1) := by decide +kernel
theorem dX0_isGoing_15 : decode cX0_isGoing 15 = .ok (.goto 4, 3) := by decide +kernel
theorem dX0_isGoing_18 : decode cX0_isGoing 18 = .ok (.iconst 0, 1) := by decide +kernel
theorem dX0_isGoing_19 : decode cX0_isGoing 19 = .ok (.ireturn, 1) := by decide +kernel
theorem dX0_leaveEndedFrames_0 : decode cX0_leaveEndedFrames 0 = .ok (.aload_n 0, 1) := by decide +kernel
theorem dX0_leaveEndedFrames_1 : decode cX0_leaveEndedFrames 1 = .ok (.getfield 53, 3) := by decide +kernel
theorem dX0_leaveEndedFrames_4 : decode cX0_leaveEndedFrames 4 = .ok (.istore_n 1, 1) := by decide +kernel
theorem dX0_leaveEndedFrames_5 : decode cX0_leaveEndedFrames 5 = .ok (.iload_n 1, 1) := by decide +kernel
theorem dX0_leaveEndedFrames_6 : decode cX0_leaveEndedFrames 6 = .ok (.ifCond .le 24, 3) := by decide +kernel
theorem dX0_leaveEndedFrames_9 : decode cX0_leaveEndedFrames 9 = .ok (.aload_n 0, 1) := by decide +kernel
theorem dX0_leaveEndedFrames_10 : decode cX0_leaveEndedFrames 10 = .ok (.iload_n 1, 1) := by decide +kernel
theorem dX0_leaveEndedFrames_11 : decode cX0_leaveEndedFrames 11 = .ok (.iconst 1, 1) := by decide +kernel
theorem dX0_leaveEndedFrames_12 : decode cX0_leaveEndedFrames 12 = .ok (.isub, 1) := by decide +kernel
theorem dX0_leaveEndedFrames_13 : decode cX0_leaveEndedFrames 13 = .ok (.invokevirtual 95, 3) := by decide +kernel
theorem dX0_leaveEndedFrames_16 : decode cX0_leaveEndedFrames 16 = .ok (.ifCond .eq 14, 3) := by decide +kernel
theorem dX0_leaveEndedFrames_19 : decode cX0_leaveEndedFrames 19 = .ok (.aload_n 0, 1) := by decide +kernel
theorem dX0_leaveEndedFrames_20 : decode cX0_leaveEndedFrames 20 = .ok (.lconst 0, 1) := by decide +kernel
theorem dX0_leaveEndedFrames_21 : decode cX0_leaveEndedFrames 21 = .ok (.invokevirtual 99, 3) := by decide +kernel
theorem dX0_leaveEndedFrames_24 : decode cX0_leaveEndedFrames 24 = .ok (.iinc 1 (-1), 3) := by decide +kernel
theorem dX0_leaveEndedFrames_27 : decode cX0_leaveEndedFrames 27 = .ok (.goto (-22), 3) := by decide +kernel
theorem dX0_leaveEndedFrames_30 : decode cX0_leaveEndedFrames 30 = .ok (.return_, 1) := by decide +kernel
theorem dX0_isBehindLast_0 : decode cX0_isBehindLast 0 = .ok (.aload_n 0, 1) := by decide +kernel
theorem dX0_isBehindLast_1 : decode cX0_isBehindLast 1 = .ok (.getfield 19, 3) := by decide +kernel
theorem dX0_isBehindLast_4 : decode cX0_isBehindLast 4 = .ok (.iload_n 1, 1) := by decide +kernel
theorem dX0_isBehindLast_5 : decode cX0_isBehindLast 5 = .ok (.iaload, 1) := by decide +kernel
theorem dX0_isBehindLast_6 : decode cX0_isBehindLast 6 = .ok (.aload_n 0, 1) := by decide +kernel
theorem dX0_isBehindLast_7 : decode cX0_isBehindLast 7 = .ok (.getfield 37, 3) := by decide +kernel
theorem dX0_isBehindLast_10 : decode cX0_isBehindLast 10 = .ok (.aload_n 0, 1) := by decide +kernel
theorem dX0_isBehindLast_11 : decode cX0_isBehindLast 11 = .ok (.getfield 15, 3) := by decide +kernel
theorem dX0_isBehindLast_14 : decode cX0_isBehindLast 14 = .ok (.iload_n 1, 1) := by decide +kernel
theorem dX0_isBehindLast_15 : decode cX0_isBehindLast 15 = .ok (.iaload, 1) := by decide +kernel
theorem dX0_isBehindLast_16 : decode cX0_isBehindLast 16 = .ok (.invokevirtual 103, 3) := by decide +kernel
theorem dX0_isBehindLast_19 : decode cX0_isBehindLast 19 = .ok (.if_icmp .lt 7, 3) := by decide +kernel
theorem dX0_isBehindLast_22 : decode cX0_isBehindLast 22 = .ok (.iconst 1, 1) := by decide +kernel
theorem dX0_isBehindLast_23 : decode cX0_isBehindLast 23 = .ok (.goto 4, 3) := by decide +kernel
theorem dX0_isBehindLast_26 : decode cX0_isBehindLast 26 = .ok (.iconst 0, 1) := by decide +kernel
theorem dX0_isBehindLast_27 : decode cX0_isBehindLast 27 = .ok (.ireturn, 1) := by decide +kernel
theorem dX0_step_0 : decode cX0_step 0 = .ok (.aload_n 0, 1) := by decide +kernel
theorem dX0_step_1 : decode cX0_step 1 = .ok (.getfield 34, 3) := by decide +kernel
theorem dX0_step_4 : decode cX0_step 4 = .ok (.iconst 4, 1) := by decide +kernel
theorem dX0_step_5 : decode cX0_step 5 = .ok (.iaload, 1) := by decide +kernel
theorem dX0_step_6 : decode cX0_step 6 = .ok (.sipush 400, 3) := by decide +kernel
theorem dX0_step_9 : decode cX0_step 9 = .ok (.if_icmp .lt 9, 3) := by decide +kernel
theorem dX0_step_12 : decode cX0_step 12 = .ok (.aload_n 0, 1) := by decide +kernel
theorem dX0_step_13 : decode cX0_step 13 = .ok (.iconst 5, 1) := by decide +kernel
theorem dX0_step_14 : decode cX0_step 14 = .ok (.putfield 59, 3) := by decide +kernel
theorem dX0_step_17 : decode cX0_step 17 = .ok (.return_, 1) := by decide +kernel
theorem dX0_step_18 : decode cX0_step 18 = .ok (.aload_n 0, 1) := by decide +kernel
theorem dX0_step_19 : decode cX0_step 19 = .ok (.getfield 34, 3) := by decide +kernel
theorem dX0_step_22 : decode cX0_step 22 = .ok (.iconst 4, 1) := by decide +kernel
theorem dX0_step_23 : decode cX0_step 23 = .ok (.dup2, 1) := by decide +kernel
theorem dX0_step_24 : decode cX0_step 24 = .ok (.iaload, 1) := by decide +kernel
theorem dX0_step_25 : decode cX0_step 25 = .ok (.iconst 1, 1) := by decide +kernel
theorem dX0_step_26 : decode cX0_step 26 = .ok (.iadd, 1) := by decide +kernel
theorem dX0_step_27 : decode cX0_step 27 = .ok (.iastore, 1) := by decide +kernel
theorem dX0_step_28 : decode cX0_step 28 = .ok (.aload_n 0, 1) := by decide +kernel
theorem dX0_step_29 : decode cX0_step 29 = .ok (.getfield 53, 3) := by decide +kernel
theorem dX0_step_32 : decode cX0_step 32 = .ok (.iconst 1, 1) := by decide +kernel
theorem dX0_step_33 : decode cX0_step 33 = .ok (.isub, 1) := by decide +kernel
theorem dX0_step_34 : decode cX0_step 34 = .ok (.istore_n 1, 1) := by decide +kernel
theorem dX0_step_35 : decode cX0_step 35 = .ok (.aload_n 0, 1) := by decide +kernel
theorem dX0_step_36 : decode cX0_step 36 = .ok (.getfield 15, 3) := by decide +kernel
theorem dX0_step_39 : decode cX0_step 39 = .ok (.iload_n 1, 1) := by decide +kernel
