theorem dX1_fitsInPlace_42 : decode cX1_fitsInPlace 42 = .ok (.bipush 9, 2) := by decide +kernel
theorem dX1_fitsInPlace_44 : decode cX1_fitsInPlace 44 = .ok (.if_icmp .ne 5, 3) := by decide +kernel
theorem dX1_fitsInPlace_47 : decode cX1_fitsInPlace 47 = .ok (.iconst 0, 1) := by decide +kernel
theorem dX1_fitsInPlace_48 : decode cX1_fitsInPlace 48 = .ok (.ireturn, 1) := by decide +kernel
theorem dX1_fitsInPlace_49 : decode cX1_fitsInPlace 49 = .ok (.iinc 2 1, 3) := by decide +kernel
theorem dX1_fitsInPlace_52 : decode cX1_fitsInPlace 52 = .ok (.goto (-38), 3) := by decide +kernel
theorem dX1_fitsInPlace_55 : decode cX1_fitsInPlace 55 = .ok (.iconst 1, 1) := by decide +kernel
theorem dX1_fitsInPlace_56 : decode cX1_fitsInPlace 56 = .ok (.ireturn, 1) := by decide +kernel
theorem dX2_init_0 : decode cX2_init 0 = .ok (.aload_n 0, 1) := by decide +kernel
theorem dX2_init_1 : decode cX2_init 1 = .ok (.invokespecial 3, 3) := by decide +kernel
theorem dX2_init_4 : decode cX2_init 4 = .ok (.aload_n 0, 1) := by decide +kernel
theorem dX2_init_5 : decode cX2_init 5 = .ok (.sipush 240, 3) := by decide +kernel
theorem dX2_init_8 : decode cX2_init 8 = .ok (.newarray .int, 2) := by decide +kernel
theorem dX2_init_10 : decode cX2_init 10 = .ok (.putfield 9, 3) := by decide +kernel
theorem dX2_init_13 : decode cX2_init 13 = .ok (.aload_n 0, 1) := by decide +kernel
theorem dX2_init_14 : decode cX2_init 14 = .ok (.iconst 4, 1) := by decide +kernel
theorem dX2_init_15 : decode cX2_init 15 = .ok (.newarray .int, 2) := by decide +kernel
theorem dX2_init_17 : decode cX2_init 17 = .ok (.putfield 15, 3) := by decide +kernel
theorem dX2_init_20 : decode cX2_init 20 = .ok (.aload_n 0, 1) := by decide +kernel
theorem dX2_init_21 : decode cX2_init 21 = .ok (.aload_n 1, 1) := by decide +kernel
theorem dX2_init_22 : decode cX2_init 22 = .ok (.putfield 18, 3) := by decide +kernel
theorem dX2_init_25 : decode cX2_init 25 = .ok (.return_, 1) := by decide +kernel
theorem dX2_isIn_0 : decode cX2_isIn 0 = .ok (.iload_n 0, 1) := by decide +kernel
theorem dX2_isIn_1 : decode cX2_isIn 1 = .ok (.iload_n 1, 1) := by decide +kernel
theorem dX2_isIn_2 : decode cX2_isIn 2 = .ok (.iushr, 1) := by decide +kernel
theorem dX2_isIn_3 : decode cX2_isIn 3 = .ok (.iconst 1, 1) := by decide +kernel
theorem dX2_isIn_4 : decode cX2_isIn 4 = .ok (.iand, 1) := by decide +kernel
theorem dX2_isIn_5 : decode cX2_isIn 5 = .ok (.ifCond .eq 7, 3) := by decide +kernel
theorem dX2_isIn_8 : decode cX2_isIn 8 = .ok (.iconst 1, 1) := by decide +kernel
theorem dX2_isIn_9 : decode cX2_isIn 9 = .ok (.goto 4, 3) := by decide +kernel
theorem dX2_isIn_12 : decode cX2_isIn 12 = .ok (.iconst 0, 1) := by decide +kernel
theorem dX2_isIn_13 : decode cX2_isIn 13 = .ok (.ireturn, 1) := by decide +kernel
theorem dX2_bits_0 : decode cX2_bits 0 = .ok (.aload_n 0, 1) := by decide +kernel
theorem dX2_bits_1 : decode cX2_bits 1 = .ok (.getfield 22, 3) := by decide +kernel
theorem dX2_bits_4 : decode cX2_bits 4 = .ok (.aload_n 0, 1) := by decide +kernel
theorem dX2_bits_5 : decode cX2_bits 5 = .ok (.getfield 26, 3) := by decide +kernel
theorem dX2_bits_8 : decode cX2_bits 8 = .ok (.bipush 8, 2) := by decide +kernel
theorem dX2_bits_10 : decode cX2_bits 10 = .ok (.ishl, 1) := by decide +kernel
theorem dX2_bits_11 : decode cX2_bits 11 = .ok (.ior, 1) := by decide +kernel
theorem dX2_bits_12 : decode cX2_bits 12 = .ok (.ireturn, 1) := by decide +kernel
theorem dX2_verdictAt_0 : decode cX2_verdictAt 0 = .ok (.aload_n 0, 1) := by decide +kernel
theorem dX2_verdictAt_1 : decode cX2_verdictAt 1 = .ok (.getfield 9, 3) := by decide +kernel
theorem dX2_verdictAt_4 : decode cX2_verdictAt 4 = .ok (.iload_n 1, 1) := by decide +kernel
theorem dX2_verdictAt_5 : decode cX2_verdictAt 5 = .ok (.iaload, 1) := by decide +kernel
theorem dX2_verdictAt_6 : decode cX2_verdictAt 6 = .ok (.ireturn, 1) := by decide +kernel
theorem dX2_forget_0 : decode cX2_forget 0 = .ok (.iload_n 1, 1) := by decide +kernel
theorem dX2_forget_1 : decode cX2_forget 1 = .ok (.iconst 0, 1) := by decide +kernel
theorem dX2_forget_2 : decode cX2_forget 2 = .ok (.invokestatic 29, 3) := by decide +kernel
theorem dX2_forget_5 : decode cX2_forget 5 = .ok (.istore_n 2, 1) := by decide +kernel
theorem dX2_forget_6 : decode cX2_forget 6 = .ok (.aload_n 0, 1) := by decide +kernel
theorem dX2_forget_7 : decode cX2_forget 7 = .ok (.getfield 9, 3) := by decide +kernel
theorem dX2_forget_10 : decode cX2_forget 10 = .ok (.iload_n 2, 1) := by decide +kernel
theorem dX2_forget_11 : decode cX2_forget 11 = .ok (.iload_n 2, 1) := by decide +kernel
theorem dX2_forget_12 : decode cX2_forget 12 = .ok (.bipush 10, 2) := by decide +kernel
theorem dX2_forget_14 : decode cX2_forget 14 = .ok (.iadd, 1) := by decide +kernel
theorem dX2_forget_15 : decode cX2_forget 15 = .ok (.iconst 0, 1) := by decide +kernel
theorem dX2_forget_16 : decode cX2_forget 16 = .ok (.invokestatic 35, 3) := by decide +kernel
theorem dX2_forget_19 : decode cX2_forget 19 = .ok (.return_, 1) := by decide +kernel
theorem dX2_renew_0 : decode cX2_renew 0 = .ok (.aload_n 0, 1) := by decide +kernel
theorem dX2_renew_1 : decode cX2_renew 1 = .ok (.getfield 9, 3) := by decide +kernel
theorem dX2_renew_4 : decode cX2_renew 4 = .ok (.iconst 0, 1) := by decide +kernel
theorem dX2_renew_5 : decode cX2_renew 5 = .ok (.invokestatic 41, 3) := by decide +kernel
theorem dX2_renew_8 : decode cX2_renew 8 = .ok (.aload_n 0, 1) := by decide +kernel
theorem dX2_renew_9 : decode cX2_renew 9 = .ok (.invokevirtual 44, 3) := by decide +kernel
theorem dX2_renew_12 : decode cX2_renew 12 = .ok (.iconst 0, 1) := by decide +kernel
theorem dX2_renew_13 : decode cX2_renew 13 = .ok (.istore_n 1, 1) := by decide +kernel
theorem dX2_renew_14 : decode cX2_renew 14 = .ok (.iload_n 1, 1) := by decide +kernel
theorem dX2_renew_15 : decode cX2_renew 15 = .ok (.iconst 4, 1) := by decide +kernel
theorem dX2_renew_16 : decode cX2_renew 16 = .ok (.if_icmp .ge 20, 3) := by decide +kernel
theorem dX2_renew_19 : decode cX2_renew 19 = .ok (.aload_n 0, 1) := by decide +kernel
theorem dX2_renew_20 : decode cX2_renew 20 = .ok (.getfield 15, 3) := by decide +kernel
theorem dX2_renew_23 : decode cX2_renew 23 = .ok (.iload_n 1, 1) := by decide +kernel
theorem dX2_renew_24 : decode cX2_renew 24 = .ok (.aload_n 0, 1) := by decide +kernel
theorem dX2_renew_25 : decode cX2_renew 25 = .ok (.iload_n 1, 1) := by decide +kernel
theorem dX2_renew_26 : decode cX2_renew 26 = .ok (.invokevirtual 47, 3) := by decide +kernel
theorem dX2_renew_29 : decode cX2_renew 29 = .ok (.iastore, 1) := by decide +kernel
theorem dX2_renew_30 : decode cX2_renew 30 = .ok (.iinc 1 1, 3) := by decide +kernel
theorem dX2_renew_33 : decode cX2_renew 33 = .ok (.goto (-19), 3) := by decide +kernel
theorem dX2_renew_36 : decode cX2_renew 36 = .ok (.iconst 0, 1) := by decide +kernel
theorem dX2_renew_37 : decode cX2_renew 37 = .ok (.istore_n 1, 1) := by decide +kernel
theorem dX2_renew_38 : decode cX2_renew 38 = .ok (.iload_n 1, 1) := by decide +kernel
theorem dX2_renew_39 : decode cX2_renew 39 = .ok (.bipush 24, 2) := by decide +kernel
theorem dX2_renew_41 : decode cX2_renew 41 = .ok (.if_icmp .ge 25, 3) := by decide +kernel
theorem dX2_renew_44 : decode cX2_renew 44 = .ok (.aload_n 0, 1) := by decide +kernel
theorem dX2_renew_45 : decode cX2_renew 45 = .ok (.getfield 26, 3) := by decide +kernel
theorem dX2_renew_48 : decode cX2_renew 48 = .ok (.iload_n 1, 1) := by decide +kernel
theorem dX2_renew_49 : decode cX2_renew 49 = .ok (.invokestatic 51, 3) := by decide +kernel
theorem dX2_renew_52 : decode cX2_renew 52 = .ok (.ifCond .eq 8, 3) := by decide +kernel
theorem dX2_renew_55 : decode cX2_renew 55 = .ok (.aload_n 0, 1) := by decide +kernel
theorem dX2_renew_56 : decode cX2_renew 56 = .ok (.iload_n 1, 1) := by decide +kernel
theorem dX2_renew_57 : decode cX2_renew 57 = .ok (.invokevirtual 55, 3) := by decide +kernel
theorem dX2_renew_60 : decode cX2_renew 60 = .ok (.iinc 1 1, 3) := by decide +kernel
theorem dX2_renew_63 : decode cX2_renew 63 = .ok (.goto (-25), 3) := by decide +kernel
theorem dX2_renew_66 : decode cX2_renew 66 = .ok (.aload_n 0, 1) := by decide +kernel
theorem dX2_renew_67 : decode cX2_renew 67 = .ok (.getfield 26, 3) := by decide +kernel
theorem dX2_renew_70 : decode cX2_renew 70 = .ok (.invokestatic 59, 3) := by decide +kernel
theorem dX2_renew_73 : decode cX2_renew 73 = .ok (.ireturn, 1) := by decide +kernel
theorem dX2_findReached_0 : decode cX2_findReached 0 = .ok (.aload_n 0, 1) := by decide +kernel
theorem dX2_findReached_1 : decode cX2_findReached 1 = .ok (.iconst 1, 1) := by decide +kernel
theorem dX2_findReached_2 : decode cX2_findReached 2 = .ok (.putfield 22, 3) := by decide +kernel
theorem dX2_findReached_5 : decode cX2_findReached 5 = .ok (.aload_n 0, 1) := by decide +kernel
theorem dX2_findReached_6 : decode cX2_findReached 6 = .ok (.iconst 0, 1) := by decide +kernel
theorem dX2_findReached_7 : decode cX2_findReached 7 = .ok (.putfield 64, 3) := by decide +kernel
theorem dX2_findReached_10 : decode cX2_findReached 10 = .ok (.aload_n 0, 1) := by decide +kernel
theorem dX2_findReached_11 : decode cX2_findReached 11 = .ok (.aload_n 0, 1) := by decide +kernel
theorem dX2_findReached_12 : decode cX2_findReached 12 = .ok (.iconst 0, 1) := by decide +kernel
theorem dX2_findReached_13 : decode cX2_findReached 13 = .ok (.iconst 0, 1) := by decide +kernel
theorem dX2_findReached_14 : decode cX2_findReached 14 = .ok (.invokevirtual 67, 3) := by decide +kernel
theorem dX2_findReached_17 : decode cX2_findReached 17 = .ok (.putfield 26, 3) := by decide +kernel
theorem dX2_findReached_20 : decode cX2_findReached 20 = .ok (.iconst 0, 1) := by decide +kernel
theorem dX2_findReached_21 : decode cX2_findReached 21 = .ok (.istore_n 1, 1) := by decide +kernel
theorem dX2_findReached_22 : decode cX2_findReached 22 = .ok (.iconst 0, 1) := by decide +kernel
theorem dX2_findReached_23 : decode cX2_findReached 23 = .ok (.istore_n 2, 1) := by decide +kernel
theorem dX2_findReached_24 : decode cX2_findReached 24 = .ok (.iload_n 2, 1) := by decide +kernel
theorem dX2_findReached_25 : decode cX2_findReached 25 = .ok (.bipush 24, 2) := by decide +kernel
theorem dX2_findReached_27 : decode cX2_findReached 27 = .ok (.if_icmp .ge 40, 3) := by decide +kernel
theorem dX2_findReached_30 : decode cX2_findReached 30 = .ok (.iload_n 1, 1) := by decide +kernel
theorem dX2_findReached_31 : decode cX2_findReached 31 = .ok (.aload_n 0, 1) := by decide +kernel
theorem dX2_findReached_32 : decode cX2_findReached 32 = .ok (.getfield 26, 3) := by decide +kernel
theorem dX2_findReached_35 : decode cX2_findReached 35 = .ok (.if_icmp .eq 32, 3) := by decide +kernel
theorem dX2_findReached_38 : decode cX2_findReached 38 = .ok (.aload_n 0, 1) := by decide +kernel
theorem dX2_findReached_39 : decode cX2_findReached 39 = .ok (.getfield 26, 3) := by decide +kernel
theorem dX2_findReached_42 : decode cX2_findReached 42 = .ok (.iload_n 1, 1) := by decide +kernel
theorem dX2_findReached_43 : decode cX2_findReached 43 = .ok (.iconst (-1), 1) := by decide +kernel
theorem dX2_findReached_44 : decode cX2_findReached 44 = .ok (.ixor, 1) := by decide +kernel
theorem dX2_findReached_45 : decode cX2_findReached 45 = .ok (.iand, 1) := by decide +kernel
theorem dX2_findReached_46 : decode cX2_findReached 46 = .ok (.istore_n 3, 1) := by decide +kernel
theorem dX2_findReached_47 : decode cX2_findReached 47 = .ok (.aload_n 0, 1) := by decide +kernel
theorem dX2_findReached_48 : decode cX2_findReached 48 = .ok (.getfield 26, 3) := by decide +kernel
theorem dX2_findReached_51 : decode cX2_findReached 51 = .ok (.istore_n 1, 1) := by decide +kernel
theorem dX2_findReached_52 : decode cX2_findReached 52 = .ok (.aload_n 0, 1) := by decide +kernel
theorem dX2_findReached_53 : decode cX2_findReached 53 = .ok (.iload_n 3, 1) := by decide +kernel
theorem dX2_findReached_54 : decode cX2_findReached 54 = .ok (.invokevirtual 70, 3) := by decide +kernel
theorem dX2_findReached_57 : decode cX2_findReached 57 = .ok (.aload_n 0, 1) := by decide +kernel
theorem dX2_findReached_58 : decode cX2_findReached 58 = .ok (.invokevirtual 73, 3) := by decide +kernel
theorem dX2_findReached_61 : decode cX2_findReached 61 = .ok (.iinc 2 1, 3) := by decide +kernel
theorem dX2_findReached_64 : decode cX2_findReached 64 = .ok (.goto (-40), 3) := by decide +kernel
theorem dX2_findReached_67 : decode cX2_findReached 67 = .ok (.return_, 1) := by decide +kernel
theorem dX2_targetSet_0 : decode cX2_targetSet 0 = .ok (.aload_n 0, 1) := by decide +kernel
theorem dX2_targetSet_1 : decode cX2_targetSet 1 = .ok (.getfield 18, 3) := by decide +kernel
theorem dX2_targetSet_4 : decode cX2_targetSet 4 = .ok (.iload_n 1, 1) := by decide +kernel
theorem dX2_targetSet_5 : decode cX2_targetSet 5 = .ok (.iload_n 2, 1) := by decide +kernel
theorem dX2_targetSet_6 : decode cX2_targetSet 6 = .ok (.invokevirtual 76, 3) := by decide +kernel
theorem dX2_targetSet_9 : decode cX2_targetSet 9 = .ok (.istore_n 3, 1) := by decide +kernel
theorem dX2_targetSet_10 : decode cX2_targetSet 10 = .ok (.iload_n 3, 1) := by decide +kernel
theorem dX2_targetSet_11 : decode cX2_targetSet 11 = .ok (.iconst (-1), 1) := by decide +kernel
theorem dX2_targetSet_12 : decode cX2_targetSet 12 = .ok (.if_icmp .ne 7, 3) := by decide +kernel
theorem dX2_targetSet_15 : decode cX2_targetSet 15 = .ok (.iconst 0, 1) := by decide +kernel
theorem dX2_targetSet_16 : decode cX2_targetSet 16 = .ok (.goto 6, 3) := by decide +kernel
theorem dX2_targetSet_19 : decode cX2_targetSet 19 = .ok (.iconst 1, 1) := by decide +kernel
theorem dX2_targetSet_20 : decode cX2_targetSet 20 = .ok (.iload_n 3, 1) := by decide +kernel
theorem dX2_targetSet_21 : decode cX2_targetSet 21 = .ok (.ishl, 1) := by decide +kernel
theorem dX2_targetSet_22 : decode cX2_targetSet 22 = .ok (.ireturn, 1) := by decide +kernel
theorem dX2_readBodies_0 : decode cX2_readBodies 0 = .ok (.iconst 0, 1) := by decide +kernel
theorem dX2_readBodies_1 : decode cX2_readBodies 1 = .ok (.istore_n 2, 1) := by decide +kernel
theorem dX2_readBodies_2 : decode cX2_readBodies 2 = .ok (.iload_n 2, 1) := by decide +kernel
theorem dX2_readBodies_3 : decode cX2_readBodies 3 = .ok (.bipush 24, 2) := by decide +kernel
theorem dX2_readBodies_5 : decode cX2_readBodies 5 = .ok (.if_icmp .ge 22, 3) := by decide +kernel
theorem dX2_readBodies_8 : decode cX2_readBodies 8 = .ok (.iload_n 1, 1) := by decide +kernel
theorem dX2_readBodies_9 : decode cX2_readBodies 9 = .ok (.iload_n 2, 1) := by decide +kernel
theorem dX2_readBodies_10 : decode cX2_readBodies 10 = .ok (.invokestatic 51, 3) := by decide +kernel
theorem dX2_readBodies_13 : decode cX2_readBodies 13 = .ok (.ifCond .eq 8, 3) := by decide +kernel
theorem dX2_readBodies_16 : decode cX2_readBodies 16 = .ok (.aload_n 0, 1) := by decide +kernel
theorem dX2_readBodies_17 : decode cX2_readBodies 17 = .ok (.iload_n 2, 1) := by decide +kernel
theorem dX2_readBodies_18 : decode cX2_readBodies 18 = .ok (.invokevirtual 79, 3) := by decide +kernel
theorem dX2_readBodies_21 : decode cX2_readBodies 21 = .ok (.iinc 2 1, 3) := by decide +kernel
theorem dX2_readBodies_24 : decode cX2_readBodies 24 = .ok (.goto (-22), 3) := by decide +kernel
theorem dX2_readBodies_27 : decode cX2_readBodies 27 = .ok (.return_, 1) := by decide +kernel
theorem dX2_readBody_0 : decode cX2_readBody 0 = .ok (.iconst 0, 1) := by decide +kernel
theorem dX2_readBody_1 : decode cX2_readBody 1 = .ok (.istore_n 2, 1) := by decide +kernel
theorem dX2_readBody_2 : decode cX2_readBody 2 = .ok (.iload_n 2, 1) := by decide +kernel
theorem dX2_readBody_3 : decode cX2_readBody 3 = .ok (.aload_n 0, 1) := by decide +kernel
theorem dX2_readBody_4 : decode cX2_readBody 4 = .ok (.getfield 18, 3) := by decide +kernel
theorem dX2_readBody_7 : decode cX2_readBody 7 = .ok (.iload_n 1, 1) := by decide +kernel
theorem dX2_readBody_8 : decode cX2_readBody 8 = .ok (.invokevirtual 82, 3) := by decide +kernel
theorem dX2_readBody_11 : decode cX2_readBody 11 = .ok (.if_icmp .ge 81, 3) := by decide +kernel
theorem dX2_readBody_14 : decode cX2_readBody 14 = .ok (.iload_n 1, 1) := by decide +kernel
theorem dX2_readBody_15 : decode cX2_readBody 15 = .ok (.iload_n 2, 1) := by decide +kernel
theorem dX2_readBody_16 : decode cX2_readBody 16 = .ok (.invokestatic 29, 3) := by decide +kernel
theorem dX2_readBody_19 : decode cX2_readBody 19 = .ok (.istore_n 3, 1) := by decide +kernel
theorem dX2_readBody_20 : decode cX2_readBody 20 = .ok (.aload_n 0, 1) := by decide +kernel
theorem dX2_readBody_21 : decode cX2_readBody 21 = .ok (.getfield 18, 3) := by decide +kernel
theorem dX2_readBody_24 : decode cX2_readBody 24 = .ok (.iload_n 3, 1) := by decide +kernel
theorem dX2_readBody_25 : decode cX2_readBody 25 = .ok (.invokevirtual 85, 3) := by decide +kernel
theorem dX2_readBody_28 : decode cX2_readBody 28 = .ok (.iconst 4, 1) := by decide +kernel
theorem dX2_readBody_29 : decode cX2_readBody 29 = .ok (.if_icmp .ne 25, 3) := by decide +kernel
theorem dX2_readBody_32 : decode cX2_readBody 32 = .ok (.aload_n 0, 1) := by decide +kernel
theorem dX2_readBody_33 : decode cX2_readBody 33 = .ok (.dup, 1) := by decide +kernel
theorem dX2_readBody_34 : decode cX2_readBody 34 = .ok (.getfield 22, 3) := by decide +kernel
theorem dX2_readBody_37 : decode cX2_readBody 37 = .ok (.iconst 1, 1) := by decide +kernel
theorem dX2_readBody_38 : decode cX2_readBody 38 = .ok (.aload_n 0, 1) := by decide +kernel
theorem dX2_readBody_39 : decode cX2_readBody 39 = .ok (.getfield 18, 3) := by decide +kernel
theorem dX2_readBody_42 : decode cX2_readBody 42 = .ok (.iload_n 3, 1) := by decide +kernel
theorem dX2_readBody_43 : decode cX2_readBody 43 = .ok (.invokevirtual 88, 3) := by decide +kernel
theorem dX2_readBody_46 : decode cX2_readBody 46 = .ok (.ishl, 1) := by decide +kernel
theorem dX2_readBody_47 : decode cX2_readBody 47 = .ok (.ior, 1) := by decide +kernel
theorem dX2_readBody_48 : decode cX2_readBody 48 = .ok (.putfield 22, 3) := by decide +kernel
theorem dX2_readBody_51 : decode cX2_readBody 51 = .ok (.goto 35, 3) := by decide +kernel
theorem dX2_readBody_54 : decode cX2_readBody 54 = .ok (.aload_n 0, 1) := by decide +kernel
theorem dX2_readBody_55 : decode cX2_readBody 55 = .ok (.getfield 18, 3) := by decide +kernel
theorem dX2_readBody_58 : decode cX2_readBody 58 = .ok (.iload_n 3, 1) := by decide +kernel
theorem dX2_readBody_59 : decode cX2_readBody 59 = .ok (.invokevirtual 85, 3) := by decide +kernel
theorem dX2_readBody_62 : decode cX2_readBody 62 = .ok (.bipush 7, 2) := by decide +kernel
theorem dX2_readBody_64 : decode cX2_readBody 64 = .ok (.if_icmp .ne 22, 3) := by decide +kernel
theorem dX2_readBody_67 : decode cX2_readBody 67 = .ok (.aload_n 0, 1) := by decide +kernel
theorem dX2_readBody_68 : decode cX2_readBody 68 = .ok (.dup, 1) := by decide +kernel
theorem dX2_readBody_69 : decode cX2_readBody 69 = .ok (.getfield 64, 3) := by decide +kernel
theorem dX2_readBody_72 : decode cX2_readBody 72 = .ok (.iconst 1, 1) := by decide +kernel
theorem dX2_readBody_73 : decode cX2_readBody 73 = .ok (.aload_n 0, 1) := by decide +kernel
theorem dX2_readBody_74 : decode cX2_readBody 74 = .ok (.getfield 18, 3) := by decide +kernel
theorem dX2_readBody_77 : decode cX2_readBody 77 = .ok (.iload_n 3, 1) := by decide +kernel
theorem dX2_readBody_78 : decode cX2_readBody 78 = .ok (.invokevirtual 91, 3) := by decide +kernel
theorem dX2_readBody_81 : decode cX2_readBody 81 = .ok (.ishl, 1) := by decide +kernel
theorem dX2_readBody_82 : decode cX2_readBody 82 = .ok (.ior, 1) := by decide +kernel
theorem dX2_readBody_83 : decode cX2_readBody 83 = .ok (.putfield 64, 3) := by decide +kernel
theorem dX2_readBody_86 : decode cX2_readBody 86 = .ok (.iinc 2 1, 3) := by decide +kernel
theorem dX2_readBody_89 : decode cX2_readBody 89 = .ok (.goto (-87), 3) := by decide +kernel
theorem dX2_readBody_92 : decode cX2_readBody 92 = .ok (.return_, 1) := by decide +kernel
theorem dX2_reachTargets_0 : decode cX2_reachTargets 0 = .ok (.iconst 0, 1) := by decide +kernel
theorem dX2_reachTargets_1 : decode cX2_reachTargets 1 = .ok (.istore_n 1, 1) := by decide +kernel
theorem dX2_reachTargets_2 : decode cX2_reachTargets 2 = .ok (.iload_n 1, 1) := by decide +kernel
theorem dX2_reachTargets_3 : decode cX2_reachTargets 3 = .ok (.bipush 6, 2) := by decide +kernel
theorem dX2_reachTargets_5 : decode cX2_reachTargets 5 = .ok (.if_icmp .ge 59, 3) := by decide +kernel
theorem dX2_reachTargets_8 : decode cX2_reachTargets 8 = .ok (.iconst 0, 1) := by decide +kernel
theorem dX2_reachTargets_9 : decode cX2_reachTargets 9 = .ok (.istore_n 2, 1) := by decide +kernel
theorem dX2_reachTargets_10 : decode cX2_reachTargets 10 = .ok (.iload_n 2, 1) := by decide +kernel
theorem dX2_reachTargets_11 : decode cX2_reachTargets 11 = .ok (.iconst 4, 1) := by decide +kernel
theorem dX2_reachTargets_12 : decode cX2_reachTargets 12 = .ok (.if_icmp .ge 46, 3) := by decide +kernel
theorem dX2_reachTargets_15 : decode cX2_reachTargets 15 = .ok (.aload_n 0, 1) := by decide +kernel
theorem dX2_reachTargets_16 : decode cX2_reachTargets 16 = .ok (.getfield 22, 3) := by decide +kernel
theorem dX2_reachTargets_19 : decode cX2_reachTargets 19 = .ok (.iload_n 1, 1) := by decide +kernel
theorem dX2_reachTargets_20 : decode cX2_reachTargets 20 = .ok (.invokestatic 51, 3) := by decide +kernel
theorem dX2_reachTargets_23 : decode cX2_reachTargets 23 = .ok (.ifCond .eq 29, 3) := by decide +kernel
theorem dX2_reachTargets_26 : decode cX2_reachTargets 26 = .ok (.aload_n 0, 1) := by decide +kernel
theorem dX2_reachTargets_27 : decode cX2_reachTargets 27 = .ok (.getfield 64, 3) := by decide +kernel
theorem dX2_reachTargets_30 : decode cX2_reachTargets 30 = .ok (.iload_n 2, 1) := by decide +kernel
theorem dX2_reachTargets_31 : decode cX2_reachTargets 31 = .ok (.invokestatic 51, 3) := by decide +kernel
theorem dX2_reachTargets_34 : decode cX2_reachTargets 34 = .ok (.ifCond .eq 18, 3) := by decide +kernel
theorem dX2_reachTargets_37 : decode cX2_reachTargets 37 = .ok (.aload_n 0, 1) := by decide +kernel
theorem dX2_reachTargets_38 : decode cX2_reachTargets 38 = .ok (.dup, 1) := by decide +kernel
theorem dX2_reachTargets_39 : decode cX2_reachTargets 39 = .ok (.getfield 26, 3) := by decide +kernel
theorem dX2_reachTargets_42 : decode cX2_reachTargets 42 = .ok (.aload_n 0, 1) := by decide +kernel
theorem dX2_reachTargets_43 : decode cX2_reachTargets 43 = .ok (.iload_n 1, 1) := by decide +kernel
theorem dX2_reachTargets_44 : decode cX2_reachTargets 44 = .ok (.iload_n 2, 1) := by decide +kernel
theorem dX2_reachTargets_45 : decode cX2_reachTargets 45 = .ok (.invokevirtual 67, 3) := by decide +kernel
theorem dX2_reachTargets_48 : decode cX2_reachTargets 48 = .ok (.ior, 1) := by decide +kernel
theorem dX2_reachTargets_49 : decode cX2_reachTargets 49 = .ok (.putfield 26, 3) := by decide +kernel
theorem dX2_reachTargets_52 : decode cX2_reachTargets 52 = .ok (.iinc 2 1, 3) := by decide +kernel
theorem dX2_reachTargets_55 : decode cX2_reachTargets 55 = .ok (.goto (-45), 3) := by decide +kernel
theorem dX2_reachTargets_58 : decode cX2_reachTargets 58 = .ok (.iinc 1 1, 3) := by decide +kernel
theorem dX2_reachTargets_61 : decode cX2_reachTargets 61 = .ok (.goto (-59), 3) := by decide +kernel
theorem dX2_reachTargets_64 : decode cX2_reachTargets 64 = .ok (.return_, 1) := by decide +kernel
theorem dX2_verdictOfCalls_0 : decode cX2_verdictOfCalls 0 = .ok (.iconst (-1), 1) := by decide +kernel
theorem dX2_verdictOfCalls_1 : decode cX2_verdictOfCalls 1 = .ok (.istore_n 2, 1) := by decide +kernel
theorem dX2_verdictOfCalls_2 : decode cX2_verdictOfCalls 2 = .ok (.iconst 0, 1) := by decide +kernel
theorem dX2_verdictOfCalls_3 : decode cX2_verdictOfCalls 3 = .ok (.istore_n 3, 1) := by decide +kernel
theorem dX2_verdictOfCalls_4 : decode cX2_verdictOfCalls 4 = .ok (.iload_n 3, 1) := by decide +kernel
theorem dX2_verdictOfCalls_5 : decode cX2_verdictOfCalls 5 = .ok (.bipush 6, 2) := by decide +kernel
theorem dX2_verdictOfCalls_7 : decode cX2_verdictOfCalls 7 = .ok (.if_icmp .ge 57, 3) := by decide +kernel
theorem dX2_verdictOfCalls_10 : decode cX2_verdictOfCalls 10 = .ok (.aload_n 0, 1) := by decide +kernel
theorem dX2_verdictOfCalls_11 : decode cX2_verdictOfCalls 11 = .ok (.getfield 22, 3) := by decide +kernel
theorem dX2_verdictOfCalls_14 : decode cX2_verdictOfCalls 14 = .ok (.iload_n 3, 1) := by decide +kernel
theorem dX2_verdictOfCalls_15 : decode cX2_verdictOfCalls 15 = .ok (.invokestatic 51, 3) := by decide +kernel
theorem dX2_verdictOfCalls_18 : decode cX2_verdictOfCalls 18 = .ok (.ifCond .eq 15, 3) := by decide +kernel
theorem dX2_verdictOfCalls_21 : decode cX2_verdictOfCalls 21 = .ok (.aload_n 0, 1) := by decide +kernel
theorem dX2_verdictOfCalls_22 : decode cX2_verdictOfCalls 22 = .ok (.getfield 18, 3) := by decide +kernel
theorem dX2_verdictOfCalls_25 : decode cX2_verdictOfCalls 25 = .ok (.iload_n 3, 1) := by decide +kernel
theorem dX2_verdictOfCalls_26 : decode cX2_verdictOfCalls 26 = .ok (.iload_n 1, 1) := by decide +kernel
theorem dX2_verdictOfCalls_27 : decode cX2_verdictOfCalls 27 = .ok (.invokevirtual 76, 3) := by decide +kernel
theorem dX2_verdictOfCalls_30 : decode cX2_verdictOfCalls 30 = .ok (.goto 4, 3) := by decide +kernel
theorem dX2_verdictOfCalls_33 : decode cX2_verdictOfCalls 33 = .ok (.iconst (-1), 1) := by decide +kernel
theorem dX2_verdictOfCalls_34 : decode cX2_verdictOfCalls 34 = .ok (.istore 4, 2) := by decide +kernel
theorem dX2_verdictOfCalls_36 : decode cX2_verdictOfCalls 36 = .ok (.iload 4, 2) := by decide +kernel
theorem dX2_verdictOfCalls_38 : decode cX2_verdictOfCalls 38 = .ok (.iconst (-1), 1) := by decide +kernel
theorem dX2_verdictOfCalls_39 : decode cX2_verdictOfCalls 39 = .ok (.if_icmp .eq 19, 3) := by decide +kernel
theorem dX2_verdictOfCalls_42 : decode cX2_verdictOfCalls 42 = .ok (.iload_n 2, 1) := by decide +kernel
theorem dX2_verdictOfCalls_43 : decode cX2_verdictOfCalls 43 = .ok (.iconst (-1), 1) := by decide +kernel
theorem dX2_verdictOfCalls_44 : decode cX2_verdictOfCalls 44 = .ok (.if_icmp .eq 11, 3) := by decide +kernel
theorem dX2_verdictOfCalls_47 : decode cX2_verdictOfCalls 47 = .ok (.iload_n 2, 1) := by decide +kernel
theorem dX2_verdictOfCalls_48 : decode cX2_verdictOfCalls 48 = .ok (.iload 4, 2) := by decide +kernel
theorem dX2_verdictOfCalls_50 : decode cX2_verdictOfCalls 50 = .ok (.if_icmp .eq 5, 3) := by decide +kernel
theorem dX2_verdictOfCalls_53 : decode cX2_verdictOfCalls 53 = .ok (.iconst 1, 1) := by decide +kernel
theorem dX2_verdictOfCalls_54 : decode cX2_verdictOfCalls 54 = .ok (.ireturn, 1) := by decide +kernel
theorem dX2_verdictOfCalls_55 : decode cX2_verdictOfCalls 55 = .ok (.iload 4, 2) := by decide +kernel
theorem dX2_verdictOfCalls_57 : decode cX2_verdictOfCalls 57 = .ok (.istore_n 2, 1) := by decide +kernel
theorem dX2_verdictOfCalls_58 : decode cX2_verdictOfCalls 58 = .ok (.iinc 3 1, 3) := by decide +kernel
theorem dX2_verdictOfCalls_61 : decode cX2_verdictOfCalls 61 = .ok (.goto (-57), 3) := by decide +kernel
theorem dX2_verdictOfCalls_64 : decode cX2_verdictOfCalls 64 = .ok (.iload_n 2, 1) := by decide +kernel
theorem dX2_verdictOfCalls_65 : decode cX2_verdictOfCalls 65 = .ok (.iconst (-1), 1) := by decide +kernel
theorem dX2_verdictOfCalls_66 : decode cX2_verdictOfCalls 66 = .ok (.if_icmp .ne 5, 3) := by decide +kernel
theorem dX2_verdictOfCalls_69 : decode cX2_verdictOfCalls 69 = .ok (.iconst 4, 1) := by decide +kernel
theorem dX2_verdictOfCalls_70 : decode cX2_verdictOfCalls 70 = .ok (.ireturn, 1) := by decide +kernel
theorem dX2_verdictOfCalls_71 : decode cX2_verdictOfCalls 71 = .ok (.aload_n 0, 1) := by decide +kernel
theorem dX2_verdictOfCalls_72 : decode cX2_verdictOfCalls 72 = .ok (.getfield 18, 3) := by decide +kernel
theorem dX2_verdictOfCalls_75 : decode cX2_verdictOfCalls 75 = .ok (.iload_n 2, 1) := by decide +kernel
theorem dX2_verdictOfCalls_76 : decode cX2_verdictOfCalls 76 = .ok (.invokevirtual 94, 3) := by decide +kernel
theorem dX2_verdictOfCalls_79 : decode cX2_verdictOfCalls 79 = .ok (.ifCond .eq 7, 3) := by decide +kernel
theorem dX2_verdictOfCalls_82 : decode cX2_verdictOfCalls 82 = .ok (.iconst 3, 1) := by decide +kernel
theorem dX2_verdictOfCalls_83 : decode cX2_verdictOfCalls 83 = .ok (.goto 4, 3) := by decide +kernel
theorem dX2_verdictOfCalls_86 : decode cX2_verdictOfCalls 86 = .ok (.iconst 2, 1) := by decide +kernel
theorem dX2_verdictOfCalls_87 : decode cX2_verdictOfCalls 87 = .ok (.ireturn, 1) := by decide +kernel
theorem dX2_judge_0 : decode cX2_judge 0 = .ok (.aload_n 0, 1) := by decide +kernel
theorem dX2_judge_1 : decode cX2_judge 1 = .ok (.iload_n 1, 1) := by decide +kernel
theorem dX2_judge_2 : decode cX2_judge 2 = .ok (.invokevirtual 98, 3) := by decide +kernel
theorem dX2_judge_5 : decode cX2_judge 5 = .ok (.istore_n 2, 1) := by decide +kernel
theorem dX2_judge_6 : decode cX2_judge 6 = .ok (.iconst 0, 1) := by decide +kernel
theorem dX2_judge_7 : decode cX2_judge 7 = .ok (.istore_n 3, 1) := by decide +kernel
theorem dX2_judge_8 : decode cX2_judge 8 = .ok (.iload_n 3, 1) := by decide +kernel
theorem dX2_judge_9 : decode cX2_judge 9 = .ok (.aload_n 0, 1) := by decide +kernel
theorem dX2_judge_10 : decode cX2_judge 10 = .ok (.getfield 18, 3) := by decide +kernel
theorem dX2_judge_13 : decode cX2_judge 13 = .ok (.iload_n 1, 1) := by decide +kernel
theorem dX2_judge_14 : decode cX2_judge 14 = .ok (.invokevirtual 82, 3) := by decide +kernel
theorem dX2_judge_17 : decode cX2_judge 17 = .ok (.if_icmp .ge 111, 3) := by decide +kernel
theorem dX2_judge_20 : decode cX2_judge 20 = .ok (.iload_n 1, 1) := by decide +kernel
theorem dX2_judge_21 : decode cX2_judge 21 = .ok (.iload_n 3, 1) := by decide +kernel
theorem dX2_judge_22 : decode cX2_judge 22 = .ok (.invokestatic 29, 3) := by decide +kernel
theorem dX2_judge_25 : decode cX2_judge 25 = .ok (.istore 4, 2) := by decide +kernel
theorem dX2_judge_27 : decode cX2_judge 27 = .ok (.aload_n 0, 1) := by decide +kernel
theorem dX2_judge_28 : decode cX2_judge 28 = .ok (.getfield 18, 3) := by decide +kernel
theorem dX2_judge_31 : decode cX2_judge 31 = .ok (.iload 4, 2) := by decide +kernel
theorem dX2_judge_33 : decode cX2_judge 33 = .ok (.invokevirtual 85, 3) := by decide +kernel
theorem dX2_judge_36 : decode cX2_judge 36 = .ok (.bipush 7, 2) := by decide +kernel
theorem dX2_judge_38 : decode cX2_judge 38 = .ok (.if_icmp .ne 27, 3) := by decide +kernel
theorem dX2_judge_41 : decode cX2_judge 41 = .ok (.aload_n 0, 1) := by decide +kernel
theorem dX2_judge_42 : decode cX2_judge 42 = .ok (.getfield 9, 3) := by decide +kernel
theorem dX2_judge_45 : decode cX2_judge 45 = .ok (.iload 4, 2) := by decide +kernel
theorem dX2_judge_47 : decode cX2_judge 47 = .ok (.aload_n 0, 1) := by decide +kernel
theorem dX2_judge_48 : decode cX2_judge 48 = .ok (.getfield 15, 3) := by decide +kernel
theorem dX2_judge_51 : decode cX2_judge 51 = .ok (.aload_n 0, 1) := by decide +kernel
theorem dX2_judge_52 : decode cX2_judge 52 = .ok (.getfield 18, 3) := by decide +kernel
theorem dX2_judge_55 : decode cX2_judge 55 = .ok (.iload 4, 2) := by decide +kernel
theorem dX2_judge_57 : decode cX2_judge 57 = .ok (.invokevirtual 91, 3) := by decide +kernel
theorem dX2_judge_60 : decode cX2_judge 60 = .ok (.iaload, 1) := by decide +kernel
theorem dX2_judge_61 : decode cX2_judge 61 = .ok (.iastore, 1) := by decide +kernel
theorem dX2_judge_62 : decode cX2_judge 62 = .ok (.goto 60, 3) := by decide +kernel
theorem dX2_judge_65 : decode cX2_judge 65 = .ok (.aload_n 0, 1) := by decide +kernel
theorem dX2_judge_66 : decode cX2_judge 66 = .ok (.getfield 18, 3) := by decide +kernel
theorem dX2_judge_69 : decode cX2_judge 69 = .ok (.iload 4, 2) := by decide +kernel
theorem dX2_judge_71 : decode cX2_judge 71 = .ok (.invokevirtual 85, 3) := by decide +kernel
theorem dX2_judge_74 : decode cX2_judge 74 = .ok (.iconst 4, 1) := by decide +kernel
theorem dX2_judge_75 : decode cX2_judge 75 = .ok (.if_icmp .ne 47, 3) := by decide +kernel
theorem dX2_judge_78 : decode cX2_judge 78 = .ok (.aload_n 0, 1) := by decide +kernel
theorem dX2_judge_79 : decode cX2_judge 79 = .ok (.iload_n 1, 1) := by decide +kernel
theorem dX2_judge_80 : decode cX2_judge 80 = .ok (.aload_n 0, 1) := by decide +kernel
theorem dX2_judge_81 : decode cX2_judge 81 = .ok (.getfield 18, 3) := by decide +kernel
theorem dX2_judge_84 : decode cX2_judge 84 = .ok (.iload 4, 2) := by decide +kernel
theorem dX2_judge_86 : decode cX2_judge 86 = .ok (.invokevirtual 101, 3) := by decide +kernel
theorem dX2_judge_89 : decode cX2_judge 89 = .ok (.invokevirtual 104, 3) := by decide +kernel
theorem dX2_judge_92 : decode cX2_judge 92 = .ok (.iload_n 2, 1) := by decide +kernel
theorem dX2_judge_93 : decode cX2_judge 93 = .ok (.iand, 1) := by decide +kernel
theorem dX2_judge_94 : decode cX2_judge 94 = .ok (.ifCond .eq 7, 3) := by decide +kernel
theorem dX2_judge_97 : decode cX2_judge 97 = .ok (.iconst 1, 1) := by decide +kernel
theorem dX2_judge_98 : decode cX2_judge 98 = .ok (.goto 4, 3) := by decide +kernel
theorem dX2_judge_101 : decode cX2_judge 101 = .ok (.iconst 0, 1) := by decide +kernel
theorem dX2_judge_102 : decode cX2_judge 102 = .ok (.istore 5, 2) := by decide +kernel
theorem dX2_judge_104 : decode cX2_judge 104 = .ok (.aload_n 0, 1) := by decide +kernel
theorem dX2_judge_105 : decode cX2_judge 105 = .ok (.getfield 9, 3) := by decide +kernel
theorem dX2_judge_108 : decode cX2_judge 108 = .ok (.iload 4, 2) := by decide +kernel
theorem dX2_judge_110 : decode cX2_judge 110 = .ok (.iload 5, 2) := by decide +kernel
theorem dX2_judge_112 : decode cX2_judge 112 = .ok (.ifCond .eq 8, 3) := by decide +kernel
theorem dX2_judge_115 : decode cX2_judge 115 = .ok (.bipush 6, 2) := by decide +kernel
theorem dX2_judge_117 : decode cX2_judge 117 = .ok (.goto 4, 3) := by decide +kernel
theorem dX2_judge_120 : decode cX2_judge 120 = .ok (.iconst 5, 1) := by decide +kernel
theorem dX2_judge_121 : decode cX2_judge 121 = .ok (.iastore, 1) := by decide +kernel
theorem dX2_judge_122 : decode cX2_judge 122 = .ok (.iinc 3 1, 3) := by decide +kernel
theorem dX2_judge_125 : decode cX2_judge 125 = .ok (.goto (-117), 3) := by decide +kernel
theorem dX2_judge_128 : decode cX2_judge 128 = .ok (.return_, 1) := by decide +kernel
theorem dX2_waysOut_0 : decode cX2_waysOut 0 = .ok (.iconst 0, 1) := by decide +kernel
theorem dX2_waysOut_1 : decode cX2_waysOut 1 = .ok (.istore_n 2, 1) := by decide +kernel
theorem dX2_waysOut_2 : decode cX2_waysOut 2 = .ok (.iconst 0, 1) := by decide +kernel
theorem dX2_waysOut_3 : decode cX2_waysOut 3 = .ok (.istore_n 3, 1) := by decide +kernel
theorem dX2_waysOut_4 : decode cX2_waysOut 4 = .ok (.iload_n 3, 1) := by decide +kernel
theorem dX2_waysOut_5 : decode cX2_waysOut 5 = .ok (.aload_n 0, 1) := by decide +kernel
theorem dX2_waysOut_6 : decode cX2_waysOut 6 = .ok (.getfield 18, 3) := by decide +kernel
theorem dX2_waysOut_9 : decode cX2_waysOut 9 = .ok (.iload_n 1, 1) := by decide +kernel
theorem dX2_waysOut_10 : decode cX2_waysOut 10 = .ok (.invokevirtual 82, 3) := by decide +kernel
theorem dX2_waysOut_13 : decode cX2_waysOut 13 = .ok (.if_icmp .ge 99, 3) := by decide +kernel
theorem dX2_waysOut_16 : decode cX2_waysOut 16 = .ok (.iload_n 1, 1) := by decide +kernel
theorem dX2_waysOut_17 : decode cX2_waysOut 17 = .ok (.iload_n 3, 1) := by decide +kernel
theorem dX2_waysOut_18 : decode cX2_waysOut 18 = .ok (.invokestatic 29, 3) := by decide +kernel
theorem dX2_waysOut_21 : decode cX2_waysOut 21 = .ok (.istore 4, 2) := by decide +kernel
theorem dX2_waysOut_23 : decode cX2_waysOut 23 = .ok (.aload_n 0, 1) := by decide +kernel
theorem dX2_waysOut_24 : decode cX2_waysOut 24 = .ok (.getfield 18, 3) := by decide +kernel
theorem dX2_waysOut_27 : decode cX2_waysOut 27 = .ok (.iload 4, 2) := by decide +kernel
theorem dX2_waysOut_29 : decode cX2_waysOut 29 = .ok (.invokevirtual 85, 3) := by decide +kernel
theorem dX2_waysOut_32 : decode cX2_waysOut 32 = .ok (.istore 5, 2) := by decide +kernel
theorem dX2_waysOut_34 : decode cX2_waysOut 34 = .ok (.iload 5, 2) := by decide +kernel
theorem dX2_waysOut_36 : decode cX2_waysOut 36 = .ok (.bipush 6, 2) := by decide +kernel
theorem dX2_waysOut_38 : decode cX2_waysOut 38 = .ok (.if_icmp .ne 20, 3) := by decide +kernel
theorem dX2_waysOut_41 : decode cX2_waysOut 41 = .ok (.iload_n 2, 1) := by decide +kernel
theorem dX2_waysOut_42 : decode cX2_waysOut 42 = .ok (.iconst 1, 1) := by decide +kernel
theorem dX2_waysOut_43 : decode cX2_waysOut 43 = .ok (.aload_n 0, 1) := by decide +kernel
theorem dX2_waysOut_44 : decode cX2_waysOut 44 = .ok (.getfield 18, 3) := by decide +kernel
theorem dX2_waysOut_47 : decode cX2_waysOut 47 = .ok (.iload 4, 2) := by decide +kernel
theorem dX2_waysOut_49 : decode cX2_waysOut 49 = .ok (.invokevirtual 88, 3) := by decide +kernel
theorem dX2_waysOut_52 : decode cX2_waysOut 52 = .ok (.ishl, 1) := by decide +kernel
theorem dX2_waysOut_53 : decode cX2_waysOut 53 = .ok (.ior, 1) := by decide +kernel
theorem dX2_waysOut_54 : decode cX2_waysOut 54 = .ok (.istore_n 2, 1) := by decide +kernel
theorem dX2_waysOut_55 : decode cX2_waysOut 55 = .ok (.goto 51, 3) := by decide +kernel
theorem dX2_waysOut_58 : decode cX2_waysOut 58 = .ok (.iload 5, 2) := by decide +kernel
theorem dX2_waysOut_60 : decode cX2_waysOut 60 = .ok (.bipush 7, 2) := by decide +kernel
theorem dX2_waysOut_62 : decode cX2_waysOut 62 = .ok (.if_icmp .ne 23, 3) := by decide +kernel
theorem dX2_waysOut_65 : decode cX2_waysOut 65 = .ok (.iload_n 2, 1) := by decide +kernel
theorem dX2_waysOut_66 : decode cX2_waysOut 66 = .ok (.iconst 1, 1) := by decide +kernel
theorem dX2_waysOut_67 : decode cX2_waysOut 67 = .ok (.aload_n 0, 1) := by decide +kernel
theorem dX2_waysOut_68 : decode cX2_waysOut 68 = .ok (.getfield 18, 3) := by decide +kernel
theorem dX2_waysOut_71 : decode cX2_waysOut 71 = .ok (.iload 4, 2) := by decide +kernel
theorem dX2_waysOut_73 : decode cX2_waysOut 73 = .ok (.invokevirtual 88, 3) := by decide +kernel
theorem dX2_waysOut_76 : decode cX2_waysOut 76 = .ok (.ishl, 1) := by decide +kernel
theorem dX2_waysOut_77 : decode cX2_waysOut 77 = .ok (.bipush 32, 2) := by decide +kernel
theorem dX2_waysOut_79 : decode cX2_waysOut 79 = .ok (.ior, 1) := by decide +kernel
theorem dX2_waysOut_80 : decode cX2_waysOut 80 = .ok (.ior, 1) := by decide +kernel
theorem dX2_waysOut_81 : decode cX2_waysOut 81 = .ok (.istore_n 2, 1) := by decide +kernel
theorem dX2_waysOut_82 : decode cX2_waysOut 82 = .ok (.goto 24, 3) := by decide +kernel
theorem dX2_waysOut_85 : decode cX2_waysOut 85 = .ok (.iload 5, 2) := by decide +kernel
theorem dX2_waysOut_87 : decode cX2_waysOut 87 = .ok (.bipush 11, 2) := by decide +kernel
theorem dX2_waysOut_89 : decode cX2_waysOut 89 = .ok (.if_icmp .ne 17, 3) := by decide +kernel
theorem dX2_waysOut_92 : decode cX2_waysOut 92 = .ok (.iload_n 2, 1) := by decide +kernel
theorem dX2_waysOut_93 : decode cX2_waysOut 93 = .ok (.iconst 1, 1) := by decide +kernel
theorem dX2_waysOut_94 : decode cX2_waysOut 94 = .ok (.aload_n 0, 1) := by decide +kernel
theorem dX2_waysOut_95 : decode cX2_waysOut 95 = .ok (.getfield 18, 3) := by decide +kernel
theorem dX2_waysOut_98 : decode cX2_waysOut 98 = .ok (.iload 4, 2) := by decide +kernel
theorem dX2_waysOut_100 : decode cX2_waysOut 100 = .ok (.invokevirtual 101, 3) := by decide +kernel
theorem dX2_waysOut_103 : decode cX2_waysOut 103 = .ok (.ishl, 1) := by decide +kernel
theorem dX2_waysOut_104 : decode cX2_waysOut 104 = .ok (.ior, 1) := by decide +kernel
theorem dX2_waysOut_105 : decode cX2_waysOut 105 = .ok (.istore_n 2, 1) := by decide +kernel
theorem dX2_waysOut_106 : decode cX2_waysOut 106 = .ok (.iinc 3 1, 3) := by decide +kernel
theorem dX2_waysOut_109 : decode cX2_waysOut 109 = .ok (.goto (-105), 3) := by decide +kernel
theorem dX2_waysOut_112 : decode cX2_waysOut 112 = .ok (.iload_n 2, 1) := by decide +kernel
theorem dX2_waysOut_113 : decode cX2_waysOut 113 = .ok (.ireturn, 1) := by decide +kernel
theorem dX2_holders_0 : decode cX2_holders 0 = .ok (.iconst 1, 1) := by decide +kernel
theorem dX2_holders_1 : decode cX2_holders 1 = .ok (.iload_n 2, 1) := by decide +kernel
theorem dX2_holders_2 : decode cX2_holders 2 = .ok (.ishl, 1) := by decide +kernel
theorem dX2_holders_3 : decode cX2_holders 3 = .ok (.istore_n 3, 1) := by decide +kernel
theorem dX2_holders_4 : decode cX2_holders 4 = .ok (.iconst 1, 1) := by decide +kernel
theorem dX2_holders_5 : decode cX2_holders 5 = .ok (.istore 4, 2) := by decide +kernel
theorem dX2_holders_7 : decode cX2_holders 7 = .ok (.iload 4, 2) := by decide +kernel
theorem dX2_holders_9 : decode cX2_holders 9 = .ok (.bipush 6, 2) := by decide +kernel
theorem dX2_holders_11 : decode cX2_holders 11 = .ok (.if_icmp .ge 82, 3) := by decide +kernel
theorem dX2_holders_14 : decode cX2_holders 14 = .ok (.iconst 0, 1) := by decide +kernel
theorem dX2_holders_15 : decode cX2_holders 15 = .ok (.istore 5, 2) := by decide +kernel
theorem dX2_holders_17 : decode cX2_holders 17 = .ok (.iload 5, 2) := by decide +kernel
theorem dX2_holders_19 : decode cX2_holders 19 = .ok (.aload_n 0, 1) := by decide +kernel
theorem dX2_holders_20 : decode cX2_holders 20 = .ok (.getfield 18, 3) := by decide +kernel
theorem dX2_holders_23 : decode cX2_holders 23 = .ok (.iload_n 1, 1) := by decide +kernel
theorem dX2_holders_24 : decode cX2_holders 24 = .ok (.invokevirtual 82, 3) := by decide +kernel
theorem dX2_holders_27 : decode cX2_holders 27 = .ok (.if_icmp .ge 60, 3) := by decide +kernel
theorem dX2_holders_30 : decode cX2_holders 30 = .ok (.iload_n 1, 1) := by decide +kernel
theorem dX2_holders_31 : decode cX2_holders 31 = .ok (.iload 5, 2) := by decide +kernel
theorem dX2_holders_33 : decode cX2_holders 33 = .ok (.invokestatic 29, 3) := by decide +kernel
