theorem dX0_countCall_6 : decode cX0_countCall 6 = .ok (.iconst 3, 1) := by decide +kernel
theorem dX0_countCall_7 : decode cX0_countCall 7 = .ok (.if_icmp .eq 13, 3) := by decide +kernel
theorem dX0_countCall_10 : decode cX0_countCall 10 = .ok (.aload_n 0, 1) := by decide +kernel
theorem dX0_countCall_11 : decode cX0_countCall 11 = .ok (.getfield 34, 3) := by decide +kernel
theorem dX0_countCall_14 : decode cX0_countCall 14 = .ok (.iconst 2, 1) := by decide +kernel
theorem dX0_countCall_15 : decode cX0_countCall 15 = .ok (.dup2, 1) := by decide +kernel
theorem dX0_countCall_16 : decode cX0_countCall 16 = .ok (.iaload, 1) := by decide +kernel
theorem dX0_countCall_17 : decode cX0_countCall 17 = .ok (.iconst 1, 1) := by decide +kernel
theorem dX0_countCall_18 : decode cX0_countCall 18 = .ok (.iadd, 1) := by decide +kernel
theorem dX0_countCall_19 : decode cX0_countCall 19 = .ok (.iastore, 1) := by decide +kernel
theorem dX0_countCall_20 : decode cX0_countCall 20 = .ok (.iload_n 1, 1) := by decide +kernel
theorem dX0_countCall_21 : decode cX0_countCall 21 = .ok (.iconst 3, 1) := by decide +kernel
theorem dX0_countCall_22 : decode cX0_countCall 22 = .ok (.if_icmp .eq 13, 3) := by decide +kernel
theorem dX0_countCall_25 : decode cX0_countCall 25 = .ok (.aload_n 0, 1) := by decide +kernel
theorem dX0_countCall_26 : decode cX0_countCall 26 = .ok (.getfield 34, 3) := by decide +kernel
theorem dX0_countCall_29 : decode cX0_countCall 29 = .ok (.iconst 3, 1) := by decide +kernel
theorem dX0_countCall_30 : decode cX0_countCall 30 = .ok (.dup2, 1) := by decide +kernel
theorem dX0_countCall_31 : decode cX0_countCall 31 = .ok (.iaload, 1) := by decide +kernel
theorem dX0_countCall_32 : decode cX0_countCall 32 = .ok (.iconst 1, 1) := by decide +kernel
theorem dX0_countCall_33 : decode cX0_countCall 33 = .ok (.iadd, 1) := by decide +kernel
theorem dX0_countCall_34 : decode cX0_countCall 34 = .ok (.iastore, 1) := by decide +kernel
theorem dX0_countCall_35 : decode cX0_countCall 35 = .ok (.return_, 1) := by decide +kernel
theorem dX0_enter_0 : decode cX0_enter 0 = .ok (.aload_n 0, 1) := by decide +kernel
theorem dX0_enter_1 : decode cX0_enter 1 = .ok (.getfield 53, 3) := by decide +kernel
theorem dX0_enter_4 : decode cX0_enter 4 = .ok (.bipush 6, 2) := by decide +kernel
theorem dX0_enter_6 : decode cX0_enter 6 = .ok (.imul, 1) := by decide +kernel
theorem dX0_enter_7 : decode cX0_enter 7 = .ok (.istore 6, 2) := by decide +kernel
theorem dX0_enter_9 : decode cX0_enter 9 = .ok (.aload_n 0, 1) := by decide +kernel
theorem dX0_enter_10 : decode cX0_enter 10 = .ok (.getfield 9, 3) := by decide +kernel
theorem dX0_enter_13 : decode cX0_enter 13 = .ok (.iload 6, 2) := by decide +kernel
theorem dX0_enter_15 : decode cX0_enter 15 = .ok (.iload 6, 2) := by decide +kernel
theorem dX0_enter_17 : decode cX0_enter 17 = .ok (.bipush 6, 2) := by decide +kernel
theorem dX0_enter_19 : decode cX0_enter 19 = .ok (.iadd, 1) := by decide +kernel
theorem dX0_enter_20 : decode cX0_enter 20 = .ok (.lconst 0, 1) := by decide +kernel
theorem dX0_enter_21 : decode cX0_enter 21 = .ok (.invokestatic 159, 3) := by decide +kernel
theorem dX0_enter_24 : decode cX0_enter 24 = .ok (.aload_n 0, 1) := by decide +kernel
theorem dX0_enter_25 : decode cX0_enter 25 = .ok (.getfield 9, 3) := by decide +kernel
theorem dX0_enter_28 : decode cX0_enter 28 = .ok (.iload 6, 2) := by decide +kernel
theorem dX0_enter_30 : decode cX0_enter 30 = .ok (.lload_n 2, 1) := by decide +kernel
theorem dX0_enter_31 : decode cX0_enter 31 = .ok (.lastore, 1) := by decide +kernel
theorem dX0_enter_32 : decode cX0_enter 32 = .ok (.aload_n 0, 1) := by decide +kernel
theorem dX0_enter_33 : decode cX0_enter 33 = .ok (.getfield 9, 3) := by decide +kernel
theorem dX0_enter_36 : decode cX0_enter 36 = .ok (.iload 6, 2) := by decide +kernel
theorem dX0_enter_38 : decode cX0_enter 38 = .ok (.iconst 1, 1) := by decide +kernel
theorem dX0_enter_39 : decode cX0_enter 39 = .ok (.iadd, 1) := by decide +kernel
theorem dX0_enter_40 : decode cX0_enter 40 = .ok (.lload 4, 2) := by decide +kernel
theorem dX0_enter_42 : decode cX0_enter 42 = .ok (.lastore, 1) := by decide +kernel
theorem dX0_enter_43 : decode cX0_enter 43 = .ok (.aload_n 0, 1) := by decide +kernel
theorem dX0_enter_44 : decode cX0_enter 44 = .ok (.getfield 15, 3) := by decide +kernel
theorem dX0_enter_47 : decode cX0_enter 47 = .ok (.aload_n 0, 1) := by decide +kernel
theorem dX0_enter_48 : decode cX0_enter 48 = .ok (.getfield 53, 3) := by decide +kernel
theorem dX0_enter_51 : decode cX0_enter 51 = .ok (.iload_n 1, 1) := by decide +kernel
theorem dX0_enter_52 : decode cX0_enter 52 = .ok (.iastore, 1) := by decide +kernel
theorem dX0_enter_53 : decode cX0_enter 53 = .ok (.aload_n 0, 1) := by decide +kernel
theorem dX0_enter_54 : decode cX0_enter 54 = .ok (.getfield 19, 3) := by decide +kernel
theorem dX0_enter_57 : decode cX0_enter 57 = .ok (.aload_n 0, 1) := by decide +kernel
theorem dX0_enter_58 : decode cX0_enter 58 = .ok (.getfield 53, 3) := by decide +kernel
theorem dX0_enter_61 : decode cX0_enter 61 = .ok (.iconst 0, 1) := by decide +kernel
theorem dX0_enter_62 : decode cX0_enter 62 = .ok (.iastore, 1) := by decide +kernel
theorem dX0_enter_63 : decode cX0_enter 63 = .ok (.aload_n 0, 1) := by decide +kernel
theorem dX0_enter_64 : decode cX0_enter 64 = .ok (.dup, 1) := by decide +kernel
theorem dX0_enter_65 : decode cX0_enter 65 = .ok (.getfield 53, 3) := by decide +kernel
theorem dX0_enter_68 : decode cX0_enter 68 = .ok (.iconst 1, 1) := by decide +kernel
theorem dX0_enter_69 : decode cX0_enter 69 = .ok (.iadd, 1) := by decide +kernel
theorem dX0_enter_70 : decode cX0_enter 70 = .ok (.putfield 53, 3) := by decide +kernel
theorem dX0_enter_73 : decode cX0_enter 73 = .ok (.aload_n 0, 1) := by decide +kernel
theorem dX0_enter_74 : decode cX0_enter 74 = .ok (.getfield 34, 3) := by decide +kernel
theorem dX0_enter_77 : decode cX0_enter 77 = .ok (.iconst 5, 1) := by decide +kernel
theorem dX0_enter_78 : decode cX0_enter 78 = .ok (.aload_n 0, 1) := by decide +kernel
theorem dX0_enter_79 : decode cX0_enter 79 = .ok (.getfield 34, 3) := by decide +kernel
theorem dX0_enter_82 : decode cX0_enter 82 = .ok (.iconst 5, 1) := by decide +kernel
theorem dX0_enter_83 : decode cX0_enter 83 = .ok (.iaload, 1) := by decide +kernel
theorem dX0_enter_84 : decode cX0_enter 84 = .ok (.aload_n 0, 1) := by decide +kernel
theorem dX0_enter_85 : decode cX0_enter 85 = .ok (.getfield 53, 3) := by decide +kernel
theorem dX0_enter_88 : decode cX0_enter 88 = .ok (.invokestatic 170, 3) := by decide +kernel
theorem dX0_enter_91 : decode cX0_enter 91 = .ok (.iastore, 1) := by decide +kernel
theorem dX0_enter_92 : decode cX0_enter 92 = .ok (.return_, 1) := by decide +kernel
theorem dX0_answer_0 : decode cX0_answer 0 = .ok (.aload_n 0, 1) := by decide +kernel
theorem dX0_answer_1 : decode cX0_answer 1 = .ok (.dup, 1) := by decide +kernel
theorem dX0_answer_2 : decode cX0_answer 2 = .ok (.getfield 53, 3) := by decide +kernel
theorem dX0_answer_5 : decode cX0_answer 5 = .ok (.iconst 1, 1) := by decide +kernel
theorem dX0_answer_6 : decode cX0_answer 6 = .ok (.isub, 1) := by decide +kernel
theorem dX0_answer_7 : decode cX0_answer 7 = .ok (.putfield 53, 3) := by decide +kernel
theorem dX0_answer_10 : decode cX0_answer 10 = .ok (.aload_n 0, 1) := by decide +kernel
theorem dX0_answer_11 : decode cX0_answer 11 = .ok (.getfield 53, 3) := by decide +kernel
theorem dX0_answer_14 : decode cX0_answer 14 = .ok (.ifCond .le 18, 3) := by decide +kernel
theorem dX0_answer_17 : decode cX0_answer 17 = .ok (.aload_n 0, 1) := by decide +kernel
theorem dX0_answer_18 : decode cX0_answer 18 = .ok (.getfield 9, 3) := by decide +kernel
theorem dX0_answer_21 : decode cX0_answer 21 = .ok (.aload_n 0, 1) := by decide +kernel
theorem dX0_answer_22 : decode cX0_answer 22 = .ok (.getfield 22, 3) := by decide +kernel
theorem dX0_answer_25 : decode cX0_answer 25 = .ok (.aload_n 0, 1) := by decide +kernel
theorem dX0_answer_26 : decode cX0_answer 26 = .ok (.getfield 53, 3) := by decide +kernel
theorem dX0_answer_29 : decode cX0_answer 29 = .ok (.iaload, 1) := by decide +kernel
theorem dX0_answer_30 : decode cX0_answer 30 = .ok (.lload_n 1, 1) := by decide +kernel
theorem dX0_answer_31 : decode cX0_answer 31 = .ok (.lastore, 1) := by decide +kernel
theorem dX0_answer_32 : decode cX0_answer 32 = .ok (.return_, 1) := by decide +kernel
theorem dX0_print_0 : decode cX0_print 0 = .ok (.aload_n 0, 1) := by decide +kernel
theorem dX0_print_1 : decode cX0_print 1 = .ok (.getfield 34, 3) := by decide +kernel
theorem dX0_print_4 : decode cX0_print 4 = .ok (.iconst 0, 1) := by decide +kernel
theorem dX0_print_5 : decode cX0_print 5 = .ok (.iaload, 1) := by decide +kernel
theorem dX0_print_6 : decode cX0_print 6 = .ok (.istore_n 3, 1) := by decide +kernel
theorem dX0_print_7 : decode cX0_print 7 = .ok (.iload_n 3, 1) := by decide +kernel
theorem dX0_print_8 : decode cX0_print 8 = .ok (.bipush 40, 2) := by decide +kernel
theorem dX0_print_10 : decode cX0_print 10 = .ok (.if_icmp .lt 10, 3) := by decide +kernel
theorem dX0_print_13 : decode cX0_print 13 = .ok (.aload_n 0, 1) := by decide +kernel
theorem dX0_print_14 : decode cX0_print 14 = .ok (.bipush 7, 2) := by decide +kernel
theorem dX0_print_16 : decode cX0_print 16 = .ok (.putfield 59, 3) := by decide +kernel
theorem dX0_print_19 : decode cX0_print 19 = .ok (.return_, 1) := by decide +kernel
theorem dX0_print_20 : decode cX0_print 20 = .ok (.aload_n 0, 1) := by decide +kernel
theorem dX0_print_21 : decode cX0_print 21 = .ok (.getfield 31, 3) := by decide +kernel
theorem dX0_print_24 : decode cX0_print 24 = .ok (.iload_n 3, 1) := by decide +kernel
theorem dX0_print_25 : decode cX0_print 25 = .ok (.lload_n 1, 1) := by decide +kernel
theorem dX0_print_26 : decode cX0_print 26 = .ok (.invokestatic 150, 3) := by decide +kernel
theorem dX0_print_29 : decode cX0_print 29 = .ok (.ifCond .eq 19, 3) := by decide +kernel
theorem dX0_print_32 : decode cX0_print 32 = .ok (.sipush 1000, 3) := by decide +kernel
theorem dX0_print_35 : decode cX0_print 35 = .ok (.aload_n 0, 1) := by decide +kernel
theorem dX0_print_36 : decode cX0_print 36 = .ok (.getfield 25, 3) := by decide +kernel
theorem dX0_print_39 : decode cX0_print 39 = .ok (.lload_n 1, 1) := by decide +kernel
theorem dX0_print_40 : decode cX0_print 40 = .ok (.invokestatic 162, 3) := by decide +kernel
theorem dX0_print_43 : decode cX0_print 43 = .ok (.iaload, 1) := by decide +kernel
theorem dX0_print_44 : decode cX0_print 44 = .ok (.iadd, 1) := by decide +kernel
theorem dX0_print_45 : decode cX0_print 45 = .ok (.goto 5, 3) := by decide +kernel
theorem dX0_print_48 : decode cX0_print 48 = .ok (.lload_n 1, 1) := by decide +kernel
theorem dX0_print_49 : decode cX0_print 49 = .ok (.l2i, 1) := by decide +kernel
theorem dX0_print_50 : decode cX0_print 50 = .ok (.iastore, 1) := by decide +kernel
theorem dX0_print_51 : decode cX0_print 51 = .ok (.aload_n 0, 1) := by decide +kernel
theorem dX0_print_52 : decode cX0_print 52 = .ok (.getfield 34, 3) := by decide +kernel
theorem dX0_print_55 : decode cX0_print 55 = .ok (.iconst 0, 1) := by decide +kernel
theorem dX0_print_56 : decode cX0_print 56 = .ok (.iload_n 3, 1) := by decide +kernel
theorem dX0_print_57 : decode cX0_print 57 = .ok (.iconst 1, 1) := by decide +kernel
theorem dX0_print_58 : decode cX0_print 58 = .ok (.iadd, 1) := by decide +kernel
theorem dX0_print_59 : decode cX0_print 59 = .ok (.iastore, 1) := by decide +kernel
theorem dX0_print_60 : decode cX0_print 60 = .ok (.return_, 1) := by decide +kernel
theorem dX0_checkClass_0 : decode cX0_checkClass 0 = .ok (.lload_n 1, 1) := by decide +kernel
theorem dX0_checkClass_1 : decode cX0_checkClass 1 = .ok (.invokestatic 150, 3) := by decide +kernel
theorem dX0_checkClass_4 : decode cX0_checkClass 4 = .ok (.ifCond .ne 11, 3) := by decide +kernel
theorem dX0_checkClass_7 : decode cX0_checkClass 7 = .ok (.aload_n 0, 1) := by decide +kernel
theorem dX0_checkClass_8 : decode cX0_checkClass 8 = .ok (.iconst 1, 1) := by decide +kernel
theorem dX0_checkClass_9 : decode cX0_checkClass 9 = .ok (.putfield 59, 3) := by decide +kernel
theorem dX0_checkClass_12 : decode cX0_checkClass 12 = .ok (.goto 28, 3) := by decide +kernel
theorem dX0_checkClass_15 : decode cX0_checkClass 15 = .ok (.aload_n 0, 1) := by decide +kernel
theorem dX0_checkClass_16 : decode cX0_checkClass 16 = .ok (.getfield 37, 3) := by decide +kernel
theorem dX0_checkClass_19 : decode cX0_checkClass 19 = .ok (.aload_n 0, 1) := by decide +kernel
theorem dX0_checkClass_20 : decode cX0_checkClass 20 = .ok (.getfield 25, 3) := by decide +kernel
theorem dX0_checkClass_23 : decode cX0_checkClass 23 = .ok (.lload_n 1, 1) := by decide +kernel
theorem dX0_checkClass_24 : decode cX0_checkClass 24 = .ok (.invokestatic 162, 3) := by decide +kernel
theorem dX0_checkClass_27 : decode cX0_checkClass 27 = .ok (.iaload, 1) := by decide +kernel
theorem dX0_checkClass_28 : decode cX0_checkClass 28 = .ok (.iload_n 3, 1) := by decide +kernel
theorem dX0_checkClass_29 : decode cX0_checkClass 29 = .ok (.invokevirtual 175, 3) := by decide +kernel
theorem dX0_checkClass_32 : decode cX0_checkClass 32 = .ok (.ifCond .ne 8, 3) := by decide +kernel
theorem dX0_checkClass_35 : decode cX0_checkClass 35 = .ok (.aload_n 0, 1) := by decide +kernel
theorem dX0_checkClass_36 : decode cX0_checkClass 36 = .ok (.iconst 2, 1) := by decide +kernel
theorem dX0_checkClass_37 : decode cX0_checkClass 37 = .ok (.putfield 59, 3) := by decide +kernel
theorem dX0_checkClass_40 : decode cX0_checkClass 40 = .ok (.return_, 1) := by decide +kernel
theorem dX4_init_0 : decode cX4_init 0 = .ok (.aload_n 0, 1) := by decide +kernel
theorem dX4_init_1 : decode cX4_init 1 = .ok (.invokespecial 1, 3) := by decide +kernel
theorem dX4_init_4 : decode cX4_init 4 = .ok (.aload_n 0, 1) := by decide +kernel
theorem dX4_init_5 : decode cX4_init 5 = .ok (.iconst 1, 1) := by decide +kernel
theorem dX4_init_6 : decode cX4_init 6 = .ok (.putfield 7, 3) := by decide +kernel
theorem dX4_init_9 : decode cX4_init 9 = .ok (.aload_n 0, 1) := by decide +kernel
theorem dX4_init_10 : decode cX4_init 10 = .ok (.bipush 6, 2) := by decide +kernel
theorem dX4_init_12 : decode cX4_init 12 = .ok (.newarray .int, 2) := by decide +kernel
theorem dX4_init_14 : decode cX4_init 14 = .ok (.dup, 1) := by decide +kernel
theorem dX4_init_15 : decode cX4_init 15 = .ok (.iconst 0, 1) := by decide +kernel
theorem dX4_init_16 : decode cX4_init 16 = .ok (.iconst (-1), 1) := by decide +kernel
theorem dX4_init_17 : decode cX4_init 17 = .ok (.iastore, 1) := by decide +kernel
theorem dX4_init_18 : decode cX4_init 18 = .ok (.dup, 1) := by decide +kernel
theorem dX4_init_19 : decode cX4_init 19 = .ok (.iconst 1, 1) := by decide +kernel
theorem dX4_init_20 : decode cX4_init 20 = .ok (.iconst 0, 1) := by decide +kernel
theorem dX4_init_21 : decode cX4_init 21 = .ok (.iastore, 1) := by decide +kernel
theorem dX4_init_22 : decode cX4_init 22 = .ok (.dup, 1) := by decide +kernel
theorem dX4_init_23 : decode cX4_init 23 = .ok (.iconst 2, 1) := by decide +kernel
theorem dX4_init_24 : decode cX4_init 24 = .ok (.iconst 0, 1) := by decide +kernel
theorem dX4_init_25 : decode cX4_init 25 = .ok (.iastore, 1) := by decide +kernel
theorem dX4_init_26 : decode cX4_init 26 = .ok (.dup, 1) := by decide +kernel
theorem dX4_init_27 : decode cX4_init 27 = .ok (.iconst 3, 1) := by decide +kernel
theorem dX4_init_28 : decode cX4_init 28 = .ok (.iconst 0, 1) := by decide +kernel
theorem dX4_init_29 : decode cX4_init 29 = .ok (.iastore, 1) := by decide +kernel
theorem dX4_init_30 : decode cX4_init 30 = .ok (.dup, 1) := by decide +kernel
theorem dX4_init_31 : decode cX4_init 31 = .ok (.iconst 4, 1) := by decide +kernel
theorem dX4_init_32 : decode cX4_init 32 = .ok (.iconst 0, 1) := by decide +kernel
theorem dX4_init_33 : decode cX4_init 33 = .ok (.iastore, 1) := by decide +kernel
theorem dX4_init_34 : decode cX4_init 34 = .ok (.dup, 1) := by decide +kernel
theorem dX4_init_35 : decode cX4_init 35 = .ok (.iconst 5, 1) := by decide +kernel
theorem dX4_init_36 : decode cX4_init 36 = .ok (.iconst 0, 1) := by decide +kernel
theorem dX4_init_37 : decode cX4_init 37 = .ok (.iastore, 1) := by decide +kernel
theorem dX4_init_38 : decode cX4_init 38 = .ok (.putfield 13, 3) := by decide +kernel
theorem dX4_init_41 : decode cX4_init 41 = .ok (.aload_n 0, 1) := by decide +kernel
theorem dX4_init_42 : decode cX4_init 42 = .ok (.bipush 24, 2) := by decide +kernel
theorem dX4_init_44 : decode cX4_init 44 = .ok (.newarray .int, 2) := by decide +kernel
theorem dX4_init_46 : decode cX4_init 46 = .ok (.putfield 17, 3) := by decide +kernel
theorem dX4_init_49 : decode cX4_init 49 = .ok (.aload_n 0, 1) := by decide +kernel
theorem dX4_init_50 : decode cX4_init 50 = .ok (.sipush 960, 3) := by decide +kernel
theorem dX4_init_53 : decode cX4_init 53 = .ok (.newarray .int, 2) := by decide +kernel
theorem dX4_init_55 : decode cX4_init 55 = .ok (.putfield 20, 3) := by decide +kernel
theorem dX4_init_58 : decode cX4_init 58 = .ok (.aload_n 0, 1) := by decide +kernel
theorem dX4_init_59 : decode cX4_init 59 = .ok (.bipush 6, 2) := by decide +kernel
theorem dX4_init_61 : decode cX4_init 61 = .ok (.newarray .boolean, 2) := by decide +kernel
theorem dX4_init_63 : decode cX4_init 63 = .ok (.putfield 23, 3) := by decide +kernel
theorem dX4_init_66 : decode cX4_init 66 = .ok (.aload_n 0, 1) := by decide +kernel
theorem dX4_init_67 : decode cX4_init 67 = .ok (.bipush 24, 2) := by decide +kernel
theorem dX4_init_69 : decode cX4_init 69 = .ok (.newarray .boolean, 2) := by decide +kernel
theorem dX4_init_71 : decode cX4_init 71 = .ok (.putfield 27, 3) := by decide +kernel
theorem dX4_init_74 : decode cX4_init 74 = .ok (.aload_n 0, 1) := by decide +kernel
theorem dX4_init_75 : decode cX4_init 75 = .ok (.bipush 24, 2) := by decide +kernel
theorem dX4_init_77 : decode cX4_init 77 = .ok (.newarray .boolean, 2) := by decide +kernel
theorem dX4_init_79 : decode cX4_init 79 = .ok (.putfield 30, 3) := by decide +kernel
theorem dX4_init_82 : decode cX4_init 82 = .ok (.aload_n 0, 1) := by decide +kernel
theorem dX4_init_83 : decode cX4_init 83 = .ok (.sipush 240, 3) := by decide +kernel
theorem dX4_init_86 : decode cX4_init 86 = .ok (.newarray .int, 2) := by decide +kernel
theorem dX4_init_88 : decode cX4_init 88 = .ok (.putfield 33, 3) := by decide +kernel
theorem dX4_init_91 : decode cX4_init 91 = .ok (.aload_n 0, 1) := by decide +kernel
theorem dX4_init_92 : decode cX4_init 92 = .ok (.bipush 6, 2) := by decide +kernel
theorem dX4_init_94 : decode cX4_init 94 = .ok (.newarray .boolean, 2) := by decide +kernel
theorem dX4_init_96 : decode cX4_init 96 = .ok (.putfield 36, 3) := by decide +kernel
theorem dX4_init_99 : decode cX4_init 99 = .ok (.aload_n 0, 1) := by decide +kernel
theorem dX4_init_100 : decode cX4_init 100 = .ok (.sipush 420, 3) := by decide +kernel
theorem dX4_init_103 : decode cX4_init 103 = .ok (.newarray .int, 2) := by decide +kernel
theorem dX4_init_105 : decode cX4_init 105 = .ok (.putfield 39, 3) := by decide +kernel
theorem dX4_init_108 : decode cX4_init 108 = .ok (.aload_n 0, 1) := by decide +kernel
theorem dX4_init_109 : decode cX4_init 109 = .ok (.sipush 1260, 3) := by decide +kernel
theorem dX4_init_112 : decode cX4_init 112 = .ok (.newarray .boolean, 2) := by decide +kernel
theorem dX4_init_114 : decode cX4_init 114 = .ok (.putfield 42, 3) := by decide +kernel
theorem dX4_init_117 : decode cX4_init 117 = .ok (.aload_n 0, 1) := by decide +kernel
theorem dX4_init_118 : decode cX4_init 118 = .ok (.sipush 1260, 3) := by decide +kernel
theorem dX4_init_121 : decode cX4_init 121 = .ok (.newarray .int, 2) := by decide +kernel
theorem dX4_init_123 : decode cX4_init 123 = .ok (.putfield 45, 3) := by decide +kernel
theorem dX4_init_126 : decode cX4_init 126 = .ok (.aload_n 0, 1) := by decide +kernel
theorem dX4_init_127 : decode cX4_init 127 = .ok (.bipush 13, 2) := by decide +kernel
theorem dX4_init_129 : decode cX4_init 129 = .ok (.newarray .int, 2) := by decide +kernel
theorem dX4_init_131 : decode cX4_init 131 = .ok (.putfield 48, 3) := by decide +kernel
theorem dX4_init_134 : decode cX4_init 134 = .ok (.aload_n 0, 1) := by decide +kernel
theorem dX4_init_135 : decode cX4_init 135 = .ok (.bipush 13, 2) := by decide +kernel
theorem dX4_init_137 : decode cX4_init 137 = .ok (.newarray .int, 2) := by decide +kernel
theorem dX4_init_139 : decode cX4_init 139 = .ok (.putfield 51, 3) := by decide +kernel
theorem dX4_init_142 : decode cX4_init 142 = .ok (.aload_n 0, 1) := by decide +kernel
theorem dX4_init_143 : decode cX4_init 143 = .ok (.bipush 13, 2) := by decide +kernel
theorem dX4_init_145 : decode cX4_init 145 = .ok (.newarray .int, 2) := by decide +kernel
theorem dX4_init_147 : decode cX4_init 147 = .ok (.putfield 54, 3) := by decide +kernel
theorem dX4_init_150 : decode cX4_init 150 = .ok (.aload_n 0, 1) := by decide +kernel
theorem dX4_init_151 : decode cX4_init 151 = .ok (.bipush 78, 2) := by decide +kernel
theorem dX4_init_153 : decode cX4_init 153 = .ok (.newarray .boolean, 2) := by decide +kernel
theorem dX4_init_155 : decode cX4_init 155 = .ok (.putfield 57, 3) := by decide +kernel
theorem dX4_init_158 : decode cX4_init 158 = .ok (.aload_n 0, 1) := by decide +kernel
theorem dX4_init_159 : decode cX4_init 159 = .ok (.bipush 78, 2) := by decide +kernel
theorem dX4_init_161 : decode cX4_init 161 = .ok (.newarray .int, 2) := by decide +kernel
theorem dX4_init_163 : decode cX4_init 163 = .ok (.putfield 60, 3) := by decide +kernel
theorem dX4_init_166 : decode cX4_init 166 = .ok (.aload_n 0, 1) := by decide +kernel
theorem dX4_init_167 : decode cX4_init 167 = .ok (.bipush 40, 2) := by decide +kernel
theorem dX4_init_169 : decode cX4_init 169 = .ok (.newarray .int, 2) := by decide +kernel
theorem dX4_init_171 : decode cX4_init 171 = .ok (.putfield 63, 3) := by decide +kernel
theorem dX4_init_174 : decode cX4_init 174 = .ok (.aload_n 0, 1) := by decide +kernel
theorem dX4_init_175 : decode cX4_init 175 = .ok (.bipush 6, 2) := by decide +kernel
theorem dX4_init_177 : decode cX4_init 177 = .ok (.newarray .int, 2) := by decide +kernel
theorem dX4_init_179 : decode cX4_init 179 = .ok (.putfield 66, 3) := by decide +kernel
theorem dX4_init_182 : decode cX4_init 182 = .ok (.return_, 1) := by decide +kernel
theorem dX4_thrown_0 : decode cX4_thrown 0 = .ok (.aload_n 0, 1) := by decide +kernel
theorem dX4_thrown_1 : decode cX4_thrown 1 = .ok (.getfield 69, 3) := by decide +kernel
theorem dX4_thrown_4 : decode cX4_thrown 4 = .ok (.ireturn, 1) := by decide +kernel
theorem dX4_fails_0 : decode cX4_fails 0 = .ok (.aload_n 0, 1) := by decide +kernel
theorem dX4_fails_1 : decode cX4_fails 1 = .ok (.iload_n 1, 1) := by decide +kernel
theorem dX4_fails_2 : decode cX4_fails 2 = .ok (.ifCond .eq 7, 3) := by decide +kernel
theorem dX4_fails_5 : decode cX4_fails 5 = .ok (.iconst 1, 1) := by decide +kernel
theorem dX4_fails_6 : decode cX4_fails 6 = .ok (.goto 12, 3) := by decide +kernel
theorem dX4_fails_9 : decode cX4_fails 9 = .ok (.iload_n 2, 1) := by decide +kernel
theorem dX4_fails_10 : decode cX4_fails 10 = .ok (.ifCond .eq 7, 3) := by decide +kernel
theorem dX4_fails_13 : decode cX4_fails 13 = .ok (.iconst 2, 1) := by decide +kernel
theorem dX4_fails_14 : decode cX4_fails 14 = .ok (.goto 4, 3) := by decide +kernel
theorem dX4_fails_17 : decode cX4_fails 17 = .ok (.iconst 0, 1) := by decide +kernel
theorem dX4_fails_18 : decode cX4_fails 18 = .ok (.putfield 69, 3) := by decide +kernel
theorem dX4_fails_21 : decode cX4_fails 21 = .ok (.aload_n 0, 1) := by decide +kernel
theorem dX4_fails_22 : decode cX4_fails 22 = .ok (.getfield 69, 3) := by decide +kernel
theorem dX4_fails_25 : decode cX4_fails 25 = .ok (.ifCond .le 7, 3) := by decide +kernel
theorem dX4_fails_28 : decode cX4_fails 28 = .ok (.iconst 1, 1) := by decide +kernel
theorem dX4_fails_29 : decode cX4_fails 29 = .ok (.goto 4, 3) := by decide +kernel
theorem dX4_fails_32 : decode cX4_fails 32 = .ok (.iconst 0, 1) := by decide +kernel
theorem dX4_fails_33 : decode cX4_fails 33 = .ok (.ireturn, 1) := by decide +kernel
theorem dX4_outside_0 : decode cX4_outside 0 = .ok (.iload_n 0, 1) := by decide +kernel
theorem dX4_outside_1 : decode cX4_outside 1 = .ok (.iload_n 1, 1) := by decide +kernel
theorem dX4_outside_2 : decode cX4_outside 2 = .ok (.if_icmp .lt 8, 3) := by decide +kernel
theorem dX4_outside_5 : decode cX4_outside 5 = .ok (.iload_n 0, 1) := by decide +kernel
theorem dX4_outside_6 : decode cX4_outside 6 = .ok (.iload_n 2, 1) := by decide +kernel
theorem dX4_outside_7 : decode cX4_outside 7 = .ok (.if_icmp .le 7, 3) := by decide +kernel
theorem dX4_outside_10 : decode cX4_outside 10 = .ok (.iconst 1, 1) := by decide +kernel
theorem dX4_outside_11 : decode cX4_outside 11 = .ok (.goto 4, 3) := by decide +kernel
theorem dX4_outside_14 : decode cX4_outside 14 = .ok (.iconst 0, 1) := by decide +kernel
theorem dX4_outside_15 : decode cX4_outside 15 = .ok (.ireturn, 1) := by decide +kernel
theorem dX4_type_0 : decode cX4_type 0 = .ok (.aload_n 0, 1) := by decide +kernel
theorem dX4_type_1 : decode cX4_type 1 = .ok (.iload_n 1, 1) := by decide +kernel
theorem dX4_type_2 : decode cX4_type 2 = .ok (.iconst (-1), 1) := by decide +kernel
theorem dX4_type_3 : decode cX4_type 3 = .ok (.aload_n 0, 1) := by decide +kernel
theorem dX4_type_4 : decode cX4_type 4 = .ok (.getfield 7, 3) := by decide +kernel
theorem dX4_type_7 : decode cX4_type 7 = .ok (.iconst 1, 1) := by decide +kernel
theorem dX4_type_8 : decode cX4_type 8 = .ok (.isub, 1) := by decide +kernel
theorem dX4_type_9 : decode cX4_type 9 = .ok (.invokestatic 72, 3) := by decide +kernel
theorem dX4_type_12 : decode cX4_type 12 = .ok (.aload_n 0, 1) := by decide +kernel
theorem dX4_type_13 : decode cX4_type 13 = .ok (.getfield 7, 3) := by decide +kernel
theorem dX4_type_16 : decode cX4_type 16 = .ok (.bipush 6, 2) := by decide +kernel
theorem dX4_type_18 : decode cX4_type 18 = .ok (.if_icmp .ne 7, 3) := by decide +kernel
theorem dX4_type_21 : decode cX4_type 21 = .ok (.iconst 1, 1) := by decide +kernel
theorem dX4_type_22 : decode cX4_type 22 = .ok (.goto 4, 3) := by decide +kernel
theorem dX4_type_25 : decode cX4_type 25 = .ok (.iconst 0, 1) := by decide +kernel
theorem dX4_type_26 : decode cX4_type 26 = .ok (.invokevirtual 76, 3) := by decide +kernel
theorem dX4_type_29 : decode cX4_type 29 = .ok (.ifCond .eq 5, 3) := by decide +kernel
theorem dX4_type_32 : decode cX4_type 32 = .ok (.iconst 0, 1) := by decide +kernel
theorem dX4_type_33 : decode cX4_type 33 = .ok (.ireturn, 1) := by decide +kernel
theorem dX4_type_34 : decode cX4_type 34 = .ok (.aload_n 0, 1) := by decide +kernel
theorem dX4_type_35 : decode cX4_type 35 = .ok (.getfield 13, 3) := by decide +kernel
theorem dX4_type_38 : decode cX4_type 38 = .ok (.aload_n 0, 1) := by decide +kernel
theorem dX4_type_39 : decode cX4_type 39 = .ok (.getfield 7, 3) := by decide +kernel
theorem dX4_type_42 : decode cX4_type 42 = .ok (.iload_n 1, 1) := by decide +kernel
theorem dX4_type_43 : decode cX4_type 43 = .ok (.iastore, 1) := by decide +kernel
theorem dX4_type_44 : decode cX4_type 44 = .ok (.aload_n 0, 1) := by decide +kernel
theorem dX4_type_45 : decode cX4_type 45 = .ok (.dup, 1) := by decide +kernel
theorem dX4_type_46 : decode cX4_type 46 = .ok (.getfield 7, 3) := by decide +kernel
theorem dX4_type_49 : decode cX4_type 49 = .ok (.iconst 1, 1) := by decide +kernel
theorem dX4_type_50 : decode cX4_type 50 = .ok (.iadd, 1) := by decide +kernel
theorem dX4_type_51 : decode cX4_type 51 = .ok (.putfield 7, 3) := by decide +kernel
theorem dX4_type_54 : decode cX4_type 54 = .ok (.aload_n 0, 1) := by decide +kernel
theorem dX4_type_55 : decode cX4_type 55 = .ok (.getfield 7, 3) := by decide +kernel
theorem dX4_type_58 : decode cX4_type 58 = .ok (.iconst 1, 1) := by decide +kernel
theorem dX4_type_59 : decode cX4_type 59 = .ok (.isub, 1) := by decide +kernel
theorem dX4_type_60 : decode cX4_type 60 = .ok (.ireturn, 1) := by decide +kernel
theorem dX4_isRegister_0 : decode cX4_isRegister 0 = .ok (.iload_n 0, 1) := by decide +kernel
theorem dX4_isRegister_1 : decode cX4_isRegister 1 = .ok (.ifCond .lt 12, 3) := by decide +kernel
theorem dX4_isRegister_4 : decode cX4_isRegister 4 = .ok (.iload_n 0, 1) := by decide +kernel
theorem dX4_isRegister_5 : decode cX4_isRegister 5 = .ok (.iconst 5, 1) := by decide +kernel
theorem dX4_isRegister_6 : decode cX4_isRegister 6 = .ok (.if_icmp .gt 7, 3) := by decide +kernel
theorem dX4_isRegister_9 : decode cX4_isRegister 9 = .ok (.iconst 1, 1) := by decide +kernel
theorem dX4_isRegister_10 : decode cX4_isRegister 10 = .ok (.goto 4, 3) := by decide +kernel
theorem dX4_isRegister_13 : decode cX4_isRegister 13 = .ok (.iconst 0, 1) := by decide +kernel
theorem dX4_isRegister_14 : decode cX4_isRegister 14 = .ok (.ireturn, 1) := by decide +kernel
theorem dX4_isField_0 : decode cX4_isField 0 = .ok (.iload_n 0, 1) := by decide +kernel
theorem dX4_isField_1 : decode cX4_isField 1 = .ok (.ifCond .lt 12, 3) := by decide +kernel
theorem dX4_isField_4 : decode cX4_isField 4 = .ok (.iload_n 0, 1) := by decide +kernel
theorem dX4_isField_5 : decode cX4_isField 5 = .ok (.iconst 2, 1) := by decide +kernel
theorem dX4_isField_6 : decode cX4_isField 6 = .ok (.if_icmp .gt 7, 3) := by decide +kernel
theorem dX4_isField_9 : decode cX4_isField 9 = .ok (.iconst 1, 1) := by decide +kernel
theorem dX4_isField_10 : decode cX4_isField 10 = .ok (.goto 4, 3) := by decide +kernel
theorem dX4_isField_13 : decode cX4_isField 13 = .ok (.iconst 0, 1) := by decide +kernel
theorem dX4_isField_14 : decode cX4_isField 14 = .ok (.ireturn, 1) := by decide +kernel
theorem dX4_isGood_0 : decode cX4_isGood 0 = .ok (.iload_n 0, 1) := by decide +kernel
theorem dX4_isGood_1 : decode cX4_isGood 1 = .ok (.iconst 0, 1) := by decide +kernel
theorem dX4_isGood_2 : decode cX4_isGood 2 = .ok (.bipush 11, 2) := by decide +kernel
theorem dX4_isGood_4 : decode cX4_isGood 4 = .ok (.invokestatic 72, 3) := by decide +kernel
theorem dX4_isGood_7 : decode cX4_isGood 7 = .ok (.ifCond .ne 10, 3) := by decide +kernel
theorem dX4_isGood_10 : decode cX4_isGood 10 = .ok (.iload_n 1, 1) := by decide +kernel
theorem dX4_isGood_11 : decode cX4_isGood 11 = .ok (.invokestatic 80, 3) := by decide +kernel
theorem dX4_isGood_14 : decode cX4_isGood 14 = .ok (.ifCond .ne 5, 3) := by decide +kernel
theorem dX4_isGood_17 : decode cX4_isGood 17 = .ok (.iconst 0, 1) := by decide +kernel
theorem dX4_isGood_18 : decode cX4_isGood 18 = .ok (.ireturn, 1) := by decide +kernel
theorem dX4_isGood_19 : decode cX4_isGood 19 = .ok (.iload_n 0, 1) := by decide +kernel
theorem dX4_isGood_20 : decode cX4_isGood 20 = .ok (.tableswitch 154 1 10 #[56, 61, 61, 81, 96, 96, 116, 154, 138, 81], 56) := by decide +kernel
theorem dX4_isGood_76 : decode cX4_isGood 76 = .ok (.iload_n 2, 1) := by decide +kernel
theorem dX4_isGood_77 : decode cX4_isGood 77 = .ok (.invokestatic 80, 3) := by decide +kernel
theorem dX4_isGood_80 : decode cX4_isGood 80 = .ok (.ireturn, 1) := by decide +kernel
theorem dX4_isGood_81 : decode cX4_isGood 81 = .ok (.iload_n 2, 1) := by decide +kernel
theorem dX4_isGood_82 : decode cX4_isGood 82 = .ok (.invokestatic 80, 3) := by decide +kernel
theorem dX4_isGood_85 : decode cX4_isGood 85 = .ok (.ifCond .eq 14, 3) := by decide +kernel
theorem dX4_isGood_88 : decode cX4_isGood 88 = .ok (.iload_n 3, 1) := by decide +kernel
theorem dX4_isGood_89 : decode cX4_isGood 89 = .ok (.invokestatic 80, 3) := by decide +kernel
theorem dX4_isGood_92 : decode cX4_isGood 92 = .ok (.ifCond .eq 7, 3) := by decide +kernel
theorem dX4_isGood_95 : decode cX4_isGood 95 = .ok (.iconst 1, 1) := by decide +kernel
theorem dX4_isGood_96 : decode cX4_isGood 96 = .ok (.goto 4, 3) := by decide +kernel
theorem dX4_isGood_99 : decode cX4_isGood 99 = .ok (.iconst 0, 1) := by decide +kernel
theorem dX4_isGood_100 : decode cX4_isGood 100 = .ok (.ireturn, 1) := by decide +kernel
theorem dX4_isGood_101 : decode cX4_isGood 101 = .ok (.iload_n 2, 1) := by decide +kernel
theorem dX4_isGood_102 : decode cX4_isGood 102 = .ok (.iconst 0, 1) := by decide +kernel
theorem dX4_isGood_103 : decode cX4_isGood 103 = .ok (.iconst 5, 1) := by decide +kernel
theorem dX4_isGood_104 : decode cX4_isGood 104 = .ok (.invokestatic 72, 3) := by decide +kernel
theorem dX4_isGood_107 : decode cX4_isGood 107 = .ok (.ifCond .ne 7, 3) := by decide +kernel
theorem dX4_isGood_110 : decode cX4_isGood 110 = .ok (.iconst 1, 1) := by decide +kernel
theorem dX4_isGood_111 : decode cX4_isGood 111 = .ok (.goto 4, 3) := by decide +kernel
theorem dX4_isGood_114 : decode cX4_isGood 114 = .ok (.iconst 0, 1) := by decide +kernel
theorem dX4_isGood_115 : decode cX4_isGood 115 = .ok (.ireturn, 1) := by decide +kernel
theorem dX4_isGood_116 : decode cX4_isGood 116 = .ok (.iload_n 2, 1) := by decide +kernel
theorem dX4_isGood_117 : decode cX4_isGood 117 = .ok (.invokestatic 80, 3) := by decide +kernel
theorem dX4_isGood_120 : decode cX4_isGood 120 = .ok (.ifCond .eq 14, 3) := by decide +kernel
theorem dX4_isGood_123 : decode cX4_isGood 123 = .ok (.iload_n 3, 1) := by decide +kernel
theorem dX4_isGood_124 : decode cX4_isGood 124 = .ok (.invokestatic 84, 3) := by decide +kernel
theorem dX4_isGood_127 : decode cX4_isGood 127 = .ok (.ifCond .eq 7, 3) := by decide +kernel
theorem dX4_isGood_130 : decode cX4_isGood 130 = .ok (.iconst 1, 1) := by decide +kernel
theorem dX4_isGood_131 : decode cX4_isGood 131 = .ok (.goto 4, 3) := by decide +kernel
theorem dX4_isGood_134 : decode cX4_isGood 134 = .ok (.iconst 0, 1) := by decide +kernel
theorem dX4_isGood_135 : decode cX4_isGood 135 = .ok (.ireturn, 1) := by decide +kernel
theorem dX4_isGood_136 : decode cX4_isGood 136 = .ok (.iload_n 2, 1) := by decide +kernel
theorem dX4_isGood_137 : decode cX4_isGood 137 = .ok (.invokestatic 80, 3) := by decide +kernel
theorem dX4_isGood_140 : decode cX4_isGood 140 = .ok (.ifCond .eq 16, 3) := by decide +kernel
theorem dX4_isGood_143 : decode cX4_isGood 143 = .ok (.iload_n 3, 1) := by decide +kernel
theorem dX4_isGood_144 : decode cX4_isGood 144 = .ok (.iconst 0, 1) := by decide +kernel
theorem dX4_isGood_145 : decode cX4_isGood 145 = .ok (.iconst 3, 1) := by decide +kernel
theorem dX4_isGood_146 : decode cX4_isGood 146 = .ok (.invokestatic 72, 3) := by decide +kernel
theorem dX4_isGood_149 : decode cX4_isGood 149 = .ok (.ifCond .ne 7, 3) := by decide +kernel
theorem dX4_isGood_152 : decode cX4_isGood 152 = .ok (.iconst 1, 1) := by decide +kernel
theorem dX4_isGood_153 : decode cX4_isGood 153 = .ok (.goto 4, 3) := by decide +kernel
theorem dX4_isGood_156 : decode cX4_isGood 156 = .ok (.iconst 0, 1) := by decide +kernel
theorem dX4_isGood_157 : decode cX4_isGood 157 = .ok (.ireturn, 1) := by decide +kernel
theorem dX4_isGood_158 : decode cX4_isGood 158 = .ok (.iload_n 2, 1) := by decide +kernel
theorem dX4_isGood_159 : decode cX4_isGood 159 = .ok (.iconst 0, 1) := by decide +kernel
theorem dX4_isGood_160 : decode cX4_isGood 160 = .ok (.bipush 9, 2) := by decide +kernel
theorem dX4_isGood_162 : decode cX4_isGood 162 = .ok (.invokestatic 72, 3) := by decide +kernel
theorem dX4_isGood_165 : decode cX4_isGood 165 = .ok (.ifCond .ne 7, 3) := by decide +kernel
theorem dX4_isGood_168 : decode cX4_isGood 168 = .ok (.iconst 1, 1) := by decide +kernel
theorem dX4_isGood_169 : decode cX4_isGood 169 = .ok (.goto 4, 3) := by decide +kernel
theorem dX4_isGood_172 : decode cX4_isGood 172 = .ok (.iconst 0, 1) := by decide +kernel
theorem dX4_isGood_173 : decode cX4_isGood 173 = .ok (.ireturn, 1) := by decide +kernel
theorem dX4_isGood_174 : decode cX4_isGood 174 = .ok (.iconst 1, 1) := by decide +kernel
theorem dX4_isGood_175 : decode cX4_isGood 175 = .ok (.ireturn, 1) := by decide +kernel
theorem dX4_isBody_0 : decode cX4_isBody 0 = .ok (.iload_n 1, 1) := by decide +kernel
theorem dX4_isBody_1 : decode cX4_isBody 1 = .ok (.ifCond .lt 24, 3) := by decide +kernel
theorem dX4_isBody_4 : decode cX4_isBody 4 = .ok (.iload_n 1, 1) := by decide +kernel
theorem dX4_isBody_5 : decode cX4_isBody 5 = .ok (.aload_n 0, 1) := by decide +kernel
theorem dX4_isBody_6 : decode cX4_isBody 6 = .ok (.getfield 7, 3) := by decide +kernel
theorem dX4_isBody_9 : decode cX4_isBody 9 = .ok (.if_icmp .ge 16, 3) := by decide +kernel
theorem dX4_isBody_12 : decode cX4_isBody 12 = .ok (.iload_n 2, 1) := by decide +kernel
theorem dX4_isBody_13 : decode cX4_isBody 13 = .ok (.ifCond .lt 12, 3) := by decide +kernel
theorem dX4_isBody_16 : decode cX4_isBody 16 = .ok (.iload_n 2, 1) := by decide +kernel
theorem dX4_isBody_17 : decode cX4_isBody 17 = .ok (.iconst 3, 1) := by decide +kernel
theorem dX4_isBody_18 : decode cX4_isBody 18 = .ok (.if_icmp .gt 7, 3) := by decide +kernel
theorem dX4_isBody_21 : decode cX4_isBody 21 = .ok (.iconst 1, 1) := by decide +kernel
theorem dX4_isBody_22 : decode cX4_isBody 22 = .ok (.goto 4, 3) := by decide +kernel
theorem dX4_isBody_25 : decode cX4_isBody 25 = .ok (.iconst 0, 1) := by decide +kernel
theorem dX4_isBody_26 : decode cX4_isBody 26 = .ok (.ireturn, 1) := by decide +kernel
theorem dX4_operation_0 : decode cX4_operation 0 = .ok (.aload_n 0, 1) := by decide +kernel
theorem dX4_operation_1 : decode cX4_operation 1 = .ok (.iload_n 1, 1) := by decide +kernel
theorem dX4_operation_2 : decode cX4_operation 2 = .ok (.iload_n 2, 1) := by decide +kernel
theorem dX4_operation_3 : decode cX4_operation 3 = .ok (.invokevirtual 87, 3) := by decide +kernel
theorem dX4_operation_6 : decode cX4_operation 6 = .ok (.ifCond .eq 20, 3) := by decide +kernel
theorem dX4_operation_9 : decode cX4_operation 9 = .ok (.iload_n 3, 1) := by decide +kernel
theorem dX4_operation_10 : decode cX4_operation 10 = .ok (.iload 4, 2) := by decide +kernel
theorem dX4_operation_12 : decode cX4_operation 12 = .ok (.iload 5, 2) := by decide +kernel
theorem dX4_operation_14 : decode cX4_operation 14 = .ok (.iload 6, 2) := by decide +kernel
theorem dX4_operation_16 : decode cX4_operation 16 = .ok (.invokestatic 91, 3) := by decide +kernel
theorem dX4_operation_19 : decode cX4_operation 19 = .ok (.ifCond .eq 7, 3) := by decide +kernel
theorem dX4_operation_22 : decode cX4_operation 22 = .ok (.iconst 1, 1) := by decide +kernel
theorem dX4_operation_23 : decode cX4_operation 23 = .ok (.goto 4, 3) := by decide +kernel
theorem dX4_operation_26 : decode cX4_operation 26 = .ok (.iconst 0, 1) := by decide +kernel
theorem dX4_operation_27 : decode cX4_operation 27 = .ok (.istore 7, 2) := by decide +kernel
theorem dX4_operation_29 : decode cX4_operation 29 = .ok (.iload 7, 2) := by decide +kernel
theorem dX4_operation_31 : decode cX4_operation 31 = .ok (.ifCond .eq 11, 3) := by decide +kernel
theorem dX4_operation_34 : decode cX4_operation 34 = .ok (.iconst 4, 1) := by decide +kernel
theorem dX4_operation_35 : decode cX4_operation 35 = .ok (.iload_n 1, 1) := by decide +kernel
theorem dX4_operation_36 : decode cX4_operation 36 = .ok (.imul, 1) := by decide +kernel
theorem dX4_operation_37 : decode cX4_operation 37 = .ok (.iload_n 2, 1) := by decide +kernel
theorem dX4_operation_38 : decode cX4_operation 38 = .ok (.iadd, 1) := by decide +kernel
theorem dX4_operation_39 : decode cX4_operation 39 = .ok (.goto 4, 3) := by decide +kernel
theorem dX4_operation_42 : decode cX4_operation 42 = .ok (.iconst 0, 1) := by decide +kernel
theorem dX4_operation_43 : decode cX4_operation 43 = .ok (.istore 8, 2) := by decide +kernel
theorem dX4_operation_45 : decode cX4_operation 45 = .ok (.aload_n 0, 1) := by decide +kernel
theorem dX4_operation_46 : decode cX4_operation 46 = .ok (.iload 7, 2) := by decide +kernel
