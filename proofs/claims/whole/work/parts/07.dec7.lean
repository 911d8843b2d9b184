theorem dX4_enters_123 : decode cX4_enters 123 = .ok (.iadd, 1) := by decide +kernel
theorem dX4_enters_124 : decode cX4_enters 124 = .ok (.putfield 125, 3) := by decide +kernel
theorem dX4_enters_127 : decode cX4_enters 127 = .ok (.aload_n 0, 1) := by decide +kernel
theorem dX4_enters_128 : decode cX4_enters 128 = .ok (.getfield 125, 3) := by decide +kernel
theorem dX4_enters_131 : decode cX4_enters 131 = .ok (.aload_n 0, 1) := by decide +kernel
theorem dX4_enters_132 : decode cX4_enters 132 = .ok (.getfield 66, 3) := by decide +kernel
theorem dX4_enters_135 : decode cX4_enters 135 = .ok (.iconst 5, 1) := by decide +kernel
theorem dX4_enters_136 : decode cX4_enters 136 = .ok (.iaload, 1) := by decide +kernel
theorem dX4_enters_137 : decode cX4_enters 137 = .ok (.if_icmp .le 13, 3) := by decide +kernel
theorem dX4_enters_140 : decode cX4_enters 140 = .ok (.aload_n 0, 1) := by decide +kernel
theorem dX4_enters_141 : decode cX4_enters 141 = .ok (.getfield 66, 3) := by decide +kernel
theorem dX4_enters_144 : decode cX4_enters 144 = .ok (.iconst 5, 1) := by decide +kernel
theorem dX4_enters_145 : decode cX4_enters 145 = .ok (.aload_n 0, 1) := by decide +kernel
theorem dX4_enters_146 : decode cX4_enters 146 = .ok (.getfield 125, 3) := by decide +kernel
theorem dX4_enters_149 : decode cX4_enters 149 = .ok (.iastore, 1) := by decide +kernel
theorem dX4_enters_150 : decode cX4_enters 150 = .ok (.return_, 1) := by decide +kernel
theorem dX4_answers_0 : decode cX4_answers 0 = .ok (.aload_n 0, 1) := by decide +kernel
theorem dX4_answers_1 : decode cX4_answers 1 = .ok (.dup, 1) := by decide +kernel
theorem dX4_answers_2 : decode cX4_answers 2 = .ok (.getfield 125, 3) := by decide +kernel
theorem dX4_answers_5 : decode cX4_answers 5 = .ok (.iconst 1, 1) := by decide +kernel
theorem dX4_answers_6 : decode cX4_answers 6 = .ok (.isub, 1) := by decide +kernel
theorem dX4_answers_7 : decode cX4_answers 7 = .ok (.putfield 125, 3) := by decide +kernel
theorem dX4_answers_10 : decode cX4_answers 10 = .ok (.aload_n 0, 1) := by decide +kernel
theorem dX4_answers_11 : decode cX4_answers 11 = .ok (.getfield 125, 3) := by decide +kernel
theorem dX4_answers_14 : decode cX4_answers 14 = .ok (.ifCond .ne 4, 3) := by decide +kernel
theorem dX4_answers_17 : decode cX4_answers 17 = .ok (.return_, 1) := by decide +kernel
theorem dX4_answers_18 : decode cX4_answers 18 = .ok (.aload_n 0, 1) := by decide +kernel
theorem dX4_answers_19 : decode cX4_answers 19 = .ok (.bipush 6, 2) := by decide +kernel
theorem dX4_answers_21 : decode cX4_answers 21 = .ok (.aload_n 0, 1) := by decide +kernel
theorem dX4_answers_22 : decode cX4_answers 22 = .ok (.getfield 125, 3) := by decide +kernel
theorem dX4_answers_25 : decode cX4_answers 25 = .ok (.iconst 1, 1) := by decide +kernel
theorem dX4_answers_26 : decode cX4_answers 26 = .ok (.isub, 1) := by decide +kernel
theorem dX4_answers_27 : decode cX4_answers 27 = .ok (.imul, 1) := by decide +kernel
theorem dX4_answers_28 : decode cX4_answers 28 = .ok (.aload_n 0, 1) := by decide +kernel
theorem dX4_answers_29 : decode cX4_answers 29 = .ok (.getfield 54, 3) := by decide +kernel
theorem dX4_answers_32 : decode cX4_answers 32 = .ok (.aload_n 0, 1) := by decide +kernel
theorem dX4_answers_33 : decode cX4_answers 33 = .ok (.getfield 125, 3) := by decide +kernel
theorem dX4_answers_36 : decode cX4_answers 36 = .ok (.iaload, 1) := by decide +kernel
theorem dX4_answers_37 : decode cX4_answers 37 = .ok (.iadd, 1) := by decide +kernel
theorem dX4_answers_38 : decode cX4_answers 38 = .ok (.iload_n 1, 1) := by decide +kernel
theorem dX4_answers_39 : decode cX4_answers 39 = .ok (.iload_n 2, 1) := by decide +kernel
theorem dX4_answers_40 : decode cX4_answers 40 = .ok (.invokevirtual 128, 3) := by decide +kernel
theorem dX4_answers_43 : decode cX4_answers 43 = .ok (.return_, 1) := by decide +kernel
theorem dX4_set_0 : decode cX4_set 0 = .ok (.aload_n 0, 1) := by decide +kernel
theorem dX4_set_1 : decode cX4_set 1 = .ok (.getfield 57, 3) := by decide +kernel
theorem dX4_set_4 : decode cX4_set 4 = .ok (.iload_n 1, 1) := by decide +kernel
theorem dX4_set_5 : decode cX4_set 5 = .ok (.iload_n 2, 1) := by decide +kernel
theorem dX4_set_6 : decode cX4_set 6 = .ok (.bastore, 1) := by decide +kernel
theorem dX4_set_7 : decode cX4_set 7 = .ok (.aload_n 0, 1) := by decide +kernel
theorem dX4_set_8 : decode cX4_set 8 = .ok (.getfield 60, 3) := by decide +kernel
theorem dX4_set_11 : decode cX4_set 11 = .ok (.iload_n 1, 1) := by decide +kernel
theorem dX4_set_12 : decode cX4_set 12 = .ok (.iload_n 3, 1) := by decide +kernel
theorem dX4_set_13 : decode cX4_set 13 = .ok (.iastore, 1) := by decide +kernel
theorem dX4_set_14 : decode cX4_set 14 = .ok (.return_, 1) := by decide +kernel
theorem dX4_calls_0 : decode cX4_calls 0 = .ok (.aload_n 0, 1) := by decide +kernel
theorem dX4_calls_1 : decode cX4_calls 1 = .ok (.getfield 57, 3) := by decide +kernel
theorem dX4_calls_4 : decode cX4_calls 4 = .ok (.iload_n 2, 1) := by decide +kernel
theorem dX4_calls_5 : decode cX4_calls 5 = .ok (.iload 4, 2) := by decide +kernel
theorem dX4_calls_7 : decode cX4_calls 7 = .ok (.iadd, 1) := by decide +kernel
theorem dX4_calls_8 : decode cX4_calls 8 = .ok (.baload, 1) := by decide +kernel
theorem dX4_calls_9 : decode cX4_calls 9 = .ok (.ifCond .ne 5, 3) := by decide +kernel
theorem dX4_calls_12 : decode cX4_calls 12 = .ok (.iconst 1, 1) := by decide +kernel
theorem dX4_calls_13 : decode cX4_calls 13 = .ok (.ireturn, 1) := by decide +kernel
theorem dX4_calls_14 : decode cX4_calls 14 = .ok (.aload_n 0, 1) := by decide +kernel
theorem dX4_calls_15 : decode cX4_calls 15 = .ok (.aload_n 0, 1) := by decide +kernel
theorem dX4_calls_16 : decode cX4_calls 16 = .ok (.getfield 39, 3) := by decide +kernel
theorem dX4_calls_19 : decode cX4_calls 19 = .ok (.aload_n 0, 1) := by decide +kernel
theorem dX4_calls_20 : decode cX4_calls 20 = .ok (.getfield 60, 3) := by decide +kernel
theorem dX4_calls_23 : decode cX4_calls 23 = .ok (.iload_n 2, 1) := by decide +kernel
theorem dX4_calls_24 : decode cX4_calls 24 = .ok (.iload 4, 2) := by decide +kernel
theorem dX4_calls_26 : decode cX4_calls 26 = .ok (.iadd, 1) := by decide +kernel
theorem dX4_calls_27 : decode cX4_calls 27 = .ok (.iaload, 1) := by decide +kernel
theorem dX4_calls_28 : decode cX4_calls 28 = .ok (.iaload, 1) := by decide +kernel
theorem dX4_calls_29 : decode cX4_calls 29 = .ok (.iload 5, 2) := by decide +kernel
theorem dX4_calls_31 : decode cX4_calls 31 = .ok (.invokevirtual 95, 3) := by decide +kernel
theorem dX4_calls_34 : decode cX4_calls 34 = .ok (.istore 6, 2) := by decide +kernel
theorem dX4_calls_36 : decode cX4_calls 36 = .ok (.iload 6, 2) := by decide +kernel
theorem dX4_calls_38 : decode cX4_calls 38 = .ok (.ifCond .ge 6, 3) := by decide +kernel
theorem dX4_calls_41 : decode cX4_calls 41 = .ok (.bipush 6, 2) := by decide +kernel
theorem dX4_calls_43 : decode cX4_calls 43 = .ok (.ireturn, 1) := by decide +kernel
theorem dX4_calls_44 : decode cX4_calls 44 = .ok (.aload_n 0, 1) := by decide +kernel
theorem dX4_calls_45 : decode cX4_calls 45 = .ok (.getfield 125, 3) := by decide +kernel
theorem dX4_calls_48 : decode cX4_calls 48 = .ok (.bipush 12, 2) := by decide +kernel
theorem dX4_calls_50 : decode cX4_calls 50 = .ok (.if_icmp .ne 5, 3) := by decide +kernel
theorem dX4_calls_53 : decode cX4_calls 53 = .ok (.iconst 4, 1) := by decide +kernel
theorem dX4_calls_54 : decode cX4_calls 54 = .ok (.ireturn, 1) := by decide +kernel
theorem dX4_calls_55 : decode cX4_calls 55 = .ok (.iload_n 1, 1) := by decide +kernel
theorem dX4_calls_56 : decode cX4_calls 56 = .ok (.iconst 2, 1) := by decide +kernel
theorem dX4_calls_57 : decode cX4_calls 57 = .ok (.if_icmp .eq 18, 3) := by decide +kernel
theorem dX4_calls_60 : decode cX4_calls 60 = .ok (.iload_n 1, 1) := by decide +kernel
theorem dX4_calls_61 : decode cX4_calls 61 = .ok (.iconst 3, 1) := by decide +kernel
theorem dX4_calls_62 : decode cX4_calls 62 = .ok (.if_icmp .eq 13, 3) := by decide +kernel
theorem dX4_calls_65 : decode cX4_calls 65 = .ok (.aload_n 0, 1) := by decide +kernel
theorem dX4_calls_66 : decode cX4_calls 66 = .ok (.getfield 66, 3) := by decide +kernel
theorem dX4_calls_69 : decode cX4_calls 69 = .ok (.iconst 2, 1) := by decide +kernel
theorem dX4_calls_70 : decode cX4_calls 70 = .ok (.dup2, 1) := by decide +kernel
theorem dX4_calls_71 : decode cX4_calls 71 = .ok (.iaload, 1) := by decide +kernel
theorem dX4_calls_72 : decode cX4_calls 72 = .ok (.iconst 1, 1) := by decide +kernel
theorem dX4_calls_73 : decode cX4_calls 73 = .ok (.iadd, 1) := by decide +kernel
theorem dX4_calls_74 : decode cX4_calls 74 = .ok (.iastore, 1) := by decide +kernel
theorem dX4_calls_75 : decode cX4_calls 75 = .ok (.iload_n 1, 1) := by decide +kernel
theorem dX4_calls_76 : decode cX4_calls 76 = .ok (.iconst 3, 1) := by decide +kernel
theorem dX4_calls_77 : decode cX4_calls 77 = .ok (.if_icmp .eq 13, 3) := by decide +kernel
theorem dX4_calls_80 : decode cX4_calls 80 = .ok (.aload_n 0, 1) := by decide +kernel
theorem dX4_calls_81 : decode cX4_calls 81 = .ok (.getfield 66, 3) := by decide +kernel
theorem dX4_calls_84 : decode cX4_calls 84 = .ok (.iconst 3, 1) := by decide +kernel
theorem dX4_calls_85 : decode cX4_calls 85 = .ok (.dup2, 1) := by decide +kernel
theorem dX4_calls_86 : decode cX4_calls 86 = .ok (.iaload, 1) := by decide +kernel
theorem dX4_calls_87 : decode cX4_calls 87 = .ok (.iconst 1, 1) := by decide +kernel
theorem dX4_calls_88 : decode cX4_calls 88 = .ok (.iadd, 1) := by decide +kernel
theorem dX4_calls_89 : decode cX4_calls 89 = .ok (.iastore, 1) := by decide +kernel
theorem dX4_calls_90 : decode cX4_calls 90 = .ok (.aload_n 0, 1) := by decide +kernel
theorem dX4_calls_91 : decode cX4_calls 91 = .ok (.iload 6, 2) := by decide +kernel
theorem dX4_calls_93 : decode cX4_calls 93 = .ok (.aload_n 0, 1) := by decide +kernel
theorem dX4_calls_94 : decode cX4_calls 94 = .ok (.getfield 60, 3) := by decide +kernel
theorem dX4_calls_97 : decode cX4_calls 97 = .ok (.iload_n 2, 1) := by decide +kernel
theorem dX4_calls_98 : decode cX4_calls 98 = .ok (.iload 4, 2) := by decide +kernel
theorem dX4_calls_100 : decode cX4_calls 100 = .ok (.iadd, 1) := by decide +kernel
theorem dX4_calls_101 : decode cX4_calls 101 = .ok (.iaload, 1) := by decide +kernel
theorem dX4_calls_102 : decode cX4_calls 102 = .ok (.aload_n 0, 1) := by decide +kernel
theorem dX4_calls_103 : decode cX4_calls 103 = .ok (.getfield 57, 3) := by decide +kernel
theorem dX4_calls_106 : decode cX4_calls 106 = .ok (.iload_n 2, 1) := by decide +kernel
theorem dX4_calls_107 : decode cX4_calls 107 = .ok (.iconst 5, 1) := by decide +kernel
theorem dX4_calls_108 : decode cX4_calls 108 = .ok (.iadd, 1) := by decide +kernel
theorem dX4_calls_109 : decode cX4_calls 109 = .ok (.baload, 1) := by decide +kernel
theorem dX4_calls_110 : decode cX4_calls 110 = .ok (.aload_n 0, 1) := by decide +kernel
theorem dX4_calls_111 : decode cX4_calls 111 = .ok (.getfield 60, 3) := by decide +kernel
theorem dX4_calls_114 : decode cX4_calls 114 = .ok (.iload_n 2, 1) := by decide +kernel
theorem dX4_calls_115 : decode cX4_calls 115 = .ok (.iconst 5, 1) := by decide +kernel
theorem dX4_calls_116 : decode cX4_calls 116 = .ok (.iadd, 1) := by decide +kernel
theorem dX4_calls_117 : decode cX4_calls 117 = .ok (.iaload, 1) := by decide +kernel
theorem dX4_calls_118 : decode cX4_calls 118 = .ok (.iload_n 3, 1) := by decide +kernel
theorem dX4_calls_119 : decode cX4_calls 119 = .ok (.invokevirtual 132, 3) := by decide +kernel
theorem dX4_calls_122 : decode cX4_calls 122 = .ok (.iconst 0, 1) := by decide +kernel
theorem dX4_calls_123 : decode cX4_calls 123 = .ok (.ireturn, 1) := by decide +kernel
theorem dX4_puts_0 : decode cX4_puts 0 = .ok (.aload_n 0, 1) := by decide +kernel
theorem dX4_puts_1 : decode cX4_puts 1 = .ok (.getfield 66, 3) := by decide +kernel
theorem dX4_puts_4 : decode cX4_puts 4 = .ok (.iconst 0, 1) := by decide +kernel
theorem dX4_puts_5 : decode cX4_puts 5 = .ok (.iaload, 1) := by decide +kernel
theorem dX4_puts_6 : decode cX4_puts 6 = .ok (.bipush 40, 2) := by decide +kernel
theorem dX4_puts_8 : decode cX4_puts 8 = .ok (.if_icmp .ne 6, 3) := by decide +kernel
theorem dX4_puts_11 : decode cX4_puts 11 = .ok (.bipush 7, 2) := by decide +kernel
theorem dX4_puts_13 : decode cX4_puts 13 = .ok (.ireturn, 1) := by decide +kernel
theorem dX4_puts_14 : decode cX4_puts 14 = .ok (.aload_n 0, 1) := by decide +kernel
theorem dX4_puts_15 : decode cX4_puts 15 = .ok (.getfield 63, 3) := by decide +kernel
theorem dX4_puts_18 : decode cX4_puts 18 = .ok (.aload_n 0, 1) := by decide +kernel
theorem dX4_puts_19 : decode cX4_puts 19 = .ok (.getfield 66, 3) := by decide +kernel
theorem dX4_puts_22 : decode cX4_puts 22 = .ok (.iconst 0, 1) := by decide +kernel
theorem dX4_puts_23 : decode cX4_puts 23 = .ok (.iaload, 1) := by decide +kernel
theorem dX4_puts_24 : decode cX4_puts 24 = .ok (.aload_n 0, 1) := by decide +kernel
theorem dX4_puts_25 : decode cX4_puts 25 = .ok (.getfield 57, 3) := by decide +kernel
theorem dX4_puts_28 : decode cX4_puts 28 = .ok (.iload_n 1, 1) := by decide +kernel
theorem dX4_puts_29 : decode cX4_puts 29 = .ok (.baload, 1) := by decide +kernel
theorem dX4_puts_30 : decode cX4_puts 30 = .ok (.ifCond .eq 21, 3) := by decide +kernel
theorem dX4_puts_33 : decode cX4_puts 33 = .ok (.sipush 1000, 3) := by decide +kernel
theorem dX4_puts_36 : decode cX4_puts 36 = .ok (.aload_n 0, 1) := by decide +kernel
theorem dX4_puts_37 : decode cX4_puts 37 = .ok (.getfield 39, 3) := by decide +kernel
theorem dX4_puts_40 : decode cX4_puts 40 = .ok (.aload_n 0, 1) := by decide +kernel
theorem dX4_puts_41 : decode cX4_puts 41 = .ok (.getfield 60, 3) := by decide +kernel
theorem dX4_puts_44 : decode cX4_puts 44 = .ok (.iload_n 1, 1) := by decide +kernel
theorem dX4_puts_45 : decode cX4_puts 45 = .ok (.iaload, 1) := by decide +kernel
theorem dX4_puts_46 : decode cX4_puts 46 = .ok (.iaload, 1) := by decide +kernel
theorem dX4_puts_47 : decode cX4_puts 47 = .ok (.iadd, 1) := by decide +kernel
theorem dX4_puts_48 : decode cX4_puts 48 = .ok (.goto 9, 3) := by decide +kernel
theorem dX4_puts_51 : decode cX4_puts 51 = .ok (.aload_n 0, 1) := by decide +kernel
theorem dX4_puts_52 : decode cX4_puts 52 = .ok (.getfield 60, 3) := by decide +kernel
theorem dX4_puts_55 : decode cX4_puts 55 = .ok (.iload_n 1, 1) := by decide +kernel
theorem dX4_puts_56 : decode cX4_puts 56 = .ok (.iaload, 1) := by decide +kernel
theorem dX4_puts_57 : decode cX4_puts 57 = .ok (.iastore, 1) := by decide +kernel
theorem dX4_puts_58 : decode cX4_puts 58 = .ok (.aload_n 0, 1) := by decide +kernel
theorem dX4_puts_59 : decode cX4_puts 59 = .ok (.getfield 66, 3) := by decide +kernel
theorem dX4_puts_62 : decode cX4_puts 62 = .ok (.iconst 0, 1) := by decide +kernel
theorem dX4_puts_63 : decode cX4_puts 63 = .ok (.dup2, 1) := by decide +kernel
theorem dX4_puts_64 : decode cX4_puts 64 = .ok (.iaload, 1) := by decide +kernel
theorem dX4_puts_65 : decode cX4_puts 65 = .ok (.iconst 1, 1) := by decide +kernel
theorem dX4_puts_66 : decode cX4_puts 66 = .ok (.iadd, 1) := by decide +kernel
theorem dX4_puts_67 : decode cX4_puts 67 = .ok (.iastore, 1) := by decide +kernel
theorem dX4_puts_68 : decode cX4_puts 68 = .ok (.iconst 0, 1) := by decide +kernel
theorem dX4_puts_69 : decode cX4_puts 69 = .ok (.ireturn, 1) := by decide +kernel
theorem dX4_isAnother_0 : decode cX4_isAnother 0 = .ok (.iload_n 1, 1) := by decide +kernel
theorem dX4_isAnother_1 : decode cX4_isAnother 1 = .ok (.istore_n 3, 1) := by decide +kernel
theorem dX4_isAnother_2 : decode cX4_isAnother 2 = .ok (.iload_n 3, 1) := by decide +kernel
theorem dX4_isAnother_3 : decode cX4_isAnother 3 = .ok (.ifCond .lt 30, 3) := by decide +kernel
theorem dX4_isAnother_6 : decode cX4_isAnother 6 = .ok (.iload_n 3, 1) := by decide +kernel
theorem dX4_isAnother_7 : decode cX4_isAnother 7 = .ok (.iload_n 2, 1) := by decide +kernel
theorem dX4_isAnother_8 : decode cX4_isAnother 8 = .ok (.if_icmp .eq 25, 3) := by decide +kernel
theorem dX4_isAnother_11 : decode cX4_isAnother 11 = .ok (.iload_n 3, 1) := by decide +kernel
theorem dX4_isAnother_12 : decode cX4_isAnother 12 = .ok (.aload_n 0, 1) := by decide +kernel
theorem dX4_isAnother_13 : decode cX4_isAnother 13 = .ok (.getfield 7, 3) := by decide +kernel
theorem dX4_isAnother_16 : decode cX4_isAnother 16 = .ok (.if_icmp .ge 12, 3) := by decide +kernel
theorem dX4_isAnother_19 : decode cX4_isAnother 19 = .ok (.aload_n 0, 1) := by decide +kernel
theorem dX4_isAnother_20 : decode cX4_isAnother 20 = .ok (.getfield 13, 3) := by decide +kernel
theorem dX4_isAnother_23 : decode cX4_isAnother 23 = .ok (.iload_n 3, 1) := by decide +kernel
theorem dX4_isAnother_24 : decode cX4_isAnother 24 = .ok (.iaload, 1) := by decide +kernel
theorem dX4_isAnother_25 : decode cX4_isAnother 25 = .ok (.goto 4, 3) := by decide +kernel
theorem dX4_isAnother_28 : decode cX4_isAnother 28 = .ok (.iconst (-1), 1) := by decide +kernel
theorem dX4_isAnother_29 : decode cX4_isAnother 29 = .ok (.istore_n 3, 1) := by decide +kernel
theorem dX4_isAnother_30 : decode cX4_isAnother 30 = .ok (.goto (-28), 3) := by decide +kernel
theorem dX4_isAnother_33 : decode cX4_isAnother 33 = .ok (.iload_n 3, 1) := by decide +kernel
theorem dX4_isAnother_34 : decode cX4_isAnother 34 = .ok (.iload_n 2, 1) := by decide +kernel
theorem dX4_isAnother_35 : decode cX4_isAnother 35 = .ok (.if_icmp .ne 7, 3) := by decide +kernel
theorem dX4_isAnother_38 : decode cX4_isAnother 38 = .ok (.iconst 1, 1) := by decide +kernel
theorem dX4_isAnother_39 : decode cX4_isAnother 39 = .ok (.goto 4, 3) := by decide +kernel
theorem dX4_isAnother_42 : decode cX4_isAnother 42 = .ok (.iconst 0, 1) := by decide +kernel
theorem dX4_isAnother_43 : decode cX4_isAnother 43 = .ok (.ireturn, 1) := by decide +kernel
theorem dX4_news_0 : decode cX4_news 0 = .ok (.aload_n 0, 1) := by decide +kernel
theorem dX4_news_1 : decode cX4_news 1 = .ok (.iload_n 3, 1) := by decide +kernel
theorem dX4_news_2 : decode cX4_news 2 = .ok (.iload_n 1, 1) := by decide +kernel
theorem dX4_news_3 : decode cX4_news 3 = .ok (.iconst 5, 1) := by decide +kernel
theorem dX4_news_4 : decode cX4_news 4 = .ok (.if_icmp .ne 7, 3) := by decide +kernel
theorem dX4_news_7 : decode cX4_news 7 = .ok (.iconst 1, 1) := by decide +kernel
theorem dX4_news_8 : decode cX4_news 8 = .ok (.goto 4, 3) := by decide +kernel
theorem dX4_news_11 : decode cX4_news 11 = .ok (.iconst 0, 1) := by decide +kernel
theorem dX4_news_12 : decode cX4_news 12 = .ok (.invokevirtual 136, 3) := by decide +kernel
theorem dX4_news_15 : decode cX4_news 15 = .ok (.istore 4, 2) := by decide +kernel
theorem dX4_news_17 : decode cX4_news 17 = .ok (.iload 4, 2) := by decide +kernel
theorem dX4_news_19 : decode cX4_news 19 = .ok (.ifCond .ge 5, 3) := by decide +kernel
theorem dX4_news_22 : decode cX4_news 22 = .ok (.iconst 3, 1) := by decide +kernel
theorem dX4_news_23 : decode cX4_news 23 = .ok (.ireturn, 1) := by decide +kernel
theorem dX4_news_24 : decode cX4_news 24 = .ok (.aload_n 0, 1) := by decide +kernel
theorem dX4_news_25 : decode cX4_news 25 = .ok (.iload_n 2, 1) := by decide +kernel
theorem dX4_news_26 : decode cX4_news 26 = .ok (.iconst 1, 1) := by decide +kernel
theorem dX4_news_27 : decode cX4_news 27 = .ok (.iload 4, 2) := by decide +kernel
theorem dX4_news_29 : decode cX4_news 29 = .ok (.invokevirtual 128, 3) := by decide +kernel
theorem dX4_news_32 : decode cX4_news 32 = .ok (.iconst 0, 1) := by decide +kernel
theorem dX4_news_33 : decode cX4_news 33 = .ok (.ireturn, 1) := by decide +kernel
theorem dX4_sums_0 : decode cX4_sums 0 = .ok (.aload_n 0, 1) := by decide +kernel
theorem dX4_sums_1 : decode cX4_sums 1 = .ok (.getfield 57, 3) := by decide +kernel
theorem dX4_sums_4 : decode cX4_sums 4 = .ok (.iload_n 1, 1) := by decide +kernel
theorem dX4_sums_5 : decode cX4_sums 5 = .ok (.iload 4, 2) := by decide +kernel
theorem dX4_sums_7 : decode cX4_sums 7 = .ok (.iadd, 1) := by decide +kernel
theorem dX4_sums_8 : decode cX4_sums 8 = .ok (.baload, 1) := by decide +kernel
theorem dX4_sums_9 : decode cX4_sums 9 = .ok (.ifCond .ne 15, 3) := by decide +kernel
theorem dX4_sums_12 : decode cX4_sums 12 = .ok (.aload_n 0, 1) := by decide +kernel
theorem dX4_sums_13 : decode cX4_sums 13 = .ok (.getfield 57, 3) := by decide +kernel
theorem dX4_sums_16 : decode cX4_sums 16 = .ok (.iload_n 1, 1) := by decide +kernel
theorem dX4_sums_17 : decode cX4_sums 17 = .ok (.iload 5, 2) := by decide +kernel
theorem dX4_sums_19 : decode cX4_sums 19 = .ok (.iadd, 1) := by decide +kernel
theorem dX4_sums_20 : decode cX4_sums 20 = .ok (.baload, 1) := by decide +kernel
theorem dX4_sums_21 : decode cX4_sums 21 = .ok (.ifCond .eq 5, 3) := by decide +kernel
theorem dX4_sums_24 : decode cX4_sums 24 = .ok (.iconst 1, 1) := by decide +kernel
theorem dX4_sums_25 : decode cX4_sums 25 = .ok (.ireturn, 1) := by decide +kernel
theorem dX4_sums_26 : decode cX4_sums 26 = .ok (.aload_n 0, 1) := by decide +kernel
theorem dX4_sums_27 : decode cX4_sums 27 = .ok (.getfield 60, 3) := by decide +kernel
theorem dX4_sums_30 : decode cX4_sums 30 = .ok (.iload_n 1, 1) := by decide +kernel
theorem dX4_sums_31 : decode cX4_sums 31 = .ok (.iload 4, 2) := by decide +kernel
theorem dX4_sums_33 : decode cX4_sums 33 = .ok (.iadd, 1) := by decide +kernel
theorem dX4_sums_34 : decode cX4_sums 34 = .ok (.iaload, 1) := by decide +kernel
theorem dX4_sums_35 : decode cX4_sums 35 = .ok (.istore 6, 2) := by decide +kernel
theorem dX4_sums_37 : decode cX4_sums 37 = .ok (.aload_n 0, 1) := by decide +kernel
theorem dX4_sums_38 : decode cX4_sums 38 = .ok (.getfield 60, 3) := by decide +kernel
theorem dX4_sums_41 : decode cX4_sums 41 = .ok (.iload_n 1, 1) := by decide +kernel
theorem dX4_sums_42 : decode cX4_sums 42 = .ok (.iload 5, 2) := by decide +kernel
theorem dX4_sums_44 : decode cX4_sums 44 = .ok (.iadd, 1) := by decide +kernel
theorem dX4_sums_45 : decode cX4_sums 45 = .ok (.iaload, 1) := by decide +kernel
theorem dX4_sums_46 : decode cX4_sums 46 = .ok (.istore 7, 2) := by decide +kernel
theorem dX4_sums_48 : decode cX4_sums 48 = .ok (.aload_n 0, 1) := by decide +kernel
theorem dX4_sums_49 : decode cX4_sums 49 = .ok (.iload_n 1, 1) := by decide +kernel
theorem dX4_sums_50 : decode cX4_sums 50 = .ok (.iload_n 3, 1) := by decide +kernel
theorem dX4_sums_51 : decode cX4_sums 51 = .ok (.iadd, 1) := by decide +kernel
theorem dX4_sums_52 : decode cX4_sums 52 = .ok (.iconst 0, 1) := by decide +kernel
theorem dX4_sums_53 : decode cX4_sums 53 = .ok (.iload_n 2, 1) := by decide +kernel
theorem dX4_sums_54 : decode cX4_sums 54 = .ok (.ifCond .eq 11, 3) := by decide +kernel
theorem dX4_sums_57 : decode cX4_sums 57 = .ok (.iload 6, 2) := by decide +kernel
theorem dX4_sums_59 : decode cX4_sums 59 = .ok (.iload 7, 2) := by decide +kernel
theorem dX4_sums_61 : decode cX4_sums 61 = .ok (.iadd, 1) := by decide +kernel
theorem dX4_sums_62 : decode cX4_sums 62 = .ok (.goto 15, 3) := by decide +kernel
theorem dX4_sums_65 : decode cX4_sums 65 = .ok (.iload 6, 2) := by decide +kernel
theorem dX4_sums_67 : decode cX4_sums 67 = .ok (.iload 7, 2) := by decide +kernel
theorem dX4_sums_69 : decode cX4_sums 69 = .ok (.if_icmp .ge 7, 3) := by decide +kernel
theorem dX4_sums_72 : decode cX4_sums 72 = .ok (.iconst 1, 1) := by decide +kernel
theorem dX4_sums_73 : decode cX4_sums 73 = .ok (.goto 4, 3) := by decide +kernel
theorem dX4_sums_76 : decode cX4_sums 76 = .ok (.iconst 0, 1) := by decide +kernel
theorem dX4_sums_77 : decode cX4_sums 77 = .ok (.invokevirtual 128, 3) := by decide +kernel
theorem dX4_sums_80 : decode cX4_sums 80 = .ok (.iconst 0, 1) := by decide +kernel
theorem dX4_sums_81 : decode cX4_sums 81 = .ok (.ireturn, 1) := by decide +kernel
theorem dX4_does_0 : decode cX4_does 0 = .ok (.aload_n 0, 1) := by decide +kernel
theorem dX4_does_1 : decode cX4_does 1 = .ok (.getfield 125, 3) := by decide +kernel
theorem dX4_does_4 : decode cX4_does 4 = .ok (.iconst 1, 1) := by decide +kernel
theorem dX4_does_5 : decode cX4_does 5 = .ok (.isub, 1) := by decide +kernel
theorem dX4_does_6 : decode cX4_does 6 = .ok (.istore_n 2, 1) := by decide +kernel
theorem dX4_does_7 : decode cX4_does 7 = .ok (.aload_n 0, 1) := by decide +kernel
theorem dX4_does_8 : decode cX4_does 8 = .ok (.getfield 48, 3) := by decide +kernel
theorem dX4_does_11 : decode cX4_does 11 = .ok (.iload_n 2, 1) := by decide +kernel
theorem dX4_does_12 : decode cX4_does 12 = .ok (.iaload, 1) := by decide +kernel
theorem dX4_does_13 : decode cX4_does 13 = .ok (.istore_n 3, 1) := by decide +kernel
theorem dX4_does_14 : decode cX4_does 14 = .ok (.aload_n 0, 1) := by decide +kernel
theorem dX4_does_15 : decode cX4_does 15 = .ok (.getfield 51, 3) := by decide +kernel
theorem dX4_does_18 : decode cX4_does 18 = .ok (.iload_n 2, 1) := by decide +kernel
theorem dX4_does_19 : decode cX4_does 19 = .ok (.iaload, 1) := by decide +kernel
theorem dX4_does_20 : decode cX4_does 20 = .ok (.istore 4, 2) := by decide +kernel
theorem dX4_does_22 : decode cX4_does 22 = .ok (.bipush 6, 2) := by decide +kernel
theorem dX4_does_24 : decode cX4_does 24 = .ok (.iload_n 2, 1) := by decide +kernel
theorem dX4_does_25 : decode cX4_does 25 = .ok (.imul, 1) := by decide +kernel
theorem dX4_does_26 : decode cX4_does 26 = .ok (.istore 5, 2) := by decide +kernel
theorem dX4_does_28 : decode cX4_does 28 = .ok (.aload_n 0, 1) := by decide +kernel
theorem dX4_does_29 : decode cX4_does 29 = .ok (.iload_n 3, 1) := by decide +kernel
theorem dX4_does_30 : decode cX4_does 30 = .ok (.iload 4, 2) := by decide +kernel
theorem dX4_does_32 : decode cX4_does 32 = .ok (.iconst 1, 1) := by decide +kernel
theorem dX4_does_33 : decode cX4_does 33 = .ok (.invokevirtual 99, 3) := by decide +kernel
theorem dX4_does_36 : decode cX4_does 36 = .ok (.istore 6, 2) := by decide +kernel
theorem dX4_does_38 : decode cX4_does 38 = .ok (.aload_n 0, 1) := by decide +kernel
theorem dX4_does_39 : decode cX4_does 39 = .ok (.iload_n 3, 1) := by decide +kernel
theorem dX4_does_40 : decode cX4_does 40 = .ok (.iload 4, 2) := by decide +kernel
theorem dX4_does_42 : decode cX4_does 42 = .ok (.iconst 2, 1) := by decide +kernel
theorem dX4_does_43 : decode cX4_does 43 = .ok (.invokevirtual 99, 3) := by decide +kernel
theorem dX4_does_46 : decode cX4_does 46 = .ok (.istore 7, 2) := by decide +kernel
theorem dX4_does_48 : decode cX4_does 48 = .ok (.aload_n 0, 1) := by decide +kernel
theorem dX4_does_49 : decode cX4_does 49 = .ok (.iload_n 3, 1) := by decide +kernel
theorem dX4_does_50 : decode cX4_does 50 = .ok (.iload 4, 2) := by decide +kernel
theorem dX4_does_52 : decode cX4_does 52 = .ok (.iconst 3, 1) := by decide +kernel
theorem dX4_does_53 : decode cX4_does 53 = .ok (.invokevirtual 99, 3) := by decide +kernel
theorem dX4_does_56 : decode cX4_does 56 = .ok (.istore 8, 2) := by decide +kernel
theorem dX4_does_58 : decode cX4_does 58 = .ok (.iload_n 1, 1) := by decide +kernel
theorem dX4_does_59 : decode cX4_does 59 = .ok (.ifCond .eq 13, 3) := by decide +kernel
theorem dX4_does_62 : decode cX4_does 62 = .ok (.aload_n 0, 1) := by decide +kernel
theorem dX4_does_63 : decode cX4_does 63 = .ok (.iload_n 3, 1) := by decide +kernel
theorem dX4_does_64 : decode cX4_does 64 = .ok (.iload 4, 2) := by decide +kernel
theorem dX4_does_66 : decode cX4_does 66 = .ok (.invokevirtual 116, 3) := by decide +kernel
theorem dX4_does_69 : decode cX4_does 69 = .ok (.goto 4, 3) := by decide +kernel
theorem dX4_does_72 : decode cX4_does 72 = .ok (.iconst 0, 1) := by decide +kernel
theorem dX4_does_73 : decode cX4_does 73 = .ok (.istore 9, 2) := by decide +kernel
theorem dX4_does_75 : decode cX4_does 75 = .ok (.aload_n 0, 1) := by decide +kernel
theorem dX4_does_76 : decode cX4_does 76 = .ok (.getfield 51, 3) := by decide +kernel
theorem dX4_does_79 : decode cX4_does 79 = .ok (.iload_n 2, 1) := by decide +kernel
theorem dX4_does_80 : decode cX4_does 80 = .ok (.dup2, 1) := by decide +kernel
theorem dX4_does_81 : decode cX4_does 81 = .ok (.iaload, 1) := by decide +kernel
theorem dX4_does_82 : decode cX4_does 82 = .ok (.iconst 1, 1) := by decide +kernel
theorem dX4_does_83 : decode cX4_does 83 = .ok (.iadd, 1) := by decide +kernel
theorem dX4_does_84 : decode cX4_does 84 = .ok (.iastore, 1) := by decide +kernel
theorem dX4_does_85 : decode cX4_does 85 = .ok (.aload_n 0, 1) := by decide +kernel
theorem dX4_does_86 : decode cX4_does 86 = .ok (.iload_n 3, 1) := by decide +kernel
theorem dX4_does_87 : decode cX4_does 87 = .ok (.iload 4, 2) := by decide +kernel
theorem dX4_does_89 : decode cX4_does 89 = .ok (.iconst 0, 1) := by decide +kernel
theorem dX4_does_90 : decode cX4_does 90 = .ok (.invokevirtual 99, 3) := by decide +kernel
theorem dX4_does_93 : decode cX4_does 93 = .ok (.tableswitch 400 0 10 #[59, 73, 104, 118, 132, 146, 212, 289, 304, 314, 353], 59) := by decide +kernel
theorem dX4_does_152 : decode cX4_does 152 = .ok (.aload_n 0, 1) := by decide +kernel
theorem dX4_does_153 : decode cX4_does 153 = .ok (.iload 5, 2) := by decide +kernel
theorem dX4_does_155 : decode cX4_does 155 = .ok (.iload 6, 2) := by decide +kernel
theorem dX4_does_157 : decode cX4_does 157 = .ok (.iadd, 1) := by decide +kernel
theorem dX4_does_158 : decode cX4_does 158 = .ok (.iconst 0, 1) := by decide +kernel
theorem dX4_does_159 : decode cX4_does 159 = .ok (.iload 7, 2) := by decide +kernel
theorem dX4_does_161 : decode cX4_does 161 = .ok (.invokevirtual 128, 3) := by decide +kernel
theorem dX4_does_164 : decode cX4_does 164 = .ok (.iconst 0, 1) := by decide +kernel
theorem dX4_does_165 : decode cX4_does 165 = .ok (.ireturn, 1) := by decide +kernel
theorem dX4_does_166 : decode cX4_does 166 = .ok (.aload_n 0, 1) := by decide +kernel
theorem dX4_does_167 : decode cX4_does 167 = .ok (.iload 5, 2) := by decide +kernel
theorem dX4_does_169 : decode cX4_does 169 = .ok (.iload 6, 2) := by decide +kernel
theorem dX4_does_171 : decode cX4_does 171 = .ok (.iadd, 1) := by decide +kernel
theorem dX4_does_172 : decode cX4_does 172 = .ok (.aload_n 0, 1) := by decide +kernel
theorem dX4_does_173 : decode cX4_does 173 = .ok (.getfield 57, 3) := by decide +kernel
theorem dX4_does_176 : decode cX4_does 176 = .ok (.iload 5, 2) := by decide +kernel
theorem dX4_does_178 : decode cX4_does 178 = .ok (.iload 7, 2) := by decide +kernel
theorem dX4_does_180 : decode cX4_does 180 = .ok (.iadd, 1) := by decide +kernel
theorem dX4_does_181 : decode cX4_does 181 = .ok (.baload, 1) := by decide +kernel
theorem dX4_does_182 : decode cX4_does 182 = .ok (.aload_n 0, 1) := by decide +kernel
theorem dX4_does_183 : decode cX4_does 183 = .ok (.getfield 60, 3) := by decide +kernel
theorem dX4_does_186 : decode cX4_does 186 = .ok (.iload 5, 2) := by decide +kernel
theorem dX4_does_188 : decode cX4_does 188 = .ok (.iload 7, 2) := by decide +kernel
theorem dX4_does_190 : decode cX4_does 190 = .ok (.iadd, 1) := by decide +kernel
theorem dX4_does_191 : decode cX4_does 191 = .ok (.iaload, 1) := by decide +kernel
theorem dX4_does_192 : decode cX4_does 192 = .ok (.invokevirtual 128, 3) := by decide +kernel
theorem dX4_does_195 : decode cX4_does 195 = .ok (.iconst 0, 1) := by decide +kernel
theorem dX4_does_196 : decode cX4_does 196 = .ok (.ireturn, 1) := by decide +kernel
theorem dX4_does_197 : decode cX4_does 197 = .ok (.aload_n 0, 1) := by decide +kernel
theorem dX4_does_198 : decode cX4_does 198 = .ok (.iload 5, 2) := by decide +kernel
theorem dX4_does_200 : decode cX4_does 200 = .ok (.iconst 1, 1) := by decide +kernel
theorem dX4_does_201 : decode cX4_does 201 = .ok (.iload 6, 2) := by decide +kernel
theorem dX4_does_203 : decode cX4_does 203 = .ok (.iload 7, 2) := by decide +kernel
theorem dX4_does_205 : decode cX4_does 205 = .ok (.iload 8, 2) := by decide +kernel
theorem dX4_does_207 : decode cX4_does 207 = .ok (.invokevirtual 140, 3) := by decide +kernel
theorem dX4_does_210 : decode cX4_does 210 = .ok (.ireturn, 1) := by decide +kernel
theorem dX4_does_211 : decode cX4_does 211 = .ok (.aload_n 0, 1) := by decide +kernel
theorem dX4_does_212 : decode cX4_does 212 = .ok (.iload 5, 2) := by decide +kernel
theorem dX4_does_214 : decode cX4_does 214 = .ok (.iconst 0, 1) := by decide +kernel
theorem dX4_does_215 : decode cX4_does 215 = .ok (.iload 6, 2) := by decide +kernel
theorem dX4_does_217 : decode cX4_does 217 = .ok (.iload 7, 2) := by decide +kernel
theorem dX4_does_219 : decode cX4_does 219 = .ok (.iload 8, 2) := by decide +kernel
theorem dX4_does_221 : decode cX4_does 221 = .ok (.invokevirtual 140, 3) := by decide +kernel
theorem dX4_does_224 : decode cX4_does 224 = .ok (.ireturn, 1) := by decide +kernel
theorem dX4_does_225 : decode cX4_does 225 = .ok (.aload_n 0, 1) := by decide +kernel
theorem dX4_does_226 : decode cX4_does 226 = .ok (.iload 9, 2) := by decide +kernel
theorem dX4_does_228 : decode cX4_does 228 = .ok (.iload 5, 2) := by decide +kernel
theorem dX4_does_230 : decode cX4_does 230 = .ok (.iload 6, 2) := by decide +kernel
theorem dX4_does_232 : decode cX4_does 232 = .ok (.iadd, 1) := by decide +kernel
theorem dX4_does_233 : decode cX4_does 233 = .ok (.iload 7, 2) := by decide +kernel
theorem dX4_does_235 : decode cX4_does 235 = .ok (.invokevirtual 144, 3) := by decide +kernel
theorem dX4_does_238 : decode cX4_does 238 = .ok (.ireturn, 1) := by decide +kernel
theorem dX4_does_239 : decode cX4_does 239 = .ok (.aload_n 0, 1) := by decide +kernel
theorem dX4_does_240 : decode cX4_does 240 = .ok (.getfield 57, 3) := by decide +kernel
theorem dX4_does_243 : decode cX4_does 243 = .ok (.iload 5, 2) := by decide +kernel
theorem dX4_does_245 : decode cX4_does 245 = .ok (.iload 7, 2) := by decide +kernel
theorem dX4_does_247 : decode cX4_does 247 = .ok (.iadd, 1) := by decide +kernel
theorem dX4_does_248 : decode cX4_does 248 = .ok (.baload, 1) := by decide +kernel
theorem dX4_does_249 : decode cX4_does 249 = .ok (.ifCond .ne 5, 3) := by decide +kernel
theorem dX4_does_252 : decode cX4_does 252 = .ok (.iconst 1, 1) := by decide +kernel
theorem dX4_does_253 : decode cX4_does 253 = .ok (.ireturn, 1) := by decide +kernel
theorem dX4_does_254 : decode cX4_does 254 = .ok (.aload_n 0, 1) := by decide +kernel
theorem dX4_does_255 : decode cX4_does 255 = .ok (.iload 5, 2) := by decide +kernel
theorem dX4_does_257 : decode cX4_does 257 = .ok (.iload 6, 2) := by decide +kernel
theorem dX4_does_259 : decode cX4_does 259 = .ok (.iadd, 1) := by decide +kernel
theorem dX4_does_260 : decode cX4_does 260 = .ok (.aload_n 0, 1) := by decide +kernel
theorem dX4_does_261 : decode cX4_does 261 = .ok (.getfield 42, 3) := by decide +kernel
theorem dX4_does_264 : decode cX4_does 264 = .ok (.iconst 3, 1) := by decide +kernel
theorem dX4_does_265 : decode cX4_does 265 = .ok (.aload_n 0, 1) := by decide +kernel
theorem dX4_does_266 : decode cX4_does 266 = .ok (.getfield 60, 3) := by decide +kernel
theorem dX4_does_269 : decode cX4_does 269 = .ok (.iload 5, 2) := by decide +kernel
theorem dX4_does_271 : decode cX4_does 271 = .ok (.iload 7, 2) := by decide +kernel
theorem dX4_does_273 : decode cX4_does 273 = .ok (.iadd, 1) := by decide +kernel
theorem dX4_does_274 : decode cX4_does 274 = .ok (.iaload, 1) := by decide +kernel
theorem dX4_does_275 : decode cX4_does 275 = .ok (.imul, 1) := by decide +kernel
theorem dX4_does_276 : decode cX4_does 276 = .ok (.iload 8, 2) := by decide +kernel
theorem dX4_does_278 : decode cX4_does 278 = .ok (.iadd, 1) := by decide +kernel
theorem dX4_does_279 : decode cX4_does 279 = .ok (.baload, 1) := by decide +kernel
theorem dX4_does_280 : decode cX4_does 280 = .ok (.aload_n 0, 1) := by decide +kernel
theorem dX4_does_281 : decode cX4_does 281 = .ok (.getfield 45, 3) := by decide +kernel
theorem dX4_does_284 : decode cX4_does 284 = .ok (.iconst 3, 1) := by decide +kernel
theorem dX4_does_285 : decode cX4_does 285 = .ok (.aload_n 0, 1) := by decide +kernel
theorem dX4_does_286 : decode cX4_does 286 = .ok (.getfield 60, 3) := by decide +kernel
theorem dX4_does_289 : decode cX4_does 289 = .ok (.iload 5, 2) := by decide +kernel
theorem dX4_does_291 : decode cX4_does 291 = .ok (.iload 7, 2) := by decide +kernel
theorem dX4_does_293 : decode cX4_does 293 = .ok (.iadd, 1) := by decide +kernel
theorem dX4_does_294 : decode cX4_does 294 = .ok (.iaload, 1) := by decide +kernel
theorem dX4_does_295 : decode cX4_does 295 = .ok (.imul, 1) := by decide +kernel
theorem dX4_does_296 : decode cX4_does 296 = .ok (.iload 8, 2) := by decide +kernel
theorem dX4_does_298 : decode cX4_does 298 = .ok (.iadd, 1) := by decide +kernel
theorem dX4_does_299 : decode cX4_does 299 = .ok (.iaload, 1) := by decide +kernel
theorem dX4_does_300 : decode cX4_does 300 = .ok (.invokevirtual 128, 3) := by decide +kernel
theorem dX4_does_303 : decode cX4_does 303 = .ok (.iconst 0, 1) := by decide +kernel
theorem dX4_does_304 : decode cX4_does 304 = .ok (.ireturn, 1) := by decide +kernel
theorem dX4_does_305 : decode cX4_does 305 = .ok (.aload_n 0, 1) := by decide +kernel
theorem dX4_does_306 : decode cX4_does 306 = .ok (.getfield 57, 3) := by decide +kernel
theorem dX4_does_309 : decode cX4_does 309 = .ok (.iload 5, 2) := by decide +kernel
theorem dX4_does_311 : decode cX4_does 311 = .ok (.iload 6, 2) := by decide +kernel
theorem dX4_does_313 : decode cX4_does 313 = .ok (.iadd, 1) := by decide +kernel
theorem dX4_does_314 : decode cX4_does 314 = .ok (.baload, 1) := by decide +kernel
theorem dX4_does_315 : decode cX4_does 315 = .ok (.ifCond .ne 5, 3) := by decide +kernel
theorem dX4_does_318 : decode cX4_does 318 = .ok (.iconst 1, 1) := by decide +kernel
theorem dX4_does_319 : decode cX4_does 319 = .ok (.ireturn, 1) := by decide +kernel
theorem dX4_does_320 : decode cX4_does 320 = .ok (.aload_n 0, 1) := by decide +kernel
theorem dX4_does_321 : decode cX4_does 321 = .ok (.getfield 42, 3) := by decide +kernel
theorem dX4_does_324 : decode cX4_does 324 = .ok (.iconst 3, 1) := by decide +kernel
theorem dX4_does_325 : decode cX4_does 325 = .ok (.aload_n 0, 1) := by decide +kernel
theorem dX4_does_326 : decode cX4_does 326 = .ok (.getfield 60, 3) := by decide +kernel
theorem dX4_does_329 : decode cX4_does 329 = .ok (.iload 5, 2) := by decide +kernel
theorem dX4_does_331 : decode cX4_does 331 = .ok (.iload 6, 2) := by decide +kernel
theorem dX4_does_333 : decode cX4_does 333 = .ok (.iadd, 1) := by decide +kernel
theorem dX4_does_334 : decode cX4_does 334 = .ok (.iaload, 1) := by decide +kernel
theorem dX4_does_335 : decode cX4_does 335 = .ok (.imul, 1) := by decide +kernel
theorem dX4_does_336 : decode cX4_does 336 = .ok (.iload 8, 2) := by decide +kernel
