theorem dX8_init_0 : decode cX8_init 0 = .ok (.aload_n 0, 1) := by decide +kernel
theorem dX8_init_1 : decode cX8_init 1 = .ok (.invokespecial 1, 3) := by decide +kernel
theorem dX8_init_4 : decode cX8_init 4 = .ok (.aload_n 0, 1) := by decide +kernel
theorem dX8_init_5 : decode cX8_init 5 = .ok (.sipush 17088, 3) := by decide +kernel
theorem dX8_init_8 : decode cX8_init 8 = .ok (.newarray .int, 2) := by decide +kernel
theorem dX8_init_10 : decode cX8_init 10 = .ok (.putfield 7, 3) := by decide +kernel
theorem dX8_init_13 : decode cX8_init 13 = .ok (.aload_n 0, 1) := by decide +kernel
theorem dX8_init_14 : decode cX8_init 14 = .ok (.bipush 60, 2) := by decide +kernel
theorem dX8_init_16 : decode cX8_init 16 = .ok (.newarray .char, 2) := by decide +kernel
theorem dX8_init_18 : decode cX8_init 18 = .ok (.putfield 13, 3) := by decide +kernel
theorem dX8_init_21 : decode cX8_init 21 = .ok (.aload_n 0, 1) := by decide +kernel
theorem dX8_init_22 : decode cX8_init 22 = .ok (.sipush 961, 3) := by decide +kernel
theorem dX8_init_25 : decode cX8_init 25 = .ok (.newarray .int, 2) := by decide +kernel
theorem dX8_init_27 : decode cX8_init 27 = .ok (.putfield 17, 3) := by decide +kernel
theorem dX8_init_30 : decode cX8_init 30 = .ok (.iconst 0, 1) := by decide +kernel
theorem dX8_init_31 : decode cX8_init 31 = .ok (.istore_n 1, 1) := by decide +kernel
theorem dX8_init_32 : decode cX8_init 32 = .ok (.iload_n 1, 1) := by decide +kernel
theorem dX8_init_33 : decode cX8_init 33 = .ok (.bipush 8, 2) := by decide +kernel
theorem dX8_init_35 : decode cX8_init 35 = .ok (.if_icmp .ge 18, 3) := by decide +kernel
theorem dX8_init_38 : decode cX8_init 38 = .ok (.aload_n 0, 1) := by decide +kernel
theorem dX8_init_39 : decode cX8_init 39 = .ok (.getfield 7, 3) := by decide +kernel
theorem dX8_init_42 : decode cX8_init 42 = .ok (.iload_n 1, 1) := by decide +kernel
theorem dX8_init_43 : decode cX8_init 43 = .ok (.iload_n 1, 1) := by decide +kernel
theorem dX8_init_44 : decode cX8_init 44 = .ok (.iconst 4, 1) := by decide +kernel
theorem dX8_init_45 : decode cX8_init 45 = .ok (.irem, 1) := by decide +kernel
theorem dX8_init_46 : decode cX8_init 46 = .ok (.iastore, 1) := by decide +kernel
theorem dX8_init_47 : decode cX8_init 47 = .ok (.iinc 1 1, 3) := by decide +kernel
theorem dX8_init_50 : decode cX8_init 50 = .ok (.goto (-18), 3) := by decide +kernel
theorem dX8_init_53 : decode cX8_init 53 = .ok (.iconst 0, 1) := by decide +kernel
theorem dX8_init_54 : decode cX8_init 54 = .ok (.istore_n 1, 1) := by decide +kernel
theorem dX8_init_55 : decode cX8_init 55 = .ok (.iload_n 1, 1) := by decide +kernel
theorem dX8_init_56 : decode cX8_init 56 = .ok (.iconst 4, 1) := by decide +kernel
theorem dX8_init_57 : decode cX8_init 57 = .ok (.if_icmp .ge 30, 3) := by decide +kernel
theorem dX8_init_60 : decode cX8_init 60 = .ok (.aload_n 0, 1) := by decide +kernel
theorem dX8_init_61 : decode cX8_init 61 = .ok (.getfield 7, 3) := by decide +kernel
theorem dX8_init_64 : decode cX8_init 64 = .ok (.bipush 8, 2) := by decide +kernel
theorem dX8_init_66 : decode cX8_init 66 = .ok (.iload_n 1, 1) := by decide +kernel
theorem dX8_init_67 : decode cX8_init 67 = .ok (.iadd, 1) := by decide +kernel
theorem dX8_init_68 : decode cX8_init 68 = .ok (.iconst 1, 1) := by decide +kernel
theorem dX8_init_69 : decode cX8_init 69 = .ok (.iastore, 1) := by decide +kernel
theorem dX8_init_70 : decode cX8_init 70 = .ok (.aload_n 0, 1) := by decide +kernel
theorem dX8_init_71 : decode cX8_init 71 = .ok (.getfield 7, 3) := by decide +kernel
theorem dX8_init_74 : decode cX8_init 74 = .ok (.bipush 12, 2) := by decide +kernel
theorem dX8_init_76 : decode cX8_init 76 = .ok (.iload_n 1, 1) := by decide +kernel
theorem dX8_init_77 : decode cX8_init 77 = .ok (.iadd, 1) := by decide +kernel
theorem dX8_init_78 : decode cX8_init 78 = .ok (.bipush 10, 2) := by decide +kernel
theorem dX8_init_80 : decode cX8_init 80 = .ok (.iastore, 1) := by decide +kernel
theorem dX8_init_81 : decode cX8_init 81 = .ok (.iinc 1 1, 3) := by decide +kernel
theorem dX8_init_84 : decode cX8_init 84 = .ok (.goto (-29), 3) := by decide +kernel
theorem dX8_init_87 : decode cX8_init 87 = .ok (.aload_n 0, 1) := by decide +kernel
theorem dX8_init_88 : decode cX8_init 88 = .ok (.getfield 7, 3) := by decide +kernel
theorem dX8_init_91 : decode cX8_init 91 = .ok (.bipush 16, 2) := by decide +kernel
theorem dX8_init_93 : decode cX8_init 93 = .ok (.iconst 2, 1) := by decide +kernel
theorem dX8_init_94 : decode cX8_init 94 = .ok (.iastore, 1) := by decide +kernel
theorem dX8_init_95 : decode cX8_init 95 = .ok (.bipush 32, 2) := by decide +kernel
theorem dX8_init_97 : decode cX8_init 97 = .ok (.istore_n 1, 1) := by decide +kernel
theorem dX8_init_98 : decode cX8_init 98 = .ok (.iload_n 1, 1) := by decide +kernel
theorem dX8_init_99 : decode cX8_init 99 = .ok (.sipush 272, 3) := by decide +kernel
theorem dX8_init_102 : decode cX8_init 102 = .ok (.if_icmp .ge 16, 3) := by decide +kernel
theorem dX8_init_105 : decode cX8_init 105 = .ok (.aload_n 0, 1) := by decide +kernel
theorem dX8_init_106 : decode cX8_init 106 = .ok (.getfield 7, 3) := by decide +kernel
theorem dX8_init_109 : decode cX8_init 109 = .ok (.iload_n 1, 1) := by decide +kernel
theorem dX8_init_110 : decode cX8_init 110 = .ok (.iconst (-1), 1) := by decide +kernel
theorem dX8_init_111 : decode cX8_init 111 = .ok (.iastore, 1) := by decide +kernel
theorem dX8_init_112 : decode cX8_init 112 = .ok (.iinc 1 1, 3) := by decide +kernel
theorem dX8_init_115 : decode cX8_init 115 = .ok (.goto (-17), 3) := by decide +kernel
theorem dX8_init_118 : decode cX8_init 118 = .ok (.iconst 0, 1) := by decide +kernel
theorem dX8_init_119 : decode cX8_init 119 = .ok (.istore_n 1, 1) := by decide +kernel
theorem dX8_init_120 : decode cX8_init 120 = .ok (.iload_n 1, 1) := by decide +kernel
theorem dX8_init_121 : decode cX8_init 121 = .ok (.bipush 16, 2) := by decide +kernel
theorem dX8_init_123 : decode cX8_init 123 = .ok (.if_icmp .ge 23, 3) := by decide +kernel
theorem dX8_init_126 : decode cX8_init 126 = .ok (.aload_n 0, 1) := by decide +kernel
theorem dX8_init_127 : decode cX8_init 127 = .ok (.getfield 7, 3) := by decide +kernel
theorem dX8_init_130 : decode cX8_init 130 = .ok (.sipush 1808, 3) := by decide +kernel
theorem dX8_init_133 : decode cX8_init 133 = .ok (.bipush 65, 2) := by decide +kernel
theorem dX8_init_135 : decode cX8_init 135 = .ok (.iload_n 1, 1) := by decide +kernel
theorem dX8_init_136 : decode cX8_init 136 = .ok (.imul, 1) := by decide +kernel
theorem dX8_init_137 : decode cX8_init 137 = .ok (.iadd, 1) := by decide +kernel
theorem dX8_init_138 : decode cX8_init 138 = .ok (.iconst (-1), 1) := by decide +kernel
theorem dX8_init_139 : decode cX8_init 139 = .ok (.iastore, 1) := by decide +kernel
theorem dX8_init_140 : decode cX8_init 140 = .ok (.iinc 1 1, 3) := by decide +kernel
theorem dX8_init_143 : decode cX8_init 143 = .ok (.goto (-23), 3) := by decide +kernel
theorem dX8_init_146 : decode cX8_init 146 = .ok (.return_, 1) := by decide +kernel
theorem dX8_in_0 : decode cX8_in 0 = .ok (.iload_n 0, 1) := by decide +kernel
theorem dX8_in_1 : decode cX8_in 1 = .ok (.iload_n 1, 1) := by decide +kernel
theorem dX8_in_2 : decode cX8_in 2 = .ok (.if_icmp .lt 12, 3) := by decide +kernel
theorem dX8_in_5 : decode cX8_in 5 = .ok (.iload_n 0, 1) := by decide +kernel
theorem dX8_in_6 : decode cX8_in 6 = .ok (.iload_n 2, 1) := by decide +kernel
theorem dX8_in_7 : decode cX8_in 7 = .ok (.if_icmp .gt 7, 3) := by decide +kernel
theorem dX8_in_10 : decode cX8_in 10 = .ok (.iconst 1, 1) := by decide +kernel
theorem dX8_in_11 : decode cX8_in 11 = .ok (.goto 4, 3) := by decide +kernel
theorem dX8_in_14 : decode cX8_in 14 = .ok (.iconst 0, 1) := by decide +kernel
theorem dX8_in_15 : decode cX8_in 15 = .ok (.ireturn, 1) := by decide +kernel
theorem dX8_copies_0 : decode cX8_copies 0 = .ok (.iconst 0, 1) := by decide +kernel
theorem dX8_copies_1 : decode cX8_copies 1 = .ok (.istore_n 3, 1) := by decide +kernel
theorem dX8_copies_2 : decode cX8_copies 2 = .ok (.iload_n 3, 1) := by decide +kernel
theorem dX8_copies_3 : decode cX8_copies 3 = .ok (.sipush 2848, 3) := by decide +kernel
theorem dX8_copies_6 : decode cX8_copies 6 = .ok (.if_icmp .ge 33, 3) := by decide +kernel
theorem dX8_copies_9 : decode cX8_copies 9 = .ok (.aload_n 0, 1) := by decide +kernel
theorem dX8_copies_10 : decode cX8_copies 10 = .ok (.getfield 7, 3) := by decide +kernel
theorem dX8_copies_13 : decode cX8_copies 13 = .ok (.sipush 2848, 3) := by decide +kernel
theorem dX8_copies_16 : decode cX8_copies 16 = .ok (.iload_n 2, 1) := by decide +kernel
theorem dX8_copies_17 : decode cX8_copies 17 = .ok (.imul, 1) := by decide +kernel
theorem dX8_copies_18 : decode cX8_copies 18 = .ok (.iload_n 3, 1) := by decide +kernel
theorem dX8_copies_19 : decode cX8_copies 19 = .ok (.iadd, 1) := by decide +kernel
theorem dX8_copies_20 : decode cX8_copies 20 = .ok (.aload_n 0, 1) := by decide +kernel
theorem dX8_copies_21 : decode cX8_copies 21 = .ok (.getfield 7, 3) := by decide +kernel
theorem dX8_copies_24 : decode cX8_copies 24 = .ok (.sipush 2848, 3) := by decide +kernel
theorem dX8_copies_27 : decode cX8_copies 27 = .ok (.iload_n 1, 1) := by decide +kernel
theorem dX8_copies_28 : decode cX8_copies 28 = .ok (.imul, 1) := by decide +kernel
theorem dX8_copies_29 : decode cX8_copies 29 = .ok (.iload_n 3, 1) := by decide +kernel
theorem dX8_copies_30 : decode cX8_copies 30 = .ok (.iadd, 1) := by decide +kernel
theorem dX8_copies_31 : decode cX8_copies 31 = .ok (.iaload, 1) := by decide +kernel
theorem dX8_copies_32 : decode cX8_copies 32 = .ok (.iastore, 1) := by decide +kernel
theorem dX8_copies_33 : decode cX8_copies 33 = .ok (.iinc 3 1, 3) := by decide +kernel
theorem dX8_copies_36 : decode cX8_copies 36 = .ok (.goto (-34), 3) := by decide +kernel
theorem dX8_copies_39 : decode cX8_copies 39 = .ok (.return_, 1) := by decide +kernel
theorem dX8_records_0 : decode cX8_records 0 = .ok (.aload_n 0, 1) := by decide +kernel
theorem dX8_records_1 : decode cX8_records 1 = .ok (.getfield 20, 3) := by decide +kernel
theorem dX8_records_4 : decode cX8_records 4 = .ok (.iconst 4, 1) := by decide +kernel
theorem dX8_records_5 : decode cX8_records 5 = .ok (.if_icmp .ne 34, 3) := by decide +kernel
theorem dX8_records_8 : decode cX8_records 8 = .ok (.iconst 1, 1) := by decide +kernel
theorem dX8_records_9 : decode cX8_records 9 = .ok (.istore_n 1, 1) := by decide +kernel
theorem dX8_records_10 : decode cX8_records 10 = .ok (.iload_n 1, 1) := by decide +kernel
theorem dX8_records_11 : decode cX8_records 11 = .ok (.iconst 4, 1) := by decide +kernel
theorem dX8_records_12 : decode cX8_records 12 = .ok (.if_icmp .ge 17, 3) := by decide +kernel
theorem dX8_records_15 : decode cX8_records 15 = .ok (.aload_n 0, 1) := by decide +kernel
theorem dX8_records_16 : decode cX8_records 16 = .ok (.iload_n 1, 1) := by decide +kernel
theorem dX8_records_17 : decode cX8_records 17 = .ok (.iconst 1, 1) := by decide +kernel
theorem dX8_records_18 : decode cX8_records 18 = .ok (.iadd, 1) := by decide +kernel
theorem dX8_records_19 : decode cX8_records 19 = .ok (.iload_n 1, 1) := by decide +kernel
theorem dX8_records_20 : decode cX8_records 20 = .ok (.invokevirtual 24, 3) := by decide +kernel
theorem dX8_records_23 : decode cX8_records 23 = .ok (.iinc 1 1, 3) := by decide +kernel
theorem dX8_records_26 : decode cX8_records 26 = .ok (.goto (-16), 3) := by decide +kernel
theorem dX8_records_29 : decode cX8_records 29 = .ok (.aload_n 0, 1) := by decide +kernel
theorem dX8_records_30 : decode cX8_records 30 = .ok (.dup, 1) := by decide +kernel
theorem dX8_records_31 : decode cX8_records 31 = .ok (.getfield 20, 3) := by decide +kernel
theorem dX8_records_34 : decode cX8_records 34 = .ok (.iconst 1, 1) := by decide +kernel
theorem dX8_records_35 : decode cX8_records 35 = .ok (.isub, 1) := by decide +kernel
theorem dX8_records_36 : decode cX8_records 36 = .ok (.putfield 20, 3) := by decide +kernel
theorem dX8_records_39 : decode cX8_records 39 = .ok (.aload_n 0, 1) := by decide +kernel
theorem dX8_records_40 : decode cX8_records 40 = .ok (.dup, 1) := by decide +kernel
theorem dX8_records_41 : decode cX8_records 41 = .ok (.getfield 20, 3) := by decide +kernel
theorem dX8_records_44 : decode cX8_records 44 = .ok (.iconst 1, 1) := by decide +kernel
theorem dX8_records_45 : decode cX8_records 45 = .ok (.iadd, 1) := by decide +kernel
theorem dX8_records_46 : decode cX8_records 46 = .ok (.putfield 20, 3) := by decide +kernel
theorem dX8_records_49 : decode cX8_records 49 = .ok (.aload_n 0, 1) := by decide +kernel
theorem dX8_records_50 : decode cX8_records 50 = .ok (.iconst 0, 1) := by decide +kernel
theorem dX8_records_51 : decode cX8_records 51 = .ok (.aload_n 0, 1) := by decide +kernel
theorem dX8_records_52 : decode cX8_records 52 = .ok (.getfield 20, 3) := by decide +kernel
theorem dX8_records_55 : decode cX8_records 55 = .ok (.invokevirtual 24, 3) := by decide +kernel
theorem dX8_records_58 : decode cX8_records 58 = .ok (.return_, 1) := by decide +kernel
theorem dX8_rowOf_0 : decode cX8_rowOf 0 = .ok (.sipush 272, 3) := by decide +kernel
theorem dX8_rowOf_3 : decode cX8_rowOf 3 = .ok (.bipush 64, 2) := by decide +kernel
theorem dX8_rowOf_5 : decode cX8_rowOf 5 = .ok (.iconst 3, 1) := by decide +kernel
theorem dX8_rowOf_6 : decode cX8_rowOf 6 = .ok (.iload_n 0, 1) := by decide +kernel
theorem dX8_rowOf_7 : decode cX8_rowOf 7 = .ok (.imul, 1) := by decide +kernel
theorem dX8_rowOf_8 : decode cX8_rowOf 8 = .ok (.iload_n 1, 1) := by decide +kernel
theorem dX8_rowOf_9 : decode cX8_rowOf 9 = .ok (.iadd, 1) := by decide +kernel
theorem dX8_rowOf_10 : decode cX8_rowOf 10 = .ok (.imul, 1) := by decide +kernel
theorem dX8_rowOf_11 : decode cX8_rowOf 11 = .ok (.iadd, 1) := by decide +kernel
theorem dX8_rowOf_12 : decode cX8_rowOf 12 = .ok (.ireturn, 1) := by decide +kernel
theorem dX8_paper_0 : decode cX8_paper 0 = .ok (.sipush 1808, 3) := by decide +kernel
theorem dX8_paper_3 : decode cX8_paper 3 = .ok (.bipush 65, 2) := by decide +kernel
theorem dX8_paper_5 : decode cX8_paper 5 = .ok (.iload_n 0, 1) := by decide +kernel
theorem dX8_paper_6 : decode cX8_paper 6 = .ok (.imul, 1) := by decide +kernel
theorem dX8_paper_7 : decode cX8_paper 7 = .ok (.iadd, 1) := by decide +kernel
theorem dX8_paper_8 : decode cX8_paper 8 = .ok (.ireturn, 1) := by decide +kernel
theorem dX8_words_0 : decode cX8_words 0 = .ok (.iload_n 2, 1) := by decide +kernel
theorem dX8_words_1 : decode cX8_words 1 = .ok (.ifCond .le 7, 3) := by decide +kernel
theorem dX8_words_4 : decode cX8_words 4 = .ok (.iconst 1, 1) := by decide +kernel
theorem dX8_words_5 : decode cX8_words 5 = .ok (.goto 4, 3) := by decide +kernel
theorem dX8_words_8 : decode cX8_words 8 = .ok (.iconst 0, 1) := by decide +kernel
theorem dX8_words_9 : decode cX8_words 9 = .ok (.istore_n 3, 1) := by decide +kernel
theorem dX8_words_10 : decode cX8_words 10 = .ok (.iconst 0, 1) := by decide +kernel
theorem dX8_words_11 : decode cX8_words 11 = .ok (.istore 4, 2) := by decide +kernel
theorem dX8_words_13 : decode cX8_words 13 = .ok (.iload 4, 2) := by decide +kernel
theorem dX8_words_15 : decode cX8_words 15 = .ok (.iload_n 2, 1) := by decide +kernel
theorem dX8_words_16 : decode cX8_words 16 = .ok (.if_icmp .ge 31, 3) := by decide +kernel
theorem dX8_words_19 : decode cX8_words 19 = .ok (.iload_n 3, 1) := by decide +kernel
theorem dX8_words_20 : decode cX8_words 20 = .ok (.aload_n 0, 1) := by decide +kernel
theorem dX8_words_21 : decode cX8_words 21 = .ok (.getfield 7, 3) := by decide +kernel
theorem dX8_words_24 : decode cX8_words 24 = .ok (.iload_n 1, 1) := by decide +kernel
theorem dX8_words_25 : decode cX8_words 25 = .ok (.iload 4, 2) := by decide +kernel
theorem dX8_words_27 : decode cX8_words 27 = .ok (.iadd, 1) := by decide +kernel
theorem dX8_words_28 : decode cX8_words 28 = .ok (.iaload, 1) := by decide +kernel
theorem dX8_words_29 : decode cX8_words 29 = .ok (.bipush 32, 2) := by decide +kernel
theorem dX8_words_31 : decode cX8_words 31 = .ok (.if_icmp .ne 7, 3) := by decide +kernel
theorem dX8_words_34 : decode cX8_words 34 = .ok (.iconst 1, 1) := by decide +kernel
theorem dX8_words_35 : decode cX8_words 35 = .ok (.goto 4, 3) := by decide +kernel
theorem dX8_words_38 : decode cX8_words 38 = .ok (.iconst 0, 1) := by decide +kernel
theorem dX8_words_39 : decode cX8_words 39 = .ok (.iadd, 1) := by decide +kernel
theorem dX8_words_40 : decode cX8_words 40 = .ok (.istore_n 3, 1) := by decide +kernel
theorem dX8_words_41 : decode cX8_words 41 = .ok (.iinc 4 1, 3) := by decide +kernel
theorem dX8_words_44 : decode cX8_words 44 = .ok (.goto (-31), 3) := by decide +kernel
theorem dX8_words_47 : decode cX8_words 47 = .ok (.iload_n 3, 1) := by decide +kernel
theorem dX8_words_48 : decode cX8_words 48 = .ok (.ireturn, 1) := by decide +kernel
theorem dX8_wordsOf_0 : decode cX8_wordsOf 0 = .ok (.iload_n 1, 1) := by decide +kernel
theorem dX8_wordsOf_1 : decode cX8_wordsOf 1 = .ok (.iload_n 2, 1) := by decide +kernel
theorem dX8_wordsOf_2 : decode cX8_wordsOf 2 = .ok (.invokestatic 28, 3) := by decide +kernel
theorem dX8_wordsOf_5 : decode cX8_wordsOf 5 = .ok (.istore_n 3, 1) := by decide +kernel
theorem dX8_wordsOf_6 : decode cX8_wordsOf 6 = .ok (.aload_n 0, 1) := by decide +kernel
theorem dX8_wordsOf_7 : decode cX8_wordsOf 7 = .ok (.iload_n 3, 1) := by decide +kernel
theorem dX8_wordsOf_8 : decode cX8_wordsOf 8 = .ok (.iconst 4, 1) := by decide +kernel
theorem dX8_wordsOf_9 : decode cX8_wordsOf 9 = .ok (.iadd, 1) := by decide +kernel
theorem dX8_wordsOf_10 : decode cX8_wordsOf 10 = .ok (.aload_n 0, 1) := by decide +kernel
theorem dX8_wordsOf_11 : decode cX8_wordsOf 11 = .ok (.getfield 7, 3) := by decide +kernel
theorem dX8_wordsOf_14 : decode cX8_wordsOf 14 = .ok (.iload_n 3, 1) := by decide +kernel
theorem dX8_wordsOf_15 : decode cX8_wordsOf 15 = .ok (.iaload, 1) := by decide +kernel
theorem dX8_wordsOf_16 : decode cX8_wordsOf 16 = .ok (.invokevirtual 32, 3) := by decide +kernel
theorem dX8_wordsOf_19 : decode cX8_wordsOf 19 = .ok (.ireturn, 1) := by decide +kernel
theorem dX8_isLabel_0 : decode cX8_isLabel 0 = .ok (.aload_n 0, 1) := by decide +kernel
theorem dX8_isLabel_1 : decode cX8_isLabel 1 = .ok (.getfield 7, 3) := by decide +kernel
theorem dX8_isLabel_4 : decode cX8_isLabel 4 = .ok (.iload_n 1, 1) := by decide +kernel
theorem dX8_isLabel_5 : decode cX8_isLabel 5 = .ok (.iload_n 2, 1) := by decide +kernel
theorem dX8_isLabel_6 : decode cX8_isLabel 6 = .ok (.invokestatic 28, 3) := by decide +kernel
theorem dX8_isLabel_9 : decode cX8_isLabel 9 = .ok (.iaload, 1) := by decide +kernel
theorem dX8_isLabel_10 : decode cX8_isLabel 10 = .ok (.ifCond .le 7, 3) := by decide +kernel
theorem dX8_isLabel_13 : decode cX8_isLabel 13 = .ok (.iconst 1, 1) := by decide +kernel
theorem dX8_isLabel_14 : decode cX8_isLabel 14 = .ok (.goto 4, 3) := by decide +kernel
theorem dX8_isLabel_17 : decode cX8_isLabel 17 = .ok (.iconst 0, 1) := by decide +kernel
theorem dX8_isLabel_18 : decode cX8_isLabel 18 = .ok (.ireturn, 1) := by decide +kernel
theorem dX8_begin_0 : decode cX8_begin 0 = .ok (.iload_n 3, 1) := by decide +kernel
theorem dX8_begin_1 : decode cX8_begin 1 = .ok (.istore 4, 2) := by decide +kernel
theorem dX8_begin_3 : decode cX8_begin 3 = .ok (.iconst 0, 1) := by decide +kernel
theorem dX8_begin_4 : decode cX8_begin 4 = .ok (.istore 5, 2) := by decide +kernel
theorem dX8_begin_6 : decode cX8_begin 6 = .ok (.iload 4, 2) := by decide +kernel
theorem dX8_begin_8 : decode cX8_begin 8 = .ok (.ifCond .le 33, 3) := by decide +kernel
theorem dX8_begin_11 : decode cX8_begin 11 = .ok (.iload 4, 2) := by decide +kernel
theorem dX8_begin_13 : decode cX8_begin 13 = .ok (.aload_n 0, 1) := by decide +kernel
theorem dX8_begin_14 : decode cX8_begin 14 = .ok (.getfield 7, 3) := by decide +kernel
theorem dX8_begin_17 : decode cX8_begin 17 = .ok (.iload_n 1, 1) := by decide +kernel
theorem dX8_begin_18 : decode cX8_begin 18 = .ok (.iload 5, 2) := by decide +kernel
theorem dX8_begin_20 : decode cX8_begin 20 = .ok (.iadd, 1) := by decide +kernel
theorem dX8_begin_21 : decode cX8_begin 21 = .ok (.iaload, 1) := by decide +kernel
theorem dX8_begin_22 : decode cX8_begin 22 = .ok (.bipush 32, 2) := by decide +kernel
theorem dX8_begin_24 : decode cX8_begin 24 = .ok (.if_icmp .ne 7, 3) := by decide +kernel
theorem dX8_begin_27 : decode cX8_begin 27 = .ok (.iconst 1, 1) := by decide +kernel
theorem dX8_begin_28 : decode cX8_begin 28 = .ok (.goto 4, 3) := by decide +kernel
theorem dX8_begin_31 : decode cX8_begin 31 = .ok (.iconst 0, 1) := by decide +kernel
theorem dX8_begin_32 : decode cX8_begin 32 = .ok (.isub, 1) := by decide +kernel
theorem dX8_begin_33 : decode cX8_begin 33 = .ok (.istore 4, 2) := by decide +kernel
theorem dX8_begin_35 : decode cX8_begin 35 = .ok (.iinc 5 1, 3) := by decide +kernel
theorem dX8_begin_38 : decode cX8_begin 38 = .ok (.goto (-32), 3) := by decide +kernel
theorem dX8_begin_41 : decode cX8_begin 41 = .ok (.iload 5, 2) := by decide +kernel
theorem dX8_begin_43 : decode cX8_begin 43 = .ok (.ireturn, 1) := by decide +kernel
theorem dX8_end_0 : decode cX8_end 0 = .ok (.iload_n 3, 1) := by decide +kernel
theorem dX8_end_1 : decode cX8_end 1 = .ok (.istore 4, 2) := by decide +kernel
theorem dX8_end_3 : decode cX8_end 3 = .ok (.iload 4, 2) := by decide +kernel
theorem dX8_end_5 : decode cX8_end 5 = .ok (.iload_n 2, 1) := by decide +kernel
theorem dX8_end_6 : decode cX8_end 6 = .ok (.if_icmp .ge 23, 3) := by decide +kernel
theorem dX8_end_9 : decode cX8_end 9 = .ok (.aload_n 0, 1) := by decide +kernel
theorem dX8_end_10 : decode cX8_end 10 = .ok (.getfield 7, 3) := by decide +kernel
theorem dX8_end_13 : decode cX8_end 13 = .ok (.iload_n 1, 1) := by decide +kernel
theorem dX8_end_14 : decode cX8_end 14 = .ok (.iload 4, 2) := by decide +kernel
theorem dX8_end_16 : decode cX8_end 16 = .ok (.iadd, 1) := by decide +kernel
theorem dX8_end_17 : decode cX8_end 17 = .ok (.iaload, 1) := by decide +kernel
theorem dX8_end_18 : decode cX8_end 18 = .ok (.bipush 32, 2) := by decide +kernel
theorem dX8_end_20 : decode cX8_end 20 = .ok (.if_icmp .eq 9, 3) := by decide +kernel
theorem dX8_end_23 : decode cX8_end 23 = .ok (.iinc 4 1, 3) := by decide +kernel
theorem dX8_end_26 : decode cX8_end 26 = .ok (.goto (-23), 3) := by decide +kernel
theorem dX8_end_29 : decode cX8_end 29 = .ok (.iload 4, 2) := by decide +kernel
theorem dX8_end_31 : decode cX8_end 31 = .ok (.ireturn, 1) := by decide +kernel
theorem dX8_areAlike_0 : decode cX8_areAlike 0 = .ok (.aload_n 0, 1) := by decide +kernel
theorem dX8_areAlike_1 : decode cX8_areAlike 1 = .ok (.iload_n 1, 1) := by decide +kernel
theorem dX8_areAlike_2 : decode cX8_areAlike 2 = .ok (.iload_n 2, 1) := by decide +kernel
theorem dX8_areAlike_3 : decode cX8_areAlike 3 = .ok (.iload_n 3, 1) := by decide +kernel
theorem dX8_areAlike_4 : decode cX8_areAlike 4 = .ok (.invokevirtual 35, 3) := by decide +kernel
theorem dX8_areAlike_7 : decode cX8_areAlike 7 = .ok (.istore 7, 2) := by decide +kernel
theorem dX8_areAlike_9 : decode cX8_areAlike 9 = .ok (.aload_n 0, 1) := by decide +kernel
theorem dX8_areAlike_10 : decode cX8_areAlike 10 = .ok (.iload 4, 2) := by decide +kernel
theorem dX8_areAlike_12 : decode cX8_areAlike 12 = .ok (.iload 5, 2) := by decide +kernel
theorem dX8_areAlike_14 : decode cX8_areAlike 14 = .ok (.iload 6, 2) := by decide +kernel
theorem dX8_areAlike_16 : decode cX8_areAlike 16 = .ok (.invokevirtual 35, 3) := by decide +kernel
theorem dX8_areAlike_19 : decode cX8_areAlike 19 = .ok (.istore 8, 2) := by decide +kernel
theorem dX8_areAlike_21 : decode cX8_areAlike 21 = .ok (.aload_n 0, 1) := by decide +kernel
theorem dX8_areAlike_22 : decode cX8_areAlike 22 = .ok (.iload_n 1, 1) := by decide +kernel
theorem dX8_areAlike_23 : decode cX8_areAlike 23 = .ok (.iload_n 2, 1) := by decide +kernel
theorem dX8_areAlike_24 : decode cX8_areAlike 24 = .ok (.iload 7, 2) := by decide +kernel
theorem dX8_areAlike_26 : decode cX8_areAlike 26 = .ok (.invokevirtual 39, 3) := by decide +kernel
theorem dX8_areAlike_29 : decode cX8_areAlike 29 = .ok (.iload 7, 2) := by decide +kernel
theorem dX8_areAlike_31 : decode cX8_areAlike 31 = .ok (.isub, 1) := by decide +kernel
theorem dX8_areAlike_32 : decode cX8_areAlike 32 = .ok (.istore 9, 2) := by decide +kernel
theorem dX8_areAlike_34 : decode cX8_areAlike 34 = .ok (.aload_n 0, 1) := by decide +kernel
theorem dX8_areAlike_35 : decode cX8_areAlike 35 = .ok (.iload 4, 2) := by decide +kernel
theorem dX8_areAlike_37 : decode cX8_areAlike 37 = .ok (.iload 5, 2) := by decide +kernel
theorem dX8_areAlike_39 : decode cX8_areAlike 39 = .ok (.iload 8, 2) := by decide +kernel
theorem dX8_areAlike_41 : decode cX8_areAlike 41 = .ok (.invokevirtual 39, 3) := by decide +kernel
theorem dX8_areAlike_44 : decode cX8_areAlike 44 = .ok (.iload 8, 2) := by decide +kernel
theorem dX8_areAlike_46 : decode cX8_areAlike 46 = .ok (.isub, 1) := by decide +kernel
theorem dX8_areAlike_47 : decode cX8_areAlike 47 = .ok (.iload 9, 2) := by decide +kernel
theorem dX8_areAlike_49 : decode cX8_areAlike 49 = .ok (.if_icmp .ne 7, 3) := by decide +kernel
theorem dX8_areAlike_52 : decode cX8_areAlike 52 = .ok (.iconst 1, 1) := by decide +kernel
theorem dX8_areAlike_53 : decode cX8_areAlike 53 = .ok (.goto 4, 3) := by decide +kernel
theorem dX8_areAlike_56 : decode cX8_areAlike 56 = .ok (.iconst 0, 1) := by decide +kernel
theorem dX8_areAlike_57 : decode cX8_areAlike 57 = .ok (.istore 10, 2) := by decide +kernel
theorem dX8_areAlike_59 : decode cX8_areAlike 59 = .ok (.iconst 0, 1) := by decide +kernel
theorem dX8_areAlike_60 : decode cX8_areAlike 60 = .ok (.istore 11, 2) := by decide +kernel
theorem dX8_areAlike_62 : decode cX8_areAlike 62 = .ok (.iload 11, 2) := by decide +kernel
theorem dX8_areAlike_64 : decode cX8_areAlike 64 = .ok (.iload 9, 2) := by decide +kernel
theorem dX8_areAlike_66 : decode cX8_areAlike 66 = .ok (.if_icmp .ge 49, 3) := by decide +kernel
theorem dX8_areAlike_69 : decode cX8_areAlike 69 = .ok (.iload 10, 2) := by decide +kernel
theorem dX8_areAlike_71 : decode cX8_areAlike 71 = .ok (.ifCond .eq 44, 3) := by decide +kernel
theorem dX8_areAlike_74 : decode cX8_areAlike 74 = .ok (.aload_n 0, 1) := by decide +kernel
theorem dX8_areAlike_75 : decode cX8_areAlike 75 = .ok (.getfield 7, 3) := by decide +kernel
theorem dX8_areAlike_78 : decode cX8_areAlike 78 = .ok (.iload_n 1, 1) := by decide +kernel
theorem dX8_areAlike_79 : decode cX8_areAlike 79 = .ok (.iload 7, 2) := by decide +kernel
theorem dX8_areAlike_81 : decode cX8_areAlike 81 = .ok (.iadd, 1) := by decide +kernel
theorem dX8_areAlike_82 : decode cX8_areAlike 82 = .ok (.iload 11, 2) := by decide +kernel
theorem dX8_areAlike_84 : decode cX8_areAlike 84 = .ok (.iadd, 1) := by decide +kernel
theorem dX8_areAlike_85 : decode cX8_areAlike 85 = .ok (.iaload, 1) := by decide +kernel
theorem dX8_areAlike_86 : decode cX8_areAlike 86 = .ok (.aload_n 0, 1) := by decide +kernel
theorem dX8_areAlike_87 : decode cX8_areAlike 87 = .ok (.getfield 7, 3) := by decide +kernel
theorem dX8_areAlike_90 : decode cX8_areAlike 90 = .ok (.iload 4, 2) := by decide +kernel
theorem dX8_areAlike_92 : decode cX8_areAlike 92 = .ok (.iload 8, 2) := by decide +kernel
theorem dX8_areAlike_94 : decode cX8_areAlike 94 = .ok (.iadd, 1) := by decide +kernel
theorem dX8_areAlike_95 : decode cX8_areAlike 95 = .ok (.iload 11, 2) := by decide +kernel
theorem dX8_areAlike_97 : decode cX8_areAlike 97 = .ok (.iadd, 1) := by decide +kernel
theorem dX8_areAlike_98 : decode cX8_areAlike 98 = .ok (.iaload, 1) := by decide +kernel
theorem dX8_areAlike_99 : decode cX8_areAlike 99 = .ok (.if_icmp .ne 7, 3) := by decide +kernel
theorem dX8_areAlike_102 : decode cX8_areAlike 102 = .ok (.iconst 1, 1) := by decide +kernel
theorem dX8_areAlike_103 : decode cX8_areAlike 103 = .ok (.goto 4, 3) := by decide +kernel
theorem dX8_areAlike_106 : decode cX8_areAlike 106 = .ok (.iconst 0, 1) := by decide +kernel
theorem dX8_areAlike_107 : decode cX8_areAlike 107 = .ok (.istore 10, 2) := by decide +kernel
theorem dX8_areAlike_109 : decode cX8_areAlike 109 = .ok (.iinc 11 1, 3) := by decide +kernel
theorem dX8_areAlike_112 : decode cX8_areAlike 112 = .ok (.goto (-50), 3) := by decide +kernel
theorem dX8_areAlike_115 : decode cX8_areAlike 115 = .ok (.iload 10, 2) := by decide +kernel
theorem dX8_areAlike_117 : decode cX8_areAlike 117 = .ok (.ireturn, 1) := by decide +kernel
theorem dX8_cuts_0 : decode cX8_cuts 0 = .ok (.iload_n 1, 1) := by decide +kernel
theorem dX8_cuts_1 : decode cX8_cuts 1 = .ok (.iload_n 2, 1) := by decide +kernel
theorem dX8_cuts_2 : decode cX8_cuts 2 = .ok (.invokestatic 28, 3) := by decide +kernel
theorem dX8_cuts_5 : decode cX8_cuts 5 = .ok (.istore_n 3, 1) := by decide +kernel
theorem dX8_cuts_6 : decode cX8_cuts 6 = .ok (.aload_n 0, 1) := by decide +kernel
theorem dX8_cuts_7 : decode cX8_cuts 7 = .ok (.getfield 7, 3) := by decide +kernel
theorem dX8_cuts_10 : decode cX8_cuts 10 = .ok (.bipush 12, 2) := by decide +kernel
theorem dX8_cuts_12 : decode cX8_cuts 12 = .ok (.aload_n 0, 1) := by decide +kernel
theorem dX8_cuts_13 : decode cX8_cuts 13 = .ok (.getfield 7, 3) := by decide +kernel
theorem dX8_cuts_16 : decode cX8_cuts 16 = .ok (.iload_n 1, 1) := by decide +kernel
theorem dX8_cuts_17 : decode cX8_cuts 17 = .ok (.iaload, 1) := by decide +kernel
theorem dX8_cuts_18 : decode cX8_cuts 18 = .ok (.iadd, 1) := by decide +kernel
theorem dX8_cuts_19 : decode cX8_cuts 19 = .ok (.iaload, 1) := by decide +kernel
theorem dX8_cuts_20 : decode cX8_cuts 20 = .ok (.istore 4, 2) := by decide +kernel
theorem dX8_cuts_22 : decode cX8_cuts 22 = .ok (.aload_n 0, 1) := by decide +kernel
theorem dX8_cuts_23 : decode cX8_cuts 23 = .ok (.iload_n 1, 1) := by decide +kernel
theorem dX8_cuts_24 : decode cX8_cuts 24 = .ok (.iload_n 2, 1) := by decide +kernel
theorem dX8_cuts_25 : decode cX8_cuts 25 = .ok (.invokevirtual 42, 3) := by decide +kernel
theorem dX8_cuts_28 : decode cX8_cuts 28 = .ok (.iload 4, 2) := by decide +kernel
theorem dX8_cuts_30 : decode cX8_cuts 30 = .ok (.if_icmp .gt 5, 3) := by decide +kernel
theorem dX8_cuts_33 : decode cX8_cuts 33 = .ok (.iconst 0, 1) := by decide +kernel
theorem dX8_cuts_34 : decode cX8_cuts 34 = .ok (.ireturn, 1) := by decide +kernel
theorem dX8_cuts_35 : decode cX8_cuts 35 = .ok (.aload_n 0, 1) := by decide +kernel
theorem dX8_cuts_36 : decode cX8_cuts 36 = .ok (.getfield 7, 3) := by decide +kernel
theorem dX8_cuts_39 : decode cX8_cuts 39 = .ok (.iload_n 3, 1) := by decide +kernel
theorem dX8_cuts_40 : decode cX8_cuts 40 = .ok (.aload_n 0, 1) := by decide +kernel
theorem dX8_cuts_41 : decode cX8_cuts 41 = .ok (.iload_n 3, 1) := by decide +kernel
theorem dX8_cuts_42 : decode cX8_cuts 42 = .ok (.iconst 4, 1) := by decide +kernel
theorem dX8_cuts_43 : decode cX8_cuts 43 = .ok (.iadd, 1) := by decide +kernel
theorem dX8_cuts_44 : decode cX8_cuts 44 = .ok (.aload_n 0, 1) := by decide +kernel
theorem dX8_cuts_45 : decode cX8_cuts 45 = .ok (.getfield 7, 3) := by decide +kernel
theorem dX8_cuts_48 : decode cX8_cuts 48 = .ok (.iload_n 3, 1) := by decide +kernel
theorem dX8_cuts_49 : decode cX8_cuts 49 = .ok (.iaload, 1) := by decide +kernel
theorem dX8_cuts_50 : decode cX8_cuts 50 = .ok (.iload 4, 2) := by decide +kernel
theorem dX8_cuts_52 : decode cX8_cuts 52 = .ok (.invokevirtual 35, 3) := by decide +kernel
theorem dX8_cuts_55 : decode cX8_cuts 55 = .ok (.iconst 1, 1) := by decide +kernel
theorem dX8_cuts_56 : decode cX8_cuts 56 = .ok (.isub, 1) := by decide +kernel
theorem dX8_cuts_57 : decode cX8_cuts 57 = .ok (.iastore, 1) := by decide +kernel
theorem dX8_cuts_58 : decode cX8_cuts 58 = .ok (.aload_n 0, 1) := by decide +kernel
theorem dX8_cuts_59 : decode cX8_cuts 59 = .ok (.getfield 7, 3) := by decide +kernel
theorem dX8_cuts_62 : decode cX8_cuts 62 = .ok (.iload_n 3, 1) := by decide +kernel
theorem dX8_cuts_63 : decode cX8_cuts 63 = .ok (.iconst 3, 1) := by decide +kernel
theorem dX8_cuts_64 : decode cX8_cuts 64 = .ok (.iadd, 1) := by decide +kernel
theorem dX8_cuts_65 : decode cX8_cuts 65 = .ok (.dup2, 1) := by decide +kernel
theorem dX8_cuts_66 : decode cX8_cuts 66 = .ok (.iaload, 1) := by decide +kernel
theorem dX8_cuts_67 : decode cX8_cuts 67 = .ok (.iconst 1, 1) := by decide +kernel
theorem dX8_cuts_68 : decode cX8_cuts 68 = .ok (.iadd, 1) := by decide +kernel
theorem dX8_cuts_69 : decode cX8_cuts 69 = .ok (.iastore, 1) := by decide +kernel
theorem dX8_cuts_70 : decode cX8_cuts 70 = .ok (.aload_n 0, 1) := by decide +kernel
theorem dX8_cuts_71 : decode cX8_cuts 71 = .ok (.getfield 7, 3) := by decide +kernel
theorem dX8_cuts_74 : decode cX8_cuts 74 = .ok (.bipush 21, 2) := by decide +kernel
theorem dX8_cuts_76 : decode cX8_cuts 76 = .ok (.dup2, 1) := by decide +kernel
theorem dX8_cuts_77 : decode cX8_cuts 77 = .ok (.iaload, 1) := by decide +kernel
theorem dX8_cuts_78 : decode cX8_cuts 78 = .ok (.iconst 1, 1) := by decide +kernel
theorem dX8_cuts_79 : decode cX8_cuts 79 = .ok (.iadd, 1) := by decide +kernel
theorem dX8_cuts_80 : decode cX8_cuts 80 = .ok (.iastore, 1) := by decide +kernel
theorem dX8_cuts_81 : decode cX8_cuts 81 = .ok (.iconst 1, 1) := by decide +kernel
theorem dX8_cuts_82 : decode cX8_cuts 82 = .ok (.ireturn, 1) := by decide +kernel
theorem dX8_cutsAll_0 : decode cX8_cutsAll 0 = .ok (.iconst 0, 1) := by decide +kernel
theorem dX8_cutsAll_1 : decode cX8_cutsAll 1 = .ok (.istore_n 2, 1) := by decide +kernel
theorem dX8_cutsAll_2 : decode cX8_cutsAll 2 = .ok (.iconst 0, 1) := by decide +kernel
theorem dX8_cutsAll_3 : decode cX8_cutsAll 3 = .ok (.istore_n 3, 1) := by decide +kernel
theorem dX8_cutsAll_4 : decode cX8_cutsAll 4 = .ok (.iload_n 3, 1) := by decide +kernel
theorem dX8_cutsAll_5 : decode cX8_cutsAll 5 = .ok (.iconst 3, 1) := by decide +kernel
theorem dX8_cutsAll_6 : decode cX8_cutsAll 6 = .ok (.if_icmp .ge 26, 3) := by decide +kernel
theorem dX8_cutsAll_9 : decode cX8_cutsAll 9 = .ok (.iload_n 2, 1) := by decide +kernel
theorem dX8_cutsAll_10 : decode cX8_cutsAll 10 = .ok (.aload_n 0, 1) := by decide +kernel
theorem dX8_cutsAll_11 : decode cX8_cutsAll 11 = .ok (.iload_n 1, 1) := by decide +kernel
theorem dX8_cutsAll_12 : decode cX8_cutsAll 12 = .ok (.iload_n 3, 1) := by decide +kernel
theorem dX8_cutsAll_13 : decode cX8_cutsAll 13 = .ok (.invokevirtual 45, 3) := by decide +kernel
theorem dX8_cutsAll_16 : decode cX8_cutsAll 16 = .ok (.ifCond .eq 7, 3) := by decide +kernel
theorem dX8_cutsAll_19 : decode cX8_cutsAll 19 = .ok (.iconst 1, 1) := by decide +kernel
theorem dX8_cutsAll_20 : decode cX8_cutsAll 20 = .ok (.goto 4, 3) := by decide +kernel
theorem dX8_cutsAll_23 : decode cX8_cutsAll 23 = .ok (.iconst 0, 1) := by decide +kernel
theorem dX8_cutsAll_24 : decode cX8_cutsAll 24 = .ok (.iadd, 1) := by decide +kernel
theorem dX8_cutsAll_25 : decode cX8_cutsAll 25 = .ok (.istore_n 2, 1) := by decide +kernel
theorem dX8_cutsAll_26 : decode cX8_cutsAll 26 = .ok (.iinc 3 1, 3) := by decide +kernel
theorem dX8_cutsAll_29 : decode cX8_cutsAll 29 = .ok (.goto (-25), 3) := by decide +kernel
theorem dX8_cutsAll_32 : decode cX8_cutsAll 32 = .ok (.iload_n 2, 1) := by decide +kernel
theorem dX8_cutsAll_33 : decode cX8_cutsAll 33 = .ok (.ireturn, 1) := by decide +kernel
theorem dX8_placeOf_0 : decode cX8_placeOf 0 = .ok (.iconst (-1), 1) := by decide +kernel
theorem dX8_placeOf_1 : decode cX8_placeOf 1 = .ok (.istore_n 2, 1) := by decide +kernel
theorem dX8_placeOf_2 : decode cX8_placeOf 2 = .ok (.iconst 0, 1) := by decide +kernel
theorem dX8_placeOf_3 : decode cX8_placeOf 3 = .ok (.istore_n 3, 1) := by decide +kernel
theorem dX8_placeOf_4 : decode cX8_placeOf 4 = .ok (.iload_n 3, 1) := by decide +kernel
theorem dX8_placeOf_5 : decode cX8_placeOf 5 = .ok (.bipush 16, 2) := by decide +kernel
theorem dX8_placeOf_7 : decode cX8_placeOf 7 = .ok (.if_icmp .ge 32, 3) := by decide +kernel
theorem dX8_placeOf_10 : decode cX8_placeOf 10 = .ok (.iload_n 1, 1) := by decide +kernel
theorem dX8_placeOf_11 : decode cX8_placeOf 11 = .ok (.ifCond .lt 20, 3) := by decide +kernel
theorem dX8_placeOf_14 : decode cX8_placeOf 14 = .ok (.aload_n 0, 1) := by decide +kernel
theorem dX8_placeOf_15 : decode cX8_placeOf 15 = .ok (.getfield 7, 3) := by decide +kernel
theorem dX8_placeOf_18 : decode cX8_placeOf 18 = .ok (.iload_n 3, 1) := by decide +kernel
theorem dX8_placeOf_19 : decode cX8_placeOf 19 = .ok (.invokestatic 49, 3) := by decide +kernel
theorem dX8_placeOf_22 : decode cX8_placeOf 22 = .ok (.iaload, 1) := by decide +kernel
theorem dX8_placeOf_23 : decode cX8_placeOf 23 = .ok (.iload_n 1, 1) := by decide +kernel
theorem dX8_placeOf_24 : decode cX8_placeOf 24 = .ok (.if_icmp .ne 7, 3) := by decide +kernel
theorem dX8_placeOf_27 : decode cX8_placeOf 27 = .ok (.iload_n 3, 1) := by decide +kernel
theorem dX8_placeOf_28 : decode cX8_placeOf 28 = .ok (.goto 4, 3) := by decide +kernel
theorem dX8_placeOf_31 : decode cX8_placeOf 31 = .ok (.iload_n 2, 1) := by decide +kernel
theorem dX8_placeOf_32 : decode cX8_placeOf 32 = .ok (.istore_n 2, 1) := by decide +kernel
theorem dX8_placeOf_33 : decode cX8_placeOf 33 = .ok (.iinc 3 1, 3) := by decide +kernel
theorem dX8_placeOf_36 : decode cX8_placeOf 36 = .ok (.goto (-32), 3) := by decide +kernel
theorem dX8_placeOf_39 : decode cX8_placeOf 39 = .ok (.iload_n 2, 1) := by decide +kernel
theorem dX8_placeOf_40 : decode cX8_placeOf 40 = .ok (.ireturn, 1) := by decide +kernel
theorem dX8_votesFor_0 : decode cX8_votesFor 0 = .ok (.iconst 0, 1) := by decide +kernel
theorem dX8_votesFor_1 : decode cX8_votesFor 1 = .ok (.istore_n 2, 1) := by decide +kernel
theorem dX8_votesFor_2 : decode cX8_votesFor 2 = .ok (.bipush 32, 2) := by decide +kernel
theorem dX8_votesFor_4 : decode cX8_votesFor 4 = .ok (.istore_n 3, 1) := by decide +kernel
theorem dX8_votesFor_5 : decode cX8_votesFor 5 = .ok (.iload_n 3, 1) := by decide +kernel
theorem dX8_votesFor_6 : decode cX8_votesFor 6 = .ok (.sipush 272, 3) := by decide +kernel
theorem dX8_votesFor_9 : decode cX8_votesFor 9 = .ok (.if_icmp .ge 27, 3) := by decide +kernel
theorem dX8_votesFor_12 : decode cX8_votesFor 12 = .ok (.iload_n 2, 1) := by decide +kernel
theorem dX8_votesFor_13 : decode cX8_votesFor 13 = .ok (.aload_n 0, 1) := by decide +kernel
theorem dX8_votesFor_14 : decode cX8_votesFor 14 = .ok (.getfield 7, 3) := by decide +kernel
theorem dX8_votesFor_17 : decode cX8_votesFor 17 = .ok (.iload_n 3, 1) := by decide +kernel
theorem dX8_votesFor_18 : decode cX8_votesFor 18 = .ok (.iaload, 1) := by decide +kernel
theorem dX8_votesFor_19 : decode cX8_votesFor 19 = .ok (.iload_n 1, 1) := by decide +kernel
theorem dX8_votesFor_20 : decode cX8_votesFor 20 = .ok (.if_icmp .ne 7, 3) := by decide +kernel
theorem dX8_votesFor_23 : decode cX8_votesFor 23 = .ok (.iconst 1, 1) := by decide +kernel
theorem dX8_votesFor_24 : decode cX8_votesFor 24 = .ok (.goto 4, 3) := by decide +kernel
theorem dX8_votesFor_27 : decode cX8_votesFor 27 = .ok (.iconst 0, 1) := by decide +kernel
theorem dX8_votesFor_28 : decode cX8_votesFor 28 = .ok (.iadd, 1) := by decide +kernel
theorem dX8_votesFor_29 : decode cX8_votesFor 29 = .ok (.istore_n 2, 1) := by decide +kernel
theorem dX8_votesFor_30 : decode cX8_votesFor 30 = .ok (.iinc 3 1, 3) := by decide +kernel
theorem dX8_votesFor_33 : decode cX8_votesFor 33 = .ok (.goto (-28), 3) := by decide +kernel
theorem dX8_votesFor_36 : decode cX8_votesFor 36 = .ok (.iload_n 2, 1) := by decide +kernel
theorem dX8_votesFor_37 : decode cX8_votesFor 37 = .ok (.ireturn, 1) := by decide +kernel
theorem dX8_goes_0 : decode cX8_goes 0 = .ok (.bipush 32, 2) := by decide +kernel
theorem dX8_goes_2 : decode cX8_goes 2 = .ok (.istore_n 2, 1) := by decide +kernel
theorem dX8_goes_3 : decode cX8_goes 3 = .ok (.iload_n 2, 1) := by decide +kernel
theorem dX8_goes_4 : decode cX8_goes 4 = .ok (.sipush 272, 3) := by decide +kernel
theorem dX8_goes_7 : decode cX8_goes 7 = .ok (.if_icmp .ge 43, 3) := by decide +kernel
theorem dX8_goes_10 : decode cX8_goes 10 = .ok (.aload_n 0, 1) := by decide +kernel
theorem dX8_goes_11 : decode cX8_goes 11 = .ok (.getfield 7, 3) := by decide +kernel
theorem dX8_goes_14 : decode cX8_goes 14 = .ok (.iload_n 2, 1) := by decide +kernel
theorem dX8_goes_15 : decode cX8_goes 15 = .ok (.aload_n 0, 1) := by decide +kernel
theorem dX8_goes_16 : decode cX8_goes 16 = .ok (.getfield 7, 3) := by decide +kernel
theorem dX8_goes_19 : decode cX8_goes 19 = .ok (.iload_n 2, 1) := by decide +kernel
theorem dX8_goes_20 : decode cX8_goes 20 = .ok (.iaload, 1) := by decide +kernel
theorem dX8_goes_21 : decode cX8_goes 21 = .ok (.aload_n 0, 1) := by decide +kernel
theorem dX8_goes_22 : decode cX8_goes 22 = .ok (.getfield 7, 3) := by decide +kernel
theorem dX8_goes_25 : decode cX8_goes 25 = .ok (.iload_n 1, 1) := by decide +kernel
theorem dX8_goes_26 : decode cX8_goes 26 = .ok (.invokestatic 49, 3) := by decide +kernel
theorem dX8_goes_29 : decode cX8_goes 29 = .ok (.iaload, 1) := by decide +kernel
theorem dX8_goes_30 : decode cX8_goes 30 = .ok (.if_icmp .ne 7, 3) := by decide +kernel
theorem dX8_goes_33 : decode cX8_goes 33 = .ok (.iconst (-1), 1) := by decide +kernel
theorem dX8_goes_34 : decode cX8_goes 34 = .ok (.goto 9, 3) := by decide +kernel
theorem dX8_goes_37 : decode cX8_goes 37 = .ok (.aload_n 0, 1) := by decide +kernel
theorem dX8_goes_38 : decode cX8_goes 38 = .ok (.getfield 7, 3) := by decide +kernel
theorem dX8_goes_41 : decode cX8_goes 41 = .ok (.iload_n 2, 1) := by decide +kernel
theorem dX8_goes_42 : decode cX8_goes 42 = .ok (.iaload, 1) := by decide +kernel
theorem dX8_goes_43 : decode cX8_goes 43 = .ok (.iastore, 1) := by decide +kernel
theorem dX8_goes_44 : decode cX8_goes 44 = .ok (.iinc 2 1, 3) := by decide +kernel
theorem dX8_goes_47 : decode cX8_goes 47 = .ok (.goto (-44), 3) := by decide +kernel
theorem dX8_goes_50 : decode cX8_goes 50 = .ok (.aload_n 0, 1) := by decide +kernel
theorem dX8_goes_51 : decode cX8_goes 51 = .ok (.getfield 7, 3) := by decide +kernel
theorem dX8_goes_54 : decode cX8_goes 54 = .ok (.iload_n 1, 1) := by decide +kernel
theorem dX8_goes_55 : decode cX8_goes 55 = .ok (.invokestatic 49, 3) := by decide +kernel
theorem dX8_goes_58 : decode cX8_goes 58 = .ok (.iconst (-1), 1) := by decide +kernel
theorem dX8_goes_59 : decode cX8_goes 59 = .ok (.iastore, 1) := by decide +kernel
theorem dX8_goes_60 : decode cX8_goes 60 = .ok (.return_, 1) := by decide +kernel
theorem dX8_best_0 : decode cX8_best 0 = .ok (.iconst (-1), 1) := by decide +kernel
theorem dX8_best_1 : decode cX8_best 1 = .ok (.istore_n 3, 1) := by decide +kernel
theorem dX8_best_2 : decode cX8_best 2 = .ok (.iconst 0, 1) := by decide +kernel
theorem dX8_best_3 : decode cX8_best 3 = .ok (.istore 4, 2) := by decide +kernel
theorem dX8_best_5 : decode cX8_best 5 = .ok (.iload 4, 2) := by decide +kernel
theorem dX8_best_7 : decode cX8_best 7 = .ok (.bipush 16, 2) := by decide +kernel
theorem dX8_best_9 : decode cX8_best 9 = .ok (.if_icmp .ge 222, 3) := by decide +kernel
theorem dX8_best_12 : decode cX8_best 12 = .ok (.iload 4, 2) := by decide +kernel
theorem dX8_best_14 : decode cX8_best 14 = .ok (.invokestatic 49, 3) := by decide +kernel
theorem dX8_best_17 : decode cX8_best 17 = .ok (.istore 5, 2) := by decide +kernel
theorem dX8_best_19 : decode cX8_best 19 = .ok (.aload_n 0, 1) := by decide +kernel
theorem dX8_best_20 : decode cX8_best 20 = .ok (.getfield 7, 3) := by decide +kernel
theorem dX8_best_23 : decode cX8_best 23 = .ok (.iload 5, 2) := by decide +kernel
theorem dX8_best_25 : decode cX8_best 25 = .ok (.iaload, 1) := by decide +kernel
theorem dX8_best_26 : decode cX8_best 26 = .ok (.ifCond .lt 199, 3) := by decide +kernel
theorem dX8_best_29 : decode cX8_best 29 = .ok (.aload_n 0, 1) := by decide +kernel
theorem dX8_best_30 : decode cX8_best 30 = .ok (.getfield 7, 3) := by decide +kernel
theorem dX8_best_33 : decode cX8_best 33 = .ok (.iload 5, 2) := by decide +kernel
theorem dX8_best_35 : decode cX8_best 35 = .ok (.iconst 1, 1) := by decide +kernel
theorem dX8_best_36 : decode cX8_best 36 = .ok (.iadd, 1) := by decide +kernel
theorem dX8_best_37 : decode cX8_best 37 = .ok (.iaload, 1) := by decide +kernel
theorem dX8_best_38 : decode cX8_best 38 = .ok (.iconst 3, 1) := by decide +kernel
theorem dX8_best_39 : decode cX8_best 39 = .ok (.iload_n 1, 1) := by decide +kernel
theorem dX8_best_40 : decode cX8_best 40 = .ok (.imul, 1) := by decide +kernel
theorem dX8_best_41 : decode cX8_best 41 = .ok (.iload_n 2, 1) := by decide +kernel
theorem dX8_best_42 : decode cX8_best 42 = .ok (.iadd, 1) := by decide +kernel
theorem dX8_best_43 : decode cX8_best 43 = .ok (.if_icmp .ne 182, 3) := by decide +kernel
theorem dX8_best_46 : decode cX8_best 46 = .ok (.aload_n 0, 1) := by decide +kernel
theorem dX8_best_47 : decode cX8_best 47 = .ok (.aload_n 0, 1) := by decide +kernel
theorem dX8_best_48 : decode cX8_best 48 = .ok (.getfield 7, 3) := by decide +kernel
theorem dX8_best_51 : decode cX8_best 51 = .ok (.iload 5, 2) := by decide +kernel
theorem dX8_best_53 : decode cX8_best 53 = .ok (.iaload, 1) := by decide +kernel
theorem dX8_best_54 : decode cX8_best 54 = .ok (.invokevirtual 53, 3) := by decide +kernel
theorem dX8_best_57 : decode cX8_best 57 = .ok (.istore 6, 2) := by decide +kernel
theorem dX8_best_59 : decode cX8_best 59 = .ok (.aload_n 0, 1) := by decide +kernel
theorem dX8_best_60 : decode cX8_best 60 = .ok (.iload 5, 2) := by decide +kernel
theorem dX8_best_62 : decode cX8_best 62 = .ok (.iconst 5, 1) := by decide +kernel
theorem dX8_best_63 : decode cX8_best 63 = .ok (.iadd, 1) := by decide +kernel
theorem dX8_best_64 : decode cX8_best 64 = .ok (.aload_n 0, 1) := by decide +kernel
theorem dX8_best_65 : decode cX8_best 65 = .ok (.getfield 7, 3) := by decide +kernel
theorem dX8_best_68 : decode cX8_best 68 = .ok (.iload 5, 2) := by decide +kernel
theorem dX8_best_70 : decode cX8_best 70 = .ok (.iconst 4, 1) := by decide +kernel
theorem dX8_best_71 : decode cX8_best 71 = .ok (.iadd, 1) := by decide +kernel
theorem dX8_best_72 : decode cX8_best 72 = .ok (.iaload, 1) := by decide +kernel
theorem dX8_best_73 : decode cX8_best 73 = .ok (.invokevirtual 32, 3) := by decide +kernel
theorem dX8_best_76 : decode cX8_best 76 = .ok (.istore 7, 2) := by decide +kernel
theorem dX8_best_78 : decode cX8_best 78 = .ok (.iload 6, 2) := by decide +kernel
theorem dX8_best_80 : decode cX8_best 80 = .ok (.aload_n 0, 1) := by decide +kernel
theorem dX8_best_81 : decode cX8_best 81 = .ok (.getfield 7, 3) := by decide +kernel
theorem dX8_best_84 : decode cX8_best 84 = .ok (.bipush 16, 2) := by decide +kernel
theorem dX8_best_86 : decode cX8_best 86 = .ok (.iaload, 1) := by decide +kernel
theorem dX8_best_87 : decode cX8_best 87 = .ok (.if_icmp .lt 26, 3) := by decide +kernel
theorem dX8_best_90 : decode cX8_best 90 = .ok (.iload 7, 2) := by decide +kernel
theorem dX8_best_92 : decode cX8_best 92 = .ok (.aload_n 0, 1) := by decide +kernel
theorem dX8_best_93 : decode cX8_best 93 = .ok (.getfield 7, 3) := by decide +kernel
theorem dX8_best_96 : decode cX8_best 96 = .ok (.bipush 12, 2) := by decide +kernel
theorem dX8_best_98 : decode cX8_best 98 = .ok (.aload_n 0, 1) := by decide +kernel
theorem dX8_best_99 : decode cX8_best 99 = .ok (.getfield 7, 3) := by decide +kernel
theorem dX8_best_102 : decode cX8_best 102 = .ok (.iload_n 1, 1) := by decide +kernel
theorem dX8_best_103 : decode cX8_best 103 = .ok (.iaload, 1) := by decide +kernel
theorem dX8_best_104 : decode cX8_best 104 = .ok (.iadd, 1) := by decide +kernel
theorem dX8_best_105 : decode cX8_best 105 = .ok (.iaload, 1) := by decide +kernel
theorem dX8_best_106 : decode cX8_best 106 = .ok (.if_icmp .gt 7, 3) := by decide +kernel
theorem dX8_best_109 : decode cX8_best 109 = .ok (.iconst 1, 1) := by decide +kernel
theorem dX8_best_110 : decode cX8_best 110 = .ok (.goto 4, 3) := by decide +kernel
theorem dX8_best_113 : decode cX8_best 113 = .ok (.iconst 0, 1) := by decide +kernel
theorem dX8_best_114 : decode cX8_best 114 = .ok (.istore 8, 2) := by decide +kernel
theorem dX8_best_116 : decode cX8_best 116 = .ok (.iload 8, 2) := by decide +kernel
theorem dX8_best_118 : decode cX8_best 118 = .ok (.ifCond .eq 95, 3) := by decide +kernel
theorem dX8_best_121 : decode cX8_best 121 = .ok (.iload_n 3, 1) := by decide +kernel
theorem dX8_best_122 : decode cX8_best 122 = .ok (.ifCond .lt 91, 3) := by decide +kernel
theorem dX8_best_125 : decode cX8_best 125 = .ok (.iload_n 3, 1) := by decide +kernel
theorem dX8_best_126 : decode cX8_best 126 = .ok (.invokestatic 49, 3) := by decide +kernel
theorem dX8_best_129 : decode cX8_best 129 = .ok (.istore 9, 2) := by decide +kernel
theorem dX8_best_131 : decode cX8_best 131 = .ok (.iload 6, 2) := by decide +kernel
theorem dX8_best_133 : decode cX8_best 133 = .ok (.aload_n 0, 1) := by decide +kernel
theorem dX8_best_134 : decode cX8_best 134 = .ok (.aload_n 0, 1) := by decide +kernel
theorem dX8_best_135 : decode cX8_best 135 = .ok (.getfield 7, 3) := by decide +kernel
theorem dX8_best_138 : decode cX8_best 138 = .ok (.iload 9, 2) := by decide +kernel
theorem dX8_best_140 : decode cX8_best 140 = .ok (.iaload, 1) := by decide +kernel
theorem dX8_best_141 : decode cX8_best 141 = .ok (.invokevirtual 53, 3) := by decide +kernel
theorem dX8_best_144 : decode cX8_best 144 = .ok (.isub, 1) := by decide +kernel
theorem dX8_best_145 : decode cX8_best 145 = .ok (.istore 10, 2) := by decide +kernel
theorem dX8_best_147 : decode cX8_best 147 = .ok (.iload 7, 2) := by decide +kernel
theorem dX8_best_149 : decode cX8_best 149 = .ok (.aload_n 0, 1) := by decide +kernel
theorem dX8_best_150 : decode cX8_best 150 = .ok (.iload 9, 2) := by decide +kernel
theorem dX8_best_152 : decode cX8_best 152 = .ok (.iconst 5, 1) := by decide +kernel
theorem dX8_best_153 : decode cX8_best 153 = .ok (.iadd, 1) := by decide +kernel
theorem dX8_best_154 : decode cX8_best 154 = .ok (.aload_n 0, 1) := by decide +kernel
theorem dX8_best_155 : decode cX8_best 155 = .ok (.getfield 7, 3) := by decide +kernel
theorem dX8_best_158 : decode cX8_best 158 = .ok (.iload 9, 2) := by decide +kernel
theorem dX8_best_160 : decode cX8_best 160 = .ok (.iconst 4, 1) := by decide +kernel
theorem dX8_best_161 : decode cX8_best 161 = .ok (.iadd, 1) := by decide +kernel
theorem dX8_best_162 : decode cX8_best 162 = .ok (.iaload, 1) := by decide +kernel
theorem dX8_best_163 : decode cX8_best 163 = .ok (.invokevirtual 32, 3) := by decide +kernel
theorem dX8_best_166 : decode cX8_best 166 = .ok (.isub, 1) := by decide +kernel
theorem dX8_best_167 : decode cX8_best 167 = .ok (.istore 11, 2) := by decide +kernel
theorem dX8_best_169 : decode cX8_best 169 = .ok (.iload 10, 2) := by decide +kernel
theorem dX8_best_171 : decode cX8_best 171 = .ok (.ifCond .gt 35, 3) := by decide +kernel
theorem dX8_best_174 : decode cX8_best 174 = .ok (.iload 10, 2) := by decide +kernel
theorem dX8_best_176 : decode cX8_best 176 = .ok (.ifCond .ne 34, 3) := by decide +kernel
theorem dX8_best_179 : decode cX8_best 179 = .ok (.iload 11, 2) := by decide +kernel
theorem dX8_best_181 : decode cX8_best 181 = .ok (.ifCond .lt 25, 3) := by decide +kernel
theorem dX8_best_184 : decode cX8_best 184 = .ok (.iload 11, 2) := by decide +kernel
theorem dX8_best_186 : decode cX8_best 186 = .ok (.ifCond .ne 24, 3) := by decide +kernel
theorem dX8_best_189 : decode cX8_best 189 = .ok (.aload_n 0, 1) := by decide +kernel
theorem dX8_best_190 : decode cX8_best 190 = .ok (.getfield 7, 3) := by decide +kernel
theorem dX8_best_193 : decode cX8_best 193 = .ok (.iload 5, 2) := by decide +kernel
theorem dX8_best_195 : decode cX8_best 195 = .ok (.iaload, 1) := by decide +kernel
theorem dX8_best_196 : decode cX8_best 196 = .ok (.aload_n 0, 1) := by decide +kernel
theorem dX8_best_197 : decode cX8_best 197 = .ok (.getfield 7, 3) := by decide +kernel
theorem dX8_best_200 : decode cX8_best 200 = .ok (.iload 9, 2) := by decide +kernel
theorem dX8_best_202 : decode cX8_best 202 = .ok (.iaload, 1) := by decide +kernel
theorem dX8_best_203 : decode cX8_best 203 = .ok (.if_icmp .ge 7, 3) := by decide +kernel
theorem dX8_best_206 : decode cX8_best 206 = .ok (.iconst 1, 1) := by decide +kernel
theorem dX8_best_207 : decode cX8_best 207 = .ok (.goto 4, 3) := by decide +kernel
theorem dX8_best_210 : decode cX8_best 210 = .ok (.iconst 0, 1) := by decide +kernel
theorem dX8_best_211 : decode cX8_best 211 = .ok (.istore 8, 2) := by decide +kernel
theorem dX8_best_213 : decode cX8_best 213 = .ok (.iload 8, 2) := by decide +kernel
theorem dX8_best_215 : decode cX8_best 215 = .ok (.ifCond .eq 8, 3) := by decide +kernel
theorem dX8_best_218 : decode cX8_best 218 = .ok (.iload 4, 2) := by decide +kernel
theorem dX8_best_220 : decode cX8_best 220 = .ok (.goto 4, 3) := by decide +kernel
theorem dX8_best_223 : decode cX8_best 223 = .ok (.iload_n 3, 1) := by decide +kernel
theorem dX8_best_224 : decode cX8_best 224 = .ok (.istore_n 3, 1) := by decide +kernel
theorem dX8_best_225 : decode cX8_best 225 = .ok (.iinc 4 1, 3) := by decide +kernel
theorem dX8_best_228 : decode cX8_best 228 = .ok (.goto (-223), 3) := by decide +kernel
theorem dX8_best_231 : decode cX8_best 231 = .ok (.iload_n 3, 1) := by decide +kernel
theorem dX8_best_232 : decode cX8_best 232 = .ok (.ireturn, 1) := by decide +kernel
theorem dX8_fault_0 : decode cX8_fault 0 = .ok (.iconst 0, 1) := by decide +kernel
theorem dX8_fault_1 : decode cX8_fault 1 = .ok (.istore_n 1, 1) := by decide +kernel
theorem dX8_fault_2 : decode cX8_fault 2 = .ok (.iconst 0, 1) := by decide +kernel
theorem dX8_fault_3 : decode cX8_fault 3 = .ok (.istore_n 2, 1) := by decide +kernel
theorem dX8_fault_4 : decode cX8_fault 4 = .ok (.iload_n 2, 1) := by decide +kernel
theorem dX8_fault_5 : decode cX8_fault 5 = .ok (.aload_n 0, 1) := by decide +kernel
theorem dX8_fault_6 : decode cX8_fault 6 = .ok (.getfield 56, 3) := by decide +kernel
theorem dX8_fault_9 : decode cX8_fault 9 = .ok (.if_icmp .ge 46, 3) := by decide +kernel
theorem dX8_fault_12 : decode cX8_fault 12 = .ok (.aload_n 0, 1) := by decide +kernel
theorem dX8_fault_13 : decode cX8_fault 13 = .ok (.getfield 13, 3) := by decide +kernel
theorem dX8_fault_16 : decode cX8_fault 16 = .ok (.iload_n 2, 1) := by decide +kernel
theorem dX8_fault_17 : decode cX8_fault 17 = .ok (.caload, 1) := by decide +kernel
theorem dX8_fault_18 : decode cX8_fault 18 = .ok (.bipush 97, 2) := by decide +kernel
theorem dX8_fault_20 : decode cX8_fault 20 = .ok (.bipush 122, 2) := by decide +kernel
theorem dX8_fault_22 : decode cX8_fault 22 = .ok (.invokestatic 59, 3) := by decide +kernel
theorem dX8_fault_25 : decode cX8_fault 25 = .ok (.istore_n 3, 1) := by decide +kernel
theorem dX8_fault_26 : decode cX8_fault 26 = .ok (.iload_n 3, 1) := by decide +kernel
theorem dX8_fault_27 : decode cX8_fault 27 = .ok (.ifCond .ne 20, 3) := by decide +kernel
theorem dX8_fault_30 : decode cX8_fault 30 = .ok (.aload_n 0, 1) := by decide +kernel
theorem dX8_fault_31 : decode cX8_fault 31 = .ok (.getfield 13, 3) := by decide +kernel
theorem dX8_fault_34 : decode cX8_fault 34 = .ok (.iload_n 2, 1) := by decide +kernel
theorem dX8_fault_35 : decode cX8_fault 35 = .ok (.caload, 1) := by decide +kernel
theorem dX8_fault_36 : decode cX8_fault 36 = .ok (.bipush 32, 2) := by decide +kernel
theorem dX8_fault_38 : decode cX8_fault 38 = .ok (.if_icmp .ne 7, 3) := by decide +kernel
theorem dX8_fault_41 : decode cX8_fault 41 = .ok (.iload_n 1, 1) := by decide +kernel
theorem dX8_fault_42 : decode cX8_fault 42 = .ok (.ifCond .ne 5, 3) := by decide +kernel
theorem dX8_fault_45 : decode cX8_fault 45 = .ok (.iload_n 2, 1) := by decide +kernel
theorem dX8_fault_46 : decode cX8_fault 46 = .ok (.ireturn, 1) := by decide +kernel
theorem dX8_fault_47 : decode cX8_fault 47 = .ok (.iload_n 3, 1) := by decide +kernel
theorem dX8_fault_48 : decode cX8_fault 48 = .ok (.istore_n 1, 1) := by decide +kernel
theorem dX8_fault_49 : decode cX8_fault 49 = .ok (.iinc 2 1, 3) := by decide +kernel
theorem dX8_fault_52 : decode cX8_fault 52 = .ok (.goto (-48), 3) := by decide +kernel
theorem dX8_fault_55 : decode cX8_fault 55 = .ok (.iload_n 1, 1) := by decide +kernel
theorem dX8_fault_56 : decode cX8_fault 56 = .ok (.ifCond .eq 7, 3) := by decide +kernel
theorem dX8_fault_59 : decode cX8_fault 59 = .ok (.iconst (-1), 1) := by decide +kernel
theorem dX8_fault_60 : decode cX8_fault 60 = .ok (.goto 7, 3) := by decide +kernel
theorem dX8_fault_63 : decode cX8_fault 63 = .ok (.aload_n 0, 1) := by decide +kernel
theorem dX8_fault_64 : decode cX8_fault 64 = .ok (.getfield 56, 3) := by decide +kernel
theorem dX8_fault_67 : decode cX8_fault 67 = .ok (.ireturn, 1) := by decide +kernel
theorem dX8_wordsTold_0 : decode cX8_wordsTold 0 = .ok (.iconst 1, 1) := by decide +kernel
theorem dX8_wordsTold_1 : decode cX8_wordsTold 1 = .ok (.istore_n 1, 1) := by decide +kernel
theorem dX8_wordsTold_2 : decode cX8_wordsTold 2 = .ok (.iconst 0, 1) := by decide +kernel
theorem dX8_wordsTold_3 : decode cX8_wordsTold 3 = .ok (.istore_n 2, 1) := by decide +kernel
theorem dX8_wordsTold_4 : decode cX8_wordsTold 4 = .ok (.iload_n 2, 1) := by decide +kernel
theorem dX8_wordsTold_5 : decode cX8_wordsTold 5 = .ok (.aload_n 0, 1) := by decide +kernel
theorem dX8_wordsTold_6 : decode cX8_wordsTold 6 = .ok (.getfield 56, 3) := by decide +kernel
theorem dX8_wordsTold_9 : decode cX8_wordsTold 9 = .ok (.if_icmp .ge 28, 3) := by decide +kernel
theorem dX8_wordsTold_12 : decode cX8_wordsTold 12 = .ok (.iload_n 1, 1) := by decide +kernel
theorem dX8_wordsTold_13 : decode cX8_wordsTold 13 = .ok (.aload_n 0, 1) := by decide +kernel
theorem dX8_wordsTold_14 : decode cX8_wordsTold 14 = .ok (.getfield 13, 3) := by decide +kernel
theorem dX8_wordsTold_17 : decode cX8_wordsTold 17 = .ok (.iload_n 2, 1) := by decide +kernel
theorem dX8_wordsTold_18 : decode cX8_wordsTold 18 = .ok (.caload, 1) := by decide +kernel
theorem dX8_wordsTold_19 : decode cX8_wordsTold 19 = .ok (.bipush 32, 2) := by decide +kernel
theorem dX8_wordsTold_21 : decode cX8_wordsTold 21 = .ok (.if_icmp .ne 7, 3) := by decide +kernel
theorem dX8_wordsTold_24 : decode cX8_wordsTold 24 = .ok (.iconst 1, 1) := by decide +kernel
theorem dX8_wordsTold_25 : decode cX8_wordsTold 25 = .ok (.goto 4, 3) := by decide +kernel
theorem dX8_wordsTold_28 : decode cX8_wordsTold 28 = .ok (.iconst 0, 1) := by decide +kernel
theorem dX8_wordsTold_29 : decode cX8_wordsTold 29 = .ok (.iadd, 1) := by decide +kernel
theorem dX8_wordsTold_30 : decode cX8_wordsTold 30 = .ok (.istore_n 1, 1) := by decide +kernel
theorem dX8_wordsTold_31 : decode cX8_wordsTold 31 = .ok (.iinc 2 1, 3) := by decide +kernel
theorem dX8_wordsTold_34 : decode cX8_wordsTold 34 = .ok (.goto (-30), 3) := by decide +kernel
theorem dX8_wordsTold_37 : decode cX8_wordsTold 37 = .ok (.iload_n 1, 1) := by decide +kernel
theorem dX8_wordsTold_38 : decode cX8_wordsTold 38 = .ok (.ireturn, 1) := by decide +kernel
theorem dX8_isTold_0 : decode cX8_isTold 0 = .ok (.iload_n 2, 1) := by decide +kernel
theorem dX8_isTold_1 : decode cX8_isTold 1 = .ok (.aload_n 0, 1) := by decide +kernel
theorem dX8_isTold_2 : decode cX8_isTold 2 = .ok (.getfield 56, 3) := by decide +kernel
theorem dX8_isTold_5 : decode cX8_isTold 5 = .ok (.if_icmp .ne 7, 3) := by decide +kernel
theorem dX8_isTold_8 : decode cX8_isTold 8 = .ok (.iconst 1, 1) := by decide +kernel
theorem dX8_isTold_9 : decode cX8_isTold 9 = .ok (.goto 4, 3) := by decide +kernel
theorem dX8_isTold_12 : decode cX8_isTold 12 = .ok (.iconst 0, 1) := by decide +kernel
theorem dX8_isTold_13 : decode cX8_isTold 13 = .ok (.istore_n 3, 1) := by decide +kernel
theorem dX8_isTold_14 : decode cX8_isTold 14 = .ok (.iconst 0, 1) := by decide +kernel
theorem dX8_isTold_15 : decode cX8_isTold 15 = .ok (.istore 4, 2) := by decide +kernel
theorem dX8_isTold_17 : decode cX8_isTold 17 = .ok (.iload 4, 2) := by decide +kernel
theorem dX8_isTold_19 : decode cX8_isTold 19 = .ok (.aload_n 0, 1) := by decide +kernel
theorem dX8_isTold_20 : decode cX8_isTold 20 = .ok (.getfield 56, 3) := by decide +kernel
theorem dX8_isTold_23 : decode cX8_isTold 23 = .ok (.if_icmp .ge 38, 3) := by decide +kernel
theorem dX8_isTold_26 : decode cX8_isTold 26 = .ok (.iload_n 3, 1) := by decide +kernel
theorem dX8_isTold_27 : decode cX8_isTold 27 = .ok (.ifCond .eq 34, 3) := by decide +kernel
theorem dX8_isTold_30 : decode cX8_isTold 30 = .ok (.aload_n 0, 1) := by decide +kernel
theorem dX8_isTold_31 : decode cX8_isTold 31 = .ok (.getfield 7, 3) := by decide +kernel
theorem dX8_isTold_34 : decode cX8_isTold 34 = .ok (.iload_n 1, 1) := by decide +kernel
theorem dX8_isTold_35 : decode cX8_isTold 35 = .ok (.iload 4, 2) := by decide +kernel
theorem dX8_isTold_37 : decode cX8_isTold 37 = .ok (.iadd, 1) := by decide +kernel
theorem dX8_isTold_38 : decode cX8_isTold 38 = .ok (.iaload, 1) := by decide +kernel
theorem dX8_isTold_39 : decode cX8_isTold 39 = .ok (.aload_n 0, 1) := by decide +kernel
theorem dX8_isTold_40 : decode cX8_isTold 40 = .ok (.getfield 13, 3) := by decide +kernel
theorem dX8_isTold_43 : decode cX8_isTold 43 = .ok (.iload 4, 2) := by decide +kernel
theorem dX8_isTold_45 : decode cX8_isTold 45 = .ok (.caload, 1) := by decide +kernel
theorem dX8_isTold_46 : decode cX8_isTold 46 = .ok (.if_icmp .ne 7, 3) := by decide +kernel
theorem dX8_isTold_49 : decode cX8_isTold 49 = .ok (.iconst 1, 1) := by decide +kernel
theorem dX8_isTold_50 : decode cX8_isTold 50 = .ok (.goto 4, 3) := by decide +kernel
theorem dX8_isTold_53 : decode cX8_isTold 53 = .ok (.iconst 0, 1) := by decide +kernel
theorem dX8_isTold_54 : decode cX8_isTold 54 = .ok (.istore_n 3, 1) := by decide +kernel
theorem dX8_isTold_55 : decode cX8_isTold 55 = .ok (.iinc 4 1, 3) := by decide +kernel
theorem dX8_isTold_58 : decode cX8_isTold 58 = .ok (.goto (-41), 3) := by decide +kernel
theorem dX8_isTold_61 : decode cX8_isTold 61 = .ok (.iload_n 3, 1) := by decide +kernel
theorem dX8_isTold_62 : decode cX8_isTold 62 = .ok (.ireturn, 1) := by decide +kernel
theorem dX8_lays_0 : decode cX8_lays 0 = .ok (.iconst 0, 1) := by decide +kernel
theorem dX8_lays_1 : decode cX8_lays 1 = .ok (.istore_n 2, 1) := by decide +kernel
theorem dX8_lays_2 : decode cX8_lays 2 = .ok (.iload_n 2, 1) := by decide +kernel
theorem dX8_lays_3 : decode cX8_lays 3 = .ok (.aload_n 0, 1) := by decide +kernel
theorem dX8_lays_4 : decode cX8_lays 4 = .ok (.getfield 56, 3) := by decide +kernel
theorem dX8_lays_7 : decode cX8_lays 7 = .ok (.if_icmp .ge 23, 3) := by decide +kernel
theorem dX8_lays_10 : decode cX8_lays 10 = .ok (.aload_n 0, 1) := by decide +kernel
theorem dX8_lays_11 : decode cX8_lays 11 = .ok (.getfield 7, 3) := by decide +kernel
theorem dX8_lays_14 : decode cX8_lays 14 = .ok (.iload_n 1, 1) := by decide +kernel
theorem dX8_lays_15 : decode cX8_lays 15 = .ok (.iload_n 2, 1) := by decide +kernel
theorem dX8_lays_16 : decode cX8_lays 16 = .ok (.iadd, 1) := by decide +kernel
theorem dX8_lays_17 : decode cX8_lays 17 = .ok (.aload_n 0, 1) := by decide +kernel
theorem dX8_lays_18 : decode cX8_lays 18 = .ok (.getfield 13, 3) := by decide +kernel
theorem dX8_lays_21 : decode cX8_lays 21 = .ok (.iload_n 2, 1) := by decide +kernel
theorem dX8_lays_22 : decode cX8_lays 22 = .ok (.caload, 1) := by decide +kernel
theorem dX8_lays_23 : decode cX8_lays 23 = .ok (.iastore, 1) := by decide +kernel
theorem dX8_lays_24 : decode cX8_lays 24 = .ok (.iinc 2 1, 3) := by decide +kernel
theorem dX8_lays_27 : decode cX8_lays 27 = .ok (.goto (-25), 3) := by decide +kernel
theorem dX8_lays_30 : decode cX8_lays 30 = .ok (.return_, 1) := by decide +kernel
theorem dX8_setLimit_0 : decode cX8_setLimit 0 = .ok (.iload_n 1, 1) := by decide +kernel
theorem dX8_setLimit_1 : decode cX8_setLimit 1 = .ok (.iconst 0, 1) := by decide +kernel
theorem dX8_setLimit_2 : decode cX8_setLimit 2 = .ok (.iconst 3, 1) := by decide +kernel
theorem dX8_setLimit_3 : decode cX8_setLimit 3 = .ok (.invokestatic 59, 3) := by decide +kernel
theorem dX8_setLimit_6 : decode cX8_setLimit 6 = .ok (.ifCond .ne 5, 3) := by decide +kernel
theorem dX8_setLimit_9 : decode cX8_setLimit 9 = .ok (.iconst (-1), 1) := by decide +kernel
theorem dX8_setLimit_10 : decode cX8_setLimit 10 = .ok (.ireturn, 1) := by decide +kernel
theorem dX8_setLimit_11 : decode cX8_setLimit 11 = .ok (.iload_n 2, 1) := by decide +kernel
theorem dX8_setLimit_12 : decode cX8_setLimit 12 = .ok (.iconst 1, 1) := by decide +kernel
theorem dX8_setLimit_13 : decode cX8_setLimit 13 = .ok (.bipush 15, 2) := by decide +kernel
theorem dX8_setLimit_15 : decode cX8_setLimit 15 = .ok (.invokestatic 59, 3) := by decide +kernel
theorem dX8_setLimit_18 : decode cX8_setLimit 18 = .ok (.ifCond .ne 6, 3) := by decide +kernel
theorem dX8_setLimit_21 : decode cX8_setLimit 21 = .ok (.bipush (-2), 2) := by decide +kernel
theorem dX8_setLimit_23 : decode cX8_setLimit 23 = .ok (.ireturn, 1) := by decide +kernel
theorem dX8_setLimit_24 : decode cX8_setLimit 24 = .ok (.aload_n 0, 1) := by decide +kernel
theorem dX8_setLimit_25 : decode cX8_setLimit 25 = .ok (.getfield 7, 3) := by decide +kernel
theorem dX8_setLimit_28 : decode cX8_setLimit 28 = .ok (.bipush 12, 2) := by decide +kernel
theorem dX8_setLimit_30 : decode cX8_setLimit 30 = .ok (.iload_n 1, 1) := by decide +kernel
theorem dX8_setLimit_31 : decode cX8_setLimit 31 = .ok (.iadd, 1) := by decide +kernel
theorem dX8_setLimit_32 : decode cX8_setLimit 32 = .ok (.iaload, 1) := by decide +kernel
theorem dX8_setLimit_33 : decode cX8_setLimit 33 = .ok (.iload_n 2, 1) := by decide +kernel
theorem dX8_setLimit_34 : decode cX8_setLimit 34 = .ok (.if_icmp .ne 6, 3) := by decide +kernel
theorem dX8_setLimit_37 : decode cX8_setLimit 37 = .ok (.bipush (-5), 2) := by decide +kernel
theorem dX8_setLimit_39 : decode cX8_setLimit 39 = .ok (.ireturn, 1) := by decide +kernel
theorem dX8_setLimit_40 : decode cX8_setLimit 40 = .ok (.aload_n 0, 1) := by decide +kernel
theorem dX8_setLimit_41 : decode cX8_setLimit 41 = .ok (.invokevirtual 63, 3) := by decide +kernel
theorem dX8_setLimit_44 : decode cX8_setLimit 44 = .ok (.aload_n 0, 1) := by decide +kernel
theorem dX8_setLimit_45 : decode cX8_setLimit 45 = .ok (.getfield 7, 3) := by decide +kernel
theorem dX8_setLimit_48 : decode cX8_setLimit 48 = .ok (.bipush 12, 2) := by decide +kernel
theorem dX8_setLimit_50 : decode cX8_setLimit 50 = .ok (.iload_n 1, 1) := by decide +kernel
theorem dX8_setLimit_51 : decode cX8_setLimit 51 = .ok (.iadd, 1) := by decide +kernel
theorem dX8_setLimit_52 : decode cX8_setLimit 52 = .ok (.iload_n 2, 1) := by decide +kernel
theorem dX8_setLimit_53 : decode cX8_setLimit 53 = .ok (.iastore, 1) := by decide +kernel
theorem dX8_setLimit_54 : decode cX8_setLimit 54 = .ok (.iconst 0, 1) := by decide +kernel
theorem dX8_setLimit_55 : decode cX8_setLimit 55 = .ok (.istore_n 3, 1) := by decide +kernel
theorem dX8_setLimit_56 : decode cX8_setLimit 56 = .ok (.iconst 0, 1) := by decide +kernel
theorem dX8_setLimit_57 : decode cX8_setLimit 57 = .ok (.istore 4, 2) := by decide +kernel
theorem dX8_setLimit_59 : decode cX8_setLimit 59 = .ok (.iload 4, 2) := by decide +kernel
theorem dX8_setLimit_61 : decode cX8_setLimit 61 = .ok (.bipush 8, 2) := by decide +kernel
theorem dX8_setLimit_63 : decode cX8_setLimit 63 = .ok (.if_icmp .ge 33, 3) := by decide +kernel
theorem dX8_setLimit_66 : decode cX8_setLimit 66 = .ok (.iload_n 3, 1) := by decide +kernel
theorem dX8_setLimit_67 : decode cX8_setLimit 67 = .ok (.aload_n 0, 1) := by decide +kernel
theorem dX8_setLimit_68 : decode cX8_setLimit 68 = .ok (.getfield 7, 3) := by decide +kernel
theorem dX8_setLimit_71 : decode cX8_setLimit 71 = .ok (.iload 4, 2) := by decide +kernel
theorem dX8_setLimit_73 : decode cX8_setLimit 73 = .ok (.iaload, 1) := by decide +kernel
theorem dX8_setLimit_74 : decode cX8_setLimit 74 = .ok (.iload_n 1, 1) := by decide +kernel
theorem dX8_setLimit_75 : decode cX8_setLimit 75 = .ok (.if_icmp .ne 12, 3) := by decide +kernel
theorem dX8_setLimit_78 : decode cX8_setLimit 78 = .ok (.aload_n 0, 1) := by decide +kernel
theorem dX8_setLimit_79 : decode cX8_setLimit 79 = .ok (.iload 4, 2) := by decide +kernel
theorem dX8_setLimit_81 : decode cX8_setLimit 81 = .ok (.invokevirtual 66, 3) := by decide +kernel
theorem dX8_setLimit_84 : decode cX8_setLimit 84 = .ok (.goto 4, 3) := by decide +kernel
theorem dX8_setLimit_87 : decode cX8_setLimit 87 = .ok (.iconst 0, 1) := by decide +kernel
theorem dX8_setLimit_88 : decode cX8_setLimit 88 = .ok (.iadd, 1) := by decide +kernel
theorem dX8_setLimit_89 : decode cX8_setLimit 89 = .ok (.istore_n 3, 1) := by decide +kernel
theorem dX8_setLimit_90 : decode cX8_setLimit 90 = .ok (.iinc 4 1, 3) := by decide +kernel
theorem dX8_setLimit_93 : decode cX8_setLimit 93 = .ok (.goto (-34), 3) := by decide +kernel
theorem dX8_setLimit_96 : decode cX8_setLimit 96 = .ok (.iload_n 3, 1) := by decide +kernel
theorem dX8_setLimit_97 : decode cX8_setLimit 97 = .ok (.ireturn, 1) := by decide +kernel
theorem dX8_bits_0 : decode cX8_bits 0 = .ok (.iload_n 0, 1) := by decide +kernel
theorem dX8_bits_1 : decode cX8_bits 1 = .ok (.iconst 1, 1) := by decide +kernel
theorem dX8_bits_2 : decode cX8_bits 2 = .ok (.iand, 1) := by decide +kernel
theorem dX8_bits_3 : decode cX8_bits 3 = .ok (.iload_n 0, 1) := by decide +kernel
theorem dX8_bits_4 : decode cX8_bits 4 = .ok (.iconst 1, 1) := by decide +kernel
theorem dX8_bits_5 : decode cX8_bits 5 = .ok (.ishr, 1) := by decide +kernel
theorem dX8_bits_6 : decode cX8_bits 6 = .ok (.iconst 1, 1) := by decide +kernel
theorem dX8_bits_7 : decode cX8_bits 7 = .ok (.iand, 1) := by decide +kernel
theorem dX8_bits_8 : decode cX8_bits 8 = .ok (.iadd, 1) := by decide +kernel
theorem dX8_bits_9 : decode cX8_bits 9 = .ok (.iload_n 0, 1) := by decide +kernel
theorem dX8_bits_10 : decode cX8_bits 10 = .ok (.iconst 2, 1) := by decide +kernel
theorem dX8_bits_11 : decode cX8_bits 11 = .ok (.ishr, 1) := by decide +kernel
theorem dX8_bits_12 : decode cX8_bits 12 = .ok (.iconst 1, 1) := by decide +kernel
theorem dX8_bits_13 : decode cX8_bits 13 = .ok (.iand, 1) := by decide +kernel
theorem dX8_bits_14 : decode cX8_bits 14 = .ok (.iadd, 1) := by decide +kernel
theorem dX8_bits_15 : decode cX8_bits 15 = .ok (.ireturn, 1) := by decide +kernel
theorem dX8_ask_0 : decode cX8_ask 0 = .ok (.iload_n 1, 1) := by decide +kernel
theorem dX8_ask_1 : decode cX8_ask 1 = .ok (.iconst 0, 1) := by decide +kernel
theorem dX8_ask_2 : decode cX8_ask 2 = .ok (.iconst 3, 1) := by decide +kernel
theorem dX8_ask_3 : decode cX8_ask 3 = .ok (.invokestatic 59, 3) := by decide +kernel
theorem dX8_ask_6 : decode cX8_ask 6 = .ok (.ifCond .eq 12, 3) := by decide +kernel
theorem dX8_ask_9 : decode cX8_ask 9 = .ok (.iload_n 2, 1) := by decide +kernel
theorem dX8_ask_10 : decode cX8_ask 10 = .ok (.iconst 0, 1) := by decide +kernel
theorem dX8_ask_11 : decode cX8_ask 11 = .ok (.iconst 2, 1) := by decide +kernel
theorem dX8_ask_12 : decode cX8_ask 12 = .ok (.invokestatic 59, 3) := by decide +kernel
theorem dX8_ask_15 : decode cX8_ask 15 = .ok (.ifCond .ne 5, 3) := by decide +kernel
theorem dX8_ask_18 : decode cX8_ask 18 = .ok (.iconst (-1), 1) := by decide +kernel
theorem dX8_ask_19 : decode cX8_ask 19 = .ok (.ireturn, 1) := by decide +kernel
theorem dX8_ask_20 : decode cX8_ask 20 = .ok (.aload_n 0, 1) := by decide +kernel
theorem dX8_ask_21 : decode cX8_ask 21 = .ok (.getfield 7, 3) := by decide +kernel
theorem dX8_ask_24 : decode cX8_ask 24 = .ok (.bipush 8, 2) := by decide +kernel
theorem dX8_ask_26 : decode cX8_ask 26 = .ok (.iload_n 1, 1) := by decide +kernel
theorem dX8_ask_27 : decode cX8_ask 27 = .ok (.iadd, 1) := by decide +kernel
theorem dX8_ask_28 : decode cX8_ask 28 = .ok (.iaload, 1) := by decide +kernel
theorem dX8_ask_29 : decode cX8_ask 29 = .ok (.iload_n 2, 1) := by decide +kernel
theorem dX8_ask_30 : decode cX8_ask 30 = .ok (.ishr, 1) := by decide +kernel
theorem dX8_ask_31 : decode cX8_ask 31 = .ok (.iconst 1, 1) := by decide +kernel
theorem dX8_ask_32 : decode cX8_ask 32 = .ok (.iand, 1) := by decide +kernel
theorem dX8_ask_33 : decode cX8_ask 33 = .ok (.iload_n 3, 1) := by decide +kernel
theorem dX8_ask_34 : decode cX8_ask 34 = .ok (.ifCond .eq 7, 3) := by decide +kernel
theorem dX8_ask_37 : decode cX8_ask 37 = .ok (.iconst 1, 1) := by decide +kernel
theorem dX8_ask_38 : decode cX8_ask 38 = .ok (.goto 4, 3) := by decide +kernel
theorem dX8_ask_41 : decode cX8_ask 41 = .ok (.iconst 0, 1) := by decide +kernel
theorem dX8_ask_42 : decode cX8_ask 42 = .ok (.if_icmp .ne 6, 3) := by decide +kernel
theorem dX8_ask_45 : decode cX8_ask 45 = .ok (.bipush (-5), 2) := by decide +kernel
theorem dX8_ask_47 : decode cX8_ask 47 = .ok (.ireturn, 1) := by decide +kernel
theorem dX8_ask_48 : decode cX8_ask 48 = .ok (.aload_n 0, 1) := by decide +kernel
theorem dX8_ask_49 : decode cX8_ask 49 = .ok (.invokevirtual 63, 3) := by decide +kernel
theorem dX8_ask_52 : decode cX8_ask 52 = .ok (.aload_n 0, 1) := by decide +kernel
theorem dX8_ask_53 : decode cX8_ask 53 = .ok (.getfield 7, 3) := by decide +kernel
theorem dX8_ask_56 : decode cX8_ask 56 = .ok (.bipush 8, 2) := by decide +kernel
theorem dX8_ask_58 : decode cX8_ask 58 = .ok (.iload_n 1, 1) := by decide +kernel
theorem dX8_ask_59 : decode cX8_ask 59 = .ok (.iadd, 1) := by decide +kernel
theorem dX8_ask_60 : decode cX8_ask 60 = .ok (.dup2, 1) := by decide +kernel
theorem dX8_ask_61 : decode cX8_ask 61 = .ok (.iaload, 1) := by decide +kernel
theorem dX8_ask_62 : decode cX8_ask 62 = .ok (.iconst 1, 1) := by decide +kernel
theorem dX8_ask_63 : decode cX8_ask 63 = .ok (.iload_n 2, 1) := by decide +kernel
theorem dX8_ask_64 : decode cX8_ask 64 = .ok (.ishl, 1) := by decide +kernel
theorem dX8_ask_65 : decode cX8_ask 65 = .ok (.ixor, 1) := by decide +kernel
theorem dX8_ask_66 : decode cX8_ask 66 = .ok (.iastore, 1) := by decide +kernel
theorem dX8_ask_67 : decode cX8_ask 67 = .ok (.aload_n 0, 1) := by decide +kernel
theorem dX8_ask_68 : decode cX8_ask 68 = .ok (.getfield 7, 3) := by decide +kernel
theorem dX8_ask_71 : decode cX8_ask 71 = .ok (.bipush 8, 2) := by decide +kernel
theorem dX8_ask_73 : decode cX8_ask 73 = .ok (.iload_n 1, 1) := by decide +kernel
theorem dX8_ask_74 : decode cX8_ask 74 = .ok (.iadd, 1) := by decide +kernel
theorem dX8_ask_75 : decode cX8_ask 75 = .ok (.iaload, 1) := by decide +kernel
theorem dX8_ask_76 : decode cX8_ask 76 = .ok (.invokestatic 69, 3) := by decide +kernel
theorem dX8_ask_79 : decode cX8_ask 79 = .ok (.ireturn, 1) := by decide +kernel
theorem dX8_bring_0 : decode cX8_bring 0 = .ok (.iload_n 1, 1) := by decide +kernel
theorem dX8_bring_1 : decode cX8_bring 1 = .ok (.iconst 0, 1) := by decide +kernel
theorem dX8_bring_2 : decode cX8_bring 2 = .ok (.bipush 7, 2) := by decide +kernel
theorem dX8_bring_4 : decode cX8_bring 4 = .ok (.invokestatic 59, 3) := by decide +kernel
theorem dX8_bring_7 : decode cX8_bring 7 = .ok (.ifCond .eq 12, 3) := by decide +kernel
theorem dX8_bring_10 : decode cX8_bring 10 = .ok (.iload_n 2, 1) := by decide +kernel
theorem dX8_bring_11 : decode cX8_bring 11 = .ok (.iconst 0, 1) := by decide +kernel
theorem dX8_bring_12 : decode cX8_bring 12 = .ok (.iconst 3, 1) := by decide +kernel
theorem dX8_bring_13 : decode cX8_bring 13 = .ok (.invokestatic 59, 3) := by decide +kernel
theorem dX8_bring_16 : decode cX8_bring 16 = .ok (.ifCond .ne 5, 3) := by decide +kernel
theorem dX8_bring_19 : decode cX8_bring 19 = .ok (.iconst (-1), 1) := by decide +kernel
theorem dX8_bring_20 : decode cX8_bring 20 = .ok (.ireturn, 1) := by decide +kernel
theorem dX8_bring_21 : decode cX8_bring 21 = .ok (.aload_n 0, 1) := by decide +kernel
theorem dX8_bring_22 : decode cX8_bring 22 = .ok (.getfield 7, 3) := by decide +kernel
theorem dX8_bring_25 : decode cX8_bring 25 = .ok (.iload_n 1, 1) := by decide +kernel
theorem dX8_bring_26 : decode cX8_bring 26 = .ok (.iaload, 1) := by decide +kernel
theorem dX8_bring_27 : decode cX8_bring 27 = .ok (.iload_n 2, 1) := by decide +kernel
theorem dX8_bring_28 : decode cX8_bring 28 = .ok (.if_icmp .ne 6, 3) := by decide +kernel
theorem dX8_bring_31 : decode cX8_bring 31 = .ok (.bipush (-5), 2) := by decide +kernel
theorem dX8_bring_33 : decode cX8_bring 33 = .ok (.ireturn, 1) := by decide +kernel
theorem dX8_bring_34 : decode cX8_bring 34 = .ok (.aload_n 0, 1) := by decide +kernel
theorem dX8_bring_35 : decode cX8_bring 35 = .ok (.invokevirtual 63, 3) := by decide +kernel
theorem dX8_bring_38 : decode cX8_bring 38 = .ok (.aload_n 0, 1) := by decide +kernel
theorem dX8_bring_39 : decode cX8_bring 39 = .ok (.getfield 7, 3) := by decide +kernel
theorem dX8_bring_42 : decode cX8_bring 42 = .ok (.iload_n 1, 1) := by decide +kernel
theorem dX8_bring_43 : decode cX8_bring 43 = .ok (.iload_n 2, 1) := by decide +kernel
theorem dX8_bring_44 : decode cX8_bring 44 = .ok (.iastore, 1) := by decide +kernel
theorem dX8_bring_45 : decode cX8_bring 45 = .ok (.aload_n 0, 1) := by decide +kernel
theorem dX8_bring_46 : decode cX8_bring 46 = .ok (.iload_n 1, 1) := by decide +kernel
theorem dX8_bring_47 : decode cX8_bring 47 = .ok (.invokevirtual 66, 3) := by decide +kernel
theorem dX8_bring_50 : decode cX8_bring 50 = .ok (.ireturn, 1) := by decide +kernel
theorem dX8_isPair_0 : decode cX8_isPair 0 = .ok (.iload_n 0, 1) := by decide +kernel
theorem dX8_isPair_1 : decode cX8_isPair 1 = .ok (.iconst 0, 1) := by decide +kernel
theorem dX8_isPair_2 : decode cX8_isPair 2 = .ok (.bipush 7, 2) := by decide +kernel
theorem dX8_isPair_4 : decode cX8_isPair 4 = .ok (.invokestatic 59, 3) := by decide +kernel
theorem dX8_isPair_7 : decode cX8_isPair 7 = .ok (.ifCond .eq 16, 3) := by decide +kernel
theorem dX8_isPair_10 : decode cX8_isPair 10 = .ok (.iload_n 1, 1) := by decide +kernel
theorem dX8_isPair_11 : decode cX8_isPair 11 = .ok (.iconst 0, 1) := by decide +kernel
theorem dX8_isPair_12 : decode cX8_isPair 12 = .ok (.iconst 2, 1) := by decide +kernel
theorem dX8_isPair_13 : decode cX8_isPair 13 = .ok (.invokestatic 59, 3) := by decide +kernel
theorem dX8_isPair_16 : decode cX8_isPair 16 = .ok (.ifCond .eq 7, 3) := by decide +kernel
theorem dX8_isPair_19 : decode cX8_isPair 19 = .ok (.iconst 1, 1) := by decide +kernel
theorem dX8_isPair_20 : decode cX8_isPair 20 = .ok (.goto 4, 3) := by decide +kernel
theorem dX8_isPair_23 : decode cX8_isPair 23 = .ok (.iconst 0, 1) := by decide +kernel
theorem dX8_isPair_24 : decode cX8_isPair 24 = .ok (.ireturn, 1) := by decide +kernel
theorem dX8_takeDown_0 : decode cX8_takeDown 0 = .ok (.iload_n 1, 1) := by decide +kernel
theorem dX8_takeDown_1 : decode cX8_takeDown 1 = .ok (.iload_n 2, 1) := by decide +kernel
theorem dX8_takeDown_2 : decode cX8_takeDown 2 = .ok (.invokestatic 72, 3) := by decide +kernel
theorem dX8_takeDown_5 : decode cX8_takeDown 5 = .ok (.ifCond .ne 5, 3) := by decide +kernel
theorem dX8_takeDown_8 : decode cX8_takeDown 8 = .ok (.iconst (-1), 1) := by decide +kernel
theorem dX8_takeDown_9 : decode cX8_takeDown 9 = .ok (.ireturn, 1) := by decide +kernel
theorem dX8_takeDown_10 : decode cX8_takeDown 10 = .ok (.aload_n 0, 1) := by decide +kernel
theorem dX8_takeDown_11 : decode cX8_takeDown 11 = .ok (.iload_n 1, 1) := by decide +kernel
theorem dX8_takeDown_12 : decode cX8_takeDown 12 = .ok (.iload_n 2, 1) := by decide +kernel
theorem dX8_takeDown_13 : decode cX8_takeDown 13 = .ok (.invokevirtual 75, 3) := by decide +kernel
theorem dX8_takeDown_16 : decode cX8_takeDown 16 = .ok (.ifCond .ne 6, 3) := by decide +kernel
theorem dX8_takeDown_19 : decode cX8_takeDown 19 = .ok (.bipush (-5), 2) := by decide +kernel
theorem dX8_takeDown_21 : decode cX8_takeDown 21 = .ok (.ireturn, 1) := by decide +kernel
theorem dX8_takeDown_22 : decode cX8_takeDown 22 = .ok (.aload_n 0, 1) := by decide +kernel
theorem dX8_takeDown_23 : decode cX8_takeDown 23 = .ok (.invokevirtual 63, 3) := by decide +kernel
theorem dX8_takeDown_26 : decode cX8_takeDown 26 = .ok (.aload_n 0, 1) := by decide +kernel
theorem dX8_takeDown_27 : decode cX8_takeDown 27 = .ok (.iload_n 1, 1) := by decide +kernel
theorem dX8_takeDown_28 : decode cX8_takeDown 28 = .ok (.iload_n 2, 1) := by decide +kernel
theorem dX8_takeDown_29 : decode cX8_takeDown 29 = .ok (.invokevirtual 42, 3) := by decide +kernel
theorem dX8_takeDown_32 : decode cX8_takeDown 32 = .ok (.istore_n 3, 1) := by decide +kernel
theorem dX8_takeDown_33 : decode cX8_takeDown 33 = .ok (.aload_n 0, 1) := by decide +kernel
theorem dX8_takeDown_34 : decode cX8_takeDown 34 = .ok (.getfield 7, 3) := by decide +kernel
theorem dX8_takeDown_37 : decode cX8_takeDown 37 = .ok (.iload_n 1, 1) := by decide +kernel
theorem dX8_takeDown_38 : decode cX8_takeDown 38 = .ok (.iload_n 2, 1) := by decide +kernel
theorem dX8_takeDown_39 : decode cX8_takeDown 39 = .ok (.invokestatic 28, 3) := by decide +kernel
theorem dX8_takeDown_42 : decode cX8_takeDown 42 = .ok (.iconst 0, 1) := by decide +kernel
theorem dX8_takeDown_43 : decode cX8_takeDown 43 = .ok (.iastore, 1) := by decide +kernel
theorem dX8_takeDown_44 : decode cX8_takeDown 44 = .ok (.iload_n 3, 1) := by decide +kernel
theorem dX8_takeDown_45 : decode cX8_takeDown 45 = .ok (.ireturn, 1) := by decide +kernel
theorem dX8_setNeeded_0 : decode cX8_setNeeded 0 = .ok (.iload_n 1, 1) := by decide +kernel
theorem dX8_setNeeded_1 : decode cX8_setNeeded 1 = .ok (.iconst 1, 1) := by decide +kernel
theorem dX8_setNeeded_2 : decode cX8_setNeeded 2 = .ok (.bipush 9, 2) := by decide +kernel
theorem dX8_setNeeded_4 : decode cX8_setNeeded 4 = .ok (.invokestatic 59, 3) := by decide +kernel
theorem dX8_setNeeded_7 : decode cX8_setNeeded 7 = .ok (.ifCond .ne 6, 3) := by decide +kernel
theorem dX8_setNeeded_10 : decode cX8_setNeeded 10 = .ok (.bipush (-2), 2) := by decide +kernel
theorem dX8_setNeeded_12 : decode cX8_setNeeded 12 = .ok (.ireturn, 1) := by decide +kernel
theorem dX8_setNeeded_13 : decode cX8_setNeeded 13 = .ok (.aload_n 0, 1) := by decide +kernel
theorem dX8_setNeeded_14 : decode cX8_setNeeded 14 = .ok (.getfield 7, 3) := by decide +kernel
theorem dX8_setNeeded_17 : decode cX8_setNeeded 17 = .ok (.bipush 16, 2) := by decide +kernel
theorem dX8_setNeeded_19 : decode cX8_setNeeded 19 = .ok (.iaload, 1) := by decide +kernel
theorem dX8_setNeeded_20 : decode cX8_setNeeded 20 = .ok (.iload_n 1, 1) := by decide +kernel
theorem dX8_setNeeded_21 : decode cX8_setNeeded 21 = .ok (.if_icmp .ne 6, 3) := by decide +kernel
theorem dX8_setNeeded_24 : decode cX8_setNeeded 24 = .ok (.bipush (-5), 2) := by decide +kernel
theorem dX8_setNeeded_26 : decode cX8_setNeeded 26 = .ok (.ireturn, 1) := by decide +kernel
theorem dX8_setNeeded_27 : decode cX8_setNeeded 27 = .ok (.aload_n 0, 1) := by decide +kernel
theorem dX8_setNeeded_28 : decode cX8_setNeeded 28 = .ok (.invokevirtual 63, 3) := by decide +kernel
theorem dX8_setNeeded_31 : decode cX8_setNeeded 31 = .ok (.aload_n 0, 1) := by decide +kernel
theorem dX8_setNeeded_32 : decode cX8_setNeeded 32 = .ok (.getfield 7, 3) := by decide +kernel
theorem dX8_setNeeded_35 : decode cX8_setNeeded 35 = .ok (.bipush 16, 2) := by decide +kernel
theorem dX8_setNeeded_37 : decode cX8_setNeeded 37 = .ok (.iaload, 1) := by decide +kernel
theorem dX8_setNeeded_38 : decode cX8_setNeeded 38 = .ok (.istore_n 2, 1) := by decide +kernel
theorem dX8_setNeeded_39 : decode cX8_setNeeded 39 = .ok (.aload_n 0, 1) := by decide +kernel
theorem dX8_setNeeded_40 : decode cX8_setNeeded 40 = .ok (.getfield 7, 3) := by decide +kernel
theorem dX8_setNeeded_43 : decode cX8_setNeeded 43 = .ok (.bipush 16, 2) := by decide +kernel
theorem dX8_setNeeded_45 : decode cX8_setNeeded 45 = .ok (.iload_n 1, 1) := by decide +kernel
theorem dX8_setNeeded_46 : decode cX8_setNeeded 46 = .ok (.iastore, 1) := by decide +kernel
theorem dX8_setNeeded_47 : decode cX8_setNeeded 47 = .ok (.iload_n 2, 1) := by decide +kernel
theorem dX8_setNeeded_48 : decode cX8_setNeeded 48 = .ok (.ireturn, 1) := by decide +kernel
theorem dX8_label_0 : decode cX8_label 0 = .ok (.iload_n 1, 1) := by decide +kernel
theorem dX8_label_1 : decode cX8_label 1 = .ok (.iload_n 2, 1) := by decide +kernel
theorem dX8_label_2 : decode cX8_label 2 = .ok (.invokestatic 72, 3) := by decide +kernel
theorem dX8_label_5 : decode cX8_label 5 = .ok (.ifCond .ne 5, 3) := by decide +kernel
theorem dX8_label_8 : decode cX8_label 8 = .ok (.iconst (-1), 1) := by decide +kernel
theorem dX8_label_9 : decode cX8_label 9 = .ok (.ireturn, 1) := by decide +kernel
theorem dX8_label_10 : decode cX8_label 10 = .ok (.aload_n 0, 1) := by decide +kernel
theorem dX8_label_11 : decode cX8_label 11 = .ok (.invokevirtual 78, 3) := by decide +kernel
theorem dX8_label_14 : decode cX8_label 14 = .ok (.ifCond .lt 11, 3) := by decide +kernel
theorem dX8_label_17 : decode cX8_label 17 = .ok (.bipush (-100), 2) := by decide +kernel
theorem dX8_label_19 : decode cX8_label 19 = .ok (.aload_n 0, 1) := by decide +kernel
theorem dX8_label_20 : decode cX8_label 20 = .ok (.invokevirtual 78, 3) := by decide +kernel
theorem dX8_label_23 : decode cX8_label 23 = .ok (.isub, 1) := by decide +kernel
theorem dX8_label_24 : decode cX8_label 24 = .ok (.ireturn, 1) := by decide +kernel
theorem dX8_label_25 : decode cX8_label 25 = .ok (.aload_n 0, 1) := by decide +kernel
theorem dX8_label_26 : decode cX8_label 26 = .ok (.invokevirtual 82, 3) := by decide +kernel
theorem dX8_label_29 : decode cX8_label 29 = .ok (.aload_n 0, 1) := by decide +kernel
theorem dX8_label_30 : decode cX8_label 30 = .ok (.getfield 7, 3) := by decide +kernel
theorem dX8_label_33 : decode cX8_label 33 = .ok (.bipush 12, 2) := by decide +kernel
theorem dX8_label_35 : decode cX8_label 35 = .ok (.aload_n 0, 1) := by decide +kernel
theorem dX8_label_36 : decode cX8_label 36 = .ok (.getfield 7, 3) := by decide +kernel
theorem dX8_label_39 : decode cX8_label 39 = .ok (.iload_n 1, 1) := by decide +kernel
theorem dX8_label_40 : decode cX8_label 40 = .ok (.iaload, 1) := by decide +kernel
theorem dX8_label_41 : decode cX8_label 41 = .ok (.iadd, 1) := by decide +kernel
theorem dX8_label_42 : decode cX8_label 42 = .ok (.iaload, 1) := by decide +kernel
theorem dX8_label_43 : decode cX8_label 43 = .ok (.if_icmp .le 6, 3) := by decide +kernel
theorem dX8_label_46 : decode cX8_label 46 = .ok (.bipush (-6), 2) := by decide +kernel
theorem dX8_label_48 : decode cX8_label 48 = .ok (.ireturn, 1) := by decide +kernel
theorem dX8_label_49 : decode cX8_label 49 = .ok (.iload_n 1, 1) := by decide +kernel
theorem dX8_label_50 : decode cX8_label 50 = .ok (.iload_n 2, 1) := by decide +kernel
theorem dX8_label_51 : decode cX8_label 51 = .ok (.invokestatic 28, 3) := by decide +kernel
theorem dX8_label_54 : decode cX8_label 54 = .ok (.istore_n 3, 1) := by decide +kernel
theorem dX8_label_55 : decode cX8_label 55 = .ok (.aload_n 0, 1) := by decide +kernel
theorem dX8_label_56 : decode cX8_label 56 = .ok (.iload_n 3, 1) := by decide +kernel
theorem dX8_label_57 : decode cX8_label 57 = .ok (.iconst 4, 1) := by decide +kernel
theorem dX8_label_58 : decode cX8_label 58 = .ok (.iadd, 1) := by decide +kernel
theorem dX8_label_59 : decode cX8_label 59 = .ok (.aload_n 0, 1) := by decide +kernel
theorem dX8_label_60 : decode cX8_label 60 = .ok (.getfield 7, 3) := by decide +kernel
theorem dX8_label_63 : decode cX8_label 63 = .ok (.iload_n 3, 1) := by decide +kernel
theorem dX8_label_64 : decode cX8_label 64 = .ok (.iaload, 1) := by decide +kernel
theorem dX8_label_65 : decode cX8_label 65 = .ok (.invokevirtual 85, 3) := by decide +kernel
theorem dX8_label_68 : decode cX8_label 68 = .ok (.ifCond .eq 6, 3) := by decide +kernel
theorem dX8_label_71 : decode cX8_label 71 = .ok (.bipush (-5), 2) := by decide +kernel
theorem dX8_label_73 : decode cX8_label 73 = .ok (.ireturn, 1) := by decide +kernel
theorem dX8_label_74 : decode cX8_label 74 = .ok (.aload_n 0, 1) := by decide +kernel
theorem dX8_label_75 : decode cX8_label 75 = .ok (.invokevirtual 63, 3) := by decide +kernel
theorem dX8_label_78 : decode cX8_label 78 = .ok (.aload_n 0, 1) := by decide +kernel
theorem dX8_label_79 : decode cX8_label 79 = .ok (.getfield 7, 3) := by decide +kernel
theorem dX8_label_82 : decode cX8_label 82 = .ok (.iload_n 3, 1) := by decide +kernel
theorem dX8_label_83 : decode cX8_label 83 = .ok (.aload_n 0, 1) := by decide +kernel
theorem dX8_label_84 : decode cX8_label 84 = .ok (.getfield 56, 3) := by decide +kernel
theorem dX8_label_87 : decode cX8_label 87 = .ok (.iastore, 1) := by decide +kernel
theorem dX8_label_88 : decode cX8_label 88 = .ok (.aload_n 0, 1) := by decide +kernel
theorem dX8_label_89 : decode cX8_label 89 = .ok (.getfield 7, 3) := by decide +kernel
theorem dX8_label_92 : decode cX8_label 92 = .ok (.iload_n 3, 1) := by decide +kernel
theorem dX8_label_93 : decode cX8_label 93 = .ok (.iconst 1, 1) := by decide +kernel
theorem dX8_label_94 : decode cX8_label 94 = .ok (.iadd, 1) := by decide +kernel
theorem dX8_label_95 : decode cX8_label 95 = .ok (.iconst (-1), 1) := by decide +kernel
theorem dX8_label_96 : decode cX8_label 96 = .ok (.iastore, 1) := by decide +kernel
theorem dX8_label_97 : decode cX8_label 97 = .ok (.aload_n 0, 1) := by decide +kernel
theorem dX8_label_98 : decode cX8_label 98 = .ok (.getfield 7, 3) := by decide +kernel
theorem dX8_label_101 : decode cX8_label 101 = .ok (.iload_n 3, 1) := by decide +kernel
theorem dX8_label_102 : decode cX8_label 102 = .ok (.iconst 2, 1) := by decide +kernel
theorem dX8_label_103 : decode cX8_label 103 = .ok (.iadd, 1) := by decide +kernel
theorem dX8_label_104 : decode cX8_label 104 = .ok (.aload_n 0, 1) := by decide +kernel
theorem dX8_label_105 : decode cX8_label 105 = .ok (.getfield 7, 3) := by decide +kernel
theorem dX8_label_108 : decode cX8_label 108 = .ok (.bipush 17, 2) := by decide +kernel
theorem dX8_label_110 : decode cX8_label 110 = .ok (.iaload, 1) := by decide +kernel
theorem dX8_label_111 : decode cX8_label 111 = .ok (.iastore, 1) := by decide +kernel
theorem dX8_label_112 : decode cX8_label 112 = .ok (.aload_n 0, 1) := by decide +kernel
theorem dX8_label_113 : decode cX8_label 113 = .ok (.getfield 7, 3) := by decide +kernel
theorem dX8_label_116 : decode cX8_label 116 = .ok (.iload_n 3, 1) := by decide +kernel
theorem dX8_label_117 : decode cX8_label 117 = .ok (.iconst 3, 1) := by decide +kernel
theorem dX8_label_118 : decode cX8_label 118 = .ok (.iadd, 1) := by decide +kernel
theorem dX8_label_119 : decode cX8_label 119 = .ok (.iconst 0, 1) := by decide +kernel
theorem dX8_label_120 : decode cX8_label 120 = .ok (.iastore, 1) := by decide +kernel
theorem dX8_label_121 : decode cX8_label 121 = .ok (.aload_n 0, 1) := by decide +kernel
theorem dX8_label_122 : decode cX8_label 122 = .ok (.iload_n 3, 1) := by decide +kernel
theorem dX8_label_123 : decode cX8_label 123 = .ok (.iconst 4, 1) := by decide +kernel
theorem dX8_label_124 : decode cX8_label 124 = .ok (.iadd, 1) := by decide +kernel
theorem dX8_label_125 : decode cX8_label 125 = .ok (.invokevirtual 88, 3) := by decide +kernel
theorem dX8_label_128 : decode cX8_label 128 = .ok (.aload_n 0, 1) := by decide +kernel
theorem dX8_label_129 : decode cX8_label 129 = .ok (.invokevirtual 82, 3) := by decide +kernel
theorem dX8_label_132 : decode cX8_label 132 = .ok (.ireturn, 1) := by decide +kernel
theorem dX8_own_0 : decode cX8_own 0 = .ok (.iconst (-1), 1) := by decide +kernel
theorem dX8_own_1 : decode cX8_own 1 = .ok (.istore_n 3, 1) := by decide +kernel
theorem dX8_own_2 : decode cX8_own 2 = .ok (.iconst 0, 1) := by decide +kernel
theorem dX8_own_3 : decode cX8_own 3 = .ok (.istore 4, 2) := by decide +kernel
theorem dX8_own_5 : decode cX8_own 5 = .ok (.iload 4, 2) := by decide +kernel
theorem dX8_own_7 : decode cX8_own 7 = .ok (.bipush 16, 2) := by decide +kernel
theorem dX8_own_9 : decode cX8_own 9 = .ok (.if_icmp .ge 59, 3) := by decide +kernel
theorem dX8_own_12 : decode cX8_own 12 = .ok (.iload 4, 2) := by decide +kernel
theorem dX8_own_14 : decode cX8_own 14 = .ok (.invokestatic 49, 3) := by decide +kernel
theorem dX8_own_17 : decode cX8_own 17 = .ok (.istore 5, 2) := by decide +kernel
theorem dX8_own_19 : decode cX8_own 19 = .ok (.aload_n 0, 1) := by decide +kernel
theorem dX8_own_20 : decode cX8_own 20 = .ok (.getfield 7, 3) := by decide +kernel
theorem dX8_own_23 : decode cX8_own 23 = .ok (.iload 5, 2) := by decide +kernel
theorem dX8_own_25 : decode cX8_own 25 = .ok (.iaload, 1) := by decide +kernel
theorem dX8_own_26 : decode cX8_own 26 = .ok (.ifCond .lt 34, 3) := by decide +kernel
theorem dX8_own_29 : decode cX8_own 29 = .ok (.aload_n 0, 1) := by decide +kernel
theorem dX8_own_30 : decode cX8_own 30 = .ok (.getfield 7, 3) := by decide +kernel
theorem dX8_own_33 : decode cX8_own 33 = .ok (.iload 5, 2) := by decide +kernel
theorem dX8_own_35 : decode cX8_own 35 = .ok (.iconst 1, 1) := by decide +kernel
theorem dX8_own_36 : decode cX8_own 36 = .ok (.iadd, 1) := by decide +kernel
theorem dX8_own_37 : decode cX8_own 37 = .ok (.iaload, 1) := by decide +kernel
theorem dX8_own_38 : decode cX8_own 38 = .ok (.iload_n 2, 1) := by decide +kernel
theorem dX8_own_39 : decode cX8_own 39 = .ok (.if_icmp .ne 21, 3) := by decide +kernel
theorem dX8_own_42 : decode cX8_own 42 = .ok (.aload_n 0, 1) := by decide +kernel
theorem dX8_own_43 : decode cX8_own 43 = .ok (.getfield 7, 3) := by decide +kernel
theorem dX8_own_46 : decode cX8_own 46 = .ok (.iload 5, 2) := by decide +kernel
theorem dX8_own_48 : decode cX8_own 48 = .ok (.iconst 2, 1) := by decide +kernel
theorem dX8_own_49 : decode cX8_own 49 = .ok (.iadd, 1) := by decide +kernel
theorem dX8_own_50 : decode cX8_own 50 = .ok (.iaload, 1) := by decide +kernel
theorem dX8_own_51 : decode cX8_own 51 = .ok (.iload_n 1, 1) := by decide +kernel
theorem dX8_own_52 : decode cX8_own 52 = .ok (.if_icmp .ne 8, 3) := by decide +kernel
theorem dX8_own_55 : decode cX8_own 55 = .ok (.iload 4, 2) := by decide +kernel
theorem dX8_own_57 : decode cX8_own 57 = .ok (.goto 4, 3) := by decide +kernel
theorem dX8_own_60 : decode cX8_own 60 = .ok (.iload_n 3, 1) := by decide +kernel
theorem dX8_own_61 : decode cX8_own 61 = .ok (.istore_n 3, 1) := by decide +kernel
theorem dX8_own_62 : decode cX8_own 62 = .ok (.iinc 4 1, 3) := by decide +kernel
theorem dX8_own_65 : decode cX8_own 65 = .ok (.goto (-60), 3) := by decide +kernel
theorem dX8_own_68 : decode cX8_own 68 = .ok (.iload_n 3, 1) := by decide +kernel
theorem dX8_own_69 : decode cX8_own 69 = .ok (.ireturn, 1) := by decide +kernel
theorem dX8_free_0 : decode cX8_free 0 = .ok (.iconst (-1), 1) := by decide +kernel
theorem dX8_free_1 : decode cX8_free 1 = .ok (.istore_n 1, 1) := by decide +kernel
theorem dX8_free_2 : decode cX8_free 2 = .ok (.bipush 15, 2) := by decide +kernel
theorem dX8_free_4 : decode cX8_free 4 = .ok (.istore_n 2, 1) := by decide +kernel
theorem dX8_free_5 : decode cX8_free 5 = .ok (.iload_n 2, 1) := by decide +kernel
theorem dX8_free_6 : decode cX8_free 6 = .ok (.ifCond .lt 27, 3) := by decide +kernel
theorem dX8_free_9 : decode cX8_free 9 = .ok (.aload_n 0, 1) := by decide +kernel
theorem dX8_free_10 : decode cX8_free 10 = .ok (.getfield 7, 3) := by decide +kernel
theorem dX8_free_13 : decode cX8_free 13 = .ok (.iload_n 2, 1) := by decide +kernel
theorem dX8_free_14 : decode cX8_free 14 = .ok (.invokestatic 49, 3) := by decide +kernel
theorem dX8_free_17 : decode cX8_free 17 = .ok (.iaload, 1) := by decide +kernel
theorem dX8_free_18 : decode cX8_free 18 = .ok (.ifCond .ge 7, 3) := by decide +kernel
theorem dX8_free_21 : decode cX8_free 21 = .ok (.iload_n 2, 1) := by decide +kernel
theorem dX8_free_22 : decode cX8_free 22 = .ok (.goto 4, 3) := by decide +kernel
theorem dX8_free_25 : decode cX8_free 25 = .ok (.iload_n 1, 1) := by decide +kernel
theorem dX8_free_26 : decode cX8_free 26 = .ok (.istore_n 1, 1) := by decide +kernel
theorem dX8_free_27 : decode cX8_free 27 = .ok (.iinc 2 (-1), 3) := by decide +kernel
theorem dX8_free_30 : decode cX8_free 30 = .ok (.goto (-25), 3) := by decide +kernel
theorem dX8_free_33 : decode cX8_free 33 = .ok (.iload_n 1, 1) := by decide +kernel
theorem dX8_free_34 : decode cX8_free 34 = .ok (.ireturn, 1) := by decide +kernel
theorem dX8_rewrite_0 : decode cX8_rewrite 0 = .ok (.iload_n 1, 1) := by decide +kernel
theorem dX8_rewrite_1 : decode cX8_rewrite 1 = .ok (.iconst 0, 1) := by decide +kernel
theorem dX8_rewrite_2 : decode cX8_rewrite 2 = .ok (.bipush 9, 2) := by decide +kernel
theorem dX8_rewrite_4 : decode cX8_rewrite 4 = .ok (.invokestatic 59, 3) := by decide +kernel
theorem dX8_rewrite_7 : decode cX8_rewrite 7 = .ok (.ifCond .eq 11, 3) := by decide +kernel
theorem dX8_rewrite_10 : decode cX8_rewrite 10 = .ok (.iload_n 2, 1) := by decide +kernel
theorem dX8_rewrite_11 : decode cX8_rewrite 11 = .ok (.iload_n 3, 1) := by decide +kernel
theorem dX8_rewrite_12 : decode cX8_rewrite 12 = .ok (.invokestatic 72, 3) := by decide +kernel
theorem dX8_rewrite_15 : decode cX8_rewrite 15 = .ok (.ifCond .ne 5, 3) := by decide +kernel
theorem dX8_rewrite_18 : decode cX8_rewrite 18 = .ok (.iconst (-1), 1) := by decide +kernel
theorem dX8_rewrite_19 : decode cX8_rewrite 19 = .ok (.ireturn, 1) := by decide +kernel
theorem dX8_rewrite_20 : decode cX8_rewrite 20 = .ok (.aload_n 0, 1) := by decide +kernel
theorem dX8_rewrite_21 : decode cX8_rewrite 21 = .ok (.invokevirtual 78, 3) := by decide +kernel
theorem dX8_rewrite_24 : decode cX8_rewrite 24 = .ok (.ifCond .lt 11, 3) := by decide +kernel
theorem dX8_rewrite_27 : decode cX8_rewrite 27 = .ok (.bipush (-100), 2) := by decide +kernel
theorem dX8_rewrite_29 : decode cX8_rewrite 29 = .ok (.aload_n 0, 1) := by decide +kernel
theorem dX8_rewrite_30 : decode cX8_rewrite 30 = .ok (.invokevirtual 78, 3) := by decide +kernel
theorem dX8_rewrite_33 : decode cX8_rewrite 33 = .ok (.isub, 1) := by decide +kernel
theorem dX8_rewrite_34 : decode cX8_rewrite 34 = .ok (.ireturn, 1) := by decide +kernel
theorem dX8_rewrite_35 : decode cX8_rewrite 35 = .ok (.aload_n 0, 1) := by decide +kernel
theorem dX8_rewrite_36 : decode cX8_rewrite 36 = .ok (.invokevirtual 82, 3) := by decide +kernel
theorem dX8_rewrite_39 : decode cX8_rewrite 39 = .ok (.aload_n 0, 1) := by decide +kernel
theorem dX8_rewrite_40 : decode cX8_rewrite 40 = .ok (.getfield 7, 3) := by decide +kernel
theorem dX8_rewrite_43 : decode cX8_rewrite 43 = .ok (.bipush 12, 2) := by decide +kernel
theorem dX8_rewrite_45 : decode cX8_rewrite 45 = .ok (.aload_n 0, 1) := by decide +kernel
theorem dX8_rewrite_46 : decode cX8_rewrite 46 = .ok (.getfield 7, 3) := by decide +kernel
theorem dX8_rewrite_49 : decode cX8_rewrite 49 = .ok (.iload_n 2, 1) := by decide +kernel
theorem dX8_rewrite_50 : decode cX8_rewrite 50 = .ok (.iaload, 1) := by decide +kernel
theorem dX8_rewrite_51 : decode cX8_rewrite 51 = .ok (.iadd, 1) := by decide +kernel
theorem dX8_rewrite_52 : decode cX8_rewrite 52 = .ok (.iaload, 1) := by decide +kernel
theorem dX8_rewrite_53 : decode cX8_rewrite 53 = .ok (.if_icmp .le 6, 3) := by decide +kernel
theorem dX8_rewrite_56 : decode cX8_rewrite 56 = .ok (.bipush (-6), 2) := by decide +kernel
theorem dX8_rewrite_58 : decode cX8_rewrite 58 = .ok (.ireturn, 1) := by decide +kernel
theorem dX8_rewrite_59 : decode cX8_rewrite 59 = .ok (.iload_n 2, 1) := by decide +kernel
theorem dX8_rewrite_60 : decode cX8_rewrite 60 = .ok (.iload_n 3, 1) := by decide +kernel
theorem dX8_rewrite_61 : decode cX8_rewrite 61 = .ok (.invokestatic 28, 3) := by decide +kernel
theorem dX8_rewrite_64 : decode cX8_rewrite 64 = .ok (.istore 4, 2) := by decide +kernel
theorem dX8_rewrite_66 : decode cX8_rewrite 66 = .ok (.aload_n 0, 1) := by decide +kernel
theorem dX8_rewrite_67 : decode cX8_rewrite 67 = .ok (.iload 4, 2) := by decide +kernel
theorem dX8_rewrite_69 : decode cX8_rewrite 69 = .ok (.iconst 4, 1) := by decide +kernel
theorem dX8_rewrite_70 : decode cX8_rewrite 70 = .ok (.iadd, 1) := by decide +kernel
theorem dX8_rewrite_71 : decode cX8_rewrite 71 = .ok (.aload_n 0, 1) := by decide +kernel
theorem dX8_rewrite_72 : decode cX8_rewrite 72 = .ok (.getfield 7, 3) := by decide +kernel
theorem dX8_rewrite_75 : decode cX8_rewrite 75 = .ok (.iload 4, 2) := by decide +kernel
theorem dX8_rewrite_77 : decode cX8_rewrite 77 = .ok (.iaload, 1) := by decide +kernel
theorem dX8_rewrite_78 : decode cX8_rewrite 78 = .ok (.invokevirtual 85, 3) := by decide +kernel
theorem dX8_rewrite_81 : decode cX8_rewrite 81 = .ok (.ifCond .eq 6, 3) := by decide +kernel
theorem dX8_rewrite_84 : decode cX8_rewrite 84 = .ok (.bipush (-4), 2) := by decide +kernel
theorem dX8_rewrite_86 : decode cX8_rewrite 86 = .ok (.ireturn, 1) := by decide +kernel
theorem dX8_rewrite_87 : decode cX8_rewrite 87 = .ok (.aload_n 0, 1) := by decide +kernel
theorem dX8_rewrite_88 : decode cX8_rewrite 88 = .ok (.iload_n 1, 1) := by decide +kernel
theorem dX8_rewrite_89 : decode cX8_rewrite 89 = .ok (.iconst 3, 1) := by decide +kernel
theorem dX8_rewrite_90 : decode cX8_rewrite 90 = .ok (.iload_n 2, 1) := by decide +kernel
theorem dX8_rewrite_91 : decode cX8_rewrite 91 = .ok (.imul, 1) := by decide +kernel
theorem dX8_rewrite_92 : decode cX8_rewrite 92 = .ok (.iload_n 3, 1) := by decide +kernel
theorem dX8_rewrite_93 : decode cX8_rewrite 93 = .ok (.iadd, 1) := by decide +kernel
theorem dX8_rewrite_94 : decode cX8_rewrite 94 = .ok (.invokevirtual 92, 3) := by decide +kernel
theorem dX8_rewrite_97 : decode cX8_rewrite 97 = .ok (.istore 5, 2) := by decide +kernel
theorem dX8_rewrite_99 : decode cX8_rewrite 99 = .ok (.iload 5, 2) := by decide +kernel
theorem dX8_rewrite_101 : decode cX8_rewrite 101 = .ok (.ifCond .lt 8, 3) := by decide +kernel
theorem dX8_rewrite_104 : decode cX8_rewrite 104 = .ok (.iload 5, 2) := by decide +kernel
theorem dX8_rewrite_106 : decode cX8_rewrite 106 = .ok (.goto 7, 3) := by decide +kernel
theorem dX8_rewrite_109 : decode cX8_rewrite 109 = .ok (.aload_n 0, 1) := by decide +kernel
theorem dX8_rewrite_110 : decode cX8_rewrite 110 = .ok (.invokevirtual 95, 3) := by decide +kernel
theorem dX8_rewrite_113 : decode cX8_rewrite 113 = .ok (.istore 6, 2) := by decide +kernel
theorem dX8_rewrite_115 : decode cX8_rewrite 115 = .ok (.iload 6, 2) := by decide +kernel
theorem dX8_rewrite_117 : decode cX8_rewrite 117 = .ok (.ifCond .lt 16, 3) := by decide +kernel
theorem dX8_rewrite_120 : decode cX8_rewrite 120 = .ok (.aload_n 0, 1) := by decide +kernel
theorem dX8_rewrite_121 : decode cX8_rewrite 121 = .ok (.getfield 7, 3) := by decide +kernel
theorem dX8_rewrite_124 : decode cX8_rewrite 124 = .ok (.bipush 18, 2) := by decide +kernel
theorem dX8_rewrite_126 : decode cX8_rewrite 126 = .ok (.iaload, 1) := by decide +kernel
theorem dX8_rewrite_127 : decode cX8_rewrite 127 = .ok (.sipush 200, 3) := by decide +kernel
theorem dX8_rewrite_130 : decode cX8_rewrite 130 = .ok (.if_icmp .ne 6, 3) := by decide +kernel
theorem dX8_rewrite_133 : decode cX8_rewrite 133 = .ok (.bipush (-3), 2) := by decide +kernel
theorem dX8_rewrite_135 : decode cX8_rewrite 135 = .ok (.ireturn, 1) := by decide +kernel
theorem dX8_rewrite_136 : decode cX8_rewrite 136 = .ok (.aload_n 0, 1) := by decide +kernel
theorem dX8_rewrite_137 : decode cX8_rewrite 137 = .ok (.invokevirtual 63, 3) := by decide +kernel
theorem dX8_rewrite_140 : decode cX8_rewrite 140 = .ok (.iload 5, 2) := by decide +kernel
theorem dX8_rewrite_142 : decode cX8_rewrite 142 = .ok (.ifCond .lt 9, 3) := by decide +kernel
theorem dX8_rewrite_145 : decode cX8_rewrite 145 = .ok (.aload_n 0, 1) := by decide +kernel
theorem dX8_rewrite_146 : decode cX8_rewrite 146 = .ok (.iload 5, 2) := by decide +kernel
theorem dX8_rewrite_148 : decode cX8_rewrite 148 = .ok (.invokevirtual 98, 3) := by decide +kernel
theorem dX8_rewrite_151 : decode cX8_rewrite 151 = .ok (.iload 6, 2) := by decide +kernel
theorem dX8_rewrite_153 : decode cX8_rewrite 153 = .ok (.invokestatic 49, 3) := by decide +kernel
theorem dX8_rewrite_156 : decode cX8_rewrite 156 = .ok (.istore 7, 2) := by decide +kernel
theorem dX8_rewrite_158 : decode cX8_rewrite 158 = .ok (.aload_n 0, 1) := by decide +kernel
theorem dX8_rewrite_159 : decode cX8_rewrite 159 = .ok (.getfield 7, 3) := by decide +kernel
theorem dX8_rewrite_162 : decode cX8_rewrite 162 = .ok (.iload 7, 2) := by decide +kernel
theorem dX8_rewrite_164 : decode cX8_rewrite 164 = .ok (.aload_n 0, 1) := by decide +kernel
theorem dX8_rewrite_165 : decode cX8_rewrite 165 = .ok (.getfield 7, 3) := by decide +kernel
theorem dX8_rewrite_168 : decode cX8_rewrite 168 = .ok (.bipush 18, 2) := by decide +kernel
theorem dX8_rewrite_170 : decode cX8_rewrite 170 = .ok (.iaload, 1) := by decide +kernel
theorem dX8_rewrite_171 : decode cX8_rewrite 171 = .ok (.iastore, 1) := by decide +kernel
theorem dX8_rewrite_172 : decode cX8_rewrite 172 = .ok (.aload_n 0, 1) := by decide +kernel
theorem dX8_rewrite_173 : decode cX8_rewrite 173 = .ok (.getfield 7, 3) := by decide +kernel
theorem dX8_rewrite_176 : decode cX8_rewrite 176 = .ok (.iload 7, 2) := by decide +kernel
theorem dX8_rewrite_178 : decode cX8_rewrite 178 = .ok (.iconst 1, 1) := by decide +kernel
theorem dX8_rewrite_179 : decode cX8_rewrite 179 = .ok (.iadd, 1) := by decide +kernel
theorem dX8_rewrite_180 : decode cX8_rewrite 180 = .ok (.iconst 3, 1) := by decide +kernel
theorem dX8_rewrite_181 : decode cX8_rewrite 181 = .ok (.iload_n 2, 1) := by decide +kernel
theorem dX8_rewrite_182 : decode cX8_rewrite 182 = .ok (.imul, 1) := by decide +kernel
theorem dX8_rewrite_183 : decode cX8_rewrite 183 = .ok (.iload_n 3, 1) := by decide +kernel
theorem dX8_rewrite_184 : decode cX8_rewrite 184 = .ok (.iadd, 1) := by decide +kernel
theorem dX8_rewrite_185 : decode cX8_rewrite 185 = .ok (.iastore, 1) := by decide +kernel
theorem dX8_rewrite_186 : decode cX8_rewrite 186 = .ok (.aload_n 0, 1) := by decide +kernel
theorem dX8_rewrite_187 : decode cX8_rewrite 187 = .ok (.getfield 7, 3) := by decide +kernel
theorem dX8_rewrite_190 : decode cX8_rewrite 190 = .ok (.iload 7, 2) := by decide +kernel
theorem dX8_rewrite_192 : decode cX8_rewrite 192 = .ok (.iconst 2, 1) := by decide +kernel
theorem dX8_rewrite_193 : decode cX8_rewrite 193 = .ok (.iadd, 1) := by decide +kernel
theorem dX8_rewrite_194 : decode cX8_rewrite 194 = .ok (.iload_n 1, 1) := by decide +kernel
theorem dX8_rewrite_195 : decode cX8_rewrite 195 = .ok (.iastore, 1) := by decide +kernel
theorem dX8_rewrite_196 : decode cX8_rewrite 196 = .ok (.aload_n 0, 1) := by decide +kernel
theorem dX8_rewrite_197 : decode cX8_rewrite 197 = .ok (.getfield 7, 3) := by decide +kernel
theorem dX8_rewrite_200 : decode cX8_rewrite 200 = .ok (.iload 7, 2) := by decide +kernel
theorem dX8_rewrite_202 : decode cX8_rewrite 202 = .ok (.iconst 3, 1) := by decide +kernel
theorem dX8_rewrite_203 : decode cX8_rewrite 203 = .ok (.iadd, 1) := by decide +kernel
theorem dX8_rewrite_204 : decode cX8_rewrite 204 = .ok (.iconst 0, 1) := by decide +kernel
theorem dX8_rewrite_205 : decode cX8_rewrite 205 = .ok (.iastore, 1) := by decide +kernel
theorem dX8_rewrite_206 : decode cX8_rewrite 206 = .ok (.aload_n 0, 1) := by decide +kernel
theorem dX8_rewrite_207 : decode cX8_rewrite 207 = .ok (.getfield 7, 3) := by decide +kernel
theorem dX8_rewrite_210 : decode cX8_rewrite 210 = .ok (.iload 7, 2) := by decide +kernel
theorem dX8_rewrite_212 : decode cX8_rewrite 212 = .ok (.iconst 4, 1) := by decide +kernel
theorem dX8_rewrite_213 : decode cX8_rewrite 213 = .ok (.iadd, 1) := by decide +kernel
theorem dX8_rewrite_214 : decode cX8_rewrite 214 = .ok (.aload_n 0, 1) := by decide +kernel
theorem dX8_rewrite_215 : decode cX8_rewrite 215 = .ok (.getfield 56, 3) := by decide +kernel
theorem dX8_rewrite_218 : decode cX8_rewrite 218 = .ok (.iastore, 1) := by decide +kernel
theorem dX8_rewrite_219 : decode cX8_rewrite 219 = .ok (.aload_n 0, 1) := by decide +kernel
theorem dX8_rewrite_220 : decode cX8_rewrite 220 = .ok (.iload 7, 2) := by decide +kernel
theorem dX8_rewrite_222 : decode cX8_rewrite 222 = .ok (.iconst 5, 1) := by decide +kernel
theorem dX8_rewrite_223 : decode cX8_rewrite 223 = .ok (.iadd, 1) := by decide +kernel
theorem dX8_rewrite_224 : decode cX8_rewrite 224 = .ok (.invokevirtual 88, 3) := by decide +kernel
theorem dX8_rewrite_227 : decode cX8_rewrite 227 = .ok (.aload_n 0, 1) := by decide +kernel
theorem dX8_rewrite_228 : decode cX8_rewrite 228 = .ok (.getfield 7, 3) := by decide +kernel
theorem dX8_rewrite_231 : decode cX8_rewrite 231 = .ok (.bipush 18, 2) := by decide +kernel
theorem dX8_rewrite_233 : decode cX8_rewrite 233 = .ok (.dup2, 1) := by decide +kernel
theorem dX8_rewrite_234 : decode cX8_rewrite 234 = .ok (.iaload, 1) := by decide +kernel
theorem dX8_rewrite_235 : decode cX8_rewrite 235 = .ok (.iconst 1, 1) := by decide +kernel
theorem dX8_rewrite_236 : decode cX8_rewrite 236 = .ok (.iadd, 1) := by decide +kernel
theorem dX8_rewrite_237 : decode cX8_rewrite 237 = .ok (.iastore, 1) := by decide +kernel
theorem dX8_rewrite_238 : decode cX8_rewrite 238 = .ok (.aload_n 0, 1) := by decide +kernel
theorem dX8_rewrite_239 : decode cX8_rewrite 239 = .ok (.getfield 7, 3) := by decide +kernel
theorem dX8_rewrite_242 : decode cX8_rewrite 242 = .ok (.iload 7, 2) := by decide +kernel
theorem dX8_rewrite_244 : decode cX8_rewrite 244 = .ok (.iaload, 1) := by decide +kernel
theorem dX8_rewrite_245 : decode cX8_rewrite 245 = .ok (.ireturn, 1) := by decide +kernel
theorem dX8_vote_0 : decode cX8_vote 0 = .ok (.aload_n 0, 1) := by decide +kernel
theorem dX8_vote_1 : decode cX8_vote 1 = .ok (.iload_n 2, 1) := by decide +kernel
theorem dX8_vote_2 : decode cX8_vote 2 = .ok (.invokevirtual 101, 3) := by decide +kernel
theorem dX8_vote_5 : decode cX8_vote 5 = .ok (.istore 4, 2) := by decide +kernel
theorem dX8_vote_7 : decode cX8_vote 7 = .ok (.iload_n 1, 1) := by decide +kernel
theorem dX8_vote_8 : decode cX8_vote 8 = .ok (.iconst 0, 1) := by decide +kernel
theorem dX8_vote_9 : decode cX8_vote 9 = .ok (.bipush 9, 2) := by decide +kernel
theorem dX8_vote_11 : decode cX8_vote 11 = .ok (.invokestatic 59, 3) := by decide +kernel
theorem dX8_vote_14 : decode cX8_vote 14 = .ok (.ifCond .eq 8, 3) := by decide +kernel
theorem dX8_vote_17 : decode cX8_vote 17 = .ok (.iload 4, 2) := by decide +kernel
theorem dX8_vote_19 : decode cX8_vote 19 = .ok (.ifCond .ge 5, 3) := by decide +kernel
theorem dX8_vote_22 : decode cX8_vote 22 = .ok (.iconst (-1), 1) := by decide +kernel
theorem dX8_vote_23 : decode cX8_vote 23 = .ok (.ireturn, 1) := by decide +kernel
theorem dX8_vote_24 : decode cX8_vote 24 = .ok (.iload 4, 2) := by decide +kernel
theorem dX8_vote_26 : decode cX8_vote 26 = .ok (.invokestatic 49, 3) := by decide +kernel
theorem dX8_vote_29 : decode cX8_vote 29 = .ok (.istore 5, 2) := by decide +kernel
theorem dX8_vote_31 : decode cX8_vote 31 = .ok (.aload_n 0, 1) := by decide +kernel
theorem dX8_vote_32 : decode cX8_vote 32 = .ok (.getfield 7, 3) := by decide +kernel
theorem dX8_vote_35 : decode cX8_vote 35 = .ok (.iload 5, 2) := by decide +kernel
theorem dX8_vote_37 : decode cX8_vote 37 = .ok (.iconst 2, 1) := by decide +kernel
theorem dX8_vote_38 : decode cX8_vote 38 = .ok (.iadd, 1) := by decide +kernel
theorem dX8_vote_39 : decode cX8_vote 39 = .ok (.iaload, 1) := by decide +kernel
theorem dX8_vote_40 : decode cX8_vote 40 = .ok (.iload_n 1, 1) := by decide +kernel
theorem dX8_vote_41 : decode cX8_vote 41 = .ok (.if_icmp .ne 6, 3) := by decide +kernel
theorem dX8_vote_44 : decode cX8_vote 44 = .ok (.bipush (-4), 2) := by decide +kernel
theorem dX8_vote_46 : decode cX8_vote 46 = .ok (.ireturn, 1) := by decide +kernel
theorem dX8_vote_47 : decode cX8_vote 47 = .ok (.bipush 32, 2) := by decide +kernel
theorem dX8_vote_49 : decode cX8_vote 49 = .ok (.bipush 24, 2) := by decide +kernel
theorem dX8_vote_51 : decode cX8_vote 51 = .ok (.iload_n 1, 1) := by decide +kernel
theorem dX8_vote_52 : decode cX8_vote 52 = .ok (.imul, 1) := by decide +kernel
theorem dX8_vote_53 : decode cX8_vote 53 = .ok (.iadd, 1) := by decide +kernel
theorem dX8_vote_54 : decode cX8_vote 54 = .ok (.aload_n 0, 1) := by decide +kernel
theorem dX8_vote_55 : decode cX8_vote 55 = .ok (.getfield 7, 3) := by decide +kernel
theorem dX8_vote_58 : decode cX8_vote 58 = .ok (.iload 5, 2) := by decide +kernel
theorem dX8_vote_60 : decode cX8_vote 60 = .ok (.iconst 1, 1) := by decide +kernel
theorem dX8_vote_61 : decode cX8_vote 61 = .ok (.iadd, 1) := by decide +kernel
theorem dX8_vote_62 : decode cX8_vote 62 = .ok (.iaload, 1) := by decide +kernel
theorem dX8_vote_63 : decode cX8_vote 63 = .ok (.iadd, 1) := by decide +kernel
theorem dX8_vote_64 : decode cX8_vote 64 = .ok (.istore 6, 2) := by decide +kernel
theorem dX8_vote_66 : decode cX8_vote 66 = .ok (.aload_n 0, 1) := by decide +kernel
theorem dX8_vote_67 : decode cX8_vote 67 = .ok (.getfield 7, 3) := by decide +kernel
theorem dX8_vote_70 : decode cX8_vote 70 = .ok (.iload 6, 2) := by decide +kernel
theorem dX8_vote_72 : decode cX8_vote 72 = .ok (.iaload, 1) := by decide +kernel
theorem dX8_vote_73 : decode cX8_vote 73 = .ok (.iload_n 2, 1) := by decide +kernel
theorem dX8_vote_74 : decode cX8_vote 74 = .ok (.if_icmp .ne 7, 3) := by decide +kernel
theorem dX8_vote_77 : decode cX8_vote 77 = .ok (.iconst 1, 1) := by decide +kernel
theorem dX8_vote_78 : decode cX8_vote 78 = .ok (.goto 4, 3) := by decide +kernel
theorem dX8_vote_81 : decode cX8_vote 81 = .ok (.iconst 0, 1) := by decide +kernel
theorem dX8_vote_82 : decode cX8_vote 82 = .ok (.iload_n 3, 1) := by decide +kernel
theorem dX8_vote_83 : decode cX8_vote 83 = .ok (.if_icmp .ne 6, 3) := by decide +kernel
theorem dX8_vote_86 : decode cX8_vote 86 = .ok (.bipush (-5), 2) := by decide +kernel
theorem dX8_vote_88 : decode cX8_vote 88 = .ok (.ireturn, 1) := by decide +kernel
theorem dX8_vote_89 : decode cX8_vote 89 = .ok (.aload_n 0, 1) := by decide +kernel
theorem dX8_vote_90 : decode cX8_vote 90 = .ok (.invokevirtual 63, 3) := by decide +kernel
theorem dX8_vote_93 : decode cX8_vote 93 = .ok (.aload_n 0, 1) := by decide +kernel
theorem dX8_vote_94 : decode cX8_vote 94 = .ok (.getfield 7, 3) := by decide +kernel
theorem dX8_vote_97 : decode cX8_vote 97 = .ok (.iload 6, 2) := by decide +kernel
theorem dX8_vote_99 : decode cX8_vote 99 = .ok (.iload_n 3, 1) := by decide +kernel
theorem dX8_vote_100 : decode cX8_vote 100 = .ok (.ifCond .eq 7, 3) := by decide +kernel
theorem dX8_vote_103 : decode cX8_vote 103 = .ok (.iload_n 2, 1) := by decide +kernel
theorem dX8_vote_104 : decode cX8_vote 104 = .ok (.goto 4, 3) := by decide +kernel
theorem dX8_vote_107 : decode cX8_vote 107 = .ok (.iconst (-1), 1) := by decide +kernel
theorem dX8_vote_108 : decode cX8_vote 108 = .ok (.iastore, 1) := by decide +kernel
theorem dX8_vote_109 : decode cX8_vote 109 = .ok (.aload_n 0, 1) := by decide +kernel
theorem dX8_vote_110 : decode cX8_vote 110 = .ok (.iload_n 2, 1) := by decide +kernel
theorem dX8_vote_111 : decode cX8_vote 111 = .ok (.invokevirtual 53, 3) := by decide +kernel
theorem dX8_vote_114 : decode cX8_vote 114 = .ok (.ireturn, 1) := by decide +kernel
theorem dX8_endWeek_0 : decode cX8_endWeek 0 = .ok (.aload_n 0, 1) := by decide +kernel
theorem dX8_endWeek_1 : decode cX8_endWeek 1 = .ok (.invokevirtual 63, 3) := by decide +kernel
theorem dX8_endWeek_4 : decode cX8_endWeek 4 = .ok (.iconst 0, 1) := by decide +kernel
theorem dX8_endWeek_5 : decode cX8_endWeek 5 = .ok (.istore_n 1, 1) := by decide +kernel
theorem dX8_endWeek_6 : decode cX8_endWeek 6 = .ok (.iconst 0, 1) := by decide +kernel
theorem dX8_endWeek_7 : decode cX8_endWeek 7 = .ok (.istore_n 2, 1) := by decide +kernel
theorem dX8_endWeek_8 : decode cX8_endWeek 8 = .ok (.iload_n 2, 1) := by decide +kernel
theorem dX8_endWeek_9 : decode cX8_endWeek 9 = .ok (.bipush 8, 2) := by decide +kernel
theorem dX8_endWeek_11 : decode cX8_endWeek 11 = .ok (.if_icmp .ge 184, 3) := by decide +kernel
theorem dX8_endWeek_14 : decode cX8_endWeek 14 = .ok (.iconst 0, 1) := by decide +kernel
theorem dX8_endWeek_15 : decode cX8_endWeek 15 = .ok (.istore_n 3, 1) := by decide +kernel
theorem dX8_endWeek_16 : decode cX8_endWeek 16 = .ok (.iload_n 3, 1) := by decide +kernel
theorem dX8_endWeek_17 : decode cX8_endWeek 17 = .ok (.iconst 3, 1) := by decide +kernel
theorem dX8_endWeek_18 : decode cX8_endWeek 18 = .ok (.if_icmp .ge 171, 3) := by decide +kernel
theorem dX8_endWeek_21 : decode cX8_endWeek 21 = .ok (.aload_n 0, 1) := by decide +kernel
theorem dX8_endWeek_22 : decode cX8_endWeek 22 = .ok (.iload_n 2, 1) := by decide +kernel
theorem dX8_endWeek_23 : decode cX8_endWeek 23 = .ok (.iload_n 3, 1) := by decide +kernel
theorem dX8_endWeek_24 : decode cX8_endWeek 24 = .ok (.invokevirtual 104, 3) := by decide +kernel
theorem dX8_endWeek_27 : decode cX8_endWeek 27 = .ok (.istore 4, 2) := by decide +kernel
theorem dX8_endWeek_29 : decode cX8_endWeek 29 = .ok (.iload 4, 2) := by decide +kernel
theorem dX8_endWeek_31 : decode cX8_endWeek 31 = .ok (.ifCond .lt 152, 3) := by decide +kernel
theorem dX8_endWeek_34 : decode cX8_endWeek 34 = .ok (.iload_n 2, 1) := by decide +kernel
theorem dX8_endWeek_35 : decode cX8_endWeek 35 = .ok (.iload_n 3, 1) := by decide +kernel
theorem dX8_endWeek_36 : decode cX8_endWeek 36 = .ok (.invokestatic 28, 3) := by decide +kernel
theorem dX8_endWeek_39 : decode cX8_endWeek 39 = .ok (.istore 5, 2) := by decide +kernel
theorem dX8_endWeek_41 : decode cX8_endWeek 41 = .ok (.iload 4, 2) := by decide +kernel
theorem dX8_endWeek_43 : decode cX8_endWeek 43 = .ok (.invokestatic 49, 3) := by decide +kernel
theorem dX8_endWeek_46 : decode cX8_endWeek 46 = .ok (.istore 6, 2) := by decide +kernel
theorem dX8_endWeek_48 : decode cX8_endWeek 48 = .ok (.aload_n 0, 1) := by decide +kernel
theorem dX8_endWeek_49 : decode cX8_endWeek 49 = .ok (.getfield 7, 3) := by decide +kernel
theorem dX8_endWeek_52 : decode cX8_endWeek 52 = .ok (.iload 5, 2) := by decide +kernel
theorem dX8_endWeek_54 : decode cX8_endWeek 54 = .ok (.aload_n 0, 1) := by decide +kernel
theorem dX8_endWeek_55 : decode cX8_endWeek 55 = .ok (.getfield 7, 3) := by decide +kernel
theorem dX8_endWeek_58 : decode cX8_endWeek 58 = .ok (.iload 6, 2) := by decide +kernel
theorem dX8_endWeek_60 : decode cX8_endWeek 60 = .ok (.iconst 4, 1) := by decide +kernel
theorem dX8_endWeek_61 : decode cX8_endWeek 61 = .ok (.iadd, 1) := by decide +kernel
theorem dX8_endWeek_62 : decode cX8_endWeek 62 = .ok (.iaload, 1) := by decide +kernel
theorem dX8_endWeek_63 : decode cX8_endWeek 63 = .ok (.iastore, 1) := by decide +kernel
theorem dX8_endWeek_64 : decode cX8_endWeek 64 = .ok (.aload_n 0, 1) := by decide +kernel
theorem dX8_endWeek_65 : decode cX8_endWeek 65 = .ok (.getfield 7, 3) := by decide +kernel
theorem dX8_endWeek_68 : decode cX8_endWeek 68 = .ok (.iload 5, 2) := by decide +kernel
theorem dX8_endWeek_70 : decode cX8_endWeek 70 = .ok (.iconst 1, 1) := by decide +kernel
theorem dX8_endWeek_71 : decode cX8_endWeek 71 = .ok (.iadd, 1) := by decide +kernel
theorem dX8_endWeek_72 : decode cX8_endWeek 72 = .ok (.aload_n 0, 1) := by decide +kernel
theorem dX8_endWeek_73 : decode cX8_endWeek 73 = .ok (.getfield 7, 3) := by decide +kernel
theorem dX8_endWeek_76 : decode cX8_endWeek 76 = .ok (.iload 6, 2) := by decide +kernel
theorem dX8_endWeek_78 : decode cX8_endWeek 78 = .ok (.iconst 2, 1) := by decide +kernel
theorem dX8_endWeek_79 : decode cX8_endWeek 79 = .ok (.iadd, 1) := by decide +kernel
theorem dX8_endWeek_80 : decode cX8_endWeek 80 = .ok (.iaload, 1) := by decide +kernel
theorem dX8_endWeek_81 : decode cX8_endWeek 81 = .ok (.iastore, 1) := by decide +kernel
theorem dX8_endWeek_82 : decode cX8_endWeek 82 = .ok (.aload_n 0, 1) := by decide +kernel
theorem dX8_endWeek_83 : decode cX8_endWeek 83 = .ok (.getfield 7, 3) := by decide +kernel
theorem dX8_endWeek_86 : decode cX8_endWeek 86 = .ok (.iload 5, 2) := by decide +kernel
theorem dX8_endWeek_88 : decode cX8_endWeek 88 = .ok (.iconst 2, 1) := by decide +kernel
theorem dX8_endWeek_89 : decode cX8_endWeek 89 = .ok (.iadd, 1) := by decide +kernel
theorem dX8_endWeek_90 : decode cX8_endWeek 90 = .ok (.aload_n 0, 1) := by decide +kernel
theorem dX8_endWeek_91 : decode cX8_endWeek 91 = .ok (.getfield 7, 3) := by decide +kernel
theorem dX8_endWeek_94 : decode cX8_endWeek 94 = .ok (.bipush 17, 2) := by decide +kernel
theorem dX8_endWeek_96 : decode cX8_endWeek 96 = .ok (.iaload, 1) := by decide +kernel
theorem dX8_endWeek_97 : decode cX8_endWeek 97 = .ok (.iastore, 1) := by decide +kernel
theorem dX8_endWeek_98 : decode cX8_endWeek 98 = .ok (.aload_n 0, 1) := by decide +kernel
theorem dX8_endWeek_99 : decode cX8_endWeek 99 = .ok (.getfield 7, 3) := by decide +kernel
theorem dX8_endWeek_102 : decode cX8_endWeek 102 = .ok (.iload 5, 2) := by decide +kernel
theorem dX8_endWeek_104 : decode cX8_endWeek 104 = .ok (.iconst 3, 1) := by decide +kernel
theorem dX8_endWeek_105 : decode cX8_endWeek 105 = .ok (.iadd, 1) := by decide +kernel
theorem dX8_endWeek_106 : decode cX8_endWeek 106 = .ok (.iconst 0, 1) := by decide +kernel
theorem dX8_endWeek_107 : decode cX8_endWeek 107 = .ok (.iastore, 1) := by decide +kernel
theorem dX8_endWeek_108 : decode cX8_endWeek 108 = .ok (.iconst 0, 1) := by decide +kernel
theorem dX8_endWeek_109 : decode cX8_endWeek 109 = .ok (.istore 7, 2) := by decide +kernel
theorem dX8_endWeek_111 : decode cX8_endWeek 111 = .ok (.iload 7, 2) := by decide +kernel
theorem dX8_endWeek_113 : decode cX8_endWeek 113 = .ok (.aload_n 0, 1) := by decide +kernel
theorem dX8_endWeek_114 : decode cX8_endWeek 114 = .ok (.getfield 7, 3) := by decide +kernel
theorem dX8_endWeek_117 : decode cX8_endWeek 117 = .ok (.iload 5, 2) := by decide +kernel
theorem dX8_endWeek_119 : decode cX8_endWeek 119 = .ok (.iaload, 1) := by decide +kernel
theorem dX8_endWeek_120 : decode cX8_endWeek 120 = .ok (.if_icmp .ge 33, 3) := by decide +kernel
theorem dX8_endWeek_123 : decode cX8_endWeek 123 = .ok (.aload_n 0, 1) := by decide +kernel
theorem dX8_endWeek_124 : decode cX8_endWeek 124 = .ok (.getfield 7, 3) := by decide +kernel
theorem dX8_endWeek_127 : decode cX8_endWeek 127 = .ok (.iload 5, 2) := by decide +kernel
theorem dX8_endWeek_129 : decode cX8_endWeek 129 = .ok (.iconst 4, 1) := by decide +kernel
theorem dX8_endWeek_130 : decode cX8_endWeek 130 = .ok (.iadd, 1) := by decide +kernel
theorem dX8_endWeek_131 : decode cX8_endWeek 131 = .ok (.iload 7, 2) := by decide +kernel
theorem dX8_endWeek_133 : decode cX8_endWeek 133 = .ok (.iadd, 1) := by decide +kernel
theorem dX8_endWeek_134 : decode cX8_endWeek 134 = .ok (.aload_n 0, 1) := by decide +kernel
theorem dX8_endWeek_135 : decode cX8_endWeek 135 = .ok (.getfield 7, 3) := by decide +kernel
theorem dX8_endWeek_138 : decode cX8_endWeek 138 = .ok (.iload 6, 2) := by decide +kernel
theorem dX8_endWeek_140 : decode cX8_endWeek 140 = .ok (.iconst 5, 1) := by decide +kernel
theorem dX8_endWeek_141 : decode cX8_endWeek 141 = .ok (.iadd, 1) := by decide +kernel
theorem dX8_endWeek_142 : decode cX8_endWeek 142 = .ok (.iload 7, 2) := by decide +kernel
theorem dX8_endWeek_144 : decode cX8_endWeek 144 = .ok (.iadd, 1) := by decide +kernel
theorem dX8_endWeek_145 : decode cX8_endWeek 145 = .ok (.iaload, 1) := by decide +kernel
theorem dX8_endWeek_146 : decode cX8_endWeek 146 = .ok (.iastore, 1) := by decide +kernel
theorem dX8_endWeek_147 : decode cX8_endWeek 147 = .ok (.iinc 7 1, 3) := by decide +kernel
theorem dX8_endWeek_150 : decode cX8_endWeek 150 = .ok (.goto (-39), 3) := by decide +kernel
theorem dX8_endWeek_153 : decode cX8_endWeek 153 = .ok (.aload_n 0, 1) := by decide +kernel
theorem dX8_endWeek_154 : decode cX8_endWeek 154 = .ok (.getfield 7, 3) := by decide +kernel
theorem dX8_endWeek_157 : decode cX8_endWeek 157 = .ok (.bipush 22, 2) := by decide +kernel
theorem dX8_endWeek_159 : decode cX8_endWeek 159 = .ok (.aload_n 0, 1) := by decide +kernel
theorem dX8_endWeek_160 : decode cX8_endWeek 160 = .ok (.getfield 7, 3) := by decide +kernel
theorem dX8_endWeek_163 : decode cX8_endWeek 163 = .ok (.iload 6, 2) := by decide +kernel
theorem dX8_endWeek_165 : decode cX8_endWeek 165 = .ok (.iconst 2, 1) := by decide +kernel
theorem dX8_endWeek_166 : decode cX8_endWeek 166 = .ok (.iadd, 1) := by decide +kernel
theorem dX8_endWeek_167 : decode cX8_endWeek 167 = .ok (.iaload, 1) := by decide +kernel
theorem dX8_endWeek_168 : decode cX8_endWeek 168 = .ok (.iadd, 1) := by decide +kernel
theorem dX8_endWeek_169 : decode cX8_endWeek 169 = .ok (.dup2, 1) := by decide +kernel
theorem dX8_endWeek_170 : decode cX8_endWeek 170 = .ok (.iaload, 1) := by decide +kernel
theorem dX8_endWeek_171 : decode cX8_endWeek 171 = .ok (.iconst 1, 1) := by decide +kernel
theorem dX8_endWeek_172 : decode cX8_endWeek 172 = .ok (.iadd, 1) := by decide +kernel
theorem dX8_endWeek_173 : decode cX8_endWeek 173 = .ok (.iastore, 1) := by decide +kernel
theorem dX8_endWeek_174 : decode cX8_endWeek 174 = .ok (.aload_n 0, 1) := by decide +kernel
theorem dX8_endWeek_175 : decode cX8_endWeek 175 = .ok (.iload 4, 2) := by decide +kernel
theorem dX8_endWeek_177 : decode cX8_endWeek 177 = .ok (.invokevirtual 98, 3) := by decide +kernel
theorem dX8_endWeek_180 : decode cX8_endWeek 180 = .ok (.iinc 1 1, 3) := by decide +kernel
theorem dX8_endWeek_183 : decode cX8_endWeek 183 = .ok (.iinc 3 1, 3) := by decide +kernel
theorem dX8_endWeek_186 : decode cX8_endWeek 186 = .ok (.goto (-170), 3) := by decide +kernel
theorem dX8_endWeek_189 : decode cX8_endWeek 189 = .ok (.iinc 2 1, 3) := by decide +kernel
theorem dX8_endWeek_192 : decode cX8_endWeek 192 = .ok (.goto (-184), 3) := by decide +kernel
theorem dX8_endWeek_195 : decode cX8_endWeek 195 = .ok (.iconst 0, 1) := by decide +kernel
theorem dX8_endWeek_196 : decode cX8_endWeek 196 = .ok (.istore_n 2, 1) := by decide +kernel
theorem dX8_endWeek_197 : decode cX8_endWeek 197 = .ok (.iload_n 2, 1) := by decide +kernel
theorem dX8_endWeek_198 : decode cX8_endWeek 198 = .ok (.bipush 16, 2) := by decide +kernel
theorem dX8_endWeek_200 : decode cX8_endWeek 200 = .ok (.if_icmp .ge 63, 3) := by decide +kernel
theorem dX8_endWeek_203 : decode cX8_endWeek 203 = .ok (.iload_n 2, 1) := by decide +kernel
theorem dX8_endWeek_204 : decode cX8_endWeek 204 = .ok (.invokestatic 49, 3) := by decide +kernel
theorem dX8_endWeek_207 : decode cX8_endWeek 207 = .ok (.istore_n 3, 1) := by decide +kernel
theorem dX8_endWeek_208 : decode cX8_endWeek 208 = .ok (.aload_n 0, 1) := by decide +kernel
theorem dX8_endWeek_209 : decode cX8_endWeek 209 = .ok (.getfield 7, 3) := by decide +kernel
theorem dX8_endWeek_212 : decode cX8_endWeek 212 = .ok (.iload_n 3, 1) := by decide +kernel
theorem dX8_endWeek_213 : decode cX8_endWeek 213 = .ok (.iaload, 1) := by decide +kernel
theorem dX8_endWeek_214 : decode cX8_endWeek 214 = .ok (.ifCond .lt 43, 3) := by decide +kernel
theorem dX8_endWeek_217 : decode cX8_endWeek 217 = .ok (.aload_n 0, 1) := by decide +kernel
theorem dX8_endWeek_218 : decode cX8_endWeek 218 = .ok (.getfield 7, 3) := by decide +kernel
theorem dX8_endWeek_221 : decode cX8_endWeek 221 = .ok (.iload_n 3, 1) := by decide +kernel
theorem dX8_endWeek_222 : decode cX8_endWeek 222 = .ok (.iconst 3, 1) := by decide +kernel
theorem dX8_endWeek_223 : decode cX8_endWeek 223 = .ok (.iadd, 1) := by decide +kernel
theorem dX8_endWeek_224 : decode cX8_endWeek 224 = .ok (.dup2, 1) := by decide +kernel
theorem dX8_endWeek_225 : decode cX8_endWeek 225 = .ok (.iaload, 1) := by decide +kernel
theorem dX8_endWeek_226 : decode cX8_endWeek 226 = .ok (.iconst 1, 1) := by decide +kernel
theorem dX8_endWeek_227 : decode cX8_endWeek 227 = .ok (.iadd, 1) := by decide +kernel
theorem dX8_endWeek_228 : decode cX8_endWeek 228 = .ok (.iastore, 1) := by decide +kernel
theorem dX8_endWeek_229 : decode cX8_endWeek 229 = .ok (.aload_n 0, 1) := by decide +kernel
theorem dX8_endWeek_230 : decode cX8_endWeek 230 = .ok (.getfield 7, 3) := by decide +kernel
theorem dX8_endWeek_233 : decode cX8_endWeek 233 = .ok (.iload_n 3, 1) := by decide +kernel
theorem dX8_endWeek_234 : decode cX8_endWeek 234 = .ok (.iconst 3, 1) := by decide +kernel
theorem dX8_endWeek_235 : decode cX8_endWeek 235 = .ok (.iadd, 1) := by decide +kernel
theorem dX8_endWeek_236 : decode cX8_endWeek 236 = .ok (.iaload, 1) := by decide +kernel
theorem dX8_endWeek_237 : decode cX8_endWeek 237 = .ok (.iconst 3, 1) := by decide +kernel
theorem dX8_endWeek_238 : decode cX8_endWeek 238 = .ok (.if_icmp .ne 19, 3) := by decide +kernel
theorem dX8_endWeek_241 : decode cX8_endWeek 241 = .ok (.aload_n 0, 1) := by decide +kernel
theorem dX8_endWeek_242 : decode cX8_endWeek 242 = .ok (.iload_n 2, 1) := by decide +kernel
theorem dX8_endWeek_243 : decode cX8_endWeek 243 = .ok (.invokevirtual 98, 3) := by decide +kernel
theorem dX8_endWeek_246 : decode cX8_endWeek 246 = .ok (.aload_n 0, 1) := by decide +kernel
theorem dX8_endWeek_247 : decode cX8_endWeek 247 = .ok (.getfield 7, 3) := by decide +kernel
theorem dX8_endWeek_250 : decode cX8_endWeek 250 = .ok (.bipush 20, 2) := by decide +kernel
theorem dX8_endWeek_252 : decode cX8_endWeek 252 = .ok (.dup2, 1) := by decide +kernel
theorem dX8_endWeek_253 : decode cX8_endWeek 253 = .ok (.iaload, 1) := by decide +kernel
theorem dX8_endWeek_254 : decode cX8_endWeek 254 = .ok (.iconst 1, 1) := by decide +kernel
theorem dX8_endWeek_255 : decode cX8_endWeek 255 = .ok (.iadd, 1) := by decide +kernel
theorem dX8_endWeek_256 : decode cX8_endWeek 256 = .ok (.iastore, 1) := by decide +kernel
theorem dX8_endWeek_257 : decode cX8_endWeek 257 = .ok (.iinc 2 1, 3) := by decide +kernel
theorem dX8_endWeek_260 : decode cX8_endWeek 260 = .ok (.goto (-63), 3) := by decide +kernel
theorem dX8_endWeek_263 : decode cX8_endWeek 263 = .ok (.aload_n 0, 1) := by decide +kernel
theorem dX8_endWeek_264 : decode cX8_endWeek 264 = .ok (.getfield 7, 3) := by decide +kernel
theorem dX8_endWeek_267 : decode cX8_endWeek 267 = .ok (.bipush 19, 2) := by decide +kernel
theorem dX8_endWeek_269 : decode cX8_endWeek 269 = .ok (.dup2, 1) := by decide +kernel
theorem dX8_endWeek_270 : decode cX8_endWeek 270 = .ok (.iaload, 1) := by decide +kernel
theorem dX8_endWeek_271 : decode cX8_endWeek 271 = .ok (.iload_n 1, 1) := by decide +kernel
theorem dX8_endWeek_272 : decode cX8_endWeek 272 = .ok (.iadd, 1) := by decide +kernel
theorem dX8_endWeek_273 : decode cX8_endWeek 273 = .ok (.iastore, 1) := by decide +kernel
theorem dX8_endWeek_274 : decode cX8_endWeek 274 = .ok (.aload_n 0, 1) := by decide +kernel
theorem dX8_endWeek_275 : decode cX8_endWeek 275 = .ok (.getfield 7, 3) := by decide +kernel
theorem dX8_endWeek_278 : decode cX8_endWeek 278 = .ok (.bipush 17, 2) := by decide +kernel
theorem dX8_endWeek_280 : decode cX8_endWeek 280 = .ok (.dup2, 1) := by decide +kernel
theorem dX8_endWeek_281 : decode cX8_endWeek 281 = .ok (.iaload, 1) := by decide +kernel
theorem dX8_endWeek_282 : decode cX8_endWeek 282 = .ok (.iconst 1, 1) := by decide +kernel
theorem dX8_endWeek_283 : decode cX8_endWeek 283 = .ok (.iadd, 1) := by decide +kernel
theorem dX8_endWeek_284 : decode cX8_endWeek 284 = .ok (.iastore, 1) := by decide +kernel
theorem dX8_endWeek_285 : decode cX8_endWeek 285 = .ok (.iload_n 1, 1) := by decide +kernel
theorem dX8_endWeek_286 : decode cX8_endWeek 286 = .ok (.ireturn, 1) := by decide +kernel
theorem dX8_type_0 : decode cX8_type 0 = .ok (.aload_n 0, 1) := by decide +kernel
theorem dX8_type_1 : decode cX8_type 1 = .ok (.getfield 56, 3) := by decide +kernel
theorem dX8_type_4 : decode cX8_type 4 = .ok (.bipush 60, 2) := by decide +kernel
theorem dX8_type_6 : decode cX8_type 6 = .ok (.if_icmp .ne 6, 3) := by decide +kernel
theorem dX8_type_9 : decode cX8_type 9 = .ok (.bipush (-3), 2) := by decide +kernel
theorem dX8_type_11 : decode cX8_type 11 = .ok (.ireturn, 1) := by decide +kernel
theorem dX8_type_12 : decode cX8_type 12 = .ok (.aload_n 0, 1) := by decide +kernel
theorem dX8_type_13 : decode cX8_type 13 = .ok (.getfield 13, 3) := by decide +kernel
theorem dX8_type_16 : decode cX8_type 16 = .ok (.aload_n 0, 1) := by decide +kernel
theorem dX8_type_17 : decode cX8_type 17 = .ok (.getfield 56, 3) := by decide +kernel
theorem dX8_type_20 : decode cX8_type 20 = .ok (.iload_n 1, 1) := by decide +kernel
theorem dX8_type_21 : decode cX8_type 21 = .ok (.castore, 1) := by decide +kernel
theorem dX8_type_22 : decode cX8_type 22 = .ok (.aload_n 0, 1) := by decide +kernel
theorem dX8_type_23 : decode cX8_type 23 = .ok (.dup, 1) := by decide +kernel
theorem dX8_type_24 : decode cX8_type 24 = .ok (.getfield 56, 3) := by decide +kernel
theorem dX8_type_27 : decode cX8_type 27 = .ok (.iconst 1, 1) := by decide +kernel
theorem dX8_type_28 : decode cX8_type 28 = .ok (.iadd, 1) := by decide +kernel
theorem dX8_type_29 : decode cX8_type 29 = .ok (.putfield 56, 3) := by decide +kernel
theorem dX8_type_32 : decode cX8_type 32 = .ok (.aload_n 0, 1) := by decide +kernel
theorem dX8_type_33 : decode cX8_type 33 = .ok (.getfield 56, 3) := by decide +kernel
theorem dX8_type_36 : decode cX8_type 36 = .ok (.ireturn, 1) := by decide +kernel
theorem dX8_clearText_0 : decode cX8_clearText 0 = .ok (.aload_n 0, 1) := by decide +kernel
theorem dX8_clearText_1 : decode cX8_clearText 1 = .ok (.getfield 56, 3) := by decide +kernel
theorem dX8_clearText_4 : decode cX8_clearText 4 = .ok (.istore_n 1, 1) := by decide +kernel
theorem dX8_clearText_5 : decode cX8_clearText 5 = .ok (.aload_n 0, 1) := by decide +kernel
theorem dX8_clearText_6 : decode cX8_clearText 6 = .ok (.iconst 0, 1) := by decide +kernel
theorem dX8_clearText_7 : decode cX8_clearText 7 = .ok (.putfield 56, 3) := by decide +kernel
theorem dX8_clearText_10 : decode cX8_clearText 10 = .ok (.iload_n 1, 1) := by decide +kernel
theorem dX8_clearText_11 : decode cX8_clearText 11 = .ok (.ireturn, 1) := by decide +kernel
theorem dX8_labels_0 : decode cX8_labels 0 = .ok (.iconst 0, 1) := by decide +kernel
theorem dX8_labels_1 : decode cX8_labels 1 = .ok (.istore_n 1, 1) := by decide +kernel
theorem dX8_labels_2 : decode cX8_labels 2 = .ok (.iconst 0, 1) := by decide +kernel
theorem dX8_labels_3 : decode cX8_labels 3 = .ok (.istore_n 2, 1) := by decide +kernel
theorem dX8_labels_4 : decode cX8_labels 4 = .ok (.iload_n 2, 1) := by decide +kernel
theorem dX8_labels_5 : decode cX8_labels 5 = .ok (.bipush 24, 2) := by decide +kernel
theorem dX8_labels_7 : decode cX8_labels 7 = .ok (.if_icmp .ge 33, 3) := by decide +kernel
theorem dX8_labels_10 : decode cX8_labels 10 = .ok (.iload_n 1, 1) := by decide +kernel
theorem dX8_labels_11 : decode cX8_labels 11 = .ok (.aload_n 0, 1) := by decide +kernel
theorem dX8_labels_12 : decode cX8_labels 12 = .ok (.getfield 7, 3) := by decide +kernel
theorem dX8_labels_15 : decode cX8_labels 15 = .ok (.sipush 272, 3) := by decide +kernel
theorem dX8_labels_18 : decode cX8_labels 18 = .ok (.bipush 64, 2) := by decide +kernel
theorem dX8_labels_20 : decode cX8_labels 20 = .ok (.iload_n 2, 1) := by decide +kernel
theorem dX8_labels_21 : decode cX8_labels 21 = .ok (.imul, 1) := by decide +kernel
theorem dX8_labels_22 : decode cX8_labels 22 = .ok (.iadd, 1) := by decide +kernel
theorem dX8_labels_23 : decode cX8_labels 23 = .ok (.iaload, 1) := by decide +kernel
theorem dX8_labels_24 : decode cX8_labels 24 = .ok (.ifCond .le 7, 3) := by decide +kernel
theorem dX8_labels_27 : decode cX8_labels 27 = .ok (.iconst 1, 1) := by decide +kernel
theorem dX8_labels_28 : decode cX8_labels 28 = .ok (.goto 4, 3) := by decide +kernel
theorem dX8_labels_31 : decode cX8_labels 31 = .ok (.iconst 0, 1) := by decide +kernel
theorem dX8_labels_32 : decode cX8_labels 32 = .ok (.iadd, 1) := by decide +kernel
theorem dX8_labels_33 : decode cX8_labels 33 = .ok (.istore_n 1, 1) := by decide +kernel
theorem dX8_labels_34 : decode cX8_labels 34 = .ok (.iinc 2 1, 3) := by decide +kernel
theorem dX8_labels_37 : decode cX8_labels 37 = .ok (.goto (-33), 3) := by decide +kernel
theorem dX8_labels_40 : decode cX8_labels 40 = .ok (.iload_n 1, 1) := by decide +kernel
theorem dX8_labels_41 : decode cX8_labels 41 = .ok (.ireturn, 1) := by decide +kernel
theorem dX8_undo_0 : decode cX8_undo 0 = .ok (.aload_n 0, 1) := by decide +kernel
theorem dX8_undo_1 : decode cX8_undo 1 = .ok (.getfield 20, 3) := by decide +kernel
theorem dX8_undo_4 : decode cX8_undo 4 = .ok (.ifCond .ne 6, 3) := by decide +kernel
theorem dX8_undo_7 : decode cX8_undo 7 = .ok (.bipush (-5), 2) := by decide +kernel
theorem dX8_undo_9 : decode cX8_undo 9 = .ok (.ireturn, 1) := by decide +kernel
theorem dX8_undo_10 : decode cX8_undo 10 = .ok (.aload_n 0, 1) := by decide +kernel
theorem dX8_undo_11 : decode cX8_undo 11 = .ok (.aload_n 0, 1) := by decide +kernel
theorem dX8_undo_12 : decode cX8_undo 12 = .ok (.getfield 20, 3) := by decide +kernel
theorem dX8_undo_15 : decode cX8_undo 15 = .ok (.iconst 0, 1) := by decide +kernel
theorem dX8_undo_16 : decode cX8_undo 16 = .ok (.invokevirtual 24, 3) := by decide +kernel
theorem dX8_undo_19 : decode cX8_undo 19 = .ok (.aload_n 0, 1) := by decide +kernel
theorem dX8_undo_20 : decode cX8_undo 20 = .ok (.dup, 1) := by decide +kernel
theorem dX8_undo_21 : decode cX8_undo 21 = .ok (.getfield 20, 3) := by decide +kernel
theorem dX8_undo_24 : decode cX8_undo 24 = .ok (.iconst 1, 1) := by decide +kernel
theorem dX8_undo_25 : decode cX8_undo 25 = .ok (.isub, 1) := by decide +kernel
theorem dX8_undo_26 : decode cX8_undo 26 = .ok (.putfield 20, 3) := by decide +kernel
theorem dX8_undo_29 : decode cX8_undo 29 = .ok (.aload_n 0, 1) := by decide +kernel
theorem dX8_undo_30 : decode cX8_undo 30 = .ok (.getfield 20, 3) := by decide +kernel
theorem dX8_undo_33 : decode cX8_undo 33 = .ok (.ireturn, 1) := by decide +kernel
theorem dX8_keep_0 : decode cX8_keep 0 = .ok (.aload_n 0, 1) := by decide +kernel
theorem dX8_keep_1 : decode cX8_keep 1 = .ok (.iconst 0, 1) := by decide +kernel
theorem dX8_keep_2 : decode cX8_keep 2 = .ok (.iconst 5, 1) := by decide +kernel
theorem dX8_keep_3 : decode cX8_keep 3 = .ok (.invokevirtual 24, 3) := by decide +kernel
theorem dX8_keep_6 : decode cX8_keep 6 = .ok (.aload_n 0, 1) := by decide +kernel
theorem dX8_keep_7 : decode cX8_keep 7 = .ok (.iconst 1, 1) := by decide +kernel
theorem dX8_keep_8 : decode cX8_keep 8 = .ok (.putfield 107, 3) := by decide +kernel
theorem dX8_keep_11 : decode cX8_keep 11 = .ok (.aload_n 0, 1) := by decide +kernel
theorem dX8_keep_12 : decode cX8_keep 12 = .ok (.invokevirtual 111, 3) := by decide +kernel
theorem dX8_keep_15 : decode cX8_keep 15 = .ok (.ireturn, 1) := by decide +kernel
theorem dX8_restore_0 : decode cX8_restore 0 = .ok (.aload_n 0, 1) := by decide +kernel
theorem dX8_restore_1 : decode cX8_restore 1 = .ok (.getfield 107, 3) := by decide +kernel
theorem dX8_restore_4 : decode cX8_restore 4 = .ok (.ifCond .ne 6, 3) := by decide +kernel
theorem dX8_restore_7 : decode cX8_restore 7 = .ok (.bipush (-5), 2) := by decide +kernel
theorem dX8_restore_9 : decode cX8_restore 9 = .ok (.ireturn, 1) := by decide +kernel
theorem dX8_restore_10 : decode cX8_restore 10 = .ok (.aload_n 0, 1) := by decide +kernel
theorem dX8_restore_11 : decode cX8_restore 11 = .ok (.invokevirtual 63, 3) := by decide +kernel
theorem dX8_restore_14 : decode cX8_restore 14 = .ok (.aload_n 0, 1) := by decide +kernel
theorem dX8_restore_15 : decode cX8_restore 15 = .ok (.iconst 5, 1) := by decide +kernel
theorem dX8_restore_16 : decode cX8_restore 16 = .ok (.iconst 0, 1) := by decide +kernel
theorem dX8_restore_17 : decode cX8_restore 17 = .ok (.invokevirtual 24, 3) := by decide +kernel
theorem dX8_restore_20 : decode cX8_restore 20 = .ok (.aload_n 0, 1) := by decide +kernel
theorem dX8_restore_21 : decode cX8_restore 21 = .ok (.invokevirtual 111, 3) := by decide +kernel
theorem dX8_restore_24 : decode cX8_restore 24 = .ok (.ireturn, 1) := by decide +kernel
theorem dX8_labelOf_0 : decode cX8_labelOf 0 = .ok (.iload_n 1, 1) := by decide +kernel
theorem dX8_labelOf_1 : decode cX8_labelOf 1 = .ok (.iload_n 2, 1) := by decide +kernel
theorem dX8_labelOf_2 : decode cX8_labelOf 2 = .ok (.invokestatic 72, 3) := by decide +kernel
theorem dX8_labelOf_5 : decode cX8_labelOf 5 = .ok (.ifCond .ne 5, 3) := by decide +kernel
theorem dX8_labelOf_8 : decode cX8_labelOf 8 = .ok (.iconst (-1), 1) := by decide +kernel
theorem dX8_labelOf_9 : decode cX8_labelOf 9 = .ok (.ireturn, 1) := by decide +kernel
theorem dX8_labelOf_10 : decode cX8_labelOf 10 = .ok (.iload_n 3, 1) := by decide +kernel
theorem dX8_labelOf_11 : decode cX8_labelOf 11 = .ok (.iconst 0, 1) := by decide +kernel
theorem dX8_labelOf_12 : decode cX8_labelOf 12 = .ok (.iconst 4, 1) := by decide +kernel
theorem dX8_labelOf_13 : decode cX8_labelOf 13 = .ok (.invokestatic 59, 3) := by decide +kernel
theorem dX8_labelOf_16 : decode cX8_labelOf 16 = .ok (.ifCond .ne 6, 3) := by decide +kernel
theorem dX8_labelOf_19 : decode cX8_labelOf 19 = .ok (.bipush (-2), 2) := by decide +kernel
theorem dX8_labelOf_21 : decode cX8_labelOf 21 = .ok (.ireturn, 1) := by decide +kernel
theorem dX8_labelOf_22 : decode cX8_labelOf 22 = .ok (.iload_n 1, 1) := by decide +kernel
theorem dX8_labelOf_23 : decode cX8_labelOf 23 = .ok (.iload_n 2, 1) := by decide +kernel
theorem dX8_labelOf_24 : decode cX8_labelOf 24 = .ok (.invokestatic 28, 3) := by decide +kernel
theorem dX8_labelOf_27 : decode cX8_labelOf 27 = .ok (.istore 4, 2) := by decide +kernel
theorem dX8_labelOf_29 : decode cX8_labelOf 29 = .ok (.aload_n 0, 1) := by decide +kernel
theorem dX8_labelOf_30 : decode cX8_labelOf 30 = .ok (.getfield 7, 3) := by decide +kernel
theorem dX8_labelOf_33 : decode cX8_labelOf 33 = .ok (.iload 4, 2) := by decide +kernel
theorem dX8_labelOf_35 : decode cX8_labelOf 35 = .ok (.iaload, 1) := by decide +kernel
theorem dX8_labelOf_36 : decode cX8_labelOf 36 = .ok (.ifCond .ne 6, 3) := by decide +kernel
theorem dX8_labelOf_39 : decode cX8_labelOf 39 = .ok (.bipush (-5), 2) := by decide +kernel
theorem dX8_labelOf_41 : decode cX8_labelOf 41 = .ok (.ireturn, 1) := by decide +kernel
theorem dX8_labelOf_42 : decode cX8_labelOf 42 = .ok (.iload_n 3, 1) := by decide +kernel
theorem dX8_labelOf_43 : decode cX8_labelOf 43 = .ok (.tableswitch 67 0 2 #[25, 32, 40], 25) := by decide +kernel
theorem dX8_labelOf_68 : decode cX8_labelOf 68 = .ok (.aload_n 0, 1) := by decide +kernel
theorem dX8_labelOf_69 : decode cX8_labelOf 69 = .ok (.iload_n 1, 1) := by decide +kernel
theorem dX8_labelOf_70 : decode cX8_labelOf 70 = .ok (.iload_n 2, 1) := by decide +kernel
theorem dX8_labelOf_71 : decode cX8_labelOf 71 = .ok (.invokevirtual 42, 3) := by decide +kernel
theorem dX8_labelOf_74 : decode cX8_labelOf 74 = .ok (.ireturn, 1) := by decide +kernel
theorem dX8_labelOf_75 : decode cX8_labelOf 75 = .ok (.aload_n 0, 1) := by decide +kernel
theorem dX8_labelOf_76 : decode cX8_labelOf 76 = .ok (.getfield 7, 3) := by decide +kernel
theorem dX8_labelOf_79 : decode cX8_labelOf 79 = .ok (.iload 4, 2) := by decide +kernel
theorem dX8_labelOf_81 : decode cX8_labelOf 81 = .ok (.iaload, 1) := by decide +kernel
theorem dX8_labelOf_82 : decode cX8_labelOf 82 = .ok (.ireturn, 1) := by decide +kernel
theorem dX8_labelOf_83 : decode cX8_labelOf 83 = .ok (.aload_n 0, 1) := by decide +kernel
theorem dX8_labelOf_84 : decode cX8_labelOf 84 = .ok (.getfield 7, 3) := by decide +kernel
theorem dX8_labelOf_87 : decode cX8_labelOf 87 = .ok (.iload 4, 2) := by decide +kernel
theorem dX8_labelOf_89 : decode cX8_labelOf 89 = .ok (.iconst 1, 1) := by decide +kernel
theorem dX8_labelOf_90 : decode cX8_labelOf 90 = .ok (.iadd, 1) := by decide +kernel
theorem dX8_labelOf_91 : decode cX8_labelOf 91 = .ok (.iaload, 1) := by decide +kernel
theorem dX8_labelOf_92 : decode cX8_labelOf 92 = .ok (.ifCond .ge 8, 3) := by decide +kernel
theorem dX8_labelOf_95 : decode cX8_labelOf 95 = .ok (.bipush (-5), 2) := by decide +kernel
theorem dX8_labelOf_97 : decode cX8_labelOf 97 = .ok (.goto 12, 3) := by decide +kernel
theorem dX8_labelOf_100 : decode cX8_labelOf 100 = .ok (.aload_n 0, 1) := by decide +kernel
theorem dX8_labelOf_101 : decode cX8_labelOf 101 = .ok (.getfield 7, 3) := by decide +kernel
theorem dX8_labelOf_104 : decode cX8_labelOf 104 = .ok (.iload 4, 2) := by decide +kernel
theorem dX8_labelOf_106 : decode cX8_labelOf 106 = .ok (.iconst 1, 1) := by decide +kernel
theorem dX8_labelOf_107 : decode cX8_labelOf 107 = .ok (.iadd, 1) := by decide +kernel
theorem dX8_labelOf_108 : decode cX8_labelOf 108 = .ok (.iaload, 1) := by decide +kernel
theorem dX8_labelOf_109 : decode cX8_labelOf 109 = .ok (.ireturn, 1) := by decide +kernel
theorem dX8_labelOf_110 : decode cX8_labelOf 110 = .ok (.aload_n 0, 1) := by decide +kernel
theorem dX8_labelOf_111 : decode cX8_labelOf 111 = .ok (.getfield 7, 3) := by decide +kernel
theorem dX8_labelOf_114 : decode cX8_labelOf 114 = .ok (.iload 4, 2) := by decide +kernel
theorem dX8_labelOf_116 : decode cX8_labelOf 116 = .ok (.iload_n 3, 1) := by decide +kernel
theorem dX8_labelOf_117 : decode cX8_labelOf 117 = .ok (.iadd, 1) := by decide +kernel
theorem dX8_labelOf_118 : decode cX8_labelOf 118 = .ok (.iconst 1, 1) := by decide +kernel
theorem dX8_labelOf_119 : decode cX8_labelOf 119 = .ok (.isub, 1) := by decide +kernel
theorem dX8_labelOf_120 : decode cX8_labelOf 120 = .ok (.iaload, 1) := by decide +kernel
theorem dX8_labelOf_121 : decode cX8_labelOf 121 = .ok (.ireturn, 1) := by decide +kernel
theorem dX8_letter_0 : decode cX8_letter 0 = .ok (.iload_n 1, 1) := by decide +kernel
theorem dX8_letter_1 : decode cX8_letter 1 = .ok (.iload_n 2, 1) := by decide +kernel
theorem dX8_letter_2 : decode cX8_letter 2 = .ok (.invokestatic 72, 3) := by decide +kernel
theorem dX8_letter_5 : decode cX8_letter 5 = .ok (.ifCond .ne 5, 3) := by decide +kernel
theorem dX8_letter_8 : decode cX8_letter 8 = .ok (.iconst (-1), 1) := by decide +kernel
theorem dX8_letter_9 : decode cX8_letter 9 = .ok (.ireturn, 1) := by decide +kernel
theorem dX8_letter_10 : decode cX8_letter 10 = .ok (.iload_n 3, 1) := by decide +kernel
theorem dX8_letter_11 : decode cX8_letter 11 = .ok (.ifCond .ge 6, 3) := by decide +kernel
theorem dX8_letter_14 : decode cX8_letter 14 = .ok (.bipush (-2), 2) := by decide +kernel
theorem dX8_letter_16 : decode cX8_letter 16 = .ok (.ireturn, 1) := by decide +kernel
theorem dX8_letter_17 : decode cX8_letter 17 = .ok (.iload_n 1, 1) := by decide +kernel
theorem dX8_letter_18 : decode cX8_letter 18 = .ok (.iload_n 2, 1) := by decide +kernel
theorem dX8_letter_19 : decode cX8_letter 19 = .ok (.invokestatic 28, 3) := by decide +kernel
theorem dX8_letter_22 : decode cX8_letter 22 = .ok (.istore 4, 2) := by decide +kernel
theorem dX8_letter_24 : decode cX8_letter 24 = .ok (.iload_n 3, 1) := by decide +kernel
theorem dX8_letter_25 : decode cX8_letter 25 = .ok (.aload_n 0, 1) := by decide +kernel
theorem dX8_letter_26 : decode cX8_letter 26 = .ok (.getfield 7, 3) := by decide +kernel
theorem dX8_letter_29 : decode cX8_letter 29 = .ok (.iload 4, 2) := by decide +kernel
theorem dX8_letter_31 : decode cX8_letter 31 = .ok (.iaload, 1) := by decide +kernel
theorem dX8_letter_32 : decode cX8_letter 32 = .ok (.if_icmp .ge 17, 3) := by decide +kernel
theorem dX8_letter_35 : decode cX8_letter 35 = .ok (.aload_n 0, 1) := by decide +kernel
theorem dX8_letter_36 : decode cX8_letter 36 = .ok (.getfield 7, 3) := by decide +kernel
theorem dX8_letter_39 : decode cX8_letter 39 = .ok (.iload 4, 2) := by decide +kernel
theorem dX8_letter_41 : decode cX8_letter 41 = .ok (.iconst 4, 1) := by decide +kernel
theorem dX8_letter_42 : decode cX8_letter 42 = .ok (.iadd, 1) := by decide +kernel
theorem dX8_letter_43 : decode cX8_letter 43 = .ok (.iload_n 3, 1) := by decide +kernel
theorem dX8_letter_44 : decode cX8_letter 44 = .ok (.iadd, 1) := by decide +kernel
theorem dX8_letter_45 : decode cX8_letter 45 = .ok (.iaload, 1) := by decide +kernel
theorem dX8_letter_46 : decode cX8_letter 46 = .ok (.goto 5, 3) := by decide +kernel
theorem dX8_letter_49 : decode cX8_letter 49 = .ok (.bipush (-5), 2) := by decide +kernel
theorem dX8_letter_51 : decode cX8_letter 51 = .ok (.ireturn, 1) := by decide +kernel
theorem dX8_apart_0 : decode cX8_apart 0 = .ok (.aload_n 0, 1) := by decide +kernel
theorem dX8_apart_1 : decode cX8_apart 1 = .ok (.iload_n 1, 1) := by decide +kernel
theorem dX8_apart_2 : decode cX8_apart 2 = .ok (.iload_n 2, 1) := by decide +kernel
theorem dX8_apart_3 : decode cX8_apart 3 = .ok (.invokevirtual 32, 3) := by decide +kernel
theorem dX8_apart_6 : decode cX8_apart 6 = .ok (.istore 5, 2) := by decide +kernel
theorem dX8_apart_8 : decode cX8_apart 8 = .ok (.aload_n 0, 1) := by decide +kernel
theorem dX8_apart_9 : decode cX8_apart 9 = .ok (.iload_n 3, 1) := by decide +kernel
theorem dX8_apart_10 : decode cX8_apart 10 = .ok (.iload 4, 2) := by decide +kernel
theorem dX8_apart_12 : decode cX8_apart 12 = .ok (.invokevirtual 32, 3) := by decide +kernel
theorem dX8_apart_15 : decode cX8_apart 15 = .ok (.istore 6, 2) := by decide +kernel
theorem dX8_apart_17 : decode cX8_apart 17 = .ok (.iconst 0, 1) := by decide +kernel
theorem dX8_apart_18 : decode cX8_apart 18 = .ok (.istore 7, 2) := by decide +kernel
theorem dX8_apart_20 : decode cX8_apart 20 = .ok (.iload 7, 2) := by decide +kernel
theorem dX8_apart_22 : decode cX8_apart 22 = .ok (.iload 5, 2) := by decide +kernel
theorem dX8_apart_24 : decode cX8_apart 24 = .ok (.if_icmp .gt 149, 3) := by decide +kernel
theorem dX8_apart_27 : decode cX8_apart 27 = .ok (.iconst 0, 1) := by decide +kernel
theorem dX8_apart_28 : decode cX8_apart 28 = .ok (.istore 8, 2) := by decide +kernel
theorem dX8_apart_30 : decode cX8_apart 30 = .ok (.iload 8, 2) := by decide +kernel
theorem dX8_apart_32 : decode cX8_apart 32 = .ok (.iload 6, 2) := by decide +kernel
theorem dX8_apart_34 : decode cX8_apart 34 = .ok (.if_icmp .gt 133, 3) := by decide +kernel
theorem dX8_apart_37 : decode cX8_apart 37 = .ok (.iconst 0, 1) := by decide +kernel
theorem dX8_apart_38 : decode cX8_apart 38 = .ok (.istore 9, 2) := by decide +kernel
theorem dX8_apart_40 : decode cX8_apart 40 = .ok (.iload 7, 2) := by decide +kernel
theorem dX8_apart_42 : decode cX8_apart 42 = .ok (.ifCond .le 104, 3) := by decide +kernel
theorem dX8_apart_45 : decode cX8_apart 45 = .ok (.iload 8, 2) := by decide +kernel
theorem dX8_apart_47 : decode cX8_apart 47 = .ok (.ifCond .le 99, 3) := by decide +kernel
theorem dX8_apart_50 : decode cX8_apart 50 = .ok (.aload_n 0, 1) := by decide +kernel
theorem dX8_apart_51 : decode cX8_apart 51 = .ok (.getfield 17, 3) := by decide +kernel
theorem dX8_apart_54 : decode cX8_apart 54 = .ok (.bipush 31, 2) := by decide +kernel
theorem dX8_apart_56 : decode cX8_apart 56 = .ok (.iload 7, 2) := by decide +kernel
theorem dX8_apart_58 : decode cX8_apart 58 = .ok (.iconst 1, 1) := by decide +kernel
theorem dX8_apart_59 : decode cX8_apart 59 = .ok (.isub, 1) := by decide +kernel
theorem dX8_apart_60 : decode cX8_apart 60 = .ok (.imul, 1) := by decide +kernel
theorem dX8_apart_61 : decode cX8_apart 61 = .ok (.iload 8, 2) := by decide +kernel
theorem dX8_apart_63 : decode cX8_apart 63 = .ok (.iadd, 1) := by decide +kernel
theorem dX8_apart_64 : decode cX8_apart 64 = .ok (.iaload, 1) := by decide +kernel
theorem dX8_apart_65 : decode cX8_apart 65 = .ok (.istore 10, 2) := by decide +kernel
theorem dX8_apart_67 : decode cX8_apart 67 = .ok (.aload_n 0, 1) := by decide +kernel
theorem dX8_apart_68 : decode cX8_apart 68 = .ok (.getfield 17, 3) := by decide +kernel
theorem dX8_apart_71 : decode cX8_apart 71 = .ok (.bipush 31, 2) := by decide +kernel
theorem dX8_apart_73 : decode cX8_apart 73 = .ok (.iload 7, 2) := by decide +kernel
theorem dX8_apart_75 : decode cX8_apart 75 = .ok (.imul, 1) := by decide +kernel
theorem dX8_apart_76 : decode cX8_apart 76 = .ok (.iload 8, 2) := by decide +kernel
theorem dX8_apart_78 : decode cX8_apart 78 = .ok (.iadd, 1) := by decide +kernel
theorem dX8_apart_79 : decode cX8_apart 79 = .ok (.iconst 1, 1) := by decide +kernel
theorem dX8_apart_80 : decode cX8_apart 80 = .ok (.isub, 1) := by decide +kernel
theorem dX8_apart_81 : decode cX8_apart 81 = .ok (.iaload, 1) := by decide +kernel
theorem dX8_apart_82 : decode cX8_apart 82 = .ok (.istore 11, 2) := by decide +kernel
theorem dX8_apart_84 : decode cX8_apart 84 = .ok (.aload_n 0, 1) := by decide +kernel
theorem dX8_apart_85 : decode cX8_apart 85 = .ok (.iload_n 1, 1) := by decide +kernel
theorem dX8_apart_86 : decode cX8_apart 86 = .ok (.iload_n 2, 1) := by decide +kernel
theorem dX8_apart_87 : decode cX8_apart 87 = .ok (.iload 7, 2) := by decide +kernel
theorem dX8_apart_89 : decode cX8_apart 89 = .ok (.iconst 1, 1) := by decide +kernel
theorem dX8_apart_90 : decode cX8_apart 90 = .ok (.isub, 1) := by decide +kernel
theorem dX8_apart_91 : decode cX8_apart 91 = .ok (.iload_n 3, 1) := by decide +kernel
theorem dX8_apart_92 : decode cX8_apart 92 = .ok (.iload 4, 2) := by decide +kernel
theorem dX8_apart_94 : decode cX8_apart 94 = .ok (.iload 8, 2) := by decide +kernel
theorem dX8_apart_96 : decode cX8_apart 96 = .ok (.iconst 1, 1) := by decide +kernel
theorem dX8_apart_97 : decode cX8_apart 97 = .ok (.isub, 1) := by decide +kernel
theorem dX8_apart_98 : decode cX8_apart 98 = .ok (.invokevirtual 114, 3) := by decide +kernel
theorem dX8_apart_101 : decode cX8_apart 101 = .ok (.istore 12, 2) := by decide +kernel
theorem dX8_apart_103 : decode cX8_apart 103 = .ok (.iload 12, 2) := by decide +kernel
theorem dX8_apart_105 : decode cX8_apart 105 = .ok (.ifCond .eq 25, 3) := by decide +kernel
theorem dX8_apart_108 : decode cX8_apart 108 = .ok (.aload_n 0, 1) := by decide +kernel
theorem dX8_apart_109 : decode cX8_apart 109 = .ok (.getfield 17, 3) := by decide +kernel
theorem dX8_apart_112 : decode cX8_apart 112 = .ok (.bipush 31, 2) := by decide +kernel
theorem dX8_apart_114 : decode cX8_apart 114 = .ok (.iload 7, 2) := by decide +kernel
theorem dX8_apart_116 : decode cX8_apart 116 = .ok (.iconst 1, 1) := by decide +kernel
theorem dX8_apart_117 : decode cX8_apart 117 = .ok (.isub, 1) := by decide +kernel
theorem dX8_apart_118 : decode cX8_apart 118 = .ok (.imul, 1) := by decide +kernel
theorem dX8_apart_119 : decode cX8_apart 119 = .ok (.iload 8, 2) := by decide +kernel
theorem dX8_apart_121 : decode cX8_apart 121 = .ok (.iadd, 1) := by decide +kernel
theorem dX8_apart_122 : decode cX8_apart 122 = .ok (.iconst 1, 1) := by decide +kernel
theorem dX8_apart_123 : decode cX8_apart 123 = .ok (.isub, 1) := by decide +kernel
theorem dX8_apart_124 : decode cX8_apart 124 = .ok (.iaload, 1) := by decide +kernel
theorem dX8_apart_125 : decode cX8_apart 125 = .ok (.iconst 1, 1) := by decide +kernel
theorem dX8_apart_126 : decode cX8_apart 126 = .ok (.iadd, 1) := by decide +kernel
theorem dX8_apart_127 : decode cX8_apart 127 = .ok (.goto 17, 3) := by decide +kernel
theorem dX8_apart_130 : decode cX8_apart 130 = .ok (.iload 10, 2) := by decide +kernel
theorem dX8_apart_132 : decode cX8_apart 132 = .ok (.iload 11, 2) := by decide +kernel
theorem dX8_apart_134 : decode cX8_apart 134 = .ok (.if_icmp .le 8, 3) := by decide +kernel
theorem dX8_apart_137 : decode cX8_apart 137 = .ok (.iload 10, 2) := by decide +kernel
theorem dX8_apart_139 : decode cX8_apart 139 = .ok (.goto 5, 3) := by decide +kernel
theorem dX8_apart_142 : decode cX8_apart 142 = .ok (.iload 11, 2) := by decide +kernel
theorem dX8_apart_144 : decode cX8_apart 144 = .ok (.istore 9, 2) := by decide +kernel
theorem dX8_apart_146 : decode cX8_apart 146 = .ok (.aload_n 0, 1) := by decide +kernel
theorem dX8_apart_147 : decode cX8_apart 147 = .ok (.getfield 17, 3) := by decide +kernel
theorem dX8_apart_150 : decode cX8_apart 150 = .ok (.bipush 31, 2) := by decide +kernel
theorem dX8_apart_152 : decode cX8_apart 152 = .ok (.iload 7, 2) := by decide +kernel
theorem dX8_apart_154 : decode cX8_apart 154 = .ok (.imul, 1) := by decide +kernel
theorem dX8_apart_155 : decode cX8_apart 155 = .ok (.iload 8, 2) := by decide +kernel
theorem dX8_apart_157 : decode cX8_apart 157 = .ok (.iadd, 1) := by decide +kernel
theorem dX8_apart_158 : decode cX8_apart 158 = .ok (.iload 9, 2) := by decide +kernel
theorem dX8_apart_160 : decode cX8_apart 160 = .ok (.iastore, 1) := by decide +kernel
theorem dX8_apart_161 : decode cX8_apart 161 = .ok (.iinc 8 1, 3) := by decide +kernel
theorem dX8_apart_164 : decode cX8_apart 164 = .ok (.goto (-134), 3) := by decide +kernel
theorem dX8_apart_167 : decode cX8_apart 167 = .ok (.iinc 7 1, 3) := by decide +kernel
theorem dX8_apart_170 : decode cX8_apart 170 = .ok (.goto (-150), 3) := by decide +kernel
theorem dX8_apart_173 : decode cX8_apart 173 = .ok (.iload 5, 2) := by decide +kernel
theorem dX8_apart_175 : decode cX8_apart 175 = .ok (.iload 6, 2) := by decide +kernel
theorem dX8_apart_177 : decode cX8_apart 177 = .ok (.iadd, 1) := by decide +kernel
theorem dX8_apart_178 : decode cX8_apart 178 = .ok (.iconst 2, 1) := by decide +kernel
theorem dX8_apart_179 : decode cX8_apart 179 = .ok (.aload_n 0, 1) := by decide +kernel
theorem dX8_apart_180 : decode cX8_apart 180 = .ok (.getfield 17, 3) := by decide +kernel
theorem dX8_apart_183 : decode cX8_apart 183 = .ok (.bipush 31, 2) := by decide +kernel
theorem dX8_apart_185 : decode cX8_apart 185 = .ok (.iload 5, 2) := by decide +kernel
theorem dX8_apart_187 : decode cX8_apart 187 = .ok (.imul, 1) := by decide +kernel
theorem dX8_apart_188 : decode cX8_apart 188 = .ok (.iload 6, 2) := by decide +kernel
theorem dX8_apart_190 : decode cX8_apart 190 = .ok (.iadd, 1) := by decide +kernel
theorem dX8_apart_191 : decode cX8_apart 191 = .ok (.iaload, 1) := by decide +kernel
theorem dX8_apart_192 : decode cX8_apart 192 = .ok (.imul, 1) := by decide +kernel
theorem dX8_apart_193 : decode cX8_apart 193 = .ok (.isub, 1) := by decide +kernel
theorem dX8_apart_194 : decode cX8_apart 194 = .ok (.ireturn, 1) := by decide +kernel
theorem dX8_rewriteOf_0 : decode cX8_rewriteOf 0 = .ok (.aload_n 0, 1) := by decide +kernel
theorem dX8_rewriteOf_1 : decode cX8_rewriteOf 1 = .ok (.iload_n 1, 1) := by decide +kernel
theorem dX8_rewriteOf_2 : decode cX8_rewriteOf 2 = .ok (.invokevirtual 101, 3) := by decide +kernel
theorem dX8_rewriteOf_5 : decode cX8_rewriteOf 5 = .ok (.istore_n 3, 1) := by decide +kernel
theorem dX8_rewriteOf_6 : decode cX8_rewriteOf 6 = .ok (.iload_n 3, 1) := by decide +kernel
theorem dX8_rewriteOf_7 : decode cX8_rewriteOf 7 = .ok (.ifCond .ge 5, 3) := by decide +kernel
theorem dX8_rewriteOf_10 : decode cX8_rewriteOf 10 = .ok (.iconst (-1), 1) := by decide +kernel
theorem dX8_rewriteOf_11 : decode cX8_rewriteOf 11 = .ok (.ireturn, 1) := by decide +kernel
theorem dX8_rewriteOf_12 : decode cX8_rewriteOf 12 = .ok (.iload_n 2, 1) := by decide +kernel
theorem dX8_rewriteOf_13 : decode cX8_rewriteOf 13 = .ok (.iconst 0, 1) := by decide +kernel
theorem dX8_rewriteOf_14 : decode cX8_rewriteOf 14 = .ok (.bipush 7, 2) := by decide +kernel
theorem dX8_rewriteOf_16 : decode cX8_rewriteOf 16 = .ok (.invokestatic 59, 3) := by decide +kernel
theorem dX8_rewriteOf_19 : decode cX8_rewriteOf 19 = .ok (.ifCond .ne 6, 3) := by decide +kernel
theorem dX8_rewriteOf_22 : decode cX8_rewriteOf 22 = .ok (.bipush (-2), 2) := by decide +kernel
theorem dX8_rewriteOf_24 : decode cX8_rewriteOf 24 = .ok (.ireturn, 1) := by decide +kernel
theorem dX8_rewriteOf_25 : decode cX8_rewriteOf 25 = .ok (.iload_n 3, 1) := by decide +kernel
theorem dX8_rewriteOf_26 : decode cX8_rewriteOf 26 = .ok (.invokestatic 49, 3) := by decide +kernel
theorem dX8_rewriteOf_29 : decode cX8_rewriteOf 29 = .ok (.istore 4, 2) := by decide +kernel
theorem dX8_rewriteOf_31 : decode cX8_rewriteOf 31 = .ok (.sipush 272, 3) := by decide +kernel
theorem dX8_rewriteOf_34 : decode cX8_rewriteOf 34 = .ok (.bipush 64, 2) := by decide +kernel
theorem dX8_rewriteOf_36 : decode cX8_rewriteOf 36 = .ok (.aload_n 0, 1) := by decide +kernel
theorem dX8_rewriteOf_37 : decode cX8_rewriteOf 37 = .ok (.getfield 7, 3) := by decide +kernel
theorem dX8_rewriteOf_40 : decode cX8_rewriteOf 40 = .ok (.iload 4, 2) := by decide +kernel
theorem dX8_rewriteOf_42 : decode cX8_rewriteOf 42 = .ok (.iconst 1, 1) := by decide +kernel
theorem dX8_rewriteOf_43 : decode cX8_rewriteOf 43 = .ok (.iadd, 1) := by decide +kernel
theorem dX8_rewriteOf_44 : decode cX8_rewriteOf 44 = .ok (.iaload, 1) := by decide +kernel
theorem dX8_rewriteOf_45 : decode cX8_rewriteOf 45 = .ok (.imul, 1) := by decide +kernel
theorem dX8_rewriteOf_46 : decode cX8_rewriteOf 46 = .ok (.iadd, 1) := by decide +kernel
theorem dX8_rewriteOf_47 : decode cX8_rewriteOf 47 = .ok (.istore 5, 2) := by decide +kernel
theorem dX8_rewriteOf_49 : decode cX8_rewriteOf 49 = .ok (.iload_n 2, 1) := by decide +kernel
theorem dX8_rewriteOf_50 : decode cX8_rewriteOf 50 = .ok (.tableswitch 139 0 6 #[42, 54, 66, 76, 94, 100, 110], 42) := by decide +kernel
theorem dX8_rewriteOf_92 : decode cX8_rewriteOf 92 = .ok (.aload_n 0, 1) := by decide +kernel
theorem dX8_rewriteOf_93 : decode cX8_rewriteOf 93 = .ok (.getfield 7, 3) := by decide +kernel
theorem dX8_rewriteOf_96 : decode cX8_rewriteOf 96 = .ok (.iload 4, 2) := by decide +kernel
theorem dX8_rewriteOf_98 : decode cX8_rewriteOf 98 = .ok (.iconst 1, 1) := by decide +kernel
theorem dX8_rewriteOf_99 : decode cX8_rewriteOf 99 = .ok (.iadd, 1) := by decide +kernel
theorem dX8_rewriteOf_100 : decode cX8_rewriteOf 100 = .ok (.iaload, 1) := by decide +kernel
theorem dX8_rewriteOf_101 : decode cX8_rewriteOf 101 = .ok (.iconst 3, 1) := by decide +kernel
theorem dX8_rewriteOf_102 : decode cX8_rewriteOf 102 = .ok (.idiv, 1) := by decide +kernel
theorem dX8_rewriteOf_103 : decode cX8_rewriteOf 103 = .ok (.ireturn, 1) := by decide +kernel
theorem dX8_rewriteOf_104 : decode cX8_rewriteOf 104 = .ok (.aload_n 0, 1) := by decide +kernel
theorem dX8_rewriteOf_105 : decode cX8_rewriteOf 105 = .ok (.getfield 7, 3) := by decide +kernel
theorem dX8_rewriteOf_108 : decode cX8_rewriteOf 108 = .ok (.iload 4, 2) := by decide +kernel
theorem dX8_rewriteOf_110 : decode cX8_rewriteOf 110 = .ok (.iconst 1, 1) := by decide +kernel
theorem dX8_rewriteOf_111 : decode cX8_rewriteOf 111 = .ok (.iadd, 1) := by decide +kernel
theorem dX8_rewriteOf_112 : decode cX8_rewriteOf 112 = .ok (.iaload, 1) := by decide +kernel
theorem dX8_rewriteOf_113 : decode cX8_rewriteOf 113 = .ok (.iconst 3, 1) := by decide +kernel
theorem dX8_rewriteOf_114 : decode cX8_rewriteOf 114 = .ok (.irem, 1) := by decide +kernel
theorem dX8_rewriteOf_115 : decode cX8_rewriteOf 115 = .ok (.ireturn, 1) := by decide +kernel
theorem dX8_rewriteOf_116 : decode cX8_rewriteOf 116 = .ok (.aload_n 0, 1) := by decide +kernel
theorem dX8_rewriteOf_117 : decode cX8_rewriteOf 117 = .ok (.getfield 7, 3) := by decide +kernel
theorem dX8_rewriteOf_120 : decode cX8_rewriteOf 120 = .ok (.iload 4, 2) := by decide +kernel
theorem dX8_rewriteOf_122 : decode cX8_rewriteOf 122 = .ok (.iconst 2, 1) := by decide +kernel
theorem dX8_rewriteOf_123 : decode cX8_rewriteOf 123 = .ok (.iadd, 1) := by decide +kernel
theorem dX8_rewriteOf_124 : decode cX8_rewriteOf 124 = .ok (.iaload, 1) := by decide +kernel
theorem dX8_rewriteOf_125 : decode cX8_rewriteOf 125 = .ok (.ireturn, 1) := by decide +kernel
theorem dX8_rewriteOf_126 : decode cX8_rewriteOf 126 = .ok (.aload_n 0, 1) := by decide +kernel
theorem dX8_rewriteOf_127 : decode cX8_rewriteOf 127 = .ok (.iload 4, 2) := by decide +kernel
theorem dX8_rewriteOf_129 : decode cX8_rewriteOf 129 = .ok (.iconst 5, 1) := by decide +kernel
theorem dX8_rewriteOf_130 : decode cX8_rewriteOf 130 = .ok (.iadd, 1) := by decide +kernel
theorem dX8_rewriteOf_131 : decode cX8_rewriteOf 131 = .ok (.aload_n 0, 1) := by decide +kernel
theorem dX8_rewriteOf_132 : decode cX8_rewriteOf 132 = .ok (.getfield 7, 3) := by decide +kernel
theorem dX8_rewriteOf_135 : decode cX8_rewriteOf 135 = .ok (.iload 4, 2) := by decide +kernel
theorem dX8_rewriteOf_137 : decode cX8_rewriteOf 137 = .ok (.iconst 4, 1) := by decide +kernel
theorem dX8_rewriteOf_138 : decode cX8_rewriteOf 138 = .ok (.iadd, 1) := by decide +kernel
theorem dX8_rewriteOf_139 : decode cX8_rewriteOf 139 = .ok (.iaload, 1) := by decide +kernel
theorem dX8_rewriteOf_140 : decode cX8_rewriteOf 140 = .ok (.invokevirtual 32, 3) := by decide +kernel
theorem dX8_rewriteOf_143 : decode cX8_rewriteOf 143 = .ok (.ireturn, 1) := by decide +kernel
theorem dX8_rewriteOf_144 : decode cX8_rewriteOf 144 = .ok (.aload_n 0, 1) := by decide +kernel
theorem dX8_rewriteOf_145 : decode cX8_rewriteOf 145 = .ok (.iload_n 1, 1) := by decide +kernel
theorem dX8_rewriteOf_146 : decode cX8_rewriteOf 146 = .ok (.invokevirtual 53, 3) := by decide +kernel
theorem dX8_rewriteOf_149 : decode cX8_rewriteOf 149 = .ok (.ireturn, 1) := by decide +kernel
theorem dX8_rewriteOf_150 : decode cX8_rewriteOf 150 = .ok (.aload_n 0, 1) := by decide +kernel
theorem dX8_rewriteOf_151 : decode cX8_rewriteOf 151 = .ok (.getfield 7, 3) := by decide +kernel
theorem dX8_rewriteOf_154 : decode cX8_rewriteOf 154 = .ok (.iload 4, 2) := by decide +kernel
theorem dX8_rewriteOf_156 : decode cX8_rewriteOf 156 = .ok (.iconst 3, 1) := by decide +kernel
theorem dX8_rewriteOf_157 : decode cX8_rewriteOf 157 = .ok (.iadd, 1) := by decide +kernel
theorem dX8_rewriteOf_158 : decode cX8_rewriteOf 158 = .ok (.iaload, 1) := by decide +kernel
theorem dX8_rewriteOf_159 : decode cX8_rewriteOf 159 = .ok (.ireturn, 1) := by decide +kernel
theorem dX8_rewriteOf_160 : decode cX8_rewriteOf 160 = .ok (.aload_n 0, 1) := by decide +kernel
theorem dX8_rewriteOf_161 : decode cX8_rewriteOf 161 = .ok (.iload 4, 2) := by decide +kernel
theorem dX8_rewriteOf_163 : decode cX8_rewriteOf 163 = .ok (.iconst 5, 1) := by decide +kernel
theorem dX8_rewriteOf_164 : decode cX8_rewriteOf 164 = .ok (.iadd, 1) := by decide +kernel
theorem dX8_rewriteOf_165 : decode cX8_rewriteOf 165 = .ok (.aload_n 0, 1) := by decide +kernel
theorem dX8_rewriteOf_166 : decode cX8_rewriteOf 166 = .ok (.getfield 7, 3) := by decide +kernel
theorem dX8_rewriteOf_169 : decode cX8_rewriteOf 169 = .ok (.iload 4, 2) := by decide +kernel
theorem dX8_rewriteOf_171 : decode cX8_rewriteOf 171 = .ok (.iconst 4, 1) := by decide +kernel
theorem dX8_rewriteOf_172 : decode cX8_rewriteOf 172 = .ok (.iadd, 1) := by decide +kernel
theorem dX8_rewriteOf_173 : decode cX8_rewriteOf 173 = .ok (.iaload, 1) := by decide +kernel
theorem dX8_rewriteOf_174 : decode cX8_rewriteOf 174 = .ok (.iload 5, 2) := by decide +kernel
theorem dX8_rewriteOf_176 : decode cX8_rewriteOf 176 = .ok (.iconst 4, 1) := by decide +kernel
theorem dX8_rewriteOf_177 : decode cX8_rewriteOf 177 = .ok (.iadd, 1) := by decide +kernel
theorem dX8_rewriteOf_178 : decode cX8_rewriteOf 178 = .ok (.aload_n 0, 1) := by decide +kernel
theorem dX8_rewriteOf_179 : decode cX8_rewriteOf 179 = .ok (.getfield 7, 3) := by decide +kernel
theorem dX8_rewriteOf_182 : decode cX8_rewriteOf 182 = .ok (.iload 5, 2) := by decide +kernel
theorem dX8_rewriteOf_184 : decode cX8_rewriteOf 184 = .ok (.iaload, 1) := by decide +kernel
theorem dX8_rewriteOf_185 : decode cX8_rewriteOf 185 = .ok (.invokevirtual 118, 3) := by decide +kernel
theorem dX8_rewriteOf_188 : decode cX8_rewriteOf 188 = .ok (.ireturn, 1) := by decide +kernel
theorem dX8_rewriteOf_189 : decode cX8_rewriteOf 189 = .ok (.aload_n 0, 1) := by decide +kernel
theorem dX8_rewriteOf_190 : decode cX8_rewriteOf 190 = .ok (.aload_n 0, 1) := by decide +kernel
theorem dX8_rewriteOf_191 : decode cX8_rewriteOf 191 = .ok (.getfield 7, 3) := by decide +kernel
theorem dX8_rewriteOf_194 : decode cX8_rewriteOf 194 = .ok (.iload 4, 2) := by decide +kernel
theorem dX8_rewriteOf_196 : decode cX8_rewriteOf 196 = .ok (.iconst 1, 1) := by decide +kernel
theorem dX8_rewriteOf_197 : decode cX8_rewriteOf 197 = .ok (.iadd, 1) := by decide +kernel
theorem dX8_rewriteOf_198 : decode cX8_rewriteOf 198 = .ok (.iaload, 1) := by decide +kernel
theorem dX8_rewriteOf_199 : decode cX8_rewriteOf 199 = .ok (.iconst 3, 1) := by decide +kernel
theorem dX8_rewriteOf_200 : decode cX8_rewriteOf 200 = .ok (.idiv, 1) := by decide +kernel
theorem dX8_rewriteOf_201 : decode cX8_rewriteOf 201 = .ok (.aload_n 0, 1) := by decide +kernel
theorem dX8_rewriteOf_202 : decode cX8_rewriteOf 202 = .ok (.getfield 7, 3) := by decide +kernel
theorem dX8_rewriteOf_205 : decode cX8_rewriteOf 205 = .ok (.iload 4, 2) := by decide +kernel
theorem dX8_rewriteOf_207 : decode cX8_rewriteOf 207 = .ok (.iconst 1, 1) := by decide +kernel
theorem dX8_rewriteOf_208 : decode cX8_rewriteOf 208 = .ok (.iadd, 1) := by decide +kernel
theorem dX8_rewriteOf_209 : decode cX8_rewriteOf 209 = .ok (.iaload, 1) := by decide +kernel
theorem dX8_rewriteOf_210 : decode cX8_rewriteOf 210 = .ok (.iconst 3, 1) := by decide +kernel
theorem dX8_rewriteOf_211 : decode cX8_rewriteOf 211 = .ok (.irem, 1) := by decide +kernel
theorem dX8_rewriteOf_212 : decode cX8_rewriteOf 212 = .ok (.invokevirtual 104, 3) := by decide +kernel
theorem dX8_rewriteOf_215 : decode cX8_rewriteOf 215 = .ok (.iload_n 3, 1) := by decide +kernel
theorem dX8_rewriteOf_216 : decode cX8_rewriteOf 216 = .ok (.if_icmp .ne 7, 3) := by decide +kernel
theorem dX8_rewriteOf_219 : decode cX8_rewriteOf 219 = .ok (.iconst 1, 1) := by decide +kernel
theorem dX8_rewriteOf_220 : decode cX8_rewriteOf 220 = .ok (.goto 4, 3) := by decide +kernel
theorem dX8_rewriteOf_223 : decode cX8_rewriteOf 223 = .ok (.iconst 0, 1) := by decide +kernel
theorem dX8_rewriteOf_224 : decode cX8_rewriteOf 224 = .ok (.ireturn, 1) := by decide +kernel
theorem dX8_ranked_0 : decode cX8_ranked 0 = .ok (.iload_n 1, 1) := by decide +kernel
theorem dX8_ranked_1 : decode cX8_ranked 1 = .ok (.iload_n 2, 1) := by decide +kernel
theorem dX8_ranked_2 : decode cX8_ranked 2 = .ok (.invokestatic 72, 3) := by decide +kernel
theorem dX8_ranked_5 : decode cX8_ranked 5 = .ok (.ifCond .ne 5, 3) := by decide +kernel
theorem dX8_ranked_8 : decode cX8_ranked 8 = .ok (.iconst (-1), 1) := by decide +kernel
theorem dX8_ranked_9 : decode cX8_ranked 9 = .ok (.ireturn, 1) := by decide +kernel
theorem dX8_ranked_10 : decode cX8_ranked 10 = .ok (.iload_n 3, 1) := by decide +kernel
theorem dX8_ranked_11 : decode cX8_ranked 11 = .ok (.ifCond .ge 6, 3) := by decide +kernel
theorem dX8_ranked_14 : decode cX8_ranked 14 = .ok (.bipush (-2), 2) := by decide +kernel
theorem dX8_ranked_16 : decode cX8_ranked 16 = .ok (.ireturn, 1) := by decide +kernel
theorem dX8_ranked_17 : decode cX8_ranked 17 = .ok (.iconst 0, 1) := by decide +kernel
theorem dX8_ranked_18 : decode cX8_ranked 18 = .ok (.istore 4, 2) := by decide +kernel
theorem dX8_ranked_20 : decode cX8_ranked 20 = .ok (.iload 4, 2) := by decide +kernel
theorem dX8_ranked_22 : decode cX8_ranked 22 = .ok (.bipush 16, 2) := by decide +kernel
theorem dX8_ranked_24 : decode cX8_ranked 24 = .ok (.if_icmp .ge 176, 3) := by decide +kernel
theorem dX8_ranked_27 : decode cX8_ranked 27 = .ok (.iload 4, 2) := by decide +kernel
theorem dX8_ranked_29 : decode cX8_ranked 29 = .ok (.invokestatic 49, 3) := by decide +kernel
theorem dX8_ranked_32 : decode cX8_ranked 32 = .ok (.istore 5, 2) := by decide +kernel
theorem dX8_ranked_34 : decode cX8_ranked 34 = .ok (.aload_n 0, 1) := by decide +kernel
theorem dX8_ranked_35 : decode cX8_ranked 35 = .ok (.getfield 7, 3) := by decide +kernel
theorem dX8_ranked_38 : decode cX8_ranked 38 = .ok (.iload 5, 2) := by decide +kernel
theorem dX8_ranked_40 : decode cX8_ranked 40 = .ok (.iaload, 1) := by decide +kernel
theorem dX8_ranked_41 : decode cX8_ranked 41 = .ok (.ifCond .lt 153, 3) := by decide +kernel
theorem dX8_ranked_44 : decode cX8_ranked 44 = .ok (.aload_n 0, 1) := by decide +kernel
theorem dX8_ranked_45 : decode cX8_ranked 45 = .ok (.getfield 7, 3) := by decide +kernel
theorem dX8_ranked_48 : decode cX8_ranked 48 = .ok (.iload 5, 2) := by decide +kernel
theorem dX8_ranked_50 : decode cX8_ranked 50 = .ok (.iconst 1, 1) := by decide +kernel
theorem dX8_ranked_51 : decode cX8_ranked 51 = .ok (.iadd, 1) := by decide +kernel
theorem dX8_ranked_52 : decode cX8_ranked 52 = .ok (.iaload, 1) := by decide +kernel
theorem dX8_ranked_53 : decode cX8_ranked 53 = .ok (.iconst 3, 1) := by decide +kernel
theorem dX8_ranked_54 : decode cX8_ranked 54 = .ok (.iload_n 1, 1) := by decide +kernel
theorem dX8_ranked_55 : decode cX8_ranked 55 = .ok (.imul, 1) := by decide +kernel
theorem dX8_ranked_56 : decode cX8_ranked 56 = .ok (.iload_n 2, 1) := by decide +kernel
theorem dX8_ranked_57 : decode cX8_ranked 57 = .ok (.iadd, 1) := by decide +kernel
theorem dX8_ranked_58 : decode cX8_ranked 58 = .ok (.if_icmp .ne 136, 3) := by decide +kernel
theorem dX8_ranked_61 : decode cX8_ranked 61 = .ok (.iconst 0, 1) := by decide +kernel
theorem dX8_ranked_62 : decode cX8_ranked 62 = .ok (.istore 6, 2) := by decide +kernel
theorem dX8_ranked_64 : decode cX8_ranked 64 = .ok (.iconst 0, 1) := by decide +kernel
theorem dX8_ranked_65 : decode cX8_ranked 65 = .ok (.istore 7, 2) := by decide +kernel
theorem dX8_ranked_67 : decode cX8_ranked 67 = .ok (.iload 7, 2) := by decide +kernel
theorem dX8_ranked_69 : decode cX8_ranked 69 = .ok (.bipush 16, 2) := by decide +kernel
theorem dX8_ranked_71 : decode cX8_ranked 71 = .ok (.if_icmp .ge 109, 3) := by decide +kernel
theorem dX8_ranked_74 : decode cX8_ranked 74 = .ok (.iload 7, 2) := by decide +kernel
theorem dX8_ranked_76 : decode cX8_ranked 76 = .ok (.invokestatic 49, 3) := by decide +kernel
theorem dX8_ranked_79 : decode cX8_ranked 79 = .ok (.istore 8, 2) := by decide +kernel
theorem dX8_ranked_81 : decode cX8_ranked 81 = .ok (.aload_n 0, 1) := by decide +kernel
theorem dX8_ranked_82 : decode cX8_ranked 82 = .ok (.aload_n 0, 1) := by decide +kernel
theorem dX8_ranked_83 : decode cX8_ranked 83 = .ok (.getfield 7, 3) := by decide +kernel
theorem dX8_ranked_86 : decode cX8_ranked 86 = .ok (.iload 8, 2) := by decide +kernel
theorem dX8_ranked_88 : decode cX8_ranked 88 = .ok (.iaload, 1) := by decide +kernel
theorem dX8_ranked_89 : decode cX8_ranked 89 = .ok (.invokevirtual 53, 3) := by decide +kernel
theorem dX8_ranked_92 : decode cX8_ranked 92 = .ok (.aload_n 0, 1) := by decide +kernel
theorem dX8_ranked_93 : decode cX8_ranked 93 = .ok (.aload_n 0, 1) := by decide +kernel
theorem dX8_ranked_94 : decode cX8_ranked 94 = .ok (.getfield 7, 3) := by decide +kernel
theorem dX8_ranked_97 : decode cX8_ranked 97 = .ok (.iload 5, 2) := by decide +kernel
theorem dX8_ranked_99 : decode cX8_ranked 99 = .ok (.iaload, 1) := by decide +kernel
theorem dX8_ranked_100 : decode cX8_ranked 100 = .ok (.invokevirtual 53, 3) := by decide +kernel
theorem dX8_ranked_103 : decode cX8_ranked 103 = .ok (.isub, 1) := by decide +kernel
theorem dX8_ranked_104 : decode cX8_ranked 104 = .ok (.istore 9, 2) := by decide +kernel
theorem dX8_ranked_106 : decode cX8_ranked 106 = .ok (.iload 6, 2) := by decide +kernel
theorem dX8_ranked_108 : decode cX8_ranked 108 = .ok (.aload_n 0, 1) := by decide +kernel
theorem dX8_ranked_109 : decode cX8_ranked 109 = .ok (.getfield 7, 3) := by decide +kernel
theorem dX8_ranked_112 : decode cX8_ranked 112 = .ok (.iload 8, 2) := by decide +kernel
theorem dX8_ranked_114 : decode cX8_ranked 114 = .ok (.iaload, 1) := by decide +kernel
theorem dX8_ranked_115 : decode cX8_ranked 115 = .ok (.ifCond .lt 55, 3) := by decide +kernel
theorem dX8_ranked_118 : decode cX8_ranked 118 = .ok (.aload_n 0, 1) := by decide +kernel
theorem dX8_ranked_119 : decode cX8_ranked 119 = .ok (.getfield 7, 3) := by decide +kernel
theorem dX8_ranked_122 : decode cX8_ranked 122 = .ok (.iload 8, 2) := by decide +kernel
theorem dX8_ranked_124 : decode cX8_ranked 124 = .ok (.iconst 1, 1) := by decide +kernel
theorem dX8_ranked_125 : decode cX8_ranked 125 = .ok (.iadd, 1) := by decide +kernel
theorem dX8_ranked_126 : decode cX8_ranked 126 = .ok (.iaload, 1) := by decide +kernel
theorem dX8_ranked_127 : decode cX8_ranked 127 = .ok (.aload_n 0, 1) := by decide +kernel
theorem dX8_ranked_128 : decode cX8_ranked 128 = .ok (.getfield 7, 3) := by decide +kernel
theorem dX8_ranked_131 : decode cX8_ranked 131 = .ok (.iload 5, 2) := by decide +kernel
theorem dX8_ranked_133 : decode cX8_ranked 133 = .ok (.iconst 1, 1) := by decide +kernel
theorem dX8_ranked_134 : decode cX8_ranked 134 = .ok (.iadd, 1) := by decide +kernel
theorem dX8_ranked_135 : decode cX8_ranked 135 = .ok (.iaload, 1) := by decide +kernel
theorem dX8_ranked_136 : decode cX8_ranked 136 = .ok (.if_icmp .ne 34, 3) := by decide +kernel
theorem dX8_ranked_139 : decode cX8_ranked 139 = .ok (.iload 9, 2) := by decide +kernel
theorem dX8_ranked_141 : decode cX8_ranked 141 = .ok (.ifCond .gt 25, 3) := by decide +kernel
theorem dX8_ranked_144 : decode cX8_ranked 144 = .ok (.iload 9, 2) := by decide +kernel
theorem dX8_ranked_146 : decode cX8_ranked 146 = .ok (.ifCond .ne 24, 3) := by decide +kernel
theorem dX8_ranked_149 : decode cX8_ranked 149 = .ok (.aload_n 0, 1) := by decide +kernel
theorem dX8_ranked_150 : decode cX8_ranked 150 = .ok (.getfield 7, 3) := by decide +kernel
theorem dX8_ranked_153 : decode cX8_ranked 153 = .ok (.iload 8, 2) := by decide +kernel
theorem dX8_ranked_155 : decode cX8_ranked 155 = .ok (.iaload, 1) := by decide +kernel
theorem dX8_ranked_156 : decode cX8_ranked 156 = .ok (.aload_n 0, 1) := by decide +kernel
theorem dX8_ranked_157 : decode cX8_ranked 157 = .ok (.getfield 7, 3) := by decide +kernel
theorem dX8_ranked_160 : decode cX8_ranked 160 = .ok (.iload 5, 2) := by decide +kernel
theorem dX8_ranked_162 : decode cX8_ranked 162 = .ok (.iaload, 1) := by decide +kernel
theorem dX8_ranked_163 : decode cX8_ranked 163 = .ok (.if_icmp .ge 7, 3) := by decide +kernel
theorem dX8_ranked_166 : decode cX8_ranked 166 = .ok (.iconst 1, 1) := by decide +kernel
theorem dX8_ranked_167 : decode cX8_ranked 167 = .ok (.goto 4, 3) := by decide +kernel
theorem dX8_ranked_170 : decode cX8_ranked 170 = .ok (.iconst 0, 1) := by decide +kernel
theorem dX8_ranked_171 : decode cX8_ranked 171 = .ok (.iadd, 1) := by decide +kernel
theorem dX8_ranked_172 : decode cX8_ranked 172 = .ok (.istore 6, 2) := by decide +kernel
theorem dX8_ranked_174 : decode cX8_ranked 174 = .ok (.iinc 7 1, 3) := by decide +kernel
theorem dX8_ranked_177 : decode cX8_ranked 177 = .ok (.goto (-110), 3) := by decide +kernel
theorem dX8_ranked_180 : decode cX8_ranked 180 = .ok (.iload 6, 2) := by decide +kernel
theorem dX8_ranked_182 : decode cX8_ranked 182 = .ok (.iload_n 3, 1) := by decide +kernel
theorem dX8_ranked_183 : decode cX8_ranked 183 = .ok (.if_icmp .ne 11, 3) := by decide +kernel
theorem dX8_ranked_186 : decode cX8_ranked 186 = .ok (.aload_n 0, 1) := by decide +kernel
theorem dX8_ranked_187 : decode cX8_ranked 187 = .ok (.getfield 7, 3) := by decide +kernel
theorem dX8_ranked_190 : decode cX8_ranked 190 = .ok (.iload 5, 2) := by decide +kernel
theorem dX8_ranked_192 : decode cX8_ranked 192 = .ok (.iaload, 1) := by decide +kernel
theorem dX8_ranked_193 : decode cX8_ranked 193 = .ok (.ireturn, 1) := by decide +kernel
theorem dX8_ranked_194 : decode cX8_ranked 194 = .ok (.iinc 4 1, 3) := by decide +kernel
theorem dX8_ranked_197 : decode cX8_ranked 197 = .ok (.goto (-177), 3) := by decide +kernel
theorem dX8_ranked_200 : decode cX8_ranked 200 = .ok (.bipush (-5), 2) := by decide +kernel
theorem dX8_ranked_202 : decode cX8_ranked 202 = .ok (.ireturn, 1) := by decide +kernel
theorem dX8_labelsOf_0 : decode cX8_labelsOf 0 = .ok (.iconst 0, 1) := by decide +kernel
theorem dX8_labelsOf_1 : decode cX8_labelsOf 1 = .ok (.istore_n 3, 1) := by decide +kernel
theorem dX8_labelsOf_2 : decode cX8_labelsOf 2 = .ok (.iconst 0, 1) := by decide +kernel
theorem dX8_labelsOf_3 : decode cX8_labelsOf 3 = .ok (.istore 4, 2) := by decide +kernel
theorem dX8_labelsOf_5 : decode cX8_labelsOf 5 = .ok (.iload 4, 2) := by decide +kernel
theorem dX8_labelsOf_7 : decode cX8_labelsOf 7 = .ok (.bipush 8, 2) := by decide +kernel
theorem dX8_labelsOf_9 : decode cX8_labelsOf 9 = .ok (.if_icmp .ge 139, 3) := by decide +kernel
theorem dX8_labelsOf_12 : decode cX8_labelsOf 12 = .ok (.iconst 0, 1) := by decide +kernel
theorem dX8_labelsOf_13 : decode cX8_labelsOf 13 = .ok (.istore 5, 2) := by decide +kernel
theorem dX8_labelsOf_15 : decode cX8_labelsOf 15 = .ok (.iload 5, 2) := by decide +kernel
theorem dX8_labelsOf_17 : decode cX8_labelsOf 17 = .ok (.iconst 3, 1) := by decide +kernel
theorem dX8_labelsOf_18 : decode cX8_labelsOf 18 = .ok (.if_icmp .ge 124, 3) := by decide +kernel
theorem dX8_labelsOf_21 : decode cX8_labelsOf 21 = .ok (.aload_n 0, 1) := by decide +kernel
theorem dX8_labelsOf_22 : decode cX8_labelsOf 22 = .ok (.getfield 7, 3) := by decide +kernel
theorem dX8_labelsOf_25 : decode cX8_labelsOf 25 = .ok (.iload 4, 2) := by decide +kernel
theorem dX8_labelsOf_27 : decode cX8_labelsOf 27 = .ok (.iaload, 1) := by decide +kernel
theorem dX8_labelsOf_28 : decode cX8_labelsOf 28 = .ok (.iload_n 1, 1) := by decide +kernel
theorem dX8_labelsOf_29 : decode cX8_labelsOf 29 = .ok (.if_icmp .ne 113, 3) := by decide +kernel
theorem dX8_labelsOf_32 : decode cX8_labelsOf 32 = .ok (.aload_n 0, 1) := by decide +kernel
theorem dX8_labelsOf_33 : decode cX8_labelsOf 33 = .ok (.getfield 7, 3) := by decide +kernel
theorem dX8_labelsOf_36 : decode cX8_labelsOf 36 = .ok (.bipush 8, 2) := by decide +kernel
theorem dX8_labelsOf_38 : decode cX8_labelsOf 38 = .ok (.iload_n 1, 1) := by decide +kernel
theorem dX8_labelsOf_39 : decode cX8_labelsOf 39 = .ok (.iadd, 1) := by decide +kernel
theorem dX8_labelsOf_40 : decode cX8_labelsOf 40 = .ok (.iaload, 1) := by decide +kernel
theorem dX8_labelsOf_41 : decode cX8_labelsOf 41 = .ok (.iload 5, 2) := by decide +kernel
theorem dX8_labelsOf_43 : decode cX8_labelsOf 43 = .ok (.ishr, 1) := by decide +kernel
theorem dX8_labelsOf_44 : decode cX8_labelsOf 44 = .ok (.iconst 1, 1) := by decide +kernel
theorem dX8_labelsOf_45 : decode cX8_labelsOf 45 = .ok (.iand, 1) := by decide +kernel
theorem dX8_labelsOf_46 : decode cX8_labelsOf 46 = .ok (.iconst 1, 1) := by decide +kernel
theorem dX8_labelsOf_47 : decode cX8_labelsOf 47 = .ok (.if_icmp .ne 7, 3) := by decide +kernel
theorem dX8_labelsOf_50 : decode cX8_labelsOf 50 = .ok (.iconst 1, 1) := by decide +kernel
theorem dX8_labelsOf_51 : decode cX8_labelsOf 51 = .ok (.goto 4, 3) := by decide +kernel
theorem dX8_labelsOf_54 : decode cX8_labelsOf 54 = .ok (.iconst 0, 1) := by decide +kernel
theorem dX8_labelsOf_55 : decode cX8_labelsOf 55 = .ok (.istore 6, 2) := by decide +kernel
theorem dX8_labelsOf_57 : decode cX8_labelsOf 57 = .ok (.aload_n 0, 1) := by decide +kernel
theorem dX8_labelsOf_58 : decode cX8_labelsOf 58 = .ok (.iload 4, 2) := by decide +kernel
theorem dX8_labelsOf_60 : decode cX8_labelsOf 60 = .ok (.iload 5, 2) := by decide +kernel
theorem dX8_labelsOf_62 : decode cX8_labelsOf 62 = .ok (.invokevirtual 75, 3) := by decide +kernel
theorem dX8_labelsOf_65 : decode cX8_labelsOf 65 = .ok (.istore 7, 2) := by decide +kernel
theorem dX8_labelsOf_67 : decode cX8_labelsOf 67 = .ok (.iload_n 2, 1) := by decide +kernel
theorem dX8_labelsOf_68 : decode cX8_labelsOf 68 = .ok (.iconst 3, 1) := by decide +kernel
theorem dX8_labelsOf_69 : decode cX8_labelsOf 69 = .ok (.if_icmp .ne 29, 3) := by decide +kernel
theorem dX8_labelsOf_72 : decode cX8_labelsOf 72 = .ok (.aload_n 0, 1) := by decide +kernel
theorem dX8_labelsOf_73 : decode cX8_labelsOf 73 = .ok (.iload 4, 2) := by decide +kernel
theorem dX8_labelsOf_75 : decode cX8_labelsOf 75 = .ok (.iload 5, 2) := by decide +kernel
theorem dX8_labelsOf_77 : decode cX8_labelsOf 77 = .ok (.invokevirtual 42, 3) := by decide +kernel
theorem dX8_labelsOf_80 : decode cX8_labelsOf 80 = .ok (.istore 8, 2) := by decide +kernel
theorem dX8_labelsOf_82 : decode cX8_labelsOf 82 = .ok (.iload 8, 2) := by decide +kernel
theorem dX8_labelsOf_84 : decode cX8_labelsOf 84 = .ok (.iload_n 3, 1) := by decide +kernel
theorem dX8_labelsOf_85 : decode cX8_labelsOf 85 = .ok (.if_icmp .le 8, 3) := by decide +kernel
theorem dX8_labelsOf_88 : decode cX8_labelsOf 88 = .ok (.iload 8, 2) := by decide +kernel
theorem dX8_labelsOf_90 : decode cX8_labelsOf 90 = .ok (.goto 4, 3) := by decide +kernel
theorem dX8_labelsOf_93 : decode cX8_labelsOf 93 = .ok (.iload_n 3, 1) := by decide +kernel
theorem dX8_labelsOf_94 : decode cX8_labelsOf 94 = .ok (.istore_n 3, 1) := by decide +kernel
theorem dX8_labelsOf_95 : decode cX8_labelsOf 95 = .ok (.goto 41, 3) := by decide +kernel
theorem dX8_labelsOf_98 : decode cX8_labelsOf 98 = .ok (.iload_n 3, 1) := by decide +kernel
theorem dX8_labelsOf_99 : decode cX8_labelsOf 99 = .ok (.iload 6, 2) := by decide +kernel
theorem dX8_labelsOf_101 : decode cX8_labelsOf 101 = .ok (.iload_n 2, 1) := by decide +kernel
theorem dX8_labelsOf_102 : decode cX8_labelsOf 102 = .ok (.iconst 2, 1) := by decide +kernel
theorem dX8_labelsOf_103 : decode cX8_labelsOf 103 = .ok (.if_icmp .eq 7, 3) := by decide +kernel
theorem dX8_labelsOf_106 : decode cX8_labelsOf 106 = .ok (.iconst 1, 1) := by decide +kernel
theorem dX8_labelsOf_107 : decode cX8_labelsOf 107 = .ok (.goto 4, 3) := by decide +kernel
theorem dX8_labelsOf_110 : decode cX8_labelsOf 110 = .ok (.iconst 0, 1) := by decide +kernel
theorem dX8_labelsOf_111 : decode cX8_labelsOf 111 = .ok (.if_icmp .ne 22, 3) := by decide +kernel
theorem dX8_labelsOf_114 : decode cX8_labelsOf 114 = .ok (.iload 7, 2) := by decide +kernel
theorem dX8_labelsOf_116 : decode cX8_labelsOf 116 = .ok (.iload_n 2, 1) := by decide +kernel
theorem dX8_labelsOf_117 : decode cX8_labelsOf 117 = .ok (.iconst 1, 1) := by decide +kernel
theorem dX8_labelsOf_118 : decode cX8_labelsOf 118 = .ok (.if_icmp .eq 7, 3) := by decide +kernel
theorem dX8_labelsOf_121 : decode cX8_labelsOf 121 = .ok (.iconst 1, 1) := by decide +kernel
theorem dX8_labelsOf_122 : decode cX8_labelsOf 122 = .ok (.goto 4, 3) := by decide +kernel
theorem dX8_labelsOf_125 : decode cX8_labelsOf 125 = .ok (.iconst 0, 1) := by decide +kernel
theorem dX8_labelsOf_126 : decode cX8_labelsOf 126 = .ok (.if_icmp .ne 7, 3) := by decide +kernel
theorem dX8_labelsOf_129 : decode cX8_labelsOf 129 = .ok (.iconst 1, 1) := by decide +kernel
theorem dX8_labelsOf_130 : decode cX8_labelsOf 130 = .ok (.goto 4, 3) := by decide +kernel
theorem dX8_labelsOf_133 : decode cX8_labelsOf 133 = .ok (.iconst 0, 1) := by decide +kernel
theorem dX8_labelsOf_134 : decode cX8_labelsOf 134 = .ok (.iadd, 1) := by decide +kernel
theorem dX8_labelsOf_135 : decode cX8_labelsOf 135 = .ok (.istore_n 3, 1) := by decide +kernel
theorem dX8_labelsOf_136 : decode cX8_labelsOf 136 = .ok (.iinc 5 1, 3) := by decide +kernel
theorem dX8_labelsOf_139 : decode cX8_labelsOf 139 = .ok (.goto (-124), 3) := by decide +kernel
theorem dX8_labelsOf_142 : decode cX8_labelsOf 142 = .ok (.iinc 4 1, 3) := by decide +kernel
theorem dX8_labelsOf_145 : decode cX8_labelsOf 145 = .ok (.goto (-140), 3) := by decide +kernel
theorem dX8_labelsOf_148 : decode cX8_labelsOf 148 = .ok (.iload_n 3, 1) := by decide +kernel
theorem dX8_labelsOf_149 : decode cX8_labelsOf 149 = .ok (.ireturn, 1) := by decide +kernel
theorem dX8_worksOf_0 : decode cX8_worksOf 0 = .ok (.iconst 0, 1) := by decide +kernel
theorem dX8_worksOf_1 : decode cX8_worksOf 1 = .ok (.istore_n 2, 1) := by decide +kernel
theorem dX8_worksOf_2 : decode cX8_worksOf 2 = .ok (.iconst 0, 1) := by decide +kernel
theorem dX8_worksOf_3 : decode cX8_worksOf 3 = .ok (.istore_n 3, 1) := by decide +kernel
theorem dX8_worksOf_4 : decode cX8_worksOf 4 = .ok (.iload_n 3, 1) := by decide +kernel
theorem dX8_worksOf_5 : decode cX8_worksOf 5 = .ok (.bipush 8, 2) := by decide +kernel
theorem dX8_worksOf_7 : decode cX8_worksOf 7 = .ok (.if_icmp .ge 27, 3) := by decide +kernel
theorem dX8_worksOf_10 : decode cX8_worksOf 10 = .ok (.iload_n 2, 1) := by decide +kernel
theorem dX8_worksOf_11 : decode cX8_worksOf 11 = .ok (.aload_n 0, 1) := by decide +kernel
theorem dX8_worksOf_12 : decode cX8_worksOf 12 = .ok (.getfield 7, 3) := by decide +kernel
theorem dX8_worksOf_15 : decode cX8_worksOf 15 = .ok (.iload_n 3, 1) := by decide +kernel
theorem dX8_worksOf_16 : decode cX8_worksOf 16 = .ok (.iaload, 1) := by decide +kernel
theorem dX8_worksOf_17 : decode cX8_worksOf 17 = .ok (.iload_n 1, 1) := by decide +kernel
theorem dX8_worksOf_18 : decode cX8_worksOf 18 = .ok (.if_icmp .ne 7, 3) := by decide +kernel
theorem dX8_worksOf_21 : decode cX8_worksOf 21 = .ok (.iconst 1, 1) := by decide +kernel
theorem dX8_worksOf_22 : decode cX8_worksOf 22 = .ok (.goto 4, 3) := by decide +kernel
theorem dX8_worksOf_25 : decode cX8_worksOf 25 = .ok (.iconst 0, 1) := by decide +kernel
theorem dX8_worksOf_26 : decode cX8_worksOf 26 = .ok (.iadd, 1) := by decide +kernel
theorem dX8_worksOf_27 : decode cX8_worksOf 27 = .ok (.istore_n 2, 1) := by decide +kernel
theorem dX8_worksOf_28 : decode cX8_worksOf 28 = .ok (.iinc 3 1, 3) := by decide +kernel
theorem dX8_worksOf_31 : decode cX8_worksOf 31 = .ok (.goto (-27), 3) := by decide +kernel
theorem dX8_worksOf_34 : decode cX8_worksOf 34 = .ok (.iload_n 2, 1) := by decide +kernel
theorem dX8_worksOf_35 : decode cX8_worksOf 35 = .ok (.ireturn, 1) := by decide +kernel
theorem dX8_room_0 : decode cX8_room 0 = .ok (.iload_n 1, 1) := by decide +kernel
theorem dX8_room_1 : decode cX8_room 1 = .ok (.iconst 0, 1) := by decide +kernel
theorem dX8_room_2 : decode cX8_room 2 = .ok (.iconst 3, 1) := by decide +kernel
theorem dX8_room_3 : decode cX8_room 3 = .ok (.invokestatic 59, 3) := by decide +kernel
theorem dX8_room_6 : decode cX8_room 6 = .ok (.ifCond .ne 5, 3) := by decide +kernel
theorem dX8_room_9 : decode cX8_room 9 = .ok (.iconst (-1), 1) := by decide +kernel
theorem dX8_room_10 : decode cX8_room 10 = .ok (.ireturn, 1) := by decide +kernel
theorem dX8_room_11 : decode cX8_room 11 = .ok (.iload_n 2, 1) := by decide +kernel
theorem dX8_room_12 : decode cX8_room 12 = .ok (.tableswitch 79 0 6 #[44, 54, 60, 70, 70, 70, 70], 44) := by decide +kernel
theorem dX8_room_56 : decode cX8_room 56 = .ok (.aload_n 0, 1) := by decide +kernel
theorem dX8_room_57 : decode cX8_room 57 = .ok (.getfield 7, 3) := by decide +kernel
theorem dX8_room_60 : decode cX8_room 60 = .ok (.bipush 12, 2) := by decide +kernel
theorem dX8_room_62 : decode cX8_room 62 = .ok (.iload_n 1, 1) := by decide +kernel
theorem dX8_room_63 : decode cX8_room 63 = .ok (.iadd, 1) := by decide +kernel
theorem dX8_room_64 : decode cX8_room 64 = .ok (.iaload, 1) := by decide +kernel
theorem dX8_room_65 : decode cX8_room 65 = .ok (.ireturn, 1) := by decide +kernel
theorem dX8_room_66 : decode cX8_room 66 = .ok (.aload_n 0, 1) := by decide +kernel
theorem dX8_room_67 : decode cX8_room 67 = .ok (.iload_n 1, 1) := by decide +kernel
theorem dX8_room_68 : decode cX8_room 68 = .ok (.invokevirtual 122, 3) := by decide +kernel
theorem dX8_room_71 : decode cX8_room 71 = .ok (.ireturn, 1) := by decide +kernel
theorem dX8_room_72 : decode cX8_room 72 = .ok (.aload_n 0, 1) := by decide +kernel
theorem dX8_room_73 : decode cX8_room 73 = .ok (.getfield 7, 3) := by decide +kernel
theorem dX8_room_76 : decode cX8_room 76 = .ok (.bipush 8, 2) := by decide +kernel
theorem dX8_room_78 : decode cX8_room 78 = .ok (.iload_n 1, 1) := by decide +kernel
theorem dX8_room_79 : decode cX8_room 79 = .ok (.iadd, 1) := by decide +kernel
theorem dX8_room_80 : decode cX8_room 80 = .ok (.iaload, 1) := by decide +kernel
theorem dX8_room_81 : decode cX8_room 81 = .ok (.ireturn, 1) := by decide +kernel
theorem dX8_room_82 : decode cX8_room 82 = .ok (.aload_n 0, 1) := by decide +kernel
theorem dX8_room_83 : decode cX8_room 83 = .ok (.iload_n 1, 1) := by decide +kernel
theorem dX8_room_84 : decode cX8_room 84 = .ok (.iload_n 2, 1) := by decide +kernel
theorem dX8_room_85 : decode cX8_room 85 = .ok (.iconst 3, 1) := by decide +kernel
theorem dX8_room_86 : decode cX8_room 86 = .ok (.isub, 1) := by decide +kernel
theorem dX8_room_87 : decode cX8_room 87 = .ok (.invokevirtual 125, 3) := by decide +kernel
theorem dX8_room_90 : decode cX8_room 90 = .ok (.ireturn, 1) := by decide +kernel
theorem dX8_room_91 : decode cX8_room 91 = .ok (.bipush (-2), 2) := by decide +kernel
theorem dX8_room_93 : decode cX8_room 93 = .ok (.ireturn, 1) := by decide +kernel
theorem dX8_rewritesOf_0 : decode cX8_rewritesOf 0 = .ok (.iconst 0, 1) := by decide +kernel
theorem dX8_rewritesOf_1 : decode cX8_rewritesOf 1 = .ok (.istore_n 2, 1) := by decide +kernel
theorem dX8_rewritesOf_2 : decode cX8_rewritesOf 2 = .ok (.iconst 0, 1) := by decide +kernel
theorem dX8_rewritesOf_3 : decode cX8_rewritesOf 3 = .ok (.istore_n 3, 1) := by decide +kernel
theorem dX8_rewritesOf_4 : decode cX8_rewritesOf 4 = .ok (.iload_n 3, 1) := by decide +kernel
theorem dX8_rewritesOf_5 : decode cX8_rewritesOf 5 = .ok (.bipush 16, 2) := by decide +kernel
theorem dX8_rewritesOf_7 : decode cX8_rewritesOf 7 = .ok (.if_icmp .ge 48, 3) := by decide +kernel
theorem dX8_rewritesOf_10 : decode cX8_rewritesOf 10 = .ok (.iload_n 2, 1) := by decide +kernel
theorem dX8_rewritesOf_11 : decode cX8_rewritesOf 11 = .ok (.aload_n 0, 1) := by decide +kernel
theorem dX8_rewritesOf_12 : decode cX8_rewritesOf 12 = .ok (.getfield 7, 3) := by decide +kernel
theorem dX8_rewritesOf_15 : decode cX8_rewritesOf 15 = .ok (.iload_n 3, 1) := by decide +kernel
theorem dX8_rewritesOf_16 : decode cX8_rewritesOf 16 = .ok (.invokestatic 49, 3) := by decide +kernel
theorem dX8_rewritesOf_19 : decode cX8_rewritesOf 19 = .ok (.iaload, 1) := by decide +kernel
theorem dX8_rewritesOf_20 : decode cX8_rewritesOf 20 = .ok (.ifCond .lt 26, 3) := by decide +kernel
theorem dX8_rewritesOf_23 : decode cX8_rewritesOf 23 = .ok (.iload_n 1, 1) := by decide +kernel
theorem dX8_rewritesOf_24 : decode cX8_rewritesOf 24 = .ok (.ifCond .lt 18, 3) := by decide +kernel
theorem dX8_rewritesOf_27 : decode cX8_rewritesOf 27 = .ok (.aload_n 0, 1) := by decide +kernel
theorem dX8_rewritesOf_28 : decode cX8_rewritesOf 28 = .ok (.getfield 7, 3) := by decide +kernel
theorem dX8_rewritesOf_31 : decode cX8_rewritesOf 31 = .ok (.iload_n 3, 1) := by decide +kernel
theorem dX8_rewritesOf_32 : decode cX8_rewritesOf 32 = .ok (.invokestatic 49, 3) := by decide +kernel
theorem dX8_rewritesOf_35 : decode cX8_rewritesOf 35 = .ok (.iconst 2, 1) := by decide +kernel
theorem dX8_rewritesOf_36 : decode cX8_rewritesOf 36 = .ok (.iadd, 1) := by decide +kernel
theorem dX8_rewritesOf_37 : decode cX8_rewritesOf 37 = .ok (.iaload, 1) := by decide +kernel
theorem dX8_rewritesOf_38 : decode cX8_rewritesOf 38 = .ok (.iload_n 1, 1) := by decide +kernel
theorem dX8_rewritesOf_39 : decode cX8_rewritesOf 39 = .ok (.if_icmp .ne 7, 3) := by decide +kernel
theorem dX8_rewritesOf_42 : decode cX8_rewritesOf 42 = .ok (.iconst 1, 1) := by decide +kernel
theorem dX8_rewritesOf_43 : decode cX8_rewritesOf 43 = .ok (.goto 4, 3) := by decide +kernel
theorem dX8_rewritesOf_46 : decode cX8_rewritesOf 46 = .ok (.iconst 0, 1) := by decide +kernel
theorem dX8_rewritesOf_47 : decode cX8_rewritesOf 47 = .ok (.iadd, 1) := by decide +kernel
theorem dX8_rewritesOf_48 : decode cX8_rewritesOf 48 = .ok (.istore_n 2, 1) := by decide +kernel
theorem dX8_rewritesOf_49 : decode cX8_rewritesOf 49 = .ok (.iinc 3 1, 3) := by decide +kernel
theorem dX8_rewritesOf_52 : decode cX8_rewritesOf 52 = .ok (.goto (-48), 3) := by decide +kernel
theorem dX8_rewritesOf_55 : decode cX8_rewritesOf 55 = .ok (.iload_n 2, 1) := by decide +kernel
theorem dX8_rewritesOf_56 : decode cX8_rewritesOf 56 = .ok (.ireturn, 1) := by decide +kernel
theorem dX8_votesOf_0 : decode cX8_votesOf 0 = .ok (.iconst 0, 1) := by decide +kernel
theorem dX8_votesOf_1 : decode cX8_votesOf 1 = .ok (.istore_n 2, 1) := by decide +kernel
theorem dX8_votesOf_2 : decode cX8_votesOf 2 = .ok (.iconst 0, 1) := by decide +kernel
theorem dX8_votesOf_3 : decode cX8_votesOf 3 = .ok (.istore_n 3, 1) := by decide +kernel
theorem dX8_votesOf_4 : decode cX8_votesOf 4 = .ok (.iload_n 3, 1) := by decide +kernel
theorem dX8_votesOf_5 : decode cX8_votesOf 5 = .ok (.bipush 24, 2) := by decide +kernel
theorem dX8_votesOf_7 : decode cX8_votesOf 7 = .ok (.if_icmp .ge 34, 3) := by decide +kernel
theorem dX8_votesOf_10 : decode cX8_votesOf 10 = .ok (.iload_n 2, 1) := by decide +kernel
theorem dX8_votesOf_11 : decode cX8_votesOf 11 = .ok (.aload_n 0, 1) := by decide +kernel
theorem dX8_votesOf_12 : decode cX8_votesOf 12 = .ok (.getfield 7, 3) := by decide +kernel
theorem dX8_votesOf_15 : decode cX8_votesOf 15 = .ok (.bipush 32, 2) := by decide +kernel
theorem dX8_votesOf_17 : decode cX8_votesOf 17 = .ok (.bipush 24, 2) := by decide +kernel
theorem dX8_votesOf_19 : decode cX8_votesOf 19 = .ok (.iload_n 1, 1) := by decide +kernel
theorem dX8_votesOf_20 : decode cX8_votesOf 20 = .ok (.imul, 1) := by decide +kernel
theorem dX8_votesOf_21 : decode cX8_votesOf 21 = .ok (.iadd, 1) := by decide +kernel
theorem dX8_votesOf_22 : decode cX8_votesOf 22 = .ok (.iload_n 3, 1) := by decide +kernel
theorem dX8_votesOf_23 : decode cX8_votesOf 23 = .ok (.iadd, 1) := by decide +kernel
theorem dX8_votesOf_24 : decode cX8_votesOf 24 = .ok (.iaload, 1) := by decide +kernel
theorem dX8_votesOf_25 : decode cX8_votesOf 25 = .ok (.ifCond .lt 7, 3) := by decide +kernel
theorem dX8_votesOf_28 : decode cX8_votesOf 28 = .ok (.iconst 1, 1) := by decide +kernel
theorem dX8_votesOf_29 : decode cX8_votesOf 29 = .ok (.goto 4, 3) := by decide +kernel
theorem dX8_votesOf_32 : decode cX8_votesOf 32 = .ok (.iconst 0, 1) := by decide +kernel
theorem dX8_votesOf_33 : decode cX8_votesOf 33 = .ok (.iadd, 1) := by decide +kernel
theorem dX8_votesOf_34 : decode cX8_votesOf 34 = .ok (.istore_n 2, 1) := by decide +kernel
theorem dX8_votesOf_35 : decode cX8_votesOf 35 = .ok (.iinc 3 1, 3) := by decide +kernel
theorem dX8_votesOf_38 : decode cX8_votesOf 38 = .ok (.goto (-34), 3) := by decide +kernel
theorem dX8_votesOf_41 : decode cX8_votesOf 41 = .ok (.iload_n 2, 1) := by decide +kernel
theorem dX8_votesOf_42 : decode cX8_votesOf 42 = .ok (.ireturn, 1) := by decide +kernel
theorem dX8_standing_0 : decode cX8_standing 0 = .ok (.iconst 0, 1) := by decide +kernel
theorem dX8_standing_1 : decode cX8_standing 1 = .ok (.istore_n 2, 1) := by decide +kernel
theorem dX8_standing_2 : decode cX8_standing 2 = .ok (.iconst 0, 1) := by decide +kernel
theorem dX8_standing_3 : decode cX8_standing 3 = .ok (.istore_n 3, 1) := by decide +kernel
theorem dX8_standing_4 : decode cX8_standing 4 = .ok (.iload_n 3, 1) := by decide +kernel
theorem dX8_standing_5 : decode cX8_standing 5 = .ok (.bipush 24, 2) := by decide +kernel
theorem dX8_standing_7 : decode cX8_standing 7 = .ok (.if_icmp .ge 50, 3) := by decide +kernel
theorem dX8_standing_10 : decode cX8_standing 10 = .ok (.sipush 272, 3) := by decide +kernel
theorem dX8_standing_13 : decode cX8_standing 13 = .ok (.bipush 64, 2) := by decide +kernel
theorem dX8_standing_15 : decode cX8_standing 15 = .ok (.iload_n 3, 1) := by decide +kernel
theorem dX8_standing_16 : decode cX8_standing 16 = .ok (.imul, 1) := by decide +kernel
theorem dX8_standing_17 : decode cX8_standing 17 = .ok (.iadd, 1) := by decide +kernel
theorem dX8_standing_18 : decode cX8_standing 18 = .ok (.istore 4, 2) := by decide +kernel
theorem dX8_standing_20 : decode cX8_standing 20 = .ok (.iload_n 2, 1) := by decide +kernel
theorem dX8_standing_21 : decode cX8_standing 21 = .ok (.aload_n 0, 1) := by decide +kernel
theorem dX8_standing_22 : decode cX8_standing 22 = .ok (.getfield 7, 3) := by decide +kernel
theorem dX8_standing_25 : decode cX8_standing 25 = .ok (.iload 4, 2) := by decide +kernel
theorem dX8_standing_27 : decode cX8_standing 27 = .ok (.iaload, 1) := by decide +kernel
theorem dX8_standing_28 : decode cX8_standing 28 = .ok (.ifCond .le 20, 3) := by decide +kernel
theorem dX8_standing_31 : decode cX8_standing 31 = .ok (.aload_n 0, 1) := by decide +kernel
theorem dX8_standing_32 : decode cX8_standing 32 = .ok (.getfield 7, 3) := by decide +kernel
theorem dX8_standing_35 : decode cX8_standing 35 = .ok (.iload 4, 2) := by decide +kernel
theorem dX8_standing_37 : decode cX8_standing 37 = .ok (.iconst 1, 1) := by decide +kernel
theorem dX8_standing_38 : decode cX8_standing 38 = .ok (.iadd, 1) := by decide +kernel
theorem dX8_standing_39 : decode cX8_standing 39 = .ok (.iaload, 1) := by decide +kernel
theorem dX8_standing_40 : decode cX8_standing 40 = .ok (.iload_n 1, 1) := by decide +kernel
theorem dX8_standing_41 : decode cX8_standing 41 = .ok (.if_icmp .ne 7, 3) := by decide +kernel
theorem dX8_standing_44 : decode cX8_standing 44 = .ok (.iconst 1, 1) := by decide +kernel
theorem dX8_standing_45 : decode cX8_standing 45 = .ok (.goto 4, 3) := by decide +kernel
theorem dX8_standing_48 : decode cX8_standing 48 = .ok (.iconst 0, 1) := by decide +kernel
theorem dX8_standing_49 : decode cX8_standing 49 = .ok (.iadd, 1) := by decide +kernel
theorem dX8_standing_50 : decode cX8_standing 50 = .ok (.istore_n 2, 1) := by decide +kernel
theorem dX8_standing_51 : decode cX8_standing 51 = .ok (.iinc 3 1, 3) := by decide +kernel
theorem dX8_standing_54 : decode cX8_standing 54 = .ok (.goto (-50), 3) := by decide +kernel
theorem dX8_standing_57 : decode cX8_standing 57 = .ok (.iload_n 2, 1) := by decide +kernel
theorem dX8_standing_58 : decode cX8_standing 58 = .ok (.ireturn, 1) := by decide +kernel
theorem dX8_visitor_0 : decode cX8_visitor 0 = .ok (.iload_n 1, 1) := by decide +kernel
theorem dX8_visitor_1 : decode cX8_visitor 1 = .ok (.iconst 0, 1) := by decide +kernel
theorem dX8_visitor_2 : decode cX8_visitor 2 = .ok (.bipush 9, 2) := by decide +kernel
theorem dX8_visitor_4 : decode cX8_visitor 4 = .ok (.invokestatic 59, 3) := by decide +kernel
theorem dX8_visitor_7 : decode cX8_visitor 7 = .ok (.ifCond .ne 5, 3) := by decide +kernel
theorem dX8_visitor_10 : decode cX8_visitor 10 = .ok (.iconst (-1), 1) := by decide +kernel
theorem dX8_visitor_11 : decode cX8_visitor 11 = .ok (.ireturn, 1) := by decide +kernel
theorem dX8_visitor_12 : decode cX8_visitor 12 = .ok (.iload_n 2, 1) := by decide +kernel
theorem dX8_visitor_13 : decode cX8_visitor 13 = .ok (.tableswitch 59 0 3 #[31, 37, 47, 53], 31) := by decide +kernel
theorem dX8_visitor_44 : decode cX8_visitor 44 = .ok (.aload_n 0, 1) := by decide +kernel
theorem dX8_visitor_45 : decode cX8_visitor 45 = .ok (.iload_n 1, 1) := by decide +kernel
theorem dX8_visitor_46 : decode cX8_visitor 46 = .ok (.invokevirtual 128, 3) := by decide +kernel
theorem dX8_visitor_49 : decode cX8_visitor 49 = .ok (.ireturn, 1) := by decide +kernel
theorem dX8_visitor_50 : decode cX8_visitor 50 = .ok (.aload_n 0, 1) := by decide +kernel
theorem dX8_visitor_51 : decode cX8_visitor 51 = .ok (.getfield 7, 3) := by decide +kernel
theorem dX8_visitor_54 : decode cX8_visitor 54 = .ok (.bipush 22, 2) := by decide +kernel
theorem dX8_visitor_56 : decode cX8_visitor 56 = .ok (.iload_n 1, 1) := by decide +kernel
theorem dX8_visitor_57 : decode cX8_visitor 57 = .ok (.iadd, 1) := by decide +kernel
theorem dX8_visitor_58 : decode cX8_visitor 58 = .ok (.iaload, 1) := by decide +kernel
theorem dX8_visitor_59 : decode cX8_visitor 59 = .ok (.ireturn, 1) := by decide +kernel
theorem dX8_visitor_60 : decode cX8_visitor 60 = .ok (.aload_n 0, 1) := by decide +kernel
theorem dX8_visitor_61 : decode cX8_visitor 61 = .ok (.iload_n 1, 1) := by decide +kernel
theorem dX8_visitor_62 : decode cX8_visitor 62 = .ok (.invokevirtual 131, 3) := by decide +kernel
theorem dX8_visitor_65 : decode cX8_visitor 65 = .ok (.ireturn, 1) := by decide +kernel
theorem dX8_visitor_66 : decode cX8_visitor 66 = .ok (.aload_n 0, 1) := by decide +kernel
theorem dX8_visitor_67 : decode cX8_visitor 67 = .ok (.iload_n 1, 1) := by decide +kernel
theorem dX8_visitor_68 : decode cX8_visitor 68 = .ok (.invokevirtual 134, 3) := by decide +kernel
theorem dX8_visitor_71 : decode cX8_visitor 71 = .ok (.ireturn, 1) := by decide +kernel
theorem dX8_visitor_72 : decode cX8_visitor 72 = .ok (.bipush (-2), 2) := by decide +kernel
theorem dX8_visitor_74 : decode cX8_visitor 74 = .ok (.ireturn, 1) := by decide +kernel
theorem dX8_hasTold_0 : decode cX8_hasTold 0 = .ok (.iconst 0, 1) := by decide +kernel
theorem dX8_hasTold_1 : decode cX8_hasTold 1 = .ok (.istore_n 2, 1) := by decide +kernel
theorem dX8_hasTold_2 : decode cX8_hasTold 2 = .ok (.iconst 0, 1) := by decide +kernel
theorem dX8_hasTold_3 : decode cX8_hasTold 3 = .ok (.istore_n 3, 1) := by decide +kernel
theorem dX8_hasTold_4 : decode cX8_hasTold 4 = .ok (.iload_n 3, 1) := by decide +kernel
theorem dX8_hasTold_5 : decode cX8_hasTold 5 = .ok (.aload_n 0, 1) := by decide +kernel
theorem dX8_hasTold_6 : decode cX8_hasTold 6 = .ok (.getfield 56, 3) := by decide +kernel
theorem dX8_hasTold_9 : decode cX8_hasTold 9 = .ok (.if_icmp .ge 198, 3) := by decide +kernel
theorem dX8_hasTold_12 : decode cX8_hasTold 12 = .ok (.iload_n 2, 1) := by decide +kernel
theorem dX8_hasTold_13 : decode cX8_hasTold 13 = .ok (.ifCond .ne 194, 3) := by decide +kernel
theorem dX8_hasTold_16 : decode cX8_hasTold 16 = .ok (.iload_n 3, 1) := by decide +kernel
theorem dX8_hasTold_17 : decode cX8_hasTold 17 = .ok (.istore 4, 2) := by decide +kernel
theorem dX8_hasTold_19 : decode cX8_hasTold 19 = .ok (.iload 4, 2) := by decide +kernel
theorem dX8_hasTold_21 : decode cX8_hasTold 21 = .ok (.aload_n 0, 1) := by decide +kernel
theorem dX8_hasTold_22 : decode cX8_hasTold 22 = .ok (.getfield 56, 3) := by decide +kernel
theorem dX8_hasTold_25 : decode cX8_hasTold 25 = .ok (.if_icmp .ge 21, 3) := by decide +kernel
theorem dX8_hasTold_28 : decode cX8_hasTold 28 = .ok (.aload_n 0, 1) := by decide +kernel
theorem dX8_hasTold_29 : decode cX8_hasTold 29 = .ok (.getfield 13, 3) := by decide +kernel
theorem dX8_hasTold_32 : decode cX8_hasTold 32 = .ok (.iload 4, 2) := by decide +kernel
theorem dX8_hasTold_34 : decode cX8_hasTold 34 = .ok (.caload, 1) := by decide +kernel
theorem dX8_hasTold_35 : decode cX8_hasTold 35 = .ok (.bipush 32, 2) := by decide +kernel
theorem dX8_hasTold_37 : decode cX8_hasTold 37 = .ok (.if_icmp .eq 9, 3) := by decide +kernel
theorem dX8_hasTold_40 : decode cX8_hasTold 40 = .ok (.iinc 4 1, 3) := by decide +kernel
theorem dX8_hasTold_43 : decode cX8_hasTold 43 = .ok (.goto (-24), 3) := by decide +kernel
theorem dX8_hasTold_46 : decode cX8_hasTold 46 = .ok (.iconst 0, 1) := by decide +kernel
theorem dX8_hasTold_47 : decode cX8_hasTold 47 = .ok (.istore 5, 2) := by decide +kernel
theorem dX8_hasTold_49 : decode cX8_hasTold 49 = .ok (.iload 5, 2) := by decide +kernel
theorem dX8_hasTold_51 : decode cX8_hasTold 51 = .ok (.iload 4, 2) := by decide +kernel
theorem dX8_hasTold_53 : decode cX8_hasTold 53 = .ok (.iadd, 1) := by decide +kernel
theorem dX8_hasTold_54 : decode cX8_hasTold 54 = .ok (.iload_n 3, 1) := by decide +kernel
theorem dX8_hasTold_55 : decode cX8_hasTold 55 = .ok (.isub, 1) := by decide +kernel
theorem dX8_hasTold_56 : decode cX8_hasTold 56 = .ok (.aload_n 0, 1) := by decide +kernel
theorem dX8_hasTold_57 : decode cX8_hasTold 57 = .ok (.getfield 7, 3) := by decide +kernel
theorem dX8_hasTold_60 : decode cX8_hasTold 60 = .ok (.iload_n 1, 1) := by decide +kernel
theorem dX8_hasTold_61 : decode cX8_hasTold 61 = .ok (.iaload, 1) := by decide +kernel
theorem dX8_hasTold_62 : decode cX8_hasTold 62 = .ok (.if_icmp .gt 137, 3) := by decide +kernel
theorem dX8_hasTold_65 : decode cX8_hasTold 65 = .ok (.iload_n 2, 1) := by decide +kernel
theorem dX8_hasTold_66 : decode cX8_hasTold 66 = .ok (.ifCond .ne 133, 3) := by decide +kernel
theorem dX8_hasTold_69 : decode cX8_hasTold 69 = .ok (.iload 5, 2) := by decide +kernel
theorem dX8_hasTold_71 : decode cX8_hasTold 71 = .ok (.ifCond .eq 19, 3) := by decide +kernel
theorem dX8_hasTold_74 : decode cX8_hasTold 74 = .ok (.aload_n 0, 1) := by decide +kernel
theorem dX8_hasTold_75 : decode cX8_hasTold 75 = .ok (.getfield 7, 3) := by decide +kernel
theorem dX8_hasTold_78 : decode cX8_hasTold 78 = .ok (.iload_n 1, 1) := by decide +kernel
theorem dX8_hasTold_79 : decode cX8_hasTold 79 = .ok (.iconst 3, 1) := by decide +kernel
theorem dX8_hasTold_80 : decode cX8_hasTold 80 = .ok (.iadd, 1) := by decide +kernel
theorem dX8_hasTold_81 : decode cX8_hasTold 81 = .ok (.iload 5, 2) := by decide +kernel
theorem dX8_hasTold_83 : decode cX8_hasTold 83 = .ok (.iadd, 1) := by decide +kernel
theorem dX8_hasTold_84 : decode cX8_hasTold 84 = .ok (.iaload, 1) := by decide +kernel
theorem dX8_hasTold_85 : decode cX8_hasTold 85 = .ok (.bipush 32, 2) := by decide +kernel
theorem dX8_hasTold_87 : decode cX8_hasTold 87 = .ok (.if_icmp .ne 44, 3) := by decide +kernel
theorem dX8_hasTold_90 : decode cX8_hasTold 90 = .ok (.iload 5, 2) := by decide +kernel
theorem dX8_hasTold_92 : decode cX8_hasTold 92 = .ok (.iload 4, 2) := by decide +kernel
theorem dX8_hasTold_94 : decode cX8_hasTold 94 = .ok (.iadd, 1) := by decide +kernel
theorem dX8_hasTold_95 : decode cX8_hasTold 95 = .ok (.iload_n 3, 1) := by decide +kernel
theorem dX8_hasTold_96 : decode cX8_hasTold 96 = .ok (.isub, 1) := by decide +kernel
theorem dX8_hasTold_97 : decode cX8_hasTold 97 = .ok (.aload_n 0, 1) := by decide +kernel
theorem dX8_hasTold_98 : decode cX8_hasTold 98 = .ok (.getfield 7, 3) := by decide +kernel
theorem dX8_hasTold_101 : decode cX8_hasTold 101 = .ok (.iload_n 1, 1) := by decide +kernel
theorem dX8_hasTold_102 : decode cX8_hasTold 102 = .ok (.iaload, 1) := by decide +kernel
theorem dX8_hasTold_103 : decode cX8_hasTold 103 = .ok (.if_icmp .eq 24, 3) := by decide +kernel
theorem dX8_hasTold_106 : decode cX8_hasTold 106 = .ok (.aload_n 0, 1) := by decide +kernel
theorem dX8_hasTold_107 : decode cX8_hasTold 107 = .ok (.getfield 7, 3) := by decide +kernel
theorem dX8_hasTold_110 : decode cX8_hasTold 110 = .ok (.iload_n 1, 1) := by decide +kernel
theorem dX8_hasTold_111 : decode cX8_hasTold 111 = .ok (.iconst 4, 1) := by decide +kernel
theorem dX8_hasTold_112 : decode cX8_hasTold 112 = .ok (.iadd, 1) := by decide +kernel
theorem dX8_hasTold_113 : decode cX8_hasTold 113 = .ok (.iload 5, 2) := by decide +kernel
theorem dX8_hasTold_115 : decode cX8_hasTold 115 = .ok (.iadd, 1) := by decide +kernel
theorem dX8_hasTold_116 : decode cX8_hasTold 116 = .ok (.iload 4, 2) := by decide +kernel
theorem dX8_hasTold_118 : decode cX8_hasTold 118 = .ok (.iadd, 1) := by decide +kernel
theorem dX8_hasTold_119 : decode cX8_hasTold 119 = .ok (.iload_n 3, 1) := by decide +kernel
theorem dX8_hasTold_120 : decode cX8_hasTold 120 = .ok (.isub, 1) := by decide +kernel
theorem dX8_hasTold_121 : decode cX8_hasTold 121 = .ok (.iaload, 1) := by decide +kernel
theorem dX8_hasTold_122 : decode cX8_hasTold 122 = .ok (.bipush 32, 2) := by decide +kernel
theorem dX8_hasTold_124 : decode cX8_hasTold 124 = .ok (.if_icmp .ne 7, 3) := by decide +kernel
theorem dX8_hasTold_127 : decode cX8_hasTold 127 = .ok (.iconst 1, 1) := by decide +kernel
theorem dX8_hasTold_128 : decode cX8_hasTold 128 = .ok (.goto 4, 3) := by decide +kernel
theorem dX8_hasTold_131 : decode cX8_hasTold 131 = .ok (.iconst 0, 1) := by decide +kernel
theorem dX8_hasTold_132 : decode cX8_hasTold 132 = .ok (.istore 6, 2) := by decide +kernel
theorem dX8_hasTold_134 : decode cX8_hasTold 134 = .ok (.iconst 0, 1) := by decide +kernel
theorem dX8_hasTold_135 : decode cX8_hasTold 135 = .ok (.istore 7, 2) := by decide +kernel
theorem dX8_hasTold_137 : decode cX8_hasTold 137 = .ok (.iload 7, 2) := by decide +kernel
theorem dX8_hasTold_139 : decode cX8_hasTold 139 = .ok (.iload 4, 2) := by decide +kernel
theorem dX8_hasTold_141 : decode cX8_hasTold 141 = .ok (.iload_n 3, 1) := by decide +kernel
theorem dX8_hasTold_142 : decode cX8_hasTold 142 = .ok (.isub, 1) := by decide +kernel
theorem dX8_hasTold_143 : decode cX8_hasTold 143 = .ok (.if_icmp .ge 47, 3) := by decide +kernel
theorem dX8_hasTold_146 : decode cX8_hasTold 146 = .ok (.iload 6, 2) := by decide +kernel
theorem dX8_hasTold_148 : decode cX8_hasTold 148 = .ok (.ifCond .eq 42, 3) := by decide +kernel
theorem dX8_hasTold_151 : decode cX8_hasTold 151 = .ok (.aload_n 0, 1) := by decide +kernel
theorem dX8_hasTold_152 : decode cX8_hasTold 152 = .ok (.getfield 7, 3) := by decide +kernel
theorem dX8_hasTold_155 : decode cX8_hasTold 155 = .ok (.iload_n 1, 1) := by decide +kernel
theorem dX8_hasTold_156 : decode cX8_hasTold 156 = .ok (.iconst 4, 1) := by decide +kernel
theorem dX8_hasTold_157 : decode cX8_hasTold 157 = .ok (.iadd, 1) := by decide +kernel
theorem dX8_hasTold_158 : decode cX8_hasTold 158 = .ok (.iload 5, 2) := by decide +kernel
theorem dX8_hasTold_160 : decode cX8_hasTold 160 = .ok (.iadd, 1) := by decide +kernel
theorem dX8_hasTold_161 : decode cX8_hasTold 161 = .ok (.iload 7, 2) := by decide +kernel
theorem dX8_hasTold_163 : decode cX8_hasTold 163 = .ok (.iadd, 1) := by decide +kernel
theorem dX8_hasTold_164 : decode cX8_hasTold 164 = .ok (.iaload, 1) := by decide +kernel
theorem dX8_hasTold_165 : decode cX8_hasTold 165 = .ok (.aload_n 0, 1) := by decide +kernel
theorem dX8_hasTold_166 : decode cX8_hasTold 166 = .ok (.getfield 13, 3) := by decide +kernel
theorem dX8_hasTold_169 : decode cX8_hasTold 169 = .ok (.iload_n 3, 1) := by decide +kernel
theorem dX8_hasTold_170 : decode cX8_hasTold 170 = .ok (.iload 7, 2) := by decide +kernel
theorem dX8_hasTold_172 : decode cX8_hasTold 172 = .ok (.iadd, 1) := by decide +kernel
theorem dX8_hasTold_173 : decode cX8_hasTold 173 = .ok (.caload, 1) := by decide +kernel
theorem dX8_hasTold_174 : decode cX8_hasTold 174 = .ok (.if_icmp .ne 7, 3) := by decide +kernel
theorem dX8_hasTold_177 : decode cX8_hasTold 177 = .ok (.iconst 1, 1) := by decide +kernel
theorem dX8_hasTold_178 : decode cX8_hasTold 178 = .ok (.goto 4, 3) := by decide +kernel
theorem dX8_hasTold_181 : decode cX8_hasTold 181 = .ok (.iconst 0, 1) := by decide +kernel
theorem dX8_hasTold_182 : decode cX8_hasTold 182 = .ok (.istore 6, 2) := by decide +kernel
theorem dX8_hasTold_184 : decode cX8_hasTold 184 = .ok (.iinc 7 1, 3) := by decide +kernel
theorem dX8_hasTold_187 : decode cX8_hasTold 187 = .ok (.goto (-50), 3) := by decide +kernel
theorem dX8_hasTold_190 : decode cX8_hasTold 190 = .ok (.iload 6, 2) := by decide +kernel
theorem dX8_hasTold_192 : decode cX8_hasTold 192 = .ok (.istore_n 2, 1) := by decide +kernel
theorem dX8_hasTold_193 : decode cX8_hasTold 193 = .ok (.iinc 5 1, 3) := by decide +kernel
theorem dX8_hasTold_196 : decode cX8_hasTold 196 = .ok (.goto (-147), 3) := by decide +kernel
theorem dX8_hasTold_199 : decode cX8_hasTold 199 = .ok (.iload 4, 2) := by decide +kernel
theorem dX8_hasTold_201 : decode cX8_hasTold 201 = .ok (.iconst 1, 1) := by decide +kernel
theorem dX8_hasTold_202 : decode cX8_hasTold 202 = .ok (.iadd, 1) := by decide +kernel
theorem dX8_hasTold_203 : decode cX8_hasTold 203 = .ok (.istore_n 3, 1) := by decide +kernel
theorem dX8_hasTold_204 : decode cX8_hasTold 204 = .ok (.goto (-200), 3) := by decide +kernel
theorem dX8_hasTold_207 : decode cX8_hasTold 207 = .ok (.iload_n 2, 1) := by decide +kernel
theorem dX8_hasTold_208 : decode cX8_hasTold 208 = .ok (.ireturn, 1) := by decide +kernel
theorem dX8_labelsWith_0 : decode cX8_labelsWith 0 = .ok (.iload_n 1, 1) := by decide +kernel
theorem dX8_labelsWith_1 : decode cX8_labelsWith 1 = .ok (.iconst 0, 1) := by decide +kernel
theorem dX8_labelsWith_2 : decode cX8_labelsWith 2 = .ok (.iconst 2, 1) := by decide +kernel
theorem dX8_labelsWith_3 : decode cX8_labelsWith 3 = .ok (.invokestatic 59, 3) := by decide +kernel
theorem dX8_labelsWith_6 : decode cX8_labelsWith 6 = .ok (.ifCond .ne 5, 3) := by decide +kernel
theorem dX8_labelsWith_9 : decode cX8_labelsWith 9 = .ok (.iconst (-1), 1) := by decide +kernel
theorem dX8_labelsWith_10 : decode cX8_labelsWith 10 = .ok (.ireturn, 1) := by decide +kernel
theorem dX8_labelsWith_11 : decode cX8_labelsWith 11 = .ok (.aload_n 0, 1) := by decide +kernel
theorem dX8_labelsWith_12 : decode cX8_labelsWith 12 = .ok (.invokevirtual 78, 3) := by decide +kernel
theorem dX8_labelsWith_15 : decode cX8_labelsWith 15 = .ok (.ifCond .lt 11, 3) := by decide +kernel
theorem dX8_labelsWith_18 : decode cX8_labelsWith 18 = .ok (.bipush (-100), 2) := by decide +kernel
theorem dX8_labelsWith_20 : decode cX8_labelsWith 20 = .ok (.aload_n 0, 1) := by decide +kernel
theorem dX8_labelsWith_21 : decode cX8_labelsWith 21 = .ok (.invokevirtual 78, 3) := by decide +kernel
theorem dX8_labelsWith_24 : decode cX8_labelsWith 24 = .ok (.isub, 1) := by decide +kernel
theorem dX8_labelsWith_25 : decode cX8_labelsWith 25 = .ok (.ireturn, 1) := by decide +kernel
theorem dX8_labelsWith_26 : decode cX8_labelsWith 26 = .ok (.iconst 0, 1) := by decide +kernel
theorem dX8_labelsWith_27 : decode cX8_labelsWith 27 = .ok (.istore_n 2, 1) := by decide +kernel
theorem dX8_labelsWith_28 : decode cX8_labelsWith 28 = .ok (.iconst 0, 1) := by decide +kernel
theorem dX8_labelsWith_29 : decode cX8_labelsWith 29 = .ok (.istore_n 3, 1) := by decide +kernel
theorem dX8_labelsWith_30 : decode cX8_labelsWith 30 = .ok (.iload_n 3, 1) := by decide +kernel
theorem dX8_labelsWith_31 : decode cX8_labelsWith 31 = .ok (.bipush 8, 2) := by decide +kernel
theorem dX8_labelsWith_33 : decode cX8_labelsWith 33 = .ok (.if_icmp .ge 29, 3) := by decide +kernel
theorem dX8_labelsWith_36 : decode cX8_labelsWith 36 = .ok (.iload_n 2, 1) := by decide +kernel
theorem dX8_labelsWith_37 : decode cX8_labelsWith 37 = .ok (.aload_n 0, 1) := by decide +kernel
theorem dX8_labelsWith_38 : decode cX8_labelsWith 38 = .ok (.iload_n 3, 1) := by decide +kernel
theorem dX8_labelsWith_39 : decode cX8_labelsWith 39 = .ok (.iload_n 1, 1) := by decide +kernel
theorem dX8_labelsWith_40 : decode cX8_labelsWith 40 = .ok (.invokestatic 28, 3) := by decide +kernel
theorem dX8_labelsWith_43 : decode cX8_labelsWith 43 = .ok (.invokevirtual 137, 3) := by decide +kernel
theorem dX8_labelsWith_46 : decode cX8_labelsWith 46 = .ok (.ifCond .eq 7, 3) := by decide +kernel
theorem dX8_labelsWith_49 : decode cX8_labelsWith 49 = .ok (.iconst 1, 1) := by decide +kernel
theorem dX8_labelsWith_50 : decode cX8_labelsWith 50 = .ok (.goto 4, 3) := by decide +kernel
theorem dX8_labelsWith_53 : decode cX8_labelsWith 53 = .ok (.iconst 0, 1) := by decide +kernel
theorem dX8_labelsWith_54 : decode cX8_labelsWith 54 = .ok (.iadd, 1) := by decide +kernel
theorem dX8_labelsWith_55 : decode cX8_labelsWith 55 = .ok (.istore_n 2, 1) := by decide +kernel
theorem dX8_labelsWith_56 : decode cX8_labelsWith 56 = .ok (.iinc 3 1, 3) := by decide +kernel
theorem dX8_labelsWith_59 : decode cX8_labelsWith 59 = .ok (.goto (-29), 3) := by decide +kernel
theorem dX8_labelsWith_62 : decode cX8_labelsWith 62 = .ok (.iload_n 2, 1) := by decide +kernel
theorem dX8_labelsWith_63 : decode cX8_labelsWith 63 = .ok (.ireturn, 1) := by decide +kernel
theorem dX8_count_0 : decode cX8_count 0 = .ok (.iload_n 1, 1) := by decide +kernel
theorem dX8_count_1 : decode cX8_count 1 = .ok (.tableswitch 165 0 11 #[63, 68, 74, 82, 87, 95, 103, 131, 139, 147, 155, 160], 63) := by decide +kernel
theorem dX8_count_64 : decode cX8_count 64 = .ok (.aload_n 0, 1) := by decide +kernel
theorem dX8_count_65 : decode cX8_count 65 = .ok (.invokevirtual 111, 3) := by decide +kernel
theorem dX8_count_68 : decode cX8_count 68 = .ok (.ireturn, 1) := by decide +kernel
theorem dX8_count_69 : decode cX8_count 69 = .ok (.aload_n 0, 1) := by decide +kernel
theorem dX8_count_70 : decode cX8_count 70 = .ok (.iconst (-1), 1) := by decide +kernel
theorem dX8_count_71 : decode cX8_count 71 = .ok (.invokevirtual 128, 3) := by decide +kernel
theorem dX8_count_74 : decode cX8_count 74 = .ok (.ireturn, 1) := by decide +kernel
theorem dX8_count_75 : decode cX8_count 75 = .ok (.aload_n 0, 1) := by decide +kernel
theorem dX8_count_76 : decode cX8_count 76 = .ok (.getfield 7, 3) := by decide +kernel
theorem dX8_count_79 : decode cX8_count 79 = .ok (.bipush 18, 2) := by decide +kernel
theorem dX8_count_81 : decode cX8_count 81 = .ok (.iaload, 1) := by decide +kernel
theorem dX8_count_82 : decode cX8_count 82 = .ok (.ireturn, 1) := by decide +kernel
theorem dX8_count_83 : decode cX8_count 83 = .ok (.aload_n 0, 1) := by decide +kernel
theorem dX8_count_84 : decode cX8_count 84 = .ok (.invokevirtual 141, 3) := by decide +kernel
theorem dX8_count_87 : decode cX8_count 87 = .ok (.ireturn, 1) := by decide +kernel
theorem dX8_count_88 : decode cX8_count 88 = .ok (.aload_n 0, 1) := by decide +kernel
theorem dX8_count_89 : decode cX8_count 89 = .ok (.getfield 7, 3) := by decide +kernel
theorem dX8_count_92 : decode cX8_count 92 = .ok (.bipush 17, 2) := by decide +kernel
theorem dX8_count_94 : decode cX8_count 94 = .ok (.iaload, 1) := by decide +kernel
theorem dX8_count_95 : decode cX8_count 95 = .ok (.ireturn, 1) := by decide +kernel
theorem dX8_count_96 : decode cX8_count 96 = .ok (.aload_n 0, 1) := by decide +kernel
theorem dX8_count_97 : decode cX8_count 97 = .ok (.getfield 7, 3) := by decide +kernel
theorem dX8_count_100 : decode cX8_count 100 = .ok (.bipush 16, 2) := by decide +kernel
theorem dX8_count_102 : decode cX8_count 102 = .ok (.iaload, 1) := by decide +kernel
theorem dX8_count_103 : decode cX8_count 103 = .ok (.ireturn, 1) := by decide +kernel
theorem dX8_count_104 : decode cX8_count 104 = .ok (.aload_n 0, 1) := by decide +kernel
theorem dX8_count_105 : decode cX8_count 105 = .ok (.iconst 0, 1) := by decide +kernel
theorem dX8_count_106 : decode cX8_count 106 = .ok (.iconst 1, 1) := by decide +kernel
theorem dX8_count_107 : decode cX8_count 107 = .ok (.invokevirtual 125, 3) := by decide +kernel
theorem dX8_count_110 : decode cX8_count 110 = .ok (.aload_n 0, 1) := by decide +kernel
theorem dX8_count_111 : decode cX8_count 111 = .ok (.iconst 1, 1) := by decide +kernel
theorem dX8_count_112 : decode cX8_count 112 = .ok (.iconst 1, 1) := by decide +kernel
theorem dX8_count_113 : decode cX8_count 113 = .ok (.invokevirtual 125, 3) := by decide +kernel
theorem dX8_count_116 : decode cX8_count 116 = .ok (.iadd, 1) := by decide +kernel
theorem dX8_count_117 : decode cX8_count 117 = .ok (.aload_n 0, 1) := by decide +kernel
theorem dX8_count_118 : decode cX8_count 118 = .ok (.iconst 2, 1) := by decide +kernel
theorem dX8_count_119 : decode cX8_count 119 = .ok (.iconst 1, 1) := by decide +kernel
theorem dX8_count_120 : decode cX8_count 120 = .ok (.invokevirtual 125, 3) := by decide +kernel
theorem dX8_count_123 : decode cX8_count 123 = .ok (.iadd, 1) := by decide +kernel
theorem dX8_count_124 : decode cX8_count 124 = .ok (.aload_n 0, 1) := by decide +kernel
theorem dX8_count_125 : decode cX8_count 125 = .ok (.iconst 3, 1) := by decide +kernel
theorem dX8_count_126 : decode cX8_count 126 = .ok (.iconst 1, 1) := by decide +kernel
theorem dX8_count_127 : decode cX8_count 127 = .ok (.invokevirtual 125, 3) := by decide +kernel
theorem dX8_count_130 : decode cX8_count 130 = .ok (.iadd, 1) := by decide +kernel
theorem dX8_count_131 : decode cX8_count 131 = .ok (.ireturn, 1) := by decide +kernel
theorem dX8_count_132 : decode cX8_count 132 = .ok (.aload_n 0, 1) := by decide +kernel
theorem dX8_count_133 : decode cX8_count 133 = .ok (.getfield 7, 3) := by decide +kernel
theorem dX8_count_136 : decode cX8_count 136 = .ok (.bipush 19, 2) := by decide +kernel
theorem dX8_count_138 : decode cX8_count 138 = .ok (.iaload, 1) := by decide +kernel
theorem dX8_count_139 : decode cX8_count 139 = .ok (.ireturn, 1) := by decide +kernel
theorem dX8_count_140 : decode cX8_count 140 = .ok (.aload_n 0, 1) := by decide +kernel
theorem dX8_count_141 : decode cX8_count 141 = .ok (.getfield 7, 3) := by decide +kernel
theorem dX8_count_144 : decode cX8_count 144 = .ok (.bipush 20, 2) := by decide +kernel
theorem dX8_count_146 : decode cX8_count 146 = .ok (.iaload, 1) := by decide +kernel
theorem dX8_count_147 : decode cX8_count 147 = .ok (.ireturn, 1) := by decide +kernel
theorem dX8_count_148 : decode cX8_count 148 = .ok (.aload_n 0, 1) := by decide +kernel
theorem dX8_count_149 : decode cX8_count 149 = .ok (.getfield 7, 3) := by decide +kernel
theorem dX8_count_152 : decode cX8_count 152 = .ok (.bipush 21, 2) := by decide +kernel
theorem dX8_count_154 : decode cX8_count 154 = .ok (.iaload, 1) := by decide +kernel
theorem dX8_count_155 : decode cX8_count 155 = .ok (.ireturn, 1) := by decide +kernel
theorem dX8_count_156 : decode cX8_count 156 = .ok (.aload_n 0, 1) := by decide +kernel
theorem dX8_count_157 : decode cX8_count 157 = .ok (.getfield 20, 3) := by decide +kernel
theorem dX8_count_160 : decode cX8_count 160 = .ok (.ireturn, 1) := by decide +kernel
theorem dX8_count_161 : decode cX8_count 161 = .ok (.aload_n 0, 1) := by decide +kernel
theorem dX8_count_162 : decode cX8_count 162 = .ok (.getfield 56, 3) := by decide +kernel
theorem dX8_count_165 : decode cX8_count 165 = .ok (.ireturn, 1) := by decide +kernel
theorem dX8_count_166 : decode cX8_count 166 = .ok (.bipush (-2), 2) := by decide +kernel
theorem dX8_count_168 : decode cX8_count 168 = .ok (.ireturn, 1) := by decide +kernel
theorem dX8_allVotes_0 : decode cX8_allVotes 0 = .ok (.iconst 0, 1) := by decide +kernel
theorem dX8_allVotes_1 : decode cX8_allVotes 1 = .ok (.istore_n 1, 1) := by decide +kernel
theorem dX8_allVotes_2 : decode cX8_allVotes 2 = .ok (.iconst 0, 1) := by decide +kernel
theorem dX8_allVotes_3 : decode cX8_allVotes 3 = .ok (.istore_n 2, 1) := by decide +kernel
theorem dX8_allVotes_4 : decode cX8_allVotes 4 = .ok (.iload_n 2, 1) := by decide +kernel
theorem dX8_allVotes_5 : decode cX8_allVotes 5 = .ok (.bipush 10, 2) := by decide +kernel
theorem dX8_allVotes_7 : decode cX8_allVotes 7 = .ok (.if_icmp .ge 17, 3) := by decide +kernel
theorem dX8_allVotes_10 : decode cX8_allVotes 10 = .ok (.iload_n 1, 1) := by decide +kernel
theorem dX8_allVotes_11 : decode cX8_allVotes 11 = .ok (.aload_n 0, 1) := by decide +kernel
theorem dX8_allVotes_12 : decode cX8_allVotes 12 = .ok (.iload_n 2, 1) := by decide +kernel
theorem dX8_allVotes_13 : decode cX8_allVotes 13 = .ok (.invokevirtual 131, 3) := by decide +kernel
theorem dX8_allVotes_16 : decode cX8_allVotes 16 = .ok (.iadd, 1) := by decide +kernel
theorem dX8_allVotes_17 : decode cX8_allVotes 17 = .ok (.istore_n 1, 1) := by decide +kernel
theorem dX8_allVotes_18 : decode cX8_allVotes 18 = .ok (.iinc 2 1, 3) := by decide +kernel
theorem dX8_allVotes_21 : decode cX8_allVotes 21 = .ok (.goto (-17), 3) := by decide +kernel
theorem dX8_allVotes_24 : decode cX8_allVotes 24 = .ok (.iload_n 1, 1) := by decide +kernel
theorem dX8_allVotes_25 : decode cX8_allVotes 25 = .ok (.ireturn, 1) := by decide +kernel
