theorem dX1_signature_0 : decode cX1_signature 0 = .ok (.aload_n 0, 1) := by decide +kernel
theorem dX1_signature_1 : decode cX1_signature 1 = .ok (.iconst 0, 1) := by decide +kernel
theorem dX1_signature_2 : decode cX1_signature 2 = .ok (.putfield 23, 3) := by decide +kernel
theorem dX1_signature_5 : decode cX1_signature 5 = .ok (.iload_n 1, 1) := by decide +kernel
theorem dX1_signature_6 : decode cX1_signature 6 = .ok (.ifCond .lt 8, 3) := by decide +kernel
theorem dX1_signature_9 : decode cX1_signature 9 = .ok (.iload_n 1, 1) := by decide +kernel
theorem dX1_signature_10 : decode cX1_signature 10 = .ok (.iconst 3, 1) := by decide +kernel
theorem dX1_signature_11 : decode cX1_signature 11 = .ok (.if_icmp .le 9, 3) := by decide +kernel
theorem dX1_signature_14 : decode cX1_signature 14 = .ok (.aload_n 0, 1) := by decide +kernel
theorem dX1_signature_15 : decode cX1_signature 15 = .ok (.iconst 1, 1) := by decide +kernel
theorem dX1_signature_16 : decode cX1_signature 16 = .ok (.invokevirtual 50, 3) := by decide +kernel
theorem dX1_signature_19 : decode cX1_signature 19 = .ok (.ireturn, 1) := by decide +kernel
theorem dX1_signature_20 : decode cX1_signature 20 = .ok (.aload_n 0, 1) := by decide +kernel
theorem dX1_signature_21 : decode cX1_signature 21 = .ok (.getfield 9, 3) := by decide +kernel
theorem dX1_signature_24 : decode cX1_signature 24 = .ok (.iconst 4, 1) := by decide +kernel
theorem dX1_signature_25 : decode cX1_signature 25 = .ok (.if_icmp .ne 7, 3) := by decide +kernel
theorem dX1_signature_28 : decode cX1_signature 28 = .ok (.iconst (-1), 1) := by decide +kernel
theorem dX1_signature_29 : decode cX1_signature 29 = .ok (.goto 24, 3) := by decide +kernel
theorem dX1_signature_32 : decode cX1_signature 32 = .ok (.aload_n 0, 1) := by decide +kernel
theorem dX1_signature_33 : decode cX1_signature 33 = .ok (.getfield 9, 3) := by decide +kernel
theorem dX1_signature_36 : decode cX1_signature 36 = .ok (.ifCond .eq 11, 3) := by decide +kernel
theorem dX1_signature_39 : decode cX1_signature 39 = .ok (.aload_n 0, 1) := by decide +kernel
theorem dX1_signature_40 : decode cX1_signature 40 = .ok (.getfield 9, 3) := by decide +kernel
theorem dX1_signature_43 : decode cX1_signature 43 = .ok (.iconst 3, 1) := by decide +kernel
theorem dX1_signature_44 : decode cX1_signature 44 = .ok (.if_icmp .ne 7, 3) := by decide +kernel
theorem dX1_signature_47 : decode cX1_signature 47 = .ok (.iconst 2, 1) := by decide +kernel
theorem dX1_signature_48 : decode cX1_signature 48 = .ok (.goto 5, 3) := by decide +kernel
theorem dX1_signature_51 : decode cX1_signature 51 = .ok (.bipush 32, 2) := by decide +kernel
theorem dX1_signature_53 : decode cX1_signature 53 = .ok (.istore_n 2, 1) := by decide +kernel
theorem dX1_signature_54 : decode cX1_signature 54 = .ok (.iload_n 1, 1) := by decide +kernel
theorem dX1_signature_55 : decode cX1_signature 55 = .ok (.ifCond .ne 10, 3) := by decide +kernel
theorem dX1_signature_58 : decode cX1_signature 58 = .ok (.aload_n 0, 1) := by decide +kernel
theorem dX1_signature_59 : decode cX1_signature 59 = .ok (.invokevirtual 66, 3) := by decide +kernel
theorem dX1_signature_62 : decode cX1_signature 62 = .ok (.goto 32, 3) := by decide +kernel
theorem dX1_signature_65 : decode cX1_signature 65 = .ok (.iload_n 1, 1) := by decide +kernel
theorem dX1_signature_66 : decode cX1_signature 66 = .ok (.iconst 1, 1) := by decide +kernel
theorem dX1_signature_67 : decode cX1_signature 67 = .ok (.if_icmp .ne 10, 3) := by decide +kernel
theorem dX1_signature_70 : decode cX1_signature 70 = .ok (.aload_n 0, 1) := by decide +kernel
theorem dX1_signature_71 : decode cX1_signature 71 = .ok (.getfield 35, 3) := by decide +kernel
theorem dX1_signature_74 : decode cX1_signature 74 = .ok (.goto 20, 3) := by decide +kernel
theorem dX1_signature_77 : decode cX1_signature 77 = .ok (.iload_n 1, 1) := by decide +kernel
theorem dX1_signature_78 : decode cX1_signature 78 = .ok (.iconst 2, 1) := by decide +kernel
theorem dX1_signature_79 : decode cX1_signature 79 = .ok (.if_icmp .ne 7, 3) := by decide +kernel
theorem dX1_signature_82 : decode cX1_signature 82 = .ok (.iload_n 2, 1) := by decide +kernel
theorem dX1_signature_83 : decode cX1_signature 83 = .ok (.goto 11, 3) := by decide +kernel
theorem dX1_signature_86 : decode cX1_signature 86 = .ok (.aload_n 0, 1) := by decide +kernel
theorem dX1_signature_87 : decode cX1_signature 87 = .ok (.aload_n 0, 1) := by decide +kernel
theorem dX1_signature_88 : decode cX1_signature 88 = .ok (.getfield 35, 3) := by decide +kernel
theorem dX1_signature_91 : decode cX1_signature 91 = .ok (.invokevirtual 53, 3) := by decide +kernel
theorem dX1_signature_94 : decode cX1_signature 94 = .ok (.ireturn, 1) := by decide +kernel
theorem dX1_thrown_0 : decode cX1_thrown 0 = .ok (.aload_n 0, 1) := by decide +kernel
theorem dX1_thrown_1 : decode cX1_thrown 1 = .ok (.getfield 23, 3) := by decide +kernel
theorem dX1_thrown_4 : decode cX1_thrown 4 = .ok (.ireturn, 1) := by decide +kernel
theorem dX1_where_0 : decode cX1_where 0 = .ok (.aload_n 0, 1) := by decide +kernel
theorem dX1_where_1 : decode cX1_where 1 = .ok (.iconst 0, 1) := by decide +kernel
theorem dX1_where_2 : decode cX1_where 2 = .ok (.putfield 23, 3) := by decide +kernel
theorem dX1_where_5 : decode cX1_where 5 = .ok (.aload_n 0, 1) := by decide +kernel
theorem dX1_where_6 : decode cX1_where 6 = .ok (.iload_n 1, 1) := by decide +kernel
theorem dX1_where_7 : decode cX1_where 7 = .ok (.invokevirtual 57, 3) := by decide +kernel
theorem dX1_where_10 : decode cX1_where 10 = .ok (.ifCond .eq 16, 3) := by decide +kernel
theorem dX1_where_13 : decode cX1_where 13 = .ok (.iload_n 2, 1) := by decide +kernel
theorem dX1_where_14 : decode cX1_where 14 = .ok (.ifCond .lt 12, 3) := by decide +kernel
theorem dX1_where_17 : decode cX1_where 17 = .ok (.iload_n 2, 1) := by decide +kernel
theorem dX1_where_18 : decode cX1_where 18 = .ok (.aload_n 0, 1) := by decide +kernel
theorem dX1_where_19 : decode cX1_where 19 = .ok (.iload_n 1, 1) := by decide +kernel
theorem dX1_where_20 : decode cX1_where 20 = .ok (.invokevirtual 60, 3) := by decide +kernel
theorem dX1_where_23 : decode cX1_where 23 = .ok (.if_icmp .lt 9, 3) := by decide +kernel
theorem dX1_where_26 : decode cX1_where 26 = .ok (.aload_n 0, 1) := by decide +kernel
theorem dX1_where_27 : decode cX1_where 27 = .ok (.iconst 1, 1) := by decide +kernel
theorem dX1_where_28 : decode cX1_where 28 = .ok (.invokevirtual 50, 3) := by decide +kernel
theorem dX1_where_31 : decode cX1_where 31 = .ok (.ireturn, 1) := by decide +kernel
theorem dX1_where_32 : decode cX1_where 32 = .ok (.iload_n 1, 1) := by decide +kernel
theorem dX1_where_33 : decode cX1_where 33 = .ok (.iconst (-1), 1) := by decide +kernel
theorem dX1_where_34 : decode cX1_where 34 = .ok (.if_icmp .ne 5, 3) := by decide +kernel
theorem dX1_where_37 : decode cX1_where 37 = .ok (.iconst 4, 1) := by decide +kernel
theorem dX1_where_38 : decode cX1_where 38 = .ok (.ireturn, 1) := by decide +kernel
theorem dX1_where_39 : decode cX1_where 39 = .ok (.aload_n 0, 1) := by decide +kernel
theorem dX1_where_40 : decode cX1_where 40 = .ok (.getfield 31, 3) := by decide +kernel
theorem dX1_where_43 : decode cX1_where 43 = .ok (.ifCond .ne 36, 3) := by decide +kernel
theorem dX1_where_46 : decode cX1_where 46 = .ok (.aload_n 0, 1) := by decide +kernel
theorem dX1_where_47 : decode cX1_where 47 = .ok (.getfield 9, 3) := by decide +kernel
theorem dX1_where_50 : decode cX1_where 50 = .ok (.iconst 3, 1) := by decide +kernel
theorem dX1_where_51 : decode cX1_where 51 = .ok (.if_icmp .eq 28, 3) := by decide +kernel
theorem dX1_where_54 : decode cX1_where 54 = .ok (.iload_n 1, 1) := by decide +kernel
theorem dX1_where_55 : decode cX1_where 55 = .ok (.iconst 2, 1) := by decide +kernel
theorem dX1_where_56 : decode cX1_where 56 = .ok (.if_icmp .ge 23, 3) := by decide +kernel
theorem dX1_where_59 : decode cX1_where 59 = .ok (.aload_n 0, 1) := by decide +kernel
theorem dX1_where_60 : decode cX1_where 60 = .ok (.iconst 0, 1) := by decide +kernel
theorem dX1_where_61 : decode cX1_where 61 = .ok (.invokevirtual 63, 3) := by decide +kernel
theorem dX1_where_64 : decode cX1_where 64 = .ok (.ifCond .eq 15, 3) := by decide +kernel
theorem dX1_where_67 : decode cX1_where 67 = .ok (.aload_n 0, 1) := by decide +kernel
theorem dX1_where_68 : decode cX1_where 68 = .ok (.iload_n 1, 1) := by decide +kernel
theorem dX1_where_69 : decode cX1_where 69 = .ok (.invokevirtual 63, 3) := by decide +kernel
theorem dX1_where_72 : decode cX1_where 72 = .ok (.ifCond .eq 7, 3) := by decide +kernel
theorem dX1_where_75 : decode cX1_where 75 = .ok (.iconst 1, 1) := by decide +kernel
theorem dX1_where_76 : decode cX1_where 76 = .ok (.goto 4, 3) := by decide +kernel
theorem dX1_where_79 : decode cX1_where 79 = .ok (.iconst 0, 1) := by decide +kernel
theorem dX1_where_80 : decode cX1_where 80 = .ok (.istore_n 3, 1) := by decide +kernel
theorem dX1_where_81 : decode cX1_where 81 = .ok (.iload_n 3, 1) := by decide +kernel
theorem dX1_where_82 : decode cX1_where 82 = .ok (.ifCond .eq 35, 3) := by decide +kernel
theorem dX1_where_85 : decode cX1_where 85 = .ok (.bipush 44, 2) := by decide +kernel
theorem dX1_where_87 : decode cX1_where 87 = .ok (.iconst 2, 1) := by decide +kernel
theorem dX1_where_88 : decode cX1_where 88 = .ok (.iload_n 1, 1) := by decide +kernel
theorem dX1_where_89 : decode cX1_where 89 = .ok (.imul, 1) := by decide +kernel
theorem dX1_where_90 : decode cX1_where 90 = .ok (.iadd, 1) := by decide +kernel
theorem dX1_where_91 : decode cX1_where 91 = .ok (.istore 4, 2) := by decide +kernel
theorem dX1_where_93 : decode cX1_where 93 = .ok (.aload_n 0, 1) := by decide +kernel
theorem dX1_where_94 : decode cX1_where 94 = .ok (.getfield 13, 3) := by decide +kernel
theorem dX1_where_97 : decode cX1_where 97 = .ok (.iload_n 1, 1) := by decide +kernel
theorem dX1_where_98 : decode cX1_where 98 = .ok (.iaload, 1) := by decide +kernel
theorem dX1_where_99 : decode cX1_where 99 = .ok (.iconst 2, 1) := by decide +kernel
theorem dX1_where_100 : decode cX1_where 100 = .ok (.if_icmp .ne 14, 3) := by decide +kernel
theorem dX1_where_103 : decode cX1_where 103 = .ok (.iload_n 2, 1) := by decide +kernel
theorem dX1_where_104 : decode cX1_where 104 = .ok (.ifCond .ne 10, 3) := by decide +kernel
theorem dX1_where_107 : decode cX1_where 107 = .ok (.iload 4, 2) := by decide +kernel
theorem dX1_where_109 : decode cX1_where 109 = .ok (.iconst 1, 1) := by decide +kernel
theorem dX1_where_110 : decode cX1_where 110 = .ok (.iadd, 1) := by decide +kernel
theorem dX1_where_111 : decode cX1_where 111 = .ok (.goto 5, 3) := by decide +kernel
theorem dX1_where_114 : decode cX1_where 114 = .ok (.iload 4, 2) := by decide +kernel
theorem dX1_where_116 : decode cX1_where 116 = .ok (.ireturn, 1) := by decide +kernel
theorem dX1_where_117 : decode cX1_where 117 = .ok (.aload_n 0, 1) := by decide +kernel
theorem dX1_where_118 : decode cX1_where 118 = .ok (.iload_n 1, 1) := by decide +kernel
theorem dX1_where_119 : decode cX1_where 119 = .ok (.invokevirtual 53, 3) := by decide +kernel
theorem dX1_where_122 : decode cX1_where 122 = .ok (.iconst 4, 1) := by decide +kernel
theorem dX1_where_123 : decode cX1_where 123 = .ok (.idiv, 1) := by decide +kernel
theorem dX1_where_124 : decode cX1_where 124 = .ok (.iload_n 2, 1) := by decide +kernel
theorem dX1_where_125 : decode cX1_where 125 = .ok (.iadd, 1) := by decide +kernel
theorem dX1_where_126 : decode cX1_where 126 = .ok (.istore 4, 2) := by decide +kernel
theorem dX1_where_128 : decode cX1_where 128 = .ok (.iload 4, 2) := by decide +kernel
theorem dX1_where_130 : decode cX1_where 130 = .ok (.iconst 4, 1) := by decide +kernel
theorem dX1_where_131 : decode cX1_where 131 = .ok (.if_icmp .ge 10, 3) := by decide +kernel
theorem dX1_where_134 : decode cX1_where 134 = .ok (.iconst 4, 1) := by decide +kernel
theorem dX1_where_135 : decode cX1_where 135 = .ok (.iload 4, 2) := by decide +kernel
theorem dX1_where_137 : decode cX1_where 137 = .ok (.iadd, 1) := by decide +kernel
theorem dX1_where_138 : decode cX1_where 138 = .ok (.goto 4, 3) := by decide +kernel
theorem dX1_where_141 : decode cX1_where 141 = .ok (.iconst (-1), 1) := by decide +kernel
theorem dX1_where_142 : decode cX1_where 142 = .ok (.ireturn, 1) := by decide +kernel
theorem dX1_words_0 : decode cX1_words 0 = .ok (.iload_n 1, 1) := by decide +kernel
theorem dX1_words_1 : decode cX1_words 1 = .ok (.iconst (-1), 1) := by decide +kernel
theorem dX1_words_2 : decode cX1_words 2 = .ok (.if_icmp .ne 7, 3) := by decide +kernel
theorem dX1_words_5 : decode cX1_words 5 = .ok (.iconst 1, 1) := by decide +kernel
theorem dX1_words_6 : decode cX1_words 6 = .ok (.goto 14, 3) := by decide +kernel
theorem dX1_words_9 : decode cX1_words 9 = .ok (.aload_n 0, 1) := by decide +kernel
theorem dX1_words_10 : decode cX1_words 10 = .ok (.iload_n 1, 1) := by decide +kernel
theorem dX1_words_11 : decode cX1_words 11 = .ok (.invokevirtual 46, 3) := by decide +kernel
theorem dX1_words_14 : decode cX1_words 14 = .ok (.iconst 4, 1) := by decide +kernel
theorem dX1_words_15 : decode cX1_words 15 = .ok (.invokestatic 42, 3) := by decide +kernel
theorem dX1_words_18 : decode cX1_words 18 = .ok (.iconst 4, 1) := by decide +kernel
theorem dX1_words_19 : decode cX1_words 19 = .ok (.idiv, 1) := by decide +kernel
theorem dX1_words_20 : decode cX1_words 20 = .ok (.ireturn, 1) := by decide +kernel
