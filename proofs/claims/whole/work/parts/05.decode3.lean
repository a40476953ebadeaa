theorem dX0_registerOrMemory_0 : decode cX0_registerOrMemory 0 = .ok (.iload_n 0, 1) := by decide +kernel
theorem dX0_registerOrMemory_1 : decode cX0_registerOrMemory 1 = .ok (.bipush 16, 2) := by decide +kernel
theorem dX0_registerOrMemory_3 : decode cX0_registerOrMemory 3 = .ok (.if_icmp .ge 11, 3) := by decide +kernel
theorem dX0_registerOrMemory_6 : decode cX0_registerOrMemory 6 = .ok (.iconst 4, 1) := by decide +kernel
theorem dX0_registerOrMemory_7 : decode cX0_registerOrMemory 7 = .ok (.iload_n 0, 1) := by decide +kernel
theorem dX0_registerOrMemory_8 : decode cX0_registerOrMemory 8 = .ok (.iconst 4, 1) := by decide +kernel
theorem dX0_registerOrMemory_9 : decode cX0_registerOrMemory 9 = .ok (.idiv, 1) := by decide +kernel
theorem dX0_registerOrMemory_10 : decode cX0_registerOrMemory 10 = .ok (.iadd, 1) := by decide +kernel
theorem dX0_registerOrMemory_11 : decode cX0_registerOrMemory 11 = .ok (.goto 4, 3) := by decide +kernel
theorem dX0_registerOrMemory_14 : decode cX0_registerOrMemory 14 = .ok (.iconst (-1), 1) := by decide +kernel
theorem dX0_registerOrMemory_15 : decode cX0_registerOrMemory 15 = .ok (.ireturn, 1) := by decide +kernel
theorem dX0_resultPlace_0 : decode cX0_resultPlace 0 = .ok (.aload_n 0, 1) := by decide +kernel
theorem dX0_resultPlace_1 : decode cX0_resultPlace 1 = .ok (.getfield 23, 3) := by decide +kernel
theorem dX0_resultPlace_4 : decode cX0_resultPlace 4 = .ok (.tableswitch 37 0 3 #[32, 34, 34, 32], 32) := by decide +kernel
theorem dX0_resultPlace_36 : decode cX0_resultPlace 36 = .ok (.iconst 2, 1) := by decide +kernel
theorem dX0_resultPlace_37 : decode cX0_resultPlace 37 = .ok (.ireturn, 1) := by decide +kernel
theorem dX0_resultPlace_38 : decode cX0_resultPlace 38 = .ok (.bipush 32, 2) := by decide +kernel
theorem dX0_resultPlace_40 : decode cX0_resultPlace 40 = .ok (.ireturn, 1) := by decide +kernel
theorem dX0_resultPlace_41 : decode cX0_resultPlace 41 = .ok (.iconst (-1), 1) := by decide +kernel
theorem dX0_resultPlace_42 : decode cX0_resultPlace 42 = .ok (.ireturn, 1) := by decide +kernel
theorem dX0_savedPlace_0 : decode cX0_savedPlace 0 = .ok (.iconst 1, 1) := by decide +kernel
theorem dX0_savedPlace_1 : decode cX0_savedPlace 1 = .ok (.iload_n 1, 1) := by decide +kernel
theorem dX0_savedPlace_2 : decode cX0_savedPlace 2 = .ok (.ishl, 1) := by decide +kernel
theorem dX0_savedPlace_3 : decode cX0_savedPlace 3 = .ok (.istore 4, 2) := by decide +kernel
theorem dX0_savedPlace_5 : decode cX0_savedPlace 5 = .ok (.iload_n 0, 1) := by decide +kernel
theorem dX0_savedPlace_6 : decode cX0_savedPlace 6 = .ok (.iload 4, 2) := by decide +kernel
theorem dX0_savedPlace_8 : decode cX0_savedPlace 8 = .ok (.iand, 1) := by decide +kernel
theorem dX0_savedPlace_9 : decode cX0_savedPlace 9 = .ok (.ifCond .ne 5, 3) := by decide +kernel
theorem dX0_savedPlace_12 : decode cX0_savedPlace 12 = .ok (.iconst (-1), 1) := by decide +kernel
theorem dX0_savedPlace_13 : decode cX0_savedPlace 13 = .ok (.ireturn, 1) := by decide +kernel
theorem dX0_savedPlace_14 : decode cX0_savedPlace 14 = .ok (.iload_n 2, 1) := by decide +kernel
theorem dX0_savedPlace_15 : decode cX0_savedPlace 15 = .ok (.iload_n 3, 1) := by decide +kernel
theorem dX0_savedPlace_16 : decode cX0_savedPlace 16 = .ok (.iload_n 0, 1) := by decide +kernel
theorem dX0_savedPlace_17 : decode cX0_savedPlace 17 = .ok (.iload 4, 2) := by decide +kernel
theorem dX0_savedPlace_19 : decode cX0_savedPlace 19 = .ok (.iconst 1, 1) := by decide +kernel
theorem dX0_savedPlace_20 : decode cX0_savedPlace 20 = .ok (.isub, 1) := by decide +kernel
theorem dX0_savedPlace_21 : decode cX0_savedPlace 21 = .ok (.iand, 1) := by decide +kernel
theorem dX0_savedPlace_22 : decode cX0_savedPlace 22 = .ok (.invokestatic 140, 3) := by decide +kernel
theorem dX0_savedPlace_25 : decode cX0_savedPlace 25 = .ok (.imul, 1) := by decide +kernel
theorem dX0_savedPlace_26 : decode cX0_savedPlace 26 = .ok (.iadd, 1) := by decide +kernel
theorem dX0_savedPlace_27 : decode cX0_savedPlace 27 = .ok (.ireturn, 1) := by decide +kernel
theorem dX0_signature_0 : decode cX0_signature 0 = .ok (.iload_n 1, 1) := by decide +kernel
theorem dX0_signature_1 : decode cX0_signature 1 = .ok (.tableswitch 51 0 3 #[31, 36, 41, 46], 31) := by decide +kernel
theorem dX0_signature_32 : decode cX0_signature 32 = .ok (.aload_n 0, 1) := by decide +kernel
theorem dX0_signature_33 : decode cX0_signature 33 = .ok (.invokevirtual 119, 3) := by decide +kernel
theorem dX0_signature_36 : decode cX0_signature 36 = .ok (.ireturn, 1) := by decide +kernel
theorem dX0_signature_37 : decode cX0_signature 37 = .ok (.aload_n 0, 1) := by decide +kernel
theorem dX0_signature_38 : decode cX0_signature 38 = .ok (.getfield 19, 3) := by decide +kernel
theorem dX0_signature_41 : decode cX0_signature 41 = .ok (.ireturn, 1) := by decide +kernel
theorem dX0_signature_42 : decode cX0_signature 42 = .ok (.aload_n 0, 1) := by decide +kernel
theorem dX0_signature_43 : decode cX0_signature 43 = .ok (.invokevirtual 123, 3) := by decide +kernel
theorem dX0_signature_46 : decode cX0_signature 46 = .ok (.ireturn, 1) := by decide +kernel
theorem dX0_signature_47 : decode cX0_signature 47 = .ok (.aload_n 0, 1) := by decide +kernel
theorem dX0_signature_48 : decode cX0_signature 48 = .ok (.getfield 30, 3) := by decide +kernel
theorem dX0_signature_51 : decode cX0_signature 51 = .ok (.ireturn, 1) := by decide +kernel
theorem dX0_signature_52 : decode cX0_signature 52 = .ok (.new 91, 3) := by decide +kernel
theorem dX0_signature_55 : decode cX0_signature 55 = .ok (.dup, 1) := by decide +kernel
theorem dX0_signature_56 : decode cX0_signature 56 = .ok (.ldc 117, 2) := by decide +kernel
theorem dX0_signature_58 : decode cX0_signature 58 = .ok (.invokespecial 95, 3) := by decide +kernel
theorem dX0_signature_61 : decode cX0_signature 61 = .ok (.athrow, 1) := by decide +kernel
theorem dX0_where_0 : decode cX0_where 0 = .ok (.aload_n 0, 1) := by decide +kernel
theorem dX0_where_1 : decode cX0_where 1 = .ok (.iload_n 1, 1) := by decide +kernel
theorem dX0_where_2 : decode cX0_where 2 = .ok (.invokevirtual 87, 3) := by decide +kernel
theorem dX0_where_5 : decode cX0_where 5 = .ok (.ifCond .ne 13, 3) := by decide +kernel
theorem dX0_where_8 : decode cX0_where 8 = .ok (.new 91, 3) := by decide +kernel
theorem dX0_where_11 : decode cX0_where 11 = .ok (.dup, 1) := by decide +kernel
theorem dX0_where_12 : decode cX0_where 12 = .ok (.ldc 93, 2) := by decide +kernel
theorem dX0_where_14 : decode cX0_where 14 = .ok (.invokespecial 95, 3) := by decide +kernel
theorem dX0_where_17 : decode cX0_where 17 = .ok (.athrow, 1) := by decide +kernel
theorem dX0_where_18 : decode cX0_where 18 = .ok (.iload_n 2, 1) := by decide +kernel
theorem dX0_where_19 : decode cX0_where 19 = .ok (.ifCond .lt 12, 3) := by decide +kernel
theorem dX0_where_22 : decode cX0_where 22 = .ok (.iload_n 2, 1) := by decide +kernel
theorem dX0_where_23 : decode cX0_where 23 = .ok (.aload_n 0, 1) := by decide +kernel
theorem dX0_where_24 : decode cX0_where 24 = .ok (.iload_n 1, 1) := by decide +kernel
theorem dX0_where_25 : decode cX0_where 25 = .ok (.invokevirtual 96, 3) := by decide +kernel
theorem dX0_where_28 : decode cX0_where 28 = .ok (.if_icmp .lt 13, 3) := by decide +kernel
theorem dX0_where_31 : decode cX0_where 31 = .ok (.new 91, 3) := by decide +kernel
theorem dX0_where_34 : decode cX0_where 34 = .ok (.dup, 1) := by decide +kernel
theorem dX0_where_35 : decode cX0_where 35 = .ok (.ldc 100, 2) := by decide +kernel
theorem dX0_where_37 : decode cX0_where 37 = .ok (.invokespecial 95, 3) := by decide +kernel
theorem dX0_where_40 : decode cX0_where 40 = .ok (.athrow, 1) := by decide +kernel
theorem dX0_where_41 : decode cX0_where 41 = .ok (.aload_n 0, 1) := by decide +kernel
theorem dX0_where_42 : decode cX0_where 42 = .ok (.iload_n 1, 1) := by decide +kernel
theorem dX0_where_43 : decode cX0_where 43 = .ok (.invokevirtual 102, 3) := by decide +kernel
theorem dX0_where_46 : decode cX0_where 46 = .ok (.ifCond .eq 10, 3) := by decide +kernel
theorem dX0_where_49 : decode cX0_where 49 = .ok (.aload_n 0, 1) := by decide +kernel
theorem dX0_where_50 : decode cX0_where 50 = .ok (.iload_n 1, 1) := by decide +kernel
theorem dX0_where_51 : decode cX0_where 51 = .ok (.iload_n 2, 1) := by decide +kernel
theorem dX0_where_52 : decode cX0_where 52 = .ok (.invokevirtual 105, 3) := by decide +kernel
theorem dX0_where_55 : decode cX0_where 55 = .ok (.ireturn, 1) := by decide +kernel
theorem dX0_where_56 : decode cX0_where 56 = .ok (.aload_n 0, 1) := by decide +kernel
theorem dX0_where_57 : decode cX0_where 57 = .ok (.iload_n 1, 1) := by decide +kernel
theorem dX0_where_58 : decode cX0_where 58 = .ok (.invokevirtual 108, 3) := by decide +kernel
theorem dX0_where_61 : decode cX0_where 61 = .ok (.iconst 4, 1) := by decide +kernel
theorem dX0_where_62 : decode cX0_where 62 = .ok (.iload_n 2, 1) := by decide +kernel
theorem dX0_where_63 : decode cX0_where 63 = .ok (.imul, 1) := by decide +kernel
theorem dX0_where_64 : decode cX0_where 64 = .ok (.iadd, 1) := by decide +kernel
theorem dX0_where_65 : decode cX0_where 65 = .ok (.invokestatic 111, 3) := by decide +kernel
theorem dX0_where_68 : decode cX0_where 68 = .ok (.ireturn, 1) := by decide +kernel
theorem dX0_wordsAt_0 : decode cX0_wordsAt 0 = .ok (.aload_n 0, 1) := by decide +kernel
theorem dX0_wordsAt_1 : decode cX0_wordsAt 1 = .ok (.iload_n 1, 1) := by decide +kernel
theorem dX0_wordsAt_2 : decode cX0_wordsAt 2 = .ok (.invokevirtual 114, 3) := by decide +kernel
theorem dX0_wordsAt_5 : decode cX0_wordsAt 5 = .ok (.iconst 4, 1) := by decide +kernel
theorem dX0_wordsAt_6 : decode cX0_wordsAt 6 = .ok (.invokestatic 81, 3) := by decide +kernel
theorem dX0_wordsAt_9 : decode cX0_wordsAt 9 = .ok (.iconst 4, 1) := by decide +kernel
theorem dX0_wordsAt_10 : decode cX0_wordsAt 10 = .ok (.idiv, 1) := by decide +kernel
theorem dX0_wordsAt_11 : decode cX0_wordsAt 11 = .ok (.ireturn, 1) := by decide +kernel
theorem dX1_about_0 : decode cX1_about 0 = .ok (.aload_n 0, 1) := by decide +kernel
theorem dX1_about_1 : decode cX1_about 1 = .ok (.iconst 0, 1) := by decide +kernel
theorem dX1_about_2 : decode cX1_about 2 = .ok (.putfield 23, 3) := by decide +kernel
theorem dX1_about_5 : decode cX1_about 5 = .ok (.aload_n 0, 1) := by decide +kernel
theorem dX1_about_6 : decode cX1_about 6 = .ok (.iload_n 1, 1) := by decide +kernel
theorem dX1_about_7 : decode cX1_about 7 = .ok (.invokevirtual 57, 3) := by decide +kernel
theorem dX1_about_10 : decode cX1_about 10 = .ok (.ifCond .eq 12, 3) := by decide +kernel
theorem dX1_about_13 : decode cX1_about 13 = .ok (.iload_n 2, 1) := by decide +kernel
theorem dX1_about_14 : decode cX1_about 14 = .ok (.ifCond .lt 8, 3) := by decide +kernel
theorem dX1_about_17 : decode cX1_about 17 = .ok (.iload_n 2, 1) := by decide +kernel
theorem dX1_about_18 : decode cX1_about 18 = .ok (.iconst 2, 1) := by decide +kernel
theorem dX1_about_19 : decode cX1_about 19 = .ok (.if_icmp .le 9, 3) := by decide +kernel
theorem dX1_about_22 : decode cX1_about 22 = .ok (.aload_n 0, 1) := by decide +kernel
theorem dX1_about_23 : decode cX1_about 23 = .ok (.iconst 1, 1) := by decide +kernel
theorem dX1_about_24 : decode cX1_about 24 = .ok (.invokevirtual 50, 3) := by decide +kernel
theorem dX1_about_27 : decode cX1_about 27 = .ok (.ireturn, 1) := by decide +kernel
theorem dX1_about_28 : decode cX1_about 28 = .ok (.iload_n 1, 1) := by decide +kernel
theorem dX1_about_29 : decode cX1_about 29 = .ok (.iconst (-1), 1) := by decide +kernel
theorem dX1_about_30 : decode cX1_about 30 = .ok (.if_icmp .ne 22, 3) := by decide +kernel
theorem dX1_about_33 : decode cX1_about 33 = .ok (.iload_n 2, 1) := by decide +kernel
theorem dX1_about_34 : decode cX1_about 34 = .ok (.ifCond .ne 7, 3) := by decide +kernel
theorem dX1_about_37 : decode cX1_about 37 = .ok (.iconst 0, 1) := by decide +kernel
theorem dX1_about_38 : decode cX1_about 38 = .ok (.goto 13, 3) := by decide +kernel
theorem dX1_about_41 : decode cX1_about 41 = .ok (.iload_n 2, 1) := by decide +kernel
theorem dX1_about_42 : decode cX1_about 42 = .ok (.iconst 1, 1) := by decide +kernel
theorem dX1_about_43 : decode cX1_about 43 = .ok (.if_icmp .ne 7, 3) := by decide +kernel
theorem dX1_about_46 : decode cX1_about 46 = .ok (.iconst 4, 1) := by decide +kernel
theorem dX1_about_47 : decode cX1_about 47 = .ok (.goto 4, 3) := by decide +kernel
theorem dX1_about_50 : decode cX1_about 50 = .ok (.iconst 1, 1) := by decide +kernel
theorem dX1_about_51 : decode cX1_about 51 = .ok (.ireturn, 1) := by decide +kernel
theorem dX1_about_52 : decode cX1_about 52 = .ok (.iload_n 2, 1) := by decide +kernel
theorem dX1_about_53 : decode cX1_about 53 = .ok (.ifCond .ne 11, 3) := by decide +kernel
theorem dX1_about_56 : decode cX1_about 56 = .ok (.aload_n 0, 1) := by decide +kernel
theorem dX1_about_57 : decode cX1_about 57 = .ok (.iload_n 1, 1) := by decide +kernel
theorem dX1_about_58 : decode cX1_about 58 = .ok (.invokevirtual 53, 3) := by decide +kernel
theorem dX1_about_61 : decode cX1_about 61 = .ok (.goto 21, 3) := by decide +kernel
theorem dX1_about_64 : decode cX1_about 64 = .ok (.iload_n 2, 1) := by decide +kernel
theorem dX1_about_65 : decode cX1_about 65 = .ok (.iconst 1, 1) := by decide +kernel
theorem dX1_about_66 : decode cX1_about 66 = .ok (.if_icmp .ne 11, 3) := by decide +kernel
theorem dX1_about_69 : decode cX1_about 69 = .ok (.aload_n 0, 1) := by decide +kernel
theorem dX1_about_70 : decode cX1_about 70 = .ok (.iload_n 1, 1) := by decide +kernel
theorem dX1_about_71 : decode cX1_about 71 = .ok (.invokevirtual 46, 3) := by decide +kernel
theorem dX1_about_74 : decode cX1_about 74 = .ok (.goto 8, 3) := by decide +kernel
theorem dX1_about_77 : decode cX1_about 77 = .ok (.aload_n 0, 1) := by decide +kernel
theorem dX1_about_78 : decode cX1_about 78 = .ok (.iload_n 1, 1) := by decide +kernel
theorem dX1_about_79 : decode cX1_about 79 = .ok (.invokevirtual 60, 3) := by decide +kernel
theorem dX1_about_82 : decode cX1_about 82 = .ok (.ireturn, 1) := by decide +kernel
theorem dX1_add_0 : decode cX1_add 0 = .ok (.aload_n 0, 1) := by decide +kernel
theorem dX1_add_1 : decode cX1_add 1 = .ok (.iconst 0, 1) := by decide +kernel
theorem dX1_add_2 : decode cX1_add 2 = .ok (.putfield 23, 3) := by decide +kernel
theorem dX1_add_5 : decode cX1_add 5 = .ok (.iload_n 1, 1) := by decide +kernel
theorem dX1_add_6 : decode cX1_add 6 = .ok (.iconst 3, 1) := by decide +kernel
theorem dX1_add_7 : decode cX1_add 7 = .ok (.iload_n 2, 1) := by decide +kernel
theorem dX1_add_8 : decode cX1_add 8 = .ok (.iload_n 3, 1) := by decide +kernel
theorem dX1_add_9 : decode cX1_add 9 = .ok (.invokestatic 27, 3) := by decide +kernel
theorem dX1_add_12 : decode cX1_add 12 = .ok (.ifCond .ne 9, 3) := by decide +kernel
theorem dX1_add_15 : decode cX1_add 15 = .ok (.aload_n 0, 1) := by decide +kernel
theorem dX1_add_16 : decode cX1_add 16 = .ok (.iconst 1, 1) := by decide +kernel
theorem dX1_add_17 : decode cX1_add 17 = .ok (.invokevirtual 50, 3) := by decide +kernel
theorem dX1_add_20 : decode cX1_add 20 = .ok (.ireturn, 1) := by decide +kernel
theorem dX1_add_21 : decode cX1_add 21 = .ok (.aload_n 0, 1) := by decide +kernel
theorem dX1_add_22 : decode cX1_add 22 = .ok (.getfield 35, 3) := by decide +kernel
theorem dX1_add_25 : decode cX1_add 25 = .ok (.bipush 60, 2) := by decide +kernel
theorem dX1_add_27 : decode cX1_add 27 = .ok (.if_icmp .ne 9, 3) := by decide +kernel
theorem dX1_add_30 : decode cX1_add 30 = .ok (.aload_n 0, 1) := by decide +kernel
theorem dX1_add_31 : decode cX1_add 31 = .ok (.iconst 2, 1) := by decide +kernel
theorem dX1_add_32 : decode cX1_add 32 = .ok (.invokevirtual 50, 3) := by decide +kernel
theorem dX1_add_35 : decode cX1_add 35 = .ok (.ireturn, 1) := by decide +kernel
theorem dX1_add_36 : decode cX1_add 36 = .ok (.aload_n 0, 1) := by decide +kernel
theorem dX1_add_37 : decode cX1_add 37 = .ok (.getfield 13, 3) := by decide +kernel
theorem dX1_add_40 : decode cX1_add 40 = .ok (.aload_n 0, 1) := by decide +kernel
theorem dX1_add_41 : decode cX1_add 41 = .ok (.getfield 35, 3) := by decide +kernel
theorem dX1_add_44 : decode cX1_add 44 = .ok (.iload_n 1, 1) := by decide +kernel
theorem dX1_add_45 : decode cX1_add 45 = .ok (.iastore, 1) := by decide +kernel
theorem dX1_add_46 : decode cX1_add 46 = .ok (.aload_n 0, 1) := by decide +kernel
theorem dX1_add_47 : decode cX1_add 47 = .ok (.getfield 17, 3) := by decide +kernel
theorem dX1_add_50 : decode cX1_add 50 = .ok (.aload_n 0, 1) := by decide +kernel
theorem dX1_add_51 : decode cX1_add 51 = .ok (.getfield 35, 3) := by decide +kernel
theorem dX1_add_54 : decode cX1_add 54 = .ok (.iload_n 2, 1) := by decide +kernel
theorem dX1_add_55 : decode cX1_add 55 = .ok (.iastore, 1) := by decide +kernel
theorem dX1_add_56 : decode cX1_add 56 = .ok (.aload_n 0, 1) := by decide +kernel
theorem dX1_add_57 : decode cX1_add 57 = .ok (.getfield 20, 3) := by decide +kernel
theorem dX1_add_60 : decode cX1_add 60 = .ok (.aload_n 0, 1) := by decide +kernel
theorem dX1_add_61 : decode cX1_add 61 = .ok (.getfield 35, 3) := by decide +kernel
theorem dX1_add_64 : decode cX1_add 64 = .ok (.iload_n 3, 1) := by decide +kernel
theorem dX1_add_65 : decode cX1_add 65 = .ok (.iastore, 1) := by decide +kernel
theorem dX1_add_66 : decode cX1_add 66 = .ok (.aload_n 0, 1) := by decide +kernel
theorem dX1_add_67 : decode cX1_add 67 = .ok (.dup, 1) := by decide +kernel
theorem dX1_add_68 : decode cX1_add 68 = .ok (.getfield 35, 3) := by decide +kernel
theorem dX1_add_71 : decode cX1_add 71 = .ok (.iconst 1, 1) := by decide +kernel
theorem dX1_add_72 : decode cX1_add 72 = .ok (.iadd, 1) := by decide +kernel
theorem dX1_add_73 : decode cX1_add 73 = .ok (.putfield 35, 3) := by decide +kernel
theorem dX1_add_76 : decode cX1_add 76 = .ok (.aload_n 0, 1) := by decide +kernel
theorem dX1_add_77 : decode cX1_add 77 = .ok (.aload_n 0, 1) := by decide +kernel
theorem dX1_add_78 : decode cX1_add 78 = .ok (.getfield 35, 3) := by decide +kernel
theorem dX1_add_81 : decode cX1_add 81 = .ok (.iconst 1, 1) := by decide +kernel
theorem dX1_add_82 : decode cX1_add 82 = .ok (.isub, 1) := by decide +kernel
theorem dX1_add_83 : decode cX1_add 83 = .ok (.invokevirtual 53, 3) := by decide +kernel
theorem dX1_add_86 : decode cX1_add 86 = .ok (.istore 4, 2) := by decide +kernel
theorem dX1_add_88 : decode cX1_add 88 = .ok (.iload 4, 2) := by decide +kernel
theorem dX1_add_90 : decode cX1_add 90 = .ok (.aload_n 0, 1) := by decide +kernel
theorem dX1_add_91 : decode cX1_add 91 = .ok (.aload_n 0, 1) := by decide +kernel
theorem dX1_add_92 : decode cX1_add 92 = .ok (.getfield 35, 3) := by decide +kernel
theorem dX1_add_95 : decode cX1_add 95 = .ok (.iconst 1, 1) := by decide +kernel
theorem dX1_add_96 : decode cX1_add 96 = .ok (.isub, 1) := by decide +kernel
theorem dX1_add_97 : decode cX1_add 97 = .ok (.invokevirtual 46, 3) := by decide +kernel
theorem dX1_add_100 : decode cX1_add 100 = .ok (.iconst 4, 1) := by decide +kernel
theorem dX1_add_101 : decode cX1_add 101 = .ok (.invokestatic 42, 3) := by decide +kernel
theorem dX1_add_104 : decode cX1_add 104 = .ok (.iadd, 1) := by decide +kernel
theorem dX1_add_105 : decode cX1_add 105 = .ok (.ldc 56, 2) := by decide +kernel
theorem dX1_add_107 : decode cX1_add 107 = .ok (.if_icmp .le 19, 3) := by decide +kernel
theorem dX1_add_110 : decode cX1_add 110 = .ok (.aload_n 0, 1) := by decide +kernel
theorem dX1_add_111 : decode cX1_add 111 = .ok (.dup, 1) := by decide +kernel
theorem dX1_add_112 : decode cX1_add 112 = .ok (.getfield 35, 3) := by decide +kernel
theorem dX1_add_115 : decode cX1_add 115 = .ok (.iconst 1, 1) := by decide +kernel
theorem dX1_add_116 : decode cX1_add 116 = .ok (.isub, 1) := by decide +kernel
theorem dX1_add_117 : decode cX1_add 117 = .ok (.putfield 35, 3) := by decide +kernel
theorem dX1_add_120 : decode cX1_add 120 = .ok (.aload_n 0, 1) := by decide +kernel
theorem dX1_add_121 : decode cX1_add 121 = .ok (.iconst 2, 1) := by decide +kernel
theorem dX1_add_122 : decode cX1_add 122 = .ok (.invokevirtual 50, 3) := by decide +kernel
theorem dX1_add_125 : decode cX1_add 125 = .ok (.ireturn, 1) := by decide +kernel
theorem dX1_add_126 : decode cX1_add 126 = .ok (.iload 4, 2) := by decide +kernel
theorem dX1_add_128 : decode cX1_add 128 = .ok (.ireturn, 1) := by decide +kernel
theorem dX1_area_0 : decode cX1_area 0 = .ok (.aload_n 0, 1) := by decide +kernel
theorem dX1_area_1 : decode cX1_area 1 = .ok (.aload_n 0, 1) := by decide +kernel
theorem dX1_area_2 : decode cX1_area 2 = .ok (.getfield 35, 3) := by decide +kernel
theorem dX1_area_5 : decode cX1_area 5 = .ok (.invokevirtual 53, 3) := by decide +kernel
theorem dX1_area_8 : decode cX1_area 8 = .ok (.bipush 8, 2) := by decide +kernel
theorem dX1_area_10 : decode cX1_area 10 = .ok (.invokestatic 42, 3) := by decide +kernel
theorem dX1_area_13 : decode cX1_area 13 = .ok (.istore_n 1, 1) := by decide +kernel
theorem dX1_area_14 : decode cX1_area 14 = .ok (.iload_n 1, 1) := by decide +kernel
theorem dX1_area_15 : decode cX1_area 15 = .ok (.bipush 16, 2) := by decide +kernel
theorem dX1_area_17 : decode cX1_area 17 = .ok (.if_icmp .ge 8, 3) := by decide +kernel
theorem dX1_area_20 : decode cX1_area 20 = .ok (.bipush 16, 2) := by decide +kernel
theorem dX1_area_22 : decode cX1_area 22 = .ok (.goto 4, 3) := by decide +kernel
theorem dX1_area_25 : decode cX1_area 25 = .ok (.iload_n 1, 1) := by decide +kernel
theorem dX1_area_26 : decode cX1_area 26 = .ok (.ireturn, 1) := by decide +kernel
theorem dX1_begin_0 : decode cX1_begin 0 = .ok (.aload_n 0, 1) := by decide +kernel
theorem dX1_begin_1 : decode cX1_begin 1 = .ok (.iconst 0, 1) := by decide +kernel
theorem dX1_begin_2 : decode cX1_begin 2 = .ok (.putfield 23, 3) := by decide +kernel
theorem dX1_begin_5 : decode cX1_begin 5 = .ok (.iload_n 1, 1) := by decide +kernel
theorem dX1_begin_6 : decode cX1_begin 6 = .ok (.iconst 4, 1) := by decide +kernel
theorem dX1_begin_7 : decode cX1_begin 7 = .ok (.iload_n 2, 1) := by decide +kernel
theorem dX1_begin_8 : decode cX1_begin 8 = .ok (.iload_n 3, 1) := by decide +kernel
theorem dX1_begin_9 : decode cX1_begin 9 = .ok (.invokestatic 27, 3) := by decide +kernel
theorem dX1_begin_12 : decode cX1_begin 12 = .ok (.ifCond .ne 9, 3) := by decide +kernel
theorem dX1_begin_15 : decode cX1_begin 15 = .ok (.aload_n 0, 1) := by decide +kernel
theorem dX1_begin_16 : decode cX1_begin 16 = .ok (.iconst 1, 1) := by decide +kernel
theorem dX1_begin_17 : decode cX1_begin 17 = .ok (.putfield 23, 3) := by decide +kernel
theorem dX1_begin_20 : decode cX1_begin 20 = .ok (.return_, 1) := by decide +kernel
theorem dX1_begin_21 : decode cX1_begin 21 = .ok (.aload_n 0, 1) := by decide +kernel
theorem dX1_begin_22 : decode cX1_begin 22 = .ok (.iload_n 1, 1) := by decide +kernel
theorem dX1_begin_23 : decode cX1_begin 23 = .ok (.putfield 9, 3) := by decide +kernel
theorem dX1_begin_26 : decode cX1_begin 26 = .ok (.aload_n 0, 1) := by decide +kernel
theorem dX1_begin_27 : decode cX1_begin 27 = .ok (.iload 4, 2) := by decide +kernel
theorem dX1_begin_29 : decode cX1_begin 29 = .ok (.putfield 31, 3) := by decide +kernel
theorem dX1_begin_32 : decode cX1_begin 32 = .ok (.aload_n 0, 1) := by decide +kernel
theorem dX1_begin_33 : decode cX1_begin 33 = .ok (.iconst 0, 1) := by decide +kernel
theorem dX1_begin_34 : decode cX1_begin 34 = .ok (.putfield 35, 3) := by decide +kernel
theorem dX1_begin_37 : decode cX1_begin 37 = .ok (.return_, 1) := by decide +kernel
theorem dX1_bytes_0 : decode cX1_bytes 0 = .ok (.aload_n 0, 1) := by decide +kernel
theorem dX1_bytes_1 : decode cX1_bytes 1 = .ok (.getfield 13, 3) := by decide +kernel
theorem dX1_bytes_4 : decode cX1_bytes 4 = .ok (.iload_n 1, 1) := by decide +kernel
theorem dX1_bytes_5 : decode cX1_bytes 5 = .ok (.iaload, 1) := by decide +kernel
theorem dX1_bytes_6 : decode cX1_bytes 6 = .ok (.iconst 2, 1) := by decide +kernel
theorem dX1_bytes_7 : decode cX1_bytes 7 = .ok (.if_icmp .ne 8, 3) := by decide +kernel
theorem dX1_bytes_10 : decode cX1_bytes 10 = .ok (.bipush 8, 2) := by decide +kernel
theorem dX1_bytes_12 : decode cX1_bytes 12 = .ok (.goto 23, 3) := by decide +kernel
theorem dX1_bytes_15 : decode cX1_bytes 15 = .ok (.aload_n 0, 1) := by decide +kernel
theorem dX1_bytes_16 : decode cX1_bytes 16 = .ok (.getfield 13, 3) := by decide +kernel
theorem dX1_bytes_19 : decode cX1_bytes 19 = .ok (.iload_n 1, 1) := by decide +kernel
theorem dX1_bytes_20 : decode cX1_bytes 20 = .ok (.iaload, 1) := by decide +kernel
theorem dX1_bytes_21 : decode cX1_bytes 21 = .ok (.iconst 3, 1) := by decide +kernel
theorem dX1_bytes_22 : decode cX1_bytes 22 = .ok (.if_icmp .ne 12, 3) := by decide +kernel
theorem dX1_bytes_25 : decode cX1_bytes 25 = .ok (.aload_n 0, 1) := by decide +kernel
theorem dX1_bytes_26 : decode cX1_bytes 26 = .ok (.getfield 17, 3) := by decide +kernel
theorem dX1_bytes_29 : decode cX1_bytes 29 = .ok (.iload_n 1, 1) := by decide +kernel
theorem dX1_bytes_30 : decode cX1_bytes 30 = .ok (.iaload, 1) := by decide +kernel
theorem dX1_bytes_31 : decode cX1_bytes 31 = .ok (.goto 4, 3) := by decide +kernel
theorem dX1_bytes_34 : decode cX1_bytes 34 = .ok (.iconst 4, 1) := by decide +kernel
theorem dX1_bytes_35 : decode cX1_bytes 35 = .ok (.ireturn, 1) := by decide +kernel
theorem dX1_call_0 : decode cX1_call 0 = .ok (.aload_n 0, 1) := by decide +kernel
theorem dX1_call_1 : decode cX1_call 1 = .ok (.iconst 0, 1) := by decide +kernel
theorem dX1_call_2 : decode cX1_call 2 = .ok (.putfield 23, 3) := by decide +kernel
theorem dX1_call_5 : decode cX1_call 5 = .ok (.aload_n 0, 1) := by decide +kernel
theorem dX1_call_6 : decode cX1_call 6 = .ok (.dup, 1) := by decide +kernel
theorem dX1_call_7 : decode cX1_call 7 = .ok (.getfield 70, 3) := by decide +kernel
theorem dX1_call_10 : decode cX1_call 10 = .ok (.iconst 1, 1) := by decide +kernel
theorem dX1_call_11 : decode cX1_call 11 = .ok (.iadd, 1) := by decide +kernel
theorem dX1_call_12 : decode cX1_call 12 = .ok (.putfield 70, 3) := by decide +kernel
theorem dX1_call_15 : decode cX1_call 15 = .ok (.aload_n 0, 1) := by decide +kernel
theorem dX1_call_16 : decode cX1_call 16 = .ok (.invokevirtual 66, 3) := by decide +kernel
theorem dX1_call_19 : decode cX1_call 19 = .ok (.aload_n 0, 1) := by decide +kernel
theorem dX1_call_20 : decode cX1_call 20 = .ok (.getfield 73, 3) := by decide +kernel
theorem dX1_call_23 : decode cX1_call 23 = .ok (.if_icmp .le 11, 3) := by decide +kernel
theorem dX1_call_26 : decode cX1_call 26 = .ok (.aload_n 0, 1) := by decide +kernel
theorem dX1_call_27 : decode cX1_call 27 = .ok (.aload_n 0, 1) := by decide +kernel
theorem dX1_call_28 : decode cX1_call 28 = .ok (.invokevirtual 66, 3) := by decide +kernel
theorem dX1_call_31 : decode cX1_call 31 = .ok (.putfield 73, 3) := by decide +kernel
theorem dX1_call_34 : decode cX1_call 34 = .ok (.aload_n 0, 1) := by decide +kernel
theorem dX1_call_35 : decode cX1_call 35 = .ok (.getfield 73, 3) := by decide +kernel
theorem dX1_call_38 : decode cX1_call 38 = .ok (.ireturn, 1) := by decide +kernel
theorem dX1_clear_0 : decode cX1_clear 0 = .ok (.aload_n 0, 1) := by decide +kernel
theorem dX1_clear_1 : decode cX1_clear 1 = .ok (.iconst 0, 1) := by decide +kernel
theorem dX1_clear_2 : decode cX1_clear 2 = .ok (.putfield 23, 3) := by decide +kernel
theorem dX1_clear_5 : decode cX1_clear 5 = .ok (.aload_n 0, 1) := by decide +kernel
theorem dX1_clear_6 : decode cX1_clear 6 = .ok (.getfield 70, 3) := by decide +kernel
theorem dX1_clear_9 : decode cX1_clear 9 = .ok (.istore_n 1, 1) := by decide +kernel
theorem dX1_clear_10 : decode cX1_clear 10 = .ok (.aload_n 0, 1) := by decide +kernel
theorem dX1_clear_11 : decode cX1_clear 11 = .ok (.iconst 0, 1) := by decide +kernel
theorem dX1_clear_12 : decode cX1_clear 12 = .ok (.putfield 70, 3) := by decide +kernel
theorem dX1_clear_15 : decode cX1_clear 15 = .ok (.aload_n 0, 1) := by decide +kernel
theorem dX1_clear_16 : decode cX1_clear 16 = .ok (.iconst 0, 1) := by decide +kernel
theorem dX1_clear_17 : decode cX1_clear 17 = .ok (.putfield 73, 3) := by decide +kernel
theorem dX1_clear_20 : decode cX1_clear 20 = .ok (.aload_n 0, 1) := by decide +kernel
theorem dX1_clear_21 : decode cX1_clear 21 = .ok (.iconst 0, 1) := by decide +kernel
theorem dX1_clear_22 : decode cX1_clear 22 = .ok (.putfield 76, 3) := by decide +kernel
theorem dX1_clear_25 : decode cX1_clear 25 = .ok (.aload_n 0, 1) := by decide +kernel
theorem dX1_clear_26 : decode cX1_clear 26 = .ok (.iconst 0, 1) := by decide +kernel
theorem dX1_clear_27 : decode cX1_clear 27 = .ok (.putfield 79, 3) := by decide +kernel
theorem dX1_clear_30 : decode cX1_clear 30 = .ok (.aload_n 0, 1) := by decide +kernel
theorem dX1_clear_31 : decode cX1_clear 31 = .ok (.iconst 0, 1) := by decide +kernel
theorem dX1_clear_32 : decode cX1_clear 32 = .ok (.putfield 95, 3) := by decide +kernel
theorem dX1_clear_35 : decode cX1_clear 35 = .ok (.aload_n 0, 1) := by decide +kernel
theorem dX1_clear_36 : decode cX1_clear 36 = .ok (.iconst 0, 1) := by decide +kernel
theorem dX1_clear_37 : decode cX1_clear 37 = .ok (.putfield 85, 3) := by decide +kernel
theorem dX1_clear_40 : decode cX1_clear 40 = .ok (.iload_n 1, 1) := by decide +kernel
theorem dX1_clear_41 : decode cX1_clear 41 = .ok (.ireturn, 1) := by decide +kernel
