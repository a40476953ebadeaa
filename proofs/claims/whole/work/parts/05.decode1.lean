theorem dJ0_bitCount_0 : decode cJ0_bitCount 0 = .ok (.iload_n 0, 1) := by decide +kernel
theorem dJ0_bitCount_1 : decode cJ0_bitCount 1 = .ok (.iload_n 0, 1) := by decide +kernel
theorem dJ0_bitCount_2 : decode cJ0_bitCount 2 = .ok (.iconst 1, 1) := by decide +kernel
theorem dJ0_bitCount_3 : decode cJ0_bitCount 3 = .ok (.iushr, 1) := by decide +kernel
theorem dJ0_bitCount_4 : decode cJ0_bitCount 4 = .ok (.ldc_w 265, 3) := by decide +kernel
theorem dJ0_bitCount_7 : decode cJ0_bitCount 7 = .ok (.iand, 1) := by decide +kernel
theorem dJ0_bitCount_8 : decode cJ0_bitCount 8 = .ok (.isub, 1) := by decide +kernel
theorem dJ0_bitCount_9 : decode cJ0_bitCount 9 = .ok (.istore_n 0, 1) := by decide +kernel
theorem dJ0_bitCount_10 : decode cJ0_bitCount 10 = .ok (.iload_n 0, 1) := by decide +kernel
theorem dJ0_bitCount_11 : decode cJ0_bitCount 11 = .ok (.ldc_w 266, 3) := by decide +kernel
theorem dJ0_bitCount_14 : decode cJ0_bitCount 14 = .ok (.iand, 1) := by decide +kernel
theorem dJ0_bitCount_15 : decode cJ0_bitCount 15 = .ok (.iload_n 0, 1) := by decide +kernel
theorem dJ0_bitCount_16 : decode cJ0_bitCount 16 = .ok (.iconst 2, 1) := by decide +kernel
theorem dJ0_bitCount_17 : decode cJ0_bitCount 17 = .ok (.iushr, 1) := by decide +kernel
theorem dJ0_bitCount_18 : decode cJ0_bitCount 18 = .ok (.ldc_w 266, 3) := by decide +kernel
theorem dJ0_bitCount_21 : decode cJ0_bitCount 21 = .ok (.iand, 1) := by decide +kernel
theorem dJ0_bitCount_22 : decode cJ0_bitCount 22 = .ok (.iadd, 1) := by decide +kernel
theorem dJ0_bitCount_23 : decode cJ0_bitCount 23 = .ok (.istore_n 0, 1) := by decide +kernel
theorem dJ0_bitCount_24 : decode cJ0_bitCount 24 = .ok (.iload_n 0, 1) := by decide +kernel
theorem dJ0_bitCount_25 : decode cJ0_bitCount 25 = .ok (.iload_n 0, 1) := by decide +kernel
theorem dJ0_bitCount_26 : decode cJ0_bitCount 26 = .ok (.iconst 4, 1) := by decide +kernel
theorem dJ0_bitCount_27 : decode cJ0_bitCount 27 = .ok (.iushr, 1) := by decide +kernel
theorem dJ0_bitCount_28 : decode cJ0_bitCount 28 = .ok (.iadd, 1) := by decide +kernel
theorem dJ0_bitCount_29 : decode cJ0_bitCount 29 = .ok (.ldc_w 267, 3) := by decide +kernel
theorem dJ0_bitCount_32 : decode cJ0_bitCount 32 = .ok (.iand, 1) := by decide +kernel
theorem dJ0_bitCount_33 : decode cJ0_bitCount 33 = .ok (.istore_n 0, 1) := by decide +kernel
theorem dJ0_bitCount_34 : decode cJ0_bitCount 34 = .ok (.iload_n 0, 1) := by decide +kernel
theorem dJ0_bitCount_35 : decode cJ0_bitCount 35 = .ok (.iload_n 0, 1) := by decide +kernel
theorem dJ0_bitCount_36 : decode cJ0_bitCount 36 = .ok (.bipush 8, 2) := by decide +kernel
theorem dJ0_bitCount_38 : decode cJ0_bitCount 38 = .ok (.iushr, 1) := by decide +kernel
theorem dJ0_bitCount_39 : decode cJ0_bitCount 39 = .ok (.iadd, 1) := by decide +kernel
theorem dJ0_bitCount_40 : decode cJ0_bitCount 40 = .ok (.istore_n 0, 1) := by decide +kernel
theorem dJ0_bitCount_41 : decode cJ0_bitCount 41 = .ok (.iload_n 0, 1) := by decide +kernel
theorem dJ0_bitCount_42 : decode cJ0_bitCount 42 = .ok (.iload_n 0, 1) := by decide +kernel
theorem dJ0_bitCount_43 : decode cJ0_bitCount 43 = .ok (.bipush 16, 2) := by decide +kernel
theorem dJ0_bitCount_45 : decode cJ0_bitCount 45 = .ok (.iushr, 1) := by decide +kernel
theorem dJ0_bitCount_46 : decode cJ0_bitCount 46 = .ok (.iadd, 1) := by decide +kernel
theorem dJ0_bitCount_47 : decode cJ0_bitCount 47 = .ok (.istore_n 0, 1) := by decide +kernel
theorem dJ0_bitCount_48 : decode cJ0_bitCount 48 = .ok (.iload_n 0, 1) := by decide +kernel
theorem dJ0_bitCount_49 : decode cJ0_bitCount 49 = .ok (.bipush 63, 2) := by decide +kernel
theorem dJ0_bitCount_51 : decode cJ0_bitCount 51 = .ok (.iand, 1) := by decide +kernel
theorem dJ0_bitCount_52 : decode cJ0_bitCount 52 = .ok (.ireturn, 1) := by decide +kernel
theorem dL_about_0 : decode cL_about 0 = .ok (.aload_n 3, 1) := by decide +kernel
theorem dL_about_1 : decode cL_about 1 = .ok (.iconst 0, 1) := by decide +kernel
theorem dL_about_2 : decode cL_about 2 = .ok (.aload_n 0, 1) := by decide +kernel
theorem dL_about_3 : decode cL_about 3 = .ok (.iload_n 1, 1) := by decide +kernel
theorem dL_about_4 : decode cL_about 4 = .ok (.iload_n 2, 1) := by decide +kernel
theorem dL_about_5 : decode cL_about 5 = .ok (.invokevirtual 27, 3) := by decide +kernel
theorem dL_about_8 : decode cL_about 8 = .ok (.i2l, 1) := by decide +kernel
theorem dL_about_9 : decode cL_about 9 = .ok (.lastore, 1) := by decide +kernel
theorem dL_about_10 : decode cL_about 10 = .ok (.goto 7, 3) := by decide +kernel
theorem dL_about_13 : decode cL_about 13 = .ok (.astore 4, 2) := by decide +kernel
theorem dL_about_15 : decode cL_about 15 = .ok (.iconst 1, 1) := by decide +kernel
theorem dL_about_16 : decode cL_about 16 = .ok (.ireturn, 1) := by decide +kernel
theorem dL_about_17 : decode cL_about 17 = .ok (.iconst 0, 1) := by decide +kernel
theorem dL_about_18 : decode cL_about 18 = .ok (.ireturn, 1) := by decide +kernel
theorem dL_add_0 : decode cL_add 0 = .ok (.aload 4, 2) := by decide +kernel
theorem dL_add_2 : decode cL_add 2 = .ok (.iconst 0, 1) := by decide +kernel
theorem dL_add_3 : decode cL_add 3 = .ok (.aload_n 0, 1) := by decide +kernel
theorem dL_add_4 : decode cL_add 4 = .ok (.iload_n 1, 1) := by decide +kernel
theorem dL_add_5 : decode cL_add 5 = .ok (.iload_n 2, 1) := by decide +kernel
theorem dL_add_6 : decode cL_add 6 = .ok (.iload_n 3, 1) := by decide +kernel
theorem dL_add_7 : decode cL_add 7 = .ok (.invokevirtual 15, 3) := by decide +kernel
theorem dL_add_10 : decode cL_add 10 = .ok (.i2l, 1) := by decide +kernel
theorem dL_add_11 : decode cL_add 11 = .ok (.lastore, 1) := by decide +kernel
theorem dL_add_12 : decode cL_add 12 = .ok (.goto 11, 3) := by decide +kernel
theorem dL_add_15 : decode cL_add 15 = .ok (.astore 5, 2) := by decide +kernel
theorem dL_add_17 : decode cL_add 17 = .ok (.iconst 1, 1) := by decide +kernel
theorem dL_add_18 : decode cL_add 18 = .ok (.ireturn, 1) := by decide +kernel
theorem dL_add_19 : decode cL_add 19 = .ok (.astore 5, 2) := by decide +kernel
theorem dL_add_21 : decode cL_add 21 = .ok (.iconst 2, 1) := by decide +kernel
theorem dL_add_22 : decode cL_add 22 = .ok (.ireturn, 1) := by decide +kernel
theorem dL_add_23 : decode cL_add 23 = .ok (.iconst 0, 1) := by decide +kernel
theorem dL_add_24 : decode cL_add 24 = .ok (.ireturn, 1) := by decide +kernel
theorem dL_begin_0 : decode cL_begin 0 = .ok (.aload_n 0, 1) := by decide +kernel
theorem dL_begin_1 : decode cL_begin 1 = .ok (.iload_n 1, 1) := by decide +kernel
theorem dL_begin_2 : decode cL_begin 2 = .ok (.iload_n 2, 1) := by decide +kernel
theorem dL_begin_3 : decode cL_begin 3 = .ok (.iload_n 3, 1) := by decide +kernel
theorem dL_begin_4 : decode cL_begin 4 = .ok (.iload 4, 2) := by decide +kernel
theorem dL_begin_6 : decode cL_begin 6 = .ok (.invokevirtual 7, 3) := by decide +kernel
theorem dL_begin_9 : decode cL_begin 9 = .ok (.goto 7, 3) := by decide +kernel
theorem dL_begin_12 : decode cL_begin 12 = .ok (.astore 5, 2) := by decide +kernel
theorem dL_begin_14 : decode cL_begin 14 = .ok (.iconst 1, 1) := by decide +kernel
theorem dL_begin_15 : decode cL_begin 15 = .ok (.ireturn, 1) := by decide +kernel
theorem dL_begin_16 : decode cL_begin 16 = .ok (.iconst 0, 1) := by decide +kernel
theorem dL_begin_17 : decode cL_begin 17 = .ok (.ireturn, 1) := by decide +kernel
theorem dL_frame_0 : decode cL_frame 0 = .ok (.aload 4, 2) := by decide +kernel
theorem dL_frame_2 : decode cL_frame 2 = .ok (.iconst 0, 1) := by decide +kernel
theorem dL_frame_3 : decode cL_frame 3 = .ok (.aload_n 0, 1) := by decide +kernel
theorem dL_frame_4 : decode cL_frame 4 = .ok (.iload_n 1, 1) := by decide +kernel
theorem dL_frame_5 : decode cL_frame 5 = .ok (.iload_n 2, 1) := by decide +kernel
theorem dL_frame_6 : decode cL_frame 6 = .ok (.iload_n 3, 1) := by decide +kernel
theorem dL_frame_7 : decode cL_frame 7 = .ok (.invokevirtual 34, 3) := by decide +kernel
theorem dL_frame_10 : decode cL_frame 10 = .ok (.i2l, 1) := by decide +kernel
theorem dL_frame_11 : decode cL_frame 11 = .ok (.lastore, 1) := by decide +kernel
theorem dL_frame_12 : decode cL_frame 12 = .ok (.goto 7, 3) := by decide +kernel
theorem dL_frame_15 : decode cL_frame 15 = .ok (.astore 5, 2) := by decide +kernel
theorem dL_frame_17 : decode cL_frame 17 = .ok (.iconst 1, 1) := by decide +kernel
theorem dL_frame_18 : decode cL_frame 18 = .ok (.ireturn, 1) := by decide +kernel
theorem dL_frame_19 : decode cL_frame 19 = .ok (.iconst 0, 1) := by decide +kernel
theorem dL_frame_20 : decode cL_frame 20 = .ok (.ireturn, 1) := by decide +kernel
theorem dL_place_0 : decode cL_place 0 = .ok (.aload_n 3, 1) := by decide +kernel
theorem dL_place_1 : decode cL_place 1 = .ok (.iconst 0, 1) := by decide +kernel
theorem dL_place_2 : decode cL_place 2 = .ok (.aload_n 0, 1) := by decide +kernel
theorem dL_place_3 : decode cL_place 3 = .ok (.iload_n 1, 1) := by decide +kernel
theorem dL_place_4 : decode cL_place 4 = .ok (.iload_n 2, 1) := by decide +kernel
theorem dL_place_5 : decode cL_place 5 = .ok (.invokevirtual 37, 3) := by decide +kernel
theorem dL_place_8 : decode cL_place 8 = .ok (.i2l, 1) := by decide +kernel
theorem dL_place_9 : decode cL_place 9 = .ok (.lastore, 1) := by decide +kernel
theorem dL_place_10 : decode cL_place 10 = .ok (.goto 7, 3) := by decide +kernel
theorem dL_place_13 : decode cL_place 13 = .ok (.astore 4, 2) := by decide +kernel
theorem dL_place_15 : decode cL_place 15 = .ok (.iconst 1, 1) := by decide +kernel
theorem dL_place_16 : decode cL_place 16 = .ok (.ireturn, 1) := by decide +kernel
theorem dL_place_17 : decode cL_place 17 = .ok (.iconst 0, 1) := by decide +kernel
theorem dL_place_18 : decode cL_place 18 = .ok (.ireturn, 1) := by decide +kernel
theorem dL_signature_0 : decode cL_signature 0 = .ok (.aload_n 2, 1) := by decide +kernel
theorem dL_signature_1 : decode cL_signature 1 = .ok (.iconst 0, 1) := by decide +kernel
theorem dL_signature_2 : decode cL_signature 2 = .ok (.aload_n 0, 1) := by decide +kernel
theorem dL_signature_3 : decode cL_signature 3 = .ok (.iload_n 1, 1) := by decide +kernel
theorem dL_signature_4 : decode cL_signature 4 = .ok (.invokevirtual 30, 3) := by decide +kernel
theorem dL_signature_7 : decode cL_signature 7 = .ok (.i2l, 1) := by decide +kernel
theorem dL_signature_8 : decode cL_signature 8 = .ok (.lastore, 1) := by decide +kernel
theorem dL_signature_9 : decode cL_signature 9 = .ok (.goto 6, 3) := by decide +kernel
theorem dL_signature_12 : decode cL_signature 12 = .ok (.astore_n 3, 1) := by decide +kernel
theorem dL_signature_13 : decode cL_signature 13 = .ok (.iconst 1, 1) := by decide +kernel
theorem dL_signature_14 : decode cL_signature 14 = .ok (.ireturn, 1) := by decide +kernel
theorem dL_signature_15 : decode cL_signature 15 = .ok (.iconst 0, 1) := by decide +kernel
theorem dL_signature_16 : decode cL_signature 16 = .ok (.ireturn, 1) := by decide +kernel
theorem dL_where_0 : decode cL_where 0 = .ok (.aload_n 3, 1) := by decide +kernel
theorem dL_where_1 : decode cL_where 1 = .ok (.iconst 0, 1) := by decide +kernel
theorem dL_where_2 : decode cL_where 2 = .ok (.aload_n 0, 1) := by decide +kernel
theorem dL_where_3 : decode cL_where 3 = .ok (.iload_n 1, 1) := by decide +kernel
theorem dL_where_4 : decode cL_where 4 = .ok (.iload_n 2, 1) := by decide +kernel
theorem dL_where_5 : decode cL_where 5 = .ok (.invokevirtual 21, 3) := by decide +kernel
theorem dL_where_8 : decode cL_where 8 = .ok (.i2l, 1) := by decide +kernel
theorem dL_where_9 : decode cL_where 9 = .ok (.lastore, 1) := by decide +kernel
theorem dL_where_10 : decode cL_where 10 = .ok (.goto 7, 3) := by decide +kernel
theorem dL_where_13 : decode cL_where 13 = .ok (.astore 4, 2) := by decide +kernel
theorem dL_where_15 : decode cL_where 15 = .ok (.iconst 1, 1) := by decide +kernel
theorem dL_where_16 : decode cL_where 16 = .ok (.ireturn, 1) := by decide +kernel
theorem dL_where_17 : decode cL_where 17 = .ok (.iconst 0, 1) := by decide +kernel
theorem dL_where_18 : decode cL_where 18 = .ok (.ireturn, 1) := by decide +kernel
theorem dX0_about_0 : decode cX0_about 0 = .ok (.aload_n 0, 1) := by decide +kernel
theorem dX0_about_1 : decode cX0_about 1 = .ok (.iload_n 1, 1) := by decide +kernel
theorem dX0_about_2 : decode cX0_about 2 = .ok (.invokevirtual 87, 3) := by decide +kernel
theorem dX0_about_5 : decode cX0_about 5 = .ok (.ifCond .ne 13, 3) := by decide +kernel
theorem dX0_about_8 : decode cX0_about 8 = .ok (.new 91, 3) := by decide +kernel
theorem dX0_about_11 : decode cX0_about 11 = .ok (.dup, 1) := by decide +kernel
theorem dX0_about_12 : decode cX0_about 12 = .ok (.ldc 93, 2) := by decide +kernel
theorem dX0_about_14 : decode cX0_about 14 = .ok (.invokespecial 95, 3) := by decide +kernel
theorem dX0_about_17 : decode cX0_about 17 = .ok (.athrow, 1) := by decide +kernel
theorem dX0_about_18 : decode cX0_about 18 = .ok (.iload_n 2, 1) := by decide +kernel
theorem dX0_about_19 : decode cX0_about 19 = .ok (.tableswitch 43 0 2 #[25, 31, 37], 25) := by decide +kernel
theorem dX0_about_44 : decode cX0_about 44 = .ok (.aload_n 0, 1) := by decide +kernel
theorem dX0_about_45 : decode cX0_about 45 = .ok (.iload_n 1, 1) := by decide +kernel
theorem dX0_about_46 : decode cX0_about 46 = .ok (.invokevirtual 108, 3) := by decide +kernel
theorem dX0_about_49 : decode cX0_about 49 = .ok (.ireturn, 1) := by decide +kernel
theorem dX0_about_50 : decode cX0_about 50 = .ok (.aload_n 0, 1) := by decide +kernel
theorem dX0_about_51 : decode cX0_about 51 = .ok (.iload_n 1, 1) := by decide +kernel
theorem dX0_about_52 : decode cX0_about 52 = .ok (.invokevirtual 114, 3) := by decide +kernel
theorem dX0_about_55 : decode cX0_about 55 = .ok (.ireturn, 1) := by decide +kernel
theorem dX0_about_56 : decode cX0_about 56 = .ok (.aload_n 0, 1) := by decide +kernel
theorem dX0_about_57 : decode cX0_about 57 = .ok (.iload_n 1, 1) := by decide +kernel
theorem dX0_about_58 : decode cX0_about 58 = .ok (.invokevirtual 96, 3) := by decide +kernel
theorem dX0_about_61 : decode cX0_about 61 = .ok (.ireturn, 1) := by decide +kernel
theorem dX0_about_62 : decode cX0_about 62 = .ok (.new 91, 3) := by decide +kernel
theorem dX0_about_65 : decode cX0_about 65 = .ok (.dup, 1) := by decide +kernel
theorem dX0_about_66 : decode cX0_about 66 = .ok (.ldc 117, 2) := by decide +kernel
theorem dX0_about_68 : decode cX0_about 68 = .ok (.invokespecial 95, 3) := by decide +kernel
theorem dX0_about_71 : decode cX0_about 71 = .ok (.athrow, 1) := by decide +kernel
theorem dX0_add_0 : decode cX0_add 0 = .ok (.iload_n 1, 1) := by decide +kernel
theorem dX0_add_1 : decode cX0_add 1 = .ok (.ifCond .lt 8, 3) := by decide +kernel
theorem dX0_add_4 : decode cX0_add 4 = .ok (.iload_n 1, 1) := by decide +kernel
theorem dX0_add_5 : decode cX0_add 5 = .ok (.iconst 3, 1) := by decide +kernel
theorem dX0_add_6 : decode cX0_add 6 = .ok (.if_icmp .le 13, 3) := by decide +kernel
theorem dX0_add_9 : decode cX0_add 9 = .ok (.new 54, 3) := by decide +kernel
theorem dX0_add_12 : decode cX0_add 12 = .ok (.dup, 1) := by decide +kernel
theorem dX0_add_13 : decode cX0_add 13 = .ok (.ldc 67, 2) := by decide +kernel
theorem dX0_add_15 : decode cX0_add 15 = .ok (.invokespecial 58, 3) := by decide +kernel
theorem dX0_add_18 : decode cX0_add 18 = .ok (.athrow, 1) := by decide +kernel
theorem dX0_add_19 : decode cX0_add 19 = .ok (.iload_n 1, 1) := by decide +kernel
theorem dX0_add_20 : decode cX0_add 20 = .ok (.iconst 3, 1) := by decide +kernel
theorem dX0_add_21 : decode cX0_add 21 = .ok (.if_icmp .ne 21, 3) := by decide +kernel
theorem dX0_add_24 : decode cX0_add 24 = .ok (.iload_n 2, 1) := by decide +kernel
theorem dX0_add_25 : decode cX0_add 25 = .ok (.iload_n 3, 1) := by decide +kernel
theorem dX0_add_26 : decode cX0_add 26 = .ok (.invokestatic 61, 3) := by decide +kernel
theorem dX0_add_29 : decode cX0_add 29 = .ok (.ifCond .ne 13, 3) := by decide +kernel
theorem dX0_add_32 : decode cX0_add 32 = .ok (.new 54, 3) := by decide +kernel
theorem dX0_add_35 : decode cX0_add 35 = .ok (.dup, 1) := by decide +kernel
theorem dX0_add_36 : decode cX0_add 36 = .ok (.ldc 65, 2) := by decide +kernel
theorem dX0_add_38 : decode cX0_add 38 = .ok (.invokespecial 58, 3) := by decide +kernel
theorem dX0_add_41 : decode cX0_add 41 = .ok (.athrow, 1) := by decide +kernel
theorem dX0_add_42 : decode cX0_add 42 = .ok (.aload_n 0, 1) := by decide +kernel
theorem dX0_add_43 : decode cX0_add 43 = .ok (.getfield 19, 3) := by decide +kernel
theorem dX0_add_46 : decode cX0_add 46 = .ok (.ifCond .lt 12, 3) := by decide +kernel
theorem dX0_add_49 : decode cX0_add 49 = .ok (.aload_n 0, 1) := by decide +kernel
theorem dX0_add_50 : decode cX0_add 50 = .ok (.getfield 19, 3) := by decide +kernel
theorem dX0_add_53 : decode cX0_add 53 = .ok (.bipush 60, 2) := by decide +kernel
theorem dX0_add_55 : decode cX0_add 55 = .ok (.if_icmp .lt 13, 3) := by decide +kernel
theorem dX0_add_58 : decode cX0_add 58 = .ok (.new 69, 3) := by decide +kernel
theorem dX0_add_61 : decode cX0_add 61 = .ok (.dup, 1) := by decide +kernel
theorem dX0_add_62 : decode cX0_add 62 = .ok (.ldc 71, 2) := by decide +kernel
theorem dX0_add_64 : decode cX0_add 64 = .ok (.invokespecial 73, 3) := by decide +kernel
theorem dX0_add_67 : decode cX0_add 67 = .ok (.athrow, 1) := by decide +kernel
theorem dX0_add_68 : decode cX0_add 68 = .ok (.iload_n 1, 1) := by decide +kernel
theorem dX0_add_69 : decode cX0_add 69 = .ok (.iload_n 2, 1) := by decide +kernel
theorem dX0_add_70 : decode cX0_add 70 = .ok (.invokestatic 74, 3) := by decide +kernel
theorem dX0_add_73 : decode cX0_add 73 = .ok (.istore 4, 2) := by decide +kernel
theorem dX0_add_75 : decode cX0_add 75 = .ok (.aload_n 0, 1) := by decide +kernel
theorem dX0_add_76 : decode cX0_add 76 = .ok (.getfield 30, 3) := by decide +kernel
theorem dX0_add_79 : decode cX0_add 79 = .ok (.iload_n 1, 1) := by decide +kernel
theorem dX0_add_80 : decode cX0_add 80 = .ok (.iload_n 3, 1) := by decide +kernel
theorem dX0_add_81 : decode cX0_add 81 = .ok (.invokestatic 78, 3) := by decide +kernel
theorem dX0_add_84 : decode cX0_add 84 = .ok (.invokestatic 81, 3) := by decide +kernel
theorem dX0_add_87 : decode cX0_add 87 = .ok (.istore 5, 2) := by decide +kernel
theorem dX0_add_89 : decode cX0_add 89 = .ok (.iload 5, 2) := by decide +kernel
theorem dX0_add_91 : decode cX0_add 91 = .ok (.iload 4, 2) := by decide +kernel
theorem dX0_add_93 : decode cX0_add 93 = .ok (.iconst 4, 1) := by decide +kernel
theorem dX0_add_94 : decode cX0_add 94 = .ok (.invokestatic 81, 3) := by decide +kernel
theorem dX0_add_97 : decode cX0_add 97 = .ok (.iadd, 1) := by decide +kernel
theorem dX0_add_98 : decode cX0_add 98 = .ok (.istore 6, 2) := by decide +kernel
theorem dX0_add_100 : decode cX0_add 100 = .ok (.iload 6, 2) := by decide +kernel
theorem dX0_add_102 : decode cX0_add 102 = .ok (.ldc 84, 2) := by decide +kernel
theorem dX0_add_104 : decode cX0_add 104 = .ok (.if_icmp .le 13, 3) := by decide +kernel
theorem dX0_add_107 : decode cX0_add 107 = .ok (.new 69, 3) := by decide +kernel
theorem dX0_add_110 : decode cX0_add 110 = .ok (.dup, 1) := by decide +kernel
theorem dX0_add_111 : decode cX0_add 111 = .ok (.ldc 85, 2) := by decide +kernel
theorem dX0_add_113 : decode cX0_add 113 = .ok (.invokespecial 73, 3) := by decide +kernel
theorem dX0_add_116 : decode cX0_add 116 = .ok (.athrow, 1) := by decide +kernel
theorem dX0_add_117 : decode cX0_add 117 = .ok (.aload_n 0, 1) := by decide +kernel
theorem dX0_add_118 : decode cX0_add 118 = .ok (.getfield 9, 3) := by decide +kernel
theorem dX0_add_121 : decode cX0_add 121 = .ok (.aload_n 0, 1) := by decide +kernel
theorem dX0_add_122 : decode cX0_add 122 = .ok (.getfield 19, 3) := by decide +kernel
theorem dX0_add_125 : decode cX0_add 125 = .ok (.iload_n 1, 1) := by decide +kernel
theorem dX0_add_126 : decode cX0_add 126 = .ok (.iastore, 1) := by decide +kernel
theorem dX0_add_127 : decode cX0_add 127 = .ok (.aload_n 0, 1) := by decide +kernel
theorem dX0_add_128 : decode cX0_add 128 = .ok (.getfield 13, 3) := by decide +kernel
theorem dX0_add_131 : decode cX0_add 131 = .ok (.aload_n 0, 1) := by decide +kernel
theorem dX0_add_132 : decode cX0_add 132 = .ok (.getfield 19, 3) := by decide +kernel
theorem dX0_add_135 : decode cX0_add 135 = .ok (.iload 5, 2) := by decide +kernel
theorem dX0_add_137 : decode cX0_add 137 = .ok (.iastore, 1) := by decide +kernel
theorem dX0_add_138 : decode cX0_add 138 = .ok (.aload_n 0, 1) := by decide +kernel
theorem dX0_add_139 : decode cX0_add 139 = .ok (.getfield 16, 3) := by decide +kernel
theorem dX0_add_142 : decode cX0_add 142 = .ok (.aload_n 0, 1) := by decide +kernel
theorem dX0_add_143 : decode cX0_add 143 = .ok (.getfield 19, 3) := by decide +kernel
theorem dX0_add_146 : decode cX0_add 146 = .ok (.iload 4, 2) := by decide +kernel
theorem dX0_add_148 : decode cX0_add 148 = .ok (.iastore, 1) := by decide +kernel
theorem dX0_add_149 : decode cX0_add 149 = .ok (.aload_n 0, 1) := by decide +kernel
theorem dX0_add_150 : decode cX0_add 150 = .ok (.dup, 1) := by decide +kernel
theorem dX0_add_151 : decode cX0_add 151 = .ok (.getfield 19, 3) := by decide +kernel
theorem dX0_add_154 : decode cX0_add 154 = .ok (.iconst 1, 1) := by decide +kernel
theorem dX0_add_155 : decode cX0_add 155 = .ok (.iadd, 1) := by decide +kernel
theorem dX0_add_156 : decode cX0_add 156 = .ok (.putfield 19, 3) := by decide +kernel
theorem dX0_add_159 : decode cX0_add 159 = .ok (.aload_n 0, 1) := by decide +kernel
theorem dX0_add_160 : decode cX0_add 160 = .ok (.iload 6, 2) := by decide +kernel
theorem dX0_add_162 : decode cX0_add 162 = .ok (.putfield 30, 3) := by decide +kernel
theorem dX0_add_165 : decode cX0_add 165 = .ok (.iload 5, 2) := by decide +kernel
theorem dX0_add_167 : decode cX0_add 167 = .ok (.ireturn, 1) := by decide +kernel
theorem dX0_areaSize_0 : decode cX0_areaSize 0 = .ok (.aload_n 0, 1) := by decide +kernel
theorem dX0_areaSize_1 : decode cX0_areaSize 1 = .ok (.getfield 30, 3) := by decide +kernel
theorem dX0_areaSize_4 : decode cX0_areaSize 4 = .ok (.bipush 8, 2) := by decide +kernel
theorem dX0_areaSize_6 : decode cX0_areaSize 6 = .ok (.invokestatic 81, 3) := by decide +kernel
theorem dX0_areaSize_9 : decode cX0_areaSize 9 = .ok (.bipush 16, 2) := by decide +kernel
theorem dX0_areaSize_11 : decode cX0_areaSize 11 = .ok (.invokestatic 126, 3) := by decide +kernel
theorem dX0_areaSize_14 : decode cX0_areaSize 14 = .ok (.ireturn, 1) := by decide +kernel
theorem dX0_begin_0 : decode cX0_begin 0 = .ok (.iload_n 1, 1) := by decide +kernel
theorem dX0_begin_1 : decode cX0_begin 1 = .ok (.ifCond .lt 8, 3) := by decide +kernel
theorem dX0_begin_4 : decode cX0_begin 4 = .ok (.iload_n 1, 1) := by decide +kernel
theorem dX0_begin_5 : decode cX0_begin 5 = .ok (.iconst 4, 1) := by decide +kernel
theorem dX0_begin_6 : decode cX0_begin 6 = .ok (.if_icmp .le 13, 3) := by decide +kernel
theorem dX0_begin_9 : decode cX0_begin 9 = .ok (.new 54, 3) := by decide +kernel
theorem dX0_begin_12 : decode cX0_begin 12 = .ok (.dup, 1) := by decide +kernel
theorem dX0_begin_13 : decode cX0_begin 13 = .ok (.ldc 56, 2) := by decide +kernel
theorem dX0_begin_15 : decode cX0_begin 15 = .ok (.invokespecial 58, 3) := by decide +kernel
theorem dX0_begin_18 : decode cX0_begin 18 = .ok (.athrow, 1) := by decide +kernel
theorem dX0_begin_19 : decode cX0_begin 19 = .ok (.iload_n 1, 1) := by decide +kernel
theorem dX0_begin_20 : decode cX0_begin 20 = .ok (.iconst 3, 1) := by decide +kernel
theorem dX0_begin_21 : decode cX0_begin 21 = .ok (.if_icmp .ne 21, 3) := by decide +kernel
theorem dX0_begin_24 : decode cX0_begin 24 = .ok (.iload_n 2, 1) := by decide +kernel
theorem dX0_begin_25 : decode cX0_begin 25 = .ok (.iload_n 3, 1) := by decide +kernel
theorem dX0_begin_26 : decode cX0_begin 26 = .ok (.invokestatic 61, 3) := by decide +kernel
theorem dX0_begin_29 : decode cX0_begin 29 = .ok (.ifCond .ne 13, 3) := by decide +kernel
theorem dX0_begin_32 : decode cX0_begin 32 = .ok (.new 54, 3) := by decide +kernel
theorem dX0_begin_35 : decode cX0_begin 35 = .ok (.dup, 1) := by decide +kernel
theorem dX0_begin_36 : decode cX0_begin 36 = .ok (.ldc 65, 2) := by decide +kernel
theorem dX0_begin_38 : decode cX0_begin 38 = .ok (.invokespecial 58, 3) := by decide +kernel
theorem dX0_begin_41 : decode cX0_begin 41 = .ok (.athrow, 1) := by decide +kernel
theorem dX0_begin_42 : decode cX0_begin 42 = .ok (.aload_n 0, 1) := by decide +kernel
theorem dX0_begin_43 : decode cX0_begin 43 = .ok (.iload_n 1, 1) := by decide +kernel
theorem dX0_begin_44 : decode cX0_begin 44 = .ok (.putfield 23, 3) := by decide +kernel
theorem dX0_begin_47 : decode cX0_begin 47 = .ok (.aload_n 0, 1) := by decide +kernel
theorem dX0_begin_48 : decode cX0_begin 48 = .ok (.iload 4, 2) := by decide +kernel
theorem dX0_begin_50 : decode cX0_begin 50 = .ok (.putfield 26, 3) := by decide +kernel
theorem dX0_begin_53 : decode cX0_begin 53 = .ok (.aload_n 0, 1) := by decide +kernel
theorem dX0_begin_54 : decode cX0_begin 54 = .ok (.iconst 0, 1) := by decide +kernel
theorem dX0_begin_55 : decode cX0_begin 55 = .ok (.putfield 19, 3) := by decide +kernel
theorem dX0_begin_58 : decode cX0_begin 58 = .ok (.aload_n 0, 1) := by decide +kernel
theorem dX0_begin_59 : decode cX0_begin 59 = .ok (.iload_n 1, 1) := by decide +kernel
theorem dX0_begin_60 : decode cX0_begin 60 = .ok (.iconst 3, 1) := by decide +kernel
theorem dX0_begin_61 : decode cX0_begin 61 = .ok (.if_icmp .ne 7, 3) := by decide +kernel
theorem dX0_begin_64 : decode cX0_begin 64 = .ok (.iconst 4, 1) := by decide +kernel
theorem dX0_begin_65 : decode cX0_begin 65 = .ok (.goto 4, 3) := by decide +kernel
theorem dX0_begin_68 : decode cX0_begin 68 = .ok (.iconst 0, 1) := by decide +kernel
theorem dX0_begin_69 : decode cX0_begin 69 = .ok (.putfield 30, 3) := by decide +kernel
theorem dX0_begin_72 : decode cX0_begin 72 = .ok (.return_, 1) := by decide +kernel
theorem dX0_bytesAt_0 : decode cX0_bytesAt 0 = .ok (.aload_n 0, 1) := by decide +kernel
theorem dX0_bytesAt_1 : decode cX0_bytesAt 1 = .ok (.iload_n 1, 1) := by decide +kernel
theorem dX0_bytesAt_2 : decode cX0_bytesAt 2 = .ok (.invokevirtual 152, 3) := by decide +kernel
theorem dX0_bytesAt_5 : decode cX0_bytesAt 5 = .ok (.ifCond .eq 12, 3) := by decide +kernel
theorem dX0_bytesAt_8 : decode cX0_bytesAt 8 = .ok (.aload_n 0, 1) := by decide +kernel
theorem dX0_bytesAt_9 : decode cX0_bytesAt 9 = .ok (.getfield 16, 3) := by decide +kernel
theorem dX0_bytesAt_12 : decode cX0_bytesAt 12 = .ok (.iload_n 1, 1) := by decide +kernel
theorem dX0_bytesAt_13 : decode cX0_bytesAt 13 = .ok (.iaload, 1) := by decide +kernel
theorem dX0_bytesAt_14 : decode cX0_bytesAt 14 = .ok (.goto 4, 3) := by decide +kernel
theorem dX0_bytesAt_17 : decode cX0_bytesAt 17 = .ok (.iconst 4, 1) := by decide +kernel
theorem dX0_bytesAt_18 : decode cX0_bytesAt 18 = .ok (.ireturn, 1) := by decide +kernel
theorem dX0_bytesOf_0 : decode cX0_bytesOf 0 = .ok (.iload_n 0, 1) := by decide +kernel
theorem dX0_bytesOf_1 : decode cX0_bytesOf 1 = .ok (.iconst 3, 1) := by decide +kernel
theorem dX0_bytesOf_2 : decode cX0_bytesOf 2 = .ok (.if_icmp .ne 5, 3) := by decide +kernel
theorem dX0_bytesOf_5 : decode cX0_bytesOf 5 = .ok (.iload_n 1, 1) := by decide +kernel
theorem dX0_bytesOf_6 : decode cX0_bytesOf 6 = .ok (.ireturn, 1) := by decide +kernel
theorem dX0_bytesOf_7 : decode cX0_bytesOf 7 = .ok (.iload_n 0, 1) := by decide +kernel
theorem dX0_bytesOf_8 : decode cX0_bytesOf 8 = .ok (.iconst 2, 1) := by decide +kernel
theorem dX0_bytesOf_9 : decode cX0_bytesOf 9 = .ok (.if_icmp .ne 8, 3) := by decide +kernel
theorem dX0_bytesOf_12 : decode cX0_bytesOf 12 = .ok (.bipush 8, 2) := by decide +kernel
theorem dX0_bytesOf_14 : decode cX0_bytesOf 14 = .ok (.goto 4, 3) := by decide +kernel
theorem dX0_bytesOf_17 : decode cX0_bytesOf 17 = .ok (.iconst 4, 1) := by decide +kernel
theorem dX0_bytesOf_18 : decode cX0_bytesOf 18 = .ok (.ireturn, 1) := by decide +kernel
theorem dX0_call_0 : decode cX0_call 0 = .ok (.aload_n 0, 1) := by decide +kernel
theorem dX0_call_1 : decode cX0_call 1 = .ok (.dup, 1) := by decide +kernel
theorem dX0_call_2 : decode cX0_call 2 = .ok (.getfield 33, 3) := by decide +kernel
theorem dX0_call_5 : decode cX0_call 5 = .ok (.iconst 1, 1) := by decide +kernel
theorem dX0_call_6 : decode cX0_call 6 = .ok (.iadd, 1) := by decide +kernel
theorem dX0_call_7 : decode cX0_call 7 = .ok (.putfield 33, 3) := by decide +kernel
theorem dX0_call_10 : decode cX0_call 10 = .ok (.aload_n 0, 1) := by decide +kernel
theorem dX0_call_11 : decode cX0_call 11 = .ok (.aload_n 0, 1) := by decide +kernel
theorem dX0_call_12 : decode cX0_call 12 = .ok (.getfield 36, 3) := by decide +kernel
theorem dX0_call_15 : decode cX0_call 15 = .ok (.aload_n 0, 1) := by decide +kernel
theorem dX0_call_16 : decode cX0_call 16 = .ok (.invokevirtual 119, 3) := by decide +kernel
theorem dX0_call_19 : decode cX0_call 19 = .ok (.invokestatic 126, 3) := by decide +kernel
theorem dX0_call_22 : decode cX0_call 22 = .ok (.putfield 36, 3) := by decide +kernel
theorem dX0_call_25 : decode cX0_call 25 = .ok (.aload_n 0, 1) := by decide +kernel
theorem dX0_call_26 : decode cX0_call 26 = .ok (.getfield 36, 3) := by decide +kernel
theorem dX0_call_29 : decode cX0_call 29 = .ok (.ireturn, 1) := by decide +kernel
