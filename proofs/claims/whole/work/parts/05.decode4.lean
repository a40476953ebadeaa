theorem dX1_fail_0 : decode cX1_fail 0 = .ok (.aload_n 0, 1) := by decide +kernel
theorem dX1_fail_1 : decode cX1_fail 1 = .ok (.iload_n 1, 1) := by decide +kernel
theorem dX1_fail_2 : decode cX1_fail 2 = .ok (.putfield 23, 3) := by decide +kernel
theorem dX1_fail_5 : decode cX1_fail 5 = .ok (.iconst 0, 1) := by decide +kernel
theorem dX1_fail_6 : decode cX1_fail 6 = .ok (.ireturn, 1) := by decide +kernel
theorem dX1_filled_0 : decode cX1_filled 0 = .ok (.iload_n 0, 1) := by decide +kernel
theorem dX1_filled_1 : decode cX1_filled 1 = .ok (.iload_n 1, 1) := by decide +kernel
theorem dX1_filled_2 : decode cX1_filled 2 = .ok (.iadd, 1) := by decide +kernel
theorem dX1_filled_3 : decode cX1_filled 3 = .ok (.iconst 1, 1) := by decide +kernel
theorem dX1_filled_4 : decode cX1_filled 4 = .ok (.isub, 1) := by decide +kernel
theorem dX1_filled_5 : decode cX1_filled 5 = .ok (.iload_n 1, 1) := by decide +kernel
theorem dX1_filled_6 : decode cX1_filled 6 = .ok (.idiv, 1) := by decide +kernel
theorem dX1_filled_7 : decode cX1_filled 7 = .ok (.iload_n 1, 1) := by decide +kernel
theorem dX1_filled_8 : decode cX1_filled 8 = .ok (.imul, 1) := by decide +kernel
theorem dX1_filled_9 : decode cX1_filled 9 = .ok (.ireturn, 1) := by decide +kernel
theorem dX1_fractionsAt_0 : decode cX1_fractionsAt 0 = .ok (.aload_n 0, 1) := by decide +kernel
theorem dX1_fractionsAt_1 : decode cX1_fractionsAt 1 = .ok (.getfield 76, 3) := by decide +kernel
theorem dX1_fractionsAt_4 : decode cX1_fractionsAt 4 = .ok (.aload_n 0, 1) := by decide +kernel
theorem dX1_fractionsAt_5 : decode cX1_fractionsAt 5 = .ok (.getfield 79, 3) := by decide +kernel
theorem dX1_fractionsAt_8 : decode cX1_fractionsAt 8 = .ok (.iadd, 1) := by decide +kernel
theorem dX1_fractionsAt_9 : decode cX1_fractionsAt 9 = .ok (.bipush 8, 2) := by decide +kernel
theorem dX1_fractionsAt_11 : decode cX1_fractionsAt 11 = .ok (.invokestatic 42, 3) := by decide +kernel
theorem dX1_fractionsAt_14 : decode cX1_fractionsAt 14 = .ok (.ireturn, 1) := by decide +kernel
theorem dX1_frame_0 : decode cX1_frame 0 = .ok (.aload_n 0, 1) := by decide +kernel
theorem dX1_frame_1 : decode cX1_frame 1 = .ok (.iconst 0, 1) := by decide +kernel
theorem dX1_frame_2 : decode cX1_frame 2 = .ok (.putfield 23, 3) := by decide +kernel
theorem dX1_frame_5 : decode cX1_frame 5 = .ok (.ldc 92, 2) := by decide +kernel
theorem dX1_frame_7 : decode cX1_frame 7 = .ok (.istore 4, 2) := by decide +kernel
theorem dX1_frame_9 : decode cX1_frame 9 = .ok (.ldc 93, 2) := by decide +kernel
theorem dX1_frame_11 : decode cX1_frame 11 = .ok (.istore 5, 2) := by decide +kernel
theorem dX1_frame_13 : decode cX1_frame 13 = .ok (.iload_n 1, 1) := by decide +kernel
theorem dX1_frame_14 : decode cX1_frame 14 = .ok (.ifCond .lt 27, 3) := by decide +kernel
theorem dX1_frame_17 : decode cX1_frame 17 = .ok (.iload_n 1, 1) := by decide +kernel
theorem dX1_frame_18 : decode cX1_frame 18 = .ok (.ldc 56, 2) := by decide +kernel
theorem dX1_frame_20 : decode cX1_frame 20 = .ok (.if_icmp .gt 21, 3) := by decide +kernel
theorem dX1_frame_23 : decode cX1_frame 23 = .ok (.iload_n 2, 1) := by decide +kernel
theorem dX1_frame_24 : decode cX1_frame 24 = .ok (.iload 4, 2) := by decide +kernel
theorem dX1_frame_26 : decode cX1_frame 26 = .ok (.iconst (-1), 1) := by decide +kernel
theorem dX1_frame_27 : decode cX1_frame 27 = .ok (.ixor, 1) := by decide +kernel
theorem dX1_frame_28 : decode cX1_frame 28 = .ok (.iand, 1) := by decide +kernel
theorem dX1_frame_29 : decode cX1_frame 29 = .ok (.ifCond .ne 12, 3) := by decide +kernel
theorem dX1_frame_32 : decode cX1_frame 32 = .ok (.iload_n 3, 1) := by decide +kernel
theorem dX1_frame_33 : decode cX1_frame 33 = .ok (.iload 5, 2) := by decide +kernel
theorem dX1_frame_35 : decode cX1_frame 35 = .ok (.iconst (-1), 1) := by decide +kernel
theorem dX1_frame_36 : decode cX1_frame 36 = .ok (.ixor, 1) := by decide +kernel
theorem dX1_frame_37 : decode cX1_frame 37 = .ok (.iand, 1) := by decide +kernel
theorem dX1_frame_38 : decode cX1_frame 38 = .ok (.ifCond .eq 9, 3) := by decide +kernel
theorem dX1_frame_41 : decode cX1_frame 41 = .ok (.aload_n 0, 1) := by decide +kernel
theorem dX1_frame_42 : decode cX1_frame 42 = .ok (.iconst 1, 1) := by decide +kernel
theorem dX1_frame_43 : decode cX1_frame 43 = .ok (.invokevirtual 50, 3) := by decide +kernel
theorem dX1_frame_46 : decode cX1_frame 46 = .ok (.ireturn, 1) := by decide +kernel
theorem dX1_frame_47 : decode cX1_frame 47 = .ok (.aload_n 0, 1) := by decide +kernel
theorem dX1_frame_48 : decode cX1_frame 48 = .ok (.aload_n 0, 1) := by decide +kernel
theorem dX1_frame_49 : decode cX1_frame 49 = .ok (.getfield 70, 3) := by decide +kernel
theorem dX1_frame_52 : decode cX1_frame 52 = .ok (.ifCond .le 10, 3) := by decide +kernel
theorem dX1_frame_55 : decode cX1_frame 55 = .ok (.aload_n 0, 1) := by decide +kernel
theorem dX1_frame_56 : decode cX1_frame 56 = .ok (.getfield 73, 3) := by decide +kernel
theorem dX1_frame_59 : decode cX1_frame 59 = .ok (.goto 4, 3) := by decide +kernel
theorem dX1_frame_62 : decode cX1_frame 62 = .ok (.iconst 0, 1) := by decide +kernel
theorem dX1_frame_63 : decode cX1_frame 63 = .ok (.putfield 76, 3) := by decide +kernel
theorem dX1_frame_66 : decode cX1_frame 66 = .ok (.aload_n 0, 1) := by decide +kernel
theorem dX1_frame_67 : decode cX1_frame 67 = .ok (.iload_n 1, 1) := by decide +kernel
theorem dX1_frame_68 : decode cX1_frame 68 = .ok (.putfield 79, 3) := by decide +kernel
theorem dX1_frame_71 : decode cX1_frame 71 = .ok (.aload_n 0, 1) := by decide +kernel
theorem dX1_frame_72 : decode cX1_frame 72 = .ok (.aload_n 0, 1) := by decide +kernel
theorem dX1_frame_73 : decode cX1_frame 73 = .ok (.getfield 70, 3) := by decide +kernel
theorem dX1_frame_76 : decode cX1_frame 76 = .ok (.ifCond .le 10, 3) := by decide +kernel
theorem dX1_frame_79 : decode cX1_frame 79 = .ok (.iload_n 2, 1) := by decide +kernel
theorem dX1_frame_80 : decode cX1_frame 80 = .ok (.ldc 94, 2) := by decide +kernel
theorem dX1_frame_82 : decode cX1_frame 82 = .ok (.ior, 1) := by decide +kernel
theorem dX1_frame_83 : decode cX1_frame 83 = .ok (.goto 4, 3) := by decide +kernel
theorem dX1_frame_86 : decode cX1_frame 86 = .ok (.iload_n 2, 1) := by decide +kernel
theorem dX1_frame_87 : decode cX1_frame 87 = .ok (.putfield 95, 3) := by decide +kernel
theorem dX1_frame_90 : decode cX1_frame 90 = .ok (.aload_n 0, 1) := by decide +kernel
theorem dX1_frame_91 : decode cX1_frame 91 = .ok (.iload_n 3, 1) := by decide +kernel
theorem dX1_frame_92 : decode cX1_frame 92 = .ok (.putfield 85, 3) := by decide +kernel
theorem dX1_frame_95 : decode cX1_frame 95 = .ok (.aload_n 0, 1) := by decide +kernel
theorem dX1_frame_96 : decode cX1_frame 96 = .ok (.invokevirtual 98, 3) := by decide +kernel
theorem dX1_frame_99 : decode cX1_frame 99 = .ok (.aload_n 0, 1) := by decide +kernel
theorem dX1_frame_100 : decode cX1_frame 100 = .ok (.getfield 95, 3) := by decide +kernel
theorem dX1_frame_103 : decode cX1_frame 103 = .ok (.bipush 32, 2) := by decide +kernel
theorem dX1_frame_105 : decode cX1_frame 105 = .ok (.iconst 4, 1) := by decide +kernel
theorem dX1_frame_106 : decode cX1_frame 106 = .ok (.invokestatic 88, 3) := by decide +kernel
theorem dX1_frame_109 : decode cX1_frame 109 = .ok (.iadd, 1) := by decide +kernel
theorem dX1_frame_110 : decode cX1_frame 110 = .ok (.bipush 8, 2) := by decide +kernel
theorem dX1_frame_112 : decode cX1_frame 112 = .ok (.invokestatic 42, 3) := by decide +kernel
theorem dX1_frame_115 : decode cX1_frame 115 = .ok (.ireturn, 1) := by decide +kernel
theorem dX1_generalAt_0 : decode cX1_generalAt 0 = .ok (.aload_n 0, 1) := by decide +kernel
theorem dX1_generalAt_1 : decode cX1_generalAt 1 = .ok (.invokevirtual 82, 3) := by decide +kernel
theorem dX1_generalAt_4 : decode cX1_generalAt 4 = .ok (.aload_n 0, 1) := by decide +kernel
theorem dX1_generalAt_5 : decode cX1_generalAt 5 = .ok (.getfield 85, 3) := by decide +kernel
theorem dX1_generalAt_8 : decode cX1_generalAt 8 = .ok (.bipush 32, 2) := by decide +kernel
theorem dX1_generalAt_10 : decode cX1_generalAt 10 = .ok (.bipush 8, 2) := by decide +kernel
theorem dX1_generalAt_12 : decode cX1_generalAt 12 = .ok (.invokestatic 88, 3) := by decide +kernel
theorem dX1_generalAt_15 : decode cX1_generalAt 15 = .ok (.iadd, 1) := by decide +kernel
theorem dX1_generalAt_16 : decode cX1_generalAt 16 = .ok (.ireturn, 1) := by decide +kernel
theorem dX1_home_0 : decode cX1_home 0 = .ok (.aload_n 0, 1) := by decide +kernel
theorem dX1_home_1 : decode cX1_home 1 = .ok (.getfield 9, 3) := by decide +kernel
theorem dX1_home_4 : decode cX1_home 4 = .ok (.iconst 3, 1) := by decide +kernel
theorem dX1_home_5 : decode cX1_home 5 = .ok (.if_icmp .ne 7, 3) := by decide +kernel
theorem dX1_home_8 : decode cX1_home 8 = .ok (.iconst 4, 1) := by decide +kernel
theorem dX1_home_9 : decode cX1_home 9 = .ok (.goto 4, 3) := by decide +kernel
theorem dX1_home_12 : decode cX1_home 12 = .ok (.iconst 0, 1) := by decide +kernel
theorem dX1_home_13 : decode cX1_home 13 = .ok (.istore_n 2, 1) := by decide +kernel
theorem dX1_home_14 : decode cX1_home 14 = .ok (.iconst 0, 1) := by decide +kernel
theorem dX1_home_15 : decode cX1_home 15 = .ok (.istore_n 3, 1) := by decide +kernel
theorem dX1_home_16 : decode cX1_home 16 = .ok (.iload_n 3, 1) := by decide +kernel
theorem dX1_home_17 : decode cX1_home 17 = .ok (.iload_n 1, 1) := by decide +kernel
theorem dX1_home_18 : decode cX1_home 18 = .ok (.if_icmp .ge 36, 3) := by decide +kernel
theorem dX1_home_21 : decode cX1_home 21 = .ok (.aload_n 0, 1) := by decide +kernel
theorem dX1_home_22 : decode cX1_home 22 = .ok (.iload_n 3, 1) := by decide +kernel
theorem dX1_home_23 : decode cX1_home 23 = .ok (.invokevirtual 38, 3) := by decide +kernel
theorem dX1_home_26 : decode cX1_home 26 = .ok (.ifCond .eq 10, 3) := by decide +kernel
theorem dX1_home_29 : decode cX1_home 29 = .ok (.iload_n 2, 1) := by decide +kernel
theorem dX1_home_30 : decode cX1_home 30 = .ok (.bipush 8, 2) := by decide +kernel
theorem dX1_home_32 : decode cX1_home 32 = .ok (.invokestatic 42, 3) := by decide +kernel
theorem dX1_home_35 : decode cX1_home 35 = .ok (.istore_n 2, 1) := by decide +kernel
theorem dX1_home_36 : decode cX1_home 36 = .ok (.iload_n 2, 1) := by decide +kernel
theorem dX1_home_37 : decode cX1_home 37 = .ok (.aload_n 0, 1) := by decide +kernel
theorem dX1_home_38 : decode cX1_home 38 = .ok (.iload_n 3, 1) := by decide +kernel
theorem dX1_home_39 : decode cX1_home 39 = .ok (.invokevirtual 46, 3) := by decide +kernel
theorem dX1_home_42 : decode cX1_home 42 = .ok (.iconst 4, 1) := by decide +kernel
theorem dX1_home_43 : decode cX1_home 43 = .ok (.invokestatic 42, 3) := by decide +kernel
theorem dX1_home_46 : decode cX1_home 46 = .ok (.iadd, 1) := by decide +kernel
theorem dX1_home_47 : decode cX1_home 47 = .ok (.istore_n 2, 1) := by decide +kernel
theorem dX1_home_48 : decode cX1_home 48 = .ok (.iinc 3 1, 3) := by decide +kernel
theorem dX1_home_51 : decode cX1_home 51 = .ok (.goto (-35), 3) := by decide +kernel
theorem dX1_home_54 : decode cX1_home 54 = .ok (.iload_n 1, 1) := by decide +kernel
theorem dX1_home_55 : decode cX1_home 55 = .ok (.aload_n 0, 1) := by decide +kernel
theorem dX1_home_56 : decode cX1_home 56 = .ok (.getfield 35, 3) := by decide +kernel
theorem dX1_home_59 : decode cX1_home 59 = .ok (.if_icmp .ge 20, 3) := by decide +kernel
theorem dX1_home_62 : decode cX1_home 62 = .ok (.aload_n 0, 1) := by decide +kernel
theorem dX1_home_63 : decode cX1_home 63 = .ok (.iload_n 1, 1) := by decide +kernel
theorem dX1_home_64 : decode cX1_home 64 = .ok (.invokevirtual 38, 3) := by decide +kernel
theorem dX1_home_67 : decode cX1_home 67 = .ok (.ifCond .eq 12, 3) := by decide +kernel
theorem dX1_home_70 : decode cX1_home 70 = .ok (.iload_n 2, 1) := by decide +kernel
theorem dX1_home_71 : decode cX1_home 71 = .ok (.bipush 8, 2) := by decide +kernel
theorem dX1_home_73 : decode cX1_home 73 = .ok (.invokestatic 42, 3) := by decide +kernel
theorem dX1_home_76 : decode cX1_home 76 = .ok (.goto 4, 3) := by decide +kernel
theorem dX1_home_79 : decode cX1_home 79 = .ok (.iload_n 2, 1) := by decide +kernel
theorem dX1_home_80 : decode cX1_home 80 = .ok (.ireturn, 1) := by decide +kernel
theorem dX1_init_0 : decode cX1_init 0 = .ok (.aload_n 0, 1) := by decide +kernel
theorem dX1_init_1 : decode cX1_init 1 = .ok (.invokespecial 1, 3) := by decide +kernel
theorem dX1_init_4 : decode cX1_init 4 = .ok (.aload_n 0, 1) := by decide +kernel
theorem dX1_init_5 : decode cX1_init 5 = .ok (.iconst 4, 1) := by decide +kernel
theorem dX1_init_6 : decode cX1_init 6 = .ok (.putfield 9, 3) := by decide +kernel
theorem dX1_init_9 : decode cX1_init 9 = .ok (.aload_n 0, 1) := by decide +kernel
theorem dX1_init_10 : decode cX1_init 10 = .ok (.bipush 60, 2) := by decide +kernel
theorem dX1_init_12 : decode cX1_init 12 = .ok (.newarray .int, 2) := by decide +kernel
theorem dX1_init_14 : decode cX1_init 14 = .ok (.putfield 13, 3) := by decide +kernel
theorem dX1_init_17 : decode cX1_init 17 = .ok (.aload_n 0, 1) := by decide +kernel
theorem dX1_init_18 : decode cX1_init 18 = .ok (.bipush 60, 2) := by decide +kernel
theorem dX1_init_20 : decode cX1_init 20 = .ok (.newarray .int, 2) := by decide +kernel
theorem dX1_init_22 : decode cX1_init 22 = .ok (.putfield 17, 3) := by decide +kernel
theorem dX1_init_25 : decode cX1_init 25 = .ok (.aload_n 0, 1) := by decide +kernel
theorem dX1_init_26 : decode cX1_init 26 = .ok (.bipush 60, 2) := by decide +kernel
theorem dX1_init_28 : decode cX1_init 28 = .ok (.newarray .int, 2) := by decide +kernel
theorem dX1_init_30 : decode cX1_init 30 = .ok (.putfield 20, 3) := by decide +kernel
theorem dX1_init_33 : decode cX1_init 33 = .ok (.return_, 1) := by decide +kernel
theorem dX1_isFraction_0 : decode cX1_isFraction 0 = .ok (.aload_n 0, 1) := by decide +kernel
theorem dX1_isFraction_1 : decode cX1_isFraction 1 = .ok (.getfield 13, 3) := by decide +kernel
theorem dX1_isFraction_4 : decode cX1_isFraction 4 = .ok (.iload_n 1, 1) := by decide +kernel
theorem dX1_isFraction_5 : decode cX1_isFraction 5 = .ok (.iaload, 1) := by decide +kernel
theorem dX1_isFraction_6 : decode cX1_isFraction 6 = .ok (.iconst 1, 1) := by decide +kernel
theorem dX1_isFraction_7 : decode cX1_isFraction 7 = .ok (.if_icmp .eq 13, 3) := by decide +kernel
theorem dX1_isFraction_10 : decode cX1_isFraction 10 = .ok (.aload_n 0, 1) := by decide +kernel
theorem dX1_isFraction_11 : decode cX1_isFraction 11 = .ok (.getfield 13, 3) := by decide +kernel
theorem dX1_isFraction_14 : decode cX1_isFraction 14 = .ok (.iload_n 1, 1) := by decide +kernel
theorem dX1_isFraction_15 : decode cX1_isFraction 15 = .ok (.iaload, 1) := by decide +kernel
theorem dX1_isFraction_16 : decode cX1_isFraction 16 = .ok (.iconst 2, 1) := by decide +kernel
theorem dX1_isFraction_17 : decode cX1_isFraction 17 = .ok (.if_icmp .ne 7, 3) := by decide +kernel
theorem dX1_isFraction_20 : decode cX1_isFraction 20 = .ok (.iconst 1, 1) := by decide +kernel
theorem dX1_isFraction_21 : decode cX1_isFraction 21 = .ok (.goto 4, 3) := by decide +kernel
theorem dX1_isFraction_24 : decode cX1_isFraction 24 = .ok (.iconst 0, 1) := by decide +kernel
theorem dX1_isFraction_25 : decode cX1_isFraction 25 = .ok (.ireturn, 1) := by decide +kernel
theorem dX1_isGood_0 : decode cX1_isGood 0 = .ok (.iload_n 0, 1) := by decide +kernel
theorem dX1_isGood_1 : decode cX1_isGood 1 = .ok (.ifCond .lt 8, 3) := by decide +kernel
theorem dX1_isGood_4 : decode cX1_isGood 4 = .ok (.iload_n 0, 1) := by decide +kernel
theorem dX1_isGood_5 : decode cX1_isGood 5 = .ok (.iload_n 1, 1) := by decide +kernel
theorem dX1_isGood_6 : decode cX1_isGood 6 = .ok (.if_icmp .le 5, 3) := by decide +kernel
theorem dX1_isGood_9 : decode cX1_isGood 9 = .ok (.iconst 0, 1) := by decide +kernel
theorem dX1_isGood_10 : decode cX1_isGood 10 = .ok (.ireturn, 1) := by decide +kernel
theorem dX1_isGood_11 : decode cX1_isGood 11 = .ok (.iload_n 0, 1) := by decide +kernel
theorem dX1_isGood_12 : decode cX1_isGood 12 = .ok (.iconst 3, 1) := by decide +kernel
theorem dX1_isGood_13 : decode cX1_isGood 13 = .ok (.if_icmp .eq 5, 3) := by decide +kernel
theorem dX1_isGood_16 : decode cX1_isGood 16 = .ok (.iconst 1, 1) := by decide +kernel
theorem dX1_isGood_17 : decode cX1_isGood 17 = .ok (.ireturn, 1) := by decide +kernel
theorem dX1_isGood_18 : decode cX1_isGood 18 = .ok (.iload_n 3, 1) := by decide +kernel
theorem dX1_isGood_19 : decode cX1_isGood 19 = .ok (.iconst 1, 1) := by decide +kernel
theorem dX1_isGood_20 : decode cX1_isGood 20 = .ok (.if_icmp .eq 19, 3) := by decide +kernel
theorem dX1_isGood_23 : decode cX1_isGood 23 = .ok (.iload_n 3, 1) := by decide +kernel
theorem dX1_isGood_24 : decode cX1_isGood 24 = .ok (.iconst 2, 1) := by decide +kernel
theorem dX1_isGood_25 : decode cX1_isGood 25 = .ok (.if_icmp .eq 14, 3) := by decide +kernel
theorem dX1_isGood_28 : decode cX1_isGood 28 = .ok (.iload_n 3, 1) := by decide +kernel
theorem dX1_isGood_29 : decode cX1_isGood 29 = .ok (.iconst 4, 1) := by decide +kernel
theorem dX1_isGood_30 : decode cX1_isGood 30 = .ok (.if_icmp .eq 9, 3) := by decide +kernel
theorem dX1_isGood_33 : decode cX1_isGood 33 = .ok (.iload_n 3, 1) := by decide +kernel
theorem dX1_isGood_34 : decode cX1_isGood 34 = .ok (.bipush 8, 2) := by decide +kernel
theorem dX1_isGood_36 : decode cX1_isGood 36 = .ok (.if_icmp .ne 7, 3) := by decide +kernel
theorem dX1_isGood_39 : decode cX1_isGood 39 = .ok (.iconst 1, 1) := by decide +kernel
theorem dX1_isGood_40 : decode cX1_isGood 40 = .ok (.goto 4, 3) := by decide +kernel
theorem dX1_isGood_43 : decode cX1_isGood 43 = .ok (.iconst 0, 1) := by decide +kernel
theorem dX1_isGood_44 : decode cX1_isGood 44 = .ok (.istore 4, 2) := by decide +kernel
theorem dX1_isGood_46 : decode cX1_isGood 46 = .ok (.iload 4, 2) := by decide +kernel
theorem dX1_isGood_48 : decode cX1_isGood 48 = .ok (.ifCond .eq 23, 3) := by decide +kernel
theorem dX1_isGood_51 : decode cX1_isGood 51 = .ok (.iload_n 2, 1) := by decide +kernel
theorem dX1_isGood_52 : decode cX1_isGood 52 = .ok (.ifCond .le 19, 3) := by decide +kernel
theorem dX1_isGood_55 : decode cX1_isGood 55 = .ok (.iload_n 2, 1) := by decide +kernel
theorem dX1_isGood_56 : decode cX1_isGood 56 = .ok (.ldc 26, 2) := by decide +kernel
theorem dX1_isGood_58 : decode cX1_isGood 58 = .ok (.if_icmp .gt 13, 3) := by decide +kernel
theorem dX1_isGood_61 : decode cX1_isGood 61 = .ok (.iload_n 2, 1) := by decide +kernel
theorem dX1_isGood_62 : decode cX1_isGood 62 = .ok (.iload_n 3, 1) := by decide +kernel
theorem dX1_isGood_63 : decode cX1_isGood 63 = .ok (.irem, 1) := by decide +kernel
theorem dX1_isGood_64 : decode cX1_isGood 64 = .ok (.ifCond .ne 7, 3) := by decide +kernel
theorem dX1_isGood_67 : decode cX1_isGood 67 = .ok (.iconst 1, 1) := by decide +kernel
theorem dX1_isGood_68 : decode cX1_isGood 68 = .ok (.goto 4, 3) := by decide +kernel
theorem dX1_isGood_71 : decode cX1_isGood 71 = .ok (.iconst 0, 1) := by decide +kernel
theorem dX1_isGood_72 : decode cX1_isGood 72 = .ok (.ireturn, 1) := by decide +kernel
theorem dX1_isThere_0 : decode cX1_isThere 0 = .ok (.iload_n 1, 1) := by decide +kernel
theorem dX1_isThere_1 : decode cX1_isThere 1 = .ok (.ifCond .lt 11, 3) := by decide +kernel
theorem dX1_isThere_4 : decode cX1_isThere 4 = .ok (.iload_n 1, 1) := by decide +kernel
theorem dX1_isThere_5 : decode cX1_isThere 5 = .ok (.aload_n 0, 1) := by decide +kernel
theorem dX1_isThere_6 : decode cX1_isThere 6 = .ok (.getfield 35, 3) := by decide +kernel
theorem dX1_isThere_9 : decode cX1_isThere 9 = .ok (.if_icmp .lt 16, 3) := by decide +kernel
theorem dX1_isThere_12 : decode cX1_isThere 12 = .ok (.iload_n 1, 1) := by decide +kernel
theorem dX1_isThere_13 : decode cX1_isThere 13 = .ok (.iconst (-1), 1) := by decide +kernel
theorem dX1_isThere_14 : decode cX1_isThere 14 = .ok (.if_icmp .ne 15, 3) := by decide +kernel
theorem dX1_isThere_17 : decode cX1_isThere 17 = .ok (.aload_n 0, 1) := by decide +kernel
theorem dX1_isThere_18 : decode cX1_isThere 18 = .ok (.getfield 9, 3) := by decide +kernel
theorem dX1_isThere_21 : decode cX1_isThere 21 = .ok (.iconst 3, 1) := by decide +kernel
theorem dX1_isThere_22 : decode cX1_isThere 22 = .ok (.if_icmp .ne 7, 3) := by decide +kernel
theorem dX1_isThere_25 : decode cX1_isThere 25 = .ok (.iconst 1, 1) := by decide +kernel
theorem dX1_isThere_26 : decode cX1_isThere 26 = .ok (.goto 4, 3) := by decide +kernel
theorem dX1_isThere_29 : decode cX1_isThere 29 = .ok (.iconst 0, 1) := by decide +kernel
theorem dX1_isThere_30 : decode cX1_isThere 30 = .ok (.ireturn, 1) := by decide +kernel
theorem dX1_isWide_0 : decode cX1_isWide 0 = .ok (.aload_n 0, 1) := by decide +kernel
theorem dX1_isWide_1 : decode cX1_isWide 1 = .ok (.getfield 13, 3) := by decide +kernel
theorem dX1_isWide_4 : decode cX1_isWide 4 = .ok (.iload_n 1, 1) := by decide +kernel
theorem dX1_isWide_5 : decode cX1_isWide 5 = .ok (.iaload, 1) := by decide +kernel
theorem dX1_isWide_6 : decode cX1_isWide 6 = .ok (.iconst 2, 1) := by decide +kernel
theorem dX1_isWide_7 : decode cX1_isWide 7 = .ok (.if_icmp .eq 24, 3) := by decide +kernel
theorem dX1_isWide_10 : decode cX1_isWide 10 = .ok (.aload_n 0, 1) := by decide +kernel
theorem dX1_isWide_11 : decode cX1_isWide 11 = .ok (.getfield 13, 3) := by decide +kernel
theorem dX1_isWide_14 : decode cX1_isWide 14 = .ok (.iload_n 1, 1) := by decide +kernel
theorem dX1_isWide_15 : decode cX1_isWide 15 = .ok (.iaload, 1) := by decide +kernel
theorem dX1_isWide_16 : decode cX1_isWide 16 = .ok (.iconst 3, 1) := by decide +kernel
theorem dX1_isWide_17 : decode cX1_isWide 17 = .ok (.if_icmp .ne 18, 3) := by decide +kernel
theorem dX1_isWide_20 : decode cX1_isWide 20 = .ok (.aload_n 0, 1) := by decide +kernel
theorem dX1_isWide_21 : decode cX1_isWide 21 = .ok (.getfield 20, 3) := by decide +kernel
theorem dX1_isWide_24 : decode cX1_isWide 24 = .ok (.iload_n 1, 1) := by decide +kernel
theorem dX1_isWide_25 : decode cX1_isWide 25 = .ok (.iaload, 1) := by decide +kernel
theorem dX1_isWide_26 : decode cX1_isWide 26 = .ok (.bipush 8, 2) := by decide +kernel
theorem dX1_isWide_28 : decode cX1_isWide 28 = .ok (.if_icmp .ne 7, 3) := by decide +kernel
theorem dX1_isWide_31 : decode cX1_isWide 31 = .ok (.iconst 1, 1) := by decide +kernel
theorem dX1_isWide_32 : decode cX1_isWide 32 = .ok (.goto 4, 3) := by decide +kernel
theorem dX1_isWide_35 : decode cX1_isWide 35 = .ok (.iconst 0, 1) := by decide +kernel
theorem dX1_isWide_36 : decode cX1_isWide 36 = .ok (.ireturn, 1) := by decide +kernel
theorem dX1_place_0 : decode cX1_place 0 = .ok (.aload_n 0, 1) := by decide +kernel
theorem dX1_place_1 : decode cX1_place 1 = .ok (.iconst 0, 1) := by decide +kernel
theorem dX1_place_2 : decode cX1_place 2 = .ok (.putfield 23, 3) := by decide +kernel
theorem dX1_place_5 : decode cX1_place 5 = .ok (.iload_n 1, 1) := by decide +kernel
theorem dX1_place_6 : decode cX1_place 6 = .ok (.ifCond .lt 18, 3) := by decide +kernel
theorem dX1_place_9 : decode cX1_place 9 = .ok (.iload_n 1, 1) := by decide +kernel
theorem dX1_place_10 : decode cX1_place 10 = .ok (.iconst 2, 1) := by decide +kernel
theorem dX1_place_11 : decode cX1_place 11 = .ok (.if_icmp .gt 13, 3) := by decide +kernel
theorem dX1_place_14 : decode cX1_place 14 = .ok (.iload_n 2, 1) := by decide +kernel
theorem dX1_place_15 : decode cX1_place 15 = .ok (.ifCond .lt 9, 3) := by decide +kernel
theorem dX1_place_18 : decode cX1_place 18 = .ok (.iload_n 2, 1) := by decide +kernel
theorem dX1_place_19 : decode cX1_place 19 = .ok (.bipush 31, 2) := by decide +kernel
theorem dX1_place_21 : decode cX1_place 21 = .ok (.if_icmp .le 9, 3) := by decide +kernel
theorem dX1_place_24 : decode cX1_place 24 = .ok (.aload_n 0, 1) := by decide +kernel
theorem dX1_place_25 : decode cX1_place 25 = .ok (.iconst 1, 1) := by decide +kernel
theorem dX1_place_26 : decode cX1_place 26 = .ok (.invokevirtual 50, 3) := by decide +kernel
theorem dX1_place_29 : decode cX1_place 29 = .ok (.ireturn, 1) := by decide +kernel
theorem dX1_place_30 : decode cX1_place 30 = .ok (.iload_n 1, 1) := by decide +kernel
theorem dX1_place_31 : decode cX1_place 31 = .ok (.ifCond .ne 8, 3) := by decide +kernel
theorem dX1_place_34 : decode cX1_place 34 = .ok (.aload_n 0, 1) := by decide +kernel
theorem dX1_place_35 : decode cX1_place 35 = .ok (.getfield 76, 3) := by decide +kernel
theorem dX1_place_38 : decode cX1_place 38 = .ok (.ireturn, 1) := by decide +kernel
theorem dX1_place_39 : decode cX1_place 39 = .ok (.iload_n 1, 1) := by decide +kernel
theorem dX1_place_40 : decode cX1_place 40 = .ok (.iconst 1, 1) := by decide +kernel
theorem dX1_place_41 : decode cX1_place 41 = .ok (.if_icmp .ne 10, 3) := by decide +kernel
theorem dX1_place_44 : decode cX1_place 44 = .ok (.aload_n 0, 1) := by decide +kernel
theorem dX1_place_45 : decode cX1_place 45 = .ok (.getfield 95, 3) := by decide +kernel
theorem dX1_place_48 : decode cX1_place 48 = .ok (.goto 7, 3) := by decide +kernel
theorem dX1_place_51 : decode cX1_place 51 = .ok (.aload_n 0, 1) := by decide +kernel
theorem dX1_place_52 : decode cX1_place 52 = .ok (.getfield 85, 3) := by decide +kernel
theorem dX1_place_55 : decode cX1_place 55 = .ok (.istore_n 3, 1) := by decide +kernel
theorem dX1_place_56 : decode cX1_place 56 = .ok (.iload_n 3, 1) := by decide +kernel
theorem dX1_place_57 : decode cX1_place 57 = .ok (.iload_n 2, 1) := by decide +kernel
theorem dX1_place_58 : decode cX1_place 58 = .ok (.ishr, 1) := by decide +kernel
theorem dX1_place_59 : decode cX1_place 59 = .ok (.iconst 1, 1) := by decide +kernel
theorem dX1_place_60 : decode cX1_place 60 = .ok (.iand, 1) := by decide +kernel
theorem dX1_place_61 : decode cX1_place 61 = .ok (.ifCond .ne 5, 3) := by decide +kernel
theorem dX1_place_64 : decode cX1_place 64 = .ok (.iconst (-1), 1) := by decide +kernel
theorem dX1_place_65 : decode cX1_place 65 = .ok (.ireturn, 1) := by decide +kernel
theorem dX1_place_66 : decode cX1_place 66 = .ok (.iload_n 1, 1) := by decide +kernel
theorem dX1_place_67 : decode cX1_place 67 = .ok (.iconst 1, 1) := by decide +kernel
theorem dX1_place_68 : decode cX1_place 68 = .ok (.if_icmp .ne 17, 3) := by decide +kernel
theorem dX1_place_71 : decode cX1_place 71 = .ok (.aload_n 0, 1) := by decide +kernel
theorem dX1_place_72 : decode cX1_place 72 = .ok (.invokevirtual 98, 3) := by decide +kernel
theorem dX1_place_75 : decode cX1_place 75 = .ok (.iload_n 3, 1) := by decide +kernel
theorem dX1_place_76 : decode cX1_place 76 = .ok (.iload_n 2, 1) := by decide +kernel
theorem dX1_place_77 : decode cX1_place 77 = .ok (.iconst 4, 1) := by decide +kernel
theorem dX1_place_78 : decode cX1_place 78 = .ok (.invokestatic 88, 3) := by decide +kernel
theorem dX1_place_81 : decode cX1_place 81 = .ok (.iadd, 1) := by decide +kernel
theorem dX1_place_82 : decode cX1_place 82 = .ok (.goto 15, 3) := by decide +kernel
theorem dX1_place_85 : decode cX1_place 85 = .ok (.aload_n 0, 1) := by decide +kernel
theorem dX1_place_86 : decode cX1_place 86 = .ok (.invokevirtual 82, 3) := by decide +kernel
theorem dX1_place_89 : decode cX1_place 89 = .ok (.iload_n 3, 1) := by decide +kernel
theorem dX1_place_90 : decode cX1_place 90 = .ok (.iload_n 2, 1) := by decide +kernel
theorem dX1_place_91 : decode cX1_place 91 = .ok (.bipush 8, 2) := by decide +kernel
theorem dX1_place_93 : decode cX1_place 93 = .ok (.invokestatic 88, 3) := by decide +kernel
theorem dX1_place_96 : decode cX1_place 96 = .ok (.iadd, 1) := by decide +kernel
theorem dX1_place_97 : decode cX1_place 97 = .ok (.ireturn, 1) := by decide +kernel
theorem dX1_saved_0 : decode cX1_saved 0 = .ok (.iconst 0, 1) := by decide +kernel
theorem dX1_saved_1 : decode cX1_saved 1 = .ok (.istore_n 3, 1) := by decide +kernel
theorem dX1_saved_2 : decode cX1_saved 2 = .ok (.iconst 0, 1) := by decide +kernel
theorem dX1_saved_3 : decode cX1_saved 3 = .ok (.istore 4, 2) := by decide +kernel
theorem dX1_saved_5 : decode cX1_saved 5 = .ok (.iload 4, 2) := by decide +kernel
theorem dX1_saved_7 : decode cX1_saved 7 = .ok (.iload_n 1, 1) := by decide +kernel
theorem dX1_saved_8 : decode cX1_saved 8 = .ok (.if_icmp .ge 20, 3) := by decide +kernel
theorem dX1_saved_11 : decode cX1_saved 11 = .ok (.iload_n 3, 1) := by decide +kernel
theorem dX1_saved_12 : decode cX1_saved 12 = .ok (.iload_n 0, 1) := by decide +kernel
theorem dX1_saved_13 : decode cX1_saved 13 = .ok (.iload 4, 2) := by decide +kernel
theorem dX1_saved_15 : decode cX1_saved 15 = .ok (.ishr, 1) := by decide +kernel
theorem dX1_saved_16 : decode cX1_saved 16 = .ok (.iconst 1, 1) := by decide +kernel
theorem dX1_saved_17 : decode cX1_saved 17 = .ok (.iand, 1) := by decide +kernel
theorem dX1_saved_18 : decode cX1_saved 18 = .ok (.iload_n 2, 1) := by decide +kernel
theorem dX1_saved_19 : decode cX1_saved 19 = .ok (.imul, 1) := by decide +kernel
theorem dX1_saved_20 : decode cX1_saved 20 = .ok (.iadd, 1) := by decide +kernel
theorem dX1_saved_21 : decode cX1_saved 21 = .ok (.istore_n 3, 1) := by decide +kernel
theorem dX1_saved_22 : decode cX1_saved 22 = .ok (.iinc 4 1, 3) := by decide +kernel
theorem dX1_saved_25 : decode cX1_saved 25 = .ok (.goto (-20), 3) := by decide +kernel
theorem dX1_saved_28 : decode cX1_saved 28 = .ok (.iload_n 3, 1) := by decide +kernel
theorem dX1_saved_29 : decode cX1_saved 29 = .ok (.ireturn, 1) := by decide +kernel
