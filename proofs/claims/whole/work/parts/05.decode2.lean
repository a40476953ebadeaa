theorem dX0_clear_0 : decode cX0_clear 0 = .ok (.aload_n 0, 1) := by decide +kernel
theorem dX0_clear_1 : decode cX0_clear 1 = .ok (.getfield 33, 3) := by decide +kernel
theorem dX0_clear_4 : decode cX0_clear 4 = .ok (.istore_n 1, 1) := by decide +kernel
theorem dX0_clear_5 : decode cX0_clear 5 = .ok (.aload_n 0, 1) := by decide +kernel
theorem dX0_clear_6 : decode cX0_clear 6 = .ok (.iconst 0, 1) := by decide +kernel
theorem dX0_clear_7 : decode cX0_clear 7 = .ok (.putfield 33, 3) := by decide +kernel
theorem dX0_clear_10 : decode cX0_clear 10 = .ok (.aload_n 0, 1) := by decide +kernel
theorem dX0_clear_11 : decode cX0_clear 11 = .ok (.iconst 0, 1) := by decide +kernel
theorem dX0_clear_12 : decode cX0_clear 12 = .ok (.putfield 36, 3) := by decide +kernel
theorem dX0_clear_15 : decode cX0_clear 15 = .ok (.aload_n 0, 1) := by decide +kernel
theorem dX0_clear_16 : decode cX0_clear 16 = .ok (.iconst 0, 1) := by decide +kernel
theorem dX0_clear_17 : decode cX0_clear 17 = .ok (.putfield 39, 3) := by decide +kernel
theorem dX0_clear_20 : decode cX0_clear 20 = .ok (.aload_n 0, 1) := by decide +kernel
theorem dX0_clear_21 : decode cX0_clear 21 = .ok (.iconst 0, 1) := by decide +kernel
theorem dX0_clear_22 : decode cX0_clear 22 = .ok (.putfield 42, 3) := by decide +kernel
theorem dX0_clear_25 : decode cX0_clear 25 = .ok (.aload_n 0, 1) := by decide +kernel
theorem dX0_clear_26 : decode cX0_clear 26 = .ok (.iconst 0, 1) := by decide +kernel
theorem dX0_clear_27 : decode cX0_clear 27 = .ok (.putfield 45, 3) := by decide +kernel
theorem dX0_clear_30 : decode cX0_clear 30 = .ok (.aload_n 0, 1) := by decide +kernel
theorem dX0_clear_31 : decode cX0_clear 31 = .ok (.iconst 0, 1) := by decide +kernel
theorem dX0_clear_32 : decode cX0_clear 32 = .ok (.putfield 48, 3) := by decide +kernel
theorem dX0_clear_35 : decode cX0_clear 35 = .ok (.aload_n 0, 1) := by decide +kernel
theorem dX0_clear_36 : decode cX0_clear 36 = .ok (.iconst 0, 1) := by decide +kernel
theorem dX0_clear_37 : decode cX0_clear 37 = .ok (.putfield 51, 3) := by decide +kernel
theorem dX0_clear_40 : decode cX0_clear 40 = .ok (.iload_n 1, 1) := by decide +kernel
theorem dX0_clear_41 : decode cX0_clear 41 = .ok (.ireturn, 1) := by decide +kernel
theorem dX0_fill_0 : decode cX0_fill 0 = .ok (.iload_n 0, 1) := by decide +kernel
theorem dX0_fill_1 : decode cX0_fill 1 = .ok (.iload_n 1, 1) := by decide +kernel
theorem dX0_fill_2 : decode cX0_fill 2 = .ok (.iadd, 1) := by decide +kernel
theorem dX0_fill_3 : decode cX0_fill 3 = .ok (.iconst 1, 1) := by decide +kernel
theorem dX0_fill_4 : decode cX0_fill 4 = .ok (.isub, 1) := by decide +kernel
theorem dX0_fill_5 : decode cX0_fill 5 = .ok (.iload_n 1, 1) := by decide +kernel
theorem dX0_fill_6 : decode cX0_fill 6 = .ok (.ineg, 1) := by decide +kernel
theorem dX0_fill_7 : decode cX0_fill 7 = .ok (.iand, 1) := by decide +kernel
theorem dX0_fill_8 : decode cX0_fill 8 = .ok (.ireturn, 1) := by decide +kernel
theorem dX0_fractionOf_0 : decode cX0_fractionOf 0 = .ok (.bipush 44, 2) := by decide +kernel
theorem dX0_fractionOf_2 : decode cX0_fractionOf 2 = .ok (.iconst 2, 1) := by decide +kernel
theorem dX0_fractionOf_3 : decode cX0_fractionOf 3 = .ok (.iload_n 1, 1) := by decide +kernel
theorem dX0_fractionOf_4 : decode cX0_fractionOf 4 = .ok (.imul, 1) := by decide +kernel
theorem dX0_fractionOf_5 : decode cX0_fractionOf 5 = .ok (.iadd, 1) := by decide +kernel
theorem dX0_fractionOf_6 : decode cX0_fractionOf 6 = .ok (.istore_n 3, 1) := by decide +kernel
theorem dX0_fractionOf_7 : decode cX0_fractionOf 7 = .ok (.aload_n 0, 1) := by decide +kernel
theorem dX0_fractionOf_8 : decode cX0_fractionOf 8 = .ok (.iload_n 1, 1) := by decide +kernel
theorem dX0_fractionOf_9 : decode cX0_fractionOf 9 = .ok (.invokevirtual 96, 3) := by decide +kernel
theorem dX0_fractionOf_12 : decode cX0_fractionOf 12 = .ok (.iconst 2, 1) := by decide +kernel
theorem dX0_fractionOf_13 : decode cX0_fractionOf 13 = .ok (.if_icmp .ne 11, 3) := by decide +kernel
theorem dX0_fractionOf_16 : decode cX0_fractionOf 16 = .ok (.iload_n 3, 1) := by decide +kernel
theorem dX0_fractionOf_17 : decode cX0_fractionOf 17 = .ok (.iconst 1, 1) := by decide +kernel
theorem dX0_fractionOf_18 : decode cX0_fractionOf 18 = .ok (.iadd, 1) := by decide +kernel
theorem dX0_fractionOf_19 : decode cX0_fractionOf 19 = .ok (.iload_n 2, 1) := by decide +kernel
theorem dX0_fractionOf_20 : decode cX0_fractionOf 20 = .ok (.isub, 1) := by decide +kernel
theorem dX0_fractionOf_21 : decode cX0_fractionOf 21 = .ok (.goto 4, 3) := by decide +kernel
theorem dX0_fractionOf_24 : decode cX0_fractionOf 24 = .ok (.iload_n 3, 1) := by decide +kernel
theorem dX0_fractionOf_25 : decode cX0_fractionOf 25 = .ok (.ireturn, 1) := by decide +kernel
theorem dX0_frame_0 : decode cX0_frame 0 = .ok (.iload_n 1, 1) := by decide +kernel
theorem dX0_frame_1 : decode cX0_frame 1 = .ok (.ifCond .lt 9, 3) := by decide +kernel
theorem dX0_frame_4 : decode cX0_frame 4 = .ok (.iload_n 1, 1) := by decide +kernel
theorem dX0_frame_5 : decode cX0_frame 5 = .ok (.ldc 84, 2) := by decide +kernel
theorem dX0_frame_7 : decode cX0_frame 7 = .ok (.if_icmp .le 13, 3) := by decide +kernel
theorem dX0_frame_10 : decode cX0_frame 10 = .ok (.new 54, 3) := by decide +kernel
theorem dX0_frame_13 : decode cX0_frame 13 = .ok (.dup, 1) := by decide +kernel
theorem dX0_frame_14 : decode cX0_frame 14 = .ok (.ldc 131, 2) := by decide +kernel
theorem dX0_frame_16 : decode cX0_frame 16 = .ok (.invokespecial 58, 3) := by decide +kernel
theorem dX0_frame_19 : decode cX0_frame 19 = .ok (.athrow, 1) := by decide +kernel
theorem dX0_frame_20 : decode cX0_frame 20 = .ok (.iload_n 2, 1) := by decide +kernel
theorem dX0_frame_21 : decode cX0_frame 21 = .ok (.ldc 133, 2) := by decide +kernel
theorem dX0_frame_23 : decode cX0_frame 23 = .ok (.iand, 1) := by decide +kernel
theorem dX0_frame_24 : decode cX0_frame 24 = .ok (.ifCond .eq 13, 3) := by decide +kernel
theorem dX0_frame_27 : decode cX0_frame 27 = .ok (.new 54, 3) := by decide +kernel
theorem dX0_frame_30 : decode cX0_frame 30 = .ok (.dup, 1) := by decide +kernel
theorem dX0_frame_31 : decode cX0_frame 31 = .ok (.ldc 134, 2) := by decide +kernel
theorem dX0_frame_33 : decode cX0_frame 33 = .ok (.invokespecial 58, 3) := by decide +kernel
theorem dX0_frame_36 : decode cX0_frame 36 = .ok (.athrow, 1) := by decide +kernel
theorem dX0_frame_37 : decode cX0_frame 37 = .ok (.iload_n 3, 1) := by decide +kernel
theorem dX0_frame_38 : decode cX0_frame 38 = .ok (.ldc 136, 2) := by decide +kernel
theorem dX0_frame_40 : decode cX0_frame 40 = .ok (.iand, 1) := by decide +kernel
theorem dX0_frame_41 : decode cX0_frame 41 = .ok (.ifCond .eq 13, 3) := by decide +kernel
theorem dX0_frame_44 : decode cX0_frame 44 = .ok (.new 54, 3) := by decide +kernel
theorem dX0_frame_47 : decode cX0_frame 47 = .ok (.dup, 1) := by decide +kernel
theorem dX0_frame_48 : decode cX0_frame 48 = .ok (.ldc 137, 2) := by decide +kernel
theorem dX0_frame_50 : decode cX0_frame 50 = .ok (.invokespecial 58, 3) := by decide +kernel
theorem dX0_frame_53 : decode cX0_frame 53 = .ok (.athrow, 1) := by decide +kernel
theorem dX0_frame_54 : decode cX0_frame 54 = .ok (.aload_n 0, 1) := by decide +kernel
theorem dX0_frame_55 : decode cX0_frame 55 = .ok (.aload_n 0, 1) := by decide +kernel
theorem dX0_frame_56 : decode cX0_frame 56 = .ok (.getfield 33, 3) := by decide +kernel
theorem dX0_frame_59 : decode cX0_frame 59 = .ok (.ifCond .le 10, 3) := by decide +kernel
theorem dX0_frame_62 : decode cX0_frame 62 = .ok (.iload_n 2, 1) := by decide +kernel
theorem dX0_frame_63 : decode cX0_frame 63 = .ok (.ldc 139, 2) := by decide +kernel
theorem dX0_frame_65 : decode cX0_frame 65 = .ok (.ior, 1) := by decide +kernel
theorem dX0_frame_66 : decode cX0_frame 66 = .ok (.goto 4, 3) := by decide +kernel
theorem dX0_frame_69 : decode cX0_frame 69 = .ok (.iload_n 2, 1) := by decide +kernel
theorem dX0_frame_70 : decode cX0_frame 70 = .ok (.putfield 48, 3) := by decide +kernel
theorem dX0_frame_73 : decode cX0_frame 73 = .ok (.aload_n 0, 1) := by decide +kernel
theorem dX0_frame_74 : decode cX0_frame 74 = .ok (.iload_n 3, 1) := by decide +kernel
theorem dX0_frame_75 : decode cX0_frame 75 = .ok (.putfield 51, 3) := by decide +kernel
theorem dX0_frame_78 : decode cX0_frame 78 = .ok (.aload_n 0, 1) := by decide +kernel
theorem dX0_frame_79 : decode cX0_frame 79 = .ok (.aload_n 0, 1) := by decide +kernel
theorem dX0_frame_80 : decode cX0_frame 80 = .ok (.getfield 36, 3) := by decide +kernel
theorem dX0_frame_83 : decode cX0_frame 83 = .ok (.bipush 8, 2) := by decide +kernel
theorem dX0_frame_85 : decode cX0_frame 85 = .ok (.invokestatic 81, 3) := by decide +kernel
theorem dX0_frame_88 : decode cX0_frame 88 = .ok (.putfield 39, 3) := by decide +kernel
theorem dX0_frame_91 : decode cX0_frame 91 = .ok (.aload_n 0, 1) := by decide +kernel
theorem dX0_frame_92 : decode cX0_frame 92 = .ok (.aload_n 0, 1) := by decide +kernel
theorem dX0_frame_93 : decode cX0_frame 93 = .ok (.getfield 39, 3) := by decide +kernel
theorem dX0_frame_96 : decode cX0_frame 96 = .ok (.iload_n 1, 1) := by decide +kernel
theorem dX0_frame_97 : decode cX0_frame 97 = .ok (.iadd, 1) := by decide +kernel
theorem dX0_frame_98 : decode cX0_frame 98 = .ok (.bipush 8, 2) := by decide +kernel
theorem dX0_frame_100 : decode cX0_frame 100 = .ok (.invokestatic 81, 3) := by decide +kernel
theorem dX0_frame_103 : decode cX0_frame 103 = .ok (.putfield 42, 3) := by decide +kernel
theorem dX0_frame_106 : decode cX0_frame 106 = .ok (.aload_n 0, 1) := by decide +kernel
theorem dX0_frame_107 : decode cX0_frame 107 = .ok (.aload_n 0, 1) := by decide +kernel
theorem dX0_frame_108 : decode cX0_frame 108 = .ok (.getfield 42, 3) := by decide +kernel
theorem dX0_frame_111 : decode cX0_frame 111 = .ok (.bipush 8, 2) := by decide +kernel
theorem dX0_frame_113 : decode cX0_frame 113 = .ok (.aload_n 0, 1) := by decide +kernel
theorem dX0_frame_114 : decode cX0_frame 114 = .ok (.getfield 51, 3) := by decide +kernel
theorem dX0_frame_117 : decode cX0_frame 117 = .ok (.invokestatic 140, 3) := by decide +kernel
theorem dX0_frame_120 : decode cX0_frame 120 = .ok (.imul, 1) := by decide +kernel
theorem dX0_frame_121 : decode cX0_frame 121 = .ok (.iadd, 1) := by decide +kernel
theorem dX0_frame_122 : decode cX0_frame 122 = .ok (.putfield 45, 3) := by decide +kernel
theorem dX0_frame_125 : decode cX0_frame 125 = .ok (.aload_n 0, 1) := by decide +kernel
theorem dX0_frame_126 : decode cX0_frame 126 = .ok (.getfield 45, 3) := by decide +kernel
theorem dX0_frame_129 : decode cX0_frame 129 = .ok (.iconst 4, 1) := by decide +kernel
theorem dX0_frame_130 : decode cX0_frame 130 = .ok (.aload_n 0, 1) := by decide +kernel
theorem dX0_frame_131 : decode cX0_frame 131 = .ok (.getfield 48, 3) := by decide +kernel
theorem dX0_frame_134 : decode cX0_frame 134 = .ok (.invokestatic 140, 3) := by decide +kernel
theorem dX0_frame_137 : decode cX0_frame 137 = .ok (.imul, 1) := by decide +kernel
theorem dX0_frame_138 : decode cX0_frame 138 = .ok (.iadd, 1) := by decide +kernel
theorem dX0_frame_139 : decode cX0_frame 139 = .ok (.bipush 8, 2) := by decide +kernel
theorem dX0_frame_141 : decode cX0_frame 141 = .ok (.invokestatic 81, 3) := by decide +kernel
theorem dX0_frame_144 : decode cX0_frame 144 = .ok (.ireturn, 1) := by decide +kernel
theorem dX0_homeAlignment_0 : decode cX0_homeAlignment 0 = .ok (.iload_n 0, 1) := by decide +kernel
theorem dX0_homeAlignment_1 : decode cX0_homeAlignment 1 = .ok (.iconst 2, 1) := by decide +kernel
theorem dX0_homeAlignment_2 : decode cX0_homeAlignment 2 = .ok (.if_icmp .eq 14, 3) := by decide +kernel
theorem dX0_homeAlignment_5 : decode cX0_homeAlignment 5 = .ok (.iload_n 0, 1) := by decide +kernel
theorem dX0_homeAlignment_6 : decode cX0_homeAlignment 6 = .ok (.iconst 3, 1) := by decide +kernel
theorem dX0_homeAlignment_7 : decode cX0_homeAlignment 7 = .ok (.if_icmp .ne 14, 3) := by decide +kernel
theorem dX0_homeAlignment_10 : decode cX0_homeAlignment 10 = .ok (.iload_n 1, 1) := by decide +kernel
theorem dX0_homeAlignment_11 : decode cX0_homeAlignment 11 = .ok (.bipush 8, 2) := by decide +kernel
theorem dX0_homeAlignment_13 : decode cX0_homeAlignment 13 = .ok (.if_icmp .ne 8, 3) := by decide +kernel
theorem dX0_homeAlignment_16 : decode cX0_homeAlignment 16 = .ok (.bipush 8, 2) := by decide +kernel
theorem dX0_homeAlignment_18 : decode cX0_homeAlignment 18 = .ok (.goto 4, 3) := by decide +kernel
theorem dX0_homeAlignment_21 : decode cX0_homeAlignment 21 = .ok (.iconst 4, 1) := by decide +kernel
theorem dX0_homeAlignment_22 : decode cX0_homeAlignment 22 = .ok (.ireturn, 1) := by decide +kernel
theorem dX0_homeAt_0 : decode cX0_homeAt 0 = .ok (.aload_n 0, 1) := by decide +kernel
theorem dX0_homeAt_1 : decode cX0_homeAt 1 = .ok (.iload_n 1, 1) := by decide +kernel
theorem dX0_homeAt_2 : decode cX0_homeAt 2 = .ok (.invokevirtual 152, 3) := by decide +kernel
theorem dX0_homeAt_5 : decode cX0_homeAt 5 = .ok (.ifCond .eq 12, 3) := by decide +kernel
theorem dX0_homeAt_8 : decode cX0_homeAt 8 = .ok (.aload_n 0, 1) := by decide +kernel
theorem dX0_homeAt_9 : decode cX0_homeAt 9 = .ok (.getfield 13, 3) := by decide +kernel
theorem dX0_homeAt_12 : decode cX0_homeAt 12 = .ok (.iload_n 1, 1) := by decide +kernel
theorem dX0_homeAt_13 : decode cX0_homeAt 13 = .ok (.iaload, 1) := by decide +kernel
theorem dX0_homeAt_14 : decode cX0_homeAt 14 = .ok (.goto 4, 3) := by decide +kernel
theorem dX0_homeAt_17 : decode cX0_homeAt 17 = .ok (.iconst 0, 1) := by decide +kernel
theorem dX0_homeAt_18 : decode cX0_homeAt 18 = .ok (.ireturn, 1) := by decide +kernel
theorem dX0_init_0 : decode cX0_init 0 = .ok (.aload_n 0, 1) := by decide +kernel
theorem dX0_init_1 : decode cX0_init 1 = .ok (.invokespecial 3, 3) := by decide +kernel
theorem dX0_init_4 : decode cX0_init 4 = .ok (.aload_n 0, 1) := by decide +kernel
theorem dX0_init_5 : decode cX0_init 5 = .ok (.bipush 60, 2) := by decide +kernel
theorem dX0_init_7 : decode cX0_init 7 = .ok (.newarray .int, 2) := by decide +kernel
theorem dX0_init_9 : decode cX0_init 9 = .ok (.putfield 9, 3) := by decide +kernel
theorem dX0_init_12 : decode cX0_init 12 = .ok (.aload_n 0, 1) := by decide +kernel
theorem dX0_init_13 : decode cX0_init 13 = .ok (.bipush 60, 2) := by decide +kernel
theorem dX0_init_15 : decode cX0_init 15 = .ok (.newarray .int, 2) := by decide +kernel
theorem dX0_init_17 : decode cX0_init 17 = .ok (.putfield 13, 3) := by decide +kernel
theorem dX0_init_20 : decode cX0_init 20 = .ok (.aload_n 0, 1) := by decide +kernel
theorem dX0_init_21 : decode cX0_init 21 = .ok (.bipush 60, 2) := by decide +kernel
theorem dX0_init_23 : decode cX0_init 23 = .ok (.newarray .int, 2) := by decide +kernel
theorem dX0_init_25 : decode cX0_init 25 = .ok (.putfield 16, 3) := by decide +kernel
theorem dX0_init_28 : decode cX0_init 28 = .ok (.aload_n 0, 1) := by decide +kernel
theorem dX0_init_29 : decode cX0_init 29 = .ok (.iconst 0, 1) := by decide +kernel
theorem dX0_init_30 : decode cX0_init 30 = .ok (.putfield 19, 3) := by decide +kernel
theorem dX0_init_33 : decode cX0_init 33 = .ok (.aload_n 0, 1) := by decide +kernel
theorem dX0_init_34 : decode cX0_init 34 = .ok (.iconst 4, 1) := by decide +kernel
theorem dX0_init_35 : decode cX0_init 35 = .ok (.putfield 23, 3) := by decide +kernel
theorem dX0_init_38 : decode cX0_init 38 = .ok (.aload_n 0, 1) := by decide +kernel
theorem dX0_init_39 : decode cX0_init 39 = .ok (.iconst 0, 1) := by decide +kernel
theorem dX0_init_40 : decode cX0_init 40 = .ok (.putfield 26, 3) := by decide +kernel
theorem dX0_init_43 : decode cX0_init 43 = .ok (.aload_n 0, 1) := by decide +kernel
theorem dX0_init_44 : decode cX0_init 44 = .ok (.iconst 0, 1) := by decide +kernel
theorem dX0_init_45 : decode cX0_init 45 = .ok (.putfield 30, 3) := by decide +kernel
theorem dX0_init_48 : decode cX0_init 48 = .ok (.aload_n 0, 1) := by decide +kernel
theorem dX0_init_49 : decode cX0_init 49 = .ok (.iconst 0, 1) := by decide +kernel
theorem dX0_init_50 : decode cX0_init 50 = .ok (.putfield 33, 3) := by decide +kernel
theorem dX0_init_53 : decode cX0_init 53 = .ok (.aload_n 0, 1) := by decide +kernel
theorem dX0_init_54 : decode cX0_init 54 = .ok (.iconst 0, 1) := by decide +kernel
theorem dX0_init_55 : decode cX0_init 55 = .ok (.putfield 36, 3) := by decide +kernel
theorem dX0_init_58 : decode cX0_init 58 = .ok (.aload_n 0, 1) := by decide +kernel
theorem dX0_init_59 : decode cX0_init 59 = .ok (.iconst 0, 1) := by decide +kernel
theorem dX0_init_60 : decode cX0_init 60 = .ok (.putfield 39, 3) := by decide +kernel
theorem dX0_init_63 : decode cX0_init 63 = .ok (.aload_n 0, 1) := by decide +kernel
theorem dX0_init_64 : decode cX0_init 64 = .ok (.iconst 0, 1) := by decide +kernel
theorem dX0_init_65 : decode cX0_init 65 = .ok (.putfield 42, 3) := by decide +kernel
theorem dX0_init_68 : decode cX0_init 68 = .ok (.aload_n 0, 1) := by decide +kernel
theorem dX0_init_69 : decode cX0_init 69 = .ok (.iconst 0, 1) := by decide +kernel
theorem dX0_init_70 : decode cX0_init 70 = .ok (.putfield 45, 3) := by decide +kernel
theorem dX0_init_73 : decode cX0_init 73 = .ok (.aload_n 0, 1) := by decide +kernel
theorem dX0_init_74 : decode cX0_init 74 = .ok (.iconst 0, 1) := by decide +kernel
theorem dX0_init_75 : decode cX0_init 75 = .ok (.putfield 48, 3) := by decide +kernel
theorem dX0_init_78 : decode cX0_init 78 = .ok (.aload_n 0, 1) := by decide +kernel
theorem dX0_init_79 : decode cX0_init 79 = .ok (.iconst 0, 1) := by decide +kernel
theorem dX0_init_80 : decode cX0_init 80 = .ok (.putfield 51, 3) := by decide +kernel
theorem dX0_init_83 : decode cX0_init 83 = .ok (.return_, 1) := by decide +kernel
theorem dX0_isAdded_0 : decode cX0_isAdded 0 = .ok (.iload_n 1, 1) := by decide +kernel
theorem dX0_isAdded_1 : decode cX0_isAdded 1 = .ok (.ifCond .lt 21, 3) := by decide +kernel
theorem dX0_isAdded_4 : decode cX0_isAdded 4 = .ok (.iload_n 1, 1) := by decide +kernel
theorem dX0_isAdded_5 : decode cX0_isAdded 5 = .ok (.aload_n 0, 1) := by decide +kernel
theorem dX0_isAdded_6 : decode cX0_isAdded 6 = .ok (.getfield 19, 3) := by decide +kernel
theorem dX0_isAdded_9 : decode cX0_isAdded 9 = .ok (.if_icmp .ge 13, 3) := by decide +kernel
theorem dX0_isAdded_12 : decode cX0_isAdded 12 = .ok (.iload_n 1, 1) := by decide +kernel
theorem dX0_isAdded_13 : decode cX0_isAdded 13 = .ok (.bipush 60, 2) := by decide +kernel
theorem dX0_isAdded_15 : decode cX0_isAdded 15 = .ok (.if_icmp .ge 7, 3) := by decide +kernel
theorem dX0_isAdded_18 : decode cX0_isAdded 18 = .ok (.iconst 1, 1) := by decide +kernel
theorem dX0_isAdded_19 : decode cX0_isAdded 19 = .ok (.goto 4, 3) := by decide +kernel
theorem dX0_isAdded_22 : decode cX0_isAdded 22 = .ok (.iconst 0, 1) := by decide +kernel
theorem dX0_isAdded_23 : decode cX0_isAdded 23 = .ok (.ireturn, 1) := by decide +kernel
theorem dX0_isArgument_0 : decode cX0_isArgument 0 = .ok (.iload_n 1, 1) := by decide +kernel
theorem dX0_isArgument_1 : decode cX0_isArgument 1 = .ok (.iconst (-1), 1) := by decide +kernel
theorem dX0_isArgument_2 : decode cX0_isArgument 2 = .ok (.if_icmp .ne 17, 3) := by decide +kernel
theorem dX0_isArgument_5 : decode cX0_isArgument 5 = .ok (.aload_n 0, 1) := by decide +kernel
theorem dX0_isArgument_6 : decode cX0_isArgument 6 = .ok (.getfield 23, 3) := by decide +kernel
theorem dX0_isArgument_9 : decode cX0_isArgument 9 = .ok (.iconst 3, 1) := by decide +kernel
theorem dX0_isArgument_10 : decode cX0_isArgument 10 = .ok (.if_icmp .ne 7, 3) := by decide +kernel
theorem dX0_isArgument_13 : decode cX0_isArgument 13 = .ok (.iconst 1, 1) := by decide +kernel
theorem dX0_isArgument_14 : decode cX0_isArgument 14 = .ok (.goto 4, 3) := by decide +kernel
theorem dX0_isArgument_17 : decode cX0_isArgument 17 = .ok (.iconst 0, 1) := by decide +kernel
theorem dX0_isArgument_18 : decode cX0_isArgument 18 = .ok (.ireturn, 1) := by decide +kernel
theorem dX0_isArgument_19 : decode cX0_isArgument 19 = .ok (.aload_n 0, 1) := by decide +kernel
theorem dX0_isArgument_20 : decode cX0_isArgument 20 = .ok (.iload_n 1, 1) := by decide +kernel
theorem dX0_isArgument_21 : decode cX0_isArgument 21 = .ok (.invokevirtual 152, 3) := by decide +kernel
theorem dX0_isArgument_24 : decode cX0_isArgument 24 = .ok (.ireturn, 1) := by decide +kernel
theorem dX0_isFractional_0 : decode cX0_isFractional 0 = .ok (.aload_n 0, 1) := by decide +kernel
theorem dX0_isFractional_1 : decode cX0_isFractional 1 = .ok (.iload_n 1, 1) := by decide +kernel
theorem dX0_isFractional_2 : decode cX0_isFractional 2 = .ok (.invokevirtual 152, 3) := by decide +kernel
theorem dX0_isFractional_5 : decode cX0_isFractional 5 = .ok (.ifCond .eq 27, 3) := by decide +kernel
theorem dX0_isFractional_8 : decode cX0_isFractional 8 = .ok (.aload_n 0, 1) := by decide +kernel
theorem dX0_isFractional_9 : decode cX0_isFractional 9 = .ok (.getfield 9, 3) := by decide +kernel
theorem dX0_isFractional_12 : decode cX0_isFractional 12 = .ok (.iload_n 1, 1) := by decide +kernel
theorem dX0_isFractional_13 : decode cX0_isFractional 13 = .ok (.iaload, 1) := by decide +kernel
theorem dX0_isFractional_14 : decode cX0_isFractional 14 = .ok (.iconst 1, 1) := by decide +kernel
theorem dX0_isFractional_15 : decode cX0_isFractional 15 = .ok (.if_icmp .eq 13, 3) := by decide +kernel
theorem dX0_isFractional_18 : decode cX0_isFractional 18 = .ok (.aload_n 0, 1) := by decide +kernel
theorem dX0_isFractional_19 : decode cX0_isFractional 19 = .ok (.getfield 9, 3) := by decide +kernel
theorem dX0_isFractional_22 : decode cX0_isFractional 22 = .ok (.iload_n 1, 1) := by decide +kernel
theorem dX0_isFractional_23 : decode cX0_isFractional 23 = .ok (.iaload, 1) := by decide +kernel
theorem dX0_isFractional_24 : decode cX0_isFractional 24 = .ok (.iconst 2, 1) := by decide +kernel
theorem dX0_isFractional_25 : decode cX0_isFractional 25 = .ok (.if_icmp .ne 7, 3) := by decide +kernel
theorem dX0_isFractional_28 : decode cX0_isFractional 28 = .ok (.iconst 1, 1) := by decide +kernel
theorem dX0_isFractional_29 : decode cX0_isFractional 29 = .ok (.goto 4, 3) := by decide +kernel
theorem dX0_isFractional_32 : decode cX0_isFractional 32 = .ok (.iconst 0, 1) := by decide +kernel
theorem dX0_isFractional_33 : decode cX0_isFractional 33 = .ok (.ireturn, 1) := by decide +kernel
theorem dX0_isInFraction_0 : decode cX0_isInFraction 0 = .ok (.aload_n 0, 1) := by decide +kernel
theorem dX0_isInFraction_1 : decode cX0_isInFraction 1 = .ok (.getfield 26, 3) := by decide +kernel
theorem dX0_isInFraction_4 : decode cX0_isInFraction 4 = .ok (.ifCond .ne 11, 3) := by decide +kernel
theorem dX0_isInFraction_7 : decode cX0_isInFraction 7 = .ok (.aload_n 0, 1) := by decide +kernel
theorem dX0_isInFraction_8 : decode cX0_isInFraction 8 = .ok (.getfield 23, 3) := by decide +kernel
theorem dX0_isInFraction_11 : decode cX0_isInFraction 11 = .ok (.iconst 3, 1) := by decide +kernel
theorem dX0_isInFraction_12 : decode cX0_isInFraction 12 = .ok (.if_icmp .ne 5, 3) := by decide +kernel
theorem dX0_isInFraction_15 : decode cX0_isInFraction 15 = .ok (.iconst 0, 1) := by decide +kernel
theorem dX0_isInFraction_16 : decode cX0_isInFraction 16 = .ok (.ireturn, 1) := by decide +kernel
theorem dX0_isInFraction_17 : decode cX0_isInFraction 17 = .ok (.iload_n 1, 1) := by decide +kernel
theorem dX0_isInFraction_18 : decode cX0_isInFraction 18 = .ok (.ifCond .ne 9, 3) := by decide +kernel
theorem dX0_isInFraction_21 : decode cX0_isInFraction 21 = .ok (.aload_n 0, 1) := by decide +kernel
theorem dX0_isInFraction_22 : decode cX0_isInFraction 22 = .ok (.iconst 0, 1) := by decide +kernel
theorem dX0_isInFraction_23 : decode cX0_isInFraction 23 = .ok (.invokevirtual 155, 3) := by decide +kernel
theorem dX0_isInFraction_26 : decode cX0_isInFraction 26 = .ok (.ireturn, 1) := by decide +kernel
theorem dX0_isInFraction_27 : decode cX0_isInFraction 27 = .ok (.iload_n 1, 1) := by decide +kernel
theorem dX0_isInFraction_28 : decode cX0_isInFraction 28 = .ok (.iconst 1, 1) := by decide +kernel
theorem dX0_isInFraction_29 : decode cX0_isInFraction 29 = .ok (.if_icmp .ne 23, 3) := by decide +kernel
theorem dX0_isInFraction_32 : decode cX0_isInFraction 32 = .ok (.aload_n 0, 1) := by decide +kernel
theorem dX0_isInFraction_33 : decode cX0_isInFraction 33 = .ok (.iconst 0, 1) := by decide +kernel
theorem dX0_isInFraction_34 : decode cX0_isInFraction 34 = .ok (.invokevirtual 155, 3) := by decide +kernel
theorem dX0_isInFraction_37 : decode cX0_isInFraction 37 = .ok (.ifCond .eq 15, 3) := by decide +kernel
theorem dX0_isInFraction_40 : decode cX0_isInFraction 40 = .ok (.aload_n 0, 1) := by decide +kernel
theorem dX0_isInFraction_41 : decode cX0_isInFraction 41 = .ok (.iconst 1, 1) := by decide +kernel
theorem dX0_isInFraction_42 : decode cX0_isInFraction 42 = .ok (.invokevirtual 155, 3) := by decide +kernel
theorem dX0_isInFraction_45 : decode cX0_isInFraction 45 = .ok (.ifCond .eq 7, 3) := by decide +kernel
theorem dX0_isInFraction_48 : decode cX0_isInFraction 48 = .ok (.iconst 1, 1) := by decide +kernel
theorem dX0_isInFraction_49 : decode cX0_isInFraction 49 = .ok (.goto 4, 3) := by decide +kernel
theorem dX0_isInFraction_52 : decode cX0_isInFraction 52 = .ok (.iconst 0, 1) := by decide +kernel
theorem dX0_isInFraction_53 : decode cX0_isInFraction 53 = .ok (.ireturn, 1) := by decide +kernel
theorem dX0_isRecord_0 : decode cX0_isRecord 0 = .ok (.iload_n 1, 1) := by decide +kernel
theorem dX0_isRecord_1 : decode cX0_isRecord 1 = .ok (.iconst 1, 1) := by decide +kernel
theorem dX0_isRecord_2 : decode cX0_isRecord 2 = .ok (.if_icmp .eq 21, 3) := by decide +kernel
theorem dX0_isRecord_5 : decode cX0_isRecord 5 = .ok (.iload_n 1, 1) := by decide +kernel
theorem dX0_isRecord_6 : decode cX0_isRecord 6 = .ok (.iconst 2, 1) := by decide +kernel
theorem dX0_isRecord_7 : decode cX0_isRecord 7 = .ok (.if_icmp .eq 16, 3) := by decide +kernel
theorem dX0_isRecord_10 : decode cX0_isRecord 10 = .ok (.iload_n 1, 1) := by decide +kernel
theorem dX0_isRecord_11 : decode cX0_isRecord 11 = .ok (.iconst 4, 1) := by decide +kernel
theorem dX0_isRecord_12 : decode cX0_isRecord 12 = .ok (.if_icmp .eq 11, 3) := by decide +kernel
theorem dX0_isRecord_15 : decode cX0_isRecord 15 = .ok (.iload_n 1, 1) := by decide +kernel
theorem dX0_isRecord_16 : decode cX0_isRecord 16 = .ok (.bipush 8, 2) := by decide +kernel
theorem dX0_isRecord_18 : decode cX0_isRecord 18 = .ok (.if_icmp .eq 5, 3) := by decide +kernel
theorem dX0_isRecord_21 : decode cX0_isRecord 21 = .ok (.iconst 0, 1) := by decide +kernel
theorem dX0_isRecord_22 : decode cX0_isRecord 22 = .ok (.ireturn, 1) := by decide +kernel
theorem dX0_isRecord_23 : decode cX0_isRecord 23 = .ok (.iload_n 0, 1) := by decide +kernel
theorem dX0_isRecord_24 : decode cX0_isRecord 24 = .ok (.iconst 1, 1) := by decide +kernel
theorem dX0_isRecord_25 : decode cX0_isRecord 25 = .ok (.if_icmp .lt 22, 3) := by decide +kernel
theorem dX0_isRecord_28 : decode cX0_isRecord 28 = .ok (.iload_n 0, 1) := by decide +kernel
theorem dX0_isRecord_29 : decode cX0_isRecord 29 = .ok (.ldc 151, 2) := by decide +kernel
theorem dX0_isRecord_31 : decode cX0_isRecord 31 = .ok (.if_icmp .gt 16, 3) := by decide +kernel
theorem dX0_isRecord_34 : decode cX0_isRecord 34 = .ok (.iload_n 0, 1) := by decide +kernel
theorem dX0_isRecord_35 : decode cX0_isRecord 35 = .ok (.iload_n 1, 1) := by decide +kernel
theorem dX0_isRecord_36 : decode cX0_isRecord 36 = .ok (.invokestatic 81, 3) := by decide +kernel
theorem dX0_isRecord_39 : decode cX0_isRecord 39 = .ok (.iload_n 0, 1) := by decide +kernel
theorem dX0_isRecord_40 : decode cX0_isRecord 40 = .ok (.if_icmp .ne 7, 3) := by decide +kernel
theorem dX0_isRecord_43 : decode cX0_isRecord 43 = .ok (.iconst 1, 1) := by decide +kernel
theorem dX0_isRecord_44 : decode cX0_isRecord 44 = .ok (.goto 4, 3) := by decide +kernel
theorem dX0_isRecord_47 : decode cX0_isRecord 47 = .ok (.iconst 0, 1) := by decide +kernel
theorem dX0_isRecord_48 : decode cX0_isRecord 48 = .ok (.ireturn, 1) := by decide +kernel
theorem dX0_place_0 : decode cX0_place 0 = .ok (.iload_n 2, 1) := by decide +kernel
theorem dX0_place_1 : decode cX0_place 1 = .ok (.ifCond .lt 9, 3) := by decide +kernel
theorem dX0_place_4 : decode cX0_place 4 = .ok (.iload_n 2, 1) := by decide +kernel
theorem dX0_place_5 : decode cX0_place 5 = .ok (.bipush 32, 2) := by decide +kernel
theorem dX0_place_7 : decode cX0_place 7 = .ok (.if_icmp .lt 13, 3) := by decide +kernel
theorem dX0_place_10 : decode cX0_place 10 = .ok (.new 91, 3) := by decide +kernel
theorem dX0_place_13 : decode cX0_place 13 = .ok (.dup, 1) := by decide +kernel
theorem dX0_place_14 : decode cX0_place 14 = .ok (.ldc 145, 2) := by decide +kernel
theorem dX0_place_16 : decode cX0_place 16 = .ok (.invokespecial 95, 3) := by decide +kernel
theorem dX0_place_19 : decode cX0_place 19 = .ok (.athrow, 1) := by decide +kernel
theorem dX0_place_20 : decode cX0_place 20 = .ok (.iload_n 1, 1) := by decide +kernel
theorem dX0_place_21 : decode cX0_place 21 = .ok (.tableswitch 61 0 2 #[27, 32, 46], 27) := by decide +kernel
theorem dX0_place_48 : decode cX0_place 48 = .ok (.aload_n 0, 1) := by decide +kernel
theorem dX0_place_49 : decode cX0_place 49 = .ok (.getfield 39, 3) := by decide +kernel
theorem dX0_place_52 : decode cX0_place 52 = .ok (.ireturn, 1) := by decide +kernel
theorem dX0_place_53 : decode cX0_place 53 = .ok (.aload_n 0, 1) := by decide +kernel
theorem dX0_place_54 : decode cX0_place 54 = .ok (.getfield 48, 3) := by decide +kernel
theorem dX0_place_57 : decode cX0_place 57 = .ok (.iload_n 2, 1) := by decide +kernel
theorem dX0_place_58 : decode cX0_place 58 = .ok (.aload_n 0, 1) := by decide +kernel
theorem dX0_place_59 : decode cX0_place 59 = .ok (.getfield 45, 3) := by decide +kernel
theorem dX0_place_62 : decode cX0_place 62 = .ok (.iconst 4, 1) := by decide +kernel
theorem dX0_place_63 : decode cX0_place 63 = .ok (.invokestatic 147, 3) := by decide +kernel
theorem dX0_place_66 : decode cX0_place 66 = .ok (.ireturn, 1) := by decide +kernel
theorem dX0_place_67 : decode cX0_place 67 = .ok (.aload_n 0, 1) := by decide +kernel
theorem dX0_place_68 : decode cX0_place 68 = .ok (.getfield 51, 3) := by decide +kernel
theorem dX0_place_71 : decode cX0_place 71 = .ok (.iload_n 2, 1) := by decide +kernel
theorem dX0_place_72 : decode cX0_place 72 = .ok (.aload_n 0, 1) := by decide +kernel
theorem dX0_place_73 : decode cX0_place 73 = .ok (.getfield 42, 3) := by decide +kernel
theorem dX0_place_76 : decode cX0_place 76 = .ok (.bipush 8, 2) := by decide +kernel
theorem dX0_place_78 : decode cX0_place 78 = .ok (.invokestatic 147, 3) := by decide +kernel
theorem dX0_place_81 : decode cX0_place 81 = .ok (.ireturn, 1) := by decide +kernel
theorem dX0_place_82 : decode cX0_place 82 = .ok (.new 91, 3) := by decide +kernel
theorem dX0_place_85 : decode cX0_place 85 = .ok (.dup, 1) := by decide +kernel
theorem dX0_place_86 : decode cX0_place 86 = .ok (.ldc 117, 2) := by decide +kernel
theorem dX0_place_88 : decode cX0_place 88 = .ok (.invokespecial 95, 3) := by decide +kernel
theorem dX0_place_91 : decode cX0_place 91 = .ok (.athrow, 1) := by decide +kernel
