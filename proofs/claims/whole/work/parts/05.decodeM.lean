theorem dM_start_0 : decode cM_start 0 = .ok (.iconst 0, 1) := by decide +kernel
theorem dM_start_1 : decode cM_start 1 = .ok (.istore_n 2, 1) := by decide +kernel
theorem dM_start_2 : decode cM_start 2 = .ok (.iconst 0, 1) := by decide +kernel
theorem dM_start_3 : decode cM_start 3 = .ok (.istore_n 3, 1) := by decide +kernel
theorem dM_start_4 : decode cM_start 4 = .ok (.iload_n 3, 1) := by decide +kernel
theorem dM_start_5 : decode cM_start 5 = .ok (.iload_n 1, 1) := by decide +kernel
theorem dM_start_6 : decode cM_start 6 = .ok (.if_icmp .ge 18, 3) := by decide +kernel
theorem dM_start_9 : decode cM_start 9 = .ok (.iload_n 2, 1) := by decide +kernel
theorem dM_start_10 : decode cM_start 10 = .ok (.aload_n 0, 1) := by decide +kernel
theorem dM_start_11 : decode cM_start 11 = .ok (.getfield 20, 3) := by decide +kernel
theorem dM_start_14 : decode cM_start 14 = .ok (.iload_n 3, 1) := by decide +kernel
theorem dM_start_15 : decode cM_start 15 = .ok (.iaload, 1) := by decide +kernel
theorem dM_start_16 : decode cM_start 16 = .ok (.iadd, 1) := by decide +kernel
theorem dM_start_17 : decode cM_start 17 = .ok (.istore_n 2, 1) := by decide +kernel
theorem dM_start_18 : decode cM_start 18 = .ok (.iinc 3 1, 3) := by decide +kernel
theorem dM_start_21 : decode cM_start 21 = .ok (.goto (-17), 3) := by decide +kernel
theorem dM_start_24 : decode cM_start 24 = .ok (.iload_n 2, 1) := by decide +kernel
theorem dM_start_25 : decode cM_start 25 = .ok (.ireturn, 1) := by decide +kernel
theorem dM_goes_0 : decode cM_goes 0 = .ok (.aload_n 0, 1) := by decide +kernel
theorem dM_goes_1 : decode cM_goes 1 = .ok (.getfield 20, 3) := by decide +kernel
theorem dM_goes_4 : decode cM_goes 4 = .ok (.iconst 0, 1) := by decide +kernel
theorem dM_goes_5 : decode cM_goes 5 = .ok (.iaload, 1) := by decide +kernel
theorem dM_goes_6 : decode cM_goes 6 = .ok (.istore_n 1, 1) := by decide +kernel
theorem dM_goes_7 : decode cM_goes 7 = .ok (.iconst 0, 1) := by decide +kernel
theorem dM_goes_8 : decode cM_goes 8 = .ok (.istore_n 2, 1) := by decide +kernel
theorem dM_goes_9 : decode cM_goes 9 = .ok (.iload_n 2, 1) := by decide +kernel
theorem dM_goes_10 : decode cM_goes 10 = .ok (.iload_n 1, 1) := by decide +kernel
theorem dM_goes_11 : decode cM_goes 11 = .ok (.iadd, 1) := by decide +kernel
theorem dM_goes_12 : decode cM_goes 12 = .ok (.aload_n 0, 1) := by decide +kernel
theorem dM_goes_13 : decode cM_goes 13 = .ok (.getfield 33, 3) := by decide +kernel
theorem dM_goes_16 : decode cM_goes 16 = .ok (.if_icmp .ge 23, 3) := by decide +kernel
theorem dM_goes_19 : decode cM_goes 19 = .ok (.aload_n 0, 1) := by decide +kernel
theorem dM_goes_20 : decode cM_goes 20 = .ok (.getfield 23, 3) := by decide +kernel
theorem dM_goes_23 : decode cM_goes 23 = .ok (.iload_n 2, 1) := by decide +kernel
theorem dM_goes_24 : decode cM_goes 24 = .ok (.aload_n 0, 1) := by decide +kernel
theorem dM_goes_25 : decode cM_goes 25 = .ok (.getfield 23, 3) := by decide +kernel
theorem dM_goes_28 : decode cM_goes 28 = .ok (.iload_n 2, 1) := by decide +kernel
theorem dM_goes_29 : decode cM_goes 29 = .ok (.iload_n 1, 1) := by decide +kernel
theorem dM_goes_30 : decode cM_goes 30 = .ok (.iadd, 1) := by decide +kernel
theorem dM_goes_31 : decode cM_goes 31 = .ok (.baload, 1) := by decide +kernel
theorem dM_goes_32 : decode cM_goes 32 = .ok (.bastore, 1) := by decide +kernel
theorem dM_goes_33 : decode cM_goes 33 = .ok (.iinc 2 1, 3) := by decide +kernel
theorem dM_goes_36 : decode cM_goes 36 = .ok (.goto (-27), 3) := by decide +kernel
theorem dM_goes_39 : decode cM_goes 39 = .ok (.aload_n 0, 1) := by decide +kernel
theorem dM_goes_40 : decode cM_goes 40 = .ok (.dup, 1) := by decide +kernel
theorem dM_goes_41 : decode cM_goes 41 = .ok (.getfield 33, 3) := by decide +kernel
theorem dM_goes_44 : decode cM_goes 44 = .ok (.iload_n 1, 1) := by decide +kernel
theorem dM_goes_45 : decode cM_goes 45 = .ok (.isub, 1) := by decide +kernel
theorem dM_goes_46 : decode cM_goes 46 = .ok (.putfield 33, 3) := by decide +kernel
theorem dM_goes_49 : decode cM_goes 49 = .ok (.aload_n 0, 1) := by decide +kernel
theorem dM_goes_50 : decode cM_goes 50 = .ok (.dup, 1) := by decide +kernel
theorem dM_goes_51 : decode cM_goes 51 = .ok (.getfield 36, 3) := by decide +kernel
theorem dM_goes_54 : decode cM_goes 54 = .ok (.iconst 1, 1) := by decide +kernel
theorem dM_goes_55 : decode cM_goes 55 = .ok (.isub, 1) := by decide +kernel
theorem dM_goes_56 : decode cM_goes 56 = .ok (.putfield 36, 3) := by decide +kernel
theorem dM_goes_59 : decode cM_goes 59 = .ok (.iconst 0, 1) := by decide +kernel
theorem dM_goes_60 : decode cM_goes 60 = .ok (.istore_n 2, 1) := by decide +kernel
theorem dM_goes_61 : decode cM_goes 61 = .ok (.iload_n 2, 1) := by decide +kernel
theorem dM_goes_62 : decode cM_goes 62 = .ok (.aload_n 0, 1) := by decide +kernel
theorem dM_goes_63 : decode cM_goes 63 = .ok (.getfield 36, 3) := by decide +kernel
theorem dM_goes_66 : decode cM_goes 66 = .ok (.if_icmp .ge 37, 3) := by decide +kernel
theorem dM_goes_69 : decode cM_goes 69 = .ok (.aload_n 0, 1) := by decide +kernel
theorem dM_goes_70 : decode cM_goes 70 = .ok (.getfield 16, 3) := by decide +kernel
theorem dM_goes_73 : decode cM_goes 73 = .ok (.iload_n 2, 1) := by decide +kernel
theorem dM_goes_74 : decode cM_goes 74 = .ok (.aload_n 0, 1) := by decide +kernel
theorem dM_goes_75 : decode cM_goes 75 = .ok (.getfield 16, 3) := by decide +kernel
theorem dM_goes_78 : decode cM_goes 78 = .ok (.iload_n 2, 1) := by decide +kernel
theorem dM_goes_79 : decode cM_goes 79 = .ok (.iconst 1, 1) := by decide +kernel
theorem dM_goes_80 : decode cM_goes 80 = .ok (.iadd, 1) := by decide +kernel
theorem dM_goes_81 : decode cM_goes 81 = .ok (.iaload, 1) := by decide +kernel
theorem dM_goes_82 : decode cM_goes 82 = .ok (.iastore, 1) := by decide +kernel
theorem dM_goes_83 : decode cM_goes 83 = .ok (.aload_n 0, 1) := by decide +kernel
theorem dM_goes_84 : decode cM_goes 84 = .ok (.getfield 20, 3) := by decide +kernel
theorem dM_goes_87 : decode cM_goes 87 = .ok (.iload_n 2, 1) := by decide +kernel
theorem dM_goes_88 : decode cM_goes 88 = .ok (.aload_n 0, 1) := by decide +kernel
theorem dM_goes_89 : decode cM_goes 89 = .ok (.getfield 20, 3) := by decide +kernel
theorem dM_goes_92 : decode cM_goes 92 = .ok (.iload_n 2, 1) := by decide +kernel
theorem dM_goes_93 : decode cM_goes 93 = .ok (.iconst 1, 1) := by decide +kernel
theorem dM_goes_94 : decode cM_goes 94 = .ok (.iadd, 1) := by decide +kernel
theorem dM_goes_95 : decode cM_goes 95 = .ok (.iaload, 1) := by decide +kernel
theorem dM_goes_96 : decode cM_goes 96 = .ok (.iastore, 1) := by decide +kernel
theorem dM_goes_97 : decode cM_goes 97 = .ok (.iinc 2 1, 3) := by decide +kernel
theorem dM_goes_100 : decode cM_goes 100 = .ok (.goto (-39), 3) := by decide +kernel
theorem dM_goes_103 : decode cM_goes 103 = .ok (.return_, 1) := by decide +kernel
theorem dM_init_0 : decode cM_init 0 = .ok (.aload_n 0, 1) := by decide +kernel
theorem dM_init_1 : decode cM_init 1 = .ok (.invokespecial 1, 3) := by decide +kernel
theorem dM_init_4 : decode cM_init 4 = .ok (.aload_n 0, 1) := by decide +kernel
theorem dM_init_5 : decode cM_init 5 = .ok (.sipush 512, 3) := by decide +kernel
theorem dM_init_8 : decode cM_init 8 = .ok (.newarray .byte, 2) := by decide +kernel
theorem dM_init_10 : decode cM_init 10 = .ok (.putfield 7, 3) := by decide +kernel
theorem dM_init_13 : decode cM_init 13 = .ok (.aload_n 0, 1) := by decide +kernel
theorem dM_init_14 : decode cM_init 14 = .ok (.sipush 512, 3) := by decide +kernel
theorem dM_init_17 : decode cM_init 17 = .ok (.newarray .byte, 2) := by decide +kernel
theorem dM_init_19 : decode cM_init 19 = .ok (.putfield 13, 3) := by decide +kernel
theorem dM_init_22 : decode cM_init 22 = .ok (.aload_n 0, 1) := by decide +kernel
theorem dM_init_23 : decode cM_init 23 = .ok (.sipush 16384, 3) := by decide +kernel
theorem dM_init_26 : decode cM_init 26 = .ok (.newarray .int, 2) := by decide +kernel
theorem dM_init_28 : decode cM_init 28 = .ok (.putfield 16, 3) := by decide +kernel
theorem dM_init_31 : decode cM_init 31 = .ok (.aload_n 0, 1) := by decide +kernel
theorem dM_init_32 : decode cM_init 32 = .ok (.sipush 16384, 3) := by decide +kernel
theorem dM_init_35 : decode cM_init 35 = .ok (.newarray .int, 2) := by decide +kernel
theorem dM_init_37 : decode cM_init 37 = .ok (.putfield 20, 3) := by decide +kernel
theorem dM_init_40 : decode cM_init 40 = .ok (.aload_n 0, 1) := by decide +kernel
theorem dM_init_41 : decode cM_init 41 = .ok (.sipush 16384, 3) := by decide +kernel
theorem dM_init_44 : decode cM_init 44 = .ok (.newarray .byte, 2) := by decide +kernel
theorem dM_init_46 : decode cM_init 46 = .ok (.putfield 23, 3) := by decide +kernel
theorem dM_init_49 : decode cM_init 49 = .ok (.aload_n 0, 1) := by decide +kernel
theorem dM_init_50 : decode cM_init 50 = .ok (.iload_n 1, 1) := by decide +kernel
theorem dM_init_51 : decode cM_init 51 = .ok (.bipush 64, 2) := by decide +kernel
theorem dM_init_53 : decode cM_init 53 = .ok (.if_icmp .ge 8, 3) := by decide +kernel
theorem dM_init_56 : decode cM_init 56 = .ok (.bipush 64, 2) := by decide +kernel
theorem dM_init_58 : decode cM_init 58 = .ok (.goto 17, 3) := by decide +kernel
theorem dM_init_61 : decode cM_init 61 = .ok (.iload_n 1, 1) := by decide +kernel
theorem dM_init_62 : decode cM_init 62 = .ok (.sipush 16384, 3) := by decide +kernel
theorem dM_init_65 : decode cM_init 65 = .ok (.if_icmp .le 9, 3) := by decide +kernel
theorem dM_init_68 : decode cM_init 68 = .ok (.sipush 16384, 3) := by decide +kernel
theorem dM_init_71 : decode cM_init 71 = .ok (.goto 4, 3) := by decide +kernel
theorem dM_init_74 : decode cM_init 74 = .ok (.iload_n 1, 1) := by decide +kernel
theorem dM_init_75 : decode cM_init 75 = .ok (.putfield 26, 3) := by decide +kernel
theorem dM_init_78 : decode cM_init 78 = .ok (.return_, 1) := by decide +kernel
theorem dM_put_0 : decode cM_put 0 = .ok (.aload_n 0, 1) := by decide +kernel
theorem dM_put_1 : decode cM_put 1 = .ok (.iconst 0, 1) := by decide +kernel
theorem dM_put_2 : decode cM_put 2 = .ok (.putfield 30, 3) := by decide +kernel
theorem dM_put_5 : decode cM_put 5 = .ok (.aload_n 0, 1) := by decide +kernel
theorem dM_put_6 : decode cM_put 6 = .ok (.getfield 39, 3) := by decide +kernel
theorem dM_put_9 : decode cM_put 9 = .ok (.sipush 512, 3) := by decide +kernel
theorem dM_put_12 : decode cM_put 12 = .ok (.if_icmp .ne 5, 3) := by decide +kernel
theorem dM_put_15 : decode cM_put 15 = .ok (.iconst (-1), 1) := by decide +kernel
theorem dM_put_16 : decode cM_put 16 = .ok (.ireturn, 1) := by decide +kernel
theorem dM_put_17 : decode cM_put 17 = .ok (.aload_n 0, 1) := by decide +kernel
theorem dM_put_18 : decode cM_put 18 = .ok (.getfield 7, 3) := by decide +kernel
theorem dM_put_21 : decode cM_put 21 = .ok (.aload_n 0, 1) := by decide +kernel
theorem dM_put_22 : decode cM_put 22 = .ok (.getfield 39, 3) := by decide +kernel
theorem dM_put_25 : decode cM_put 25 = .ok (.iload_n 1, 1) := by decide +kernel
theorem dM_put_26 : decode cM_put 26 = .ok (.i2b, 1) := by decide +kernel
theorem dM_put_27 : decode cM_put 27 = .ok (.bastore, 1) := by decide +kernel
theorem dM_put_28 : decode cM_put 28 = .ok (.aload_n 0, 1) := by decide +kernel
theorem dM_put_29 : decode cM_put 29 = .ok (.dup, 1) := by decide +kernel
theorem dM_put_30 : decode cM_put 30 = .ok (.getfield 39, 3) := by decide +kernel
theorem dM_put_33 : decode cM_put 33 = .ok (.iconst 1, 1) := by decide +kernel
theorem dM_put_34 : decode cM_put 34 = .ok (.iadd, 1) := by decide +kernel
theorem dM_put_35 : decode cM_put 35 = .ok (.putfield 39, 3) := by decide +kernel
theorem dM_put_38 : decode cM_put 38 = .ok (.aload_n 0, 1) := by decide +kernel
theorem dM_put_39 : decode cM_put 39 = .ok (.getfield 39, 3) := by decide +kernel
theorem dM_put_42 : decode cM_put 42 = .ok (.ireturn, 1) := by decide +kernel
theorem dM_keep_0 : decode cM_keep 0 = .ok (.aload_n 0, 1) := by decide +kernel
theorem dM_keep_1 : decode cM_keep 1 = .ok (.iconst 0, 1) := by decide +kernel
theorem dM_keep_2 : decode cM_keep 2 = .ok (.putfield 30, 3) := by decide +kernel
theorem dM_keep_5 : decode cM_keep 5 = .ok (.aload_n 0, 1) := by decide +kernel
theorem dM_keep_6 : decode cM_keep 6 = .ok (.getfield 39, 3) := by decide +kernel
theorem dM_keep_9 : decode cM_keep 9 = .ok (.istore_n 2, 1) := by decide +kernel
theorem dM_keep_10 : decode cM_keep 10 = .ok (.aload_n 0, 1) := by decide +kernel
theorem dM_keep_11 : decode cM_keep 11 = .ok (.iconst 0, 1) := by decide +kernel
theorem dM_keep_12 : decode cM_keep 12 = .ok (.putfield 39, 3) := by decide +kernel
theorem dM_keep_15 : decode cM_keep 15 = .ok (.iload_n 2, 1) := by decide +kernel
theorem dM_keep_16 : decode cM_keep 16 = .ok (.ifCond .ne 5, 3) := by decide +kernel
theorem dM_keep_19 : decode cM_keep 19 = .ok (.iconst (-1), 1) := by decide +kernel
theorem dM_keep_20 : decode cM_keep 20 = .ok (.ireturn, 1) := by decide +kernel
theorem dM_keep_21 : decode cM_keep 21 = .ok (.iload_n 2, 1) := by decide +kernel
theorem dM_keep_22 : decode cM_keep 22 = .ok (.aload_n 0, 1) := by decide +kernel
theorem dM_keep_23 : decode cM_keep 23 = .ok (.getfield 26, 3) := by decide +kernel
theorem dM_keep_26 : decode cM_keep 26 = .ok (.if_icmp .le 6, 3) := by decide +kernel
theorem dM_keep_29 : decode cM_keep 29 = .ok (.bipush (-2), 2) := by decide +kernel
theorem dM_keep_31 : decode cM_keep 31 = .ok (.ireturn, 1) := by decide +kernel
theorem dM_keep_32 : decode cM_keep 32 = .ok (.iconst 0, 1) := by decide +kernel
theorem dM_keep_33 : decode cM_keep 33 = .ok (.istore_n 3, 1) := by decide +kernel
theorem dM_keep_34 : decode cM_keep 34 = .ok (.aload_n 0, 1) := by decide +kernel
theorem dM_keep_35 : decode cM_keep 35 = .ok (.getfield 33, 3) := by decide +kernel
theorem dM_keep_38 : decode cM_keep 38 = .ok (.iload_n 2, 1) := by decide +kernel
theorem dM_keep_39 : decode cM_keep 39 = .ok (.iadd, 1) := by decide +kernel
theorem dM_keep_40 : decode cM_keep 40 = .ok (.aload_n 0, 1) := by decide +kernel
theorem dM_keep_41 : decode cM_keep 41 = .ok (.getfield 26, 3) := by decide +kernel
theorem dM_keep_44 : decode cM_keep 44 = .ok (.if_icmp .le 13, 3) := by decide +kernel
theorem dM_keep_47 : decode cM_keep 47 = .ok (.aload_n 0, 1) := by decide +kernel
theorem dM_keep_48 : decode cM_keep 48 = .ok (.invokevirtual 42, 3) := by decide +kernel
theorem dM_keep_51 : decode cM_keep 51 = .ok (.iinc 3 1, 3) := by decide +kernel
theorem dM_keep_54 : decode cM_keep 54 = .ok (.goto (-20), 3) := by decide +kernel
theorem dM_keep_57 : decode cM_keep 57 = .ok (.aload_n 0, 1) := by decide +kernel
theorem dM_keep_58 : decode cM_keep 58 = .ok (.dup, 1) := by decide +kernel
theorem dM_keep_59 : decode cM_keep 59 = .ok (.getfield 45, 3) := by decide +kernel
theorem dM_keep_62 : decode cM_keep 62 = .ok (.iload_n 3, 1) := by decide +kernel
theorem dM_keep_63 : decode cM_keep 63 = .ok (.iadd, 1) := by decide +kernel
theorem dM_keep_64 : decode cM_keep 64 = .ok (.putfield 45, 3) := by decide +kernel
theorem dM_keep_67 : decode cM_keep 67 = .ok (.iconst 0, 1) := by decide +kernel
theorem dM_keep_68 : decode cM_keep 68 = .ok (.istore 4, 2) := by decide +kernel
theorem dM_keep_70 : decode cM_keep 70 = .ok (.iload 4, 2) := by decide +kernel
theorem dM_keep_72 : decode cM_keep 72 = .ok (.iload_n 2, 1) := by decide +kernel
theorem dM_keep_73 : decode cM_keep 73 = .ok (.if_icmp .ge 28, 3) := by decide +kernel
theorem dM_keep_76 : decode cM_keep 76 = .ok (.aload_n 0, 1) := by decide +kernel
theorem dM_keep_77 : decode cM_keep 77 = .ok (.getfield 23, 3) := by decide +kernel
theorem dM_keep_80 : decode cM_keep 80 = .ok (.aload_n 0, 1) := by decide +kernel
theorem dM_keep_81 : decode cM_keep 81 = .ok (.getfield 33, 3) := by decide +kernel
theorem dM_keep_84 : decode cM_keep 84 = .ok (.iload 4, 2) := by decide +kernel
theorem dM_keep_86 : decode cM_keep 86 = .ok (.iadd, 1) := by decide +kernel
theorem dM_keep_87 : decode cM_keep 87 = .ok (.aload_n 0, 1) := by decide +kernel
theorem dM_keep_88 : decode cM_keep 88 = .ok (.getfield 7, 3) := by decide +kernel
theorem dM_keep_91 : decode cM_keep 91 = .ok (.iload 4, 2) := by decide +kernel
theorem dM_keep_93 : decode cM_keep 93 = .ok (.baload, 1) := by decide +kernel
theorem dM_keep_94 : decode cM_keep 94 = .ok (.bastore, 1) := by decide +kernel
theorem dM_keep_95 : decode cM_keep 95 = .ok (.iinc 4 1, 3) := by decide +kernel
theorem dM_keep_98 : decode cM_keep 98 = .ok (.goto (-28), 3) := by decide +kernel
theorem dM_keep_101 : decode cM_keep 101 = .ok (.aload_n 0, 1) := by decide +kernel
theorem dM_keep_102 : decode cM_keep 102 = .ok (.dup, 1) := by decide +kernel
theorem dM_keep_103 : decode cM_keep 103 = .ok (.getfield 33, 3) := by decide +kernel
theorem dM_keep_106 : decode cM_keep 106 = .ok (.iload_n 2, 1) := by decide +kernel
theorem dM_keep_107 : decode cM_keep 107 = .ok (.iadd, 1) := by decide +kernel
theorem dM_keep_108 : decode cM_keep 108 = .ok (.putfield 33, 3) := by decide +kernel
theorem dM_keep_111 : decode cM_keep 111 = .ok (.aload_n 0, 1) := by decide +kernel
theorem dM_keep_112 : decode cM_keep 112 = .ok (.getfield 16, 3) := by decide +kernel
theorem dM_keep_115 : decode cM_keep 115 = .ok (.aload_n 0, 1) := by decide +kernel
theorem dM_keep_116 : decode cM_keep 116 = .ok (.getfield 36, 3) := by decide +kernel
theorem dM_keep_119 : decode cM_keep 119 = .ok (.iload_n 1, 1) := by decide +kernel
theorem dM_keep_120 : decode cM_keep 120 = .ok (.iastore, 1) := by decide +kernel
theorem dM_keep_121 : decode cM_keep 121 = .ok (.aload_n 0, 1) := by decide +kernel
theorem dM_keep_122 : decode cM_keep 122 = .ok (.getfield 20, 3) := by decide +kernel
theorem dM_keep_125 : decode cM_keep 125 = .ok (.aload_n 0, 1) := by decide +kernel
theorem dM_keep_126 : decode cM_keep 126 = .ok (.getfield 36, 3) := by decide +kernel
theorem dM_keep_129 : decode cM_keep 129 = .ok (.iload_n 2, 1) := by decide +kernel
theorem dM_keep_130 : decode cM_keep 130 = .ok (.iastore, 1) := by decide +kernel
theorem dM_keep_131 : decode cM_keep 131 = .ok (.aload_n 0, 1) := by decide +kernel
theorem dM_keep_132 : decode cM_keep 132 = .ok (.dup, 1) := by decide +kernel
theorem dM_keep_133 : decode cM_keep 133 = .ok (.getfield 36, 3) := by decide +kernel
theorem dM_keep_136 : decode cM_keep 136 = .ok (.iconst 1, 1) := by decide +kernel
theorem dM_keep_137 : decode cM_keep 137 = .ok (.iadd, 1) := by decide +kernel
theorem dM_keep_138 : decode cM_keep 138 = .ok (.putfield 36, 3) := by decide +kernel
theorem dM_keep_141 : decode cM_keep 141 = .ok (.aload_n 0, 1) := by decide +kernel
theorem dM_keep_142 : decode cM_keep 142 = .ok (.dup, 1) := by decide +kernel
theorem dM_keep_143 : decode cM_keep 143 = .ok (.getfield 48, 3) := by decide +kernel
theorem dM_keep_146 : decode cM_keep 146 = .ok (.iconst 1, 1) := by decide +kernel
theorem dM_keep_147 : decode cM_keep 147 = .ok (.iadd, 1) := by decide +kernel
theorem dM_keep_148 : decode cM_keep 148 = .ok (.putfield 48, 3) := by decide +kernel
theorem dM_keep_151 : decode cM_keep 151 = .ok (.iload_n 3, 1) := by decide +kernel
theorem dM_keep_152 : decode cM_keep 152 = .ok (.ireturn, 1) := by decide +kernel
theorem dM_delete_0 : decode cM_delete 0 = .ok (.aload_n 0, 1) := by decide +kernel
theorem dM_delete_1 : decode cM_delete 1 = .ok (.iconst 0, 1) := by decide +kernel
theorem dM_delete_2 : decode cM_delete 2 = .ok (.putfield 30, 3) := by decide +kernel
theorem dM_delete_5 : decode cM_delete 5 = .ok (.iconst 0, 1) := by decide +kernel
theorem dM_delete_6 : decode cM_delete 6 = .ok (.istore_n 2, 1) := by decide +kernel
theorem dM_delete_7 : decode cM_delete 7 = .ok (.aload_n 0, 1) := by decide +kernel
theorem dM_delete_8 : decode cM_delete 8 = .ok (.getfield 36, 3) := by decide +kernel
theorem dM_delete_11 : decode cM_delete 11 = .ok (.ifCond .le 23, 3) := by decide +kernel
theorem dM_delete_14 : decode cM_delete 14 = .ok (.aload_n 0, 1) := by decide +kernel
theorem dM_delete_15 : decode cM_delete 15 = .ok (.getfield 16, 3) := by decide +kernel
theorem dM_delete_18 : decode cM_delete 18 = .ok (.iconst 0, 1) := by decide +kernel
theorem dM_delete_19 : decode cM_delete 19 = .ok (.iaload, 1) := by decide +kernel
theorem dM_delete_20 : decode cM_delete 20 = .ok (.iload_n 1, 1) := by decide +kernel
theorem dM_delete_21 : decode cM_delete 21 = .ok (.if_icmp .gt 13, 3) := by decide +kernel
theorem dM_delete_24 : decode cM_delete 24 = .ok (.aload_n 0, 1) := by decide +kernel
theorem dM_delete_25 : decode cM_delete 25 = .ok (.invokevirtual 42, 3) := by decide +kernel
theorem dM_delete_28 : decode cM_delete 28 = .ok (.iinc 2 1, 3) := by decide +kernel
theorem dM_delete_31 : decode cM_delete 31 = .ok (.goto (-24), 3) := by decide +kernel
theorem dM_delete_34 : decode cM_delete 34 = .ok (.aload_n 0, 1) := by decide +kernel
theorem dM_delete_35 : decode cM_delete 35 = .ok (.dup, 1) := by decide +kernel
theorem dM_delete_36 : decode cM_delete 36 = .ok (.getfield 51, 3) := by decide +kernel
theorem dM_delete_39 : decode cM_delete 39 = .ok (.iload_n 2, 1) := by decide +kernel
theorem dM_delete_40 : decode cM_delete 40 = .ok (.iadd, 1) := by decide +kernel
theorem dM_delete_41 : decode cM_delete 41 = .ok (.putfield 51, 3) := by decide +kernel
theorem dM_delete_44 : decode cM_delete 44 = .ok (.iload_n 2, 1) := by decide +kernel
theorem dM_delete_45 : decode cM_delete 45 = .ok (.ireturn, 1) := by decide +kernel
theorem dM_begin_0 : decode cM_begin 0 = .ok (.aload_n 0, 1) := by decide +kernel
theorem dM_begin_1 : decode cM_begin 1 = .ok (.iconst 0, 1) := by decide +kernel
theorem dM_begin_2 : decode cM_begin 2 = .ok (.putfield 30, 3) := by decide +kernel
theorem dM_begin_5 : decode cM_begin 5 = .ok (.aload_n 0, 1) := by decide +kernel
theorem dM_begin_6 : decode cM_begin 6 = .ok (.getfield 54, 3) := by decide +kernel
theorem dM_begin_9 : decode cM_begin 9 = .ok (.ifCond .eq 5, 3) := by decide +kernel
theorem dM_begin_12 : decode cM_begin 12 = .ok (.iconst 0, 1) := by decide +kernel
theorem dM_begin_13 : decode cM_begin 13 = .ok (.ireturn, 1) := by decide +kernel
theorem dM_begin_14 : decode cM_begin 14 = .ok (.aload_n 0, 1) := by decide +kernel
theorem dM_begin_15 : decode cM_begin 15 = .ok (.iconst 1, 1) := by decide +kernel
theorem dM_begin_16 : decode cM_begin 16 = .ok (.putfield 54, 3) := by decide +kernel
theorem dM_begin_19 : decode cM_begin 19 = .ok (.aload_n 0, 1) := by decide +kernel
theorem dM_begin_20 : decode cM_begin 20 = .ok (.iload_n 1, 1) := by decide +kernel
theorem dM_begin_21 : decode cM_begin 21 = .ok (.putfield 58, 3) := by decide +kernel
theorem dM_begin_24 : decode cM_begin 24 = .ok (.aload_n 0, 1) := by decide +kernel
theorem dM_begin_25 : decode cM_begin 25 = .ok (.iload_n 2, 1) := by decide +kernel
theorem dM_begin_26 : decode cM_begin 26 = .ok (.putfield 61, 3) := by decide +kernel
theorem dM_begin_29 : decode cM_begin 29 = .ok (.aload_n 0, 1) := by decide +kernel
theorem dM_begin_30 : decode cM_begin 30 = .ok (.aload_n 0, 1) := by decide +kernel
theorem dM_begin_31 : decode cM_begin 31 = .ok (.getfield 48, 3) := by decide +kernel
theorem dM_begin_34 : decode cM_begin 34 = .ok (.aload_n 0, 1) := by decide +kernel
theorem dM_begin_35 : decode cM_begin 35 = .ok (.getfield 36, 3) := by decide +kernel
theorem dM_begin_38 : decode cM_begin 38 = .ok (.isub, 1) := by decide +kernel
theorem dM_begin_39 : decode cM_begin 39 = .ok (.putfield 64, 3) := by decide +kernel
theorem dM_begin_42 : decode cM_begin 42 = .ok (.iconst 1, 1) := by decide +kernel
theorem dM_begin_43 : decode cM_begin 43 = .ok (.ireturn, 1) := by decide +kernel
theorem dM_stop_0 : decode cM_stop 0 = .ok (.aload_n 0, 1) := by decide +kernel
theorem dM_stop_1 : decode cM_stop 1 = .ok (.iconst 0, 1) := by decide +kernel
theorem dM_stop_2 : decode cM_stop 2 = .ok (.putfield 30, 3) := by decide +kernel
theorem dM_stop_5 : decode cM_stop 5 = .ok (.aload_n 0, 1) := by decide +kernel
theorem dM_stop_6 : decode cM_stop 6 = .ok (.getfield 54, 3) := by decide +kernel
theorem dM_stop_9 : decode cM_stop 9 = .ok (.istore_n 1, 1) := by decide +kernel
theorem dM_stop_10 : decode cM_stop 10 = .ok (.aload_n 0, 1) := by decide +kernel
theorem dM_stop_11 : decode cM_stop 11 = .ok (.iconst 0, 1) := by decide +kernel
theorem dM_stop_12 : decode cM_stop 12 = .ok (.putfield 54, 3) := by decide +kernel
theorem dM_stop_15 : decode cM_stop 15 = .ok (.iload_n 1, 1) := by decide +kernel
theorem dM_stop_16 : decode cM_stop 16 = .ok (.ireturn, 1) := by decide +kernel
theorem dM_next_0 : decode cM_next 0 = .ok (.aload_n 0, 1) := by decide +kernel
theorem dM_next_1 : decode cM_next 1 = .ok (.iconst 0, 1) := by decide +kernel
theorem dM_next_2 : decode cM_next 2 = .ok (.putfield 30, 3) := by decide +kernel
theorem dM_next_5 : decode cM_next 5 = .ok (.aload_n 0, 1) := by decide +kernel
theorem dM_next_6 : decode cM_next 6 = .ok (.getfield 54, 3) := by decide +kernel
theorem dM_next_9 : decode cM_next 9 = .ok (.ifCond .ne 5, 3) := by decide +kernel
theorem dM_next_12 : decode cM_next 12 = .ok (.iconst (-1), 1) := by decide +kernel
theorem dM_next_13 : decode cM_next 13 = .ok (.ireturn, 1) := by decide +kernel
theorem dM_next_14 : decode cM_next 14 = .ok (.aload_n 0, 1) := by decide +kernel
theorem dM_next_15 : decode cM_next 15 = .ok (.getfield 64, 3) := by decide +kernel
theorem dM_next_18 : decode cM_next 18 = .ok (.aload_n 0, 1) := by decide +kernel
theorem dM_next_19 : decode cM_next 19 = .ok (.getfield 48, 3) := by decide +kernel
theorem dM_next_22 : decode cM_next 22 = .ok (.aload_n 0, 1) := by decide +kernel
theorem dM_next_23 : decode cM_next 23 = .ok (.getfield 36, 3) := by decide +kernel
theorem dM_next_26 : decode cM_next 26 = .ok (.isub, 1) := by decide +kernel
theorem dM_next_27 : decode cM_next 27 = .ok (.isub, 1) := by decide +kernel
theorem dM_next_28 : decode cM_next 28 = .ok (.istore_n 2, 1) := by decide +kernel
theorem dM_next_29 : decode cM_next 29 = .ok (.iload_n 2, 1) := by decide +kernel
theorem dM_next_30 : decode cM_next 30 = .ok (.ifCond .ge 7, 3) := by decide +kernel
theorem dM_next_33 : decode cM_next 33 = .ok (.iconst 0, 1) := by decide +kernel
theorem dM_next_34 : decode cM_next 34 = .ok (.goto 4, 3) := by decide +kernel
theorem dM_next_37 : decode cM_next 37 = .ok (.iload_n 2, 1) := by decide +kernel
theorem dM_next_38 : decode cM_next 38 = .ok (.istore_n 2, 1) := by decide +kernel
theorem dM_next_39 : decode cM_next 39 = .ok (.iload_n 2, 1) := by decide +kernel
theorem dM_next_40 : decode cM_next 40 = .ok (.aload_n 0, 1) := by decide +kernel
theorem dM_next_41 : decode cM_next 41 = .ok (.getfield 36, 3) := by decide +kernel
theorem dM_next_44 : decode cM_next 44 = .ok (.if_icmp .ge 35, 3) := by decide +kernel
theorem dM_next_47 : decode cM_next 47 = .ok (.aload_n 0, 1) := by decide +kernel
theorem dM_next_48 : decode cM_next 48 = .ok (.getfield 16, 3) := by decide +kernel
theorem dM_next_51 : decode cM_next 51 = .ok (.iload_n 2, 1) := by decide +kernel
theorem dM_next_52 : decode cM_next 52 = .ok (.iaload, 1) := by decide +kernel
theorem dM_next_53 : decode cM_next 53 = .ok (.aload_n 0, 1) := by decide +kernel
theorem dM_next_54 : decode cM_next 54 = .ok (.getfield 58, 3) := by decide +kernel
theorem dM_next_57 : decode cM_next 57 = .ok (.if_icmp .lt 16, 3) := by decide +kernel
theorem dM_next_60 : decode cM_next 60 = .ok (.aload_n 0, 1) := by decide +kernel
theorem dM_next_61 : decode cM_next 61 = .ok (.getfield 16, 3) := by decide +kernel
theorem dM_next_64 : decode cM_next 64 = .ok (.iload_n 2, 1) := by decide +kernel
theorem dM_next_65 : decode cM_next 65 = .ok (.iaload, 1) := by decide +kernel
theorem dM_next_66 : decode cM_next 66 = .ok (.aload_n 0, 1) := by decide +kernel
theorem dM_next_67 : decode cM_next 67 = .ok (.getfield 61, 3) := by decide +kernel
theorem dM_next_70 : decode cM_next 70 = .ok (.if_icmp .le 9, 3) := by decide +kernel
theorem dM_next_73 : decode cM_next 73 = .ok (.iinc 2 1, 3) := by decide +kernel
theorem dM_next_76 : decode cM_next 76 = .ok (.goto (-37), 3) := by decide +kernel
theorem dM_next_79 : decode cM_next 79 = .ok (.aload_n 0, 1) := by decide +kernel
theorem dM_next_80 : decode cM_next 80 = .ok (.aload_n 0, 1) := by decide +kernel
theorem dM_next_81 : decode cM_next 81 = .ok (.getfield 48, 3) := by decide +kernel
theorem dM_next_84 : decode cM_next 84 = .ok (.aload_n 0, 1) := by decide +kernel
theorem dM_next_85 : decode cM_next 85 = .ok (.getfield 36, 3) := by decide +kernel
theorem dM_next_88 : decode cM_next 88 = .ok (.isub, 1) := by decide +kernel
theorem dM_next_89 : decode cM_next 89 = .ok (.iload_n 2, 1) := by decide +kernel
theorem dM_next_90 : decode cM_next 90 = .ok (.iadd, 1) := by decide +kernel
theorem dM_next_91 : decode cM_next 91 = .ok (.putfield 64, 3) := by decide +kernel
theorem dM_next_94 : decode cM_next 94 = .ok (.iload_n 2, 1) := by decide +kernel
theorem dM_next_95 : decode cM_next 95 = .ok (.aload_n 0, 1) := by decide +kernel
theorem dM_next_96 : decode cM_next 96 = .ok (.getfield 36, 3) := by decide +kernel
theorem dM_next_99 : decode cM_next 99 = .ok (.if_icmp .ne 10, 3) := by decide +kernel
theorem dM_next_102 : decode cM_next 102 = .ok (.aload_n 0, 1) := by decide +kernel
theorem dM_next_103 : decode cM_next 103 = .ok (.iconst 0, 1) := by decide +kernel
theorem dM_next_104 : decode cM_next 104 = .ok (.putfield 54, 3) := by decide +kernel
theorem dM_next_107 : decode cM_next 107 = .ok (.iconst (-1), 1) := by decide +kernel
theorem dM_next_108 : decode cM_next 108 = .ok (.ireturn, 1) := by decide +kernel
theorem dM_next_109 : decode cM_next 109 = .ok (.aload_n 0, 1) := by decide +kernel
theorem dM_next_110 : decode cM_next 110 = .ok (.getfield 20, 3) := by decide +kernel
theorem dM_next_113 : decode cM_next 113 = .ok (.iload_n 2, 1) := by decide +kernel
theorem dM_next_114 : decode cM_next 114 = .ok (.iaload, 1) := by decide +kernel
theorem dM_next_115 : decode cM_next 115 = .ok (.iload_n 1, 1) := by decide +kernel
theorem dM_next_116 : decode cM_next 116 = .ok (.if_icmp .le 6, 3) := by decide +kernel
theorem dM_next_119 : decode cM_next 119 = .ok (.bipush (-2), 2) := by decide +kernel
theorem dM_next_121 : decode cM_next 121 = .ok (.ireturn, 1) := by decide +kernel
theorem dM_next_122 : decode cM_next 122 = .ok (.aload_n 0, 1) := by decide +kernel
theorem dM_next_123 : decode cM_next 123 = .ok (.iload_n 2, 1) := by decide +kernel
theorem dM_next_124 : decode cM_next 124 = .ok (.invokevirtual 67, 3) := by decide +kernel
theorem dM_next_127 : decode cM_next 127 = .ok (.istore_n 3, 1) := by decide +kernel
theorem dM_next_128 : decode cM_next 128 = .ok (.iconst 0, 1) := by decide +kernel
theorem dM_next_129 : decode cM_next 129 = .ok (.istore 4, 2) := by decide +kernel
theorem dM_next_131 : decode cM_next 131 = .ok (.iload 4, 2) := by decide +kernel
theorem dM_next_133 : decode cM_next 133 = .ok (.aload_n 0, 1) := by decide +kernel
theorem dM_next_134 : decode cM_next 134 = .ok (.getfield 20, 3) := by decide +kernel
theorem dM_next_137 : decode cM_next 137 = .ok (.iload_n 2, 1) := by decide +kernel
theorem dM_next_138 : decode cM_next 138 = .ok (.iaload, 1) := by decide +kernel
theorem dM_next_139 : decode cM_next 139 = .ok (.if_icmp .ge 25, 3) := by decide +kernel
theorem dM_next_142 : decode cM_next 142 = .ok (.aload_n 0, 1) := by decide +kernel
theorem dM_next_143 : decode cM_next 143 = .ok (.getfield 13, 3) := by decide +kernel
theorem dM_next_146 : decode cM_next 146 = .ok (.iload 4, 2) := by decide +kernel
theorem dM_next_148 : decode cM_next 148 = .ok (.aload_n 0, 1) := by decide +kernel
theorem dM_next_149 : decode cM_next 149 = .ok (.getfield 23, 3) := by decide +kernel
theorem dM_next_152 : decode cM_next 152 = .ok (.iload_n 3, 1) := by decide +kernel
theorem dM_next_153 : decode cM_next 153 = .ok (.iload 4, 2) := by decide +kernel
theorem dM_next_155 : decode cM_next 155 = .ok (.iadd, 1) := by decide +kernel
theorem dM_next_156 : decode cM_next 156 = .ok (.baload, 1) := by decide +kernel
theorem dM_next_157 : decode cM_next 157 = .ok (.bastore, 1) := by decide +kernel
theorem dM_next_158 : decode cM_next 158 = .ok (.iinc 4 1, 3) := by decide +kernel
theorem dM_next_161 : decode cM_next 161 = .ok (.goto (-30), 3) := by decide +kernel
theorem dM_next_164 : decode cM_next 164 = .ok (.aload_n 0, 1) := by decide +kernel
theorem dM_next_165 : decode cM_next 165 = .ok (.aload_n 0, 1) := by decide +kernel
theorem dM_next_166 : decode cM_next 166 = .ok (.getfield 20, 3) := by decide +kernel
theorem dM_next_169 : decode cM_next 169 = .ok (.iload_n 2, 1) := by decide +kernel
theorem dM_next_170 : decode cM_next 170 = .ok (.iaload, 1) := by decide +kernel
theorem dM_next_171 : decode cM_next 171 = .ok (.putfield 71, 3) := by decide +kernel
theorem dM_next_174 : decode cM_next 174 = .ok (.aload_n 0, 1) := by decide +kernel
theorem dM_next_175 : decode cM_next 175 = .ok (.dup, 1) := by decide +kernel
theorem dM_next_176 : decode cM_next 176 = .ok (.getfield 64, 3) := by decide +kernel
theorem dM_next_179 : decode cM_next 179 = .ok (.iconst 1, 1) := by decide +kernel
theorem dM_next_180 : decode cM_next 180 = .ok (.iadd, 1) := by decide +kernel
theorem dM_next_181 : decode cM_next 181 = .ok (.putfield 64, 3) := by decide +kernel
theorem dM_next_184 : decode cM_next 184 = .ok (.aload_n 0, 1) := by decide +kernel
theorem dM_next_185 : decode cM_next 185 = .ok (.getfield 71, 3) := by decide +kernel
theorem dM_next_188 : decode cM_next 188 = .ok (.ireturn, 1) := by decide +kernel
theorem dM_out_0 : decode cM_out 0 = .ok (.aload_n 0, 1) := by decide +kernel
theorem dM_out_1 : decode cM_out 1 = .ok (.iconst 0, 1) := by decide +kernel
theorem dM_out_2 : decode cM_out 2 = .ok (.putfield 30, 3) := by decide +kernel
theorem dM_out_5 : decode cM_out 5 = .ok (.iload_n 1, 1) := by decide +kernel
theorem dM_out_6 : decode cM_out 6 = .ok (.ifCond .lt 11, 3) := by decide +kernel
theorem dM_out_9 : decode cM_out 9 = .ok (.iload_n 1, 1) := by decide +kernel
theorem dM_out_10 : decode cM_out 10 = .ok (.aload_n 0, 1) := by decide +kernel
theorem dM_out_11 : decode cM_out 11 = .ok (.getfield 71, 3) := by decide +kernel
theorem dM_out_14 : decode cM_out 14 = .ok (.if_icmp .lt 7, 3) := by decide +kernel
theorem dM_out_17 : decode cM_out 17 = .ok (.iconst (-1), 1) := by decide +kernel
theorem dM_out_18 : decode cM_out 18 = .ok (.goto 13, 3) := by decide +kernel
theorem dM_out_21 : decode cM_out 21 = .ok (.aload_n 0, 1) := by decide +kernel
theorem dM_out_22 : decode cM_out 22 = .ok (.getfield 13, 3) := by decide +kernel
theorem dM_out_25 : decode cM_out 25 = .ok (.iload_n 1, 1) := by decide +kernel
theorem dM_out_26 : decode cM_out 26 = .ok (.baload, 1) := by decide +kernel
theorem dM_out_27 : decode cM_out 27 = .ok (.sipush 255, 3) := by decide +kernel
theorem dM_out_30 : decode cM_out 30 = .ok (.iand, 1) := by decide +kernel
theorem dM_out_31 : decode cM_out 31 = .ok (.ireturn, 1) := by decide +kernel
theorem dM_count_0 : decode cM_count 0 = .ok (.aload_n 0, 1) := by decide +kernel
theorem dM_count_1 : decode cM_count 1 = .ok (.iconst 0, 1) := by decide +kernel
theorem dM_count_2 : decode cM_count 2 = .ok (.putfield 30, 3) := by decide +kernel
theorem dM_count_5 : decode cM_count 5 = .ok (.iload_n 1, 1) := by decide +kernel
theorem dM_count_6 : decode cM_count 6 = .ok (.tableswitch 94 0 7 #[46, 51, 56, 61, 66, 71, 84, 89], 46) := by decide +kernel
theorem dM_count_52 : decode cM_count 52 = .ok (.aload_n 0, 1) := by decide +kernel
theorem dM_count_53 : decode cM_count 53 = .ok (.getfield 36, 3) := by decide +kernel
theorem dM_count_56 : decode cM_count 56 = .ok (.ireturn, 1) := by decide +kernel
theorem dM_count_57 : decode cM_count 57 = .ok (.aload_n 0, 1) := by decide +kernel
theorem dM_count_58 : decode cM_count 58 = .ok (.getfield 33, 3) := by decide +kernel
theorem dM_count_61 : decode cM_count 61 = .ok (.ireturn, 1) := by decide +kernel
theorem dM_count_62 : decode cM_count 62 = .ok (.aload_n 0, 1) := by decide +kernel
theorem dM_count_63 : decode cM_count 63 = .ok (.getfield 48, 3) := by decide +kernel
theorem dM_count_66 : decode cM_count 66 = .ok (.ireturn, 1) := by decide +kernel
theorem dM_count_67 : decode cM_count 67 = .ok (.aload_n 0, 1) := by decide +kernel
theorem dM_count_68 : decode cM_count 68 = .ok (.getfield 45, 3) := by decide +kernel
theorem dM_count_71 : decode cM_count 71 = .ok (.ireturn, 1) := by decide +kernel
theorem dM_count_72 : decode cM_count 72 = .ok (.aload_n 0, 1) := by decide +kernel
theorem dM_count_73 : decode cM_count 73 = .ok (.getfield 51, 3) := by decide +kernel
theorem dM_count_76 : decode cM_count 76 = .ok (.ireturn, 1) := by decide +kernel
theorem dM_count_77 : decode cM_count 77 = .ok (.aload_n 0, 1) := by decide +kernel
theorem dM_count_78 : decode cM_count 78 = .ok (.getfield 54, 3) := by decide +kernel
theorem dM_count_81 : decode cM_count 81 = .ok (.ifCond .eq 7, 3) := by decide +kernel
theorem dM_count_84 : decode cM_count 84 = .ok (.iconst 1, 1) := by decide +kernel
theorem dM_count_85 : decode cM_count 85 = .ok (.goto 4, 3) := by decide +kernel
theorem dM_count_88 : decode cM_count 88 = .ok (.iconst 0, 1) := by decide +kernel
theorem dM_count_89 : decode cM_count 89 = .ok (.ireturn, 1) := by decide +kernel
theorem dM_count_90 : decode cM_count 90 = .ok (.aload_n 0, 1) := by decide +kernel
theorem dM_count_91 : decode cM_count 91 = .ok (.getfield 71, 3) := by decide +kernel
theorem dM_count_94 : decode cM_count 94 = .ok (.ireturn, 1) := by decide +kernel
theorem dM_count_95 : decode cM_count 95 = .ok (.aload_n 0, 1) := by decide +kernel
theorem dM_count_96 : decode cM_count 96 = .ok (.getfield 26, 3) := by decide +kernel
theorem dM_count_99 : decode cM_count 99 = .ok (.ireturn, 1) := by decide +kernel
theorem dM_count_100 : decode cM_count 100 = .ok (.iconst (-1), 1) := by decide +kernel
theorem dM_count_101 : decode cM_count 101 = .ok (.ireturn, 1) := by decide +kernel
theorem dM_about_0 : decode cM_about 0 = .ok (.aload_n 0, 1) := by decide +kernel
theorem dM_about_1 : decode cM_about 1 = .ok (.iconst 0, 1) := by decide +kernel
theorem dM_about_2 : decode cM_about 2 = .ok (.putfield 30, 3) := by decide +kernel
theorem dM_about_5 : decode cM_about 5 = .ok (.iload_n 1, 1) := by decide +kernel
theorem dM_about_6 : decode cM_about 6 = .ok (.ifCond .lt 11, 3) := by decide +kernel
theorem dM_about_9 : decode cM_about 9 = .ok (.iload_n 1, 1) := by decide +kernel
theorem dM_about_10 : decode cM_about 10 = .ok (.aload_n 0, 1) := by decide +kernel
theorem dM_about_11 : decode cM_about 11 = .ok (.getfield 36, 3) := by decide +kernel
theorem dM_about_14 : decode cM_about 14 = .ok (.if_icmp .lt 7, 3) := by decide +kernel
theorem dM_about_17 : decode cM_about 17 = .ok (.iconst (-1), 1) := by decide +kernel
theorem dM_about_18 : decode cM_about 18 = .ok (.goto 31, 3) := by decide +kernel
theorem dM_about_21 : decode cM_about 21 = .ok (.iload_n 2, 1) := by decide +kernel
theorem dM_about_22 : decode cM_about 22 = .ok (.ifCond .ne 12, 3) := by decide +kernel
theorem dM_about_25 : decode cM_about 25 = .ok (.aload_n 0, 1) := by decide +kernel
theorem dM_about_26 : decode cM_about 26 = .ok (.getfield 16, 3) := by decide +kernel
theorem dM_about_29 : decode cM_about 29 = .ok (.iload_n 1, 1) := by decide +kernel
theorem dM_about_30 : decode cM_about 30 = .ok (.iaload, 1) := by decide +kernel
theorem dM_about_31 : decode cM_about 31 = .ok (.goto 18, 3) := by decide +kernel
theorem dM_about_34 : decode cM_about 34 = .ok (.iload_n 2, 1) := by decide +kernel
theorem dM_about_35 : decode cM_about 35 = .ok (.iconst 1, 1) := by decide +kernel
theorem dM_about_36 : decode cM_about 36 = .ok (.if_icmp .ne 12, 3) := by decide +kernel
theorem dM_about_39 : decode cM_about 39 = .ok (.aload_n 0, 1) := by decide +kernel
theorem dM_about_40 : decode cM_about 40 = .ok (.getfield 20, 3) := by decide +kernel
theorem dM_about_43 : decode cM_about 43 = .ok (.iload_n 1, 1) := by decide +kernel
theorem dM_about_44 : decode cM_about 44 = .ok (.iaload, 1) := by decide +kernel
theorem dM_about_45 : decode cM_about 45 = .ok (.goto 4, 3) := by decide +kernel
theorem dM_about_48 : decode cM_about 48 = .ok (.iconst (-1), 1) := by decide +kernel
theorem dM_about_49 : decode cM_about 49 = .ok (.ireturn, 1) := by decide +kernel
theorem dM_byteAt_0 : decode cM_byteAt 0 = .ok (.aload_n 0, 1) := by decide +kernel
theorem dM_byteAt_1 : decode cM_byteAt 1 = .ok (.iconst 0, 1) := by decide +kernel
theorem dM_byteAt_2 : decode cM_byteAt 2 = .ok (.putfield 30, 3) := by decide +kernel
theorem dM_byteAt_5 : decode cM_byteAt 5 = .ok (.iload_n 1, 1) := by decide +kernel
theorem dM_byteAt_6 : decode cM_byteAt 6 = .ok (.ifCond .lt 25, 3) := by decide +kernel
theorem dM_byteAt_9 : decode cM_byteAt 9 = .ok (.iload_n 1, 1) := by decide +kernel
theorem dM_byteAt_10 : decode cM_byteAt 10 = .ok (.aload_n 0, 1) := by decide +kernel
theorem dM_byteAt_11 : decode cM_byteAt 11 = .ok (.getfield 36, 3) := by decide +kernel
theorem dM_byteAt_14 : decode cM_byteAt 14 = .ok (.if_icmp .ge 17, 3) := by decide +kernel
theorem dM_byteAt_17 : decode cM_byteAt 17 = .ok (.iload_n 2, 1) := by decide +kernel
theorem dM_byteAt_18 : decode cM_byteAt 18 = .ok (.ifCond .lt 13, 3) := by decide +kernel
theorem dM_byteAt_21 : decode cM_byteAt 21 = .ok (.iload_n 2, 1) := by decide +kernel
theorem dM_byteAt_22 : decode cM_byteAt 22 = .ok (.aload_n 0, 1) := by decide +kernel
theorem dM_byteAt_23 : decode cM_byteAt 23 = .ok (.getfield 20, 3) := by decide +kernel
theorem dM_byteAt_26 : decode cM_byteAt 26 = .ok (.iload_n 1, 1) := by decide +kernel
theorem dM_byteAt_27 : decode cM_byteAt 27 = .ok (.iaload, 1) := by decide +kernel
theorem dM_byteAt_28 : decode cM_byteAt 28 = .ok (.if_icmp .lt 7, 3) := by decide +kernel
theorem dM_byteAt_31 : decode cM_byteAt 31 = .ok (.iconst (-1), 1) := by decide +kernel
theorem dM_byteAt_32 : decode cM_byteAt 32 = .ok (.goto 19, 3) := by decide +kernel
theorem dM_byteAt_35 : decode cM_byteAt 35 = .ok (.aload_n 0, 1) := by decide +kernel
theorem dM_byteAt_36 : decode cM_byteAt 36 = .ok (.getfield 23, 3) := by decide +kernel
theorem dM_byteAt_39 : decode cM_byteAt 39 = .ok (.aload_n 0, 1) := by decide +kernel
theorem dM_byteAt_40 : decode cM_byteAt 40 = .ok (.iload_n 1, 1) := by decide +kernel
theorem dM_byteAt_41 : decode cM_byteAt 41 = .ok (.invokevirtual 67, 3) := by decide +kernel
theorem dM_byteAt_44 : decode cM_byteAt 44 = .ok (.iload_n 2, 1) := by decide +kernel
theorem dM_byteAt_45 : decode cM_byteAt 45 = .ok (.iadd, 1) := by decide +kernel
theorem dM_byteAt_46 : decode cM_byteAt 46 = .ok (.baload, 1) := by decide +kernel
theorem dM_byteAt_47 : decode cM_byteAt 47 = .ok (.sipush 255, 3) := by decide +kernel
theorem dM_byteAt_50 : decode cM_byteAt 50 = .ok (.iand, 1) := by decide +kernel
theorem dM_byteAt_51 : decode cM_byteAt 51 = .ok (.ireturn, 1) := by decide +kernel
