theorem dX4_swapHeads_7 : decode bX4_swapHeads 7 = .ok (.getfield 42, 3) := by decide +kernel
theorem dX4_swapHeads_10 : decode bX4_swapHeads 10 = .ok (.putfield 38, 3) := by decide +kernel
theorem dX4_swapHeads_13 : decode bX4_swapHeads 13 = .ok (.aload_n 0, 1) := by decide +kernel
theorem dX4_swapHeads_14 : decode bX4_swapHeads 14 = .ok (.aload_n 1, 1) := by decide +kernel
theorem dX4_swapHeads_15 : decode bX4_swapHeads 15 = .ok (.putfield 42, 3) := by decide +kernel
theorem dX4_swapHeads_18 : decode bX4_swapHeads 18 = .ok (.return_, 1) := by decide +kernel
theorem dX4_useOther_0 : decode bX4_useOther 0 = .ok (.aload_n 0, 1) := by decide +kernel
theorem dX4_useOther_1 : decode bX4_useOther 1 = .ok (.invokevirtual 202, 3) := by decide +kernel
theorem dX4_useOther_4 : decode bX4_useOther 4 = .ok (.aload_n 0, 1) := by decide +kernel
theorem dX4_useOther_5 : decode bX4_useOther 5 = .ok (.aload_n 0, 1) := by decide +kernel
theorem dX4_useOther_6 : decode bX4_useOther 6 = .ok (.getfield 38, 3) := by decide +kernel
theorem dX4_useOther_9 : decode bX4_useOther 9 = .ok (.getfield 124, 3) := by decide +kernel
theorem dX4_useOther_12 : decode bX4_useOther 12 = .ok (.aload_n 0, 1) := by decide +kernel
theorem dX4_useOther_13 : decode bX4_useOther 13 = .ok (.getfield 42, 3) := by decide +kernel
theorem dX4_useOther_16 : decode bX4_useOther 16 = .ok (.getfield 124, 3) := by decide +kernel
theorem dX4_useOther_19 : decode bX4_useOther 19 = .ok (.invokestatic 237, 3) := by decide +kernel
theorem dX4_useOther_22 : decode bX4_useOther 22 = .ok (.putfield 80, 3) := by decide +kernel
theorem dX4_useOther_25 : decode bX4_useOther 25 = .ok (.aload_n 0, 1) := by decide +kernel
theorem dX4_useOther_26 : decode bX4_useOther 26 = .ok (.getfield 38, 3) := by decide +kernel
theorem dX4_useOther_29 : decode bX4_useOther 29 = .ok (.getfield 127, 3) := by decide +kernel
theorem dX4_useOther_32 : decode bX4_useOther 32 = .ok (.aload_n 0, 1) := by decide +kernel
theorem dX4_useOther_33 : decode bX4_useOther 33 = .ok (.getfield 42, 3) := by decide +kernel
theorem dX4_useOther_36 : decode bX4_useOther 36 = .ok (.getfield 127, 3) := by decide +kernel
theorem dX4_useOther_39 : decode bX4_useOther 39 = .ok (.invokestatic 237, 3) := by decide +kernel
theorem dX4_useOther_42 : decode bX4_useOther 42 = .ok (.istore_n 1, 1) := by decide +kernel
theorem dX4_useOther_43 : decode bX4_useOther 43 = .ok (.aload_n 0, 1) := by decide +kernel
theorem dX4_useOther_44 : decode bX4_useOther 44 = .ok (.getfield 18, 3) := by decide +kernel
theorem dX4_useOther_47 : decode bX4_useOther 47 = .ok (.iload_n 1, 1) := by decide +kernel
theorem dX4_useOther_48 : decode bX4_useOther 48 = .ok (.invokevirtual 242, 3) := by decide +kernel
theorem dX4_useOther_51 : decode bX4_useOther 51 = .ok (.aload_n 0, 1) := by decide +kernel
theorem dX4_useOther_52 : decode bX4_useOther 52 = .ok (.getfield 38, 3) := by decide +kernel
theorem dX4_useOther_55 : decode bX4_useOther 55 = .ok (.dup, 1) := by decide +kernel
theorem dX4_useOther_56 : decode bX4_useOther 56 = .ok (.getfield 127, 3) := by decide +kernel
theorem dX4_useOther_59 : decode bX4_useOther 59 = .ok (.iload_n 1, 1) := by decide +kernel
theorem dX4_useOther_60 : decode bX4_useOther 60 = .ok (.isub, 1) := by decide +kernel
theorem dX4_useOther_61 : decode bX4_useOther 61 = .ok (.putfield 127, 3) := by decide +kernel
theorem dX4_useOther_64 : decode bX4_useOther 64 = .ok (.aload_n 0, 1) := by decide +kernel
theorem dX4_useOther_65 : decode bX4_useOther 65 = .ok (.getfield 42, 3) := by decide +kernel
theorem dX4_useOther_68 : decode bX4_useOther 68 = .ok (.dup, 1) := by decide +kernel
theorem dX4_useOther_69 : decode bX4_useOther 69 = .ok (.getfield 127, 3) := by decide +kernel
theorem dX4_useOther_72 : decode bX4_useOther 72 = .ok (.iload_n 1, 1) := by decide +kernel
theorem dX4_useOther_73 : decode bX4_useOther 73 = .ok (.isub, 1) := by decide +kernel
theorem dX4_useOther_74 : decode bX4_useOther 74 = .ok (.putfield 127, 3) := by decide +kernel
theorem dX4_useOther_77 : decode bX4_useOther 77 = .ok (.aload_n 0, 1) := by decide +kernel
theorem dX4_useOther_78 : decode bX4_useOther 78 = .ok (.dup, 1) := by decide +kernel
theorem dX4_useOther_79 : decode bX4_useOther 79 = .ok (.getfield 170, 3) := by decide +kernel
theorem dX4_useOther_82 : decode bX4_useOther 82 = .ok (.iload_n 1, 1) := by decide +kernel
theorem dX4_useOther_83 : decode bX4_useOther 83 = .ok (.isub, 1) := by decide +kernel
theorem dX4_useOther_84 : decode bX4_useOther 84 = .ok (.putfield 170, 3) := by decide +kernel
theorem dX4_useOther_87 : decode bX4_useOther 87 = .ok (.return_, 1) := by decide +kernel
theorem dX4_readLog_0 : decode bX4_readLog 0 = .ok (.aload_n 0, 1) := by decide +kernel
theorem dX4_readLog_1 : decode bX4_readLog 1 = .ok (.getfield 38, 3) := by decide +kernel
theorem dX4_readLog_4 : decode bX4_readLog 4 = .ok (.getfield 124, 3) := by decide +kernel
theorem dX4_readLog_7 : decode bX4_readLog 7 = .ok (.istore_n 1, 1) := by decide +kernel
theorem dX4_readLog_8 : decode bX4_readLog 8 = .ok (.aload_n 0, 1) := by decide +kernel
theorem dX4_readLog_9 : decode bX4_readLog 9 = .ok (.getfield 38, 3) := by decide +kernel
theorem dX4_readLog_12 : decode bX4_readLog 12 = .ok (.getfield 127, 3) := by decide +kernel
theorem dX4_readLog_15 : decode bX4_readLog 15 = .ok (.istore_n 2, 1) := by decide +kernel
theorem dX4_readLog_16 : decode bX4_readLog 16 = .ok (.aload_n 0, 1) := by decide +kernel
theorem dX4_readLog_17 : decode bX4_readLog 17 = .ok (.aload_n 0, 1) := by decide +kernel
theorem dX4_readLog_18 : decode bX4_readLog 18 = .ok (.getfield 38, 3) := by decide +kernel
theorem dX4_readLog_21 : decode bX4_readLog 21 = .ok (.getfield 130, 3) := by decide +kernel
theorem dX4_readLog_24 : decode bX4_readLog 24 = .ok (.putfield 85, 3) := by decide +kernel
theorem dX4_readLog_27 : decode bX4_readLog 27 = .ok (.iload_n 2, 1) := by decide +kernel
theorem dX4_readLog_28 : decode bX4_readLog 28 = .ok (.aload_n 0, 1) := by decide +kernel
theorem dX4_readLog_29 : decode bX4_readLog 29 = .ok (.getfield 18, 3) := by decide +kernel
theorem dX4_readLog_32 : decode bX4_readLog 32 = .ok (.invokevirtual 59, 3) := by decide +kernel
theorem dX4_readLog_35 : decode bX4_readLog 35 = .ok (.if_icmp .ge 117, 3) := by decide +kernel
theorem dX4_readLog_38 : decode bX4_readLog 38 = .ok (.iload_n 1, 1) := by decide +kernel
theorem dX4_readLog_39 : decode bX4_readLog 39 = .ok (.aload_n 0, 1) := by decide +kernel
theorem dX4_readLog_40 : decode bX4_readLog 40 = .ok (.getfield 80, 3) := by decide +kernel
theorem dX4_readLog_43 : decode bX4_readLog 43 = .ok (.isub, 1) := by decide +kernel
theorem dX4_readLog_44 : decode bX4_readLog 44 = .ok (.bipush 64, 2) := by decide +kernel
theorem dX4_readLog_46 : decode bX4_readLog 46 = .ok (.if_icmp .ge 106, 3) := by decide +kernel
theorem dX4_readLog_49 : decode bX4_readLog 49 = .ok (.aload_n 0, 1) := by decide +kernel
theorem dX4_readLog_50 : decode bX4_readLog 50 = .ok (.getfield 31, 3) := by decide +kernel
theorem dX4_readLog_53 : decode bX4_readLog 53 = .ok (.aload_n 0, 1) := by decide +kernel
theorem dX4_readLog_54 : decode bX4_readLog 54 = .ok (.getfield 18, 3) := by decide +kernel
theorem dX4_readLog_57 : decode bX4_readLog 57 = .ok (.iload_n 2, 1) := by decide +kernel
theorem dX4_readLog_58 : decode bX4_readLog 58 = .ok (.invokevirtual 133, 3) := by decide +kernel
theorem dX4_readLog_61 : decode bX4_readLog 61 = .ok (.ifCond .eq 91, 3) := by decide +kernel
theorem dX4_readLog_64 : decode bX4_readLog 64 = .ok (.aload_n 0, 1) := by decide +kernel
theorem dX4_readLog_65 : decode bX4_readLog 65 = .ok (.aload_n 0, 1) := by decide +kernel
theorem dX4_readLog_66 : decode bX4_readLog 66 = .ok (.getfield 85, 3) := by decide +kernel
theorem dX4_readLog_69 : decode bX4_readLog 69 = .ok (.aload_n 0, 1) := by decide +kernel
theorem dX4_readLog_70 : decode bX4_readLog 70 = .ok (.getfield 31, 3) := by decide +kernel
theorem dX4_readLog_73 : decode bX4_readLog 73 = .ok (.getfield 144, 3) := by decide +kernel
theorem dX4_readLog_76 : decode bX4_readLog 76 = .ok (.invokestatic 93, 3) := by decide +kernel
theorem dX4_readLog_79 : decode bX4_readLog 79 = .ok (.putfield 85, 3) := by decide +kernel
theorem dX4_readLog_82 : decode bX4_readLog 82 = .ok (.aload_n 0, 1) := by decide +kernel
theorem dX4_readLog_83 : decode bX4_readLog 83 = .ok (.getfield 38, 3) := by decide +kernel
theorem dX4_readLog_86 : decode bX4_readLog 86 = .ok (.aload_n 0, 1) := by decide +kernel
theorem dX4_readLog_87 : decode bX4_readLog 87 = .ok (.getfield 31, 3) := by decide +kernel
theorem dX4_readLog_90 : decode bX4_readLog 90 = .ok (.getfield 137, 3) := by decide +kernel
theorem dX4_readLog_93 : decode bX4_readLog 93 = .ok (.iload_n 1, 1) := by decide +kernel
theorem dX4_readLog_94 : decode bX4_readLog 94 = .ok (.invokevirtual 140, 3) := by decide +kernel
theorem dX4_readLog_97 : decode bX4_readLog 97 = .ok (.ifCond .ne 39, 3) := by decide +kernel
theorem dX4_readLog_100 : decode bX4_readLog 100 = .ok (.aload_n 0, 1) := by decide +kernel
theorem dX4_readLog_101 : decode bX4_readLog 101 = .ok (.getfield 24, 3) := by decide +kernel
theorem dX4_readLog_104 : decode bX4_readLog 104 = .ok (.aload_n 0, 1) := by decide +kernel
theorem dX4_readLog_105 : decode bX4_readLog 105 = .ok (.getfield 31, 3) := by decide +kernel
theorem dX4_readLog_108 : decode bX4_readLog 108 = .ok (.getfield 137, 3) := by decide +kernel
theorem dX4_readLog_111 : decode bX4_readLog 111 = .ok (.aload_n 0, 1) := by decide +kernel
theorem dX4_readLog_112 : decode bX4_readLog 112 = .ok (.getfield 31, 3) := by decide +kernel
theorem dX4_readLog_115 : decode bX4_readLog 115 = .ok (.getfield 245, 3) := by decide +kernel
theorem dX4_readLog_118 : decode bX4_readLog 118 = .ok (.aload_n 0, 1) := by decide +kernel
theorem dX4_readLog_119 : decode bX4_readLog 119 = .ok (.getfield 18, 3) := by decide +kernel
theorem dX4_readLog_122 : decode bX4_readLog 122 = .ok (.iload_n 2, 1) := by decide +kernel
theorem dX4_readLog_123 : decode bX4_readLog 123 = .ok (.bipush 6, 2) := by decide +kernel
theorem dX4_readLog_125 : decode bX4_readLog 125 = .ok (.iadd, 1) := by decide +kernel
theorem dX4_readLog_126 : decode bX4_readLog 126 = .ok (.aload_n 0, 1) := by decide +kernel
theorem dX4_readLog_127 : decode bX4_readLog 127 = .ok (.getfield 31, 3) := by decide +kernel
theorem dX4_readLog_130 : decode bX4_readLog 130 = .ok (.getfield 248, 3) := by decide +kernel
theorem dX4_readLog_133 : decode bX4_readLog 133 = .ok (.invokevirtual 97, 3) := by decide +kernel
theorem dX4_readLog_136 : decode bX4_readLog 136 = .ok (.iload_n 2, 1) := by decide +kernel
theorem dX4_readLog_137 : decode bX4_readLog 137 = .ok (.aload_n 0, 1) := by decide +kernel
theorem dX4_readLog_138 : decode bX4_readLog 138 = .ok (.getfield 31, 3) := by decide +kernel
theorem dX4_readLog_141 : decode bX4_readLog 141 = .ok (.invokevirtual 147, 3) := by decide +kernel
theorem dX4_readLog_144 : decode bX4_readLog 144 = .ok (.iadd, 1) := by decide +kernel
theorem dX4_readLog_145 : decode bX4_readLog 145 = .ok (.istore_n 2, 1) := by decide +kernel
theorem dX4_readLog_146 : decode bX4_readLog 146 = .ok (.iinc 1 1, 3) := by decide +kernel
theorem dX4_readLog_149 : decode bX4_readLog 149 = .ok (.goto (-122), 3) := by decide +kernel
theorem dX4_readLog_152 : decode bX4_readLog 152 = .ok (.aload_n 0, 1) := by decide +kernel
theorem dX4_readLog_153 : decode bX4_readLog 153 = .ok (.iload_n 1, 1) := by decide +kernel
theorem dX4_readLog_154 : decode bX4_readLog 154 = .ok (.putfield 77, 3) := by decide +kernel
theorem dX4_readLog_157 : decode bX4_readLog 157 = .ok (.aload_n 0, 1) := by decide +kernel
theorem dX4_readLog_158 : decode bX4_readLog 158 = .ok (.iload_n 2, 1) := by decide +kernel
theorem dX4_readLog_159 : decode bX4_readLog 159 = .ok (.aload_n 0, 1) := by decide +kernel
theorem dX4_readLog_160 : decode bX4_readLog 160 = .ok (.getfield 18, 3) := by decide +kernel
theorem dX4_readLog_163 : decode bX4_readLog 163 = .ok (.invokevirtual 59, 3) := by decide +kernel
theorem dX4_readLog_166 : decode bX4_readLog 166 = .ok (.if_icmp .ge 7, 3) := by decide +kernel
theorem dX4_readLog_169 : decode bX4_readLog 169 = .ok (.iload_n 1, 1) := by decide +kernel
theorem dX4_readLog_170 : decode bX4_readLog 170 = .ok (.goto 4, 3) := by decide +kernel
theorem dX4_readLog_173 : decode bX4_readLog 173 = .ok (.iconst (-1), 1) := by decide +kernel
theorem dX4_readLog_174 : decode bX4_readLog 174 = .ok (.putfield 45, 3) := by decide +kernel
theorem dX4_readLog_177 : decode bX4_readLog 177 = .ok (.iload_n 1, 1) := by decide +kernel
theorem dX4_readLog_178 : decode bX4_readLog 178 = .ok (.aload_n 0, 1) := by decide +kernel
theorem dX4_readLog_179 : decode bX4_readLog 179 = .ok (.getfield 38, 3) := by decide +kernel
theorem dX4_readLog_182 : decode bX4_readLog 182 = .ok (.getfield 124, 3) := by decide +kernel
theorem dX4_readLog_185 : decode bX4_readLog 185 = .ok (.isub, 1) := by decide +kernel
theorem dX4_readLog_186 : decode bX4_readLog 186 = .ok (.ireturn, 1) := by decide +kernel
theorem dX4_startAnew_0 : decode bX4_startAnew 0 = .ok (.aload_n 0, 1) := by decide +kernel
theorem dX4_startAnew_1 : decode bX4_startAnew 1 = .ok (.aload_n 0, 1) := by decide +kernel
theorem dX4_startAnew_2 : decode bX4_startAnew 2 = .ok (.getfield 77, 3) := by decide +kernel
theorem dX4_startAnew_5 : decode bX4_startAnew 5 = .ok (.aload_n 0, 1) := by decide +kernel
theorem dX4_startAnew_6 : decode bX4_startAnew 6 = .ok (.getfield 38, 3) := by decide +kernel
theorem dX4_startAnew_9 : decode bX4_startAnew 9 = .ok (.invokevirtual 251, 3) := by decide +kernel
theorem dX4_startAnew_12 : decode bX4_startAnew 12 = .ok (.invokestatic 254, 3) := by decide +kernel
theorem dX4_startAnew_15 : decode bX4_startAnew 15 = .ok (.putfield 77, 3) := by decide +kernel
theorem dX4_startAnew_18 : decode bX4_startAnew 18 = .ok (.aload_n 0, 1) := by decide +kernel
theorem dX4_startAnew_19 : decode bX4_startAnew 19 = .ok (.aload_n 0, 1) := by decide +kernel
theorem dX4_startAnew_20 : decode bX4_startAnew 20 = .ok (.getfield 77, 3) := by decide +kernel
theorem dX4_startAnew_23 : decode bX4_startAnew 23 = .ok (.putfield 80, 3) := by decide +kernel
theorem dX4_startAnew_26 : decode bX4_startAnew 26 = .ok (.aload_n 0, 1) := by decide +kernel
theorem dX4_startAnew_27 : decode bX4_startAnew 27 = .ok (.getfield 18, 3) := by decide +kernel
theorem dX4_startAnew_30 : decode bX4_startAnew 30 = .ok (.iconst 0, 1) := by decide +kernel
theorem dX4_startAnew_31 : decode bX4_startAnew 31 = .ok (.invokevirtual 101, 3) := by decide +kernel
theorem dX4_startAnew_34 : decode bX4_startAnew 34 = .ok (.aload_n 0, 1) := by decide +kernel
theorem dX4_startAnew_35 : decode bX4_startAnew 35 = .ok (.getfield 38, 3) := by decide +kernel
theorem dX4_startAnew_38 : decode bX4_startAnew 38 = .ok (.aload_n 0, 1) := by decide +kernel
theorem dX4_startAnew_39 : decode bX4_startAnew 39 = .ok (.getfield 77, 3) := by decide +kernel
theorem dX4_startAnew_42 : decode bX4_startAnew 42 = .ok (.iconst 0, 1) := by decide +kernel
theorem dX4_startAnew_43 : decode bX4_startAnew 43 = .ok (.aload_n 0, 1) := by decide +kernel
theorem dX4_startAnew_44 : decode bX4_startAnew 44 = .ok (.getfield 85, 3) := by decide +kernel
theorem dX4_startAnew_47 : decode bX4_startAnew 47 = .ok (.invokevirtual 150, 3) := by decide +kernel
theorem dX4_startAnew_50 : decode bX4_startAnew 50 = .ok (.iconst 0, 1) := by decide +kernel
theorem dX4_startAnew_51 : decode bX4_startAnew 51 = .ok (.istore_n 1, 1) := by decide +kernel
theorem dX4_startAnew_52 : decode bX4_startAnew 52 = .ok (.iload_n 1, 1) := by decide +kernel
theorem dX4_startAnew_53 : decode bX4_startAnew 53 = .ok (.iconst 4, 1) := by decide +kernel
theorem dX4_startAnew_54 : decode bX4_startAnew 54 = .ok (.if_icmp .ge 25, 3) := by decide +kernel
theorem dX4_startAnew_57 : decode bX4_startAnew 57 = .ok (.aload_n 0, 1) := by decide +kernel
theorem dX4_startAnew_58 : decode bX4_startAnew 58 = .ok (.getfield 38, 3) := by decide +kernel
theorem dX4_startAnew_61 : decode bX4_startAnew 61 = .ok (.iload_n 1, 1) := by decide +kernel
theorem dX4_startAnew_62 : decode bX4_startAnew 62 = .ok (.aload_n 0, 1) := by decide +kernel
theorem dX4_startAnew_63 : decode bX4_startAnew 63 = .ok (.getfield 24, 3) := by decide +kernel
theorem dX4_startAnew_66 : decode bX4_startAnew 66 = .ok (.aload_n 0, 1) := by decide +kernel
theorem dX4_startAnew_67 : decode bX4_startAnew 67 = .ok (.getfield 77, 3) := by decide +kernel
theorem dX4_startAnew_70 : decode bX4_startAnew 70 = .ok (.invokevirtual 117, 3) := by decide +kernel
theorem dX4_startAnew_73 : decode bX4_startAnew 73 = .ok (.iinc 1 1, 3) := by decide +kernel
theorem dX4_startAnew_76 : decode bX4_startAnew 76 = .ok (.goto (-24), 3) := by decide +kernel
theorem dX4_startAnew_79 : decode bX4_startAnew 79 = .ok (.aload_n 0, 1) := by decide +kernel
theorem dX4_startAnew_80 : decode bX4_startAnew 80 = .ok (.getfield 38, 3) := by decide +kernel
theorem dX4_startAnew_83 : decode bX4_startAnew 83 = .ok (.dup, 1) := by decide +kernel
theorem dX4_startAnew_84 : decode bX4_startAnew 84 = .ok (.getfield 187, 3) := by decide +kernel
theorem dX4_startAnew_87 : decode bX4_startAnew 87 = .ok (.iconst 1, 1) := by decide +kernel
theorem dX4_startAnew_88 : decode bX4_startAnew 88 = .ok (.iadd, 1) := by decide +kernel
theorem dX4_startAnew_89 : decode bX4_startAnew 89 = .ok (.putfield 187, 3) := by decide +kernel
theorem dX4_startAnew_92 : decode bX4_startAnew 92 = .ok (.aload_n 0, 1) := by decide +kernel
theorem dX4_startAnew_93 : decode bX4_startAnew 93 = .ok (.getfield 42, 3) := by decide +kernel
theorem dX4_startAnew_96 : decode bX4_startAnew 96 = .ok (.aload_n 0, 1) := by decide +kernel
theorem dX4_startAnew_97 : decode bX4_startAnew 97 = .ok (.getfield 38, 3) := by decide +kernel
theorem dX4_startAnew_100 : decode bX4_startAnew 100 = .ok (.invokevirtual 257, 3) := by decide +kernel
theorem dX4_startAnew_103 : decode bX4_startAnew 103 = .ok (.return_, 1) := by decide +kernel
theorem dX5_init_0 : decode bX5_init 0 = .ok (.aload_n 0, 1) := by decide +kernel
theorem dX5_init_1 : decode bX5_init 1 = .ok (.invokespecial 1, 3) := by decide +kernel
theorem dX5_init_4 : decode bX5_init 4 = .ok (.aload_n 0, 1) := by decide +kernel
theorem dX5_init_5 : decode bX5_init 5 = .ok (.iconst 0, 1) := by decide +kernel
theorem dX5_init_6 : decode bX5_init 6 = .ok (.putfield 7, 3) := by decide +kernel
theorem dX5_init_9 : decode bX5_init 9 = .ok (.aload_n 0, 1) := by decide +kernel
theorem dX5_init_10 : decode bX5_init 10 = .ok (.bipush 24, 2) := by decide +kernel
theorem dX5_init_12 : decode bX5_init 12 = .ok (.newarray .int, 2) := by decide +kernel
theorem dX5_init_14 : decode bX5_init 14 = .ok (.putfield 13, 3) := by decide +kernel
theorem dX5_init_17 : decode bX5_init 17 = .ok (.aload_n 0, 1) := by decide +kernel
theorem dX5_init_18 : decode bX5_init 18 = .ok (.iconst 0, 1) := by decide +kernel
theorem dX5_init_19 : decode bX5_init 19 = .ok (.putfield 17, 3) := by decide +kernel
theorem dX5_init_22 : decode bX5_init 22 = .ok (.aload_n 0, 1) := by decide +kernel
theorem dX5_init_23 : decode bX5_init 23 = .ok (.sipush 2500, 3) := by decide +kernel
theorem dX5_init_26 : decode bX5_init 26 = .ok (.newarray .int, 2) := by decide +kernel
theorem dX5_init_28 : decode bX5_init 28 = .ok (.putfield 20, 3) := by decide +kernel
theorem dX5_init_31 : decode bX5_init 31 = .ok (.aload_n 0, 1) := by decide +kernel
theorem dX5_init_32 : decode bX5_init 32 = .ok (.iconst 0, 1) := by decide +kernel
theorem dX5_init_33 : decode bX5_init 33 = .ok (.putfield 23, 3) := by decide +kernel
theorem dX5_init_36 : decode bX5_init 36 = .ok (.aload_n 0, 1) := by decide +kernel
theorem dX5_init_37 : decode bX5_init 37 = .ok (.bipush 66, 2) := by decide +kernel
theorem dX5_init_39 : decode bX5_init 39 = .ok (.newarray .int, 2) := by decide +kernel
theorem dX5_init_41 : decode bX5_init 41 = .ok (.putfield 26, 3) := by decide +kernel
theorem dX5_init_44 : decode bX5_init 44 = .ok (.aload_n 0, 1) := by decide +kernel
theorem dX5_init_45 : decode bX5_init 45 = .ok (.iconst 0, 1) := by decide +kernel
theorem dX5_init_46 : decode bX5_init 46 = .ok (.putfield 29, 3) := by decide +kernel
theorem dX5_init_49 : decode bX5_init 49 = .ok (.aload_n 0, 1) := by decide +kernel
theorem dX5_init_50 : decode bX5_init 50 = .ok (.iconst 0, 1) := by decide +kernel
theorem dX5_init_51 : decode bX5_init 51 = .ok (.putfield 32, 3) := by decide +kernel
theorem dX5_init_54 : decode bX5_init 54 = .ok (.aload_n 0, 1) := by decide +kernel
theorem dX5_init_55 : decode bX5_init 55 = .ok (.iconst 0, 1) := by decide +kernel
theorem dX5_init_56 : decode bX5_init 56 = .ok (.putfield 35, 3) := by decide +kernel
theorem dX5_init_59 : decode bX5_init 59 = .ok (.aload_n 0, 1) := by decide +kernel
theorem dX5_init_60 : decode bX5_init 60 = .ok (.iconst 0, 1) := by decide +kernel
theorem dX5_init_61 : decode bX5_init 61 = .ok (.putfield 38, 3) := by decide +kernel
theorem dX5_init_64 : decode bX5_init 64 = .ok (.aload_n 0, 1) := by decide +kernel
theorem dX5_init_65 : decode bX5_init 65 = .ok (.iconst (-1), 1) := by decide +kernel
theorem dX5_init_66 : decode bX5_init 66 = .ok (.putfield 42, 3) := by decide +kernel
theorem dX5_init_69 : decode bX5_init 69 = .ok (.aload_n 0, 1) := by decide +kernel
theorem dX5_init_70 : decode bX5_init 70 = .ok (.iconst 0, 1) := by decide +kernel
theorem dX5_init_71 : decode bX5_init 71 = .ok (.putfield 45, 3) := by decide +kernel
theorem dX5_init_74 : decode bX5_init 74 = .ok (.aload_n 0, 1) := by decide +kernel
theorem dX5_init_75 : decode bX5_init 75 = .ok (.iconst 0, 1) := by decide +kernel
theorem dX5_init_76 : decode bX5_init 76 = .ok (.putfield 48, 3) := by decide +kernel
theorem dX5_init_79 : decode bX5_init 79 = .ok (.aload_n 0, 1) := by decide +kernel
theorem dX5_init_80 : decode bX5_init 80 = .ok (.iconst 2, 1) := by decide +kernel
theorem dX5_init_81 : decode bX5_init 81 = .ok (.newarray .int, 2) := by decide +kernel
theorem dX5_init_83 : decode bX5_init 83 = .ok (.putfield 51, 3) := by decide +kernel
theorem dX5_init_86 : decode bX5_init 86 = .ok (.aload_n 0, 1) := by decide +kernel
theorem dX5_init_87 : decode bX5_init 87 = .ok (.iconst 2, 1) := by decide +kernel
theorem dX5_init_88 : decode bX5_init 88 = .ok (.newarray .int, 2) := by decide +kernel
theorem dX5_init_90 : decode bX5_init 90 = .ok (.putfield 54, 3) := by decide +kernel
theorem dX5_init_93 : decode bX5_init 93 = .ok (.aload_n 0, 1) := by decide +kernel
theorem dX5_init_94 : decode bX5_init 94 = .ok (.iconst 2, 1) := by decide +kernel
theorem dX5_init_95 : decode bX5_init 95 = .ok (.newarray .long, 2) := by decide +kernel
theorem dX5_init_97 : decode bX5_init 97 = .ok (.putfield 57, 3) := by decide +kernel
theorem dX5_init_100 : decode bX5_init 100 = .ok (.aload_n 0, 1) := by decide +kernel
theorem dX5_init_101 : decode bX5_init 101 = .ok (.iconst 2, 1) := by decide +kernel
theorem dX5_init_102 : decode bX5_init 102 = .ok (.newarray .boolean, 2) := by decide +kernel
theorem dX5_init_104 : decode bX5_init 104 = .ok (.putfield 61, 3) := by decide +kernel
theorem dX5_init_107 : decode bX5_init 107 = .ok (.aload_n 0, 1) := by decide +kernel
theorem dX5_init_108 : decode bX5_init 108 = .ok (.bipush 8, 2) := by decide +kernel
theorem dX5_init_110 : decode bX5_init 110 = .ok (.newarray .int, 2) := by decide +kernel
theorem dX5_init_112 : decode bX5_init 112 = .ok (.putfield 65, 3) := by decide +kernel
theorem dX5_init_115 : decode bX5_init 115 = .ok (.aload_n 0, 1) := by decide +kernel
theorem dX5_init_116 : decode bX5_init 116 = .ok (.bipush 96, 2) := by decide +kernel
theorem dX5_init_118 : decode bX5_init 118 = .ok (.newarray .int, 2) := by decide +kernel
theorem dX5_init_120 : decode bX5_init 120 = .ok (.putfield 68, 3) := by decide +kernel
theorem dX5_init_123 : decode bX5_init 123 = .ok (.aload_n 0, 1) := by decide +kernel
theorem dX5_init_124 : decode bX5_init 124 = .ok (.bipush 96, 2) := by decide +kernel
theorem dX5_init_126 : decode bX5_init 126 = .ok (.newarray .int, 2) := by decide +kernel
theorem dX5_init_128 : decode bX5_init 128 = .ok (.putfield 71, 3) := by decide +kernel
theorem dX5_init_131 : decode bX5_init 131 = .ok (.aload_n 0, 1) := by decide +kernel
theorem dX5_init_132 : decode bX5_init 132 = .ok (.sipush 2304, 3) := by decide +kernel
theorem dX5_init_135 : decode bX5_init 135 = .ok (.newarray .int, 2) := by decide +kernel
theorem dX5_init_137 : decode bX5_init 137 = .ok (.putfield 74, 3) := by decide +kernel
theorem dX5_init_140 : decode bX5_init 140 = .ok (.iconst 0, 1) := by decide +kernel
theorem dX5_init_141 : decode bX5_init 141 = .ok (.istore_n 1, 1) := by decide +kernel
theorem dX5_init_142 : decode bX5_init 142 = .ok (.iload_n 1, 1) := by decide +kernel
theorem dX5_init_143 : decode bX5_init 143 = .ok (.bipush 96, 2) := by decide +kernel
theorem dX5_init_145 : decode bX5_init 145 = .ok (.if_icmp .ge 16, 3) := by decide +kernel
theorem dX5_init_148 : decode bX5_init 148 = .ok (.aload_n 0, 1) := by decide +kernel
theorem dX5_init_149 : decode bX5_init 149 = .ok (.getfield 68, 3) := by decide +kernel
theorem dX5_init_152 : decode bX5_init 152 = .ok (.iload_n 1, 1) := by decide +kernel
theorem dX5_init_153 : decode bX5_init 153 = .ok (.iconst (-1), 1) := by decide +kernel
theorem dX5_init_154 : decode bX5_init 154 = .ok (.iastore, 1) := by decide +kernel
theorem dX5_init_155 : decode bX5_init 155 = .ok (.iinc 1 1, 3) := by decide +kernel
theorem dX5_init_158 : decode bX5_init 158 = .ok (.goto (-16), 3) := by decide +kernel
theorem dX5_init_161 : decode bX5_init 161 = .ok (.aload_n 0, 1) := by decide +kernel
theorem dX5_init_162 : decode bX5_init 162 = .ok (.getfield 61, 3) := by decide +kernel
theorem dX5_init_165 : decode bX5_init 165 = .ok (.iconst 0, 1) := by decide +kernel
theorem dX5_init_166 : decode bX5_init 166 = .ok (.iconst 1, 1) := by decide +kernel
theorem dX5_init_167 : decode bX5_init 167 = .ok (.bastore, 1) := by decide +kernel
theorem dX5_init_168 : decode bX5_init 168 = .ok (.aload_n 0, 1) := by decide +kernel
theorem dX5_init_169 : decode bX5_init 169 = .ok (.getfield 61, 3) := by decide +kernel
theorem dX5_init_172 : decode bX5_init 172 = .ok (.iconst 1, 1) := by decide +kernel
theorem dX5_init_173 : decode bX5_init 173 = .ok (.iconst 1, 1) := by decide +kernel
theorem dX5_init_174 : decode bX5_init 174 = .ok (.bastore, 1) := by decide +kernel
theorem dX5_init_175 : decode bX5_init 175 = .ok (.return_, 1) := by decide +kernel
theorem dX5_goOn_0 : decode bX5_goOn 0 = .ok (.lload_n 0, 1) := by decide +kernel
theorem dX5_goOn_1 : decode bX5_goOn 1 = .ok (.lload_n 2, 1) := by decide +kernel
theorem dX5_goOn_2 : decode bX5_goOn 2 = .ok (.lxor, 1) := by decide +kernel
theorem dX5_goOn_3 : decode bX5_goOn 3 = .ok (.lstore 4, 2) := by decide +kernel
theorem dX5_goOn_5 : decode bX5_goOn 5 = .ok (.lload 4, 2) := by decide +kernel
theorem dX5_goOn_7 : decode bX5_goOn 7 = .ok (.bipush 37, 2) := by decide +kernel
theorem dX5_goOn_9 : decode bX5_goOn 9 = .ok (.lshl, 1) := by decide +kernel
theorem dX5_goOn_10 : decode bX5_goOn 10 = .ok (.lload 4, 2) := by decide +kernel
theorem dX5_goOn_12 : decode bX5_goOn 12 = .ok (.bipush 27, 2) := by decide +kernel
theorem dX5_goOn_14 : decode bX5_goOn 14 = .ok (.lushr, 1) := by decide +kernel
theorem dX5_goOn_15 : decode bX5_goOn 15 = .ok (.lor, 1) := by decide +kernel
theorem dX5_goOn_16 : decode bX5_goOn 16 = .ok (.ldc2_w 77, 3) := by decide +kernel
theorem dX5_goOn_19 : decode bX5_goOn 19 = .ok (.lmul, 1) := by decide +kernel
theorem dX5_goOn_20 : decode bX5_goOn 20 = .ok (.lreturn, 1) := by decide +kernel
theorem dX5_sum_0 : decode bX5_sum 0 = .ok (.lconst 0, 1) := by decide +kernel
theorem dX5_sum_1 : decode bX5_sum 1 = .ok (.lstore_n 3, 1) := by decide +kernel
theorem dX5_sum_2 : decode bX5_sum 2 = .ok (.iconst 0, 1) := by decide +kernel
theorem dX5_sum_3 : decode bX5_sum 3 = .ok (.istore 5, 2) := by decide +kernel
theorem dX5_sum_5 : decode bX5_sum 5 = .ok (.iload 5, 2) := by decide +kernel
theorem dX5_sum_7 : decode bX5_sum 7 = .ok (.iload_n 2, 1) := by decide +kernel
theorem dX5_sum_8 : decode bX5_sum 8 = .ok (.if_icmp .ge 24, 3) := by decide +kernel
theorem dX5_sum_11 : decode bX5_sum 11 = .ok (.lload_n 3, 1) := by decide +kernel
theorem dX5_sum_12 : decode bX5_sum 12 = .ok (.aload_n 0, 1) := by decide +kernel
theorem dX5_sum_13 : decode bX5_sum 13 = .ok (.getfield 20, 3) := by decide +kernel
theorem dX5_sum_16 : decode bX5_sum 16 = .ok (.iload_n 1, 1) := by decide +kernel
theorem dX5_sum_17 : decode bX5_sum 17 = .ok (.iload 5, 2) := by decide +kernel
theorem dX5_sum_19 : decode bX5_sum 19 = .ok (.iadd, 1) := by decide +kernel
theorem dX5_sum_20 : decode bX5_sum 20 = .ok (.iaload, 1) := by decide +kernel
theorem dX5_sum_21 : decode bX5_sum 21 = .ok (.i2l, 1) := by decide +kernel
theorem dX5_sum_22 : decode bX5_sum 22 = .ok (.invokestatic 79, 3) := by decide +kernel
theorem dX5_sum_25 : decode bX5_sum 25 = .ok (.lstore_n 3, 1) := by decide +kernel
theorem dX5_sum_26 : decode bX5_sum 26 = .ok (.iinc 5 1, 3) := by decide +kernel
theorem dX5_sum_29 : decode bX5_sum 29 = .ok (.goto (-24), 3) := by decide +kernel
theorem dX5_sum_32 : decode bX5_sum 32 = .ok (.lload_n 3, 1) := by decide +kernel
theorem dX5_sum_33 : decode bX5_sum 33 = .ok (.lreturn, 1) := by decide +kernel
theorem dX5_number_0 : decode bX5_number 0 = .ok (.lconst 0, 1) := by decide +kernel
theorem dX5_number_1 : decode bX5_number 1 = .ok (.lstore_n 3, 1) := by decide +kernel
theorem dX5_number_2 : decode bX5_number 2 = .ok (.iconst 0, 1) := by decide +kernel
theorem dX5_number_3 : decode bX5_number 3 = .ok (.istore 5, 2) := by decide +kernel
theorem dX5_number_5 : decode bX5_number 5 = .ok (.iload 5, 2) := by decide +kernel
theorem dX5_number_7 : decode bX5_number 7 = .ok (.iload_n 2, 1) := by decide +kernel
theorem dX5_number_8 : decode bX5_number 8 = .ok (.if_icmp .ge 25, 3) := by decide +kernel
theorem dX5_number_11 : decode bX5_number 11 = .ok (.lload_n 3, 1) := by decide +kernel
theorem dX5_number_12 : decode bX5_number 12 = .ok (.bipush 8, 2) := by decide +kernel
theorem dX5_number_14 : decode bX5_number 14 = .ok (.lshl, 1) := by decide +kernel
theorem dX5_number_15 : decode bX5_number 15 = .ok (.aload_n 0, 1) := by decide +kernel
theorem dX5_number_16 : decode bX5_number 16 = .ok (.getfield 20, 3) := by decide +kernel
theorem dX5_number_19 : decode bX5_number 19 = .ok (.iload_n 1, 1) := by decide +kernel
theorem dX5_number_20 : decode bX5_number 20 = .ok (.iload 5, 2) := by decide +kernel
theorem dX5_number_22 : decode bX5_number 22 = .ok (.iadd, 1) := by decide +kernel
theorem dX5_number_23 : decode bX5_number 23 = .ok (.iaload, 1) := by decide +kernel
theorem dX5_number_24 : decode bX5_number 24 = .ok (.i2l, 1) := by decide +kernel
theorem dX5_number_25 : decode bX5_number 25 = .ok (.lor, 1) := by decide +kernel
theorem dX5_number_26 : decode bX5_number 26 = .ok (.lstore_n 3, 1) := by decide +kernel
theorem dX5_number_27 : decode bX5_number 27 = .ok (.iinc 5 1, 3) := by decide +kernel
theorem dX5_number_30 : decode bX5_number 30 = .ok (.goto (-25), 3) := by decide +kernel
theorem dX5_number_33 : decode bX5_number 33 = .ok (.lload_n 3, 1) := by decide +kernel
theorem dX5_number_34 : decode bX5_number 34 = .ok (.lreturn, 1) := by decide +kernel
theorem dX5_lengthAt_0 : decode bX5_lengthAt 0 = .ok (.bipush 14, 2) := by decide +kernel
theorem dX5_lengthAt_2 : decode bX5_lengthAt 2 = .ok (.aload_n 0, 1) := by decide +kernel
theorem dX5_lengthAt_3 : decode bX5_lengthAt 3 = .ok (.getfield 20, 3) := by decide +kernel
theorem dX5_lengthAt_6 : decode bX5_lengthAt 6 = .ok (.iload_n 1, 1) := by decide +kernel
theorem dX5_lengthAt_7 : decode bX5_lengthAt 7 = .ok (.iconst 5, 1) := by decide +kernel
theorem dX5_lengthAt_8 : decode bX5_lengthAt 8 = .ok (.iadd, 1) := by decide +kernel
theorem dX5_lengthAt_9 : decode bX5_lengthAt 9 = .ok (.iaload, 1) := by decide +kernel
theorem dX5_lengthAt_10 : decode bX5_lengthAt 10 = .ok (.iadd, 1) := by decide +kernel
theorem dX5_lengthAt_11 : decode bX5_lengthAt 11 = .ok (.ireturn, 1) := by decide +kernel
theorem dX5_isAct_0 : decode bX5_isAct 0 = .ok (.iload_n 1, 1) := by decide +kernel
theorem dX5_isAct_1 : decode bX5_isAct 1 = .ok (.bipush 14, 2) := by decide +kernel
theorem dX5_isAct_3 : decode bX5_isAct 3 = .ok (.iadd, 1) := by decide +kernel
theorem dX5_isAct_4 : decode bX5_isAct 4 = .ok (.aload_n 0, 1) := by decide +kernel
theorem dX5_isAct_5 : decode bX5_isAct 5 = .ok (.getfield 23, 3) := by decide +kernel
theorem dX5_isAct_8 : decode bX5_isAct 8 = .ok (.if_icmp .gt 42, 3) := by decide +kernel
theorem dX5_isAct_11 : decode bX5_isAct 11 = .ok (.aload_n 0, 1) := by decide +kernel
theorem dX5_isAct_12 : decode bX5_isAct 12 = .ok (.getfield 20, 3) := by decide +kernel
theorem dX5_isAct_15 : decode bX5_isAct 15 = .ok (.iload_n 1, 1) := by decide +kernel
theorem dX5_isAct_16 : decode bX5_isAct 16 = .ok (.iaload, 1) := by decide +kernel
theorem dX5_isAct_17 : decode bX5_isAct 17 = .ok (.bipush 31, 2) := by decide +kernel
theorem dX5_isAct_19 : decode bX5_isAct 19 = .ok (.if_icmp .gt 31, 3) := by decide +kernel
theorem dX5_isAct_22 : decode bX5_isAct 22 = .ok (.aload_n 0, 1) := by decide +kernel
theorem dX5_isAct_23 : decode bX5_isAct 23 = .ok (.iload_n 1, 1) := by decide +kernel
theorem dX5_isAct_24 : decode bX5_isAct 24 = .ok (.iconst 1, 1) := by decide +kernel
theorem dX5_isAct_25 : decode bX5_isAct 25 = .ok (.iadd, 1) := by decide +kernel
theorem dX5_isAct_26 : decode bX5_isAct 26 = .ok (.iconst 4, 1) := by decide +kernel
theorem dX5_isAct_27 : decode bX5_isAct 27 = .ok (.invokevirtual 83, 3) := by decide +kernel
theorem dX5_isAct_30 : decode bX5_isAct 30 = .ok (.ldc2_w 87, 3) := by decide +kernel
theorem dX5_isAct_33 : decode bX5_isAct 33 = .ok (.lcmp, 1) := by decide +kernel
theorem dX5_isAct_34 : decode bX5_isAct 34 = .ok (.ifCond .gt 16, 3) := by decide +kernel
theorem dX5_isAct_37 : decode bX5_isAct 37 = .ok (.aload_n 0, 1) := by decide +kernel
theorem dX5_isAct_38 : decode bX5_isAct 38 = .ok (.getfield 20, 3) := by decide +kernel
theorem dX5_isAct_41 : decode bX5_isAct 41 = .ok (.iload_n 1, 1) := by decide +kernel
theorem dX5_isAct_42 : decode bX5_isAct 42 = .ok (.iconst 5, 1) := by decide +kernel
theorem dX5_isAct_43 : decode bX5_isAct 43 = .ok (.iadd, 1) := by decide +kernel
theorem dX5_isAct_44 : decode bX5_isAct 44 = .ok (.iaload, 1) := by decide +kernel
theorem dX5_isAct_45 : decode bX5_isAct 45 = .ok (.bipush 24, 2) := by decide +kernel
theorem dX5_isAct_47 : decode bX5_isAct 47 = .ok (.if_icmp .le 5, 3) := by decide +kernel
theorem dX5_isAct_50 : decode bX5_isAct 50 = .ok (.iconst 0, 1) := by decide +kernel
theorem dX5_isAct_51 : decode bX5_isAct 51 = .ok (.ireturn, 1) := by decide +kernel
theorem dX5_isAct_52 : decode bX5_isAct 52 = .ok (.bipush 6, 2) := by decide +kernel
theorem dX5_isAct_54 : decode bX5_isAct 54 = .ok (.aload_n 0, 1) := by decide +kernel
theorem dX5_isAct_55 : decode bX5_isAct 55 = .ok (.getfield 20, 3) := by decide +kernel
theorem dX5_isAct_58 : decode bX5_isAct 58 = .ok (.iload_n 1, 1) := by decide +kernel
theorem dX5_isAct_59 : decode bX5_isAct 59 = .ok (.iconst 5, 1) := by decide +kernel
theorem dX5_isAct_60 : decode bX5_isAct 60 = .ok (.iadd, 1) := by decide +kernel
theorem dX5_isAct_61 : decode bX5_isAct 61 = .ok (.iaload, 1) := by decide +kernel
theorem dX5_isAct_62 : decode bX5_isAct 62 = .ok (.iadd, 1) := by decide +kernel
theorem dX5_isAct_63 : decode bX5_isAct 63 = .ok (.istore_n 2, 1) := by decide +kernel
theorem dX5_isAct_64 : decode bX5_isAct 64 = .ok (.iload_n 1, 1) := by decide +kernel
theorem dX5_isAct_65 : decode bX5_isAct 65 = .ok (.iload_n 2, 1) := by decide +kernel
theorem dX5_isAct_66 : decode bX5_isAct 66 = .ok (.iadd, 1) := by decide +kernel
theorem dX5_isAct_67 : decode bX5_isAct 67 = .ok (.bipush 8, 2) := by decide +kernel
theorem dX5_isAct_69 : decode bX5_isAct 69 = .ok (.iadd, 1) := by decide +kernel
theorem dX5_isAct_70 : decode bX5_isAct 70 = .ok (.aload_n 0, 1) := by decide +kernel
theorem dX5_isAct_71 : decode bX5_isAct 71 = .ok (.getfield 23, 3) := by decide +kernel
theorem dX5_isAct_74 : decode bX5_isAct 74 = .ok (.if_icmp .gt 26, 3) := by decide +kernel
theorem dX5_isAct_77 : decode bX5_isAct 77 = .ok (.aload_n 0, 1) := by decide +kernel
theorem dX5_isAct_78 : decode bX5_isAct 78 = .ok (.iload_n 1, 1) := by decide +kernel
theorem dX5_isAct_79 : decode bX5_isAct 79 = .ok (.iload_n 2, 1) := by decide +kernel
theorem dX5_isAct_80 : decode bX5_isAct 80 = .ok (.invokevirtual 89, 3) := by decide +kernel
theorem dX5_isAct_83 : decode bX5_isAct 83 = .ok (.aload_n 0, 1) := by decide +kernel
theorem dX5_isAct_84 : decode bX5_isAct 84 = .ok (.iload_n 1, 1) := by decide +kernel
theorem dX5_isAct_85 : decode bX5_isAct 85 = .ok (.iload_n 2, 1) := by decide +kernel
theorem dX5_isAct_86 : decode bX5_isAct 86 = .ok (.iadd, 1) := by decide +kernel
theorem dX5_isAct_87 : decode bX5_isAct 87 = .ok (.bipush 8, 2) := by decide +kernel
theorem dX5_isAct_89 : decode bX5_isAct 89 = .ok (.invokevirtual 83, 3) := by decide +kernel
theorem dX5_isAct_92 : decode bX5_isAct 92 = .ok (.lcmp, 1) := by decide +kernel
theorem dX5_isAct_93 : decode bX5_isAct 93 = .ok (.ifCond .ne 7, 3) := by decide +kernel
theorem dX5_isAct_96 : decode bX5_isAct 96 = .ok (.iconst 1, 1) := by decide +kernel
theorem dX5_isAct_97 : decode bX5_isAct 97 = .ok (.goto 4, 3) := by decide +kernel
theorem dX5_isAct_100 : decode bX5_isAct 100 = .ok (.iconst 0, 1) := by decide +kernel
theorem dX5_isAct_101 : decode bX5_isAct 101 = .ok (.ireturn, 1) := by decide +kernel
theorem dX5_copyThing_0 : decode bX5_copyThing 0 = .ok (.aload_n 0, 1) := by decide +kernel
theorem dX5_copyThing_1 : decode bX5_copyThing 1 = .ok (.getfield 68, 3) := by decide +kernel
theorem dX5_copyThing_4 : decode bX5_copyThing 4 = .ok (.iload_n 2, 1) := by decide +kernel
theorem dX5_copyThing_5 : decode bX5_copyThing 5 = .ok (.aload_n 0, 1) := by decide +kernel
theorem dX5_copyThing_6 : decode bX5_copyThing 6 = .ok (.getfield 68, 3) := by decide +kernel
theorem dX5_copyThing_9 : decode bX5_copyThing 9 = .ok (.iload_n 1, 1) := by decide +kernel
theorem dX5_copyThing_10 : decode bX5_copyThing 10 = .ok (.iaload, 1) := by decide +kernel
theorem dX5_copyThing_11 : decode bX5_copyThing 11 = .ok (.iastore, 1) := by decide +kernel
theorem dX5_copyThing_12 : decode bX5_copyThing 12 = .ok (.aload_n 0, 1) := by decide +kernel
theorem dX5_copyThing_13 : decode bX5_copyThing 13 = .ok (.getfield 71, 3) := by decide +kernel
theorem dX5_copyThing_16 : decode bX5_copyThing 16 = .ok (.iload_n 2, 1) := by decide +kernel
theorem dX5_copyThing_17 : decode bX5_copyThing 17 = .ok (.aload_n 0, 1) := by decide +kernel
theorem dX5_copyThing_18 : decode bX5_copyThing 18 = .ok (.getfield 71, 3) := by decide +kernel
theorem dX5_copyThing_21 : decode bX5_copyThing 21 = .ok (.iload_n 1, 1) := by decide +kernel
theorem dX5_copyThing_22 : decode bX5_copyThing 22 = .ok (.iaload, 1) := by decide +kernel
theorem dX5_copyThing_23 : decode bX5_copyThing 23 = .ok (.iastore, 1) := by decide +kernel
theorem dX5_copyThing_24 : decode bX5_copyThing 24 = .ok (.iconst 0, 1) := by decide +kernel
theorem dX5_copyThing_25 : decode bX5_copyThing 25 = .ok (.istore_n 3, 1) := by decide +kernel
theorem dX5_copyThing_26 : decode bX5_copyThing 26 = .ok (.iload_n 3, 1) := by decide +kernel
theorem dX5_copyThing_27 : decode bX5_copyThing 27 = .ok (.bipush 24, 2) := by decide +kernel
theorem dX5_copyThing_29 : decode bX5_copyThing 29 = .ok (.if_icmp .ge 31, 3) := by decide +kernel
theorem dX5_copyThing_32 : decode bX5_copyThing 32 = .ok (.aload_n 0, 1) := by decide +kernel
theorem dX5_copyThing_33 : decode bX5_copyThing 33 = .ok (.getfield 74, 3) := by decide +kernel
theorem dX5_copyThing_36 : decode bX5_copyThing 36 = .ok (.bipush 24, 2) := by decide +kernel
theorem dX5_copyThing_38 : decode bX5_copyThing 38 = .ok (.iload_n 2, 1) := by decide +kernel
theorem dX5_copyThing_39 : decode bX5_copyThing 39 = .ok (.imul, 1) := by decide +kernel
theorem dX5_copyThing_40 : decode bX5_copyThing 40 = .ok (.iload_n 3, 1) := by decide +kernel
theorem dX5_copyThing_41 : decode bX5_copyThing 41 = .ok (.iadd, 1) := by decide +kernel
theorem dX5_copyThing_42 : decode bX5_copyThing 42 = .ok (.aload_n 0, 1) := by decide +kernel
theorem dX5_copyThing_43 : decode bX5_copyThing 43 = .ok (.getfield 74, 3) := by decide +kernel
theorem dX5_copyThing_46 : decode bX5_copyThing 46 = .ok (.bipush 24, 2) := by decide +kernel
theorem dX5_copyThing_48 : decode bX5_copyThing 48 = .ok (.iload_n 1, 1) := by decide +kernel
theorem dX5_copyThing_49 : decode bX5_copyThing 49 = .ok (.imul, 1) := by decide +kernel
theorem dX5_copyThing_50 : decode bX5_copyThing 50 = .ok (.iload_n 3, 1) := by decide +kernel
theorem dX5_copyThing_51 : decode bX5_copyThing 51 = .ok (.iadd, 1) := by decide +kernel
theorem dX5_copyThing_52 : decode bX5_copyThing 52 = .ok (.iaload, 1) := by decide +kernel
theorem dX5_copyThing_53 : decode bX5_copyThing 53 = .ok (.iastore, 1) := by decide +kernel
theorem dX5_copyThing_54 : decode bX5_copyThing 54 = .ok (.iinc 3 1, 3) := by decide +kernel
theorem dX5_copyThing_57 : decode bX5_copyThing 57 = .ok (.goto (-31), 3) := by decide +kernel
theorem dX5_copyThing_60 : decode bX5_copyThing 60 = .ok (.return_, 1) := by decide +kernel
theorem dX5_holds_0 : decode bX5_holds 0 = .ok (.bipush 64, 2) := by decide +kernel
theorem dX5_holds_2 : decode bX5_holds 2 = .ok (.aload_n 0, 1) := by decide +kernel
theorem dX5_holds_3 : decode bX5_holds 3 = .ok (.getfield 20, 3) := by decide +kernel
theorem dX5_holds_6 : decode bX5_holds 6 = .ok (.iload_n 1, 1) := by decide +kernel
theorem dX5_holds_7 : decode bX5_holds 7 = .ok (.iaload, 1) := by decide +kernel
theorem dX5_holds_8 : decode bX5_holds 8 = .ok (.iadd, 1) := by decide +kernel
theorem dX5_holds_9 : decode bX5_holds 9 = .ok (.istore_n 2, 1) := by decide +kernel
theorem dX5_holds_10 : decode bX5_holds 10 = .ok (.aload_n 0, 1) := by decide +kernel
theorem dX5_holds_11 : decode bX5_holds 11 = .ok (.getfield 68, 3) := by decide +kernel
theorem dX5_holds_14 : decode bX5_holds 14 = .ok (.iload_n 2, 1) := by decide +kernel
theorem dX5_holds_15 : decode bX5_holds 15 = .ok (.aload_n 0, 1) := by decide +kernel
theorem dX5_holds_16 : decode bX5_holds 16 = .ok (.iload_n 1, 1) := by decide +kernel
theorem dX5_holds_17 : decode bX5_holds 17 = .ok (.iconst 1, 1) := by decide +kernel
theorem dX5_holds_18 : decode bX5_holds 18 = .ok (.iadd, 1) := by decide +kernel
theorem dX5_holds_19 : decode bX5_holds 19 = .ok (.iconst 4, 1) := by decide +kernel
theorem dX5_holds_20 : decode bX5_holds 20 = .ok (.invokevirtual 83, 3) := by decide +kernel
theorem dX5_holds_23 : decode bX5_holds 23 = .ok (.l2i, 1) := by decide +kernel
theorem dX5_holds_24 : decode bX5_holds 24 = .ok (.iastore, 1) := by decide +kernel
theorem dX5_holds_25 : decode bX5_holds 25 = .ok (.aload_n 0, 1) := by decide +kernel
theorem dX5_holds_26 : decode bX5_holds 26 = .ok (.getfield 71, 3) := by decide +kernel
theorem dX5_holds_29 : decode bX5_holds 29 = .ok (.iload_n 2, 1) := by decide +kernel
theorem dX5_holds_30 : decode bX5_holds 30 = .ok (.aload_n 0, 1) := by decide +kernel
theorem dX5_holds_31 : decode bX5_holds 31 = .ok (.getfield 20, 3) := by decide +kernel
theorem dX5_holds_34 : decode bX5_holds 34 = .ok (.iload_n 1, 1) := by decide +kernel
theorem dX5_holds_35 : decode bX5_holds 35 = .ok (.iconst 5, 1) := by decide +kernel
theorem dX5_holds_36 : decode bX5_holds 36 = .ok (.iadd, 1) := by decide +kernel
theorem dX5_holds_37 : decode bX5_holds 37 = .ok (.iaload, 1) := by decide +kernel
theorem dX5_holds_38 : decode bX5_holds 38 = .ok (.iastore, 1) := by decide +kernel
theorem dX5_holds_39 : decode bX5_holds 39 = .ok (.iconst 0, 1) := by decide +kernel
theorem dX5_holds_40 : decode bX5_holds 40 = .ok (.istore_n 3, 1) := by decide +kernel
theorem dX5_holds_41 : decode bX5_holds 41 = .ok (.iload_n 3, 1) := by decide +kernel
theorem dX5_holds_42 : decode bX5_holds 42 = .ok (.aload_n 0, 1) := by decide +kernel
theorem dX5_holds_43 : decode bX5_holds 43 = .ok (.getfield 71, 3) := by decide +kernel
theorem dX5_holds_46 : decode bX5_holds 46 = .ok (.iload_n 2, 1) := by decide +kernel
theorem dX5_holds_47 : decode bX5_holds 47 = .ok (.iaload, 1) := by decide +kernel
theorem dX5_holds_48 : decode bX5_holds 48 = .ok (.if_icmp .ge 31, 3) := by decide +kernel
theorem dX5_holds_51 : decode bX5_holds 51 = .ok (.aload_n 0, 1) := by decide +kernel
theorem dX5_holds_52 : decode bX5_holds 52 = .ok (.getfield 74, 3) := by decide +kernel
theorem dX5_holds_55 : decode bX5_holds 55 = .ok (.bipush 24, 2) := by decide +kernel
theorem dX5_holds_57 : decode bX5_holds 57 = .ok (.iload_n 2, 1) := by decide +kernel
theorem dX5_holds_58 : decode bX5_holds 58 = .ok (.imul, 1) := by decide +kernel
theorem dX5_holds_59 : decode bX5_holds 59 = .ok (.iload_n 3, 1) := by decide +kernel
theorem dX5_holds_60 : decode bX5_holds 60 = .ok (.iadd, 1) := by decide +kernel
theorem dX5_holds_61 : decode bX5_holds 61 = .ok (.aload_n 0, 1) := by decide +kernel
theorem dX5_holds_62 : decode bX5_holds 62 = .ok (.getfield 20, 3) := by decide +kernel
theorem dX5_holds_65 : decode bX5_holds 65 = .ok (.iload_n 1, 1) := by decide +kernel
theorem dX5_holds_66 : decode bX5_holds 66 = .ok (.bipush 6, 2) := by decide +kernel
theorem dX5_holds_68 : decode bX5_holds 68 = .ok (.iadd, 1) := by decide +kernel
theorem dX5_holds_69 : decode bX5_holds 69 = .ok (.iload_n 3, 1) := by decide +kernel
theorem dX5_holds_70 : decode bX5_holds 70 = .ok (.iadd, 1) := by decide +kernel
theorem dX5_holds_71 : decode bX5_holds 71 = .ok (.iaload, 1) := by decide +kernel
theorem dX5_holds_72 : decode bX5_holds 72 = .ok (.iastore, 1) := by decide +kernel
theorem dX5_holds_73 : decode bX5_holds 73 = .ok (.iinc 3 1, 3) := by decide +kernel
theorem dX5_holds_76 : decode bX5_holds 76 = .ok (.goto (-35), 3) := by decide +kernel
theorem dX5_holds_79 : decode bX5_holds 79 = .ok (.return_, 1) := by decide +kernel
theorem dX5_drop_0 : decode bX5_drop 0 = .ok (.aload_n 0, 1) := by decide +kernel
theorem dX5_drop_1 : decode bX5_drop 1 = .ok (.getfield 54, 3) := by decide +kernel
theorem dX5_drop_4 : decode bX5_drop 4 = .ok (.iconst 0, 1) := by decide +kernel
theorem dX5_drop_5 : decode bX5_drop 5 = .ok (.iaload, 1) := by decide +kernel
theorem dX5_drop_6 : decode bX5_drop 6 = .ok (.aload_n 0, 1) := by decide +kernel
theorem dX5_drop_7 : decode bX5_drop 7 = .ok (.getfield 54, 3) := by decide +kernel
theorem dX5_drop_10 : decode bX5_drop 10 = .ok (.iconst 1, 1) := by decide +kernel
theorem dX5_drop_11 : decode bX5_drop 11 = .ok (.iaload, 1) := by decide +kernel
theorem dX5_drop_12 : decode bX5_drop 12 = .ok (.if_icmp .ge 12, 3) := by decide +kernel
theorem dX5_drop_15 : decode bX5_drop 15 = .ok (.aload_n 0, 1) := by decide +kernel
theorem dX5_drop_16 : decode bX5_drop 16 = .ok (.getfield 54, 3) := by decide +kernel
theorem dX5_drop_19 : decode bX5_drop 19 = .ok (.iconst 0, 1) := by decide +kernel
theorem dX5_drop_20 : decode bX5_drop 20 = .ok (.iaload, 1) := by decide +kernel
theorem dX5_drop_21 : decode bX5_drop 21 = .ok (.goto 9, 3) := by decide +kernel
theorem dX5_drop_24 : decode bX5_drop 24 = .ok (.aload_n 0, 1) := by decide +kernel
theorem dX5_drop_25 : decode bX5_drop 25 = .ok (.getfield 54, 3) := by decide +kernel
theorem dX5_drop_28 : decode bX5_drop 28 = .ok (.iconst 1, 1) := by decide +kernel
theorem dX5_drop_29 : decode bX5_drop 29 = .ok (.iaload, 1) := by decide +kernel
theorem dX5_drop_30 : decode bX5_drop 30 = .ok (.istore_n 1, 1) := by decide +kernel
theorem dX5_drop_31 : decode bX5_drop 31 = .ok (.iload_n 1, 1) := by decide +kernel
theorem dX5_drop_32 : decode bX5_drop 32 = .ok (.aload_n 0, 1) := by decide +kernel
theorem dX5_drop_33 : decode bX5_drop 33 = .ok (.getfield 29, 3) := by decide +kernel
theorem dX5_drop_36 : decode bX5_drop 36 = .ok (.isub, 1) := by decide +kernel
theorem dX5_drop_37 : decode bX5_drop 37 = .ok (.istore_n 2, 1) := by decide +kernel
theorem dX5_drop_38 : decode bX5_drop 38 = .ok (.aload_n 0, 1) := by decide +kernel
theorem dX5_drop_39 : decode bX5_drop 39 = .ok (.getfield 26, 3) := by decide +kernel
theorem dX5_drop_42 : decode bX5_drop 42 = .ok (.iload_n 2, 1) := by decide +kernel
theorem dX5_drop_43 : decode bX5_drop 43 = .ok (.iaload, 1) := by decide +kernel
theorem dX5_drop_44 : decode bX5_drop 44 = .ok (.istore_n 3, 1) := by decide +kernel
theorem dX5_drop_45 : decode bX5_drop 45 = .ok (.iload_n 3, 1) := by decide +kernel
theorem dX5_drop_46 : decode bX5_drop 46 = .ok (.istore 4, 2) := by decide +kernel
theorem dX5_drop_48 : decode bX5_drop 48 = .ok (.iload 4, 2) := by decide +kernel
theorem dX5_drop_50 : decode bX5_drop 50 = .ok (.aload_n 0, 1) := by decide +kernel
theorem dX5_drop_51 : decode bX5_drop 51 = .ok (.getfield 23, 3) := by decide +kernel
theorem dX5_drop_54 : decode bX5_drop 54 = .ok (.if_icmp .ge 25, 3) := by decide +kernel
theorem dX5_drop_57 : decode bX5_drop 57 = .ok (.aload_n 0, 1) := by decide +kernel
theorem dX5_drop_58 : decode bX5_drop 58 = .ok (.getfield 20, 3) := by decide +kernel
theorem dX5_drop_61 : decode bX5_drop 61 = .ok (.iload 4, 2) := by decide +kernel
theorem dX5_drop_63 : decode bX5_drop 63 = .ok (.iload_n 3, 1) := by decide +kernel
theorem dX5_drop_64 : decode bX5_drop 64 = .ok (.isub, 1) := by decide +kernel
theorem dX5_drop_65 : decode bX5_drop 65 = .ok (.aload_n 0, 1) := by decide +kernel
theorem dX5_drop_66 : decode bX5_drop 66 = .ok (.getfield 20, 3) := by decide +kernel
theorem dX5_drop_69 : decode bX5_drop 69 = .ok (.iload 4, 2) := by decide +kernel
theorem dX5_drop_71 : decode bX5_drop 71 = .ok (.iaload, 1) := by decide +kernel
theorem dX5_drop_72 : decode bX5_drop 72 = .ok (.iastore, 1) := by decide +kernel
theorem dX5_drop_73 : decode bX5_drop 73 = .ok (.iinc 4 1, 3) := by decide +kernel
theorem dX5_drop_76 : decode bX5_drop 76 = .ok (.goto (-28), 3) := by decide +kernel
theorem dX5_drop_79 : decode bX5_drop 79 = .ok (.aload_n 0, 1) := by decide +kernel
theorem dX5_drop_80 : decode bX5_drop 80 = .ok (.dup, 1) := by decide +kernel
theorem dX5_drop_81 : decode bX5_drop 81 = .ok (.getfield 23, 3) := by decide +kernel
theorem dX5_drop_84 : decode bX5_drop 84 = .ok (.iload_n 3, 1) := by decide +kernel
theorem dX5_drop_85 : decode bX5_drop 85 = .ok (.isub, 1) := by decide +kernel
theorem dX5_drop_86 : decode bX5_drop 86 = .ok (.putfield 23, 3) := by decide +kernel
theorem dX5_drop_89 : decode bX5_drop 89 = .ok (.iconst 0, 1) := by decide +kernel
theorem dX5_drop_90 : decode bX5_drop 90 = .ok (.istore 4, 2) := by decide +kernel
theorem dX5_drop_92 : decode bX5_drop 92 = .ok (.iload 4, 2) := by decide +kernel
theorem dX5_drop_94 : decode bX5_drop 94 = .ok (.iload_n 2, 1) := by decide +kernel
theorem dX5_drop_95 : decode bX5_drop 95 = .ok (.iadd, 1) := by decide +kernel
theorem dX5_drop_96 : decode bX5_drop 96 = .ok (.aload_n 0, 1) := by decide +kernel
theorem dX5_drop_97 : decode bX5_drop 97 = .ok (.getfield 32, 3) := by decide +kernel
theorem dX5_drop_100 : decode bX5_drop 100 = .ok (.aload_n 0, 1) := by decide +kernel
theorem dX5_drop_101 : decode bX5_drop 101 = .ok (.getfield 29, 3) := by decide +kernel
theorem dX5_drop_104 : decode bX5_drop 104 = .ok (.isub, 1) := by decide +kernel
theorem dX5_drop_105 : decode bX5_drop 105 = .ok (.if_icmp .gt 27, 3) := by decide +kernel
theorem dX5_drop_108 : decode bX5_drop 108 = .ok (.aload_n 0, 1) := by decide +kernel
theorem dX5_drop_109 : decode bX5_drop 109 = .ok (.getfield 26, 3) := by decide +kernel
theorem dX5_drop_112 : decode bX5_drop 112 = .ok (.iload 4, 2) := by decide +kernel
theorem dX5_drop_114 : decode bX5_drop 114 = .ok (.aload_n 0, 1) := by decide +kernel
theorem dX5_drop_115 : decode bX5_drop 115 = .ok (.getfield 26, 3) := by decide +kernel
theorem dX5_drop_118 : decode bX5_drop 118 = .ok (.iload 4, 2) := by decide +kernel
theorem dX5_drop_120 : decode bX5_drop 120 = .ok (.iload_n 2, 1) := by decide +kernel
theorem dX5_drop_121 : decode bX5_drop 121 = .ok (.iadd, 1) := by decide +kernel
theorem dX5_drop_122 : decode bX5_drop 122 = .ok (.iaload, 1) := by decide +kernel
theorem dX5_drop_123 : decode bX5_drop 123 = .ok (.iload_n 3, 1) := by decide +kernel
theorem dX5_drop_124 : decode bX5_drop 124 = .ok (.isub, 1) := by decide +kernel
theorem dX5_drop_125 : decode bX5_drop 125 = .ok (.iastore, 1) := by decide +kernel
theorem dX5_drop_126 : decode bX5_drop 126 = .ok (.iinc 4 1, 3) := by decide +kernel
theorem dX5_drop_129 : decode bX5_drop 129 = .ok (.goto (-37), 3) := by decide +kernel
theorem dX5_drop_132 : decode bX5_drop 132 = .ok (.aload_n 0, 1) := by decide +kernel
theorem dX5_drop_133 : decode bX5_drop 133 = .ok (.iload_n 1, 1) := by decide +kernel
theorem dX5_drop_134 : decode bX5_drop 134 = .ok (.putfield 29, 3) := by decide +kernel
theorem dX5_drop_137 : decode bX5_drop 137 = .ok (.return_, 1) := by decide +kernel
