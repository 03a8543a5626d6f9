theorem dX9_readPosition_0 : decode cX9_readPosition 0 = .ok (.iconst 0, 1) := by decide +kernel
theorem dX9_readPosition_1 : decode cX9_readPosition 1 = .ok (.istore_n 2, 1) := by decide +kernel
theorem dX9_readPosition_2 : decode cX9_readPosition 2 = .ok (.aload_n 1, 1) := by decide +kernel
theorem dX9_readPosition_3 : decode cX9_readPosition 3 = .ok (.getfield 151, 3) := by decide +kernel
theorem dX9_readPosition_6 : decode cX9_readPosition 6 = .ok (.iconst 1, 1) := by decide +kernel
theorem dX9_readPosition_7 : decode cX9_readPosition 7 = .ok (.isub, 1) := by decide +kernel
theorem dX9_readPosition_8 : decode cX9_readPosition 8 = .ok (.istore_n 3, 1) := by decide +kernel
theorem dX9_readPosition_9 : decode cX9_readPosition 9 = .ok (.iconst 0, 1) := by decide +kernel
theorem dX9_readPosition_10 : decode cX9_readPosition 10 = .ok (.istore 4, 2) := by decide +kernel
theorem dX9_readPosition_12 : decode cX9_readPosition 12 = .ok (.iload 4, 2) := by decide +kernel
theorem dX9_readPosition_14 : decode cX9_readPosition 14 = .ok (.aload_n 0, 1) := by decide +kernel
theorem dX9_readPosition_15 : decode cX9_readPosition 15 = .ok (.getfield 14, 3) := by decide +kernel
theorem dX9_readPosition_18 : decode cX9_readPosition 18 = .ok (.getfield 91, 3) := by decide +kernel
theorem dX9_readPosition_21 : decode cX9_readPosition 21 = .ok (.if_icmp .ge 141, 3) := by decide +kernel
theorem dX9_readPosition_24 : decode cX9_readPosition 24 = .ok (.aload_n 0, 1) := by decide +kernel
theorem dX9_readPosition_25 : decode cX9_readPosition 25 = .ok (.getfield 14, 3) := by decide +kernel
theorem dX9_readPosition_28 : decode cX9_readPosition 28 = .ok (.iload 4, 2) := by decide +kernel
theorem dX9_readPosition_30 : decode cX9_readPosition 30 = .ok (.invokevirtual 380, 3) := by decide +kernel
theorem dX9_readPosition_33 : decode cX9_readPosition 33 = .ok (.istore 5, 2) := by decide +kernel
theorem dX9_readPosition_35 : decode cX9_readPosition 35 = .ok (.iload 5, 2) := by decide +kernel
theorem dX9_readPosition_37 : decode cX9_readPosition 37 = .ok (.bipush 47, 2) := by decide +kernel
theorem dX9_readPosition_39 : decode cX9_readPosition 39 = .ok (.if_icmp .ne 26, 3) := by decide +kernel
theorem dX9_readPosition_42 : decode cX9_readPosition 42 = .ok (.iload_n 2, 1) := by decide +kernel
theorem dX9_readPosition_43 : decode cX9_readPosition 43 = .ok (.aload_n 1, 1) := by decide +kernel
theorem dX9_readPosition_44 : decode cX9_readPosition 44 = .ok (.getfield 148, 3) := by decide +kernel
theorem dX9_readPosition_47 : decode cX9_readPosition 47 = .ok (.if_icmp .ne 7, 3) := by decide +kernel
theorem dX9_readPosition_50 : decode cX9_readPosition 50 = .ok (.iload_n 3, 1) := by decide +kernel
theorem dX9_readPosition_51 : decode cX9_readPosition 51 = .ok (.ifCond .ne 6, 3) := by decide +kernel
theorem dX9_readPosition_54 : decode cX9_readPosition 54 = .ok (.iload 4, 2) := by decide +kernel
theorem dX9_readPosition_56 : decode cX9_readPosition 56 = .ok (.ireturn, 1) := by decide +kernel
theorem dX9_readPosition_57 : decode cX9_readPosition 57 = .ok (.iconst 0, 1) := by decide +kernel
theorem dX9_readPosition_58 : decode cX9_readPosition 58 = .ok (.istore_n 2, 1) := by decide +kernel
theorem dX9_readPosition_59 : decode cX9_readPosition 59 = .ok (.iinc 3 (-1), 3) := by decide +kernel
theorem dX9_readPosition_62 : decode cX9_readPosition 62 = .ok (.goto 83, 3) := by decide +kernel
theorem dX9_readPosition_65 : decode cX9_readPosition 65 = .ok (.iload 5, 2) := by decide +kernel
theorem dX9_readPosition_67 : decode cX9_readPosition 67 = .ok (.bipush 49, 2) := by decide +kernel
theorem dX9_readPosition_69 : decode cX9_readPosition 69 = .ok (.if_icmp .lt 21, 3) := by decide +kernel
theorem dX9_readPosition_72 : decode cX9_readPosition 72 = .ok (.iload 5, 2) := by decide +kernel
theorem dX9_readPosition_74 : decode cX9_readPosition 74 = .ok (.bipush 54, 2) := by decide +kernel
theorem dX9_readPosition_76 : decode cX9_readPosition 76 = .ok (.if_icmp .gt 14, 3) := by decide +kernel
theorem dX9_readPosition_79 : decode cX9_readPosition 79 = .ok (.iload_n 2, 1) := by decide +kernel
theorem dX9_readPosition_80 : decode cX9_readPosition 80 = .ok (.iload 5, 2) := by decide +kernel
theorem dX9_readPosition_82 : decode cX9_readPosition 82 = .ok (.bipush 48, 2) := by decide +kernel
theorem dX9_readPosition_84 : decode cX9_readPosition 84 = .ok (.isub, 1) := by decide +kernel
theorem dX9_readPosition_85 : decode cX9_readPosition 85 = .ok (.iadd, 1) := by decide +kernel
theorem dX9_readPosition_86 : decode cX9_readPosition 86 = .ok (.istore_n 2, 1) := by decide +kernel
theorem dX9_readPosition_87 : decode cX9_readPosition 87 = .ok (.goto 58, 3) := by decide +kernel
theorem dX9_readPosition_90 : decode cX9_readPosition 90 = .ok (.iload 5, 2) := by decide +kernel
theorem dX9_readPosition_92 : decode cX9_readPosition 92 = .ok (.invokestatic 383, 3) := by decide +kernel
theorem dX9_readPosition_95 : decode cX9_readPosition 95 = .ok (.istore 6, 2) := by decide +kernel
theorem dX9_readPosition_97 : decode cX9_readPosition 97 = .ok (.iload 6, 2) := by decide +kernel
theorem dX9_readPosition_99 : decode cX9_readPosition 99 = .ok (.ifCond .eq 26, 3) := by decide +kernel
theorem dX9_readPosition_102 : decode cX9_readPosition 102 = .ok (.aload_n 0, 1) := by decide +kernel
theorem dX9_readPosition_103 : decode cX9_readPosition 103 = .ok (.getfield 24, 3) := by decide +kernel
theorem dX9_readPosition_106 : decode cX9_readPosition 106 = .ok (.iload 6, 2) := by decide +kernel
theorem dX9_readPosition_108 : decode cX9_readPosition 108 = .ok (.invokestatic 226, 3) := by decide +kernel
theorem dX9_readPosition_111 : decode cX9_readPosition 111 = .ok (.invokevirtual 120, 3) := by decide +kernel
theorem dX9_readPosition_114 : decode cX9_readPosition 114 = .ok (.ifCond .eq 11, 3) := by decide +kernel
theorem dX9_readPosition_117 : decode cX9_readPosition 117 = .ok (.iload_n 2, 1) := by decide +kernel
theorem dX9_readPosition_118 : decode cX9_readPosition 118 = .ok (.aload_n 1, 1) := by decide +kernel
theorem dX9_readPosition_119 : decode cX9_readPosition 119 = .ok (.getfield 148, 3) := by decide +kernel
theorem dX9_readPosition_122 : decode cX9_readPosition 122 = .ok (.if_icmp .lt 6, 3) := by decide +kernel
theorem dX9_readPosition_125 : decode cX9_readPosition 125 = .ok (.iload 4, 2) := by decide +kernel
theorem dX9_readPosition_127 : decode cX9_readPosition 127 = .ok (.ireturn, 1) := by decide +kernel
theorem dX9_readPosition_128 : decode cX9_readPosition 128 = .ok (.aload_n 1, 1) := by decide +kernel
theorem dX9_readPosition_129 : decode cX9_readPosition 129 = .ok (.iload_n 3, 1) := by decide +kernel
theorem dX9_readPosition_130 : decode cX9_readPosition 130 = .ok (.aload_n 1, 1) := by decide +kernel
theorem dX9_readPosition_131 : decode cX9_readPosition 131 = .ok (.getfield 148, 3) := by decide +kernel
theorem dX9_readPosition_134 : decode cX9_readPosition 134 = .ok (.imul, 1) := by decide +kernel
theorem dX9_readPosition_135 : decode cX9_readPosition 135 = .ok (.iload_n 2, 1) := by decide +kernel
theorem dX9_readPosition_136 : decode cX9_readPosition 136 = .ok (.iadd, 1) := by decide +kernel
theorem dX9_readPosition_137 : decode cX9_readPosition 137 = .ok (.iload 6, 2) := by decide +kernel
theorem dX9_readPosition_139 : decode cX9_readPosition 139 = .ok (.invokevirtual 369, 3) := by decide +kernel
theorem dX9_readPosition_142 : decode cX9_readPosition 142 = .ok (.iinc 2 1, 3) := by decide +kernel
theorem dX9_readPosition_145 : decode cX9_readPosition 145 = .ok (.iload_n 2, 1) := by decide +kernel
theorem dX9_readPosition_146 : decode cX9_readPosition 146 = .ok (.aload_n 1, 1) := by decide +kernel
theorem dX9_readPosition_147 : decode cX9_readPosition 147 = .ok (.getfield 148, 3) := by decide +kernel
theorem dX9_readPosition_150 : decode cX9_readPosition 150 = .ok (.if_icmp .le 6, 3) := by decide +kernel
theorem dX9_readPosition_153 : decode cX9_readPosition 153 = .ok (.iload 4, 2) := by decide +kernel
theorem dX9_readPosition_155 : decode cX9_readPosition 155 = .ok (.ireturn, 1) := by decide +kernel
theorem dX9_readPosition_156 : decode cX9_readPosition 156 = .ok (.iinc 4 1, 3) := by decide +kernel
theorem dX9_readPosition_159 : decode cX9_readPosition 159 = .ok (.goto (-147), 3) := by decide +kernel
theorem dX9_readPosition_162 : decode cX9_readPosition 162 = .ok (.iload_n 2, 1) := by decide +kernel
theorem dX9_readPosition_163 : decode cX9_readPosition 163 = .ok (.aload_n 1, 1) := by decide +kernel
theorem dX9_readPosition_164 : decode cX9_readPosition 164 = .ok (.getfield 148, 3) := by decide +kernel
theorem dX9_readPosition_167 : decode cX9_readPosition 167 = .ok (.if_icmp .ne 11, 3) := by decide +kernel
theorem dX9_readPosition_170 : decode cX9_readPosition 170 = .ok (.iload_n 3, 1) := by decide +kernel
theorem dX9_readPosition_171 : decode cX9_readPosition 171 = .ok (.ifCond .ne 7, 3) := by decide +kernel
theorem dX9_readPosition_174 : decode cX9_readPosition 174 = .ok (.iconst (-1), 1) := by decide +kernel
theorem dX9_readPosition_175 : decode cX9_readPosition 175 = .ok (.goto 10, 3) := by decide +kernel
theorem dX9_readPosition_178 : decode cX9_readPosition 178 = .ok (.aload_n 0, 1) := by decide +kernel
theorem dX9_readPosition_179 : decode cX9_readPosition 179 = .ok (.getfield 14, 3) := by decide +kernel
theorem dX9_readPosition_182 : decode cX9_readPosition 182 = .ok (.getfield 91, 3) := by decide +kernel
theorem dX9_readPosition_185 : decode cX9_readPosition 185 = .ok (.ireturn, 1) := by decide +kernel
theorem dX9_writeRow_0 : decode cX9_writeRow 0 = .ok (.iconst 0, 1) := by decide +kernel
theorem dX9_writeRow_1 : decode cX9_writeRow 1 = .ok (.istore_n 2, 1) := by decide +kernel
theorem dX9_writeRow_2 : decode cX9_writeRow 2 = .ok (.iconst 0, 1) := by decide +kernel
theorem dX9_writeRow_3 : decode cX9_writeRow 3 = .ok (.istore_n 3, 1) := by decide +kernel
theorem dX9_writeRow_4 : decode cX9_writeRow 4 = .ok (.iload_n 3, 1) := by decide +kernel
theorem dX9_writeRow_5 : decode cX9_writeRow 5 = .ok (.aload_n 0, 1) := by decide +kernel
theorem dX9_writeRow_6 : decode cX9_writeRow 6 = .ok (.getfield 47, 3) := by decide +kernel
theorem dX9_writeRow_9 : decode cX9_writeRow 9 = .ok (.getfield 148, 3) := by decide +kernel
theorem dX9_writeRow_12 : decode cX9_writeRow 12 = .ok (.if_icmp .ge 60, 3) := by decide +kernel
theorem dX9_writeRow_15 : decode cX9_writeRow 15 = .ok (.aload_n 0, 1) := by decide +kernel
theorem dX9_writeRow_16 : decode cX9_writeRow 16 = .ok (.getfield 47, 3) := by decide +kernel
theorem dX9_writeRow_19 : decode cX9_writeRow 19 = .ok (.iload_n 1, 1) := by decide +kernel
theorem dX9_writeRow_20 : decode cX9_writeRow 20 = .ok (.aload_n 0, 1) := by decide +kernel
theorem dX9_writeRow_21 : decode cX9_writeRow 21 = .ok (.getfield 47, 3) := by decide +kernel
theorem dX9_writeRow_24 : decode cX9_writeRow 24 = .ok (.getfield 148, 3) := by decide +kernel
theorem dX9_writeRow_27 : decode cX9_writeRow 27 = .ok (.imul, 1) := by decide +kernel
theorem dX9_writeRow_28 : decode cX9_writeRow 28 = .ok (.iload_n 3, 1) := by decide +kernel
theorem dX9_writeRow_29 : decode cX9_writeRow 29 = .ok (.iadd, 1) := by decide +kernel
theorem dX9_writeRow_30 : decode cX9_writeRow 30 = .ok (.invokevirtual 199, 3) := by decide +kernel
theorem dX9_writeRow_33 : decode cX9_writeRow 33 = .ok (.istore 4, 2) := by decide +kernel
theorem dX9_writeRow_35 : decode cX9_writeRow 35 = .ok (.iload 4, 2) := by decide +kernel
theorem dX9_writeRow_37 : decode cX9_writeRow 37 = .ok (.ifCond .ne 9, 3) := by decide +kernel
theorem dX9_writeRow_40 : decode cX9_writeRow 40 = .ok (.iinc 2 1, 3) := by decide +kernel
theorem dX9_writeRow_43 : decode cX9_writeRow 43 = .ok (.goto 23, 3) := by decide +kernel
theorem dX9_writeRow_46 : decode cX9_writeRow 46 = .ok (.aload_n 0, 1) := by decide +kernel
theorem dX9_writeRow_47 : decode cX9_writeRow 47 = .ok (.iload_n 2, 1) := by decide +kernel
theorem dX9_writeRow_48 : decode cX9_writeRow 48 = .ok (.invokevirtual 386, 3) := by decide +kernel
theorem dX9_writeRow_51 : decode cX9_writeRow 51 = .ok (.iconst 0, 1) := by decide +kernel
theorem dX9_writeRow_52 : decode cX9_writeRow 52 = .ok (.istore_n 2, 1) := by decide +kernel
theorem dX9_writeRow_53 : decode cX9_writeRow 53 = .ok (.aload_n 0, 1) := by decide +kernel
theorem dX9_writeRow_54 : decode cX9_writeRow 54 = .ok (.getfield 18, 3) := by decide +kernel
theorem dX9_writeRow_57 : decode cX9_writeRow 57 = .ok (.iload 4, 2) := by decide +kernel
theorem dX9_writeRow_59 : decode cX9_writeRow 59 = .ok (.invokestatic 389, 3) := by decide +kernel
theorem dX9_writeRow_62 : decode cX9_writeRow 62 = .ok (.invokevirtual 87, 3) := by decide +kernel
theorem dX9_writeRow_65 : decode cX9_writeRow 65 = .ok (.pop, 1) := by decide +kernel
theorem dX9_writeRow_66 : decode cX9_writeRow 66 = .ok (.iinc 3 1, 3) := by decide +kernel
theorem dX9_writeRow_69 : decode cX9_writeRow 69 = .ok (.goto (-65), 3) := by decide +kernel
theorem dX9_writeRow_72 : decode cX9_writeRow 72 = .ok (.aload_n 0, 1) := by decide +kernel
theorem dX9_writeRow_73 : decode cX9_writeRow 73 = .ok (.iload_n 2, 1) := by decide +kernel
theorem dX9_writeRow_74 : decode cX9_writeRow 74 = .ok (.invokevirtual 386, 3) := by decide +kernel
theorem dX9_writeRow_77 : decode cX9_writeRow 77 = .ok (.return_, 1) := by decide +kernel
theorem dX9_writeEmpty_0 : decode cX9_writeEmpty 0 = .ok (.iload_n 1, 1) := by decide +kernel
theorem dX9_writeEmpty_1 : decode cX9_writeEmpty 1 = .ok (.ifCond .le 15, 3) := by decide +kernel
theorem dX9_writeEmpty_4 : decode cX9_writeEmpty 4 = .ok (.aload_n 0, 1) := by decide +kernel
theorem dX9_writeEmpty_5 : decode cX9_writeEmpty 5 = .ok (.getfield 18, 3) := by decide +kernel
theorem dX9_writeEmpty_8 : decode cX9_writeEmpty 8 = .ok (.bipush 48, 2) := by decide +kernel
theorem dX9_writeEmpty_10 : decode cX9_writeEmpty 10 = .ok (.iload_n 1, 1) := by decide +kernel
theorem dX9_writeEmpty_11 : decode cX9_writeEmpty 11 = .ok (.iadd, 1) := by decide +kernel
theorem dX9_writeEmpty_12 : decode cX9_writeEmpty 12 = .ok (.invokevirtual 87, 3) := by decide +kernel
theorem dX9_writeEmpty_15 : decode cX9_writeEmpty 15 = .ok (.pop, 1) := by decide +kernel
theorem dX9_writeEmpty_16 : decode cX9_writeEmpty 16 = .ok (.return_, 1) := by decide +kernel
theorem dX9_writeMove_0 : decode cX9_writeMove 0 = .ok (.aload_n 0, 1) := by decide +kernel
theorem dX9_writeMove_1 : decode cX9_writeMove 1 = .ok (.getfield 18, 3) := by decide +kernel
theorem dX9_writeMove_4 : decode cX9_writeMove 4 = .ok (.iconst 0, 1) := by decide +kernel
theorem dX9_writeMove_5 : decode cX9_writeMove 5 = .ok (.putfield 91, 3) := by decide +kernel
theorem dX9_writeMove_8 : decode cX9_writeMove 8 = .ok (.iload_n 1, 1) := by decide +kernel
theorem dX9_writeMove_9 : decode cX9_writeMove 9 = .ok (.invokestatic 213, 3) := by decide +kernel
theorem dX9_writeMove_12 : decode cX9_writeMove 12 = .ok (.iconst 1, 1) := by decide +kernel
theorem dX9_writeMove_13 : decode cX9_writeMove 13 = .ok (.if_icmp .ne 31, 3) := by decide +kernel
theorem dX9_writeMove_16 : decode cX9_writeMove 16 = .ok (.aload_n 0, 1) := by decide +kernel
theorem dX9_writeMove_17 : decode cX9_writeMove 17 = .ok (.getfield 18, 3) := by decide +kernel
theorem dX9_writeMove_20 : decode cX9_writeMove 20 = .ok (.bipush 79, 2) := by decide +kernel
theorem dX9_writeMove_22 : decode cX9_writeMove 22 = .ok (.invokevirtual 87, 3) := by decide +kernel
theorem dX9_writeMove_25 : decode cX9_writeMove 25 = .ok (.pop, 1) := by decide +kernel
theorem dX9_writeMove_26 : decode cX9_writeMove 26 = .ok (.aload_n 0, 1) := by decide +kernel
theorem dX9_writeMove_27 : decode cX9_writeMove 27 = .ok (.getfield 18, 3) := by decide +kernel
theorem dX9_writeMove_30 : decode cX9_writeMove 30 = .ok (.bipush 48, 2) := by decide +kernel
theorem dX9_writeMove_32 : decode cX9_writeMove 32 = .ok (.iload_n 1, 1) := by decide +kernel
theorem dX9_writeMove_33 : decode cX9_writeMove 33 = .ok (.invokestatic 357, 3) := by decide +kernel
theorem dX9_writeMove_36 : decode cX9_writeMove 36 = .ok (.iadd, 1) := by decide +kernel
theorem dX9_writeMove_37 : decode cX9_writeMove 37 = .ok (.invokevirtual 87, 3) := by decide +kernel
theorem dX9_writeMove_40 : decode cX9_writeMove 40 = .ok (.pop, 1) := by decide +kernel
theorem dX9_writeMove_41 : decode cX9_writeMove 41 = .ok (.goto 92, 3) := by decide +kernel
theorem dX9_writeMove_44 : decode cX9_writeMove 44 = .ok (.aload_n 0, 1) := by decide +kernel
theorem dX9_writeMove_45 : decode cX9_writeMove 45 = .ok (.getfield 18, 3) := by decide +kernel
theorem dX9_writeMove_48 : decode cX9_writeMove 48 = .ok (.aload_n 0, 1) := by decide +kernel
theorem dX9_writeMove_49 : decode cX9_writeMove 49 = .ok (.getfield 33, 3) := by decide +kernel
theorem dX9_writeMove_52 : decode cX9_writeMove 52 = .ok (.aload_n 0, 1) := by decide +kernel
theorem dX9_writeMove_53 : decode cX9_writeMove 53 = .ok (.getfield 47, 3) := by decide +kernel
theorem dX9_writeMove_56 : decode cX9_writeMove 56 = .ok (.iload_n 1, 1) := by decide +kernel
theorem dX9_writeMove_57 : decode cX9_writeMove 57 = .ok (.invokevirtual 222, 3) := by decide +kernel
theorem dX9_writeMove_60 : decode cX9_writeMove 60 = .ok (.invokestatic 389, 3) := by decide +kernel
theorem dX9_writeMove_63 : decode cX9_writeMove 63 = .ok (.invokevirtual 87, 3) := by decide +kernel
theorem dX9_writeMove_66 : decode cX9_writeMove 66 = .ok (.pop, 1) := by decide +kernel
theorem dX9_writeMove_67 : decode cX9_writeMove 67 = .ok (.iload_n 1, 1) := by decide +kernel
theorem dX9_writeMove_68 : decode cX9_writeMove 68 = .ok (.invokestatic 213, 3) := by decide +kernel
theorem dX9_writeMove_71 : decode cX9_writeMove 71 = .ok (.ifCond .ne 44, 3) := by decide +kernel
theorem dX9_writeMove_74 : decode cX9_writeMove 74 = .ok (.aload_n 0, 1) := by decide +kernel
theorem dX9_writeMove_75 : decode cX9_writeMove 75 = .ok (.iload_n 1, 1) := by decide +kernel
theorem dX9_writeMove_76 : decode cX9_writeMove 76 = .ok (.invokestatic 357, 3) := by decide +kernel
theorem dX9_writeMove_79 : decode cX9_writeMove 79 = .ok (.invokevirtual 392, 3) := by decide +kernel
theorem dX9_writeMove_82 : decode cX9_writeMove 82 = .ok (.aload_n 0, 1) := by decide +kernel
theorem dX9_writeMove_83 : decode cX9_writeMove 83 = .ok (.getfield 18, 3) := by decide +kernel
theorem dX9_writeMove_86 : decode cX9_writeMove 86 = .ok (.aload_n 0, 1) := by decide +kernel
theorem dX9_writeMove_87 : decode cX9_writeMove 87 = .ok (.getfield 33, 3) := by decide +kernel
theorem dX9_writeMove_90 : decode cX9_writeMove 90 = .ok (.aload_n 0, 1) := by decide +kernel
theorem dX9_writeMove_91 : decode cX9_writeMove 91 = .ok (.getfield 47, 3) := by decide +kernel
theorem dX9_writeMove_94 : decode cX9_writeMove 94 = .ok (.iload_n 1, 1) := by decide +kernel
theorem dX9_writeMove_95 : decode cX9_writeMove 95 = .ok (.invokevirtual 351, 3) := by decide +kernel
theorem dX9_writeMove_98 : decode cX9_writeMove 98 = .ok (.ifCond .eq 8, 3) := by decide +kernel
theorem dX9_writeMove_101 : decode cX9_writeMove 101 = .ok (.bipush 120, 2) := by decide +kernel
theorem dX9_writeMove_103 : decode cX9_writeMove 103 = .ok (.goto 5, 3) := by decide +kernel
theorem dX9_writeMove_106 : decode cX9_writeMove 106 = .ok (.bipush 45, 2) := by decide +kernel
theorem dX9_writeMove_108 : decode cX9_writeMove 108 = .ok (.invokevirtual 87, 3) := by decide +kernel
theorem dX9_writeMove_111 : decode cX9_writeMove 111 = .ok (.pop, 1) := by decide +kernel
theorem dX9_writeMove_112 : decode cX9_writeMove 112 = .ok (.goto 13, 3) := by decide +kernel
theorem dX9_writeMove_115 : decode cX9_writeMove 115 = .ok (.aload_n 0, 1) := by decide +kernel
theorem dX9_writeMove_116 : decode cX9_writeMove 116 = .ok (.getfield 18, 3) := by decide +kernel
theorem dX9_writeMove_119 : decode cX9_writeMove 119 = .ok (.bipush 64, 2) := by decide +kernel
theorem dX9_writeMove_121 : decode cX9_writeMove 121 = .ok (.invokevirtual 87, 3) := by decide +kernel
theorem dX9_writeMove_124 : decode cX9_writeMove 124 = .ok (.pop, 1) := by decide +kernel
theorem dX9_writeMove_125 : decode cX9_writeMove 125 = .ok (.aload_n 0, 1) := by decide +kernel
theorem dX9_writeMove_126 : decode cX9_writeMove 126 = .ok (.iload_n 1, 1) := by decide +kernel
theorem dX9_writeMove_127 : decode cX9_writeMove 127 = .ok (.invokestatic 363, 3) := by decide +kernel
theorem dX9_writeMove_130 : decode cX9_writeMove 130 = .ok (.invokevirtual 392, 3) := by decide +kernel
theorem dX9_writeMove_133 : decode cX9_writeMove 133 = .ok (.aload_n 0, 1) := by decide +kernel
theorem dX9_writeMove_134 : decode cX9_writeMove 134 = .ok (.getfield 33, 3) := by decide +kernel
theorem dX9_writeMove_137 : decode cX9_writeMove 137 = .ok (.aload_n 0, 1) := by decide +kernel
theorem dX9_writeMove_138 : decode cX9_writeMove 138 = .ok (.getfield 47, 3) := by decide +kernel
theorem dX9_writeMove_141 : decode cX9_writeMove 141 = .ok (.iload_n 1, 1) := by decide +kernel
theorem dX9_writeMove_142 : decode cX9_writeMove 142 = .ok (.invokevirtual 354, 3) := by decide +kernel
theorem dX9_writeMove_145 : decode cX9_writeMove 145 = .ok (.ifCond .eq 36, 3) := by decide +kernel
theorem dX9_writeMove_148 : decode cX9_writeMove 148 = .ok (.aload_n 0, 1) := by decide +kernel
theorem dX9_writeMove_149 : decode cX9_writeMove 149 = .ok (.getfield 18, 3) := by decide +kernel
theorem dX9_writeMove_152 : decode cX9_writeMove 152 = .ok (.bipush 61, 2) := by decide +kernel
theorem dX9_writeMove_154 : decode cX9_writeMove 154 = .ok (.invokevirtual 87, 3) := by decide +kernel
theorem dX9_writeMove_157 : decode cX9_writeMove 157 = .ok (.pop, 1) := by decide +kernel
theorem dX9_writeMove_158 : decode cX9_writeMove 158 = .ok (.aload_n 0, 1) := by decide +kernel
theorem dX9_writeMove_159 : decode cX9_writeMove 159 = .ok (.getfield 18, 3) := by decide +kernel
theorem dX9_writeMove_162 : decode cX9_writeMove 162 = .ok (.aload_n 0, 1) := by decide +kernel
theorem dX9_writeMove_163 : decode cX9_writeMove 163 = .ok (.getfield 33, 3) := by decide +kernel
theorem dX9_writeMove_166 : decode cX9_writeMove 166 = .ok (.aload_n 0, 1) := by decide +kernel
theorem dX9_writeMove_167 : decode cX9_writeMove 167 = .ok (.getfield 47, 3) := by decide +kernel
theorem dX9_writeMove_170 : decode cX9_writeMove 170 = .ok (.iload_n 1, 1) := by decide +kernel
theorem dX9_writeMove_171 : decode cX9_writeMove 171 = .ok (.invokevirtual 232, 3) := by decide +kernel
theorem dX9_writeMove_174 : decode cX9_writeMove 174 = .ok (.invokestatic 389, 3) := by decide +kernel
theorem dX9_writeMove_177 : decode cX9_writeMove 177 = .ok (.invokevirtual 87, 3) := by decide +kernel
theorem dX9_writeMove_180 : decode cX9_writeMove 180 = .ok (.pop, 1) := by decide +kernel
theorem dX9_writeMove_181 : decode cX9_writeMove 181 = .ok (.aload_n 0, 1) := by decide +kernel
theorem dX9_writeMove_182 : decode cX9_writeMove 182 = .ok (.iload_n 1, 1) := by decide +kernel
theorem dX9_writeMove_183 : decode cX9_writeMove 183 = .ok (.invokevirtual 235, 3) := by decide +kernel
theorem dX9_writeMove_186 : decode cX9_writeMove 186 = .ok (.ifCond .eq 13, 3) := by decide +kernel
theorem dX9_writeMove_189 : decode cX9_writeMove 189 = .ok (.aload_n 0, 1) := by decide +kernel
theorem dX9_writeMove_190 : decode cX9_writeMove 190 = .ok (.getfield 18, 3) := by decide +kernel
theorem dX9_writeMove_193 : decode cX9_writeMove 193 = .ok (.bipush 43, 2) := by decide +kernel
theorem dX9_writeMove_195 : decode cX9_writeMove 195 = .ok (.invokevirtual 87, 3) := by decide +kernel
theorem dX9_writeMove_198 : decode cX9_writeMove 198 = .ok (.pop, 1) := by decide +kernel
theorem dX9_writeMove_199 : decode cX9_writeMove 199 = .ok (.return_, 1) := by decide +kernel
theorem dX9_writeSquare_0 : decode cX9_writeSquare 0 = .ok (.aload_n 0, 1) := by decide +kernel
theorem dX9_writeSquare_1 : decode cX9_writeSquare 1 = .ok (.getfield 18, 3) := by decide +kernel
theorem dX9_writeSquare_4 : decode cX9_writeSquare 4 = .ok (.bipush 97, 2) := by decide +kernel
theorem dX9_writeSquare_6 : decode cX9_writeSquare 6 = .ok (.aload_n 0, 1) := by decide +kernel
theorem dX9_writeSquare_7 : decode cX9_writeSquare 7 = .ok (.getfield 47, 3) := by decide +kernel
theorem dX9_writeSquare_10 : decode cX9_writeSquare 10 = .ok (.iload_n 1, 1) := by decide +kernel
theorem dX9_writeSquare_11 : decode cX9_writeSquare 11 = .ok (.invokevirtual 395, 3) := by decide +kernel
theorem dX9_writeSquare_14 : decode cX9_writeSquare 14 = .ok (.iadd, 1) := by decide +kernel
theorem dX9_writeSquare_15 : decode cX9_writeSquare 15 = .ok (.invokevirtual 87, 3) := by decide +kernel
theorem dX9_writeSquare_18 : decode cX9_writeSquare 18 = .ok (.pop, 1) := by decide +kernel
theorem dX9_writeSquare_19 : decode cX9_writeSquare 19 = .ok (.aload_n 0, 1) := by decide +kernel
theorem dX9_writeSquare_20 : decode cX9_writeSquare 20 = .ok (.getfield 18, 3) := by decide +kernel
theorem dX9_writeSquare_23 : decode cX9_writeSquare 23 = .ok (.bipush 49, 2) := by decide +kernel
theorem dX9_writeSquare_25 : decode cX9_writeSquare 25 = .ok (.aload_n 0, 1) := by decide +kernel
theorem dX9_writeSquare_26 : decode cX9_writeSquare 26 = .ok (.getfield 47, 3) := by decide +kernel
theorem dX9_writeSquare_29 : decode cX9_writeSquare 29 = .ok (.iload_n 1, 1) := by decide +kernel
theorem dX9_writeSquare_30 : decode cX9_writeSquare 30 = .ok (.invokevirtual 185, 3) := by decide +kernel
theorem dX9_writeSquare_33 : decode cX9_writeSquare 33 = .ok (.iadd, 1) := by decide +kernel
theorem dX9_writeSquare_34 : decode cX9_writeSquare 34 = .ok (.invokevirtual 87, 3) := by decide +kernel
theorem dX9_writeSquare_37 : decode cX9_writeSquare 37 = .ok (.pop, 1) := by decide +kernel
theorem dX9_writeSquare_38 : decode cX9_writeSquare 38 = .ok (.return_, 1) := by decide +kernel
theorem dX9_isLength_0 : decode cX9_isLength 0 = .ok (.iload_n 0, 1) := by decide +kernel
theorem dX9_isLength_1 : decode cX9_isLength 1 = .ok (.iconst 2, 1) := by decide +kernel
theorem dX9_isLength_2 : decode cX9_isLength 2 = .ok (.if_icmp .lt 13, 3) := by decide +kernel
theorem dX9_isLength_5 : decode cX9_isLength 5 = .ok (.iload_n 0, 1) := by decide +kernel
theorem dX9_isLength_6 : decode cX9_isLength 6 = .ok (.bipush 6, 2) := by decide +kernel
theorem dX9_isLength_8 : decode cX9_isLength 8 = .ok (.if_icmp .gt 7, 3) := by decide +kernel
theorem dX9_isLength_11 : decode cX9_isLength 11 = .ok (.iconst 1, 1) := by decide +kernel
theorem dX9_isLength_12 : decode cX9_isLength 12 = .ok (.goto 4, 3) := by decide +kernel
theorem dX9_isLength_15 : decode cX9_isLength 15 = .ok (.iconst 0, 1) := by decide +kernel
theorem dX9_isLength_16 : decode cX9_isLength 16 = .ok (.ireturn, 1) := by decide +kernel
theorem dX9_isType_0 : decode cX9_isType 0 = .ok (.iload_n 0, 1) := by decide +kernel
theorem dX9_isType_1 : decode cX9_isType 1 = .ok (.ifCond .lt 13, 3) := by decide +kernel
theorem dX9_isType_4 : decode cX9_isType 4 = .ok (.iload_n 0, 1) := by decide +kernel
theorem dX9_isType_5 : decode cX9_isType 5 = .ok (.bipush 6, 2) := by decide +kernel
theorem dX9_isType_7 : decode cX9_isType 7 = .ok (.if_icmp .ge 7, 3) := by decide +kernel
theorem dX9_isType_10 : decode cX9_isType 10 = .ok (.iconst 1, 1) := by decide +kernel
theorem dX9_isType_11 : decode cX9_isType 11 = .ok (.goto 4, 3) := by decide +kernel
theorem dX9_isType_14 : decode cX9_isType 14 = .ok (.iconst 0, 1) := by decide +kernel
theorem dX9_isType_15 : decode cX9_isType 15 = .ok (.ireturn, 1) := by decide +kernel
theorem dX9_isBit_0 : decode cX9_isBit 0 = .ok (.iload_n 0, 1) := by decide +kernel
theorem dX9_isBit_1 : decode cX9_isBit 1 = .ok (.ifCond .eq 8, 3) := by decide +kernel
theorem dX9_isBit_4 : decode cX9_isBit 4 = .ok (.iload_n 0, 1) := by decide +kernel
theorem dX9_isBit_5 : decode cX9_isBit 5 = .ok (.iconst 1, 1) := by decide +kernel
theorem dX9_isBit_6 : decode cX9_isBit 6 = .ok (.if_icmp .ne 7, 3) := by decide +kernel
theorem dX9_isBit_9 : decode cX9_isBit 9 = .ok (.iconst 1, 1) := by decide +kernel
theorem dX9_isBit_10 : decode cX9_isBit 10 = .ok (.goto 4, 3) := by decide +kernel
theorem dX9_isBit_13 : decode cX9_isBit 13 = .ok (.iconst 0, 1) := by decide +kernel
theorem dX9_isBit_14 : decode cX9_isBit 14 = .ok (.ireturn, 1) := by decide +kernel
theorem dX9_has_0 : decode cX9_has 0 = .ok (.lload_n 0, 1) := by decide +kernel
theorem dX9_has_1 : decode cX9_has 1 = .ok (.iload_n 2, 1) := by decide +kernel
theorem dX9_has_2 : decode cX9_has 2 = .ok (.lushr, 1) := by decide +kernel
theorem dX9_has_3 : decode cX9_has 3 = .ok (.lconst 1, 1) := by decide +kernel
theorem dX9_has_4 : decode cX9_has 4 = .ok (.land, 1) := by decide +kernel
theorem dX9_has_5 : decode cX9_has 5 = .ok (.lconst 0, 1) := by decide +kernel
theorem dX9_has_6 : decode cX9_has 6 = .ok (.lcmp, 1) := by decide +kernel
theorem dX9_has_7 : decode cX9_has 7 = .ok (.ifCond .eq 7, 3) := by decide +kernel
theorem dX9_has_10 : decode cX9_has 10 = .ok (.iconst 1, 1) := by decide +kernel
theorem dX9_has_11 : decode cX9_has 11 = .ok (.goto 4, 3) := by decide +kernel
theorem dX9_has_14 : decode cX9_has 14 = .ok (.iconst 0, 1) := by decide +kernel
theorem dX9_has_15 : decode cX9_has 15 = .ok (.ireturn, 1) := by decide +kernel
theorem dX9_manOf_0 : decode cX9_manOf 0 = .ok (.iconst 1, 1) := by decide +kernel
theorem dX9_manOf_1 : decode cX9_manOf 1 = .ok (.iload_n 1, 1) := by decide +kernel
theorem dX9_manOf_2 : decode cX9_manOf 2 = .ok (.iadd, 1) := by decide +kernel
theorem dX9_manOf_3 : decode cX9_manOf 3 = .ok (.bipush 6, 2) := by decide +kernel
theorem dX9_manOf_5 : decode cX9_manOf 5 = .ok (.iload_n 0, 1) := by decide +kernel
theorem dX9_manOf_6 : decode cX9_manOf 6 = .ok (.imul, 1) := by decide +kernel
theorem dX9_manOf_7 : decode cX9_manOf 7 = .ok (.iadd, 1) := by decide +kernel
theorem dX9_manOf_8 : decode cX9_manOf 8 = .ok (.ireturn, 1) := by decide +kernel
theorem dX9_typeOf_0 : decode cX9_typeOf 0 = .ok (.iload_n 0, 1) := by decide +kernel
theorem dX9_typeOf_1 : decode cX9_typeOf 1 = .ok (.bipush 6, 2) := by decide +kernel
theorem dX9_typeOf_3 : decode cX9_typeOf 3 = .ok (.if_icmp .le 12, 3) := by decide +kernel
theorem dX9_typeOf_6 : decode cX9_typeOf 6 = .ok (.iload_n 0, 1) := by decide +kernel
theorem dX9_typeOf_7 : decode cX9_typeOf 7 = .ok (.iconst 1, 1) := by decide +kernel
theorem dX9_typeOf_8 : decode cX9_typeOf 8 = .ok (.isub, 1) := by decide +kernel
theorem dX9_typeOf_9 : decode cX9_typeOf 9 = .ok (.bipush 6, 2) := by decide +kernel
theorem dX9_typeOf_11 : decode cX9_typeOf 11 = .ok (.isub, 1) := by decide +kernel
theorem dX9_typeOf_12 : decode cX9_typeOf 12 = .ok (.goto 6, 3) := by decide +kernel
theorem dX9_typeOf_15 : decode cX9_typeOf 15 = .ok (.iload_n 0, 1) := by decide +kernel
theorem dX9_typeOf_16 : decode cX9_typeOf 16 = .ok (.iconst 1, 1) := by decide +kernel
theorem dX9_typeOf_17 : decode cX9_typeOf 17 = .ok (.isub, 1) := by decide +kernel
theorem dX9_typeOf_18 : decode cX9_typeOf 18 = .ok (.ireturn, 1) := by decide +kernel
theorem dX9_sideOf_0 : decode cX9_sideOf 0 = .ok (.iload_n 0, 1) := by decide +kernel
theorem dX9_sideOf_1 : decode cX9_sideOf 1 = .ok (.bipush 6, 2) := by decide +kernel
theorem dX9_sideOf_3 : decode cX9_sideOf 3 = .ok (.if_icmp .le 7, 3) := by decide +kernel
theorem dX9_sideOf_6 : decode cX9_sideOf 6 = .ok (.iconst 1, 1) := by decide +kernel
theorem dX9_sideOf_7 : decode cX9_sideOf 7 = .ok (.goto 4, 3) := by decide +kernel
theorem dX9_sideOf_10 : decode cX9_sideOf 10 = .ok (.iconst 0, 1) := by decide +kernel
theorem dX9_sideOf_11 : decode cX9_sideOf 11 = .ok (.ireturn, 1) := by decide +kernel
theorem dX9_letterOf_0 : decode cX9_letterOf 0 = .ok (.iload_n 0, 1) := by decide +kernel
theorem dX9_letterOf_1 : decode cX9_letterOf 1 = .ok (.invokestatic 398, 3) := by decide +kernel
theorem dX9_letterOf_4 : decode cX9_letterOf 4 = .ok (.ifCond .ne 8, 3) := by decide +kernel
theorem dX9_letterOf_7 : decode cX9_letterOf 7 = .ok (.bipush 65, 2) := by decide +kernel
theorem dX9_letterOf_9 : decode cX9_letterOf 9 = .ok (.goto 5, 3) := by decide +kernel
theorem dX9_letterOf_12 : decode cX9_letterOf 12 = .ok (.bipush 97, 2) := by decide +kernel
theorem dX9_letterOf_14 : decode cX9_letterOf 14 = .ok (.iload_n 0, 1) := by decide +kernel
theorem dX9_letterOf_15 : decode cX9_letterOf 15 = .ok (.invokestatic 226, 3) := by decide +kernel
theorem dX9_letterOf_18 : decode cX9_letterOf 18 = .ok (.iadd, 1) := by decide +kernel
theorem dX9_letterOf_19 : decode cX9_letterOf 19 = .ok (.ireturn, 1) := by decide +kernel
theorem dX9_manOfLetter_0 : decode cX9_manOfLetter 0 = .ok (.iload_n 0, 1) := by decide +kernel
theorem dX9_manOfLetter_1 : decode cX9_manOfLetter 1 = .ok (.bipush 65, 2) := by decide +kernel
theorem dX9_manOfLetter_3 : decode cX9_manOfLetter 3 = .ok (.isub, 1) := by decide +kernel
theorem dX9_manOfLetter_4 : decode cX9_manOfLetter 4 = .ok (.invokestatic 109, 3) := by decide +kernel
theorem dX9_manOfLetter_7 : decode cX9_manOfLetter 7 = .ok (.ifCond .eq 12, 3) := by decide +kernel
theorem dX9_manOfLetter_10 : decode cX9_manOfLetter 10 = .ok (.iconst 0, 1) := by decide +kernel
theorem dX9_manOfLetter_11 : decode cX9_manOfLetter 11 = .ok (.iload_n 0, 1) := by decide +kernel
theorem dX9_manOfLetter_12 : decode cX9_manOfLetter 12 = .ok (.bipush 65, 2) := by decide +kernel
theorem dX9_manOfLetter_14 : decode cX9_manOfLetter 14 = .ok (.isub, 1) := by decide +kernel
theorem dX9_manOfLetter_15 : decode cX9_manOfLetter 15 = .ok (.invokestatic 366, 3) := by decide +kernel
theorem dX9_manOfLetter_18 : decode cX9_manOfLetter 18 = .ok (.ireturn, 1) := by decide +kernel
theorem dX9_manOfLetter_19 : decode cX9_manOfLetter 19 = .ok (.iload_n 0, 1) := by decide +kernel
theorem dX9_manOfLetter_20 : decode cX9_manOfLetter 20 = .ok (.bipush 97, 2) := by decide +kernel
theorem dX9_manOfLetter_22 : decode cX9_manOfLetter 22 = .ok (.isub, 1) := by decide +kernel
theorem dX9_manOfLetter_23 : decode cX9_manOfLetter 23 = .ok (.invokestatic 109, 3) := by decide +kernel
theorem dX9_manOfLetter_26 : decode cX9_manOfLetter 26 = .ok (.ifCond .eq 14, 3) := by decide +kernel
theorem dX9_manOfLetter_29 : decode cX9_manOfLetter 29 = .ok (.iconst 1, 1) := by decide +kernel
theorem dX9_manOfLetter_30 : decode cX9_manOfLetter 30 = .ok (.iload_n 0, 1) := by decide +kernel
theorem dX9_manOfLetter_31 : decode cX9_manOfLetter 31 = .ok (.bipush 97, 2) := by decide +kernel
theorem dX9_manOfLetter_33 : decode cX9_manOfLetter 33 = .ok (.isub, 1) := by decide +kernel
theorem dX9_manOfLetter_34 : decode cX9_manOfLetter 34 = .ok (.invokestatic 366, 3) := by decide +kernel
theorem dX9_manOfLetter_37 : decode cX9_manOfLetter 37 = .ok (.goto 4, 3) := by decide +kernel
theorem dX9_manOfLetter_40 : decode cX9_manOfLetter 40 = .ok (.iconst 0, 1) := by decide +kernel
theorem dX9_manOfLetter_41 : decode cX9_manOfLetter 41 = .ok (.ireturn, 1) := by decide +kernel
theorem dX9_coded_0 : decode cX9_coded 0 = .ok (.iload_n 0, 1) := by decide +kernel
theorem dX9_coded_1 : decode cX9_coded 1 = .ok (.bipush 12, 2) := by decide +kernel
theorem dX9_coded_3 : decode cX9_coded 3 = .ok (.ishl, 1) := by decide +kernel
theorem dX9_coded_4 : decode cX9_coded 4 = .ok (.iload_n 1, 1) := by decide +kernel
theorem dX9_coded_5 : decode cX9_coded 5 = .ok (.bipush 6, 2) := by decide +kernel
theorem dX9_coded_7 : decode cX9_coded 7 = .ok (.ishl, 1) := by decide +kernel
theorem dX9_coded_8 : decode cX9_coded 8 = .ok (.ior, 1) := by decide +kernel
theorem dX9_coded_9 : decode cX9_coded 9 = .ok (.iload_n 2, 1) := by decide +kernel
theorem dX9_coded_10 : decode cX9_coded 10 = .ok (.ior, 1) := by decide +kernel
theorem dX9_coded_11 : decode cX9_coded 11 = .ok (.ireturn, 1) := by decide +kernel
theorem dX9_kindOf_0 : decode cX9_kindOf 0 = .ok (.iload_n 0, 1) := by decide +kernel
theorem dX9_kindOf_1 : decode cX9_kindOf 1 = .ok (.bipush 12, 2) := by decide +kernel
theorem dX9_kindOf_3 : decode cX9_kindOf 3 = .ok (.ishr, 1) := by decide +kernel
theorem dX9_kindOf_4 : decode cX9_kindOf 4 = .ok (.ireturn, 1) := by decide +kernel
theorem dX9_firstOf_0 : decode cX9_firstOf 0 = .ok (.iload_n 0, 1) := by decide +kernel
theorem dX9_firstOf_1 : decode cX9_firstOf 1 = .ok (.bipush 6, 2) := by decide +kernel
theorem dX9_firstOf_3 : decode cX9_firstOf 3 = .ok (.ishr, 1) := by decide +kernel
theorem dX9_firstOf_4 : decode cX9_firstOf 4 = .ok (.bipush 63, 2) := by decide +kernel
theorem dX9_firstOf_6 : decode cX9_firstOf 6 = .ok (.iand, 1) := by decide +kernel
theorem dX9_firstOf_7 : decode cX9_firstOf 7 = .ok (.ireturn, 1) := by decide +kernel
theorem dX9_secondOf_0 : decode cX9_secondOf 0 = .ok (.iload_n 0, 1) := by decide +kernel
theorem dX9_secondOf_1 : decode cX9_secondOf 1 = .ok (.bipush 63, 2) := by decide +kernel
theorem dX9_secondOf_3 : decode cX9_secondOf 3 = .ok (.iand, 1) := by decide +kernel
theorem dX9_secondOf_4 : decode cX9_secondOf 4 = .ok (.ireturn, 1) := by decide +kernel
theorem dX9_cell_0 : decode cX9_cell 0 = .ok (.iload_n 1, 1) := by decide +kernel
theorem dX9_cell_1 : decode cX9_cell 1 = .ok (.ifCond .lt 15, 3) := by decide +kernel
theorem dX9_cell_4 : decode cX9_cell 4 = .ok (.iload_n 1, 1) := by decide +kernel
theorem dX9_cell_5 : decode cX9_cell 5 = .ok (.aload_n 0, 1) := by decide +kernel
theorem dX9_cell_6 : decode cX9_cell 6 = .ok (.arraylength, 1) := by decide +kernel
theorem dX9_cell_7 : decode cX9_cell 7 = .ok (.if_icmp .ge 9, 3) := by decide +kernel
theorem dX9_cell_10 : decode cX9_cell 10 = .ok (.aload_n 0, 1) := by decide +kernel
theorem dX9_cell_11 : decode cX9_cell 11 = .ok (.iload_n 1, 1) := by decide +kernel
theorem dX9_cell_12 : decode cX9_cell 12 = .ok (.iaload, 1) := by decide +kernel
theorem dX9_cell_13 : decode cX9_cell 13 = .ok (.goto 4, 3) := by decide +kernel
theorem dX9_cell_16 : decode cX9_cell 16 = .ok (.iconst 0, 1) := by decide +kernel
theorem dX9_cell_17 : decode cX9_cell 17 = .ok (.ireturn, 1) := by decide +kernel
theorem dX9_setCell_0 : decode cX9_setCell 0 = .ok (.iload_n 1, 1) := by decide +kernel
theorem dX9_setCell_1 : decode cX9_setCell 1 = .ok (.ifCond .lt 13, 3) := by decide +kernel
theorem dX9_setCell_4 : decode cX9_setCell 4 = .ok (.iload_n 1, 1) := by decide +kernel
theorem dX9_setCell_5 : decode cX9_setCell 5 = .ok (.aload_n 0, 1) := by decide +kernel
theorem dX9_setCell_6 : decode cX9_setCell 6 = .ok (.arraylength, 1) := by decide +kernel
theorem dX9_setCell_7 : decode cX9_setCell 7 = .ok (.if_icmp .ge 7, 3) := by decide +kernel
theorem dX9_setCell_10 : decode cX9_setCell 10 = .ok (.aload_n 0, 1) := by decide +kernel
theorem dX9_setCell_11 : decode cX9_setCell 11 = .ok (.iload_n 1, 1) := by decide +kernel
theorem dX9_setCell_12 : decode cX9_setCell 12 = .ok (.iload_n 2, 1) := by decide +kernel
theorem dX9_setCell_13 : decode cX9_setCell 13 = .ok (.iastore, 1) := by decide +kernel
theorem dX9_setCell_14 : decode cX9_setCell 14 = .ok (.return_, 1) := by decide +kernel
theorem dX9_copy_0 : decode cX9_copy 0 = .ok (.iconst 0, 1) := by decide +kernel
theorem dX9_copy_1 : decode cX9_copy 1 = .ok (.istore_n 2, 1) := by decide +kernel
theorem dX9_copy_2 : decode cX9_copy 2 = .ok (.iload_n 2, 1) := by decide +kernel
theorem dX9_copy_3 : decode cX9_copy 3 = .ok (.aload_n 0, 1) := by decide +kernel
theorem dX9_copy_4 : decode cX9_copy 4 = .ok (.arraylength, 1) := by decide +kernel
theorem dX9_copy_5 : decode cX9_copy 5 = .ok (.if_icmp .ge 21, 3) := by decide +kernel
theorem dX9_copy_8 : decode cX9_copy 8 = .ok (.iload_n 2, 1) := by decide +kernel
theorem dX9_copy_9 : decode cX9_copy 9 = .ok (.aload_n 1, 1) := by decide +kernel
theorem dX9_copy_10 : decode cX9_copy 10 = .ok (.arraylength, 1) := by decide +kernel
theorem dX9_copy_11 : decode cX9_copy 11 = .ok (.if_icmp .ge 15, 3) := by decide +kernel
theorem dX9_copy_14 : decode cX9_copy 14 = .ok (.aload_n 1, 1) := by decide +kernel
theorem dX9_copy_15 : decode cX9_copy 15 = .ok (.iload_n 2, 1) := by decide +kernel
theorem dX9_copy_16 : decode cX9_copy 16 = .ok (.aload_n 0, 1) := by decide +kernel
theorem dX9_copy_17 : decode cX9_copy 17 = .ok (.iload_n 2, 1) := by decide +kernel
theorem dX9_copy_18 : decode cX9_copy 18 = .ok (.iaload, 1) := by decide +kernel
theorem dX9_copy_19 : decode cX9_copy 19 = .ok (.iastore, 1) := by decide +kernel
theorem dX9_copy_20 : decode cX9_copy 20 = .ok (.iinc 2 1, 3) := by decide +kernel
theorem dX9_copy_23 : decode cX9_copy 23 = .ok (.goto (-21), 3) := by decide +kernel
theorem dX9_copy_26 : decode cX9_copy 26 = .ok (.return_, 1) := by decide +kernel
theorem dX9_fill_0 : decode cX9_fill 0 = .ok (.iconst 0, 1) := by decide +kernel
theorem dX9_fill_1 : decode cX9_fill 1 = .ok (.istore_n 2, 1) := by decide +kernel
theorem dX9_fill_2 : decode cX9_fill 2 = .ok (.iload_n 2, 1) := by decide +kernel
theorem dX9_fill_3 : decode cX9_fill 3 = .ok (.aload_n 0, 1) := by decide +kernel
theorem dX9_fill_4 : decode cX9_fill 4 = .ok (.arraylength, 1) := by decide +kernel
theorem dX9_fill_5 : decode cX9_fill 5 = .ok (.if_icmp .ge 13, 3) := by decide +kernel
theorem dX9_fill_8 : decode cX9_fill 8 = .ok (.aload_n 0, 1) := by decide +kernel
theorem dX9_fill_9 : decode cX9_fill 9 = .ok (.iload_n 2, 1) := by decide +kernel
theorem dX9_fill_10 : decode cX9_fill 10 = .ok (.iload_n 1, 1) := by decide +kernel
theorem dX9_fill_11 : decode cX9_fill 11 = .ok (.iastore, 1) := by decide +kernel
theorem dX9_fill_12 : decode cX9_fill 12 = .ok (.iinc 2 1, 3) := by decide +kernel
theorem dX9_fill_15 : decode cX9_fill 15 = .ok (.goto (-13), 3) := by decide +kernel
theorem dX9_fill_18 : decode cX9_fill 18 = .ok (.return_, 1) := by decide +kernel
theorem dX10_init_0 : decode cX10_init 0 = .ok (.aload_n 0, 1) := by decide +kernel
theorem dX10_init_1 : decode cX10_init 1 = .ok (.invokespecial 5, 3) := by decide +kernel
theorem dX10_init_4 : decode cX10_init 4 = .ok (.aload_n 0, 1) := by decide +kernel
theorem dX10_init_5 : decode cX10_init 5 = .ok (.sipush 2369, 3) := by decide +kernel
theorem dX10_init_8 : decode cX10_init 8 = .ok (.newarray .int, 2) := by decide +kernel
theorem dX10_init_10 : decode cX10_init 10 = .ok (.putfield 11, 3) := by decide +kernel
theorem dX10_init_13 : decode cX10_init 13 = .ok (.aload_n 0, 1) := by decide +kernel
theorem dX10_init_14 : decode cX10_init 14 = .ok (.sipush 2369, 3) := by decide +kernel
theorem dX10_init_17 : decode cX10_init 17 = .ok (.newarray .int, 2) := by decide +kernel
theorem dX10_init_19 : decode cX10_init 19 = .ok (.putfield 15, 3) := by decide +kernel
theorem dX10_init_22 : decode cX10_init 22 = .ok (.aload_n 0, 1) := by decide +kernel
theorem dX10_init_23 : decode cX10_init 23 = .ok (.bipush 60, 2) := by decide +kernel
theorem dX10_init_25 : decode cX10_init 25 = .ok (.newarray .int, 2) := by decide +kernel
theorem dX10_init_27 : decode cX10_init 27 = .ok (.putfield 18, 3) := by decide +kernel
theorem dX10_init_30 : decode cX10_init 30 = .ok (.aload_n 0, 1) := by decide +kernel
theorem dX10_init_31 : decode cX10_init 31 = .ok (.bipush 19, 2) := by decide +kernel
theorem dX10_init_33 : decode cX10_init 33 = .ok (.newarray .int, 2) := by decide +kernel
theorem dX10_init_35 : decode cX10_init 35 = .ok (.putfield 21, 3) := by decide +kernel
theorem dX10_init_38 : decode cX10_init 38 = .ok (.aload_n 0, 1) := by decide +kernel
theorem dX10_init_39 : decode cX10_init 39 = .ok (.sipush 3200, 3) := by decide +kernel
theorem dX10_init_42 : decode cX10_init 42 = .ok (.newarray .int, 2) := by decide +kernel
theorem dX10_init_44 : decode cX10_init 44 = .ok (.putfield 24, 3) := by decide +kernel
theorem dX10_init_47 : decode cX10_init 47 = .ok (.aload_n 0, 1) := by decide +kernel
theorem dX10_init_48 : decode cX10_init 48 = .ok (.sipush 3200, 3) := by decide +kernel
theorem dX10_init_51 : decode cX10_init 51 = .ok (.newarray .int, 2) := by decide +kernel
theorem dX10_init_53 : decode cX10_init 53 = .ok (.putfield 27, 3) := by decide +kernel
theorem dX10_init_56 : decode cX10_init 56 = .ok (.aload_n 0, 1) := by decide +kernel
theorem dX10_init_57 : decode cX10_init 57 = .ok (.sipush 3200, 3) := by decide +kernel
theorem dX10_init_60 : decode cX10_init 60 = .ok (.newarray .int, 2) := by decide +kernel
theorem dX10_init_62 : decode cX10_init 62 = .ok (.putfield 30, 3) := by decide +kernel
theorem dX10_init_65 : decode cX10_init 65 = .ok (.aload_n 0, 1) := by decide +kernel
theorem dX10_init_66 : decode cX10_init 66 = .ok (.sipush 3200, 3) := by decide +kernel
theorem dX10_init_69 : decode cX10_init 69 = .ok (.newarray .int, 2) := by decide +kernel
theorem dX10_init_71 : decode cX10_init 71 = .ok (.putfield 33, 3) := by decide +kernel
theorem dX10_init_74 : decode cX10_init 74 = .ok (.aload_n 0, 1) := by decide +kernel
theorem dX10_init_75 : decode cX10_init 75 = .ok (.iconst 2, 1) := by decide +kernel
theorem dX10_init_76 : decode cX10_init 76 = .ok (.newarray .int, 2) := by decide +kernel
theorem dX10_init_78 : decode cX10_init 78 = .ok (.putfield 36, 3) := by decide +kernel
theorem dX10_init_81 : decode cX10_init 81 = .ok (.aload_n 0, 1) := by decide +kernel
theorem dX10_init_82 : decode cX10_init 82 = .ok (.bipush 106, 2) := by decide +kernel
theorem dX10_init_84 : decode cX10_init 84 = .ok (.newarray .int, 2) := by decide +kernel
theorem dX10_init_86 : decode cX10_init 86 = .ok (.putfield 39, 3) := by decide +kernel
theorem dX10_init_89 : decode cX10_init 89 = .ok (.aload_n 0, 1) := by decide +kernel
theorem dX10_init_90 : decode cX10_init 90 = .ok (.iconst 3, 1) := by decide +kernel
theorem dX10_init_91 : decode cX10_init 91 = .ok (.newarray .int, 2) := by decide +kernel
theorem dX10_init_93 : decode cX10_init 93 = .ok (.putfield 42, 3) := by decide +kernel
theorem dX10_init_96 : decode cX10_init 96 = .ok (.aload_n 0, 1) := by decide +kernel
theorem dX10_init_97 : decode cX10_init 97 = .ok (.bipush 16, 2) := by decide +kernel
theorem dX10_init_99 : decode cX10_init 99 = .ok (.newarray .int, 2) := by decide +kernel
theorem dX10_init_101 : decode cX10_init 101 = .ok (.putfield 45, 3) := by decide +kernel
theorem dX10_init_104 : decode cX10_init 104 = .ok (.aload_n 0, 1) := by decide +kernel
theorem dX10_init_105 : decode cX10_init 105 = .ok (.bipush 16, 2) := by decide +kernel
theorem dX10_init_107 : decode cX10_init 107 = .ok (.newarray .int, 2) := by decide +kernel
theorem dX10_init_109 : decode cX10_init 109 = .ok (.putfield 48, 3) := by decide +kernel
theorem dX10_init_112 : decode cX10_init 112 = .ok (.aload_n 0, 1) := by decide +kernel
theorem dX10_init_113 : decode cX10_init 113 = .ok (.bipush 60, 2) := by decide +kernel
theorem dX10_init_115 : decode cX10_init 115 = .ok (.newarray .int, 2) := by decide +kernel
theorem dX10_init_117 : decode cX10_init 117 = .ok (.putfield 51, 3) := by decide +kernel
theorem dX10_init_120 : decode cX10_init 120 = .ok (.aload_n 0, 1) := by decide +kernel
theorem dX10_init_121 : decode cX10_init 121 = .ok (.getfield 11, 3) := by decide +kernel
theorem dX10_init_124 : decode cX10_init 124 = .ok (.bipush 53, 2) := by decide +kernel
theorem dX10_init_126 : decode cX10_init 126 = .ok (.iconst 5, 1) := by decide +kernel
theorem dX10_init_127 : decode cX10_init 127 = .ok (.iastore, 1) := by decide +kernel
theorem dX10_init_128 : decode cX10_init 128 = .ok (.aload_n 0, 1) := by decide +kernel
theorem dX10_init_129 : decode cX10_init 129 = .ok (.getfield 11, 3) := by decide +kernel
theorem dX10_init_132 : decode cX10_init 132 = .ok (.bipush 54, 2) := by decide +kernel
theorem dX10_init_134 : decode cX10_init 134 = .ok (.iconst 5, 1) := by decide +kernel
theorem dX10_init_135 : decode cX10_init 135 = .ok (.iastore, 1) := by decide +kernel
theorem dX10_init_136 : decode cX10_init 136 = .ok (.iconst 0, 1) := by decide +kernel
theorem dX10_init_137 : decode cX10_init 137 = .ok (.istore_n 1, 1) := by decide +kernel
theorem dX10_init_138 : decode cX10_init 138 = .ok (.iload_n 1, 1) := by decide +kernel
theorem dX10_init_139 : decode cX10_init 139 = .ok (.bipush 6, 2) := by decide +kernel
theorem dX10_init_141 : decode cX10_init 141 = .ok (.if_icmp .ge 21, 3) := by decide +kernel
theorem dX10_init_144 : decode cX10_init 144 = .ok (.aload_n 0, 1) := by decide +kernel
theorem dX10_init_145 : decode cX10_init 145 = .ok (.getfield 11, 3) := by decide +kernel
theorem dX10_init_148 : decode cX10_init 148 = .ok (.iload_n 1, 1) := by decide +kernel
theorem dX10_init_149 : decode cX10_init 149 = .ok (.invokestatic 54, 3) := by decide +kernel
theorem dX10_init_152 : decode cX10_init 152 = .ok (.iconst 2, 1) := by decide +kernel
theorem dX10_init_153 : decode cX10_init 153 = .ok (.iadd, 1) := by decide +kernel
theorem dX10_init_154 : decode cX10_init 154 = .ok (.iconst (-1), 1) := by decide +kernel
theorem dX10_init_155 : decode cX10_init 155 = .ok (.iastore, 1) := by decide +kernel
theorem dX10_init_156 : decode cX10_init 156 = .ok (.iinc 1 1, 3) := by decide +kernel
theorem dX10_init_159 : decode cX10_init 159 = .ok (.goto (-21), 3) := by decide +kernel
theorem dX10_init_162 : decode cX10_init 162 = .ok (.aload_n 0, 1) := by decide +kernel
theorem dX10_init_163 : decode cX10_init 163 = .ok (.invokevirtual 58, 3) := by decide +kernel
theorem dX10_init_166 : decode cX10_init 166 = .ok (.return_, 1) := by decide +kernel
theorem dX10_in_0 : decode cX10_in 0 = .ok (.iload_n 0, 1) := by decide +kernel
theorem dX10_in_1 : decode cX10_in 1 = .ok (.iload_n 1, 1) := by decide +kernel
theorem dX10_in_2 : decode cX10_in 2 = .ok (.if_icmp .lt 12, 3) := by decide +kernel
theorem dX10_in_5 : decode cX10_in 5 = .ok (.iload_n 0, 1) := by decide +kernel
theorem dX10_in_6 : decode cX10_in 6 = .ok (.iload_n 2, 1) := by decide +kernel
theorem dX10_in_7 : decode cX10_in 7 = .ok (.if_icmp .gt 7, 3) := by decide +kernel
theorem dX10_in_10 : decode cX10_in 10 = .ok (.iconst 1, 1) := by decide +kernel
theorem dX10_in_11 : decode cX10_in 11 = .ok (.goto 4, 3) := by decide +kernel
theorem dX10_in_14 : decode cX10_in 14 = .ok (.iconst 0, 1) := by decide +kernel
theorem dX10_in_15 : decode cX10_in 15 = .ok (.ireturn, 1) := by decide +kernel
theorem dX10_typeAt_0 : decode cX10_typeAt 0 = .ok (.bipush 58, 2) := by decide +kernel
theorem dX10_typeAt_2 : decode cX10_typeAt 2 = .ok (.bipush 21, 2) := by decide +kernel
theorem dX10_typeAt_4 : decode cX10_typeAt 4 = .ok (.iload_n 0, 1) := by decide +kernel
theorem dX10_typeAt_5 : decode cX10_typeAt 5 = .ok (.imul, 1) := by decide +kernel
theorem dX10_typeAt_6 : decode cX10_typeAt 6 = .ok (.iadd, 1) := by decide +kernel
theorem dX10_typeAt_7 : decode cX10_typeAt 7 = .ok (.ireturn, 1) := by decide +kernel
theorem dX10_castleAt_0 : decode cX10_castleAt 0 = .ok (.sipush 184, 3) := by decide +kernel
theorem dX10_castleAt_3 : decode cX10_castleAt 3 = .ok (.bipush 6, 2) := by decide +kernel
theorem dX10_castleAt_5 : decode cX10_castleAt 5 = .ok (.iload_n 0, 1) := by decide +kernel
theorem dX10_castleAt_6 : decode cX10_castleAt 6 = .ok (.imul, 1) := by decide +kernel
theorem dX10_castleAt_7 : decode cX10_castleAt 7 = .ok (.iadd, 1) := by decide +kernel
theorem dX10_castleAt_8 : decode cX10_castleAt 8 = .ok (.ireturn, 1) := by decide +kernel
theorem dX10_isType_0 : decode cX10_isType 0 = .ok (.iload_n 0, 1) := by decide +kernel
theorem dX10_isType_1 : decode cX10_isType 1 = .ok (.iconst 0, 1) := by decide +kernel
theorem dX10_isType_2 : decode cX10_isType 2 = .ok (.iconst 5, 1) := by decide +kernel
theorem dX10_isType_3 : decode cX10_isType 3 = .ok (.invokestatic 61, 3) := by decide +kernel
theorem dX10_isType_6 : decode cX10_isType 6 = .ok (.ireturn, 1) := by decide +kernel
theorem dX10_squares_0 : decode cX10_squares 0 = .ok (.aload_n 0, 1) := by decide +kernel
theorem dX10_squares_1 : decode cX10_squares 1 = .ok (.getfield 11, 3) := by decide +kernel
theorem dX10_squares_4 : decode cX10_squares 4 = .ok (.bipush 53, 2) := by decide +kernel
theorem dX10_squares_6 : decode cX10_squares 6 = .ok (.iaload, 1) := by decide +kernel
theorem dX10_squares_7 : decode cX10_squares 7 = .ok (.aload_n 0, 1) := by decide +kernel
theorem dX10_squares_8 : decode cX10_squares 8 = .ok (.getfield 11, 3) := by decide +kernel
theorem dX10_squares_11 : decode cX10_squares 11 = .ok (.bipush 54, 2) := by decide +kernel
theorem dX10_squares_13 : decode cX10_squares 13 = .ok (.iaload, 1) := by decide +kernel
theorem dX10_squares_14 : decode cX10_squares 14 = .ok (.imul, 1) := by decide +kernel
theorem dX10_squares_15 : decode cX10_squares 15 = .ok (.ireturn, 1) := by decide +kernel
theorem dX10_isSquare_0 : decode cX10_isSquare 0 = .ok (.iload_n 1, 1) := by decide +kernel
theorem dX10_isSquare_1 : decode cX10_isSquare 1 = .ok (.iconst 0, 1) := by decide +kernel
theorem dX10_isSquare_2 : decode cX10_isSquare 2 = .ok (.aload_n 0, 1) := by decide +kernel
theorem dX10_isSquare_3 : decode cX10_isSquare 3 = .ok (.invokevirtual 65, 3) := by decide +kernel
theorem dX10_isSquare_6 : decode cX10_isSquare 6 = .ok (.iconst 1, 1) := by decide +kernel
theorem dX10_isSquare_7 : decode cX10_isSquare 7 = .ok (.isub, 1) := by decide +kernel
theorem dX10_isSquare_8 : decode cX10_isSquare 8 = .ok (.invokestatic 61, 3) := by decide +kernel
theorem dX10_isSquare_11 : decode cX10_isSquare 11 = .ok (.ireturn, 1) := by decide +kernel
theorem dX10_man_0 : decode cX10_man 0 = .ok (.aload_n 0, 1) := by decide +kernel
theorem dX10_man_1 : decode cX10_man 1 = .ok (.getfield 11, 3) := by decide +kernel
theorem dX10_man_4 : decode cX10_man 4 = .ok (.iconst 1, 1) := by decide +kernel
theorem dX10_man_5 : decode cX10_man 5 = .ok (.iload_n 1, 1) := by decide +kernel
theorem dX10_man_6 : decode cX10_man 6 = .ok (.iadd, 1) := by decide +kernel
theorem dX10_man_7 : decode cX10_man 7 = .ok (.iaload, 1) := by decide +kernel
theorem dX10_man_8 : decode cX10_man 8 = .ok (.iconst 1, 1) := by decide +kernel
theorem dX10_man_9 : decode cX10_man 9 = .ok (.isub, 1) := by decide +kernel
theorem dX10_man_10 : decode cX10_man 10 = .ok (.ireturn, 1) := by decide +kernel
theorem dX10_isOf_0 : decode cX10_isOf 0 = .ok (.aload_n 0, 1) := by decide +kernel
theorem dX10_isOf_1 : decode cX10_isOf 1 = .ok (.iload_n 1, 1) := by decide +kernel
theorem dX10_isOf_2 : decode cX10_isOf 2 = .ok (.invokevirtual 69, 3) := by decide +kernel
theorem dX10_isOf_5 : decode cX10_isOf 5 = .ok (.ifCond .lt 19, 3) := by decide +kernel
theorem dX10_isOf_8 : decode cX10_isOf 8 = .ok (.aload_n 0, 1) := by decide +kernel
theorem dX10_isOf_9 : decode cX10_isOf 9 = .ok (.iload_n 1, 1) := by decide +kernel
theorem dX10_isOf_10 : decode cX10_isOf 10 = .ok (.invokevirtual 69, 3) := by decide +kernel
theorem dX10_isOf_13 : decode cX10_isOf 13 = .ok (.bipush 6, 2) := by decide +kernel
theorem dX10_isOf_15 : decode cX10_isOf 15 = .ok (.idiv, 1) := by decide +kernel
theorem dX10_isOf_16 : decode cX10_isOf 16 = .ok (.iload_n 2, 1) := by decide +kernel
theorem dX10_isOf_17 : decode cX10_isOf 17 = .ok (.if_icmp .ne 7, 3) := by decide +kernel
theorem dX10_isOf_20 : decode cX10_isOf 20 = .ok (.iconst 1, 1) := by decide +kernel
theorem dX10_isOf_21 : decode cX10_isOf 21 = .ok (.goto 4, 3) := by decide +kernel
theorem dX10_isOf_24 : decode cX10_isOf 24 = .ok (.iconst 0, 1) := by decide +kernel
theorem dX10_isOf_25 : decode cX10_isOf 25 = .ok (.ireturn, 1) := by decide +kernel
theorem dX10_digestOf_0 : decode cX10_digestOf 0 = .ok (.bipush 17, 2) := by decide +kernel
theorem dX10_digestOf_2 : decode cX10_digestOf 2 = .ok (.istore_n 1, 1) := by decide +kernel
theorem dX10_digestOf_3 : decode cX10_digestOf 3 = .ok (.iconst 0, 1) := by decide +kernel
theorem dX10_digestOf_4 : decode cX10_digestOf 4 = .ok (.istore_n 2, 1) := by decide +kernel
theorem dX10_digestOf_5 : decode cX10_digestOf 5 = .ok (.iload_n 2, 1) := by decide +kernel
theorem dX10_digestOf_6 : decode cX10_digestOf 6 = .ok (.aload_n 0, 1) := by decide +kernel
theorem dX10_digestOf_7 : decode cX10_digestOf 7 = .ok (.invokevirtual 65, 3) := by decide +kernel
theorem dX10_digestOf_10 : decode cX10_digestOf 10 = .ok (.if_icmp .ge 23, 3) := by decide +kernel
theorem dX10_digestOf_13 : decode cX10_digestOf 13 = .ok (.bipush 31, 2) := by decide +kernel
theorem dX10_digestOf_15 : decode cX10_digestOf 15 = .ok (.iload_n 1, 1) := by decide +kernel
theorem dX10_digestOf_16 : decode cX10_digestOf 16 = .ok (.imul, 1) := by decide +kernel
theorem dX10_digestOf_17 : decode cX10_digestOf 17 = .ok (.aload_n 0, 1) := by decide +kernel
theorem dX10_digestOf_18 : decode cX10_digestOf 18 = .ok (.getfield 11, 3) := by decide +kernel
theorem dX10_digestOf_21 : decode cX10_digestOf 21 = .ok (.iconst 1, 1) := by decide +kernel
theorem dX10_digestOf_22 : decode cX10_digestOf 22 = .ok (.iload_n 2, 1) := by decide +kernel
theorem dX10_digestOf_23 : decode cX10_digestOf 23 = .ok (.iadd, 1) := by decide +kernel
theorem dX10_digestOf_24 : decode cX10_digestOf 24 = .ok (.iaload, 1) := by decide +kernel
theorem dX10_digestOf_25 : decode cX10_digestOf 25 = .ok (.iadd, 1) := by decide +kernel
theorem dX10_digestOf_26 : decode cX10_digestOf 26 = .ok (.istore_n 1, 1) := by decide +kernel
theorem dX10_digestOf_27 : decode cX10_digestOf 27 = .ok (.iinc 2 1, 3) := by decide +kernel
theorem dX10_digestOf_30 : decode cX10_digestOf 30 = .ok (.goto (-25), 3) := by decide +kernel
theorem dX10_digestOf_33 : decode cX10_digestOf 33 = .ok (.iconst 0, 1) := by decide +kernel
theorem dX10_digestOf_34 : decode cX10_digestOf 34 = .ok (.istore_n 2, 1) := by decide +kernel
theorem dX10_digestOf_35 : decode cX10_digestOf 35 = .ok (.iload_n 2, 1) := by decide +kernel
theorem dX10_digestOf_36 : decode cX10_digestOf 36 = .ok (.bipush 12, 2) := by decide +kernel
theorem dX10_digestOf_38 : decode cX10_digestOf 38 = .ok (.if_icmp .ge 24, 3) := by decide +kernel
theorem dX10_digestOf_41 : decode cX10_digestOf 41 = .ok (.bipush 31, 2) := by decide +kernel
theorem dX10_digestOf_43 : decode cX10_digestOf 43 = .ok (.iload_n 1, 1) := by decide +kernel
theorem dX10_digestOf_44 : decode cX10_digestOf 44 = .ok (.imul, 1) := by decide +kernel
theorem dX10_digestOf_45 : decode cX10_digestOf 45 = .ok (.aload_n 0, 1) := by decide +kernel
theorem dX10_digestOf_46 : decode cX10_digestOf 46 = .ok (.getfield 11, 3) := by decide +kernel
theorem dX10_digestOf_49 : decode cX10_digestOf 49 = .ok (.bipush 37, 2) := by decide +kernel
theorem dX10_digestOf_51 : decode cX10_digestOf 51 = .ok (.iload_n 2, 1) := by decide +kernel
theorem dX10_digestOf_52 : decode cX10_digestOf 52 = .ok (.iadd, 1) := by decide +kernel
theorem dX10_digestOf_53 : decode cX10_digestOf 53 = .ok (.iaload, 1) := by decide +kernel
theorem dX10_digestOf_54 : decode cX10_digestOf 54 = .ok (.iadd, 1) := by decide +kernel
theorem dX10_digestOf_55 : decode cX10_digestOf 55 = .ok (.istore_n 1, 1) := by decide +kernel
theorem dX10_digestOf_56 : decode cX10_digestOf 56 = .ok (.iinc 2 1, 3) := by decide +kernel
theorem dX10_digestOf_59 : decode cX10_digestOf 59 = .ok (.goto (-24), 3) := by decide +kernel
theorem dX10_digestOf_62 : decode cX10_digestOf 62 = .ok (.bipush 31, 2) := by decide +kernel
theorem dX10_digestOf_64 : decode cX10_digestOf 64 = .ok (.iload_n 1, 1) := by decide +kernel
theorem dX10_digestOf_65 : decode cX10_digestOf 65 = .ok (.imul, 1) := by decide +kernel
theorem dX10_digestOf_66 : decode cX10_digestOf 66 = .ok (.aload_n 0, 1) := by decide +kernel
theorem dX10_digestOf_67 : decode cX10_digestOf 67 = .ok (.getfield 11, 3) := by decide +kernel
theorem dX10_digestOf_70 : decode cX10_digestOf 70 = .ok (.iconst 0, 1) := by decide +kernel
theorem dX10_digestOf_71 : decode cX10_digestOf 71 = .ok (.iaload, 1) := by decide +kernel
theorem dX10_digestOf_72 : decode cX10_digestOf 72 = .ok (.iadd, 1) := by decide +kernel
theorem dX10_digestOf_73 : decode cX10_digestOf 73 = .ok (.istore_n 1, 1) := by decide +kernel
theorem dX10_digestOf_74 : decode cX10_digestOf 74 = .ok (.iconst 0, 1) := by decide +kernel
theorem dX10_digestOf_75 : decode cX10_digestOf 75 = .ok (.istore_n 2, 1) := by decide +kernel
theorem dX10_digestOf_76 : decode cX10_digestOf 76 = .ok (.iload_n 2, 1) := by decide +kernel
theorem dX10_digestOf_77 : decode cX10_digestOf 77 = .ok (.iconst 4, 1) := by decide +kernel
theorem dX10_digestOf_78 : decode cX10_digestOf 78 = .ok (.if_icmp .ge 41, 3) := by decide +kernel
theorem dX10_digestOf_81 : decode cX10_digestOf 81 = .ok (.bipush 31, 2) := by decide +kernel
theorem dX10_digestOf_83 : decode cX10_digestOf 83 = .ok (.iload_n 1, 1) := by decide +kernel
theorem dX10_digestOf_84 : decode cX10_digestOf 84 = .ok (.imul, 1) := by decide +kernel
theorem dX10_digestOf_85 : decode cX10_digestOf 85 = .ok (.aload_n 0, 1) := by decide +kernel
theorem dX10_digestOf_86 : decode cX10_digestOf 86 = .ok (.getfield 11, 3) := by decide +kernel
theorem dX10_digestOf_89 : decode cX10_digestOf 89 = .ok (.iload_n 2, 1) := by decide +kernel
theorem dX10_digestOf_90 : decode cX10_digestOf 90 = .ok (.invokestatic 72, 3) := by decide +kernel
theorem dX10_digestOf_93 : decode cX10_digestOf 93 = .ok (.iaload, 1) := by decide +kernel
theorem dX10_digestOf_94 : decode cX10_digestOf 94 = .ok (.iconst 1, 1) := by decide +kernel
theorem dX10_digestOf_95 : decode cX10_digestOf 95 = .ok (.if_icmp .ne 15, 3) := by decide +kernel
theorem dX10_digestOf_98 : decode cX10_digestOf 98 = .ok (.aload_n 0, 1) := by decide +kernel
theorem dX10_digestOf_99 : decode cX10_digestOf 99 = .ok (.getfield 11, 3) := by decide +kernel
theorem dX10_digestOf_102 : decode cX10_digestOf 102 = .ok (.bipush 49, 2) := by decide +kernel
theorem dX10_digestOf_104 : decode cX10_digestOf 104 = .ok (.iload_n 2, 1) := by decide +kernel
theorem dX10_digestOf_105 : decode cX10_digestOf 105 = .ok (.iadd, 1) := by decide +kernel
theorem dX10_digestOf_106 : decode cX10_digestOf 106 = .ok (.iaload, 1) := by decide +kernel
theorem dX10_digestOf_107 : decode cX10_digestOf 107 = .ok (.goto 4, 3) := by decide +kernel
theorem dX10_digestOf_110 : decode cX10_digestOf 110 = .ok (.iconst 0, 1) := by decide +kernel
theorem dX10_digestOf_111 : decode cX10_digestOf 111 = .ok (.iadd, 1) := by decide +kernel
theorem dX10_digestOf_112 : decode cX10_digestOf 112 = .ok (.istore_n 1, 1) := by decide +kernel
theorem dX10_digestOf_113 : decode cX10_digestOf 113 = .ok (.iinc 2 1, 3) := by decide +kernel
theorem dX10_digestOf_116 : decode cX10_digestOf 116 = .ok (.goto (-40), 3) := by decide +kernel
theorem dX10_digestOf_119 : decode cX10_digestOf 119 = .ok (.iload_n 1, 1) := by decide +kernel
theorem dX10_digestOf_120 : decode cX10_digestOf 120 = .ok (.ireturn, 1) := by decide +kernel
theorem dX10_stirs_0 : decode cX10_stirs 0 = .ok (.aload_n 0, 1) := by decide +kernel
theorem dX10_stirs_1 : decode cX10_stirs 1 = .ok (.iconst 0, 1) := by decide +kernel
theorem dX10_stirs_2 : decode cX10_stirs 2 = .ok (.putfield 75, 3) := by decide +kernel
theorem dX10_stirs_5 : decode cX10_stirs 5 = .ok (.iconst 0, 1) := by decide +kernel
theorem dX10_stirs_6 : decode cX10_stirs 6 = .ok (.istore_n 1, 1) := by decide +kernel
theorem dX10_stirs_7 : decode cX10_stirs 7 = .ok (.iload_n 1, 1) := by decide +kernel
theorem dX10_stirs_8 : decode cX10_stirs 8 = .ok (.iconst 3, 1) := by decide +kernel
theorem dX10_stirs_9 : decode cX10_stirs 9 = .ok (.if_icmp .ge 16, 3) := by decide +kernel
theorem dX10_stirs_12 : decode cX10_stirs 12 = .ok (.aload_n 0, 1) := by decide +kernel
theorem dX10_stirs_13 : decode cX10_stirs 13 = .ok (.getfield 42, 3) := by decide +kernel
theorem dX10_stirs_16 : decode cX10_stirs 16 = .ok (.iload_n 1, 1) := by decide +kernel
theorem dX10_stirs_17 : decode cX10_stirs 17 = .ok (.iconst (-1), 1) := by decide +kernel
theorem dX10_stirs_18 : decode cX10_stirs 18 = .ok (.iastore, 1) := by decide +kernel
theorem dX10_stirs_19 : decode cX10_stirs 19 = .ok (.iinc 1 1, 3) := by decide +kernel
theorem dX10_stirs_22 : decode cX10_stirs 22 = .ok (.goto (-15), 3) := by decide +kernel
theorem dX10_stirs_25 : decode cX10_stirs 25 = .ok (.return_, 1) := by decide +kernel
theorem dX10_begins_0 : decode cX10_begins 0 = .ok (.aload_n 0, 1) := by decide +kernel
theorem dX10_begins_1 : decode cX10_begins 1 = .ok (.invokevirtual 79, 3) := by decide +kernel
theorem dX10_begins_4 : decode cX10_begins 4 = .ok (.aload_n 0, 1) := by decide +kernel
theorem dX10_begins_5 : decode cX10_begins 5 = .ok (.getfield 11, 3) := by decide +kernel
theorem dX10_begins_8 : decode cX10_begins 8 = .ok (.bipush 57, 2) := by decide +kernel
theorem dX10_begins_10 : decode cX10_begins 10 = .ok (.iconst 0, 1) := by decide +kernel
theorem dX10_begins_11 : decode cX10_begins 11 = .ok (.iastore, 1) := by decide +kernel
theorem dX10_begins_12 : decode cX10_begins 12 = .ok (.aload_n 0, 1) := by decide +kernel
theorem dX10_begins_13 : decode cX10_begins 13 = .ok (.getfield 11, 3) := by decide +kernel
theorem dX10_begins_16 : decode cX10_begins 16 = .ok (.sipush 2328, 3) := by decide +kernel
theorem dX10_begins_19 : decode cX10_begins 19 = .ok (.aload_n 0, 1) := by decide +kernel
theorem dX10_begins_20 : decode cX10_begins 20 = .ok (.invokevirtual 82, 3) := by decide +kernel
theorem dX10_begins_23 : decode cX10_begins 23 = .ok (.iastore, 1) := by decide +kernel
theorem dX10_begins_24 : decode cX10_begins 24 = .ok (.return_, 1) := by decide +kernel
theorem dX10_sets_0 : decode cX10_sets 0 = .ok (.aload_n 0, 1) := by decide +kernel
theorem dX10_sets_1 : decode cX10_sets 1 = .ok (.getfield 11, 3) := by decide +kernel
theorem dX10_sets_4 : decode cX10_sets 4 = .ok (.iload_n 1, 1) := by decide +kernel
theorem dX10_sets_5 : decode cX10_sets 5 = .ok (.iaload, 1) := by decide +kernel
theorem dX10_sets_6 : decode cX10_sets 6 = .ok (.istore_n 3, 1) := by decide +kernel
theorem dX10_sets_7 : decode cX10_sets 7 = .ok (.aload_n 0, 1) := by decide +kernel
theorem dX10_sets_8 : decode cX10_sets 8 = .ok (.getfield 11, 3) := by decide +kernel
theorem dX10_sets_11 : decode cX10_sets 11 = .ok (.iload_n 1, 1) := by decide +kernel
theorem dX10_sets_12 : decode cX10_sets 12 = .ok (.iload_n 2, 1) := by decide +kernel
theorem dX10_sets_13 : decode cX10_sets 13 = .ok (.iastore, 1) := by decide +kernel
theorem dX10_sets_14 : decode cX10_sets 14 = .ok (.aload_n 0, 1) := by decide +kernel
theorem dX10_sets_15 : decode cX10_sets 15 = .ok (.invokevirtual 58, 3) := by decide +kernel
theorem dX10_sets_18 : decode cX10_sets 18 = .ok (.iload_n 3, 1) := by decide +kernel
theorem dX10_sets_19 : decode cX10_sets 19 = .ok (.ireturn, 1) := by decide +kernel
theorem dX10_feed_0 : decode cX10_feed 0 = .ok (.iload_n 1, 1) := by decide +kernel
theorem dX10_feed_1 : decode cX10_feed 1 = .ok (.iconst 0, 1) := by decide +kernel
theorem dX10_feed_2 : decode cX10_feed 2 = .ok (.bipush 127, 2) := by decide +kernel
theorem dX10_feed_4 : decode cX10_feed 4 = .ok (.invokestatic 61, 3) := by decide +kernel
theorem dX10_feed_7 : decode cX10_feed 7 = .ok (.ifCond .ne 6, 3) := by decide +kernel
theorem dX10_feed_10 : decode cX10_feed 10 = .ok (.bipush (-2), 2) := by decide +kernel
theorem dX10_feed_12 : decode cX10_feed 12 = .ok (.ireturn, 1) := by decide +kernel
theorem dX10_feed_13 : decode cX10_feed 13 = .ok (.aload_n 0, 1) := by decide +kernel
theorem dX10_feed_14 : decode cX10_feed 14 = .ok (.getfield 85, 3) := by decide +kernel
theorem dX10_feed_17 : decode cX10_feed 17 = .ok (.bipush 60, 2) := by decide +kernel
theorem dX10_feed_19 : decode cX10_feed 19 = .ok (.if_icmp .ne 6, 3) := by decide +kernel
theorem dX10_feed_22 : decode cX10_feed 22 = .ok (.bipush (-4), 2) := by decide +kernel
theorem dX10_feed_24 : decode cX10_feed 24 = .ok (.ireturn, 1) := by decide +kernel
theorem dX10_feed_25 : decode cX10_feed 25 = .ok (.aload_n 0, 1) := by decide +kernel
theorem dX10_feed_26 : decode cX10_feed 26 = .ok (.getfield 18, 3) := by decide +kernel
theorem dX10_feed_29 : decode cX10_feed 29 = .ok (.aload_n 0, 1) := by decide +kernel
theorem dX10_feed_30 : decode cX10_feed 30 = .ok (.dup, 1) := by decide +kernel
theorem dX10_feed_31 : decode cX10_feed 31 = .ok (.getfield 85, 3) := by decide +kernel
theorem dX10_feed_34 : decode cX10_feed 34 = .ok (.dup_x1, 1) := by decide +kernel
theorem dX10_feed_35 : decode cX10_feed 35 = .ok (.iconst 1, 1) := by decide +kernel
theorem dX10_feed_36 : decode cX10_feed 36 = .ok (.iadd, 1) := by decide +kernel
theorem dX10_feed_37 : decode cX10_feed 37 = .ok (.putfield 85, 3) := by decide +kernel
theorem dX10_feed_40 : decode cX10_feed 40 = .ok (.iload_n 1, 1) := by decide +kernel
theorem dX10_feed_41 : decode cX10_feed 41 = .ok (.iastore, 1) := by decide +kernel
theorem dX10_feed_42 : decode cX10_feed 42 = .ok (.aload_n 0, 1) := by decide +kernel
theorem dX10_feed_43 : decode cX10_feed 43 = .ok (.getfield 85, 3) := by decide +kernel
theorem dX10_feed_46 : decode cX10_feed 46 = .ok (.ireturn, 1) := by decide +kernel
theorem dX10_size_0 : decode cX10_size 0 = .ok (.iload_n 1, 1) := by decide +kernel
theorem dX10_size_1 : decode cX10_size 1 = .ok (.iconst 2, 1) := by decide +kernel
theorem dX10_size_2 : decode cX10_size 2 = .ok (.bipush 6, 2) := by decide +kernel
theorem dX10_size_4 : decode cX10_size 4 = .ok (.invokestatic 61, 3) := by decide +kernel
theorem dX10_size_7 : decode cX10_size 7 = .ok (.ifCond .eq 13, 3) := by decide +kernel
theorem dX10_size_10 : decode cX10_size 10 = .ok (.iload_n 2, 1) := by decide +kernel
theorem dX10_size_11 : decode cX10_size 11 = .ok (.iconst 2, 1) := by decide +kernel
theorem dX10_size_12 : decode cX10_size 12 = .ok (.bipush 6, 2) := by decide +kernel
theorem dX10_size_14 : decode cX10_size 14 = .ok (.invokestatic 61, 3) := by decide +kernel
theorem dX10_size_17 : decode cX10_size 17 = .ok (.ifCond .ne 6, 3) := by decide +kernel
theorem dX10_size_20 : decode cX10_size 20 = .ok (.bipush (-2), 2) := by decide +kernel
theorem dX10_size_22 : decode cX10_size 22 = .ok (.ireturn, 1) := by decide +kernel
theorem dX10_size_23 : decode cX10_size 23 = .ok (.iconst 0, 1) := by decide +kernel
theorem dX10_size_24 : decode cX10_size 24 = .ok (.istore_n 3, 1) := by decide +kernel
theorem dX10_size_25 : decode cX10_size 25 = .ok (.iload_n 3, 1) := by decide +kernel
theorem dX10_size_26 : decode cX10_size 26 = .ok (.bipush 53, 2) := by decide +kernel
theorem dX10_size_28 : decode cX10_size 28 = .ok (.if_icmp .ge 16, 3) := by decide +kernel
theorem dX10_size_31 : decode cX10_size 31 = .ok (.aload_n 0, 1) := by decide +kernel
theorem dX10_size_32 : decode cX10_size 32 = .ok (.getfield 11, 3) := by decide +kernel
theorem dX10_size_35 : decode cX10_size 35 = .ok (.iload_n 3, 1) := by decide +kernel
theorem dX10_size_36 : decode cX10_size 36 = .ok (.iconst 0, 1) := by decide +kernel
theorem dX10_size_37 : decode cX10_size 37 = .ok (.iastore, 1) := by decide +kernel
theorem dX10_size_38 : decode cX10_size 38 = .ok (.iinc 3 1, 3) := by decide +kernel
theorem dX10_size_41 : decode cX10_size 41 = .ok (.goto (-16), 3) := by decide +kernel
theorem dX10_size_44 : decode cX10_size 44 = .ok (.iconst 0, 1) := by decide +kernel
theorem dX10_size_45 : decode cX10_size 45 = .ok (.istore_n 3, 1) := by decide +kernel
theorem dX10_size_46 : decode cX10_size 46 = .ok (.iload_n 3, 1) := by decide +kernel
theorem dX10_size_47 : decode cX10_size 47 = .ok (.iconst 4, 1) := by decide +kernel
theorem dX10_size_48 : decode cX10_size 48 = .ok (.if_icmp .ge 19, 3) := by decide +kernel
theorem dX10_size_51 : decode cX10_size 51 = .ok (.aload_n 0, 1) := by decide +kernel
theorem dX10_size_52 : decode cX10_size 52 = .ok (.getfield 11, 3) := by decide +kernel
theorem dX10_size_55 : decode cX10_size 55 = .ok (.iload_n 3, 1) := by decide +kernel
theorem dX10_size_56 : decode cX10_size 56 = .ok (.invokestatic 72, 3) := by decide +kernel
theorem dX10_size_59 : decode cX10_size 59 = .ok (.iconst 0, 1) := by decide +kernel
theorem dX10_size_60 : decode cX10_size 60 = .ok (.iastore, 1) := by decide +kernel
theorem dX10_size_61 : decode cX10_size 61 = .ok (.iinc 3 1, 3) := by decide +kernel
theorem dX10_size_64 : decode cX10_size 64 = .ok (.goto (-18), 3) := by decide +kernel
theorem dX10_size_67 : decode cX10_size 67 = .ok (.aload_n 0, 1) := by decide +kernel
theorem dX10_size_68 : decode cX10_size 68 = .ok (.getfield 11, 3) := by decide +kernel
theorem dX10_size_71 : decode cX10_size 71 = .ok (.bipush 53, 2) := by decide +kernel
theorem dX10_size_73 : decode cX10_size 73 = .ok (.iload_n 1, 1) := by decide +kernel
theorem dX10_size_74 : decode cX10_size 74 = .ok (.iastore, 1) := by decide +kernel
theorem dX10_size_75 : decode cX10_size 75 = .ok (.aload_n 0, 1) := by decide +kernel
theorem dX10_size_76 : decode cX10_size 76 = .ok (.getfield 11, 3) := by decide +kernel
theorem dX10_size_79 : decode cX10_size 79 = .ok (.bipush 54, 2) := by decide +kernel
theorem dX10_size_81 : decode cX10_size 81 = .ok (.iload_n 2, 1) := by decide +kernel
theorem dX10_size_82 : decode cX10_size 82 = .ok (.iastore, 1) := by decide +kernel
theorem dX10_size_83 : decode cX10_size 83 = .ok (.aload_n 0, 1) := by decide +kernel
theorem dX10_size_84 : decode cX10_size 84 = .ok (.invokevirtual 58, 3) := by decide +kernel
theorem dX10_size_87 : decode cX10_size 87 = .ok (.aload_n 0, 1) := by decide +kernel
theorem dX10_size_88 : decode cX10_size 88 = .ok (.invokevirtual 65, 3) := by decide +kernel
theorem dX10_size_91 : decode cX10_size 91 = .ok (.ireturn, 1) := by decide +kernel
theorem dX10_like_0 : decode cX10_like 0 = .ok (.iconst 0, 1) := by decide +kernel
theorem dX10_like_1 : decode cX10_like 1 = .ok (.istore_n 2, 1) := by decide +kernel
theorem dX10_like_2 : decode cX10_like 2 = .ok (.iload_n 2, 1) := by decide +kernel
theorem dX10_like_3 : decode cX10_like 3 = .ok (.aload_n 0, 1) := by decide +kernel
theorem dX10_like_4 : decode cX10_like 4 = .ok (.getfield 85, 3) := by decide +kernel
theorem dX10_like_7 : decode cX10_like 7 = .ok (.if_icmp .ge 39, 3) := by decide +kernel
theorem dX10_like_10 : decode cX10_like 10 = .ok (.ldc 89, 2) := by decide +kernel
theorem dX10_like_12 : decode cX10_like 12 = .ok (.iload_n 1, 1) := by decide +kernel
theorem dX10_like_13 : decode cX10_like 13 = .ok (.iload_n 2, 1) := by decide +kernel
theorem dX10_like_14 : decode cX10_like 14 = .ok (.iadd, 1) := by decide +kernel
theorem dX10_like_15 : decode cX10_like 15 = .ok (.invokevirtual 91, 3) := by decide +kernel
theorem dX10_like_18 : decode cX10_like 18 = .ok (.bipush 32, 2) := by decide +kernel
theorem dX10_like_20 : decode cX10_like 20 = .ok (.if_icmp .eq 26, 3) := by decide +kernel
theorem dX10_like_23 : decode cX10_like 23 = .ok (.aload_n 0, 1) := by decide +kernel
theorem dX10_like_24 : decode cX10_like 24 = .ok (.getfield 18, 3) := by decide +kernel
theorem dX10_like_27 : decode cX10_like 27 = .ok (.iload_n 2, 1) := by decide +kernel
theorem dX10_like_28 : decode cX10_like 28 = .ok (.iaload, 1) := by decide +kernel
theorem dX10_like_29 : decode cX10_like 29 = .ok (.ldc 89, 2) := by decide +kernel
theorem dX10_like_31 : decode cX10_like 31 = .ok (.iload_n 1, 1) := by decide +kernel
theorem dX10_like_32 : decode cX10_like 32 = .ok (.iload_n 2, 1) := by decide +kernel
theorem dX10_like_33 : decode cX10_like 33 = .ok (.iadd, 1) := by decide +kernel
theorem dX10_like_34 : decode cX10_like 34 = .ok (.invokevirtual 91, 3) := by decide +kernel
theorem dX10_like_37 : decode cX10_like 37 = .ok (.if_icmp .ne 9, 3) := by decide +kernel
theorem dX10_like_40 : decode cX10_like 40 = .ok (.iinc 2 1, 3) := by decide +kernel
theorem dX10_like_43 : decode cX10_like 43 = .ok (.goto (-41), 3) := by decide +kernel
theorem dX10_like_46 : decode cX10_like 46 = .ok (.iload_n 2, 1) := by decide +kernel
theorem dX10_like_47 : decode cX10_like 47 = .ok (.ireturn, 1) := by decide +kernel
theorem dX10_word_0 : decode cX10_word 0 = .ok (.aload_n 0, 1) := by decide +kernel
theorem dX10_word_1 : decode cX10_word 1 = .ok (.iconst 0, 1) := by decide +kernel
theorem dX10_word_2 : decode cX10_word 2 = .ok (.putfield 97, 3) := by decide +kernel
theorem dX10_word_5 : decode cX10_word 5 = .ok (.iconst 0, 1) := by decide +kernel
theorem dX10_word_6 : decode cX10_word 6 = .ok (.istore_n 1, 1) := by decide +kernel
theorem dX10_word_7 : decode cX10_word 7 = .ok (.iconst (-1), 1) := by decide +kernel
theorem dX10_word_8 : decode cX10_word 8 = .ok (.istore_n 2, 1) := by decide +kernel
theorem dX10_word_9 : decode cX10_word 9 = .ok (.iconst 0, 1) := by decide +kernel
theorem dX10_word_10 : decode cX10_word 10 = .ok (.istore_n 3, 1) := by decide +kernel
theorem dX10_word_11 : decode cX10_word 11 = .ok (.iload_n 3, 1) := by decide +kernel
theorem dX10_word_12 : decode cX10_word 12 = .ok (.ldc 89, 2) := by decide +kernel
theorem dX10_word_14 : decode cX10_word 14 = .ok (.invokevirtual 100, 3) := by decide +kernel
theorem dX10_word_17 : decode cX10_word 17 = .ok (.if_icmp .ge 65, 3) := by decide +kernel
theorem dX10_word_20 : decode cX10_word 20 = .ok (.aload_n 0, 1) := by decide +kernel
theorem dX10_word_21 : decode cX10_word 21 = .ok (.iload_n 3, 1) := by decide +kernel
theorem dX10_word_22 : decode cX10_word 22 = .ok (.invokevirtual 102, 3) := by decide +kernel
theorem dX10_word_25 : decode cX10_word 25 = .ok (.istore 4, 2) := by decide +kernel
theorem dX10_word_27 : decode cX10_word 27 = .ok (.aload_n 0, 1) := by decide +kernel
theorem dX10_word_28 : decode cX10_word 28 = .ok (.aload_n 0, 1) := by decide +kernel
theorem dX10_word_29 : decode cX10_word 29 = .ok (.getfield 97, 3) := by decide +kernel
theorem dX10_word_32 : decode cX10_word 32 = .ok (.iload 4, 2) := by decide +kernel
theorem dX10_word_34 : decode cX10_word 34 = .ok (.invokestatic 105, 3) := by decide +kernel
theorem dX10_word_37 : decode cX10_word 37 = .ok (.putfield 97, 3) := by decide +kernel
theorem dX10_word_40 : decode cX10_word 40 = .ok (.iload 4, 2) := by decide +kernel
theorem dX10_word_42 : decode cX10_word 42 = .ok (.aload_n 0, 1) := by decide +kernel
theorem dX10_word_43 : decode cX10_word 43 = .ok (.getfield 85, 3) := by decide +kernel
theorem dX10_word_46 : decode cX10_word 46 = .ok (.if_icmp .ne 19, 3) := by decide +kernel
theorem dX10_word_49 : decode cX10_word 49 = .ok (.ldc 89, 2) := by decide +kernel
theorem dX10_word_51 : decode cX10_word 51 = .ok (.iload_n 3, 1) := by decide +kernel
theorem dX10_word_52 : decode cX10_word 52 = .ok (.iload 4, 2) := by decide +kernel
theorem dX10_word_54 : decode cX10_word 54 = .ok (.iadd, 1) := by decide +kernel
theorem dX10_word_55 : decode cX10_word 55 = .ok (.invokevirtual 91, 3) := by decide +kernel
theorem dX10_word_58 : decode cX10_word 58 = .ok (.bipush 32, 2) := by decide +kernel
theorem dX10_word_60 : decode cX10_word 60 = .ok (.if_icmp .ne 5, 3) := by decide +kernel
theorem dX10_word_63 : decode cX10_word 63 = .ok (.iload_n 1, 1) := by decide +kernel
theorem dX10_word_64 : decode cX10_word 64 = .ok (.istore_n 2, 1) := by decide +kernel
theorem dX10_word_65 : decode cX10_word 65 = .ok (.iinc 1 1, 3) := by decide +kernel
theorem dX10_word_68 : decode cX10_word 68 = .ok (.ldc 89, 2) := by decide +kernel
theorem dX10_word_70 : decode cX10_word 70 = .ok (.bipush 32, 2) := by decide +kernel
theorem dX10_word_72 : decode cX10_word 72 = .ok (.iload_n 3, 1) := by decide +kernel
theorem dX10_word_73 : decode cX10_word 73 = .ok (.invokevirtual 111, 3) := by decide +kernel
theorem dX10_word_76 : decode cX10_word 76 = .ok (.iconst 1, 1) := by decide +kernel
theorem dX10_word_77 : decode cX10_word 77 = .ok (.iadd, 1) := by decide +kernel
theorem dX10_word_78 : decode cX10_word 78 = .ok (.istore_n 3, 1) := by decide +kernel
theorem dX10_word_79 : decode cX10_word 79 = .ok (.goto (-68), 3) := by decide +kernel
theorem dX10_word_82 : decode cX10_word 82 = .ok (.iload_n 2, 1) := by decide +kernel
theorem dX10_word_83 : decode cX10_word 83 = .ok (.ireturn, 1) := by decide +kernel
theorem dX10_parts_0 : decode cX10_parts 0 = .ok (.aload_n 0, 1) := by decide +kernel
theorem dX10_parts_1 : decode cX10_parts 1 = .ok (.getfield 21, 3) := by decide +kernel
theorem dX10_parts_4 : decode cX10_parts 4 = .ok (.iconst 0, 1) := by decide +kernel
theorem dX10_parts_5 : decode cX10_parts 5 = .ok (.iconst 0, 1) := by decide +kernel
theorem dX10_parts_6 : decode cX10_parts 6 = .ok (.iastore, 1) := by decide +kernel
theorem dX10_parts_7 : decode cX10_parts 7 = .ok (.iconst 0, 1) := by decide +kernel
theorem dX10_parts_8 : decode cX10_parts 8 = .ok (.istore_n 3, 1) := by decide +kernel
theorem dX10_parts_9 : decode cX10_parts 9 = .ok (.iload_n 3, 1) := by decide +kernel
theorem dX10_parts_10 : decode cX10_parts 10 = .ok (.iload_n 2, 1) := by decide +kernel
theorem dX10_parts_11 : decode cX10_parts 11 = .ok (.if_icmp .lt 12, 3) := by decide +kernel
theorem dX10_parts_14 : decode cX10_parts 14 = .ok (.aload_n 0, 1) := by decide +kernel
theorem dX10_parts_15 : decode cX10_parts 15 = .ok (.getfield 21, 3) := by decide +kernel
theorem dX10_parts_18 : decode cX10_parts 18 = .ok (.iconst 0, 1) := by decide +kernel
theorem dX10_parts_19 : decode cX10_parts 19 = .ok (.iaload, 1) := by decide +kernel
theorem dX10_parts_20 : decode cX10_parts 20 = .ok (.ifCond .ne 177, 3) := by decide +kernel
theorem dX10_parts_23 : decode cX10_parts 23 = .ok (.aload_n 0, 1) := by decide +kernel
theorem dX10_parts_24 : decode cX10_parts 24 = .ok (.getfield 21, 3) := by decide +kernel
theorem dX10_parts_27 : decode cX10_parts 27 = .ok (.iconst 0, 1) := by decide +kernel
theorem dX10_parts_28 : decode cX10_parts 28 = .ok (.iaload, 1) := by decide +kernel
theorem dX10_parts_29 : decode cX10_parts 29 = .ok (.bipush 6, 2) := by decide +kernel
theorem dX10_parts_31 : decode cX10_parts 31 = .ok (.if_icmp .ne 5, 3) := by decide +kernel
theorem dX10_parts_34 : decode cX10_parts 34 = .ok (.iload_n 3, 1) := by decide +kernel
theorem dX10_parts_35 : decode cX10_parts 35 = .ok (.ireturn, 1) := by decide +kernel
theorem dX10_parts_36 : decode cX10_parts 36 = .ok (.iconst 0, 1) := by decide +kernel
theorem dX10_parts_37 : decode cX10_parts 37 = .ok (.istore 4, 2) := by decide +kernel
theorem dX10_parts_39 : decode cX10_parts 39 = .ok (.iload_n 3, 1) := by decide +kernel
theorem dX10_parts_40 : decode cX10_parts 40 = .ok (.iload_n 2, 1) := by decide +kernel
theorem dX10_parts_41 : decode cX10_parts 41 = .ok (.if_icmp .ge 35, 3) := by decide +kernel
theorem dX10_parts_44 : decode cX10_parts 44 = .ok (.ldc 114, 2) := by decide +kernel
theorem dX10_parts_46 : decode cX10_parts 46 = .ok (.aload_n 1, 1) := by decide +kernel
theorem dX10_parts_47 : decode cX10_parts 47 = .ok (.iload_n 3, 1) := by decide +kernel
theorem dX10_parts_48 : decode cX10_parts 48 = .ok (.iaload, 1) := by decide +kernel
theorem dX10_parts_49 : decode cX10_parts 49 = .ok (.invokevirtual 116, 3) := by decide +kernel
theorem dX10_parts_52 : decode cX10_parts 52 = .ok (.ifCond .lt 24, 3) := by decide +kernel
theorem dX10_parts_55 : decode cX10_parts 55 = .ok (.iload 4, 2) := by decide +kernel
theorem dX10_parts_57 : decode cX10_parts 57 = .ok (.iconst 1, 1) := by decide +kernel
theorem dX10_parts_58 : decode cX10_parts 58 = .ok (.ldc 114, 2) := by decide +kernel
theorem dX10_parts_60 : decode cX10_parts 60 = .ok (.aload_n 1, 1) := by decide +kernel
theorem dX10_parts_61 : decode cX10_parts 61 = .ok (.iload_n 3, 1) := by decide +kernel
theorem dX10_parts_62 : decode cX10_parts 62 = .ok (.iinc 3 1, 3) := by decide +kernel
theorem dX10_parts_65 : decode cX10_parts 65 = .ok (.iaload, 1) := by decide +kernel
theorem dX10_parts_66 : decode cX10_parts 66 = .ok (.invokevirtual 116, 3) := by decide +kernel
theorem dX10_parts_69 : decode cX10_parts 69 = .ok (.ishl, 1) := by decide +kernel
theorem dX10_parts_70 : decode cX10_parts 70 = .ok (.ior, 1) := by decide +kernel
theorem dX10_parts_71 : decode cX10_parts 71 = .ok (.istore 4, 2) := by decide +kernel
theorem dX10_parts_73 : decode cX10_parts 73 = .ok (.goto (-34), 3) := by decide +kernel
theorem dX10_parts_76 : decode cX10_parts 76 = .ok (.iload_n 3, 1) := by decide +kernel
theorem dX10_parts_77 : decode cX10_parts 77 = .ok (.iload_n 2, 1) := by decide +kernel
theorem dX10_parts_78 : decode cX10_parts 78 = .ok (.if_icmp .eq 14, 3) := by decide +kernel
theorem dX10_parts_81 : decode cX10_parts 81 = .ok (.ldc 118, 2) := by decide +kernel
theorem dX10_parts_83 : decode cX10_parts 83 = .ok (.aload_n 1, 1) := by decide +kernel
theorem dX10_parts_84 : decode cX10_parts 84 = .ok (.iload_n 3, 1) := by decide +kernel
theorem dX10_parts_85 : decode cX10_parts 85 = .ok (.iaload, 1) := by decide +kernel
theorem dX10_parts_86 : decode cX10_parts 86 = .ok (.invokevirtual 116, 3) := by decide +kernel
theorem dX10_parts_89 : decode cX10_parts 89 = .ok (.ifCond .ge 5, 3) := by decide +kernel
theorem dX10_parts_92 : decode cX10_parts 92 = .ok (.iload_n 3, 1) := by decide +kernel
theorem dX10_parts_93 : decode cX10_parts 93 = .ok (.ireturn, 1) := by decide +kernel
theorem dX10_parts_94 : decode cX10_parts 94 = .ok (.iconst 1, 1) := by decide +kernel
theorem dX10_parts_95 : decode cX10_parts 95 = .ok (.iconst 3, 1) := by decide +kernel
theorem dX10_parts_96 : decode cX10_parts 96 = .ok (.aload_n 0, 1) := by decide +kernel
theorem dX10_parts_97 : decode cX10_parts 97 = .ok (.getfield 21, 3) := by decide +kernel
theorem dX10_parts_100 : decode cX10_parts 100 = .ok (.iconst 0, 1) := by decide +kernel
theorem dX10_parts_101 : decode cX10_parts 101 = .ok (.dup2, 1) := by decide +kernel
theorem dX10_parts_102 : decode cX10_parts 102 = .ok (.iaload, 1) := by decide +kernel
theorem dX10_parts_103 : decode cX10_parts 103 = .ok (.dup_x2, 1) := by decide +kernel
theorem dX10_parts_104 : decode cX10_parts 104 = .ok (.iconst 1, 1) := by decide +kernel
theorem dX10_parts_105 : decode cX10_parts 105 = .ok (.iadd, 1) := by decide +kernel
theorem dX10_parts_106 : decode cX10_parts 106 = .ok (.iastore, 1) := by decide +kernel
theorem dX10_parts_107 : decode cX10_parts 107 = .ok (.imul, 1) := by decide +kernel
theorem dX10_parts_108 : decode cX10_parts 108 = .ok (.iadd, 1) := by decide +kernel
theorem dX10_parts_109 : decode cX10_parts 109 = .ok (.istore 5, 2) := by decide +kernel
theorem dX10_parts_111 : decode cX10_parts 111 = .ok (.aload_n 0, 1) := by decide +kernel
theorem dX10_parts_112 : decode cX10_parts 112 = .ok (.getfield 21, 3) := by decide +kernel
theorem dX10_parts_115 : decode cX10_parts 115 = .ok (.iload 5, 2) := by decide +kernel
theorem dX10_parts_117 : decode cX10_parts 117 = .ok (.iload 4, 2) := by decide +kernel
theorem dX10_parts_119 : decode cX10_parts 119 = .ok (.iastore, 1) := by decide +kernel
theorem dX10_parts_120 : decode cX10_parts 120 = .ok (.aload_n 0, 1) := by decide +kernel
theorem dX10_parts_121 : decode cX10_parts 121 = .ok (.getfield 21, 3) := by decide +kernel
theorem dX10_parts_124 : decode cX10_parts 124 = .ok (.iload 5, 2) := by decide +kernel
theorem dX10_parts_126 : decode cX10_parts 126 = .ok (.iconst 1, 1) := by decide +kernel
theorem dX10_parts_127 : decode cX10_parts 127 = .ok (.iadd, 1) := by decide +kernel
theorem dX10_parts_128 : decode cX10_parts 128 = .ok (.ldc 118, 2) := by decide +kernel
theorem dX10_parts_130 : decode cX10_parts 130 = .ok (.aload_n 1, 1) := by decide +kernel
theorem dX10_parts_131 : decode cX10_parts 131 = .ok (.iload_n 3, 1) := by decide +kernel
theorem dX10_parts_132 : decode cX10_parts 132 = .ok (.iinc 3 1, 3) := by decide +kernel
theorem dX10_parts_135 : decode cX10_parts 135 = .ok (.iaload, 1) := by decide +kernel
theorem dX10_parts_136 : decode cX10_parts 136 = .ok (.invokevirtual 116, 3) := by decide +kernel
theorem dX10_parts_139 : decode cX10_parts 139 = .ok (.iastore, 1) := by decide +kernel
theorem dX10_parts_140 : decode cX10_parts 140 = .ok (.aload_n 0, 1) := by decide +kernel
theorem dX10_parts_141 : decode cX10_parts 141 = .ok (.getfield 21, 3) := by decide +kernel
theorem dX10_parts_144 : decode cX10_parts 144 = .ok (.iload 5, 2) := by decide +kernel
theorem dX10_parts_146 : decode cX10_parts 146 = .ok (.iconst 2, 1) := by decide +kernel
theorem dX10_parts_147 : decode cX10_parts 147 = .ok (.iadd, 1) := by decide +kernel
theorem dX10_parts_148 : decode cX10_parts 148 = .ok (.iconst (-1), 1) := by decide +kernel
theorem dX10_parts_149 : decode cX10_parts 149 = .ok (.iastore, 1) := by decide +kernel
theorem dX10_parts_150 : decode cX10_parts 150 = .ok (.iload_n 3, 1) := by decide +kernel
theorem dX10_parts_151 : decode cX10_parts 151 = .ok (.iload_n 2, 1) := by decide +kernel
theorem dX10_parts_152 : decode cX10_parts 152 = .ok (.if_icmp .ge 42, 3) := by decide +kernel
theorem dX10_parts_155 : decode cX10_parts 155 = .ok (.aload_n 1, 1) := by decide +kernel
theorem dX10_parts_156 : decode cX10_parts 156 = .ok (.iload_n 3, 1) := by decide +kernel
theorem dX10_parts_157 : decode cX10_parts 157 = .ok (.iaload, 1) := by decide +kernel
theorem dX10_parts_158 : decode cX10_parts 158 = .ok (.bipush 48, 2) := by decide +kernel
theorem dX10_parts_160 : decode cX10_parts 160 = .ok (.if_icmp .eq 16, 3) := by decide +kernel
theorem dX10_parts_163 : decode cX10_parts 163 = .ok (.aload_n 1, 1) := by decide +kernel
theorem dX10_parts_164 : decode cX10_parts 164 = .ok (.iload_n 3, 1) := by decide +kernel
theorem dX10_parts_165 : decode cX10_parts 165 = .ok (.iaload, 1) := by decide +kernel
theorem dX10_parts_166 : decode cX10_parts 166 = .ok (.bipush 50, 2) := by decide +kernel
theorem dX10_parts_168 : decode cX10_parts 168 = .ok (.bipush 53, 2) := by decide +kernel
theorem dX10_parts_170 : decode cX10_parts 170 = .ok (.invokestatic 61, 3) := by decide +kernel
theorem dX10_parts_173 : decode cX10_parts 173 = .ok (.ifCond .eq 21, 3) := by decide +kernel
theorem dX10_parts_176 : decode cX10_parts 176 = .ok (.aload_n 0, 1) := by decide +kernel
theorem dX10_parts_177 : decode cX10_parts 177 = .ok (.getfield 21, 3) := by decide +kernel
theorem dX10_parts_180 : decode cX10_parts 180 = .ok (.iload 5, 2) := by decide +kernel
theorem dX10_parts_182 : decode cX10_parts 182 = .ok (.iconst 2, 1) := by decide +kernel
theorem dX10_parts_183 : decode cX10_parts 183 = .ok (.iadd, 1) := by decide +kernel
theorem dX10_parts_184 : decode cX10_parts 184 = .ok (.aload_n 1, 1) := by decide +kernel
theorem dX10_parts_185 : decode cX10_parts 185 = .ok (.iload_n 3, 1) := by decide +kernel
theorem dX10_parts_186 : decode cX10_parts 186 = .ok (.iinc 3 1, 3) := by decide +kernel
theorem dX10_parts_189 : decode cX10_parts 189 = .ok (.iaload, 1) := by decide +kernel
theorem dX10_parts_190 : decode cX10_parts 190 = .ok (.bipush 48, 2) := by decide +kernel
theorem dX10_parts_192 : decode cX10_parts 192 = .ok (.isub, 1) := by decide +kernel
theorem dX10_parts_193 : decode cX10_parts 193 = .ok (.iastore, 1) := by decide +kernel
theorem dX10_parts_194 : decode cX10_parts 194 = .ok (.goto (-185), 3) := by decide +kernel
theorem dX10_parts_197 : decode cX10_parts 197 = .ok (.iconst (-1), 1) := by decide +kernel
theorem dX10_parts_198 : decode cX10_parts 198 = .ok (.ireturn, 1) := by decide +kernel
theorem dX10_define_0 : decode cX10_define 0 = .ok (.iload_n 1, 1) := by decide +kernel
theorem dX10_define_1 : decode cX10_define 1 = .ok (.invokestatic 120, 3) := by decide +kernel
theorem dX10_define_4 : decode cX10_define 4 = .ok (.ifCond .ne 5, 3) := by decide +kernel
theorem dX10_define_7 : decode cX10_define 7 = .ok (.iconst (-1), 1) := by decide +kernel
theorem dX10_define_8 : decode cX10_define 8 = .ok (.ireturn, 1) := by decide +kernel
theorem dX10_define_9 : decode cX10_define 9 = .ok (.aload_n 0, 1) := by decide +kernel
theorem dX10_define_10 : decode cX10_define 10 = .ok (.invokevirtual 124, 3) := by decide +kernel
theorem dX10_define_13 : decode cX10_define 13 = .ok (.istore_n 2, 1) := by decide +kernel
theorem dX10_define_14 : decode cX10_define 14 = .ok (.aload_n 0, 1) := by decide +kernel
theorem dX10_define_15 : decode cX10_define 15 = .ok (.getfield 97, 3) := by decide +kernel
theorem dX10_define_18 : decode cX10_define 18 = .ok (.istore_n 3, 1) := by decide +kernel
theorem dX10_define_19 : decode cX10_define 19 = .ok (.iload_n 2, 1) := by decide +kernel
theorem dX10_define_20 : decode cX10_define 20 = .ok (.ifCond .lt 92, 3) := by decide +kernel
theorem dX10_define_23 : decode cX10_define 23 = .ok (.iconst 0, 1) := by decide +kernel
theorem dX10_define_24 : decode cX10_define 24 = .ok (.istore 5, 2) := by decide +kernel
theorem dX10_define_26 : decode cX10_define 26 = .ok (.iconst 0, 1) := by decide +kernel
theorem dX10_define_27 : decode cX10_define 27 = .ok (.istore 6, 2) := by decide +kernel
theorem dX10_define_29 : decode cX10_define 29 = .ok (.iload 6, 2) := by decide +kernel
theorem dX10_define_31 : decode cX10_define 31 = .ok (.iload_n 2, 1) := by decide +kernel
theorem dX10_define_32 : decode cX10_define 32 = .ok (.if_icmp .ge 22, 3) := by decide +kernel
theorem dX10_define_35 : decode cX10_define 35 = .ok (.ldc 127, 2) := by decide +kernel
theorem dX10_define_37 : decode cX10_define 37 = .ok (.bipush 32, 2) := by decide +kernel
theorem dX10_define_39 : decode cX10_define 39 = .ok (.iload 5, 2) := by decide +kernel
theorem dX10_define_41 : decode cX10_define 41 = .ok (.invokevirtual 111, 3) := by decide +kernel
theorem dX10_define_44 : decode cX10_define 44 = .ok (.iconst 1, 1) := by decide +kernel
theorem dX10_define_45 : decode cX10_define 45 = .ok (.iadd, 1) := by decide +kernel
theorem dX10_define_46 : decode cX10_define 46 = .ok (.istore 5, 2) := by decide +kernel
theorem dX10_define_48 : decode cX10_define 48 = .ok (.iinc 6 1, 3) := by decide +kernel
theorem dX10_define_51 : decode cX10_define 51 = .ok (.goto (-22), 3) := by decide +kernel
theorem dX10_define_54 : decode cX10_define 54 = .ok (.iconst 0, 1) := by decide +kernel
theorem dX10_define_55 : decode cX10_define 55 = .ok (.istore 6, 2) := by decide +kernel
theorem dX10_define_57 : decode cX10_define 57 = .ok (.bipush 60, 2) := by decide +kernel
theorem dX10_define_59 : decode cX10_define 59 = .ok (.newarray .int, 2) := by decide +kernel
theorem dX10_define_61 : decode cX10_define 61 = .ok (.astore 7, 2) := by decide +kernel
theorem dX10_define_63 : decode cX10_define 63 = .ok (.ldc 127, 2) := by decide +kernel
theorem dX10_define_65 : decode cX10_define 65 = .ok (.iload 5, 2) := by decide +kernel
theorem dX10_define_67 : decode cX10_define 67 = .ok (.iload 6, 2) := by decide +kernel
theorem dX10_define_69 : decode cX10_define 69 = .ok (.iadd, 1) := by decide +kernel
theorem dX10_define_70 : decode cX10_define 70 = .ok (.invokevirtual 91, 3) := by decide +kernel
theorem dX10_define_73 : decode cX10_define 73 = .ok (.bipush 32, 2) := by decide +kernel
theorem dX10_define_75 : decode cX10_define 75 = .ok (.if_icmp .eq 24, 3) := by decide +kernel
theorem dX10_define_78 : decode cX10_define 78 = .ok (.aload 7, 2) := by decide +kernel
theorem dX10_define_80 : decode cX10_define 80 = .ok (.iload 6, 2) := by decide +kernel
theorem dX10_define_82 : decode cX10_define 82 = .ok (.ldc 127, 2) := by decide +kernel
theorem dX10_define_84 : decode cX10_define 84 = .ok (.iload 5, 2) := by decide +kernel
theorem dX10_define_86 : decode cX10_define 86 = .ok (.iload 6, 2) := by decide +kernel
theorem dX10_define_88 : decode cX10_define 88 = .ok (.iinc 6 1, 3) := by decide +kernel
theorem dX10_define_91 : decode cX10_define 91 = .ok (.iadd, 1) := by decide +kernel
theorem dX10_define_92 : decode cX10_define 92 = .ok (.invokevirtual 91, 3) := by decide +kernel
theorem dX10_define_95 : decode cX10_define 95 = .ok (.iastore, 1) := by decide +kernel
theorem dX10_define_96 : decode cX10_define 96 = .ok (.goto (-33), 3) := by decide +kernel
theorem dX10_define_99 : decode cX10_define 99 = .ok (.aload_n 0, 1) := by decide +kernel
theorem dX10_define_100 : decode cX10_define 100 = .ok (.aload 7, 2) := by decide +kernel
theorem dX10_define_102 : decode cX10_define 102 = .ok (.iload 6, 2) := by decide +kernel
theorem dX10_define_104 : decode cX10_define 104 = .ok (.invokevirtual 129, 3) := by decide +kernel
theorem dX10_define_107 : decode cX10_define 107 = .ok (.istore 4, 2) := by decide +kernel
theorem dX10_define_109 : decode cX10_define 109 = .ok (.goto 17, 3) := by decide +kernel
theorem dX10_define_112 : decode cX10_define 112 = .ok (.aload_n 0, 1) := by decide +kernel
theorem dX10_define_113 : decode cX10_define 113 = .ok (.aload_n 0, 1) := by decide +kernel
theorem dX10_define_114 : decode cX10_define 114 = .ok (.getfield 18, 3) := by decide +kernel
theorem dX10_define_117 : decode cX10_define 117 = .ok (.aload_n 0, 1) := by decide +kernel
theorem dX10_define_118 : decode cX10_define 118 = .ok (.getfield 85, 3) := by decide +kernel
theorem dX10_define_121 : decode cX10_define 121 = .ok (.invokevirtual 129, 3) := by decide +kernel
theorem dX10_define_124 : decode cX10_define 124 = .ok (.istore 4, 2) := by decide +kernel
theorem dX10_define_126 : decode cX10_define 126 = .ok (.aload_n 0, 1) := by decide +kernel
theorem dX10_define_127 : decode cX10_define 127 = .ok (.iconst 0, 1) := by decide +kernel
theorem dX10_define_128 : decode cX10_define 128 = .ok (.putfield 85, 3) := by decide +kernel
theorem dX10_define_131 : decode cX10_define 131 = .ok (.iload 4, 2) := by decide +kernel
theorem dX10_define_133 : decode cX10_define 133 = .ok (.ifCond .lt 13, 3) := by decide +kernel
theorem dX10_define_136 : decode cX10_define 136 = .ok (.bipush (-100), 2) := by decide +kernel
theorem dX10_define_138 : decode cX10_define 138 = .ok (.iload 4, 2) := by decide +kernel
theorem dX10_define_140 : decode cX10_define 140 = .ok (.iload_n 3, 1) := by decide +kernel
theorem dX10_define_141 : decode cX10_define 141 = .ok (.invokestatic 105, 3) := by decide +kernel
theorem dX10_define_144 : decode cX10_define 144 = .ok (.isub, 1) := by decide +kernel
theorem dX10_define_145 : decode cX10_define 145 = .ok (.ireturn, 1) := by decide +kernel
theorem dX10_define_146 : decode cX10_define 146 = .ok (.aload_n 0, 1) := by decide +kernel
theorem dX10_define_147 : decode cX10_define 147 = .ok (.getfield 11, 3) := by decide +kernel
theorem dX10_define_150 : decode cX10_define 150 = .ok (.iload_n 1, 1) := by decide +kernel
theorem dX10_define_151 : decode cX10_define 151 = .ok (.invokestatic 54, 3) := by decide +kernel
theorem dX10_define_154 : decode cX10_define 154 = .ok (.iconst 2, 1) := by decide +kernel
theorem dX10_define_155 : decode cX10_define 155 = .ok (.iadd, 1) := by decide +kernel
theorem dX10_define_156 : decode cX10_define 156 = .ok (.aload_n 0, 1) := by decide +kernel
theorem dX10_define_157 : decode cX10_define 157 = .ok (.getfield 21, 3) := by decide +kernel
theorem dX10_define_160 : decode cX10_define 160 = .ok (.iconst 0, 1) := by decide +kernel
theorem dX10_define_161 : decode cX10_define 161 = .ok (.iaload, 1) := by decide +kernel
theorem dX10_define_162 : decode cX10_define 162 = .ok (.iastore, 1) := by decide +kernel
theorem dX10_define_163 : decode cX10_define 163 = .ok (.iconst 0, 1) := by decide +kernel
theorem dX10_define_164 : decode cX10_define 164 = .ok (.istore 5, 2) := by decide +kernel
theorem dX10_define_166 : decode cX10_define 166 = .ok (.iload 5, 2) := by decide +kernel
theorem dX10_define_168 : decode cX10_define 168 = .ok (.bipush 18, 2) := by decide +kernel
theorem dX10_define_170 : decode cX10_define 170 = .ok (.if_icmp .ge 49, 3) := by decide +kernel
theorem dX10_define_173 : decode cX10_define 173 = .ok (.aload_n 0, 1) := by decide +kernel
theorem dX10_define_174 : decode cX10_define 174 = .ok (.getfield 11, 3) := by decide +kernel
theorem dX10_define_177 : decode cX10_define 177 = .ok (.iload_n 1, 1) := by decide +kernel
theorem dX10_define_178 : decode cX10_define 178 = .ok (.invokestatic 54, 3) := by decide +kernel
theorem dX10_define_181 : decode cX10_define 181 = .ok (.iconst 3, 1) := by decide +kernel
theorem dX10_define_182 : decode cX10_define 182 = .ok (.iadd, 1) := by decide +kernel
theorem dX10_define_183 : decode cX10_define 183 = .ok (.iload 5, 2) := by decide +kernel
theorem dX10_define_185 : decode cX10_define 185 = .ok (.iadd, 1) := by decide +kernel
theorem dX10_define_186 : decode cX10_define 186 = .ok (.iload 5, 2) := by decide +kernel
theorem dX10_define_188 : decode cX10_define 188 = .ok (.iconst 3, 1) := by decide +kernel
theorem dX10_define_189 : decode cX10_define 189 = .ok (.aload_n 0, 1) := by decide +kernel
theorem dX10_define_190 : decode cX10_define 190 = .ok (.getfield 21, 3) := by decide +kernel
theorem dX10_define_193 : decode cX10_define 193 = .ok (.iconst 0, 1) := by decide +kernel
theorem dX10_define_194 : decode cX10_define 194 = .ok (.iaload, 1) := by decide +kernel
theorem dX10_define_195 : decode cX10_define 195 = .ok (.imul, 1) := by decide +kernel
theorem dX10_define_196 : decode cX10_define 196 = .ok (.if_icmp .ge 15, 3) := by decide +kernel
theorem dX10_define_199 : decode cX10_define 199 = .ok (.aload_n 0, 1) := by decide +kernel
theorem dX10_define_200 : decode cX10_define 200 = .ok (.getfield 21, 3) := by decide +kernel
theorem dX10_define_203 : decode cX10_define 203 = .ok (.iconst 1, 1) := by decide +kernel
theorem dX10_define_204 : decode cX10_define 204 = .ok (.iload 5, 2) := by decide +kernel
theorem dX10_define_206 : decode cX10_define 206 = .ok (.iadd, 1) := by decide +kernel
theorem dX10_define_207 : decode cX10_define 207 = .ok (.iaload, 1) := by decide +kernel
theorem dX10_define_208 : decode cX10_define 208 = .ok (.goto 4, 3) := by decide +kernel
theorem dX10_define_211 : decode cX10_define 211 = .ok (.iconst 0, 1) := by decide +kernel
theorem dX10_define_212 : decode cX10_define 212 = .ok (.iastore, 1) := by decide +kernel
theorem dX10_define_213 : decode cX10_define 213 = .ok (.iinc 5 1, 3) := by decide +kernel
theorem dX10_define_216 : decode cX10_define 216 = .ok (.goto (-50), 3) := by decide +kernel
theorem dX10_define_219 : decode cX10_define 219 = .ok (.aload_n 0, 1) := by decide +kernel
theorem dX10_define_220 : decode cX10_define 220 = .ok (.invokevirtual 58, 3) := by decide +kernel
theorem dX10_define_223 : decode cX10_define 223 = .ok (.aload_n 0, 1) := by decide +kernel
theorem dX10_define_224 : decode cX10_define 224 = .ok (.getfield 21, 3) := by decide +kernel
theorem dX10_define_227 : decode cX10_define 227 = .ok (.iconst 0, 1) := by decide +kernel
theorem dX10_define_228 : decode cX10_define 228 = .ok (.iaload, 1) := by decide +kernel
theorem dX10_define_229 : decode cX10_define 229 = .ok (.ireturn, 1) := by decide +kernel
theorem dX10_type_0 : decode cX10_type 0 = .ok (.iload_n 1, 1) := by decide +kernel
theorem dX10_type_1 : decode cX10_type 1 = .ok (.invokestatic 120, 3) := by decide +kernel
theorem dX10_type_4 : decode cX10_type 4 = .ok (.ifCond .eq 12, 3) := by decide +kernel
theorem dX10_type_7 : decode cX10_type 7 = .ok (.iload_n 2, 1) := by decide +kernel
theorem dX10_type_8 : decode cX10_type 8 = .ok (.iconst 0, 1) := by decide +kernel
theorem dX10_type_9 : decode cX10_type 9 = .ok (.iconst 1, 1) := by decide +kernel
theorem dX10_type_10 : decode cX10_type 10 = .ok (.invokestatic 61, 3) := by decide +kernel
theorem dX10_type_13 : decode cX10_type 13 = .ok (.ifCond .ne 5, 3) := by decide +kernel
theorem dX10_type_16 : decode cX10_type 16 = .ok (.iconst (-1), 1) := by decide +kernel
theorem dX10_type_17 : decode cX10_type 17 = .ok (.ireturn, 1) := by decide +kernel
theorem dX10_type_18 : decode cX10_type 18 = .ok (.iload_n 2, 1) := by decide +kernel
theorem dX10_type_19 : decode cX10_type 19 = .ok (.ifCond .ne 27, 3) := by decide +kernel
theorem dX10_type_22 : decode cX10_type 22 = .ok (.iload_n 3, 1) := by decide +kernel
theorem dX10_type_23 : decode cX10_type 23 = .ok (.iconst 0, 1) := by decide +kernel
theorem dX10_type_24 : decode cX10_type 24 = .ok (.iconst 1, 1) := by decide +kernel
theorem dX10_type_25 : decode cX10_type 25 = .ok (.invokestatic 61, 3) := by decide +kernel
theorem dX10_type_28 : decode cX10_type 28 = .ok (.ifCond .eq 15, 3) := by decide +kernel
theorem dX10_type_31 : decode cX10_type 31 = .ok (.aload_n 0, 1) := by decide +kernel
theorem dX10_type_32 : decode cX10_type 32 = .ok (.iload_n 1, 1) := by decide +kernel
theorem dX10_type_33 : decode cX10_type 33 = .ok (.invokestatic 54, 3) := by decide +kernel
theorem dX10_type_36 : decode cX10_type 36 = .ok (.iload_n 3, 1) := by decide +kernel
theorem dX10_type_37 : decode cX10_type 37 = .ok (.invokevirtual 133, 3) := by decide +kernel
theorem dX10_type_40 : decode cX10_type 40 = .ok (.goto 5, 3) := by decide +kernel
theorem dX10_type_43 : decode cX10_type 43 = .ok (.bipush (-2), 2) := by decide +kernel
theorem dX10_type_45 : decode cX10_type 45 = .ok (.ireturn, 1) := by decide +kernel
theorem dX10_type_46 : decode cX10_type 46 = .ok (.iload_n 3, 1) := by decide +kernel
theorem dX10_type_47 : decode cX10_type 47 = .ok (.iconst (-1), 1) := by decide +kernel
theorem dX10_type_48 : decode cX10_type 48 = .ok (.iconst 5, 1) := by decide +kernel
theorem dX10_type_49 : decode cX10_type 49 = .ok (.invokestatic 61, 3) := by decide +kernel
theorem dX10_type_52 : decode cX10_type 52 = .ok (.ifCond .eq 21, 3) := by decide +kernel
theorem dX10_type_55 : decode cX10_type 55 = .ok (.aload_n 0, 1) := by decide +kernel
theorem dX10_type_56 : decode cX10_type 56 = .ok (.iload_n 1, 1) := by decide +kernel
theorem dX10_type_57 : decode cX10_type 57 = .ok (.invokestatic 54, 3) := by decide +kernel
theorem dX10_type_60 : decode cX10_type 60 = .ok (.iconst 1, 1) := by decide +kernel
theorem dX10_type_61 : decode cX10_type 61 = .ok (.iadd, 1) := by decide +kernel
theorem dX10_type_62 : decode cX10_type 62 = .ok (.iload_n 3, 1) := by decide +kernel
theorem dX10_type_63 : decode cX10_type 63 = .ok (.iconst 1, 1) := by decide +kernel
theorem dX10_type_64 : decode cX10_type 64 = .ok (.iadd, 1) := by decide +kernel
theorem dX10_type_65 : decode cX10_type 65 = .ok (.invokevirtual 133, 3) := by decide +kernel
theorem dX10_type_68 : decode cX10_type 68 = .ok (.iconst 1, 1) := by decide +kernel
theorem dX10_type_69 : decode cX10_type 69 = .ok (.isub, 1) := by decide +kernel
theorem dX10_type_70 : decode cX10_type 70 = .ok (.goto 5, 3) := by decide +kernel
theorem dX10_type_73 : decode cX10_type 73 = .ok (.bipush (-2), 2) := by decide +kernel
theorem dX10_type_75 : decode cX10_type 75 = .ok (.ireturn, 1) := by decide +kernel
theorem dX10_rule_0 : decode cX10_rule 0 = .ok (.iload_n 1, 1) := by decide +kernel
theorem dX10_rule_1 : decode cX10_rule 1 = .ok (.iconst 0, 1) := by decide +kernel
theorem dX10_rule_2 : decode cX10_rule 2 = .ok (.iconst 1, 1) := by decide +kernel
theorem dX10_rule_3 : decode cX10_rule 3 = .ok (.invokestatic 61, 3) := by decide +kernel
theorem dX10_rule_6 : decode cX10_rule 6 = .ok (.ifCond .ne 5, 3) := by decide +kernel
theorem dX10_rule_9 : decode cX10_rule 9 = .ok (.iconst (-1), 1) := by decide +kernel
theorem dX10_rule_10 : decode cX10_rule 10 = .ok (.ireturn, 1) := by decide +kernel
theorem dX10_rule_11 : decode cX10_rule 11 = .ok (.iload_n 2, 1) := by decide +kernel
theorem dX10_rule_12 : decode cX10_rule 12 = .ok (.iconst 0, 1) := by decide +kernel
theorem dX10_rule_13 : decode cX10_rule 13 = .ok (.iconst 1, 1) := by decide +kernel
theorem dX10_rule_14 : decode cX10_rule 14 = .ok (.iload_n 1, 1) := by decide +kernel
theorem dX10_rule_15 : decode cX10_rule 15 = .ok (.iadd, 1) := by decide +kernel
theorem dX10_rule_16 : decode cX10_rule 16 = .ok (.invokestatic 61, 3) := by decide +kernel
theorem dX10_rule_19 : decode cX10_rule 19 = .ok (.ifCond .eq 15, 3) := by decide +kernel
theorem dX10_rule_22 : decode cX10_rule 22 = .ok (.aload_n 0, 1) := by decide +kernel
theorem dX10_rule_23 : decode cX10_rule 23 = .ok (.bipush 55, 2) := by decide +kernel
theorem dX10_rule_25 : decode cX10_rule 25 = .ok (.iload_n 1, 1) := by decide +kernel
theorem dX10_rule_26 : decode cX10_rule 26 = .ok (.iadd, 1) := by decide +kernel
theorem dX10_rule_27 : decode cX10_rule 27 = .ok (.iload_n 2, 1) := by decide +kernel
theorem dX10_rule_28 : decode cX10_rule 28 = .ok (.invokevirtual 133, 3) := by decide +kernel
theorem dX10_rule_31 : decode cX10_rule 31 = .ok (.goto 5, 3) := by decide +kernel
theorem dX10_rule_34 : decode cX10_rule 34 = .ok (.bipush (-2), 2) := by decide +kernel
theorem dX10_rule_36 : decode cX10_rule 36 = .ok (.ireturn, 1) := by decide +kernel
theorem dX10_isDefined_0 : decode cX10_isDefined 0 = .ok (.aload_n 0, 1) := by decide +kernel
theorem dX10_isDefined_1 : decode cX10_isDefined 1 = .ok (.getfield 11, 3) := by decide +kernel
theorem dX10_isDefined_4 : decode cX10_isDefined 4 = .ok (.iload_n 1, 1) := by decide +kernel
theorem dX10_isDefined_5 : decode cX10_isDefined 5 = .ok (.invokestatic 54, 3) := by decide +kernel
theorem dX10_isDefined_8 : decode cX10_isDefined 8 = .ok (.iconst 2, 1) := by decide +kernel
theorem dX10_isDefined_9 : decode cX10_isDefined 9 = .ok (.iadd, 1) := by decide +kernel
theorem dX10_isDefined_10 : decode cX10_isDefined 10 = .ok (.iaload, 1) := by decide +kernel
theorem dX10_isDefined_11 : decode cX10_isDefined 11 = .ok (.ifCond .lt 7, 3) := by decide +kernel
theorem dX10_isDefined_14 : decode cX10_isDefined 14 = .ok (.iconst 1, 1) := by decide +kernel
theorem dX10_isDefined_15 : decode cX10_isDefined 15 = .ok (.goto 4, 3) := by decide +kernel
theorem dX10_isDefined_18 : decode cX10_isDefined 18 = .ok (.iconst 0, 1) := by decide +kernel
theorem dX10_isDefined_19 : decode cX10_isDefined 19 = .ok (.ireturn, 1) := by decide +kernel
theorem dX10_letter_0 : decode cX10_letter 0 = .ok (.iload_n 1, 1) := by decide +kernel
theorem dX10_letter_1 : decode cX10_letter 1 = .ok (.bipush 65, 2) := by decide +kernel
theorem dX10_letter_3 : decode cX10_letter 3 = .ok (.bipush 70, 2) := by decide +kernel
theorem dX10_letter_5 : decode cX10_letter 5 = .ok (.invokestatic 61, 3) := by decide +kernel
theorem dX10_letter_8 : decode cX10_letter 8 = .ok (.ifCond .eq 12, 3) := by decide +kernel
theorem dX10_letter_11 : decode cX10_letter 11 = .ok (.iconst 1, 1) := by decide +kernel
theorem dX10_letter_12 : decode cX10_letter 12 = .ok (.iload_n 1, 1) := by decide +kernel
theorem dX10_letter_13 : decode cX10_letter 13 = .ok (.iadd, 1) := by decide +kernel
theorem dX10_letter_14 : decode cX10_letter 14 = .ok (.bipush 65, 2) := by decide +kernel
theorem dX10_letter_16 : decode cX10_letter 16 = .ok (.isub, 1) := by decide +kernel
theorem dX10_letter_17 : decode cX10_letter 17 = .ok (.goto 25, 3) := by decide +kernel
theorem dX10_letter_20 : decode cX10_letter 20 = .ok (.iload_n 1, 1) := by decide +kernel
theorem dX10_letter_21 : decode cX10_letter 21 = .ok (.bipush 97, 2) := by decide +kernel
theorem dX10_letter_23 : decode cX10_letter 23 = .ok (.bipush 102, 2) := by decide +kernel
theorem dX10_letter_25 : decode cX10_letter 25 = .ok (.invokestatic 61, 3) := by decide +kernel
theorem dX10_letter_28 : decode cX10_letter 28 = .ok (.ifCond .eq 13, 3) := by decide +kernel
theorem dX10_letter_31 : decode cX10_letter 31 = .ok (.bipush 7, 2) := by decide +kernel
theorem dX10_letter_33 : decode cX10_letter 33 = .ok (.iload_n 1, 1) := by decide +kernel
theorem dX10_letter_34 : decode cX10_letter 34 = .ok (.iadd, 1) := by decide +kernel
theorem dX10_letter_35 : decode cX10_letter 35 = .ok (.bipush 97, 2) := by decide +kernel
theorem dX10_letter_37 : decode cX10_letter 37 = .ok (.isub, 1) := by decide +kernel
theorem dX10_letter_38 : decode cX10_letter 38 = .ok (.goto 4, 3) := by decide +kernel
theorem dX10_letter_41 : decode cX10_letter 41 = .ok (.iconst 0, 1) := by decide +kernel
theorem dX10_letter_42 : decode cX10_letter 42 = .ok (.istore_n 2, 1) := by decide +kernel
theorem dX10_letter_43 : decode cX10_letter 43 = .ok (.iload_n 2, 1) := by decide +kernel
theorem dX10_letter_44 : decode cX10_letter 44 = .ok (.ifCond .le 20, 3) := by decide +kernel
theorem dX10_letter_47 : decode cX10_letter 47 = .ok (.aload_n 0, 1) := by decide +kernel
theorem dX10_letter_48 : decode cX10_letter 48 = .ok (.iload_n 2, 1) := by decide +kernel
theorem dX10_letter_49 : decode cX10_letter 49 = .ok (.iconst 1, 1) := by decide +kernel
theorem dX10_letter_50 : decode cX10_letter 50 = .ok (.isub, 1) := by decide +kernel
theorem dX10_letter_51 : decode cX10_letter 51 = .ok (.bipush 6, 2) := by decide +kernel
theorem dX10_letter_53 : decode cX10_letter 53 = .ok (.irem, 1) := by decide +kernel
theorem dX10_letter_54 : decode cX10_letter 54 = .ok (.invokevirtual 136, 3) := by decide +kernel
theorem dX10_letter_57 : decode cX10_letter 57 = .ok (.ifCond .eq 7, 3) := by decide +kernel
theorem dX10_letter_60 : decode cX10_letter 60 = .ok (.iload_n 2, 1) := by decide +kernel
theorem dX10_letter_61 : decode cX10_letter 61 = .ok (.goto 4, 3) := by decide +kernel
theorem dX10_letter_64 : decode cX10_letter 64 = .ok (.iconst 0, 1) := by decide +kernel
theorem dX10_letter_65 : decode cX10_letter 65 = .ok (.ireturn, 1) := by decide +kernel
theorem dX10_position_0 : decode cX10_position 0 = .ok (.iconst 0, 1) := by decide +kernel
theorem dX10_position_1 : decode cX10_position 1 = .ok (.istore_n 2, 1) := by decide +kernel
theorem dX10_position_2 : decode cX10_position 2 = .ok (.aload_n 0, 1) := by decide +kernel
theorem dX10_position_3 : decode cX10_position 3 = .ok (.getfield 11, 3) := by decide +kernel
theorem dX10_position_6 : decode cX10_position 6 = .ok (.bipush 54, 2) := by decide +kernel
theorem dX10_position_8 : decode cX10_position 8 = .ok (.iaload, 1) := by decide +kernel
theorem dX10_position_9 : decode cX10_position 9 = .ok (.iconst 1, 1) := by decide +kernel
theorem dX10_position_10 : decode cX10_position 10 = .ok (.isub, 1) := by decide +kernel
theorem dX10_position_11 : decode cX10_position 11 = .ok (.istore_n 3, 1) := by decide +kernel
theorem dX10_position_12 : decode cX10_position 12 = .ok (.iload_n 3, 1) := by decide +kernel
theorem dX10_position_13 : decode cX10_position 13 = .ok (.ifCond .lt 183, 3) := by decide +kernel
theorem dX10_position_16 : decode cX10_position 16 = .ok (.iconst 0, 1) := by decide +kernel
theorem dX10_position_17 : decode cX10_position 17 = .ok (.istore 4, 2) := by decide +kernel
theorem dX10_position_19 : decode cX10_position 19 = .ok (.iload 4, 2) := by decide +kernel
theorem dX10_position_21 : decode cX10_position 21 = .ok (.aload_n 0, 1) := by decide +kernel
theorem dX10_position_22 : decode cX10_position 22 = .ok (.getfield 11, 3) := by decide +kernel
theorem dX10_position_25 : decode cX10_position 25 = .ok (.bipush 53, 2) := by decide +kernel
theorem dX10_position_27 : decode cX10_position 27 = .ok (.iaload, 1) := by decide +kernel
theorem dX10_position_28 : decode cX10_position 28 = .ok (.if_icmp .ge 120, 3) := by decide +kernel
theorem dX10_position_31 : decode cX10_position 31 = .ok (.iload_n 2, 1) := by decide +kernel
theorem dX10_position_32 : decode cX10_position 32 = .ok (.aload_n 0, 1) := by decide +kernel
theorem dX10_position_33 : decode cX10_position 33 = .ok (.getfield 85, 3) := by decide +kernel
theorem dX10_position_36 : decode cX10_position 36 = .ok (.if_icmp .ne 5, 3) := by decide +kernel
theorem dX10_position_39 : decode cX10_position 39 = .ok (.iload_n 2, 1) := by decide +kernel
theorem dX10_position_40 : decode cX10_position 40 = .ok (.ireturn, 1) := by decide +kernel
theorem dX10_position_41 : decode cX10_position 41 = .ok (.aload_n 0, 1) := by decide +kernel
theorem dX10_position_42 : decode cX10_position 42 = .ok (.aload_n 0, 1) := by decide +kernel
theorem dX10_position_43 : decode cX10_position 43 = .ok (.getfield 18, 3) := by decide +kernel
theorem dX10_position_46 : decode cX10_position 46 = .ok (.iload_n 2, 1) := by decide +kernel
theorem dX10_position_47 : decode cX10_position 47 = .ok (.iaload, 1) := by decide +kernel
theorem dX10_position_48 : decode cX10_position 48 = .ok (.invokevirtual 139, 3) := by decide +kernel
theorem dX10_position_51 : decode cX10_position 51 = .ok (.istore 5, 2) := by decide +kernel
theorem dX10_position_53 : decode cX10_position 53 = .ok (.aload_n 0, 1) := by decide +kernel
theorem dX10_position_54 : decode cX10_position 54 = .ok (.getfield 18, 3) := by decide +kernel
theorem dX10_position_57 : decode cX10_position 57 = .ok (.iload_n 2, 1) := by decide +kernel
theorem dX10_position_58 : decode cX10_position 58 = .ok (.iaload, 1) := by decide +kernel
theorem dX10_position_59 : decode cX10_position 59 = .ok (.bipush 49, 2) := by decide +kernel
theorem dX10_position_61 : decode cX10_position 61 = .ok (.bipush 54, 2) := by decide +kernel
theorem dX10_position_63 : decode cX10_position 63 = .ok (.invokestatic 61, 3) := by decide +kernel
theorem dX10_position_66 : decode cX10_position 66 = .ok (.ifCond .eq 15, 3) := by decide +kernel
theorem dX10_position_69 : decode cX10_position 69 = .ok (.aload_n 0, 1) := by decide +kernel
theorem dX10_position_70 : decode cX10_position 70 = .ok (.getfield 18, 3) := by decide +kernel
theorem dX10_position_73 : decode cX10_position 73 = .ok (.iload_n 2, 1) := by decide +kernel
theorem dX10_position_74 : decode cX10_position 74 = .ok (.iaload, 1) := by decide +kernel
theorem dX10_position_75 : decode cX10_position 75 = .ok (.bipush 48, 2) := by decide +kernel
theorem dX10_position_77 : decode cX10_position 77 = .ok (.isub, 1) := by decide +kernel
theorem dX10_position_78 : decode cX10_position 78 = .ok (.goto 4, 3) := by decide +kernel
theorem dX10_position_81 : decode cX10_position 81 = .ok (.iconst 0, 1) := by decide +kernel
theorem dX10_position_82 : decode cX10_position 82 = .ok (.istore 6, 2) := by decide +kernel
theorem dX10_position_84 : decode cX10_position 84 = .ok (.iload 5, 2) := by decide +kernel
theorem dX10_position_86 : decode cX10_position 86 = .ok (.ifCond .ne 8, 3) := by decide +kernel
theorem dX10_position_89 : decode cX10_position 89 = .ok (.iload 6, 2) := by decide +kernel
theorem dX10_position_91 : decode cX10_position 91 = .ok (.ifCond .eq 18, 3) := by decide +kernel
theorem dX10_position_94 : decode cX10_position 94 = .ok (.iload 4, 2) := by decide +kernel
theorem dX10_position_96 : decode cX10_position 96 = .ok (.iload 6, 2) := by decide +kernel
theorem dX10_position_98 : decode cX10_position 98 = .ok (.iadd, 1) := by decide +kernel
theorem dX10_position_99 : decode cX10_position 99 = .ok (.aload_n 0, 1) := by decide +kernel
theorem dX10_position_100 : decode cX10_position 100 = .ok (.getfield 11, 3) := by decide +kernel
theorem dX10_position_103 : decode cX10_position 103 = .ok (.bipush 53, 2) := by decide +kernel
theorem dX10_position_105 : decode cX10_position 105 = .ok (.iaload, 1) := by decide +kernel
theorem dX10_position_106 : decode cX10_position 106 = .ok (.if_icmp .le 5, 3) := by decide +kernel
theorem dX10_position_109 : decode cX10_position 109 = .ok (.iload_n 2, 1) := by decide +kernel
theorem dX10_position_110 : decode cX10_position 110 = .ok (.ireturn, 1) := by decide +kernel
theorem dX10_position_111 : decode cX10_position 111 = .ok (.iload 5, 2) := by decide +kernel
theorem dX10_position_113 : decode cX10_position 113 = .ok (.ifCond .le 22, 3) := by decide +kernel
theorem dX10_position_116 : decode cX10_position 116 = .ok (.aload_n 1, 1) := by decide +kernel
theorem dX10_position_117 : decode cX10_position 117 = .ok (.aload_n 0, 1) := by decide +kernel
theorem dX10_position_118 : decode cX10_position 118 = .ok (.getfield 11, 3) := by decide +kernel
theorem dX10_position_121 : decode cX10_position 121 = .ok (.bipush 53, 2) := by decide +kernel
theorem dX10_position_123 : decode cX10_position 123 = .ok (.iaload, 1) := by decide +kernel
theorem dX10_position_124 : decode cX10_position 124 = .ok (.iload_n 3, 1) := by decide +kernel
theorem dX10_position_125 : decode cX10_position 125 = .ok (.imul, 1) := by decide +kernel
theorem dX10_position_126 : decode cX10_position 126 = .ok (.iload 4, 2) := by decide +kernel
theorem dX10_position_128 : decode cX10_position 128 = .ok (.iinc 4 1, 3) := by decide +kernel
theorem dX10_position_131 : decode cX10_position 131 = .ok (.iadd, 1) := by decide +kernel
theorem dX10_position_132 : decode cX10_position 132 = .ok (.iload 5, 2) := by decide +kernel
theorem dX10_position_134 : decode cX10_position 134 = .ok (.iastore, 1) := by decide +kernel
theorem dX10_position_135 : decode cX10_position 135 = .ok (.iload 4, 2) := by decide +kernel
theorem dX10_position_137 : decode cX10_position 137 = .ok (.iload 6, 2) := by decide +kernel
theorem dX10_position_139 : decode cX10_position 139 = .ok (.iadd, 1) := by decide +kernel
theorem dX10_position_140 : decode cX10_position 140 = .ok (.istore 4, 2) := by decide +kernel
theorem dX10_position_142 : decode cX10_position 142 = .ok (.iinc 2 1, 3) := by decide +kernel
theorem dX10_position_145 : decode cX10_position 145 = .ok (.goto (-126), 3) := by decide +kernel
theorem dX10_position_148 : decode cX10_position 148 = .ok (.iload_n 3, 1) := by decide +kernel
theorem dX10_position_149 : decode cX10_position 149 = .ok (.ifCond .ne 17, 3) := by decide +kernel
theorem dX10_position_152 : decode cX10_position 152 = .ok (.iload_n 2, 1) := by decide +kernel
theorem dX10_position_153 : decode cX10_position 153 = .ok (.aload_n 0, 1) := by decide +kernel
theorem dX10_position_154 : decode cX10_position 154 = .ok (.getfield 85, 3) := by decide +kernel
theorem dX10_position_157 : decode cX10_position 157 = .ok (.if_icmp .ge 7, 3) := by decide +kernel
theorem dX10_position_160 : decode cX10_position 160 = .ok (.iload_n 2, 1) := by decide +kernel
theorem dX10_position_161 : decode cX10_position 161 = .ok (.goto 4, 3) := by decide +kernel
theorem dX10_position_164 : decode cX10_position 164 = .ok (.iconst (-1), 1) := by decide +kernel
theorem dX10_position_165 : decode cX10_position 165 = .ok (.ireturn, 1) := by decide +kernel
theorem dX10_position_166 : decode cX10_position 166 = .ok (.iload_n 2, 1) := by decide +kernel
theorem dX10_position_167 : decode cX10_position 167 = .ok (.aload_n 0, 1) := by decide +kernel
theorem dX10_position_168 : decode cX10_position 168 = .ok (.getfield 85, 3) := by decide +kernel
theorem dX10_position_171 : decode cX10_position 171 = .ok (.if_icmp .eq 14, 3) := by decide +kernel
theorem dX10_position_174 : decode cX10_position 174 = .ok (.aload_n 0, 1) := by decide +kernel
theorem dX10_position_175 : decode cX10_position 175 = .ok (.getfield 18, 3) := by decide +kernel
theorem dX10_position_178 : decode cX10_position 178 = .ok (.iload_n 2, 1) := by decide +kernel
theorem dX10_position_179 : decode cX10_position 179 = .ok (.iaload, 1) := by decide +kernel
theorem dX10_position_180 : decode cX10_position 180 = .ok (.bipush 47, 2) := by decide +kernel
theorem dX10_position_182 : decode cX10_position 182 = .ok (.if_icmp .eq 5, 3) := by decide +kernel
theorem dX10_position_185 : decode cX10_position 185 = .ok (.iload_n 2, 1) := by decide +kernel
theorem dX10_position_186 : decode cX10_position 186 = .ok (.ireturn, 1) := by decide +kernel
theorem dX10_position_187 : decode cX10_position 187 = .ok (.iinc 2 1, 3) := by decide +kernel
theorem dX10_position_190 : decode cX10_position 190 = .ok (.iinc 3 (-1), 3) := by decide +kernel
theorem dX10_position_193 : decode cX10_position 193 = .ok (.goto (-181), 3) := by decide +kernel
theorem dX10_position_196 : decode cX10_position 196 = .ok (.iconst (-1), 1) := by decide +kernel
theorem dX10_position_197 : decode cX10_position 197 = .ok (.ireturn, 1) := by decide +kernel
theorem dX10_men_0 : decode cX10_men 0 = .ok (.iconst 0, 1) := by decide +kernel
theorem dX10_men_1 : decode cX10_men 1 = .ok (.istore_n 1, 1) := by decide +kernel
theorem dX10_men_2 : decode cX10_men 2 = .ok (.iconst 0, 1) := by decide +kernel
theorem dX10_men_3 : decode cX10_men 3 = .ok (.istore_n 2, 1) := by decide +kernel
theorem dX10_men_4 : decode cX10_men 4 = .ok (.iload_n 2, 1) := by decide +kernel
theorem dX10_men_5 : decode cX10_men 5 = .ok (.aload_n 0, 1) := by decide +kernel
theorem dX10_men_6 : decode cX10_men 6 = .ok (.invokevirtual 65, 3) := by decide +kernel
theorem dX10_men_9 : decode cX10_men 9 = .ok (.if_icmp .ge 20, 3) := by decide +kernel
theorem dX10_men_12 : decode cX10_men 12 = .ok (.aload_n 0, 1) := by decide +kernel
theorem dX10_men_13 : decode cX10_men 13 = .ok (.iload_n 2, 1) := by decide +kernel
theorem dX10_men_14 : decode cX10_men 14 = .ok (.invokevirtual 69, 3) := by decide +kernel
theorem dX10_men_17 : decode cX10_men 17 = .ok (.ifCond .lt 6, 3) := by decide +kernel
theorem dX10_men_20 : decode cX10_men 20 = .ok (.iinc 1 1, 3) := by decide +kernel
theorem dX10_men_23 : decode cX10_men 23 = .ok (.iinc 2 1, 3) := by decide +kernel
theorem dX10_men_26 : decode cX10_men 26 = .ok (.goto (-22), 3) := by decide +kernel
theorem dX10_men_29 : decode cX10_men 29 = .ok (.iload_n 1, 1) := by decide +kernel
theorem dX10_men_30 : decode cX10_men 30 = .ok (.ireturn, 1) := by decide +kernel
theorem dX10_setup_0 : decode cX10_setup 0 = .ok (.bipush 36, 2) := by decide +kernel
theorem dX10_setup_2 : decode cX10_setup 2 = .ok (.newarray .int, 2) := by decide +kernel
theorem dX10_setup_4 : decode cX10_setup 4 = .ok (.astore_n 1, 1) := by decide +kernel
theorem dX10_setup_5 : decode cX10_setup 5 = .ok (.aload_n 0, 1) := by decide +kernel
theorem dX10_setup_6 : decode cX10_setup 6 = .ok (.aload_n 1, 1) := by decide +kernel
theorem dX10_setup_7 : decode cX10_setup 7 = .ok (.invokevirtual 142, 3) := by decide +kernel
theorem dX10_setup_10 : decode cX10_setup 10 = .ok (.istore_n 2, 1) := by decide +kernel
theorem dX10_setup_11 : decode cX10_setup 11 = .ok (.aload_n 0, 1) := by decide +kernel
theorem dX10_setup_12 : decode cX10_setup 12 = .ok (.iconst 0, 1) := by decide +kernel
theorem dX10_setup_13 : decode cX10_setup 13 = .ok (.putfield 85, 3) := by decide +kernel
theorem dX10_setup_16 : decode cX10_setup 16 = .ok (.iload_n 2, 1) := by decide +kernel
theorem dX10_setup_17 : decode cX10_setup 17 = .ok (.ifCond .lt 8, 3) := by decide +kernel
theorem dX10_setup_20 : decode cX10_setup 20 = .ok (.bipush (-100), 2) := by decide +kernel
theorem dX10_setup_22 : decode cX10_setup 22 = .ok (.iload_n 2, 1) := by decide +kernel
theorem dX10_setup_23 : decode cX10_setup 23 = .ok (.isub, 1) := by decide +kernel
theorem dX10_setup_24 : decode cX10_setup 24 = .ok (.ireturn, 1) := by decide +kernel
theorem dX10_setup_25 : decode cX10_setup 25 = .ok (.iconst 0, 1) := by decide +kernel
theorem dX10_setup_26 : decode cX10_setup 26 = .ok (.istore_n 3, 1) := by decide +kernel
theorem dX10_setup_27 : decode cX10_setup 27 = .ok (.iload_n 3, 1) := by decide +kernel
theorem dX10_setup_28 : decode cX10_setup 28 = .ok (.bipush 36, 2) := by decide +kernel
theorem dX10_setup_30 : decode cX10_setup 30 = .ok (.if_icmp .ge 20, 3) := by decide +kernel
theorem dX10_setup_33 : decode cX10_setup 33 = .ok (.aload_n 0, 1) := by decide +kernel
theorem dX10_setup_34 : decode cX10_setup 34 = .ok (.getfield 11, 3) := by decide +kernel
theorem dX10_setup_37 : decode cX10_setup 37 = .ok (.iconst 1, 1) := by decide +kernel
theorem dX10_setup_38 : decode cX10_setup 38 = .ok (.iload_n 3, 1) := by decide +kernel
theorem dX10_setup_39 : decode cX10_setup 39 = .ok (.iadd, 1) := by decide +kernel
theorem dX10_setup_40 : decode cX10_setup 40 = .ok (.aload_n 1, 1) := by decide +kernel
theorem dX10_setup_41 : decode cX10_setup 41 = .ok (.iload_n 3, 1) := by decide +kernel
theorem dX10_setup_42 : decode cX10_setup 42 = .ok (.iaload, 1) := by decide +kernel
theorem dX10_setup_43 : decode cX10_setup 43 = .ok (.iastore, 1) := by decide +kernel
theorem dX10_setup_44 : decode cX10_setup 44 = .ok (.iinc 3 1, 3) := by decide +kernel
theorem dX10_setup_47 : decode cX10_setup 47 = .ok (.goto (-20), 3) := by decide +kernel
theorem dX10_setup_50 : decode cX10_setup 50 = .ok (.iconst 0, 1) := by decide +kernel
theorem dX10_setup_51 : decode cX10_setup 51 = .ok (.istore_n 3, 1) := by decide +kernel
theorem dX10_setup_52 : decode cX10_setup 52 = .ok (.iload_n 3, 1) := by decide +kernel
theorem dX10_setup_53 : decode cX10_setup 53 = .ok (.bipush 12, 2) := by decide +kernel
theorem dX10_setup_55 : decode cX10_setup 55 = .ok (.if_icmp .ge 19, 3) := by decide +kernel
theorem dX10_setup_58 : decode cX10_setup 58 = .ok (.aload_n 0, 1) := by decide +kernel
theorem dX10_setup_59 : decode cX10_setup 59 = .ok (.getfield 11, 3) := by decide +kernel
theorem dX10_setup_62 : decode cX10_setup 62 = .ok (.bipush 37, 2) := by decide +kernel
theorem dX10_setup_64 : decode cX10_setup 64 = .ok (.iload_n 3, 1) := by decide +kernel
theorem dX10_setup_65 : decode cX10_setup 65 = .ok (.iadd, 1) := by decide +kernel
theorem dX10_setup_66 : decode cX10_setup 66 = .ok (.iconst 0, 1) := by decide +kernel
theorem dX10_setup_67 : decode cX10_setup 67 = .ok (.iastore, 1) := by decide +kernel
theorem dX10_setup_68 : decode cX10_setup 68 = .ok (.iinc 3 1, 3) := by decide +kernel
theorem dX10_setup_71 : decode cX10_setup 71 = .ok (.goto (-19), 3) := by decide +kernel
theorem dX10_setup_74 : decode cX10_setup 74 = .ok (.iconst 0, 1) := by decide +kernel
theorem dX10_setup_75 : decode cX10_setup 75 = .ok (.istore_n 3, 1) := by decide +kernel
theorem dX10_setup_76 : decode cX10_setup 76 = .ok (.iload_n 3, 1) := by decide +kernel
theorem dX10_setup_77 : decode cX10_setup 77 = .ok (.iconst 4, 1) := by decide +kernel
theorem dX10_setup_78 : decode cX10_setup 78 = .ok (.if_icmp .ge 27, 3) := by decide +kernel
theorem dX10_setup_81 : decode cX10_setup 81 = .ok (.aload_n 0, 1) := by decide +kernel
theorem dX10_setup_82 : decode cX10_setup 82 = .ok (.getfield 11, 3) := by decide +kernel
theorem dX10_setup_85 : decode cX10_setup 85 = .ok (.bipush 49, 2) := by decide +kernel
theorem dX10_setup_87 : decode cX10_setup 87 = .ok (.iload_n 3, 1) := by decide +kernel
theorem dX10_setup_88 : decode cX10_setup 88 = .ok (.iadd, 1) := by decide +kernel
theorem dX10_setup_89 : decode cX10_setup 89 = .ok (.aload_n 0, 1) := by decide +kernel
theorem dX10_setup_90 : decode cX10_setup 90 = .ok (.getfield 11, 3) := by decide +kernel
theorem dX10_setup_93 : decode cX10_setup 93 = .ok (.iload_n 3, 1) := by decide +kernel
theorem dX10_setup_94 : decode cX10_setup 94 = .ok (.invokestatic 72, 3) := by decide +kernel
theorem dX10_setup_97 : decode cX10_setup 97 = .ok (.iaload, 1) := by decide +kernel
theorem dX10_setup_98 : decode cX10_setup 98 = .ok (.iastore, 1) := by decide +kernel
theorem dX10_setup_99 : decode cX10_setup 99 = .ok (.iinc 3 1, 3) := by decide +kernel
theorem dX10_setup_102 : decode cX10_setup 102 = .ok (.goto (-26), 3) := by decide +kernel
theorem dX10_setup_105 : decode cX10_setup 105 = .ok (.aload_n 0, 1) := by decide +kernel
theorem dX10_setup_106 : decode cX10_setup 106 = .ok (.getfield 11, 3) := by decide +kernel
theorem dX10_setup_109 : decode cX10_setup 109 = .ok (.iconst 0, 1) := by decide +kernel
theorem dX10_setup_110 : decode cX10_setup 110 = .ok (.iconst 0, 1) := by decide +kernel
theorem dX10_setup_111 : decode cX10_setup 111 = .ok (.iastore, 1) := by decide +kernel
theorem dX10_setup_112 : decode cX10_setup 112 = .ok (.aload_n 0, 1) := by decide +kernel
theorem dX10_setup_113 : decode cX10_setup 113 = .ok (.invokevirtual 58, 3) := by decide +kernel
theorem dX10_setup_116 : decode cX10_setup 116 = .ok (.aload_n 0, 1) := by decide +kernel
theorem dX10_setup_117 : decode cX10_setup 117 = .ok (.invokevirtual 146, 3) := by decide +kernel
theorem dX10_setup_120 : decode cX10_setup 120 = .ok (.ireturn, 1) := by decide +kernel
theorem dX10_side_0 : decode cX10_side 0 = .ok (.iload_n 1, 1) := by decide +kernel
theorem dX10_side_1 : decode cX10_side 1 = .ok (.iconst 0, 1) := by decide +kernel
theorem dX10_side_2 : decode cX10_side 2 = .ok (.iconst 1, 1) := by decide +kernel
theorem dX10_side_3 : decode cX10_side 3 = .ok (.invokestatic 61, 3) := by decide +kernel
theorem dX10_side_6 : decode cX10_side 6 = .ok (.ifCond .eq 12, 3) := by decide +kernel
theorem dX10_side_9 : decode cX10_side 9 = .ok (.aload_n 0, 1) := by decide +kernel
theorem dX10_side_10 : decode cX10_side 10 = .ok (.iconst 0, 1) := by decide +kernel
theorem dX10_side_11 : decode cX10_side 11 = .ok (.iload_n 1, 1) := by decide +kernel
theorem dX10_side_12 : decode cX10_side 12 = .ok (.invokevirtual 133, 3) := by decide +kernel
theorem dX10_side_15 : decode cX10_side 15 = .ok (.goto 5, 3) := by decide +kernel
theorem dX10_side_18 : decode cX10_side 18 = .ok (.bipush (-2), 2) := by decide +kernel
theorem dX10_side_20 : decode cX10_side 20 = .ok (.ireturn, 1) := by decide +kernel
theorem dX10_hand_0 : decode cX10_hand 0 = .ok (.iload_n 1, 1) := by decide +kernel
theorem dX10_hand_1 : decode cX10_hand 1 = .ok (.iconst 0, 1) := by decide +kernel
theorem dX10_hand_2 : decode cX10_hand 2 = .ok (.iconst 1, 1) := by decide +kernel
theorem dX10_hand_3 : decode cX10_hand 3 = .ok (.invokestatic 61, 3) := by decide +kernel
theorem dX10_hand_6 : decode cX10_hand 6 = .ok (.ifCond .eq 10, 3) := by decide +kernel
theorem dX10_hand_9 : decode cX10_hand 9 = .ok (.iload_n 2, 1) := by decide +kernel
theorem dX10_hand_10 : decode cX10_hand 10 = .ok (.invokestatic 120, 3) := by decide +kernel
theorem dX10_hand_13 : decode cX10_hand 13 = .ok (.ifCond .ne 5, 3) := by decide +kernel
theorem dX10_hand_16 : decode cX10_hand 16 = .ok (.iconst (-1), 1) := by decide +kernel
theorem dX10_hand_17 : decode cX10_hand 17 = .ok (.ireturn, 1) := by decide +kernel
theorem dX10_hand_18 : decode cX10_hand 18 = .ok (.iload_n 3, 1) := by decide +kernel
theorem dX10_hand_19 : decode cX10_hand 19 = .ok (.iconst 0, 1) := by decide +kernel
theorem dX10_hand_20 : decode cX10_hand 20 = .ok (.bipush 9, 2) := by decide +kernel
theorem dX10_hand_22 : decode cX10_hand 22 = .ok (.invokestatic 61, 3) := by decide +kernel
theorem dX10_hand_25 : decode cX10_hand 25 = .ok (.ifCond .eq 20, 3) := by decide +kernel
theorem dX10_hand_28 : decode cX10_hand 28 = .ok (.aload_n 0, 1) := by decide +kernel
theorem dX10_hand_29 : decode cX10_hand 29 = .ok (.bipush 37, 2) := by decide +kernel
theorem dX10_hand_31 : decode cX10_hand 31 = .ok (.bipush 6, 2) := by decide +kernel
theorem dX10_hand_33 : decode cX10_hand 33 = .ok (.iload_n 1, 1) := by decide +kernel
theorem dX10_hand_34 : decode cX10_hand 34 = .ok (.imul, 1) := by decide +kernel
theorem dX10_hand_35 : decode cX10_hand 35 = .ok (.iadd, 1) := by decide +kernel
theorem dX10_hand_36 : decode cX10_hand 36 = .ok (.iload_n 2, 1) := by decide +kernel
theorem dX10_hand_37 : decode cX10_hand 37 = .ok (.iadd, 1) := by decide +kernel
theorem dX10_hand_38 : decode cX10_hand 38 = .ok (.iload_n 3, 1) := by decide +kernel
theorem dX10_hand_39 : decode cX10_hand 39 = .ok (.invokevirtual 133, 3) := by decide +kernel
theorem dX10_hand_42 : decode cX10_hand 42 = .ok (.goto 5, 3) := by decide +kernel
theorem dX10_hand_45 : decode cX10_hand 45 = .ok (.bipush (-2), 2) := by decide +kernel
theorem dX10_hand_47 : decode cX10_hand 47 = .ok (.ireturn, 1) := by decide +kernel
theorem dX10_castles_0 : decode cX10_castles 0 = .ok (.iconst 0, 1) := by decide +kernel
theorem dX10_castles_1 : decode cX10_castles 1 = .ok (.istore_n 2, 1) := by decide +kernel
theorem dX10_castles_2 : decode cX10_castles 2 = .ok (.iconst 0, 1) := by decide +kernel
theorem dX10_castles_3 : decode cX10_castles 3 = .ok (.istore_n 3, 1) := by decide +kernel
theorem dX10_castles_4 : decode cX10_castles 4 = .ok (.iload_n 3, 1) := by decide +kernel
theorem dX10_castles_5 : decode cX10_castles 5 = .ok (.iconst 4, 1) := by decide +kernel
theorem dX10_castles_6 : decode cX10_castles 6 = .ok (.if_icmp .ge 42, 3) := by decide +kernel
theorem dX10_castles_9 : decode cX10_castles 9 = .ok (.aload_n 0, 1) := by decide +kernel
theorem dX10_castles_10 : decode cX10_castles 10 = .ok (.getfield 11, 3) := by decide +kernel
theorem dX10_castles_13 : decode cX10_castles 13 = .ok (.iload_n 3, 1) := by decide +kernel
theorem dX10_castles_14 : decode cX10_castles 14 = .ok (.invokestatic 72, 3) := by decide +kernel
theorem dX10_castles_17 : decode cX10_castles 17 = .ok (.iaload, 1) := by decide +kernel
theorem dX10_castles_18 : decode cX10_castles 18 = .ok (.iconst 1, 1) := by decide +kernel
theorem dX10_castles_19 : decode cX10_castles 19 = .ok (.if_icmp .ne 23, 3) := by decide +kernel
theorem dX10_castles_22 : decode cX10_castles 22 = .ok (.iload_n 1, 1) := by decide +kernel
theorem dX10_castles_23 : decode cX10_castles 23 = .ok (.ifCond .eq 16, 3) := by decide +kernel
theorem dX10_castles_26 : decode cX10_castles 26 = .ok (.aload_n 0, 1) := by decide +kernel
theorem dX10_castles_27 : decode cX10_castles 27 = .ok (.getfield 11, 3) := by decide +kernel
theorem dX10_castles_30 : decode cX10_castles 30 = .ok (.bipush 49, 2) := by decide +kernel
theorem dX10_castles_32 : decode cX10_castles 32 = .ok (.iload_n 3, 1) := by decide +kernel
theorem dX10_castles_33 : decode cX10_castles 33 = .ok (.iadd, 1) := by decide +kernel
theorem dX10_castles_34 : decode cX10_castles 34 = .ok (.iaload, 1) := by decide +kernel
theorem dX10_castles_35 : decode cX10_castles 35 = .ok (.iconst 1, 1) := by decide +kernel
theorem dX10_castles_36 : decode cX10_castles 36 = .ok (.if_icmp .ne 6, 3) := by decide +kernel
theorem dX10_castles_39 : decode cX10_castles 39 = .ok (.iinc 2 1, 3) := by decide +kernel
theorem dX10_castles_42 : decode cX10_castles 42 = .ok (.iinc 3 1, 3) := by decide +kernel
theorem dX10_castles_45 : decode cX10_castles 45 = .ok (.goto (-41), 3) := by decide +kernel
theorem dX10_castles_48 : decode cX10_castles 48 = .ok (.iload_n 2, 1) := by decide +kernel
theorem dX10_castles_49 : decode cX10_castles 49 = .ok (.ireturn, 1) := by decide +kernel
theorem dX10_row_0 : decode cX10_row 0 = .ok (.iload_n 1, 1) := by decide +kernel
theorem dX10_row_1 : decode cX10_row 1 = .ok (.aload_n 0, 1) := by decide +kernel
theorem dX10_row_2 : decode cX10_row 2 = .ok (.getfield 11, 3) := by decide +kernel
theorem dX10_row_5 : decode cX10_row 5 = .ok (.bipush 53, 2) := by decide +kernel
theorem dX10_row_7 : decode cX10_row 7 = .ok (.iaload, 1) := by decide +kernel
theorem dX10_row_8 : decode cX10_row 8 = .ok (.idiv, 1) := by decide +kernel
theorem dX10_row_9 : decode cX10_row 9 = .ok (.ireturn, 1) := by decide +kernel
theorem dX10_castle_0 : decode cX10_castle 0 = .ok (.iload_n 1, 1) := by decide +kernel
theorem dX10_castle_1 : decode cX10_castle 1 = .ok (.iconst 0, 1) := by decide +kernel
theorem dX10_castle_2 : decode cX10_castle 2 = .ok (.iconst 3, 1) := by decide +kernel
theorem dX10_castle_3 : decode cX10_castle 3 = .ok (.invokestatic 61, 3) := by decide +kernel
theorem dX10_castle_6 : decode cX10_castle 6 = .ok (.ifCond .eq 47, 3) := by decide +kernel
theorem dX10_castle_9 : decode cX10_castle 9 = .ok (.iload_n 2, 1) := by decide +kernel
theorem dX10_castle_10 : decode cX10_castle 10 = .ok (.iconst 0, 1) := by decide +kernel
theorem dX10_castle_11 : decode cX10_castle 11 = .ok (.iconst 1, 1) := by decide +kernel
theorem dX10_castle_12 : decode cX10_castle 12 = .ok (.invokestatic 61, 3) := by decide +kernel
theorem dX10_castle_15 : decode cX10_castle 15 = .ok (.ifCond .eq 38, 3) := by decide +kernel
theorem dX10_castle_18 : decode cX10_castle 18 = .ok (.aload_n 0, 1) := by decide +kernel
theorem dX10_castle_19 : decode cX10_castle 19 = .ok (.iload_n 3, 1) := by decide +kernel
theorem dX10_castle_20 : decode cX10_castle 20 = .ok (.invokevirtual 149, 3) := by decide +kernel
theorem dX10_castle_23 : decode cX10_castle 23 = .ok (.ifCond .eq 30, 3) := by decide +kernel
theorem dX10_castle_26 : decode cX10_castle 26 = .ok (.aload_n 0, 1) := by decide +kernel
theorem dX10_castle_27 : decode cX10_castle 27 = .ok (.iload 4, 2) := by decide +kernel
theorem dX10_castle_29 : decode cX10_castle 29 = .ok (.invokevirtual 149, 3) := by decide +kernel
theorem dX10_castle_32 : decode cX10_castle 32 = .ok (.ifCond .eq 21, 3) := by decide +kernel
theorem dX10_castle_35 : decode cX10_castle 35 = .ok (.aload_n 0, 1) := by decide +kernel
theorem dX10_castle_36 : decode cX10_castle 36 = .ok (.iload 5, 2) := by decide +kernel
theorem dX10_castle_38 : decode cX10_castle 38 = .ok (.invokevirtual 149, 3) := by decide +kernel
theorem dX10_castle_41 : decode cX10_castle 41 = .ok (.ifCond .eq 12, 3) := by decide +kernel
theorem dX10_castle_44 : decode cX10_castle 44 = .ok (.aload_n 0, 1) := by decide +kernel
theorem dX10_castle_45 : decode cX10_castle 45 = .ok (.iload 6, 2) := by decide +kernel
theorem dX10_castle_47 : decode cX10_castle 47 = .ok (.invokevirtual 149, 3) := by decide +kernel
theorem dX10_castle_50 : decode cX10_castle 50 = .ok (.ifCond .ne 5, 3) := by decide +kernel
theorem dX10_castle_53 : decode cX10_castle 53 = .ok (.iconst (-1), 1) := by decide +kernel
theorem dX10_castle_54 : decode cX10_castle 54 = .ok (.ireturn, 1) := by decide +kernel
theorem dX10_castle_55 : decode cX10_castle 55 = .ok (.aload_n 0, 1) := by decide +kernel
theorem dX10_castle_56 : decode cX10_castle 56 = .ok (.iload_n 3, 1) := by decide +kernel
theorem dX10_castle_57 : decode cX10_castle 57 = .ok (.invokevirtual 152, 3) := by decide +kernel
theorem dX10_castle_60 : decode cX10_castle 60 = .ok (.aload_n 0, 1) := by decide +kernel
theorem dX10_castle_61 : decode cX10_castle 61 = .ok (.iload 4, 2) := by decide +kernel
theorem dX10_castle_63 : decode cX10_castle 63 = .ok (.invokevirtual 152, 3) := by decide +kernel
theorem dX10_castle_66 : decode cX10_castle 66 = .ok (.if_icmp .ne 44, 3) := by decide +kernel
theorem dX10_castle_69 : decode cX10_castle 69 = .ok (.aload_n 0, 1) := by decide +kernel
theorem dX10_castle_70 : decode cX10_castle 70 = .ok (.iload_n 3, 1) := by decide +kernel
theorem dX10_castle_71 : decode cX10_castle 71 = .ok (.invokevirtual 152, 3) := by decide +kernel
theorem dX10_castle_74 : decode cX10_castle 74 = .ok (.aload_n 0, 1) := by decide +kernel
theorem dX10_castle_75 : decode cX10_castle 75 = .ok (.iload 5, 2) := by decide +kernel
theorem dX10_castle_77 : decode cX10_castle 77 = .ok (.invokevirtual 152, 3) := by decide +kernel
theorem dX10_castle_80 : decode cX10_castle 80 = .ok (.if_icmp .ne 30, 3) := by decide +kernel
theorem dX10_castle_83 : decode cX10_castle 83 = .ok (.aload_n 0, 1) := by decide +kernel
theorem dX10_castle_84 : decode cX10_castle 84 = .ok (.iload_n 3, 1) := by decide +kernel
theorem dX10_castle_85 : decode cX10_castle 85 = .ok (.invokevirtual 152, 3) := by decide +kernel
theorem dX10_castle_88 : decode cX10_castle 88 = .ok (.aload_n 0, 1) := by decide +kernel
theorem dX10_castle_89 : decode cX10_castle 89 = .ok (.iload 6, 2) := by decide +kernel
theorem dX10_castle_91 : decode cX10_castle 91 = .ok (.invokevirtual 152, 3) := by decide +kernel
theorem dX10_castle_94 : decode cX10_castle 94 = .ok (.if_icmp .ne 16, 3) := by decide +kernel
theorem dX10_castle_97 : decode cX10_castle 97 = .ok (.iload_n 3, 1) := by decide +kernel
theorem dX10_castle_98 : decode cX10_castle 98 = .ok (.iload 5, 2) := by decide +kernel
theorem dX10_castle_100 : decode cX10_castle 100 = .ok (.if_icmp .eq 10, 3) := by decide +kernel
theorem dX10_castle_103 : decode cX10_castle 103 = .ok (.iload 4, 2) := by decide +kernel
theorem dX10_castle_105 : decode cX10_castle 105 = .ok (.iload 6, 2) := by decide +kernel
theorem dX10_castle_107 : decode cX10_castle 107 = .ok (.if_icmp .ne 6, 3) := by decide +kernel
theorem dX10_castle_110 : decode cX10_castle 110 = .ok (.bipush (-2), 2) := by decide +kernel
theorem dX10_castle_112 : decode cX10_castle 112 = .ok (.ireturn, 1) := by decide +kernel
theorem dX10_castle_113 : decode cX10_castle 113 = .ok (.iload_n 1, 1) := by decide +kernel
theorem dX10_castle_114 : decode cX10_castle 114 = .ok (.invokestatic 72, 3) := by decide +kernel
theorem dX10_castle_117 : decode cX10_castle 117 = .ok (.istore 7, 2) := by decide +kernel
theorem dX10_castle_119 : decode cX10_castle 119 = .ok (.aload_n 0, 1) := by decide +kernel
theorem dX10_castle_120 : decode cX10_castle 120 = .ok (.getfield 11, 3) := by decide +kernel
theorem dX10_castle_123 : decode cX10_castle 123 = .ok (.iload 7, 2) := by decide +kernel
theorem dX10_castle_125 : decode cX10_castle 125 = .ok (.iconst 1, 1) := by decide +kernel
theorem dX10_castle_126 : decode cX10_castle 126 = .ok (.iastore, 1) := by decide +kernel
theorem dX10_castle_127 : decode cX10_castle 127 = .ok (.aload_n 0, 1) := by decide +kernel
theorem dX10_castle_128 : decode cX10_castle 128 = .ok (.getfield 11, 3) := by decide +kernel
theorem dX10_castle_131 : decode cX10_castle 131 = .ok (.iload 7, 2) := by decide +kernel
theorem dX10_castle_133 : decode cX10_castle 133 = .ok (.iconst 1, 1) := by decide +kernel
theorem dX10_castle_134 : decode cX10_castle 134 = .ok (.iadd, 1) := by decide +kernel
theorem dX10_castle_135 : decode cX10_castle 135 = .ok (.iload_n 2, 1) := by decide +kernel
theorem dX10_castle_136 : decode cX10_castle 136 = .ok (.iastore, 1) := by decide +kernel
theorem dX10_castle_137 : decode cX10_castle 137 = .ok (.aload_n 0, 1) := by decide +kernel
theorem dX10_castle_138 : decode cX10_castle 138 = .ok (.getfield 11, 3) := by decide +kernel
theorem dX10_castle_141 : decode cX10_castle 141 = .ok (.iload 7, 2) := by decide +kernel
theorem dX10_castle_143 : decode cX10_castle 143 = .ok (.iconst 2, 1) := by decide +kernel
theorem dX10_castle_144 : decode cX10_castle 144 = .ok (.iadd, 1) := by decide +kernel
theorem dX10_castle_145 : decode cX10_castle 145 = .ok (.iload_n 3, 1) := by decide +kernel
theorem dX10_castle_146 : decode cX10_castle 146 = .ok (.iastore, 1) := by decide +kernel
theorem dX10_castle_147 : decode cX10_castle 147 = .ok (.aload_n 0, 1) := by decide +kernel
theorem dX10_castle_148 : decode cX10_castle 148 = .ok (.getfield 11, 3) := by decide +kernel
theorem dX10_castle_151 : decode cX10_castle 151 = .ok (.iload 7, 2) := by decide +kernel
theorem dX10_castle_153 : decode cX10_castle 153 = .ok (.iconst 3, 1) := by decide +kernel
theorem dX10_castle_154 : decode cX10_castle 154 = .ok (.iadd, 1) := by decide +kernel
theorem dX10_castle_155 : decode cX10_castle 155 = .ok (.iload 4, 2) := by decide +kernel
theorem dX10_castle_157 : decode cX10_castle 157 = .ok (.iastore, 1) := by decide +kernel
theorem dX10_castle_158 : decode cX10_castle 158 = .ok (.aload_n 0, 1) := by decide +kernel
theorem dX10_castle_159 : decode cX10_castle 159 = .ok (.getfield 11, 3) := by decide +kernel
theorem dX10_castle_162 : decode cX10_castle 162 = .ok (.iload 7, 2) := by decide +kernel
theorem dX10_castle_164 : decode cX10_castle 164 = .ok (.iconst 4, 1) := by decide +kernel
theorem dX10_castle_165 : decode cX10_castle 165 = .ok (.iadd, 1) := by decide +kernel
theorem dX10_castle_166 : decode cX10_castle 166 = .ok (.iload 5, 2) := by decide +kernel
theorem dX10_castle_168 : decode cX10_castle 168 = .ok (.iastore, 1) := by decide +kernel
theorem dX10_castle_169 : decode cX10_castle 169 = .ok (.aload_n 0, 1) := by decide +kernel
theorem dX10_castle_170 : decode cX10_castle 170 = .ok (.getfield 11, 3) := by decide +kernel
theorem dX10_castle_173 : decode cX10_castle 173 = .ok (.iload 7, 2) := by decide +kernel
theorem dX10_castle_175 : decode cX10_castle 175 = .ok (.iconst 5, 1) := by decide +kernel
theorem dX10_castle_176 : decode cX10_castle 176 = .ok (.iadd, 1) := by decide +kernel
theorem dX10_castle_177 : decode cX10_castle 177 = .ok (.iload 6, 2) := by decide +kernel
theorem dX10_castle_179 : decode cX10_castle 179 = .ok (.iastore, 1) := by decide +kernel
theorem dX10_castle_180 : decode cX10_castle 180 = .ok (.aload_n 0, 1) := by decide +kernel
theorem dX10_castle_181 : decode cX10_castle 181 = .ok (.getfield 11, 3) := by decide +kernel
theorem dX10_castle_184 : decode cX10_castle 184 = .ok (.bipush 49, 2) := by decide +kernel
theorem dX10_castle_186 : decode cX10_castle 186 = .ok (.iload_n 1, 1) := by decide +kernel
theorem dX10_castle_187 : decode cX10_castle 187 = .ok (.iadd, 1) := by decide +kernel
theorem dX10_castle_188 : decode cX10_castle 188 = .ok (.iconst 1, 1) := by decide +kernel
theorem dX10_castle_189 : decode cX10_castle 189 = .ok (.iastore, 1) := by decide +kernel
theorem dX10_castle_190 : decode cX10_castle 190 = .ok (.aload_n 0, 1) := by decide +kernel
theorem dX10_castle_191 : decode cX10_castle 191 = .ok (.invokevirtual 58, 3) := by decide +kernel
theorem dX10_castle_194 : decode cX10_castle 194 = .ok (.aload_n 0, 1) := by decide +kernel
theorem dX10_castle_195 : decode cX10_castle 195 = .ok (.iconst 0, 1) := by decide +kernel
theorem dX10_castle_196 : decode cX10_castle 196 = .ok (.invokevirtual 155, 3) := by decide +kernel
theorem dX10_castle_199 : decode cX10_castle 199 = .ok (.ireturn, 1) := by decide +kernel
theorem dX10_at_0 : decode cX10_at 0 = .ok (.aload_n 0, 1) := by decide +kernel
theorem dX10_at_1 : decode cX10_at 1 = .ok (.iload_n 1, 1) := by decide +kernel
theorem dX10_at_2 : decode cX10_at 2 = .ok (.invokevirtual 149, 3) := by decide +kernel
theorem dX10_at_5 : decode cX10_at 5 = .ok (.ifCond .ne 7, 3) := by decide +kernel
theorem dX10_at_8 : decode cX10_at 8 = .ok (.iconst (-1), 1) := by decide +kernel
theorem dX10_at_9 : decode cX10_at 9 = .ok (.goto 21, 3) := by decide +kernel
theorem dX10_at_12 : decode cX10_at 12 = .ok (.aload_n 0, 1) := by decide +kernel
theorem dX10_at_13 : decode cX10_at 13 = .ok (.iload_n 1, 1) := by decide +kernel
theorem dX10_at_14 : decode cX10_at 14 = .ok (.invokevirtual 69, 3) := by decide +kernel
theorem dX10_at_17 : decode cX10_at 17 = .ok (.ifCond .ge 8, 3) := by decide +kernel
theorem dX10_at_20 : decode cX10_at 20 = .ok (.bipush (-5), 2) := by decide +kernel
theorem dX10_at_22 : decode cX10_at 22 = .ok (.goto 8, 3) := by decide +kernel
theorem dX10_at_25 : decode cX10_at 25 = .ok (.aload_n 0, 1) := by decide +kernel
theorem dX10_at_26 : decode cX10_at 26 = .ok (.iload_n 1, 1) := by decide +kernel
theorem dX10_at_27 : decode cX10_at 27 = .ok (.invokevirtual 69, 3) := by decide +kernel
theorem dX10_at_30 : decode cX10_at 30 = .ok (.ireturn, 1) := by decide +kernel
theorem dX10_direction_0 : decode cX10_direction 0 = .ok (.iload_n 2, 1) := by decide +kernel
theorem dX10_direction_1 : decode cX10_direction 1 = .ok (.ifCond .ne 8, 3) := by decide +kernel
theorem dX10_direction_4 : decode cX10_direction 4 = .ok (.iload 4, 2) := by decide +kernel
theorem dX10_direction_6 : decode cX10_direction 6 = .ok (.goto 6, 3) := by decide +kernel
theorem dX10_direction_9 : decode cX10_direction 9 = .ok (.iload 4, 2) := by decide +kernel
theorem dX10_direction_11 : decode cX10_direction 11 = .ok (.ineg, 1) := by decide +kernel
theorem dX10_direction_12 : decode cX10_direction 12 = .ok (.istore 5, 2) := by decide +kernel
theorem dX10_direction_14 : decode cX10_direction 14 = .ok (.iload_n 1, 1) := by decide +kernel
theorem dX10_direction_15 : decode cX10_direction 15 = .ok (.bipush 28, 2) := by decide +kernel
theorem dX10_direction_17 : decode cX10_direction 17 = .ok (.iand, 1) := by decide +kernel
theorem dX10_direction_18 : decode cX10_direction 18 = .ok (.ifCond .eq 38, 3) := by decide +kernel
theorem dX10_direction_21 : decode cX10_direction 21 = .ok (.iload_n 1, 1) := by decide +kernel
theorem dX10_direction_22 : decode cX10_direction 22 = .ok (.iconst 4, 1) := by decide +kernel
theorem dX10_direction_23 : decode cX10_direction 23 = .ok (.iand, 1) := by decide +kernel
theorem dX10_direction_24 : decode cX10_direction 24 = .ok (.ifCond .eq 8, 3) := by decide +kernel
theorem dX10_direction_27 : decode cX10_direction 27 = .ok (.iload 5, 2) := by decide +kernel
theorem dX10_direction_29 : decode cX10_direction 29 = .ok (.ifCond .gt 27, 3) := by decide +kernel
theorem dX10_direction_32 : decode cX10_direction 32 = .ok (.iload_n 1, 1) := by decide +kernel
theorem dX10_direction_33 : decode cX10_direction 33 = .ok (.bipush 8, 2) := by decide +kernel
theorem dX10_direction_35 : decode cX10_direction 35 = .ok (.iand, 1) := by decide +kernel
theorem dX10_direction_36 : decode cX10_direction 36 = .ok (.ifCond .eq 8, 3) := by decide +kernel
theorem dX10_direction_39 : decode cX10_direction 39 = .ok (.iload 5, 2) := by decide +kernel
theorem dX10_direction_41 : decode cX10_direction 41 = .ok (.ifCond .lt 15, 3) := by decide +kernel
theorem dX10_direction_44 : decode cX10_direction 44 = .ok (.iload_n 1, 1) := by decide +kernel
theorem dX10_direction_45 : decode cX10_direction 45 = .ok (.bipush 16, 2) := by decide +kernel
theorem dX10_direction_47 : decode cX10_direction 47 = .ok (.iand, 1) := by decide +kernel
theorem dX10_direction_48 : decode cX10_direction 48 = .ok (.ifCond .eq 12, 3) := by decide +kernel
theorem dX10_direction_51 : decode cX10_direction 51 = .ok (.iload 4, 2) := by decide +kernel
theorem dX10_direction_53 : decode cX10_direction 53 = .ok (.ifCond .ne 7, 3) := by decide +kernel
theorem dX10_direction_56 : decode cX10_direction 56 = .ok (.iconst 1, 1) := by decide +kernel
theorem dX10_direction_57 : decode cX10_direction 57 = .ok (.goto 4, 3) := by decide +kernel
theorem dX10_direction_60 : decode cX10_direction 60 = .ok (.iconst 0, 1) := by decide +kernel
theorem dX10_direction_61 : decode cX10_direction 61 = .ok (.istore 6, 2) := by decide +kernel
theorem dX10_direction_63 : decode cX10_direction 63 = .ok (.iconst 0, 1) := by decide +kernel
theorem dX10_direction_64 : decode cX10_direction 64 = .ok (.istore 7, 2) := by decide +kernel
theorem dX10_direction_66 : decode cX10_direction 66 = .ok (.iload 7, 2) := by decide +kernel
theorem dX10_direction_68 : decode cX10_direction 68 = .ok (.aload_n 0, 1) := by decide +kernel
theorem dX10_direction_69 : decode cX10_direction 69 = .ok (.getfield 159, 3) := by decide +kernel
theorem dX10_direction_72 : decode cX10_direction 72 = .ok (.if_icmp .ge 35, 3) := by decide +kernel
theorem dX10_direction_75 : decode cX10_direction 75 = .ok (.aload_n 0, 1) := by decide +kernel
theorem dX10_direction_76 : decode cX10_direction 76 = .ok (.getfield 45, 3) := by decide +kernel
theorem dX10_direction_79 : decode cX10_direction 79 = .ok (.iload 7, 2) := by decide +kernel
theorem dX10_direction_81 : decode cX10_direction 81 = .ok (.iaload, 1) := by decide +kernel
theorem dX10_direction_82 : decode cX10_direction 82 = .ok (.iload_n 3, 1) := by decide +kernel
theorem dX10_direction_83 : decode cX10_direction 83 = .ok (.if_icmp .ne 18, 3) := by decide +kernel
theorem dX10_direction_86 : decode cX10_direction 86 = .ok (.aload_n 0, 1) := by decide +kernel
theorem dX10_direction_87 : decode cX10_direction 87 = .ok (.getfield 48, 3) := by decide +kernel
theorem dX10_direction_90 : decode cX10_direction 90 = .ok (.iload 7, 2) := by decide +kernel
theorem dX10_direction_92 : decode cX10_direction 92 = .ok (.iaload, 1) := by decide +kernel
theorem dX10_direction_93 : decode cX10_direction 93 = .ok (.iload 4, 2) := by decide +kernel
theorem dX10_direction_95 : decode cX10_direction 95 = .ok (.if_icmp .ne 6, 3) := by decide +kernel
theorem dX10_direction_98 : decode cX10_direction 98 = .ok (.iconst 0, 1) := by decide +kernel
theorem dX10_direction_99 : decode cX10_direction 99 = .ok (.istore 6, 2) := by decide +kernel
theorem dX10_direction_101 : decode cX10_direction 101 = .ok (.iinc 7 1, 3) := by decide +kernel
theorem dX10_direction_104 : decode cX10_direction 104 = .ok (.goto (-38), 3) := by decide +kernel
theorem dX10_direction_107 : decode cX10_direction 107 = .ok (.iload 6, 2) := by decide +kernel
theorem dX10_direction_109 : decode cX10_direction 109 = .ok (.ifCond .ne 4, 3) := by decide +kernel
theorem dX10_direction_112 : decode cX10_direction 112 = .ok (.return_, 1) := by decide +kernel
theorem dX10_direction_113 : decode cX10_direction 113 = .ok (.aload_n 0, 1) := by decide +kernel
theorem dX10_direction_114 : decode cX10_direction 114 = .ok (.getfield 45, 3) := by decide +kernel
theorem dX10_direction_117 : decode cX10_direction 117 = .ok (.aload_n 0, 1) := by decide +kernel
theorem dX10_direction_118 : decode cX10_direction 118 = .ok (.getfield 159, 3) := by decide +kernel
theorem dX10_direction_121 : decode cX10_direction 121 = .ok (.iload_n 3, 1) := by decide +kernel
theorem dX10_direction_122 : decode cX10_direction 122 = .ok (.iastore, 1) := by decide +kernel
theorem dX10_direction_123 : decode cX10_direction 123 = .ok (.aload_n 0, 1) := by decide +kernel
theorem dX10_direction_124 : decode cX10_direction 124 = .ok (.getfield 48, 3) := by decide +kernel
theorem dX10_direction_127 : decode cX10_direction 127 = .ok (.aload_n 0, 1) := by decide +kernel
theorem dX10_direction_128 : decode cX10_direction 128 = .ok (.dup, 1) := by decide +kernel
theorem dX10_direction_129 : decode cX10_direction 129 = .ok (.getfield 159, 3) := by decide +kernel
theorem dX10_direction_132 : decode cX10_direction 132 = .ok (.dup_x1, 1) := by decide +kernel
theorem dX10_direction_133 : decode cX10_direction 133 = .ok (.iconst 1, 1) := by decide +kernel
theorem dX10_direction_134 : decode cX10_direction 134 = .ok (.iadd, 1) := by decide +kernel
theorem dX10_direction_135 : decode cX10_direction 135 = .ok (.putfield 159, 3) := by decide +kernel
theorem dX10_direction_138 : decode cX10_direction 138 = .ok (.iload 4, 2) := by decide +kernel
theorem dX10_direction_140 : decode cX10_direction 140 = .ok (.iastore, 1) := by decide +kernel
theorem dX10_direction_141 : decode cX10_direction 141 = .ok (.return_, 1) := by decide +kernel
theorem dX10_steps_0 : decode cX10_steps 0 = .ok (.iconst 0, 1) := by decide +kernel
theorem dX10_steps_1 : decode cX10_steps 1 = .ok (.istore 5, 2) := by decide +kernel
theorem dX10_steps_3 : decode cX10_steps 3 = .ok (.iload 5, 2) := by decide +kernel
theorem dX10_steps_5 : decode cX10_steps 5 = .ok (.iconst 4, 1) := by decide +kernel
theorem dX10_steps_6 : decode cX10_steps 6 = .ok (.if_icmp .ge 60, 3) := by decide +kernel
theorem dX10_steps_9 : decode cX10_steps 9 = .ok (.iload 5, 2) := by decide +kernel
theorem dX10_steps_11 : decode cX10_steps 11 = .ok (.iconst 2, 1) := by decide +kernel
theorem dX10_steps_12 : decode cX10_steps 12 = .ok (.irem, 1) := by decide +kernel
theorem dX10_steps_13 : decode cX10_steps 13 = .ok (.ifCond .ne 7, 3) := by decide +kernel
theorem dX10_steps_16 : decode cX10_steps 16 = .ok (.iload_n 3, 1) := by decide +kernel
theorem dX10_steps_17 : decode cX10_steps 17 = .ok (.goto 5, 3) := by decide +kernel
theorem dX10_steps_20 : decode cX10_steps 20 = .ok (.iload_n 3, 1) := by decide +kernel
theorem dX10_steps_21 : decode cX10_steps 21 = .ok (.ineg, 1) := by decide +kernel
theorem dX10_steps_22 : decode cX10_steps 22 = .ok (.istore 6, 2) := by decide +kernel
theorem dX10_steps_24 : decode cX10_steps 24 = .ok (.iload 5, 2) := by decide +kernel
theorem dX10_steps_26 : decode cX10_steps 26 = .ok (.iconst 2, 1) := by decide +kernel
theorem dX10_steps_27 : decode cX10_steps 27 = .ok (.if_icmp .ge 8, 3) := by decide +kernel
theorem dX10_steps_30 : decode cX10_steps 30 = .ok (.iload 4, 2) := by decide +kernel
theorem dX10_steps_32 : decode cX10_steps 32 = .ok (.goto 6, 3) := by decide +kernel
theorem dX10_steps_35 : decode cX10_steps 35 = .ok (.iload 4, 2) := by decide +kernel
theorem dX10_steps_37 : decode cX10_steps 37 = .ok (.ineg, 1) := by decide +kernel
theorem dX10_steps_38 : decode cX10_steps 38 = .ok (.istore 7, 2) := by decide +kernel
theorem dX10_steps_40 : decode cX10_steps 40 = .ok (.aload_n 0, 1) := by decide +kernel
theorem dX10_steps_41 : decode cX10_steps 41 = .ok (.iload_n 1, 1) := by decide +kernel
theorem dX10_steps_42 : decode cX10_steps 42 = .ok (.iload_n 2, 1) := by decide +kernel
theorem dX10_steps_43 : decode cX10_steps 43 = .ok (.iload 6, 2) := by decide +kernel
theorem dX10_steps_45 : decode cX10_steps 45 = .ok (.iload 7, 2) := by decide +kernel
theorem dX10_steps_47 : decode cX10_steps 47 = .ok (.invokevirtual 162, 3) := by decide +kernel
theorem dX10_steps_50 : decode cX10_steps 50 = .ok (.aload_n 0, 1) := by decide +kernel
theorem dX10_steps_51 : decode cX10_steps 51 = .ok (.iload_n 1, 1) := by decide +kernel
theorem dX10_steps_52 : decode cX10_steps 52 = .ok (.iload_n 2, 1) := by decide +kernel
theorem dX10_steps_53 : decode cX10_steps 53 = .ok (.iload 7, 2) := by decide +kernel
theorem dX10_steps_55 : decode cX10_steps 55 = .ok (.iload 6, 2) := by decide +kernel
theorem dX10_steps_57 : decode cX10_steps 57 = .ok (.invokevirtual 162, 3) := by decide +kernel
theorem dX10_steps_60 : decode cX10_steps 60 = .ok (.iinc 5 1, 3) := by decide +kernel
theorem dX10_steps_63 : decode cX10_steps 63 = .ok (.goto (-60), 3) := by decide +kernel
theorem dX10_steps_66 : decode cX10_steps 66 = .ok (.return_, 1) := by decide +kernel
theorem dX10_directions_0 : decode cX10_directions 0 = .ok (.aload_n 0, 1) := by decide +kernel
theorem dX10_directions_1 : decode cX10_directions 1 = .ok (.iconst 0, 1) := by decide +kernel
theorem dX10_directions_2 : decode cX10_directions 2 = .ok (.putfield 159, 3) := by decide +kernel
theorem dX10_directions_5 : decode cX10_directions 5 = .ok (.aload_n 0, 1) := by decide +kernel
theorem dX10_directions_6 : decode cX10_directions 6 = .ok (.getfield 11, 3) := by decide +kernel
theorem dX10_directions_9 : decode cX10_directions 9 = .ok (.iload_n 1, 1) := by decide +kernel
theorem dX10_directions_10 : decode cX10_directions 10 = .ok (.iaload, 1) := by decide +kernel
theorem dX10_directions_11 : decode cX10_directions 11 = .ok (.istore_n 3, 1) := by decide +kernel
theorem dX10_directions_12 : decode cX10_directions 12 = .ok (.aload_n 0, 1) := by decide +kernel
theorem dX10_directions_13 : decode cX10_directions 13 = .ok (.getfield 11, 3) := by decide +kernel
theorem dX10_directions_16 : decode cX10_directions 16 = .ok (.iload_n 1, 1) := by decide +kernel
theorem dX10_directions_17 : decode cX10_directions 17 = .ok (.iconst 1, 1) := by decide +kernel
theorem dX10_directions_18 : decode cX10_directions 18 = .ok (.iadd, 1) := by decide +kernel
theorem dX10_directions_19 : decode cX10_directions 19 = .ok (.iaload, 1) := by decide +kernel
theorem dX10_directions_20 : decode cX10_directions 20 = .ok (.tableswitch 106 0 5 #[40, 51, 62, 73, 84, 95], 40) := by decide +kernel
theorem dX10_directions_60 : decode cX10_directions 60 = .ok (.aload_n 0, 1) := by decide +kernel
theorem dX10_directions_61 : decode cX10_directions 61 = .ok (.iload_n 3, 1) := by decide +kernel
theorem dX10_directions_62 : decode cX10_directions 62 = .ok (.iload_n 2, 1) := by decide +kernel
theorem dX10_directions_63 : decode cX10_directions 63 = .ok (.iconst 0, 1) := by decide +kernel
theorem dX10_directions_64 : decode cX10_directions 64 = .ok (.iconst 1, 1) := by decide +kernel
theorem dX10_directions_65 : decode cX10_directions 65 = .ok (.invokevirtual 166, 3) := by decide +kernel
theorem dX10_directions_68 : decode cX10_directions 68 = .ok (.goto 74, 3) := by decide +kernel
theorem dX10_directions_71 : decode cX10_directions 71 = .ok (.aload_n 0, 1) := by decide +kernel
theorem dX10_directions_72 : decode cX10_directions 72 = .ok (.iload_n 3, 1) := by decide +kernel
theorem dX10_directions_73 : decode cX10_directions 73 = .ok (.iload_n 2, 1) := by decide +kernel
theorem dX10_directions_74 : decode cX10_directions 74 = .ok (.iconst 1, 1) := by decide +kernel
theorem dX10_directions_75 : decode cX10_directions 75 = .ok (.iconst 1, 1) := by decide +kernel
theorem dX10_directions_76 : decode cX10_directions 76 = .ok (.invokevirtual 166, 3) := by decide +kernel
theorem dX10_directions_79 : decode cX10_directions 79 = .ok (.goto 63, 3) := by decide +kernel
theorem dX10_directions_82 : decode cX10_directions 82 = .ok (.aload_n 0, 1) := by decide +kernel
theorem dX10_directions_83 : decode cX10_directions 83 = .ok (.iload_n 3, 1) := by decide +kernel
theorem dX10_directions_84 : decode cX10_directions 84 = .ok (.iload_n 2, 1) := by decide +kernel
theorem dX10_directions_85 : decode cX10_directions 85 = .ok (.iconst 0, 1) := by decide +kernel
theorem dX10_directions_86 : decode cX10_directions 86 = .ok (.iconst 2, 1) := by decide +kernel
theorem dX10_directions_87 : decode cX10_directions 87 = .ok (.invokevirtual 166, 3) := by decide +kernel
theorem dX10_directions_90 : decode cX10_directions 90 = .ok (.goto 52, 3) := by decide +kernel
theorem dX10_directions_93 : decode cX10_directions 93 = .ok (.aload_n 0, 1) := by decide +kernel
theorem dX10_directions_94 : decode cX10_directions 94 = .ok (.iload_n 3, 1) := by decide +kernel
theorem dX10_directions_95 : decode cX10_directions 95 = .ok (.iload_n 2, 1) := by decide +kernel
theorem dX10_directions_96 : decode cX10_directions 96 = .ok (.iconst 1, 1) := by decide +kernel
theorem dX10_directions_97 : decode cX10_directions 97 = .ok (.iconst 2, 1) := by decide +kernel
theorem dX10_directions_98 : decode cX10_directions 98 = .ok (.invokevirtual 166, 3) := by decide +kernel
theorem dX10_directions_101 : decode cX10_directions 101 = .ok (.goto 41, 3) := by decide +kernel
theorem dX10_directions_104 : decode cX10_directions 104 = .ok (.aload_n 0, 1) := by decide +kernel
theorem dX10_directions_105 : decode cX10_directions 105 = .ok (.iload_n 3, 1) := by decide +kernel
theorem dX10_directions_106 : decode cX10_directions 106 = .ok (.iload_n 2, 1) := by decide +kernel
theorem dX10_directions_107 : decode cX10_directions 107 = .ok (.iconst 2, 1) := by decide +kernel
theorem dX10_directions_108 : decode cX10_directions 108 = .ok (.iconst 2, 1) := by decide +kernel
theorem dX10_directions_109 : decode cX10_directions 109 = .ok (.invokevirtual 166, 3) := by decide +kernel
theorem dX10_directions_112 : decode cX10_directions 112 = .ok (.goto 30, 3) := by decide +kernel
theorem dX10_directions_115 : decode cX10_directions 115 = .ok (.aload_n 0, 1) := by decide +kernel
theorem dX10_directions_116 : decode cX10_directions 116 = .ok (.iload_n 3, 1) := by decide +kernel
theorem dX10_directions_117 : decode cX10_directions 117 = .ok (.iload_n 2, 1) := by decide +kernel
theorem dX10_directions_118 : decode cX10_directions 118 = .ok (.iconst 1, 1) := by decide +kernel
theorem dX10_directions_119 : decode cX10_directions 119 = .ok (.iconst 3, 1) := by decide +kernel
theorem dX10_directions_120 : decode cX10_directions 120 = .ok (.invokevirtual 166, 3) := by decide +kernel
theorem dX10_directions_123 : decode cX10_directions 123 = .ok (.goto 19, 3) := by decide +kernel
theorem dX10_directions_126 : decode cX10_directions 126 = .ok (.aload_n 0, 1) := by decide +kernel
theorem dX10_directions_127 : decode cX10_directions 127 = .ok (.iload_n 3, 1) := by decide +kernel
theorem dX10_directions_128 : decode cX10_directions 128 = .ok (.iload_n 2, 1) := by decide +kernel
theorem dX10_directions_129 : decode cX10_directions 129 = .ok (.iconst 0, 1) := by decide +kernel
theorem dX10_directions_130 : decode cX10_directions 130 = .ok (.iconst 1, 1) := by decide +kernel
theorem dX10_directions_131 : decode cX10_directions 131 = .ok (.invokevirtual 166, 3) := by decide +kernel
theorem dX10_directions_134 : decode cX10_directions 134 = .ok (.aload_n 0, 1) := by decide +kernel
theorem dX10_directions_135 : decode cX10_directions 135 = .ok (.iload_n 3, 1) := by decide +kernel
theorem dX10_directions_136 : decode cX10_directions 136 = .ok (.iload_n 2, 1) := by decide +kernel
theorem dX10_directions_137 : decode cX10_directions 137 = .ok (.iconst 1, 1) := by decide +kernel
theorem dX10_directions_138 : decode cX10_directions 138 = .ok (.iconst 1, 1) := by decide +kernel
theorem dX10_directions_139 : decode cX10_directions 139 = .ok (.invokevirtual 166, 3) := by decide +kernel
theorem dX10_directions_142 : decode cX10_directions 142 = .ok (.return_, 1) := by decide +kernel
