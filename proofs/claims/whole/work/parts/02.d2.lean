theorem dX5_addDrops_0 : decode cX5_addDrops 0 = .ok (.aload_n 0, 1) := by decide +kernel
theorem dX5_addDrops_1 : decode cX5_addDrops 1 = .ok (.getfield 9, 3) := by decide +kernel
theorem dX5_addDrops_4 : decode cX5_addDrops 4 = .ok (.iload_n 2, 1) := by decide +kernel
theorem dX5_addDrops_5 : decode cX5_addDrops 5 = .ok (.invokevirtual 145, 3) := by decide +kernel
theorem dX5_addDrops_8 : decode cX5_addDrops 8 = .ok (.ifCond .lt 7, 3) := by decide +kernel
theorem dX5_addDrops_11 : decode cX5_addDrops 11 = .ok (.iconst 1, 1) := by decide +kernel
theorem dX5_addDrops_12 : decode cX5_addDrops 12 = .ok (.goto 4, 3) := by decide +kernel
theorem dX5_addDrops_15 : decode cX5_addDrops 15 = .ok (.iconst 0, 1) := by decide +kernel
theorem dX5_addDrops_16 : decode cX5_addDrops 16 = .ok (.istore 4, 2) := by decide +kernel
theorem dX5_addDrops_18 : decode cX5_addDrops 18 = .ok (.iconst 0, 1) := by decide +kernel
theorem dX5_addDrops_19 : decode cX5_addDrops 19 = .ok (.istore 5, 2) := by decide +kernel
theorem dX5_addDrops_21 : decode cX5_addDrops 21 = .ok (.iload 5, 2) := by decide +kernel
theorem dX5_addDrops_23 : decode cX5_addDrops 23 = .ok (.aload_n 1, 1) := by decide +kernel
theorem dX5_addDrops_24 : decode cX5_addDrops 24 = .ok (.invokevirtual 95, 3) := by decide +kernel
theorem dX5_addDrops_27 : decode cX5_addDrops 27 = .ok (.if_icmp .ge 55, 3) := by decide +kernel
theorem dX5_addDrops_30 : decode cX5_addDrops 30 = .ok (.aload_n 1, 1) := by decide +kernel
theorem dX5_addDrops_31 : decode cX5_addDrops 31 = .ok (.getfield 15, 3) := by decide +kernel
theorem dX5_addDrops_34 : decode cX5_addDrops 34 = .ok (.aload_n 1, 1) := by decide +kernel
theorem dX5_addDrops_35 : decode cX5_addDrops 35 = .ok (.getfield 21, 3) := by decide +kernel
theorem dX5_addDrops_38 : decode cX5_addDrops 38 = .ok (.lor, 1) := by decide +kernel
theorem dX5_addDrops_39 : decode cX5_addDrops 39 = .ok (.iload 5, 2) := by decide +kernel
theorem dX5_addDrops_41 : decode cX5_addDrops 41 = .ok (.invokestatic 99, 3) := by decide +kernel
theorem dX5_addDrops_44 : decode cX5_addDrops 44 = .ok (.ifCond .ne 32, 3) := by decide +kernel
theorem dX5_addDrops_47 : decode cX5_addDrops 47 = .ok (.iload 4, 2) := by decide +kernel
theorem dX5_addDrops_49 : decode cX5_addDrops 49 = .ok (.ifCond .eq 16, 3) := by decide +kernel
theorem dX5_addDrops_52 : decode cX5_addDrops 52 = .ok (.aload_n 1, 1) := by decide +kernel
theorem dX5_addDrops_53 : decode cX5_addDrops 53 = .ok (.aload_n 1, 1) := by decide +kernel
theorem dX5_addDrops_54 : decode cX5_addDrops 54 = .ok (.getfield 131, 3) := by decide +kernel
theorem dX5_addDrops_57 : decode cX5_addDrops 57 = .ok (.iload 5, 2) := by decide +kernel
theorem dX5_addDrops_59 : decode cX5_addDrops 59 = .ok (.invokevirtual 151, 3) := by decide +kernel
theorem dX5_addDrops_62 : decode cX5_addDrops 62 = .ok (.ifCond .ne 14, 3) := by decide +kernel
theorem dX5_addDrops_65 : decode cX5_addDrops 65 = .ok (.aload_n 3, 1) := by decide +kernel
theorem dX5_addDrops_66 : decode cX5_addDrops 66 = .ok (.iconst 2, 1) := by decide +kernel
theorem dX5_addDrops_67 : decode cX5_addDrops 67 = .ok (.iload_n 2, 1) := by decide +kernel
theorem dX5_addDrops_68 : decode cX5_addDrops 68 = .ok (.iload 5, 2) := by decide +kernel
theorem dX5_addDrops_70 : decode cX5_addDrops 70 = .ok (.invokestatic 221, 3) := by decide +kernel
theorem dX5_addDrops_73 : decode cX5_addDrops 73 = .ok (.invokevirtual 225, 3) := by decide +kernel
theorem dX5_addDrops_76 : decode cX5_addDrops 76 = .ok (.iinc 5 1, 3) := by decide +kernel
theorem dX5_addDrops_79 : decode cX5_addDrops 79 = .ok (.goto (-58), 3) := by decide +kernel
theorem dX5_addDrops_82 : decode cX5_addDrops 82 = .ok (.return_, 1) := by decide +kernel
theorem dX5_isPossible_0 : decode cX5_isPossible 0 = .ok (.aload_n 0, 1) := by decide +kernel
theorem dX5_isPossible_1 : decode cX5_isPossible 1 = .ok (.getfield 9, 3) := by decide +kernel
theorem dX5_isPossible_4 : decode cX5_isPossible 4 = .ok (.getfield 235, 3) := by decide +kernel
theorem dX5_isPossible_7 : decode cX5_isPossible 7 = .ok (.iload_n 2, 1) := by decide +kernel
theorem dX5_isPossible_8 : decode cX5_isPossible 8 = .ok (.invokestatic 56, 3) := by decide +kernel
theorem dX5_isPossible_11 : decode cX5_isPossible 11 = .ok (.aload_n 1, 1) := by decide +kernel
theorem dX5_isPossible_12 : decode cX5_isPossible 12 = .ok (.getfield 131, 3) := by decide +kernel
theorem dX5_isPossible_15 : decode cX5_isPossible 15 = .ok (.if_icmp .ne 14, 3) := by decide +kernel
theorem dX5_isPossible_18 : decode cX5_isPossible 18 = .ok (.aload_n 1, 1) := by decide +kernel
theorem dX5_isPossible_19 : decode cX5_isPossible 19 = .ok (.getfield 155, 3) := by decide +kernel
theorem dX5_isPossible_22 : decode cX5_isPossible 22 = .ok (.iload_n 2, 1) := by decide +kernel
theorem dX5_isPossible_23 : decode cX5_isPossible 23 = .ok (.ishr, 1) := by decide +kernel
theorem dX5_isPossible_24 : decode cX5_isPossible 24 = .ok (.iconst 1, 1) := by decide +kernel
theorem dX5_isPossible_25 : decode cX5_isPossible 25 = .ok (.iand, 1) := by decide +kernel
theorem dX5_isPossible_26 : decode cX5_isPossible 26 = .ok (.ifCond .ne 5, 3) := by decide +kernel
theorem dX5_isPossible_29 : decode cX5_isPossible 29 = .ok (.iconst 0, 1) := by decide +kernel
theorem dX5_isPossible_30 : decode cX5_isPossible 30 = .ok (.ireturn, 1) := by decide +kernel
theorem dX5_isPossible_31 : decode cX5_isPossible 31 = .ok (.aload_n 0, 1) := by decide +kernel
theorem dX5_isPossible_32 : decode cX5_isPossible 32 = .ok (.getfield 9, 3) := by decide +kernel
theorem dX5_isPossible_35 : decode cX5_isPossible 35 = .ok (.iload_n 2, 1) := by decide +kernel
theorem dX5_isPossible_36 : decode cX5_isPossible 36 = .ok (.iconst 0, 1) := by decide +kernel
theorem dX5_isPossible_37 : decode cX5_isPossible 37 = .ok (.invokevirtual 127, 3) := by decide +kernel
theorem dX5_isPossible_40 : decode cX5_isPossible 40 = .ok (.istore_n 3, 1) := by decide +kernel
theorem dX5_isPossible_41 : decode cX5_isPossible 41 = .ok (.aload_n 0, 1) := by decide +kernel
theorem dX5_isPossible_42 : decode cX5_isPossible 42 = .ok (.getfield 9, 3) := by decide +kernel
theorem dX5_isPossible_45 : decode cX5_isPossible 45 = .ok (.iload_n 2, 1) := by decide +kernel
theorem dX5_isPossible_46 : decode cX5_isPossible 46 = .ok (.iconst 1, 1) := by decide +kernel
theorem dX5_isPossible_47 : decode cX5_isPossible 47 = .ok (.invokevirtual 127, 3) := by decide +kernel
theorem dX5_isPossible_50 : decode cX5_isPossible 50 = .ok (.istore 4, 2) := by decide +kernel
theorem dX5_isPossible_52 : decode cX5_isPossible 52 = .ok (.aload_n 0, 1) := by decide +kernel
theorem dX5_isPossible_53 : decode cX5_isPossible 53 = .ok (.getfield 9, 3) := by decide +kernel
theorem dX5_isPossible_56 : decode cX5_isPossible 56 = .ok (.iload_n 2, 1) := by decide +kernel
theorem dX5_isPossible_57 : decode cX5_isPossible 57 = .ok (.iconst 2, 1) := by decide +kernel
theorem dX5_isPossible_58 : decode cX5_isPossible 58 = .ok (.invokevirtual 127, 3) := by decide +kernel
theorem dX5_isPossible_61 : decode cX5_isPossible 61 = .ok (.istore 5, 2) := by decide +kernel
theorem dX5_isPossible_63 : decode cX5_isPossible 63 = .ok (.aload_n 0, 1) := by decide +kernel
theorem dX5_isPossible_64 : decode cX5_isPossible 64 = .ok (.getfield 9, 3) := by decide +kernel
theorem dX5_isPossible_67 : decode cX5_isPossible 67 = .ok (.iload_n 2, 1) := by decide +kernel
theorem dX5_isPossible_68 : decode cX5_isPossible 68 = .ok (.iconst 3, 1) := by decide +kernel
theorem dX5_isPossible_69 : decode cX5_isPossible 69 = .ok (.invokevirtual 127, 3) := by decide +kernel
theorem dX5_isPossible_72 : decode cX5_isPossible 72 = .ok (.istore 6, 2) := by decide +kernel
theorem dX5_isPossible_74 : decode cX5_isPossible 74 = .ok (.aload_n 1, 1) := by decide +kernel
theorem dX5_isPossible_75 : decode cX5_isPossible 75 = .ok (.aload_n 1, 1) := by decide +kernel
theorem dX5_isPossible_76 : decode cX5_isPossible 76 = .ok (.getfield 131, 3) := by decide +kernel
theorem dX5_isPossible_79 : decode cX5_isPossible 79 = .ok (.invokevirtual 33, 3) := by decide +kernel
theorem dX5_isPossible_82 : decode cX5_isPossible 82 = .ok (.lstore 7, 2) := by decide +kernel
theorem dX5_isPossible_84 : decode cX5_isPossible 84 = .ok (.lload 7, 2) := by decide +kernel
theorem dX5_isPossible_86 : decode cX5_isPossible 86 = .ok (.iload_n 3, 1) := by decide +kernel
theorem dX5_isPossible_87 : decode cX5_isPossible 87 = .ok (.invokestatic 99, 3) := by decide +kernel
theorem dX5_isPossible_90 : decode cX5_isPossible 90 = .ok (.ifCond .eq 31, 3) := by decide +kernel
theorem dX5_isPossible_93 : decode cX5_isPossible 93 = .ok (.lload 7, 2) := by decide +kernel
theorem dX5_isPossible_95 : decode cX5_isPossible 95 = .ok (.iload 5, 2) := by decide +kernel
theorem dX5_isPossible_97 : decode cX5_isPossible 97 = .ok (.invokestatic 99, 3) := by decide +kernel
theorem dX5_isPossible_100 : decode cX5_isPossible 100 = .ok (.ifCond .eq 21, 3) := by decide +kernel
theorem dX5_isPossible_103 : decode cX5_isPossible 103 = .ok (.aload_n 0, 1) := by decide +kernel
theorem dX5_isPossible_104 : decode cX5_isPossible 104 = .ok (.getfield 9, 3) := by decide +kernel
theorem dX5_isPossible_107 : decode cX5_isPossible 107 = .ok (.aload_n 1, 1) := by decide +kernel
theorem dX5_isPossible_108 : decode cX5_isPossible 108 = .ok (.iload_n 3, 1) := by decide +kernel
theorem dX5_isPossible_109 : decode cX5_isPossible 109 = .ok (.invokevirtual 26, 3) := by decide +kernel
theorem dX5_isPossible_112 : decode cX5_isPossible 112 = .ok (.invokestatic 47, 3) := by decide +kernel
theorem dX5_isPossible_115 : decode cX5_isPossible 115 = .ok (.invokevirtual 103, 3) := by decide +kernel
theorem dX5_isPossible_118 : decode cX5_isPossible 118 = .ok (.ifCond .ne 5, 3) := by decide +kernel
theorem dX5_isPossible_121 : decode cX5_isPossible 121 = .ok (.iconst 0, 1) := by decide +kernel
theorem dX5_isPossible_122 : decode cX5_isPossible 122 = .ok (.ireturn, 1) := by decide +kernel
theorem dX5_isPossible_123 : decode cX5_isPossible 123 = .ok (.aload_n 1, 1) := by decide +kernel
theorem dX5_isPossible_124 : decode cX5_isPossible 124 = .ok (.getfield 15, 3) := by decide +kernel
theorem dX5_isPossible_127 : decode cX5_isPossible 127 = .ok (.aload_n 1, 1) := by decide +kernel
theorem dX5_isPossible_128 : decode cX5_isPossible 128 = .ok (.getfield 21, 3) := by decide +kernel
theorem dX5_isPossible_131 : decode cX5_isPossible 131 = .ok (.lor, 1) := by decide +kernel
theorem dX5_isPossible_132 : decode cX5_isPossible 132 = .ok (.lconst 1, 1) := by decide +kernel
theorem dX5_isPossible_133 : decode cX5_isPossible 133 = .ok (.iload_n 3, 1) := by decide +kernel
theorem dX5_isPossible_134 : decode cX5_isPossible 134 = .ok (.lshl, 1) := by decide +kernel
theorem dX5_isPossible_135 : decode cX5_isPossible 135 = .ok (.lconst 1, 1) := by decide +kernel
theorem dX5_isPossible_136 : decode cX5_isPossible 136 = .ok (.iload 5, 2) := by decide +kernel
theorem dX5_isPossible_138 : decode cX5_isPossible 138 = .ok (.lshl, 1) := by decide +kernel
theorem dX5_isPossible_139 : decode cX5_isPossible 139 = .ok (.lor, 1) := by decide +kernel
theorem dX5_isPossible_140 : decode cX5_isPossible 140 = .ok (.ldc2_w 24, 3) := by decide +kernel
theorem dX5_isPossible_143 : decode cX5_isPossible 143 = .ok (.lxor, 1) := by decide +kernel
theorem dX5_isPossible_144 : decode cX5_isPossible 144 = .ok (.land, 1) := by decide +kernel
theorem dX5_isPossible_145 : decode cX5_isPossible 145 = .ok (.lstore 9, 2) := by decide +kernel
theorem dX5_isPossible_147 : decode cX5_isPossible 147 = .ok (.lload 9, 2) := by decide +kernel
theorem dX5_isPossible_149 : decode cX5_isPossible 149 = .ok (.iload_n 3, 1) := by decide +kernel
theorem dX5_isPossible_150 : decode cX5_isPossible 150 = .ok (.iload 5, 2) := by decide +kernel
theorem dX5_isPossible_152 : decode cX5_isPossible 152 = .ok (.invokestatic 238, 3) := by decide +kernel
theorem dX5_isPossible_155 : decode cX5_isPossible 155 = .ok (.land, 1) := by decide +kernel
theorem dX5_isPossible_156 : decode cX5_isPossible 156 = .ok (.lconst 0, 1) := by decide +kernel
theorem dX5_isPossible_157 : decode cX5_isPossible 157 = .ok (.lcmp, 1) := by decide +kernel
theorem dX5_isPossible_158 : decode cX5_isPossible 158 = .ok (.ifCond .ne 23, 3) := by decide +kernel
theorem dX5_isPossible_161 : decode cX5_isPossible 161 = .ok (.lload 9, 2) := by decide +kernel
theorem dX5_isPossible_163 : decode cX5_isPossible 163 = .ok (.iload 4, 2) := by decide +kernel
theorem dX5_isPossible_165 : decode cX5_isPossible 165 = .ok (.invokestatic 99, 3) := by decide +kernel
theorem dX5_isPossible_168 : decode cX5_isPossible 168 = .ok (.ifCond .ne 13, 3) := by decide +kernel
theorem dX5_isPossible_171 : decode cX5_isPossible 171 = .ok (.lload 9, 2) := by decide +kernel
theorem dX5_isPossible_173 : decode cX5_isPossible 173 = .ok (.iload 6, 2) := by decide +kernel
theorem dX5_isPossible_175 : decode cX5_isPossible 175 = .ok (.invokestatic 99, 3) := by decide +kernel
theorem dX5_isPossible_178 : decode cX5_isPossible 178 = .ok (.ifCond .eq 5, 3) := by decide +kernel
theorem dX5_isPossible_181 : decode cX5_isPossible 181 = .ok (.iconst 0, 1) := by decide +kernel
theorem dX5_isPossible_182 : decode cX5_isPossible 182 = .ok (.ireturn, 1) := by decide +kernel
theorem dX5_isPossible_183 : decode cX5_isPossible 183 = .ok (.aload_n 0, 1) := by decide +kernel
theorem dX5_isPossible_184 : decode cX5_isPossible 184 = .ok (.aload_n 1, 1) := by decide +kernel
theorem dX5_isPossible_185 : decode cX5_isPossible 185 = .ok (.iconst 1, 1) := by decide +kernel
theorem dX5_isPossible_186 : decode cX5_isPossible 186 = .ok (.aload_n 1, 1) := by decide +kernel
theorem dX5_isPossible_187 : decode cX5_isPossible 187 = .ok (.getfield 131, 3) := by decide +kernel
theorem dX5_isPossible_190 : decode cX5_isPossible 190 = .ok (.isub, 1) := by decide +kernel
theorem dX5_isPossible_191 : decode cX5_isPossible 191 = .ok (.invokevirtual 114, 3) := by decide +kernel
theorem dX5_isPossible_194 : decode cX5_isPossible 194 = .ok (.iload_n 3, 1) := by decide +kernel
theorem dX5_isPossible_195 : decode cX5_isPossible 195 = .ok (.iload 4, 2) := by decide +kernel
theorem dX5_isPossible_197 : decode cX5_isPossible 197 = .ok (.invokestatic 238, 3) := by decide +kernel
theorem dX5_isPossible_200 : decode cX5_isPossible 200 = .ok (.land, 1) := by decide +kernel
theorem dX5_isPossible_201 : decode cX5_isPossible 201 = .ok (.lconst 0, 1) := by decide +kernel
theorem dX5_isPossible_202 : decode cX5_isPossible 202 = .ok (.lcmp, 1) := by decide +kernel
theorem dX5_isPossible_203 : decode cX5_isPossible 203 = .ok (.ifCond .ne 7, 3) := by decide +kernel
theorem dX5_isPossible_206 : decode cX5_isPossible 206 = .ok (.iconst 1, 1) := by decide +kernel
theorem dX5_isPossible_207 : decode cX5_isPossible 207 = .ok (.goto 4, 3) := by decide +kernel
theorem dX5_isPossible_210 : decode cX5_isPossible 210 = .ok (.iconst 0, 1) := by decide +kernel
theorem dX5_isPossible_211 : decode cX5_isPossible 211 = .ok (.ireturn, 1) := by decide +kernel
theorem dX5_span_0 : decode cX5_span 0 = .ok (.lconst 0, 1) := by decide +kernel
theorem dX5_span_1 : decode cX5_span 1 = .ok (.lstore_n 2, 1) := by decide +kernel
theorem dX5_span_2 : decode cX5_span 2 = .ok (.iload_n 0, 1) := by decide +kernel
theorem dX5_span_3 : decode cX5_span 3 = .ok (.iload_n 1, 1) := by decide +kernel
theorem dX5_span_4 : decode cX5_span 4 = .ok (.invokestatic 242, 3) := by decide +kernel
theorem dX5_span_7 : decode cX5_span 7 = .ok (.istore 4, 2) := by decide +kernel
theorem dX5_span_9 : decode cX5_span 9 = .ok (.iload 4, 2) := by decide +kernel
theorem dX5_span_11 : decode cX5_span 11 = .ok (.iload_n 0, 1) := by decide +kernel
theorem dX5_span_12 : decode cX5_span 12 = .ok (.iload_n 1, 1) := by decide +kernel
theorem dX5_span_13 : decode cX5_span 13 = .ok (.invokestatic 247, 3) := by decide +kernel
theorem dX5_span_16 : decode cX5_span 16 = .ok (.if_icmp .gt 16, 3) := by decide +kernel
theorem dX5_span_19 : decode cX5_span 19 = .ok (.lload_n 2, 1) := by decide +kernel
theorem dX5_span_20 : decode cX5_span 20 = .ok (.lconst 1, 1) := by decide +kernel
theorem dX5_span_21 : decode cX5_span 21 = .ok (.iload 4, 2) := by decide +kernel
theorem dX5_span_23 : decode cX5_span 23 = .ok (.lshl, 1) := by decide +kernel
theorem dX5_span_24 : decode cX5_span 24 = .ok (.lor, 1) := by decide +kernel
theorem dX5_span_25 : decode cX5_span 25 = .ok (.lstore_n 2, 1) := by decide +kernel
theorem dX5_span_26 : decode cX5_span 26 = .ok (.iinc 4 1, 3) := by decide +kernel
theorem dX5_span_29 : decode cX5_span 29 = .ok (.goto (-20), 3) := by decide +kernel
theorem dX5_span_32 : decode cX5_span 32 = .ok (.lload_n 2, 1) := by decide +kernel
theorem dX5_span_33 : decode cX5_span 33 = .ok (.lreturn, 1) := by decide +kernel
theorem dX6_init_0 : decode cX6_init 0 = .ok (.aload_n 0, 1) := by decide +kernel
theorem dX6_init_1 : decode cX6_init 1 = .ok (.invokespecial 3, 3) := by decide +kernel
theorem dX6_init_4 : decode cX6_init 4 = .ok (.aload_n 0, 1) := by decide +kernel
theorem dX6_init_5 : decode cX6_init 5 = .ok (.bipush 36, 2) := by decide +kernel
theorem dX6_init_7 : decode cX6_init 7 = .ok (.newarray .int, 2) := by decide +kernel
theorem dX6_init_9 : decode cX6_init 9 = .ok (.putfield 9, 3) := by decide +kernel
theorem dX6_init_12 : decode cX6_init 12 = .ok (.aload_n 0, 1) := by decide +kernel
theorem dX6_init_13 : decode cX6_init 13 = .ok (.bipush 12, 2) := by decide +kernel
theorem dX6_init_15 : decode cX6_init 15 = .ok (.newarray .int, 2) := by decide +kernel
theorem dX6_init_17 : decode cX6_init 17 = .ok (.putfield 15, 3) := by decide +kernel
theorem dX6_init_20 : decode cX6_init 20 = .ok (.aload_n 0, 1) := by decide +kernel
theorem dX6_init_21 : decode cX6_init 21 = .ok (.iconst 5, 1) := by decide +kernel
theorem dX6_init_22 : decode cX6_init 22 = .ok (.putfield 18, 3) := by decide +kernel
theorem dX6_init_25 : decode cX6_init 25 = .ok (.aload_n 0, 1) := by decide +kernel
theorem dX6_init_26 : decode cX6_init 26 = .ok (.iconst 5, 1) := by decide +kernel
theorem dX6_init_27 : decode cX6_init 27 = .ok (.putfield 22, 3) := by decide +kernel
theorem dX6_init_30 : decode cX6_init 30 = .ok (.return_, 1) := by decide +kernel
theorem dX6_copyFrom_0 : decode cX6_copyFrom 0 = .ok (.aload_n 1, 1) := by decide +kernel
theorem dX6_copyFrom_1 : decode cX6_copyFrom 1 = .ok (.getfield 9, 3) := by decide +kernel
theorem dX6_copyFrom_4 : decode cX6_copyFrom 4 = .ok (.aload_n 0, 1) := by decide +kernel
theorem dX6_copyFrom_5 : decode cX6_copyFrom 5 = .ok (.getfield 9, 3) := by decide +kernel
theorem dX6_copyFrom_8 : decode cX6_copyFrom 8 = .ok (.invokestatic 25, 3) := by decide +kernel
theorem dX6_copyFrom_11 : decode cX6_copyFrom 11 = .ok (.aload_n 1, 1) := by decide +kernel
theorem dX6_copyFrom_12 : decode cX6_copyFrom 12 = .ok (.getfield 15, 3) := by decide +kernel
theorem dX6_copyFrom_15 : decode cX6_copyFrom 15 = .ok (.aload_n 0, 1) := by decide +kernel
theorem dX6_copyFrom_16 : decode cX6_copyFrom 16 = .ok (.getfield 15, 3) := by decide +kernel
theorem dX6_copyFrom_19 : decode cX6_copyFrom 19 = .ok (.invokestatic 25, 3) := by decide +kernel
theorem dX6_copyFrom_22 : decode cX6_copyFrom 22 = .ok (.aload_n 0, 1) := by decide +kernel
theorem dX6_copyFrom_23 : decode cX6_copyFrom 23 = .ok (.aload_n 1, 1) := by decide +kernel
theorem dX6_copyFrom_24 : decode cX6_copyFrom 24 = .ok (.getfield 18, 3) := by decide +kernel
theorem dX6_copyFrom_27 : decode cX6_copyFrom 27 = .ok (.putfield 18, 3) := by decide +kernel
theorem dX6_copyFrom_30 : decode cX6_copyFrom 30 = .ok (.aload_n 0, 1) := by decide +kernel
theorem dX6_copyFrom_31 : decode cX6_copyFrom 31 = .ok (.aload_n 1, 1) := by decide +kernel
theorem dX6_copyFrom_32 : decode cX6_copyFrom 32 = .ok (.getfield 22, 3) := by decide +kernel
theorem dX6_copyFrom_35 : decode cX6_copyFrom 35 = .ok (.putfield 22, 3) := by decide +kernel
theorem dX6_copyFrom_38 : decode cX6_copyFrom 38 = .ok (.aload_n 0, 1) := by decide +kernel
theorem dX6_copyFrom_39 : decode cX6_copyFrom 39 = .ok (.aload_n 1, 1) := by decide +kernel
theorem dX6_copyFrom_40 : decode cX6_copyFrom 40 = .ok (.getfield 29, 3) := by decide +kernel
theorem dX6_copyFrom_43 : decode cX6_copyFrom 43 = .ok (.putfield 29, 3) := by decide +kernel
theorem dX6_copyFrom_46 : decode cX6_copyFrom 46 = .ok (.aload_n 0, 1) := by decide +kernel
theorem dX6_copyFrom_47 : decode cX6_copyFrom 47 = .ok (.aload_n 1, 1) := by decide +kernel
theorem dX6_copyFrom_48 : decode cX6_copyFrom 48 = .ok (.getfield 32, 3) := by decide +kernel
theorem dX6_copyFrom_51 : decode cX6_copyFrom 51 = .ok (.putfield 32, 3) := by decide +kernel
theorem dX6_copyFrom_54 : decode cX6_copyFrom 54 = .ok (.aload_n 0, 1) := by decide +kernel
theorem dX6_copyFrom_55 : decode cX6_copyFrom 55 = .ok (.aload_n 1, 1) := by decide +kernel
theorem dX6_copyFrom_56 : decode cX6_copyFrom 56 = .ok (.getfield 35, 3) := by decide +kernel
theorem dX6_copyFrom_59 : decode cX6_copyFrom 59 = .ok (.putfield 35, 3) := by decide +kernel
theorem dX6_copyFrom_62 : decode cX6_copyFrom 62 = .ok (.aload_n 0, 1) := by decide +kernel
theorem dX6_copyFrom_63 : decode cX6_copyFrom 63 = .ok (.aload_n 1, 1) := by decide +kernel
theorem dX6_copyFrom_64 : decode cX6_copyFrom 64 = .ok (.getfield 39, 3) := by decide +kernel
theorem dX6_copyFrom_67 : decode cX6_copyFrom 67 = .ok (.putfield 39, 3) := by decide +kernel
theorem dX6_copyFrom_70 : decode cX6_copyFrom 70 = .ok (.return_, 1) := by decide +kernel
theorem dX6_empty_0 : decode cX6_empty 0 = .ok (.aload_n 0, 1) := by decide +kernel
theorem dX6_empty_1 : decode cX6_empty 1 = .ok (.getfield 9, 3) := by decide +kernel
theorem dX6_empty_4 : decode cX6_empty 4 = .ok (.iconst 0, 1) := by decide +kernel
theorem dX6_empty_5 : decode cX6_empty 5 = .ok (.invokestatic 42, 3) := by decide +kernel
theorem dX6_empty_8 : decode cX6_empty 8 = .ok (.aload_n 0, 1) := by decide +kernel
theorem dX6_empty_9 : decode cX6_empty 9 = .ok (.getfield 15, 3) := by decide +kernel
theorem dX6_empty_12 : decode cX6_empty 12 = .ok (.iconst 0, 1) := by decide +kernel
theorem dX6_empty_13 : decode cX6_empty 13 = .ok (.invokestatic 42, 3) := by decide +kernel
theorem dX6_empty_16 : decode cX6_empty 16 = .ok (.aload_n 0, 1) := by decide +kernel
theorem dX6_empty_17 : decode cX6_empty 17 = .ok (.iload_n 1, 1) := by decide +kernel
theorem dX6_empty_18 : decode cX6_empty 18 = .ok (.putfield 18, 3) := by decide +kernel
theorem dX6_empty_21 : decode cX6_empty 21 = .ok (.aload_n 0, 1) := by decide +kernel
theorem dX6_empty_22 : decode cX6_empty 22 = .ok (.iload_n 2, 1) := by decide +kernel
theorem dX6_empty_23 : decode cX6_empty 23 = .ok (.putfield 22, 3) := by decide +kernel
theorem dX6_empty_26 : decode cX6_empty 26 = .ok (.aload_n 0, 1) := by decide +kernel
theorem dX6_empty_27 : decode cX6_empty 27 = .ok (.iconst 0, 1) := by decide +kernel
theorem dX6_empty_28 : decode cX6_empty 28 = .ok (.putfield 29, 3) := by decide +kernel
theorem dX6_empty_31 : decode cX6_empty 31 = .ok (.aload_n 0, 1) := by decide +kernel
theorem dX6_empty_32 : decode cX6_empty 32 = .ok (.iconst 0, 1) := by decide +kernel
theorem dX6_empty_33 : decode cX6_empty 33 = .ok (.putfield 32, 3) := by decide +kernel
theorem dX6_empty_36 : decode cX6_empty 36 = .ok (.aload_n 0, 1) := by decide +kernel
theorem dX6_empty_37 : decode cX6_empty 37 = .ok (.lconst 0, 1) := by decide +kernel
theorem dX6_empty_38 : decode cX6_empty 38 = .ok (.putfield 35, 3) := by decide +kernel
theorem dX6_empty_41 : decode cX6_empty 41 = .ok (.aload_n 0, 1) := by decide +kernel
theorem dX6_empty_42 : decode cX6_empty 42 = .ok (.lconst 0, 1) := by decide +kernel
theorem dX6_empty_43 : decode cX6_empty 43 = .ok (.putfield 39, 3) := by decide +kernel
theorem dX6_empty_46 : decode cX6_empty 46 = .ok (.return_, 1) := by decide +kernel
theorem dX6_squares_0 : decode cX6_squares 0 = .ok (.aload_n 0, 1) := by decide +kernel
theorem dX6_squares_1 : decode cX6_squares 1 = .ok (.getfield 18, 3) := by decide +kernel
theorem dX6_squares_4 : decode cX6_squares 4 = .ok (.aload_n 0, 1) := by decide +kernel
theorem dX6_squares_5 : decode cX6_squares 5 = .ok (.getfield 22, 3) := by decide +kernel
theorem dX6_squares_8 : decode cX6_squares 8 = .ok (.imul, 1) := by decide +kernel
theorem dX6_squares_9 : decode cX6_squares 9 = .ok (.ireturn, 1) := by decide +kernel
theorem dX6_columnOf_0 : decode cX6_columnOf 0 = .ok (.aload_n 0, 1) := by decide +kernel
theorem dX6_columnOf_1 : decode cX6_columnOf 1 = .ok (.getfield 18, 3) := by decide +kernel
theorem dX6_columnOf_4 : decode cX6_columnOf 4 = .ok (.ifCond .le 12, 3) := by decide +kernel
theorem dX6_columnOf_7 : decode cX6_columnOf 7 = .ok (.iload_n 1, 1) := by decide +kernel
theorem dX6_columnOf_8 : decode cX6_columnOf 8 = .ok (.aload_n 0, 1) := by decide +kernel
theorem dX6_columnOf_9 : decode cX6_columnOf 9 = .ok (.getfield 18, 3) := by decide +kernel
theorem dX6_columnOf_12 : decode cX6_columnOf 12 = .ok (.irem, 1) := by decide +kernel
theorem dX6_columnOf_13 : decode cX6_columnOf 13 = .ok (.goto 4, 3) := by decide +kernel
theorem dX6_columnOf_16 : decode cX6_columnOf 16 = .ok (.iconst 0, 1) := by decide +kernel
theorem dX6_columnOf_17 : decode cX6_columnOf 17 = .ok (.ireturn, 1) := by decide +kernel
theorem dX6_rowOf_0 : decode cX6_rowOf 0 = .ok (.aload_n 0, 1) := by decide +kernel
theorem dX6_rowOf_1 : decode cX6_rowOf 1 = .ok (.getfield 18, 3) := by decide +kernel
theorem dX6_rowOf_4 : decode cX6_rowOf 4 = .ok (.ifCond .le 12, 3) := by decide +kernel
theorem dX6_rowOf_7 : decode cX6_rowOf 7 = .ok (.iload_n 1, 1) := by decide +kernel
theorem dX6_rowOf_8 : decode cX6_rowOf 8 = .ok (.aload_n 0, 1) := by decide +kernel
theorem dX6_rowOf_9 : decode cX6_rowOf 9 = .ok (.getfield 18, 3) := by decide +kernel
theorem dX6_rowOf_12 : decode cX6_rowOf 12 = .ok (.idiv, 1) := by decide +kernel
theorem dX6_rowOf_13 : decode cX6_rowOf 13 = .ok (.goto 4, 3) := by decide +kernel
theorem dX6_rowOf_16 : decode cX6_rowOf 16 = .ok (.iconst 0, 1) := by decide +kernel
theorem dX6_rowOf_17 : decode cX6_rowOf 17 = .ok (.ireturn, 1) := by decide +kernel
theorem dX6_isFarRow_0 : decode cX6_isFarRow 0 = .ok (.aload_n 0, 1) := by decide +kernel
theorem dX6_isFarRow_1 : decode cX6_isFarRow 1 = .ok (.iload_n 2, 1) := by decide +kernel
theorem dX6_isFarRow_2 : decode cX6_isFarRow 2 = .ok (.invokevirtual 46, 3) := by decide +kernel
theorem dX6_isFarRow_5 : decode cX6_isFarRow 5 = .ok (.iload_n 1, 1) := by decide +kernel
theorem dX6_isFarRow_6 : decode cX6_isFarRow 6 = .ok (.ifCond .ne 12, 3) := by decide +kernel
theorem dX6_isFarRow_9 : decode cX6_isFarRow 9 = .ok (.aload_n 0, 1) := by decide +kernel
theorem dX6_isFarRow_10 : decode cX6_isFarRow 10 = .ok (.getfield 22, 3) := by decide +kernel
theorem dX6_isFarRow_13 : decode cX6_isFarRow 13 = .ok (.iconst 1, 1) := by decide +kernel
theorem dX6_isFarRow_14 : decode cX6_isFarRow 14 = .ok (.isub, 1) := by decide +kernel
theorem dX6_isFarRow_15 : decode cX6_isFarRow 15 = .ok (.goto 4, 3) := by decide +kernel
theorem dX6_isFarRow_18 : decode cX6_isFarRow 18 = .ok (.iconst 0, 1) := by decide +kernel
theorem dX6_isFarRow_19 : decode cX6_isFarRow 19 = .ok (.if_icmp .ne 7, 3) := by decide +kernel
theorem dX6_isFarRow_22 : decode cX6_isFarRow 22 = .ok (.iconst 1, 1) := by decide +kernel
theorem dX6_isFarRow_23 : decode cX6_isFarRow 23 = .ok (.goto 4, 3) := by decide +kernel
theorem dX6_isFarRow_26 : decode cX6_isFarRow 26 = .ok (.iconst 0, 1) := by decide +kernel
theorem dX6_isFarRow_27 : decode cX6_isFarRow 27 = .ok (.ireturn, 1) := by decide +kernel
theorem dX6_manOn_0 : decode cX6_manOn 0 = .ok (.iload_n 1, 1) := by decide +kernel
theorem dX6_manOn_1 : decode cX6_manOn 1 = .ok (.ifCond .lt 21, 3) := by decide +kernel
theorem dX6_manOn_4 : decode cX6_manOn 4 = .ok (.iload_n 1, 1) := by decide +kernel
theorem dX6_manOn_5 : decode cX6_manOn 5 = .ok (.aload_n 0, 1) := by decide +kernel
theorem dX6_manOn_6 : decode cX6_manOn 6 = .ok (.getfield 9, 3) := by decide +kernel
theorem dX6_manOn_9 : decode cX6_manOn 9 = .ok (.arraylength, 1) := by decide +kernel
theorem dX6_manOn_10 : decode cX6_manOn 10 = .ok (.if_icmp .ge 12, 3) := by decide +kernel
theorem dX6_manOn_13 : decode cX6_manOn 13 = .ok (.aload_n 0, 1) := by decide +kernel
theorem dX6_manOn_14 : decode cX6_manOn 14 = .ok (.getfield 9, 3) := by decide +kernel
theorem dX6_manOn_17 : decode cX6_manOn 17 = .ok (.iload_n 1, 1) := by decide +kernel
theorem dX6_manOn_18 : decode cX6_manOn 18 = .ok (.iaload, 1) := by decide +kernel
theorem dX6_manOn_19 : decode cX6_manOn 19 = .ok (.goto 4, 3) := by decide +kernel
theorem dX6_manOn_22 : decode cX6_manOn 22 = .ok (.iconst 0, 1) := by decide +kernel
theorem dX6_manOn_23 : decode cX6_manOn 23 = .ok (.ireturn, 1) := by decide +kernel
theorem dX6_put_0 : decode cX6_put 0 = .ok (.iload_n 1, 1) := by decide +kernel
theorem dX6_put_1 : decode cX6_put 1 = .ok (.ifCond .lt 12, 3) := by decide +kernel
theorem dX6_put_4 : decode cX6_put 4 = .ok (.iload_n 1, 1) := by decide +kernel
theorem dX6_put_5 : decode cX6_put 5 = .ok (.aload_n 0, 1) := by decide +kernel
theorem dX6_put_6 : decode cX6_put 6 = .ok (.getfield 9, 3) := by decide +kernel
theorem dX6_put_9 : decode cX6_put 9 = .ok (.arraylength, 1) := by decide +kernel
theorem dX6_put_10 : decode cX6_put 10 = .ok (.if_icmp .lt 4, 3) := by decide +kernel
theorem dX6_put_13 : decode cX6_put 13 = .ok (.return_, 1) := by decide +kernel
theorem dX6_put_14 : decode cX6_put 14 = .ok (.aload_n 0, 1) := by decide +kernel
theorem dX6_put_15 : decode cX6_put 15 = .ok (.getfield 9, 3) := by decide +kernel
theorem dX6_put_18 : decode cX6_put 18 = .ok (.iload_n 1, 1) := by decide +kernel
theorem dX6_put_19 : decode cX6_put 19 = .ok (.iload_n 2, 1) := by decide +kernel
theorem dX6_put_20 : decode cX6_put 20 = .ok (.iastore, 1) := by decide +kernel
theorem dX6_put_21 : decode cX6_put 21 = .ok (.lconst 1, 1) := by decide +kernel
theorem dX6_put_22 : decode cX6_put 22 = .ok (.iload_n 1, 1) := by decide +kernel
theorem dX6_put_23 : decode cX6_put 23 = .ok (.lshl, 1) := by decide +kernel
theorem dX6_put_24 : decode cX6_put 24 = .ok (.lstore_n 3, 1) := by decide +kernel
theorem dX6_put_25 : decode cX6_put 25 = .ok (.aload_n 0, 1) := by decide +kernel
theorem dX6_put_26 : decode cX6_put 26 = .ok (.dup, 1) := by decide +kernel
theorem dX6_put_27 : decode cX6_put 27 = .ok (.getfield 35, 3) := by decide +kernel
theorem dX6_put_30 : decode cX6_put 30 = .ok (.lload_n 3, 1) := by decide +kernel
theorem dX6_put_31 : decode cX6_put 31 = .ok (.ldc2_w 50, 3) := by decide +kernel
theorem dX6_put_34 : decode cX6_put 34 = .ok (.lxor, 1) := by decide +kernel
theorem dX6_put_35 : decode cX6_put 35 = .ok (.land, 1) := by decide +kernel
theorem dX6_put_36 : decode cX6_put 36 = .ok (.putfield 35, 3) := by decide +kernel
theorem dX6_put_39 : decode cX6_put 39 = .ok (.aload_n 0, 1) := by decide +kernel
theorem dX6_put_40 : decode cX6_put 40 = .ok (.dup, 1) := by decide +kernel
theorem dX6_put_41 : decode cX6_put 41 = .ok (.getfield 39, 3) := by decide +kernel
theorem dX6_put_44 : decode cX6_put 44 = .ok (.lload_n 3, 1) := by decide +kernel
theorem dX6_put_45 : decode cX6_put 45 = .ok (.ldc2_w 50, 3) := by decide +kernel
theorem dX6_put_48 : decode cX6_put 48 = .ok (.lxor, 1) := by decide +kernel
theorem dX6_put_49 : decode cX6_put 49 = .ok (.land, 1) := by decide +kernel
theorem dX6_put_50 : decode cX6_put 50 = .ok (.putfield 39, 3) := by decide +kernel
theorem dX6_put_53 : decode cX6_put 53 = .ok (.iload_n 2, 1) := by decide +kernel
theorem dX6_put_54 : decode cX6_put 54 = .ok (.bipush 6, 2) := by decide +kernel
theorem dX6_put_56 : decode cX6_put 56 = .ok (.if_icmp .le 16, 3) := by decide +kernel
theorem dX6_put_59 : decode cX6_put 59 = .ok (.aload_n 0, 1) := by decide +kernel
theorem dX6_put_60 : decode cX6_put 60 = .ok (.dup, 1) := by decide +kernel
theorem dX6_put_61 : decode cX6_put 61 = .ok (.getfield 39, 3) := by decide +kernel
theorem dX6_put_64 : decode cX6_put 64 = .ok (.lload_n 3, 1) := by decide +kernel
theorem dX6_put_65 : decode cX6_put 65 = .ok (.lor, 1) := by decide +kernel
theorem dX6_put_66 : decode cX6_put 66 = .ok (.putfield 39, 3) := by decide +kernel
theorem dX6_put_69 : decode cX6_put 69 = .ok (.goto 17, 3) := by decide +kernel
theorem dX6_put_72 : decode cX6_put 72 = .ok (.iload_n 2, 1) := by decide +kernel
theorem dX6_put_73 : decode cX6_put 73 = .ok (.ifCond .le 13, 3) := by decide +kernel
theorem dX6_put_76 : decode cX6_put 76 = .ok (.aload_n 0, 1) := by decide +kernel
theorem dX6_put_77 : decode cX6_put 77 = .ok (.dup, 1) := by decide +kernel
theorem dX6_put_78 : decode cX6_put 78 = .ok (.getfield 35, 3) := by decide +kernel
theorem dX6_put_81 : decode cX6_put 81 = .ok (.lload_n 3, 1) := by decide +kernel
theorem dX6_put_82 : decode cX6_put 82 = .ok (.lor, 1) := by decide +kernel
theorem dX6_put_83 : decode cX6_put 83 = .ok (.putfield 35, 3) := by decide +kernel
theorem dX6_put_86 : decode cX6_put 86 = .ok (.return_, 1) := by decide +kernel
theorem dX6_menOf_0 : decode cX6_menOf 0 = .ok (.iload_n 1, 1) := by decide +kernel
theorem dX6_menOf_1 : decode cX6_menOf 1 = .ok (.ifCond .ne 10, 3) := by decide +kernel
theorem dX6_menOf_4 : decode cX6_menOf 4 = .ok (.aload_n 0, 1) := by decide +kernel
theorem dX6_menOf_5 : decode cX6_menOf 5 = .ok (.getfield 35, 3) := by decide +kernel
theorem dX6_menOf_8 : decode cX6_menOf 8 = .ok (.goto 7, 3) := by decide +kernel
theorem dX6_menOf_11 : decode cX6_menOf 11 = .ok (.aload_n 0, 1) := by decide +kernel
theorem dX6_menOf_12 : decode cX6_menOf 12 = .ok (.getfield 39, 3) := by decide +kernel
theorem dX6_menOf_15 : decode cX6_menOf 15 = .ok (.lreturn, 1) := by decide +kernel
theorem dX6_menOnBoard_0 : decode cX6_menOnBoard 0 = .ok (.aload_n 0, 1) := by decide +kernel
theorem dX6_menOnBoard_1 : decode cX6_menOnBoard 1 = .ok (.getfield 35, 3) := by decide +kernel
theorem dX6_menOnBoard_4 : decode cX6_menOnBoard 4 = .ok (.aload_n 0, 1) := by decide +kernel
theorem dX6_menOnBoard_5 : decode cX6_menOnBoard 5 = .ok (.getfield 39, 3) := by decide +kernel
theorem dX6_menOnBoard_8 : decode cX6_menOnBoard 8 = .ok (.lor, 1) := by decide +kernel
theorem dX6_menOnBoard_9 : decode cX6_menOnBoard 9 = .ok (.invokestatic 52, 3) := by decide +kernel
theorem dX6_menOnBoard_12 : decode cX6_menOnBoard 12 = .ok (.ireturn, 1) := by decide +kernel
theorem dX6_menOfType_0 : decode cX6_menOfType 0 = .ok (.iconst 0, 1) := by decide +kernel
theorem dX6_menOfType_1 : decode cX6_menOfType 1 = .ok (.istore_n 2, 1) := by decide +kernel
theorem dX6_menOfType_2 : decode cX6_menOfType 2 = .ok (.iconst 0, 1) := by decide +kernel
theorem dX6_menOfType_3 : decode cX6_menOfType 3 = .ok (.istore_n 3, 1) := by decide +kernel
theorem dX6_menOfType_4 : decode cX6_menOfType 4 = .ok (.iload_n 3, 1) := by decide +kernel
theorem dX6_menOfType_5 : decode cX6_menOfType 5 = .ok (.aload_n 0, 1) := by decide +kernel
theorem dX6_menOfType_6 : decode cX6_menOfType 6 = .ok (.getfield 9, 3) := by decide +kernel
theorem dX6_menOfType_9 : decode cX6_menOfType 9 = .ok (.arraylength, 1) := by decide +kernel
theorem dX6_menOfType_10 : decode cX6_menOfType 10 = .ok (.if_icmp .ge 34, 3) := by decide +kernel
theorem dX6_menOfType_13 : decode cX6_menOfType 13 = .ok (.aload_n 0, 1) := by decide +kernel
theorem dX6_menOfType_14 : decode cX6_menOfType 14 = .ok (.getfield 9, 3) := by decide +kernel
theorem dX6_menOfType_17 : decode cX6_menOfType 17 = .ok (.iload_n 3, 1) := by decide +kernel
theorem dX6_menOfType_18 : decode cX6_menOfType 18 = .ok (.iaload, 1) := by decide +kernel
theorem dX6_menOfType_19 : decode cX6_menOfType 19 = .ok (.ifCond .eq 19, 3) := by decide +kernel
theorem dX6_menOfType_22 : decode cX6_menOfType 22 = .ok (.aload_n 0, 1) := by decide +kernel
theorem dX6_menOfType_23 : decode cX6_menOfType 23 = .ok (.getfield 9, 3) := by decide +kernel
theorem dX6_menOfType_26 : decode cX6_menOfType 26 = .ok (.iload_n 3, 1) := by decide +kernel
theorem dX6_menOfType_27 : decode cX6_menOfType 27 = .ok (.iaload, 1) := by decide +kernel
theorem dX6_menOfType_28 : decode cX6_menOfType 28 = .ok (.invokestatic 58, 3) := by decide +kernel
theorem dX6_menOfType_31 : decode cX6_menOfType 31 = .ok (.iload_n 1, 1) := by decide +kernel
theorem dX6_menOfType_32 : decode cX6_menOfType 32 = .ok (.if_icmp .ne 6, 3) := by decide +kernel
theorem dX6_menOfType_35 : decode cX6_menOfType 35 = .ok (.iinc 2 1, 3) := by decide +kernel
theorem dX6_menOfType_38 : decode cX6_menOfType 38 = .ok (.iinc 3 1, 3) := by decide +kernel
theorem dX6_menOfType_41 : decode cX6_menOfType 41 = .ok (.goto (-37), 3) := by decide +kernel
theorem dX6_menOfType_44 : decode cX6_menOfType 44 = .ok (.iload_n 2, 1) := by decide +kernel
theorem dX6_menOfType_45 : decode cX6_menOfType 45 = .ok (.ireturn, 1) := by decide +kernel
theorem dX6_inHand_0 : decode cX6_inHand 0 = .ok (.aload_n 0, 1) := by decide +kernel
theorem dX6_inHand_1 : decode cX6_inHand 1 = .ok (.getfield 15, 3) := by decide +kernel
theorem dX6_inHand_4 : decode cX6_inHand 4 = .ok (.iload_n 1, 1) := by decide +kernel
theorem dX6_inHand_5 : decode cX6_inHand 5 = .ok (.bipush 6, 2) := by decide +kernel
theorem dX6_inHand_7 : decode cX6_inHand 7 = .ok (.imul, 1) := by decide +kernel
theorem dX6_inHand_8 : decode cX6_inHand 8 = .ok (.iload_n 2, 1) := by decide +kernel
theorem dX6_inHand_9 : decode cX6_inHand 9 = .ok (.iadd, 1) := by decide +kernel
theorem dX6_inHand_10 : decode cX6_inHand 10 = .ok (.invokestatic 61, 3) := by decide +kernel
theorem dX6_inHand_13 : decode cX6_inHand 13 = .ok (.ireturn, 1) := by decide +kernel
theorem dX6_addToHand_0 : decode cX6_addToHand 0 = .ok (.iload_n 1, 1) := by decide +kernel
theorem dX6_addToHand_1 : decode cX6_addToHand 1 = .ok (.bipush 6, 2) := by decide +kernel
theorem dX6_addToHand_3 : decode cX6_addToHand 3 = .ok (.imul, 1) := by decide +kernel
theorem dX6_addToHand_4 : decode cX6_addToHand 4 = .ok (.iload_n 2, 1) := by decide +kernel
theorem dX6_addToHand_5 : decode cX6_addToHand 5 = .ok (.iadd, 1) := by decide +kernel
theorem dX6_addToHand_6 : decode cX6_addToHand 6 = .ok (.istore 4, 2) := by decide +kernel
theorem dX6_addToHand_8 : decode cX6_addToHand 8 = .ok (.aload_n 0, 1) := by decide +kernel
theorem dX6_addToHand_9 : decode cX6_addToHand 9 = .ok (.getfield 15, 3) := by decide +kernel
theorem dX6_addToHand_12 : decode cX6_addToHand 12 = .ok (.iload 4, 2) := by decide +kernel
theorem dX6_addToHand_14 : decode cX6_addToHand 14 = .ok (.aload_n 0, 1) := by decide +kernel
theorem dX6_addToHand_15 : decode cX6_addToHand 15 = .ok (.getfield 15, 3) := by decide +kernel
theorem dX6_addToHand_18 : decode cX6_addToHand 18 = .ok (.iload 4, 2) := by decide +kernel
theorem dX6_addToHand_20 : decode cX6_addToHand 20 = .ok (.invokestatic 61, 3) := by decide +kernel
theorem dX6_addToHand_23 : decode cX6_addToHand 23 = .ok (.iload_n 3, 1) := by decide +kernel
theorem dX6_addToHand_24 : decode cX6_addToHand 24 = .ok (.iadd, 1) := by decide +kernel
theorem dX6_addToHand_25 : decode cX6_addToHand 25 = .ok (.invokestatic 65, 3) := by decide +kernel
theorem dX6_addToHand_28 : decode cX6_addToHand 28 = .ok (.return_, 1) := by decide +kernel
theorem dX6_digestNow_0 : decode cX6_digestNow 0 = .ok (.bipush 17, 2) := by decide +kernel
theorem dX6_digestNow_2 : decode cX6_digestNow 2 = .ok (.istore_n 1, 1) := by decide +kernel
theorem dX6_digestNow_3 : decode cX6_digestNow 3 = .ok (.iconst 0, 1) := by decide +kernel
theorem dX6_digestNow_4 : decode cX6_digestNow 4 = .ok (.istore_n 2, 1) := by decide +kernel
theorem dX6_digestNow_5 : decode cX6_digestNow 5 = .ok (.iload_n 2, 1) := by decide +kernel
theorem dX6_digestNow_6 : decode cX6_digestNow 6 = .ok (.aload_n 0, 1) := by decide +kernel
theorem dX6_digestNow_7 : decode cX6_digestNow 7 = .ok (.invokevirtual 69, 3) := by decide +kernel
theorem dX6_digestNow_10 : decode cX6_digestNow 10 = .ok (.if_icmp .ge 20, 3) := by decide +kernel
theorem dX6_digestNow_13 : decode cX6_digestNow 13 = .ok (.bipush 31, 2) := by decide +kernel
theorem dX6_digestNow_15 : decode cX6_digestNow 15 = .ok (.iload_n 1, 1) := by decide +kernel
theorem dX6_digestNow_16 : decode cX6_digestNow 16 = .ok (.imul, 1) := by decide +kernel
theorem dX6_digestNow_17 : decode cX6_digestNow 17 = .ok (.aload_n 0, 1) := by decide +kernel
theorem dX6_digestNow_18 : decode cX6_digestNow 18 = .ok (.iload_n 2, 1) := by decide +kernel
theorem dX6_digestNow_19 : decode cX6_digestNow 19 = .ok (.invokevirtual 73, 3) := by decide +kernel
theorem dX6_digestNow_22 : decode cX6_digestNow 22 = .ok (.iadd, 1) := by decide +kernel
theorem dX6_digestNow_23 : decode cX6_digestNow 23 = .ok (.istore_n 1, 1) := by decide +kernel
theorem dX6_digestNow_24 : decode cX6_digestNow 24 = .ok (.iinc 2 1, 3) := by decide +kernel
theorem dX6_digestNow_27 : decode cX6_digestNow 27 = .ok (.goto (-22), 3) := by decide +kernel
theorem dX6_digestNow_30 : decode cX6_digestNow 30 = .ok (.iconst 0, 1) := by decide +kernel
theorem dX6_digestNow_31 : decode cX6_digestNow 31 = .ok (.istore_n 2, 1) := by decide +kernel
theorem dX6_digestNow_32 : decode cX6_digestNow 32 = .ok (.iload_n 2, 1) := by decide +kernel
theorem dX6_digestNow_33 : decode cX6_digestNow 33 = .ok (.aload_n 0, 1) := by decide +kernel
theorem dX6_digestNow_34 : decode cX6_digestNow 34 = .ok (.getfield 15, 3) := by decide +kernel
theorem dX6_digestNow_37 : decode cX6_digestNow 37 = .ok (.arraylength, 1) := by decide +kernel
theorem dX6_digestNow_38 : decode cX6_digestNow 38 = .ok (.if_icmp .ge 21, 3) := by decide +kernel
theorem dX6_digestNow_41 : decode cX6_digestNow 41 = .ok (.bipush 31, 2) := by decide +kernel
theorem dX6_digestNow_43 : decode cX6_digestNow 43 = .ok (.iload_n 1, 1) := by decide +kernel
theorem dX6_digestNow_44 : decode cX6_digestNow 44 = .ok (.imul, 1) := by decide +kernel
theorem dX6_digestNow_45 : decode cX6_digestNow 45 = .ok (.aload_n 0, 1) := by decide +kernel
theorem dX6_digestNow_46 : decode cX6_digestNow 46 = .ok (.getfield 15, 3) := by decide +kernel
theorem dX6_digestNow_49 : decode cX6_digestNow 49 = .ok (.iload_n 2, 1) := by decide +kernel
theorem dX6_digestNow_50 : decode cX6_digestNow 50 = .ok (.iaload, 1) := by decide +kernel
theorem dX6_digestNow_51 : decode cX6_digestNow 51 = .ok (.iadd, 1) := by decide +kernel
theorem dX6_digestNow_52 : decode cX6_digestNow 52 = .ok (.istore_n 1, 1) := by decide +kernel
theorem dX6_digestNow_53 : decode cX6_digestNow 53 = .ok (.iinc 2 1, 3) := by decide +kernel
theorem dX6_digestNow_56 : decode cX6_digestNow 56 = .ok (.goto (-24), 3) := by decide +kernel
theorem dX6_digestNow_59 : decode cX6_digestNow 59 = .ok (.bipush 31, 2) := by decide +kernel
theorem dX6_digestNow_61 : decode cX6_digestNow 61 = .ok (.iload_n 1, 1) := by decide +kernel
theorem dX6_digestNow_62 : decode cX6_digestNow 62 = .ok (.imul, 1) := by decide +kernel
theorem dX6_digestNow_63 : decode cX6_digestNow 63 = .ok (.aload_n 0, 1) := by decide +kernel
theorem dX6_digestNow_64 : decode cX6_digestNow 64 = .ok (.getfield 29, 3) := by decide +kernel
theorem dX6_digestNow_67 : decode cX6_digestNow 67 = .ok (.iadd, 1) := by decide +kernel
theorem dX6_digestNow_68 : decode cX6_digestNow 68 = .ok (.istore_n 1, 1) := by decide +kernel
theorem dX6_digestNow_69 : decode cX6_digestNow 69 = .ok (.iconst 0, 1) := by decide +kernel
theorem dX6_digestNow_70 : decode cX6_digestNow 70 = .ok (.istore_n 2, 1) := by decide +kernel
theorem dX6_digestNow_71 : decode cX6_digestNow 71 = .ok (.iload_n 2, 1) := by decide +kernel
theorem dX6_digestNow_72 : decode cX6_digestNow 72 = .ok (.iconst 4, 1) := by decide +kernel
theorem dX6_digestNow_73 : decode cX6_digestNow 73 = .ok (.if_icmp .ge 23, 3) := by decide +kernel
theorem dX6_digestNow_76 : decode cX6_digestNow 76 = .ok (.bipush 31, 2) := by decide +kernel
theorem dX6_digestNow_78 : decode cX6_digestNow 78 = .ok (.iload_n 1, 1) := by decide +kernel
theorem dX6_digestNow_79 : decode cX6_digestNow 79 = .ok (.imul, 1) := by decide +kernel
theorem dX6_digestNow_80 : decode cX6_digestNow 80 = .ok (.aload_n 0, 1) := by decide +kernel
theorem dX6_digestNow_81 : decode cX6_digestNow 81 = .ok (.getfield 32, 3) := by decide +kernel
theorem dX6_digestNow_84 : decode cX6_digestNow 84 = .ok (.iload_n 2, 1) := by decide +kernel
theorem dX6_digestNow_85 : decode cX6_digestNow 85 = .ok (.ishr, 1) := by decide +kernel
theorem dX6_digestNow_86 : decode cX6_digestNow 86 = .ok (.iconst 1, 1) := by decide +kernel
theorem dX6_digestNow_87 : decode cX6_digestNow 87 = .ok (.iand, 1) := by decide +kernel
theorem dX6_digestNow_88 : decode cX6_digestNow 88 = .ok (.iadd, 1) := by decide +kernel
theorem dX6_digestNow_89 : decode cX6_digestNow 89 = .ok (.istore_n 1, 1) := by decide +kernel
theorem dX6_digestNow_90 : decode cX6_digestNow 90 = .ok (.iinc 2 1, 3) := by decide +kernel
theorem dX6_digestNow_93 : decode cX6_digestNow 93 = .ok (.goto (-22), 3) := by decide +kernel
theorem dX6_digestNow_96 : decode cX6_digestNow 96 = .ok (.iload_n 1, 1) := by decide +kernel
theorem dX6_digestNow_97 : decode cX6_digestNow 97 = .ok (.ireturn, 1) := by decide +kernel
theorem dX7_init_0 : decode cX7_init 0 = .ok (.aload_n 0, 1) := by decide +kernel
theorem dX7_init_1 : decode cX7_init 1 = .ok (.invokespecial 1, 3) := by decide +kernel
theorem dX7_init_4 : decode cX7_init 4 = .ok (.aload_n 0, 1) := by decide +kernel
theorem dX7_init_5 : decode cX7_init 5 = .ok (.new 7, 3) := by decide +kernel
theorem dX7_init_8 : decode cX7_init 8 = .ok (.dup, 1) := by decide +kernel
theorem dX7_init_9 : decode cX7_init 9 = .ok (.invokespecial 9, 3) := by decide +kernel
theorem dX7_init_12 : decode cX7_init 12 = .ok (.putfield 10, 3) := by decide +kernel
theorem dX7_init_15 : decode cX7_init 15 = .ok (.aload_n 0, 1) := by decide +kernel
theorem dX7_init_16 : decode cX7_init 16 = .ok (.new 16, 3) := by decide +kernel
theorem dX7_init_19 : decode cX7_init 19 = .ok (.dup, 1) := by decide +kernel
theorem dX7_init_20 : decode cX7_init 20 = .ok (.invokespecial 18, 3) := by decide +kernel
theorem dX7_init_23 : decode cX7_init 23 = .ok (.putfield 19, 3) := by decide +kernel
theorem dX7_init_26 : decode cX7_init 26 = .ok (.aload_n 0, 1) := by decide +kernel
theorem dX7_init_27 : decode cX7_init 27 = .ok (.new 23, 3) := by decide +kernel
theorem dX7_init_30 : decode cX7_init 30 = .ok (.dup, 1) := by decide +kernel
theorem dX7_init_31 : decode cX7_init 31 = .ok (.invokespecial 25, 3) := by decide +kernel
theorem dX7_init_34 : decode cX7_init 34 = .ok (.putfield 26, 3) := by decide +kernel
theorem dX7_init_37 : decode cX7_init 37 = .ok (.return_, 1) := by decide +kernel
theorem dX8_init_0 : decode cX8_init 0 = .ok (.aload_n 0, 1) := by decide +kernel
theorem dX8_init_1 : decode cX8_init 1 = .ok (.invokespecial 3, 3) := by decide +kernel
theorem dX8_init_4 : decode cX8_init 4 = .ok (.aload_n 0, 1) := by decide +kernel
theorem dX8_init_5 : decode cX8_init 5 = .ok (.bipush 40, 2) := by decide +kernel
theorem dX8_init_7 : decode cX8_init 7 = .ok (.newarray .int, 2) := by decide +kernel
theorem dX8_init_9 : decode cX8_init 9 = .ok (.putfield 9, 3) := by decide +kernel
theorem dX8_init_12 : decode cX8_init 12 = .ok (.aload_n 0, 1) := by decide +kernel
theorem dX8_init_13 : decode cX8_init 13 = .ok (.bipush 40, 2) := by decide +kernel
theorem dX8_init_15 : decode cX8_init 15 = .ok (.newarray .int, 2) := by decide +kernel
theorem dX8_init_17 : decode cX8_init 17 = .ok (.putfield 15, 3) := by decide +kernel
theorem dX8_init_20 : decode cX8_init 20 = .ok (.aload_n 0, 1) := by decide +kernel
theorem dX8_init_21 : decode cX8_init 21 = .ok (.bipush 41, 2) := by decide +kernel
theorem dX8_init_23 : decode cX8_init 23 = .ok (.newarray .int, 2) := by decide +kernel
theorem dX8_init_25 : decode cX8_init 25 = .ok (.putfield 18, 3) := by decide +kernel
theorem dX8_init_28 : decode cX8_init 28 = .ok (.return_, 1) := by decide +kernel
theorem dX8_copyFrom_0 : decode cX8_copyFrom 0 = .ok (.aload_n 1, 1) := by decide +kernel
theorem dX8_copyFrom_1 : decode cX8_copyFrom 1 = .ok (.getfield 9, 3) := by decide +kernel
theorem dX8_copyFrom_4 : decode cX8_copyFrom 4 = .ok (.aload_n 0, 1) := by decide +kernel
theorem dX8_copyFrom_5 : decode cX8_copyFrom 5 = .ok (.getfield 9, 3) := by decide +kernel
theorem dX8_copyFrom_8 : decode cX8_copyFrom 8 = .ok (.invokestatic 21, 3) := by decide +kernel
theorem dX8_copyFrom_11 : decode cX8_copyFrom 11 = .ok (.aload_n 1, 1) := by decide +kernel
theorem dX8_copyFrom_12 : decode cX8_copyFrom 12 = .ok (.getfield 15, 3) := by decide +kernel
theorem dX8_copyFrom_15 : decode cX8_copyFrom 15 = .ok (.aload_n 0, 1) := by decide +kernel
theorem dX8_copyFrom_16 : decode cX8_copyFrom 16 = .ok (.getfield 15, 3) := by decide +kernel
theorem dX8_copyFrom_19 : decode cX8_copyFrom 19 = .ok (.invokestatic 21, 3) := by decide +kernel
theorem dX8_copyFrom_22 : decode cX8_copyFrom 22 = .ok (.aload_n 1, 1) := by decide +kernel
theorem dX8_copyFrom_23 : decode cX8_copyFrom 23 = .ok (.getfield 18, 3) := by decide +kernel
theorem dX8_copyFrom_26 : decode cX8_copyFrom 26 = .ok (.aload_n 0, 1) := by decide +kernel
theorem dX8_copyFrom_27 : decode cX8_copyFrom 27 = .ok (.getfield 18, 3) := by decide +kernel
theorem dX8_copyFrom_30 : decode cX8_copyFrom 30 = .ok (.invokestatic 21, 3) := by decide +kernel
theorem dX8_copyFrom_33 : decode cX8_copyFrom 33 = .ok (.aload_n 0, 1) := by decide +kernel
theorem dX8_copyFrom_34 : decode cX8_copyFrom 34 = .ok (.aload_n 1, 1) := by decide +kernel
theorem dX8_copyFrom_35 : decode cX8_copyFrom 35 = .ok (.getfield 25, 3) := by decide +kernel
theorem dX8_copyFrom_38 : decode cX8_copyFrom 38 = .ok (.putfield 25, 3) := by decide +kernel
theorem dX8_copyFrom_41 : decode cX8_copyFrom 41 = .ok (.return_, 1) := by decide +kernel
theorem dX8_begin_0 : decode cX8_begin 0 = .ok (.aload_n 0, 1) := by decide +kernel
theorem dX8_begin_1 : decode cX8_begin 1 = .ok (.iconst 0, 1) := by decide +kernel
theorem dX8_begin_2 : decode cX8_begin 2 = .ok (.putfield 25, 3) := by decide +kernel
theorem dX8_begin_5 : decode cX8_begin 5 = .ok (.aload_n 0, 1) := by decide +kernel
theorem dX8_begin_6 : decode cX8_begin 6 = .ok (.getfield 18, 3) := by decide +kernel
theorem dX8_begin_9 : decode cX8_begin 9 = .ok (.iconst 0, 1) := by decide +kernel
theorem dX8_begin_10 : decode cX8_begin 10 = .ok (.iload_n 1, 1) := by decide +kernel
theorem dX8_begin_11 : decode cX8_begin 11 = .ok (.invokestatic 29, 3) := by decide +kernel
theorem dX8_begin_14 : decode cX8_begin 14 = .ok (.return_, 1) := by decide +kernel
theorem dX8_add_0 : decode cX8_add 0 = .ok (.aload_n 0, 1) := by decide +kernel
theorem dX8_add_1 : decode cX8_add 1 = .ok (.getfield 9, 3) := by decide +kernel
theorem dX8_add_4 : decode cX8_add 4 = .ok (.aload_n 0, 1) := by decide +kernel
theorem dX8_add_5 : decode cX8_add 5 = .ok (.getfield 25, 3) := by decide +kernel
theorem dX8_add_8 : decode cX8_add 8 = .ok (.iload_n 1, 1) := by decide +kernel
theorem dX8_add_9 : decode cX8_add 9 = .ok (.invokestatic 29, 3) := by decide +kernel
theorem dX8_add_12 : decode cX8_add 12 = .ok (.aload_n 0, 1) := by decide +kernel
theorem dX8_add_13 : decode cX8_add 13 = .ok (.getfield 15, 3) := by decide +kernel
theorem dX8_add_16 : decode cX8_add 16 = .ok (.aload_n 0, 1) := by decide +kernel
theorem dX8_add_17 : decode cX8_add 17 = .ok (.getfield 25, 3) := by decide +kernel
theorem dX8_add_20 : decode cX8_add 20 = .ok (.iload_n 2, 1) := by decide +kernel
theorem dX8_add_21 : decode cX8_add 21 = .ok (.invokestatic 29, 3) := by decide +kernel
theorem dX8_add_24 : decode cX8_add 24 = .ok (.aload_n 0, 1) := by decide +kernel
theorem dX8_add_25 : decode cX8_add 25 = .ok (.dup, 1) := by decide +kernel
theorem dX8_add_26 : decode cX8_add 26 = .ok (.getfield 25, 3) := by decide +kernel
theorem dX8_add_29 : decode cX8_add 29 = .ok (.iconst 1, 1) := by decide +kernel
theorem dX8_add_30 : decode cX8_add 30 = .ok (.iadd, 1) := by decide +kernel
theorem dX8_add_31 : decode cX8_add 31 = .ok (.putfield 25, 3) := by decide +kernel
theorem dX8_add_34 : decode cX8_add 34 = .ok (.aload_n 0, 1) := by decide +kernel
theorem dX8_add_35 : decode cX8_add 35 = .ok (.getfield 18, 3) := by decide +kernel
theorem dX8_add_38 : decode cX8_add 38 = .ok (.aload_n 0, 1) := by decide +kernel
theorem dX8_add_39 : decode cX8_add 39 = .ok (.getfield 25, 3) := by decide +kernel
theorem dX8_add_42 : decode cX8_add 42 = .ok (.iload_n 3, 1) := by decide +kernel
theorem dX8_add_43 : decode cX8_add 43 = .ok (.invokestatic 29, 3) := by decide +kernel
theorem dX8_add_46 : decode cX8_add 46 = .ok (.return_, 1) := by decide +kernel
theorem dX8_occurrences_0 : decode cX8_occurrences 0 = .ok (.aload_n 0, 1) := by decide +kernel
theorem dX8_occurrences_1 : decode cX8_occurrences 1 = .ok (.getfield 18, 3) := by decide +kernel
theorem dX8_occurrences_4 : decode cX8_occurrences 4 = .ok (.aload_n 0, 1) := by decide +kernel
theorem dX8_occurrences_5 : decode cX8_occurrences 5 = .ok (.getfield 25, 3) := by decide +kernel
theorem dX8_occurrences_8 : decode cX8_occurrences 8 = .ok (.invokestatic 33, 3) := by decide +kernel
theorem dX8_occurrences_11 : decode cX8_occurrences 11 = .ok (.istore_n 1, 1) := by decide +kernel
theorem dX8_occurrences_12 : decode cX8_occurrences 12 = .ok (.iconst 0, 1) := by decide +kernel
theorem dX8_occurrences_13 : decode cX8_occurrences 13 = .ok (.istore_n 2, 1) := by decide +kernel
theorem dX8_occurrences_14 : decode cX8_occurrences 14 = .ok (.iconst 0, 1) := by decide +kernel
theorem dX8_occurrences_15 : decode cX8_occurrences 15 = .ok (.istore_n 3, 1) := by decide +kernel
theorem dX8_occurrences_16 : decode cX8_occurrences 16 = .ok (.iload_n 3, 1) := by decide +kernel
theorem dX8_occurrences_17 : decode cX8_occurrences 17 = .ok (.aload_n 0, 1) := by decide +kernel
theorem dX8_occurrences_18 : decode cX8_occurrences 18 = .ok (.getfield 25, 3) := by decide +kernel
theorem dX8_occurrences_21 : decode cX8_occurrences 21 = .ok (.if_icmp .gt 31, 3) := by decide +kernel
theorem dX8_occurrences_24 : decode cX8_occurrences 24 = .ok (.iload_n 3, 1) := by decide +kernel
theorem dX8_occurrences_25 : decode cX8_occurrences 25 = .ok (.aload_n 0, 1) := by decide +kernel
theorem dX8_occurrences_26 : decode cX8_occurrences 26 = .ok (.getfield 18, 3) := by decide +kernel
theorem dX8_occurrences_29 : decode cX8_occurrences 29 = .ok (.arraylength, 1) := by decide +kernel
theorem dX8_occurrences_30 : decode cX8_occurrences 30 = .ok (.if_icmp .ge 22, 3) := by decide +kernel
theorem dX8_occurrences_33 : decode cX8_occurrences 33 = .ok (.aload_n 0, 1) := by decide +kernel
theorem dX8_occurrences_34 : decode cX8_occurrences 34 = .ok (.getfield 18, 3) := by decide +kernel
theorem dX8_occurrences_37 : decode cX8_occurrences 37 = .ok (.iload_n 3, 1) := by decide +kernel
theorem dX8_occurrences_38 : decode cX8_occurrences 38 = .ok (.iaload, 1) := by decide +kernel
theorem dX8_occurrences_39 : decode cX8_occurrences 39 = .ok (.iload_n 1, 1) := by decide +kernel
theorem dX8_occurrences_40 : decode cX8_occurrences 40 = .ok (.if_icmp .ne 6, 3) := by decide +kernel
theorem dX8_occurrences_43 : decode cX8_occurrences 43 = .ok (.iinc 2 1, 3) := by decide +kernel
theorem dX8_occurrences_46 : decode cX8_occurrences 46 = .ok (.iinc 3 1, 3) := by decide +kernel
theorem dX8_occurrences_49 : decode cX8_occurrences 49 = .ok (.goto (-33), 3) := by decide +kernel
theorem dX8_occurrences_52 : decode cX8_occurrences 52 = .ok (.iload_n 2, 1) := by decide +kernel
theorem dX8_occurrences_53 : decode cX8_occurrences 53 = .ok (.ireturn, 1) := by decide +kernel
theorem dX9_init_0 : decode cX9_init 0 = .ok (.aload_n 0, 1) := by decide +kernel
theorem dX9_init_1 : decode cX9_init 1 = .ok (.invokespecial 5, 3) := by decide +kernel
theorem dX9_init_4 : decode cX9_init 4 = .ok (.aload_n 0, 1) := by decide +kernel
theorem dX9_init_5 : decode cX9_init 5 = .ok (.new 11, 3) := by decide +kernel
theorem dX9_init_8 : decode cX9_init 8 = .ok (.dup, 1) := by decide +kernel
theorem dX9_init_9 : decode cX9_init 9 = .ok (.invokespecial 13, 3) := by decide +kernel
theorem dX9_init_12 : decode cX9_init 12 = .ok (.putfield 14, 3) := by decide +kernel
theorem dX9_init_15 : decode cX9_init 15 = .ok (.aload_n 0, 1) := by decide +kernel
theorem dX9_init_16 : decode cX9_init 16 = .ok (.new 11, 3) := by decide +kernel
theorem dX9_init_19 : decode cX9_init 19 = .ok (.dup, 1) := by decide +kernel
theorem dX9_init_20 : decode cX9_init 20 = .ok (.invokespecial 13, 3) := by decide +kernel
theorem dX9_init_23 : decode cX9_init 23 = .ok (.putfield 18, 3) := by decide +kernel
theorem dX9_init_26 : decode cX9_init 26 = .ok (.aload_n 0, 1) := by decide +kernel
theorem dX9_init_27 : decode cX9_init 27 = .ok (.new 21, 3) := by decide +kernel
theorem dX9_init_30 : decode cX9_init 30 = .ok (.dup, 1) := by decide +kernel
theorem dX9_init_31 : decode cX9_init 31 = .ok (.invokespecial 23, 3) := by decide +kernel
theorem dX9_init_34 : decode cX9_init 34 = .ok (.putfield 24, 3) := by decide +kernel
theorem dX9_init_37 : decode cX9_init 37 = .ok (.aload_n 0, 1) := by decide +kernel
theorem dX9_init_38 : decode cX9_init 38 = .ok (.new 28, 3) := by decide +kernel
theorem dX9_init_41 : decode cX9_init 41 = .ok (.dup, 1) := by decide +kernel
theorem dX9_init_42 : decode cX9_init 42 = .ok (.aload_n 0, 1) := by decide +kernel
theorem dX9_init_43 : decode cX9_init 43 = .ok (.getfield 24, 3) := by decide +kernel
theorem dX9_init_46 : decode cX9_init 46 = .ok (.invokespecial 30, 3) := by decide +kernel
theorem dX9_init_49 : decode cX9_init 49 = .ok (.putfield 33, 3) := by decide +kernel
theorem dX9_init_52 : decode cX9_init 52 = .ok (.aload_n 0, 1) := by decide +kernel
theorem dX9_init_53 : decode cX9_init 53 = .ok (.new 37, 3) := by decide +kernel
theorem dX9_init_56 : decode cX9_init 56 = .ok (.dup, 1) := by decide +kernel
theorem dX9_init_57 : decode cX9_init 57 = .ok (.invokespecial 39, 3) := by decide +kernel
theorem dX9_init_60 : decode cX9_init 60 = .ok (.putfield 40, 3) := by decide +kernel
theorem dX9_init_63 : decode cX9_init 63 = .ok (.aload_n 0, 1) := by decide +kernel
theorem dX9_init_64 : decode cX9_init 64 = .ok (.new 44, 3) := by decide +kernel
theorem dX9_init_67 : decode cX9_init 67 = .ok (.dup, 1) := by decide +kernel
theorem dX9_init_68 : decode cX9_init 68 = .ok (.invokespecial 46, 3) := by decide +kernel
theorem dX9_init_71 : decode cX9_init 71 = .ok (.putfield 47, 3) := by decide +kernel
theorem dX9_init_74 : decode cX9_init 74 = .ok (.aload_n 0, 1) := by decide +kernel
theorem dX9_init_75 : decode cX9_init 75 = .ok (.new 44, 3) := by decide +kernel
theorem dX9_init_78 : decode cX9_init 78 = .ok (.dup, 1) := by decide +kernel
theorem dX9_init_79 : decode cX9_init 79 = .ok (.invokespecial 46, 3) := by decide +kernel
theorem dX9_init_82 : decode cX9_init 82 = .ok (.putfield 51, 3) := by decide +kernel
theorem dX9_init_85 : decode cX9_init 85 = .ok (.aload_n 0, 1) := by decide +kernel
theorem dX9_init_86 : decode cX9_init 86 = .ok (.new 54, 3) := by decide +kernel
theorem dX9_init_89 : decode cX9_init 89 = .ok (.dup, 1) := by decide +kernel
theorem dX9_init_90 : decode cX9_init 90 = .ok (.invokespecial 56, 3) := by decide +kernel
theorem dX9_init_93 : decode cX9_init 93 = .ok (.putfield 57, 3) := by decide +kernel
theorem dX9_init_96 : decode cX9_init 96 = .ok (.aload_n 0, 1) := by decide +kernel
theorem dX9_init_97 : decode cX9_init 97 = .ok (.new 61, 3) := by decide +kernel
theorem dX9_init_100 : decode cX9_init 100 = .ok (.dup, 1) := by decide +kernel
theorem dX9_init_101 : decode cX9_init 101 = .ok (.invokespecial 63, 3) := by decide +kernel
theorem dX9_init_104 : decode cX9_init 104 = .ok (.putfield 64, 3) := by decide +kernel
theorem dX9_init_107 : decode cX9_init 107 = .ok (.aload_n 0, 1) := by decide +kernel
theorem dX9_init_108 : decode cX9_init 108 = .ok (.new 68, 3) := by decide +kernel
theorem dX9_init_111 : decode cX9_init 111 = .ok (.dup, 1) := by decide +kernel
theorem dX9_init_112 : decode cX9_init 112 = .ok (.aload_n 0, 1) := by decide +kernel
theorem dX9_init_113 : decode cX9_init 113 = .ok (.getfield 33, 3) := by decide +kernel
theorem dX9_init_116 : decode cX9_init 116 = .ok (.invokespecial 70, 3) := by decide +kernel
theorem dX9_init_119 : decode cX9_init 119 = .ok (.putfield 73, 3) := by decide +kernel
theorem dX9_init_122 : decode cX9_init 122 = .ok (.aload_n 0, 1) := by decide +kernel
theorem dX9_init_123 : decode cX9_init 123 = .ok (.new 77, 3) := by decide +kernel
theorem dX9_init_126 : decode cX9_init 126 = .ok (.dup, 1) := by decide +kernel
theorem dX9_init_127 : decode cX9_init 127 = .ok (.invokespecial 79, 3) := by decide +kernel
theorem dX9_init_130 : decode cX9_init 130 = .ok (.putfield 80, 3) := by decide +kernel
theorem dX9_init_133 : decode cX9_init 133 = .ok (.aload_n 0, 1) := by decide +kernel
theorem dX9_init_134 : decode cX9_init 134 = .ok (.invokevirtual 84, 3) := by decide +kernel
theorem dX9_init_137 : decode cX9_init 137 = .ok (.return_, 1) := by decide +kernel
theorem dX9_feed_0 : decode cX9_feed 0 = .ok (.iload_n 1, 1) := by decide +kernel
theorem dX9_feed_1 : decode cX9_feed 1 = .ok (.ifCond .lt 9, 3) := by decide +kernel
theorem dX9_feed_4 : decode cX9_feed 4 = .ok (.iload_n 1, 1) := by decide +kernel
theorem dX9_feed_5 : decode cX9_feed 5 = .ok (.bipush 127, 2) := by decide +kernel
theorem dX9_feed_7 : decode cX9_feed 7 = .ok (.if_icmp .le 6, 3) := by decide +kernel
theorem dX9_feed_10 : decode cX9_feed 10 = .ok (.bipush (-2), 2) := by decide +kernel
theorem dX9_feed_12 : decode cX9_feed 12 = .ok (.ireturn, 1) := by decide +kernel
theorem dX9_feed_13 : decode cX9_feed 13 = .ok (.aload_n 0, 1) := by decide +kernel
theorem dX9_feed_14 : decode cX9_feed 14 = .ok (.getfield 14, 3) := by decide +kernel
theorem dX9_feed_17 : decode cX9_feed 17 = .ok (.iload_n 1, 1) := by decide +kernel
theorem dX9_feed_18 : decode cX9_feed 18 = .ok (.invokevirtual 87, 3) := by decide +kernel
theorem dX9_feed_21 : decode cX9_feed 21 = .ok (.ifCond .eq 13, 3) := by decide +kernel
theorem dX9_feed_24 : decode cX9_feed 24 = .ok (.aload_n 0, 1) := by decide +kernel
theorem dX9_feed_25 : decode cX9_feed 25 = .ok (.getfield 14, 3) := by decide +kernel
theorem dX9_feed_28 : decode cX9_feed 28 = .ok (.getfield 91, 3) := by decide +kernel
theorem dX9_feed_31 : decode cX9_feed 31 = .ok (.goto 5, 3) := by decide +kernel
theorem dX9_feed_34 : decode cX9_feed 34 = .ok (.bipush (-4), 2) := by decide +kernel
theorem dX9_feed_36 : decode cX9_feed 36 = .ok (.ireturn, 1) := by decide +kernel
theorem dX9_size_0 : decode cX9_size 0 = .ok (.iload_n 1, 1) := by decide +kernel
theorem dX9_size_1 : decode cX9_size 1 = .ok (.invokestatic 95, 3) := by decide +kernel
theorem dX9_size_4 : decode cX9_size 4 = .ok (.ifCond .eq 10, 3) := by decide +kernel
theorem dX9_size_7 : decode cX9_size 7 = .ok (.iload_n 2, 1) := by decide +kernel
theorem dX9_size_8 : decode cX9_size 8 = .ok (.invokestatic 95, 3) := by decide +kernel
theorem dX9_size_11 : decode cX9_size 11 = .ok (.ifCond .ne 6, 3) := by decide +kernel
theorem dX9_size_14 : decode cX9_size 14 = .ok (.bipush (-2), 2) := by decide +kernel
theorem dX9_size_16 : decode cX9_size 16 = .ok (.ireturn, 1) := by decide +kernel
theorem dX9_size_17 : decode cX9_size 17 = .ok (.aload_n 0, 1) := by decide +kernel
theorem dX9_size_18 : decode cX9_size 18 = .ok (.getfield 47, 3) := by decide +kernel
theorem dX9_size_21 : decode cX9_size 21 = .ok (.iload_n 1, 1) := by decide +kernel
theorem dX9_size_22 : decode cX9_size 22 = .ok (.iload_n 2, 1) := by decide +kernel
theorem dX9_size_23 : decode cX9_size 23 = .ok (.invokevirtual 98, 3) := by decide +kernel
theorem dX9_size_26 : decode cX9_size 26 = .ok (.aload_n 0, 1) := by decide +kernel
theorem dX9_size_27 : decode cX9_size 27 = .ok (.getfield 24, 3) := by decide +kernel
theorem dX9_size_30 : decode cX9_size 30 = .ok (.invokevirtual 102, 3) := by decide +kernel
theorem dX9_size_33 : decode cX9_size 33 = .ok (.aload_n 0, 1) := by decide +kernel
theorem dX9_size_34 : decode cX9_size 34 = .ok (.invokevirtual 84, 3) := by decide +kernel
theorem dX9_size_37 : decode cX9_size 37 = .ok (.aload_n 0, 1) := by decide +kernel
theorem dX9_size_38 : decode cX9_size 38 = .ok (.getfield 47, 3) := by decide +kernel
theorem dX9_size_41 : decode cX9_size 41 = .ok (.invokevirtual 105, 3) := by decide +kernel
theorem dX9_size_44 : decode cX9_size 44 = .ok (.ireturn, 1) := by decide +kernel
theorem dX9_define_0 : decode cX9_define 0 = .ok (.iload_n 1, 1) := by decide +kernel
theorem dX9_define_1 : decode cX9_define 1 = .ok (.invokestatic 109, 3) := by decide +kernel
theorem dX9_define_4 : decode cX9_define 4 = .ok (.ifCond .ne 5, 3) := by decide +kernel
theorem dX9_define_7 : decode cX9_define 7 = .ok (.iconst (-1), 1) := by decide +kernel
theorem dX9_define_8 : decode cX9_define 8 = .ok (.ireturn, 1) := by decide +kernel
theorem dX9_define_9 : decode cX9_define 9 = .ok (.aload_n 0, 1) := by decide +kernel
theorem dX9_define_10 : decode cX9_define 10 = .ok (.getfield 40, 3) := by decide +kernel
theorem dX9_define_13 : decode cX9_define 13 = .ok (.aload_n 0, 1) := by decide +kernel
theorem dX9_define_14 : decode cX9_define 14 = .ok (.getfield 14, 3) := by decide +kernel
theorem dX9_define_17 : decode cX9_define 17 = .ok (.invokevirtual 112, 3) := by decide +kernel
theorem dX9_define_20 : decode cX9_define 20 = .ok (.istore_n 2, 1) := by decide +kernel
theorem dX9_define_21 : decode cX9_define 21 = .ok (.aload_n 0, 1) := by decide +kernel
theorem dX9_define_22 : decode cX9_define 22 = .ok (.getfield 14, 3) := by decide +kernel
theorem dX9_define_25 : decode cX9_define 25 = .ok (.iconst 0, 1) := by decide +kernel
theorem dX9_define_26 : decode cX9_define 26 = .ok (.putfield 91, 3) := by decide +kernel
theorem dX9_define_29 : decode cX9_define 29 = .ok (.iload_n 2, 1) := by decide +kernel
theorem dX9_define_30 : decode cX9_define 30 = .ok (.ifCond .lt 8, 3) := by decide +kernel
theorem dX9_define_33 : decode cX9_define 33 = .ok (.bipush (-100), 2) := by decide +kernel
theorem dX9_define_35 : decode cX9_define 35 = .ok (.iload_n 2, 1) := by decide +kernel
theorem dX9_define_36 : decode cX9_define 36 = .ok (.isub, 1) := by decide +kernel
theorem dX9_define_37 : decode cX9_define 37 = .ok (.ireturn, 1) := by decide +kernel
theorem dX9_define_38 : decode cX9_define 38 = .ok (.aload_n 0, 1) := by decide +kernel
theorem dX9_define_39 : decode cX9_define 39 = .ok (.getfield 24, 3) := by decide +kernel
theorem dX9_define_42 : decode cX9_define 42 = .ok (.iload_n 1, 1) := by decide +kernel
theorem dX9_define_43 : decode cX9_define 43 = .ok (.aload_n 0, 1) := by decide +kernel
theorem dX9_define_44 : decode cX9_define 44 = .ok (.getfield 40, 3) := by decide +kernel
theorem dX9_define_47 : decode cX9_define 47 = .ok (.invokevirtual 116, 3) := by decide +kernel
theorem dX9_define_50 : decode cX9_define 50 = .ok (.aload_n 0, 1) := by decide +kernel
theorem dX9_define_51 : decode cX9_define 51 = .ok (.invokevirtual 84, 3) := by decide +kernel
theorem dX9_define_54 : decode cX9_define 54 = .ok (.aload_n 0, 1) := by decide +kernel
theorem dX9_define_55 : decode cX9_define 55 = .ok (.getfield 24, 3) := by decide +kernel
theorem dX9_define_58 : decode cX9_define 58 = .ok (.iload_n 1, 1) := by decide +kernel
theorem dX9_define_59 : decode cX9_define 59 = .ok (.invokevirtual 120, 3) := by decide +kernel
theorem dX9_define_62 : decode cX9_define 62 = .ok (.ireturn, 1) := by decide +kernel
theorem dX9_type_0 : decode cX9_type 0 = .ok (.iload_n 1, 1) := by decide +kernel
theorem dX9_type_1 : decode cX9_type 1 = .ok (.invokestatic 109, 3) := by decide +kernel
theorem dX9_type_4 : decode cX9_type 4 = .ok (.ifCond .eq 12, 3) := by decide +kernel
theorem dX9_type_7 : decode cX9_type 7 = .ok (.iload_n 2, 1) := by decide +kernel
theorem dX9_type_8 : decode cX9_type 8 = .ok (.ifCond .lt 8, 3) := by decide +kernel
theorem dX9_type_11 : decode cX9_type 11 = .ok (.iload_n 2, 1) := by decide +kernel
theorem dX9_type_12 : decode cX9_type 12 = .ok (.iconst 1, 1) := by decide +kernel
theorem dX9_type_13 : decode cX9_type 13 = .ok (.if_icmp .le 5, 3) := by decide +kernel
theorem dX9_type_16 : decode cX9_type 16 = .ok (.iconst (-1), 1) := by decide +kernel
theorem dX9_type_17 : decode cX9_type 17 = .ok (.ireturn, 1) := by decide +kernel
theorem dX9_type_18 : decode cX9_type 18 = .ok (.iload_n 2, 1) := by decide +kernel
theorem dX9_type_19 : decode cX9_type 19 = .ok (.ifCond .ne 13, 3) := by decide +kernel
theorem dX9_type_22 : decode cX9_type 22 = .ok (.iload_n 3, 1) := by decide +kernel
theorem dX9_type_23 : decode cX9_type 23 = .ok (.invokestatic 124, 3) := by decide +kernel
theorem dX9_type_26 : decode cX9_type 26 = .ok (.ifCond .ne 21, 3) := by decide +kernel
theorem dX9_type_29 : decode cX9_type 29 = .ok (.goto 15, 3) := by decide +kernel
theorem dX9_type_32 : decode cX9_type 32 = .ok (.iload_n 3, 1) := by decide +kernel
theorem dX9_type_33 : decode cX9_type 33 = .ok (.iconst (-1), 1) := by decide +kernel
theorem dX9_type_34 : decode cX9_type 34 = .ok (.if_icmp .eq 13, 3) := by decide +kernel
theorem dX9_type_37 : decode cX9_type 37 = .ok (.iload_n 3, 1) := by decide +kernel
theorem dX9_type_38 : decode cX9_type 38 = .ok (.invokestatic 109, 3) := by decide +kernel
theorem dX9_type_41 : decode cX9_type 41 = .ok (.ifCond .ne 6, 3) := by decide +kernel
theorem dX9_type_44 : decode cX9_type 44 = .ok (.bipush (-2), 2) := by decide +kernel
theorem dX9_type_46 : decode cX9_type 46 = .ok (.ireturn, 1) := by decide +kernel
theorem dX9_type_47 : decode cX9_type 47 = .ok (.iload_n 2, 1) := by decide +kernel
theorem dX9_type_48 : decode cX9_type 48 = .ok (.ifCond .ne 13, 3) := by decide +kernel
theorem dX9_type_51 : decode cX9_type 51 = .ok (.aload_n 0, 1) := by decide +kernel
theorem dX9_type_52 : decode cX9_type 52 = .ok (.getfield 24, 3) := by decide +kernel
theorem dX9_type_55 : decode cX9_type 55 = .ok (.getfield 127, 3) := by decide +kernel
theorem dX9_type_58 : decode cX9_type 58 = .ok (.goto 10, 3) := by decide +kernel
theorem dX9_type_61 : decode cX9_type 61 = .ok (.aload_n 0, 1) := by decide +kernel
theorem dX9_type_62 : decode cX9_type 62 = .ok (.getfield 24, 3) := by decide +kernel
theorem dX9_type_65 : decode cX9_type 65 = .ok (.getfield 131, 3) := by decide +kernel
theorem dX9_type_68 : decode cX9_type 68 = .ok (.astore 4, 2) := by decide +kernel
theorem dX9_type_70 : decode cX9_type 70 = .ok (.aload 4, 2) := by decide +kernel
theorem dX9_type_72 : decode cX9_type 72 = .ok (.iload_n 1, 1) := by decide +kernel
theorem dX9_type_73 : decode cX9_type 73 = .ok (.invokestatic 134, 3) := by decide +kernel
theorem dX9_type_76 : decode cX9_type 76 = .ok (.istore 5, 2) := by decide +kernel
theorem dX9_type_78 : decode cX9_type 78 = .ok (.aload 4, 2) := by decide +kernel
theorem dX9_type_80 : decode cX9_type 80 = .ok (.iload_n 1, 1) := by decide +kernel
theorem dX9_type_81 : decode cX9_type 81 = .ok (.iload_n 3, 1) := by decide +kernel
theorem dX9_type_82 : decode cX9_type 82 = .ok (.invokestatic 138, 3) := by decide +kernel
theorem dX9_type_85 : decode cX9_type 85 = .ok (.aload_n 0, 1) := by decide +kernel
theorem dX9_type_86 : decode cX9_type 86 = .ok (.invokevirtual 84, 3) := by decide +kernel
theorem dX9_type_89 : decode cX9_type 89 = .ok (.iload 5, 2) := by decide +kernel
theorem dX9_type_91 : decode cX9_type 91 = .ok (.ireturn, 1) := by decide +kernel
theorem dX9_rule_0 : decode cX9_rule 0 = .ok (.iload_n 1, 1) := by decide +kernel
theorem dX9_rule_1 : decode cX9_rule 1 = .ok (.ifCond .lt 8, 3) := by decide +kernel
theorem dX9_rule_4 : decode cX9_rule 4 = .ok (.iload_n 1, 1) := by decide +kernel
theorem dX9_rule_5 : decode cX9_rule 5 = .ok (.iconst 1, 1) := by decide +kernel
theorem dX9_rule_6 : decode cX9_rule 6 = .ok (.if_icmp .le 5, 3) := by decide +kernel
theorem dX9_rule_9 : decode cX9_rule 9 = .ok (.iconst (-1), 1) := by decide +kernel
theorem dX9_rule_10 : decode cX9_rule 10 = .ok (.ireturn, 1) := by decide +kernel
theorem dX9_rule_11 : decode cX9_rule 11 = .ok (.iload_n 2, 1) := by decide +kernel
theorem dX9_rule_12 : decode cX9_rule 12 = .ok (.ifCond .lt 16, 3) := by decide +kernel
theorem dX9_rule_15 : decode cX9_rule 15 = .ok (.iload_n 2, 1) := by decide +kernel
theorem dX9_rule_16 : decode cX9_rule 16 = .ok (.iload_n 1, 1) := by decide +kernel
theorem dX9_rule_17 : decode cX9_rule 17 = .ok (.ifCond .ne 7, 3) := by decide +kernel
theorem dX9_rule_20 : decode cX9_rule 20 = .ok (.iconst 1, 1) := by decide +kernel
theorem dX9_rule_21 : decode cX9_rule 21 = .ok (.goto 4, 3) := by decide +kernel
theorem dX9_rule_24 : decode cX9_rule 24 = .ok (.iconst 2, 1) := by decide +kernel
theorem dX9_rule_25 : decode cX9_rule 25 = .ok (.if_icmp .le 6, 3) := by decide +kernel
theorem dX9_rule_28 : decode cX9_rule 28 = .ok (.bipush (-2), 2) := by decide +kernel
theorem dX9_rule_30 : decode cX9_rule 30 = .ok (.ireturn, 1) := by decide +kernel
theorem dX9_rule_31 : decode cX9_rule 31 = .ok (.iload_n 1, 1) := by decide +kernel
theorem dX9_rule_32 : decode cX9_rule 32 = .ok (.ifCond .ne 13, 3) := by decide +kernel
theorem dX9_rule_35 : decode cX9_rule 35 = .ok (.aload_n 0, 1) := by decide +kernel
theorem dX9_rule_36 : decode cX9_rule 36 = .ok (.getfield 24, 3) := by decide +kernel
theorem dX9_rule_39 : decode cX9_rule 39 = .ok (.getfield 142, 3) := by decide +kernel
theorem dX9_rule_42 : decode cX9_rule 42 = .ok (.goto 10, 3) := by decide +kernel
theorem dX9_rule_45 : decode cX9_rule 45 = .ok (.aload_n 0, 1) := by decide +kernel
theorem dX9_rule_46 : decode cX9_rule 46 = .ok (.getfield 24, 3) := by decide +kernel
theorem dX9_rule_49 : decode cX9_rule 49 = .ok (.getfield 145, 3) := by decide +kernel
theorem dX9_rule_52 : decode cX9_rule 52 = .ok (.istore_n 3, 1) := by decide +kernel
theorem dX9_rule_53 : decode cX9_rule 53 = .ok (.iload_n 1, 1) := by decide +kernel
theorem dX9_rule_54 : decode cX9_rule 54 = .ok (.ifCond .ne 14, 3) := by decide +kernel
theorem dX9_rule_57 : decode cX9_rule 57 = .ok (.aload_n 0, 1) := by decide +kernel
theorem dX9_rule_58 : decode cX9_rule 58 = .ok (.getfield 24, 3) := by decide +kernel
theorem dX9_rule_61 : decode cX9_rule 61 = .ok (.iload_n 2, 1) := by decide +kernel
theorem dX9_rule_62 : decode cX9_rule 62 = .ok (.putfield 142, 3) := by decide +kernel
theorem dX9_rule_65 : decode cX9_rule 65 = .ok (.goto 11, 3) := by decide +kernel
theorem dX9_rule_68 : decode cX9_rule 68 = .ok (.aload_n 0, 1) := by decide +kernel
theorem dX9_rule_69 : decode cX9_rule 69 = .ok (.getfield 24, 3) := by decide +kernel
theorem dX9_rule_72 : decode cX9_rule 72 = .ok (.iload_n 2, 1) := by decide +kernel
theorem dX9_rule_73 : decode cX9_rule 73 = .ok (.putfield 145, 3) := by decide +kernel
theorem dX9_rule_76 : decode cX9_rule 76 = .ok (.aload_n 0, 1) := by decide +kernel
theorem dX9_rule_77 : decode cX9_rule 77 = .ok (.invokevirtual 84, 3) := by decide +kernel
theorem dX9_rule_80 : decode cX9_rule 80 = .ok (.iload_n 3, 1) := by decide +kernel
theorem dX9_rule_81 : decode cX9_rule 81 = .ok (.ireturn, 1) := by decide +kernel
theorem dX9_setup_0 : decode cX9_setup 0 = .ok (.aload_n 0, 1) := by decide +kernel
theorem dX9_setup_1 : decode cX9_setup 1 = .ok (.getfield 51, 3) := by decide +kernel
theorem dX9_setup_4 : decode cX9_setup 4 = .ok (.aload_n 0, 1) := by decide +kernel
theorem dX9_setup_5 : decode cX9_setup 5 = .ok (.getfield 47, 3) := by decide +kernel
theorem dX9_setup_8 : decode cX9_setup 8 = .ok (.getfield 148, 3) := by decide +kernel
theorem dX9_setup_11 : decode cX9_setup 11 = .ok (.aload_n 0, 1) := by decide +kernel
theorem dX9_setup_12 : decode cX9_setup 12 = .ok (.getfield 47, 3) := by decide +kernel
theorem dX9_setup_15 : decode cX9_setup 15 = .ok (.getfield 151, 3) := by decide +kernel
theorem dX9_setup_18 : decode cX9_setup 18 = .ok (.invokevirtual 98, 3) := by decide +kernel
theorem dX9_setup_21 : decode cX9_setup 21 = .ok (.aload_n 0, 1) := by decide +kernel
theorem dX9_setup_22 : decode cX9_setup 22 = .ok (.aload_n 0, 1) := by decide +kernel
theorem dX9_setup_23 : decode cX9_setup 23 = .ok (.getfield 51, 3) := by decide +kernel
theorem dX9_setup_26 : decode cX9_setup 26 = .ok (.invokevirtual 154, 3) := by decide +kernel
theorem dX9_setup_29 : decode cX9_setup 29 = .ok (.istore_n 1, 1) := by decide +kernel
theorem dX9_setup_30 : decode cX9_setup 30 = .ok (.aload_n 0, 1) := by decide +kernel
theorem dX9_setup_31 : decode cX9_setup 31 = .ok (.getfield 14, 3) := by decide +kernel
theorem dX9_setup_34 : decode cX9_setup 34 = .ok (.iconst 0, 1) := by decide +kernel
theorem dX9_setup_35 : decode cX9_setup 35 = .ok (.putfield 91, 3) := by decide +kernel
theorem dX9_setup_38 : decode cX9_setup 38 = .ok (.iload_n 1, 1) := by decide +kernel
theorem dX9_setup_39 : decode cX9_setup 39 = .ok (.ifCond .lt 8, 3) := by decide +kernel
theorem dX9_setup_42 : decode cX9_setup 42 = .ok (.bipush (-100), 2) := by decide +kernel
theorem dX9_setup_44 : decode cX9_setup 44 = .ok (.iload_n 1, 1) := by decide +kernel
theorem dX9_setup_45 : decode cX9_setup 45 = .ok (.isub, 1) := by decide +kernel
theorem dX9_setup_46 : decode cX9_setup 46 = .ok (.ireturn, 1) := by decide +kernel
theorem dX9_setup_47 : decode cX9_setup 47 = .ok (.aload_n 0, 1) := by decide +kernel
theorem dX9_setup_48 : decode cX9_setup 48 = .ok (.getfield 47, 3) := by decide +kernel
theorem dX9_setup_51 : decode cX9_setup 51 = .ok (.aload_n 0, 1) := by decide +kernel
theorem dX9_setup_52 : decode cX9_setup 52 = .ok (.getfield 51, 3) := by decide +kernel
theorem dX9_setup_55 : decode cX9_setup 55 = .ok (.invokevirtual 158, 3) := by decide +kernel
theorem dX9_setup_58 : decode cX9_setup 58 = .ok (.aload_n 0, 1) := by decide +kernel
theorem dX9_setup_59 : decode cX9_setup 59 = .ok (.getfield 47, 3) := by decide +kernel
theorem dX9_setup_62 : decode cX9_setup 62 = .ok (.aload_n 0, 1) := by decide +kernel
theorem dX9_setup_63 : decode cX9_setup 63 = .ok (.getfield 24, 3) := by decide +kernel
theorem dX9_setup_66 : decode cX9_setup 66 = .ok (.invokevirtual 162, 3) := by decide +kernel
theorem dX9_setup_69 : decode cX9_setup 69 = .ok (.putfield 165, 3) := by decide +kernel
theorem dX9_setup_72 : decode cX9_setup 72 = .ok (.aload_n 0, 1) := by decide +kernel
theorem dX9_setup_73 : decode cX9_setup 73 = .ok (.invokevirtual 84, 3) := by decide +kernel
theorem dX9_setup_76 : decode cX9_setup 76 = .ok (.aload_n 0, 1) := by decide +kernel
theorem dX9_setup_77 : decode cX9_setup 77 = .ok (.getfield 47, 3) := by decide +kernel
theorem dX9_setup_80 : decode cX9_setup 80 = .ok (.invokevirtual 168, 3) := by decide +kernel
theorem dX9_setup_83 : decode cX9_setup 83 = .ok (.ireturn, 1) := by decide +kernel
theorem dX9_side_0 : decode cX9_side 0 = .ok (.iload_n 1, 1) := by decide +kernel
theorem dX9_side_1 : decode cX9_side 1 = .ok (.invokestatic 124, 3) := by decide +kernel
theorem dX9_side_4 : decode cX9_side 4 = .ok (.ifCond .ne 6, 3) := by decide +kernel
theorem dX9_side_7 : decode cX9_side 7 = .ok (.bipush (-2), 2) := by decide +kernel
theorem dX9_side_9 : decode cX9_side 9 = .ok (.ireturn, 1) := by decide +kernel
theorem dX9_side_10 : decode cX9_side 10 = .ok (.aload_n 0, 1) := by decide +kernel
theorem dX9_side_11 : decode cX9_side 11 = .ok (.getfield 47, 3) := by decide +kernel
theorem dX9_side_14 : decode cX9_side 14 = .ok (.getfield 171, 3) := by decide +kernel
theorem dX9_side_17 : decode cX9_side 17 = .ok (.istore_n 2, 1) := by decide +kernel
theorem dX9_side_18 : decode cX9_side 18 = .ok (.aload_n 0, 1) := by decide +kernel
theorem dX9_side_19 : decode cX9_side 19 = .ok (.getfield 47, 3) := by decide +kernel
theorem dX9_side_22 : decode cX9_side 22 = .ok (.iload_n 1, 1) := by decide +kernel
theorem dX9_side_23 : decode cX9_side 23 = .ok (.putfield 171, 3) := by decide +kernel
theorem dX9_side_26 : decode cX9_side 26 = .ok (.aload_n 0, 1) := by decide +kernel
theorem dX9_side_27 : decode cX9_side 27 = .ok (.invokevirtual 84, 3) := by decide +kernel
theorem dX9_side_30 : decode cX9_side 30 = .ok (.iload_n 2, 1) := by decide +kernel
theorem dX9_side_31 : decode cX9_side 31 = .ok (.ireturn, 1) := by decide +kernel
theorem dX9_hand_0 : decode cX9_hand 0 = .ok (.iload_n 1, 1) := by decide +kernel
theorem dX9_hand_1 : decode cX9_hand 1 = .ok (.invokestatic 124, 3) := by decide +kernel
theorem dX9_hand_4 : decode cX9_hand 4 = .ok (.ifCond .eq 10, 3) := by decide +kernel
theorem dX9_hand_7 : decode cX9_hand 7 = .ok (.iload_n 2, 1) := by decide +kernel
theorem dX9_hand_8 : decode cX9_hand 8 = .ok (.invokestatic 109, 3) := by decide +kernel
theorem dX9_hand_11 : decode cX9_hand 11 = .ok (.ifCond .ne 5, 3) := by decide +kernel
theorem dX9_hand_14 : decode cX9_hand 14 = .ok (.iconst (-1), 1) := by decide +kernel
theorem dX9_hand_15 : decode cX9_hand 15 = .ok (.ireturn, 1) := by decide +kernel
theorem dX9_hand_16 : decode cX9_hand 16 = .ok (.iload_n 3, 1) := by decide +kernel
theorem dX9_hand_17 : decode cX9_hand 17 = .ok (.ifCond .lt 9, 3) := by decide +kernel
theorem dX9_hand_20 : decode cX9_hand 20 = .ok (.iload_n 3, 1) := by decide +kernel
theorem dX9_hand_21 : decode cX9_hand 21 = .ok (.bipush 9, 2) := by decide +kernel
theorem dX9_hand_23 : decode cX9_hand 23 = .ok (.if_icmp .le 6, 3) := by decide +kernel
theorem dX9_hand_26 : decode cX9_hand 26 = .ok (.bipush (-2), 2) := by decide +kernel
theorem dX9_hand_28 : decode cX9_hand 28 = .ok (.ireturn, 1) := by decide +kernel
theorem dX9_hand_29 : decode cX9_hand 29 = .ok (.aload_n 0, 1) := by decide +kernel
theorem dX9_hand_30 : decode cX9_hand 30 = .ok (.getfield 47, 3) := by decide +kernel
theorem dX9_hand_33 : decode cX9_hand 33 = .ok (.iload_n 1, 1) := by decide +kernel
theorem dX9_hand_34 : decode cX9_hand 34 = .ok (.iload_n 2, 1) := by decide +kernel
theorem dX9_hand_35 : decode cX9_hand 35 = .ok (.invokevirtual 174, 3) := by decide +kernel
theorem dX9_hand_38 : decode cX9_hand 38 = .ok (.istore 4, 2) := by decide +kernel
theorem dX9_hand_40 : decode cX9_hand 40 = .ok (.aload_n 0, 1) := by decide +kernel
theorem dX9_hand_41 : decode cX9_hand 41 = .ok (.getfield 47, 3) := by decide +kernel
theorem dX9_hand_44 : decode cX9_hand 44 = .ok (.iload_n 1, 1) := by decide +kernel
theorem dX9_hand_45 : decode cX9_hand 45 = .ok (.iload_n 2, 1) := by decide +kernel
theorem dX9_hand_46 : decode cX9_hand 46 = .ok (.iload_n 3, 1) := by decide +kernel
theorem dX9_hand_47 : decode cX9_hand 47 = .ok (.iload 4, 2) := by decide +kernel
theorem dX9_hand_49 : decode cX9_hand 49 = .ok (.isub, 1) := by decide +kernel
theorem dX9_hand_50 : decode cX9_hand 50 = .ok (.invokevirtual 178, 3) := by decide +kernel
theorem dX9_hand_53 : decode cX9_hand 53 = .ok (.aload_n 0, 1) := by decide +kernel
theorem dX9_hand_54 : decode cX9_hand 54 = .ok (.invokevirtual 84, 3) := by decide +kernel
theorem dX9_hand_57 : decode cX9_hand 57 = .ok (.iload 4, 2) := by decide +kernel
theorem dX9_hand_59 : decode cX9_hand 59 = .ok (.ireturn, 1) := by decide +kernel
theorem dX9_castle_0 : decode cX9_castle 0 = .ok (.iload_n 1, 1) := by decide +kernel
theorem dX9_castle_1 : decode cX9_castle 1 = .ok (.ifCond .lt 50, 3) := by decide +kernel
theorem dX9_castle_4 : decode cX9_castle 4 = .ok (.iload_n 1, 1) := by decide +kernel
theorem dX9_castle_5 : decode cX9_castle 5 = .ok (.iconst 4, 1) := by decide +kernel
theorem dX9_castle_6 : decode cX9_castle 6 = .ok (.if_icmp .ge 45, 3) := by decide +kernel
theorem dX9_castle_9 : decode cX9_castle 9 = .ok (.iload_n 2, 1) := by decide +kernel
theorem dX9_castle_10 : decode cX9_castle 10 = .ok (.invokestatic 124, 3) := by decide +kernel
theorem dX9_castle_13 : decode cX9_castle 13 = .ok (.ifCond .eq 38, 3) := by decide +kernel
theorem dX9_castle_16 : decode cX9_castle 16 = .ok (.aload_n 0, 1) := by decide +kernel
theorem dX9_castle_17 : decode cX9_castle 17 = .ok (.iload_n 3, 1) := by decide +kernel
theorem dX9_castle_18 : decode cX9_castle 18 = .ok (.invokevirtual 182, 3) := by decide +kernel
theorem dX9_castle_21 : decode cX9_castle 21 = .ok (.ifCond .eq 30, 3) := by decide +kernel
theorem dX9_castle_24 : decode cX9_castle 24 = .ok (.aload_n 0, 1) := by decide +kernel
theorem dX9_castle_25 : decode cX9_castle 25 = .ok (.iload 4, 2) := by decide +kernel
theorem dX9_castle_27 : decode cX9_castle 27 = .ok (.invokevirtual 182, 3) := by decide +kernel
theorem dX9_castle_30 : decode cX9_castle 30 = .ok (.ifCond .eq 21, 3) := by decide +kernel
theorem dX9_castle_33 : decode cX9_castle 33 = .ok (.aload_n 0, 1) := by decide +kernel
theorem dX9_castle_34 : decode cX9_castle 34 = .ok (.iload 5, 2) := by decide +kernel
theorem dX9_castle_36 : decode cX9_castle 36 = .ok (.invokevirtual 182, 3) := by decide +kernel
theorem dX9_castle_39 : decode cX9_castle 39 = .ok (.ifCond .eq 12, 3) := by decide +kernel
theorem dX9_castle_42 : decode cX9_castle 42 = .ok (.aload_n 0, 1) := by decide +kernel
theorem dX9_castle_43 : decode cX9_castle 43 = .ok (.iload 6, 2) := by decide +kernel
theorem dX9_castle_45 : decode cX9_castle 45 = .ok (.invokevirtual 182, 3) := by decide +kernel
theorem dX9_castle_48 : decode cX9_castle 48 = .ok (.ifCond .ne 5, 3) := by decide +kernel
theorem dX9_castle_51 : decode cX9_castle 51 = .ok (.iconst (-1), 1) := by decide +kernel
theorem dX9_castle_52 : decode cX9_castle 52 = .ok (.ireturn, 1) := by decide +kernel
theorem dX9_castle_53 : decode cX9_castle 53 = .ok (.aload_n 0, 1) := by decide +kernel
theorem dX9_castle_54 : decode cX9_castle 54 = .ok (.getfield 47, 3) := by decide +kernel
theorem dX9_castle_57 : decode cX9_castle 57 = .ok (.iload_n 3, 1) := by decide +kernel
theorem dX9_castle_58 : decode cX9_castle 58 = .ok (.invokevirtual 185, 3) := by decide +kernel
theorem dX9_castle_61 : decode cX9_castle 61 = .ok (.istore 7, 2) := by decide +kernel
theorem dX9_castle_63 : decode cX9_castle 63 = .ok (.iload 7, 2) := by decide +kernel
theorem dX9_castle_65 : decode cX9_castle 65 = .ok (.aload_n 0, 1) := by decide +kernel
theorem dX9_castle_66 : decode cX9_castle 66 = .ok (.getfield 47, 3) := by decide +kernel
theorem dX9_castle_69 : decode cX9_castle 69 = .ok (.iload 4, 2) := by decide +kernel
theorem dX9_castle_71 : decode cX9_castle 71 = .ok (.invokevirtual 185, 3) := by decide +kernel
theorem dX9_castle_74 : decode cX9_castle 74 = .ok (.if_icmp .ne 44, 3) := by decide +kernel
theorem dX9_castle_77 : decode cX9_castle 77 = .ok (.iload 7, 2) := by decide +kernel
theorem dX9_castle_79 : decode cX9_castle 79 = .ok (.aload_n 0, 1) := by decide +kernel
theorem dX9_castle_80 : decode cX9_castle 80 = .ok (.getfield 47, 3) := by decide +kernel
theorem dX9_castle_83 : decode cX9_castle 83 = .ok (.iload 5, 2) := by decide +kernel
theorem dX9_castle_85 : decode cX9_castle 85 = .ok (.invokevirtual 185, 3) := by decide +kernel
theorem dX9_castle_88 : decode cX9_castle 88 = .ok (.if_icmp .ne 30, 3) := by decide +kernel
theorem dX9_castle_91 : decode cX9_castle 91 = .ok (.iload 7, 2) := by decide +kernel
theorem dX9_castle_93 : decode cX9_castle 93 = .ok (.aload_n 0, 1) := by decide +kernel
theorem dX9_castle_94 : decode cX9_castle 94 = .ok (.getfield 47, 3) := by decide +kernel
theorem dX9_castle_97 : decode cX9_castle 97 = .ok (.iload 6, 2) := by decide +kernel
theorem dX9_castle_99 : decode cX9_castle 99 = .ok (.invokevirtual 185, 3) := by decide +kernel
theorem dX9_castle_102 : decode cX9_castle 102 = .ok (.if_icmp .ne 16, 3) := by decide +kernel
theorem dX9_castle_105 : decode cX9_castle 105 = .ok (.iload_n 3, 1) := by decide +kernel
theorem dX9_castle_106 : decode cX9_castle 106 = .ok (.iload 5, 2) := by decide +kernel
theorem dX9_castle_108 : decode cX9_castle 108 = .ok (.if_icmp .eq 10, 3) := by decide +kernel
theorem dX9_castle_111 : decode cX9_castle 111 = .ok (.iload 4, 2) := by decide +kernel
theorem dX9_castle_113 : decode cX9_castle 113 = .ok (.iload 6, 2) := by decide +kernel
theorem dX9_castle_115 : decode cX9_castle 115 = .ok (.if_icmp .ne 6, 3) := by decide +kernel
theorem dX9_castle_118 : decode cX9_castle 118 = .ok (.bipush (-2), 2) := by decide +kernel
theorem dX9_castle_120 : decode cX9_castle 120 = .ok (.ireturn, 1) := by decide +kernel
theorem dX9_castle_121 : decode cX9_castle 121 = .ok (.aload_n 0, 1) := by decide +kernel
theorem dX9_castle_122 : decode cX9_castle 122 = .ok (.getfield 24, 3) := by decide +kernel
theorem dX9_castle_125 : decode cX9_castle 125 = .ok (.getfield 188, 3) := by decide +kernel
theorem dX9_castle_128 : decode cX9_castle 128 = .ok (.iload_n 1, 1) := by decide +kernel
theorem dX9_castle_129 : decode cX9_castle 129 = .ok (.iload_n 2, 1) := by decide +kernel
theorem dX9_castle_130 : decode cX9_castle 130 = .ok (.invokestatic 138, 3) := by decide +kernel
theorem dX9_castle_133 : decode cX9_castle 133 = .ok (.aload_n 0, 1) := by decide +kernel
theorem dX9_castle_134 : decode cX9_castle 134 = .ok (.getfield 24, 3) := by decide +kernel
theorem dX9_castle_137 : decode cX9_castle 137 = .ok (.getfield 191, 3) := by decide +kernel
theorem dX9_castle_140 : decode cX9_castle 140 = .ok (.iconst 4, 1) := by decide +kernel
theorem dX9_castle_141 : decode cX9_castle 141 = .ok (.iload_n 1, 1) := by decide +kernel
theorem dX9_castle_142 : decode cX9_castle 142 = .ok (.imul, 1) := by decide +kernel
theorem dX9_castle_143 : decode cX9_castle 143 = .ok (.iconst 0, 1) := by decide +kernel
theorem dX9_castle_144 : decode cX9_castle 144 = .ok (.iadd, 1) := by decide +kernel
theorem dX9_castle_145 : decode cX9_castle 145 = .ok (.iload_n 3, 1) := by decide +kernel
theorem dX9_castle_146 : decode cX9_castle 146 = .ok (.invokestatic 138, 3) := by decide +kernel
theorem dX9_castle_149 : decode cX9_castle 149 = .ok (.aload_n 0, 1) := by decide +kernel
theorem dX9_castle_150 : decode cX9_castle 150 = .ok (.getfield 24, 3) := by decide +kernel
theorem dX9_castle_153 : decode cX9_castle 153 = .ok (.getfield 191, 3) := by decide +kernel
theorem dX9_castle_156 : decode cX9_castle 156 = .ok (.iconst 4, 1) := by decide +kernel
theorem dX9_castle_157 : decode cX9_castle 157 = .ok (.iload_n 1, 1) := by decide +kernel
theorem dX9_castle_158 : decode cX9_castle 158 = .ok (.imul, 1) := by decide +kernel
theorem dX9_castle_159 : decode cX9_castle 159 = .ok (.iconst 1, 1) := by decide +kernel
theorem dX9_castle_160 : decode cX9_castle 160 = .ok (.iadd, 1) := by decide +kernel
theorem dX9_castle_161 : decode cX9_castle 161 = .ok (.iload 4, 2) := by decide +kernel
theorem dX9_castle_163 : decode cX9_castle 163 = .ok (.invokestatic 138, 3) := by decide +kernel
theorem dX9_castle_166 : decode cX9_castle 166 = .ok (.aload_n 0, 1) := by decide +kernel
theorem dX9_castle_167 : decode cX9_castle 167 = .ok (.getfield 24, 3) := by decide +kernel
theorem dX9_castle_170 : decode cX9_castle 170 = .ok (.getfield 191, 3) := by decide +kernel
theorem dX9_castle_173 : decode cX9_castle 173 = .ok (.iconst 4, 1) := by decide +kernel
theorem dX9_castle_174 : decode cX9_castle 174 = .ok (.iload_n 1, 1) := by decide +kernel
theorem dX9_castle_175 : decode cX9_castle 175 = .ok (.imul, 1) := by decide +kernel
theorem dX9_castle_176 : decode cX9_castle 176 = .ok (.iconst 2, 1) := by decide +kernel
theorem dX9_castle_177 : decode cX9_castle 177 = .ok (.iadd, 1) := by decide +kernel
theorem dX9_castle_178 : decode cX9_castle 178 = .ok (.iload 5, 2) := by decide +kernel
theorem dX9_castle_180 : decode cX9_castle 180 = .ok (.invokestatic 138, 3) := by decide +kernel
theorem dX9_castle_183 : decode cX9_castle 183 = .ok (.aload_n 0, 1) := by decide +kernel
theorem dX9_castle_184 : decode cX9_castle 184 = .ok (.getfield 24, 3) := by decide +kernel
theorem dX9_castle_187 : decode cX9_castle 187 = .ok (.getfield 191, 3) := by decide +kernel
theorem dX9_castle_190 : decode cX9_castle 190 = .ok (.iconst 4, 1) := by decide +kernel
theorem dX9_castle_191 : decode cX9_castle 191 = .ok (.iload_n 1, 1) := by decide +kernel
theorem dX9_castle_192 : decode cX9_castle 192 = .ok (.imul, 1) := by decide +kernel
theorem dX9_castle_193 : decode cX9_castle 193 = .ok (.iconst 3, 1) := by decide +kernel
theorem dX9_castle_194 : decode cX9_castle 194 = .ok (.iadd, 1) := by decide +kernel
theorem dX9_castle_195 : decode cX9_castle 195 = .ok (.iload 6, 2) := by decide +kernel
theorem dX9_castle_197 : decode cX9_castle 197 = .ok (.invokestatic 138, 3) := by decide +kernel
theorem dX9_castle_200 : decode cX9_castle 200 = .ok (.aload_n 0, 1) := by decide +kernel
theorem dX9_castle_201 : decode cX9_castle 201 = .ok (.getfield 47, 3) := by decide +kernel
theorem dX9_castle_204 : decode cX9_castle 204 = .ok (.dup, 1) := by decide +kernel
theorem dX9_castle_205 : decode cX9_castle 205 = .ok (.getfield 165, 3) := by decide +kernel
theorem dX9_castle_208 : decode cX9_castle 208 = .ok (.iconst 1, 1) := by decide +kernel
theorem dX9_castle_209 : decode cX9_castle 209 = .ok (.iload_n 1, 1) := by decide +kernel
theorem dX9_castle_210 : decode cX9_castle 210 = .ok (.ishl, 1) := by decide +kernel
theorem dX9_castle_211 : decode cX9_castle 211 = .ok (.ior, 1) := by decide +kernel
theorem dX9_castle_212 : decode cX9_castle 212 = .ok (.putfield 165, 3) := by decide +kernel
theorem dX9_castle_215 : decode cX9_castle 215 = .ok (.aload_n 0, 1) := by decide +kernel
theorem dX9_castle_216 : decode cX9_castle 216 = .ok (.invokevirtual 84, 3) := by decide +kernel
theorem dX9_castle_219 : decode cX9_castle 219 = .ok (.aload_n 0, 1) := by decide +kernel
theorem dX9_castle_220 : decode cX9_castle 220 = .ok (.getfield 24, 3) := by decide +kernel
theorem dX9_castle_223 : decode cX9_castle 223 = .ok (.invokevirtual 162, 3) := by decide +kernel
theorem dX9_castle_226 : decode cX9_castle 226 = .ok (.invokestatic 194, 3) := by decide +kernel
theorem dX9_castle_229 : decode cX9_castle 229 = .ok (.ireturn, 1) := by decide +kernel
theorem dX9_at_0 : decode cX9_at 0 = .ok (.aload_n 0, 1) := by decide +kernel
theorem dX9_at_1 : decode cX9_at 1 = .ok (.iload_n 1, 1) := by decide +kernel
theorem dX9_at_2 : decode cX9_at 2 = .ok (.invokevirtual 182, 3) := by decide +kernel
theorem dX9_at_5 : decode cX9_at 5 = .ok (.ifCond .ne 5, 3) := by decide +kernel
theorem dX9_at_8 : decode cX9_at 8 = .ok (.iconst (-1), 1) := by decide +kernel
theorem dX9_at_9 : decode cX9_at 9 = .ok (.ireturn, 1) := by decide +kernel
theorem dX9_at_10 : decode cX9_at 10 = .ok (.aload_n 0, 1) := by decide +kernel
theorem dX9_at_11 : decode cX9_at 11 = .ok (.getfield 47, 3) := by decide +kernel
theorem dX9_at_14 : decode cX9_at 14 = .ok (.iload_n 1, 1) := by decide +kernel
theorem dX9_at_15 : decode cX9_at 15 = .ok (.invokevirtual 199, 3) := by decide +kernel
theorem dX9_at_18 : decode cX9_at 18 = .ok (.istore_n 2, 1) := by decide +kernel
theorem dX9_at_19 : decode cX9_at 19 = .ok (.iload_n 2, 1) := by decide +kernel
theorem dX9_at_20 : decode cX9_at 20 = .ok (.ifCond .ne 8, 3) := by decide +kernel
theorem dX9_at_23 : decode cX9_at 23 = .ok (.bipush (-5), 2) := by decide +kernel
theorem dX9_at_25 : decode cX9_at 25 = .ok (.goto 6, 3) := by decide +kernel
theorem dX9_at_28 : decode cX9_at 28 = .ok (.iload_n 2, 1) := by decide +kernel
theorem dX9_at_29 : decode cX9_at 29 = .ok (.iconst 1, 1) := by decide +kernel
theorem dX9_at_30 : decode cX9_at 30 = .ok (.isub, 1) := by decide +kernel
theorem dX9_at_31 : decode cX9_at 31 = .ok (.ireturn, 1) := by decide +kernel
theorem dX9_moves_0 : decode cX9_moves 0 = .ok (.iload_n 1, 1) := by decide +kernel
theorem dX9_moves_1 : decode cX9_moves 1 = .ok (.ifCond .lt 8, 3) := by decide +kernel
theorem dX9_moves_4 : decode cX9_moves 4 = .ok (.iload_n 1, 1) := by decide +kernel
theorem dX9_moves_5 : decode cX9_moves 5 = .ok (.iconst 5, 1) := by decide +kernel
theorem dX9_moves_6 : decode cX9_moves 6 = .ok (.if_icmp .le 5, 3) := by decide +kernel
theorem dX9_moves_9 : decode cX9_moves 9 = .ok (.iconst (-1), 1) := by decide +kernel
theorem dX9_moves_10 : decode cX9_moves 10 = .ok (.ireturn, 1) := by decide +kernel
theorem dX9_moves_11 : decode cX9_moves 11 = .ok (.aload_n 0, 1) := by decide +kernel
theorem dX9_moves_12 : decode cX9_moves 12 = .ok (.invokevirtual 202, 3) := by decide +kernel
theorem dX9_moves_15 : decode cX9_moves 15 = .ok (.iconst 0, 1) := by decide +kernel
theorem dX9_moves_16 : decode cX9_moves 16 = .ok (.istore_n 2, 1) := by decide +kernel
theorem dX9_moves_17 : decode cX9_moves 17 = .ok (.iconst 0, 1) := by decide +kernel
theorem dX9_moves_18 : decode cX9_moves 18 = .ok (.istore_n 3, 1) := by decide +kernel
theorem dX9_moves_19 : decode cX9_moves 19 = .ok (.iload_n 3, 1) := by decide +kernel
theorem dX9_moves_20 : decode cX9_moves 20 = .ok (.aload_n 0, 1) := by decide +kernel
theorem dX9_moves_21 : decode cX9_moves 21 = .ok (.getfield 64, 3) := by decide +kernel
theorem dX9_moves_24 : decode cX9_moves 24 = .ok (.getfield 205, 3) := by decide +kernel
theorem dX9_moves_27 : decode cX9_moves 27 = .ok (.if_icmp .ge 28, 3) := by decide +kernel
theorem dX9_moves_30 : decode cX9_moves 30 = .ok (.aload_n 0, 1) := by decide +kernel
theorem dX9_moves_31 : decode cX9_moves 31 = .ok (.aload_n 0, 1) := by decide +kernel
theorem dX9_moves_32 : decode cX9_moves 32 = .ok (.getfield 64, 3) := by decide +kernel
theorem dX9_moves_35 : decode cX9_moves 35 = .ok (.iload_n 3, 1) := by decide +kernel
theorem dX9_moves_36 : decode cX9_moves 36 = .ok (.invokevirtual 206, 3) := by decide +kernel
theorem dX9_moves_39 : decode cX9_moves 39 = .ok (.iload_n 1, 1) := by decide +kernel
theorem dX9_moves_40 : decode cX9_moves 40 = .ok (.invokevirtual 209, 3) := by decide +kernel
theorem dX9_moves_43 : decode cX9_moves 43 = .ok (.ifCond .eq 6, 3) := by decide +kernel
theorem dX9_moves_46 : decode cX9_moves 46 = .ok (.iinc 2 1, 3) := by decide +kernel
theorem dX9_moves_49 : decode cX9_moves 49 = .ok (.iinc 3 1, 3) := by decide +kernel
theorem dX9_moves_52 : decode cX9_moves 52 = .ok (.goto (-33), 3) := by decide +kernel
theorem dX9_moves_55 : decode cX9_moves 55 = .ok (.iload_n 2, 1) := by decide +kernel
theorem dX9_moves_56 : decode cX9_moves 56 = .ok (.ireturn, 1) := by decide +kernel
theorem dX9_move_0 : decode cX9_move 0 = .ok (.aload_n 0, 1) := by decide +kernel
theorem dX9_move_1 : decode cX9_move 1 = .ok (.invokevirtual 202, 3) := by decide +kernel
theorem dX9_move_4 : decode cX9_move 4 = .ok (.aload_n 0, 1) := by decide +kernel
theorem dX9_move_5 : decode cX9_move 5 = .ok (.getfield 64, 3) := by decide +kernel
theorem dX9_move_8 : decode cX9_move 8 = .ok (.iload_n 1, 1) := by decide +kernel
theorem dX9_move_9 : decode cX9_move 9 = .ok (.invokevirtual 206, 3) := by decide +kernel
theorem dX9_move_12 : decode cX9_move 12 = .ok (.istore_n 3, 1) := by decide +kernel
theorem dX9_move_13 : decode cX9_move 13 = .ok (.iload_n 3, 1) := by decide +kernel
theorem dX9_move_14 : decode cX9_move 14 = .ok (.ifCond .ge 5, 3) := by decide +kernel
theorem dX9_move_17 : decode cX9_move 17 = .ok (.iconst (-1), 1) := by decide +kernel
theorem dX9_move_18 : decode cX9_move 18 = .ok (.ireturn, 1) := by decide +kernel
theorem dX9_move_19 : decode cX9_move 19 = .ok (.iload_n 2, 1) := by decide +kernel
theorem dX9_move_20 : decode cX9_move 20 = .ok (.tableswitch 123 0 7 #[48, 53, 59, 65, 81, 87, 103, 117], 48) := by decide +kernel
theorem dX9_move_68 : decode cX9_move 68 = .ok (.iload_n 3, 1) := by decide +kernel
theorem dX9_move_69 : decode cX9_move 69 = .ok (.invokestatic 213, 3) := by decide +kernel
theorem dX9_move_72 : decode cX9_move 72 = .ok (.ireturn, 1) := by decide +kernel
theorem dX9_move_73 : decode cX9_move 73 = .ok (.aload_n 0, 1) := by decide +kernel
theorem dX9_move_74 : decode cX9_move 74 = .ok (.iload_n 3, 1) := by decide +kernel
theorem dX9_move_75 : decode cX9_move 75 = .ok (.invokevirtual 216, 3) := by decide +kernel
theorem dX9_move_78 : decode cX9_move 78 = .ok (.ireturn, 1) := by decide +kernel
theorem dX9_move_79 : decode cX9_move 79 = .ok (.aload_n 0, 1) := by decide +kernel
theorem dX9_move_80 : decode cX9_move 80 = .ok (.iload_n 3, 1) := by decide +kernel
theorem dX9_move_81 : decode cX9_move 81 = .ok (.invokevirtual 219, 3) := by decide +kernel
theorem dX9_move_84 : decode cX9_move 84 = .ok (.ireturn, 1) := by decide +kernel
theorem dX9_move_85 : decode cX9_move 85 = .ok (.aload_n 0, 1) := by decide +kernel
theorem dX9_move_86 : decode cX9_move 86 = .ok (.getfield 33, 3) := by decide +kernel
theorem dX9_move_89 : decode cX9_move 89 = .ok (.aload_n 0, 1) := by decide +kernel
theorem dX9_move_90 : decode cX9_move 90 = .ok (.getfield 47, 3) := by decide +kernel
theorem dX9_move_93 : decode cX9_move 93 = .ok (.iload_n 3, 1) := by decide +kernel
theorem dX9_move_94 : decode cX9_move 94 = .ok (.invokevirtual 222, 3) := by decide +kernel
theorem dX9_move_97 : decode cX9_move 97 = .ok (.invokestatic 226, 3) := by decide +kernel
theorem dX9_move_100 : decode cX9_move 100 = .ok (.ireturn, 1) := by decide +kernel
theorem dX9_move_101 : decode cX9_move 101 = .ok (.aload_n 0, 1) := by decide +kernel
theorem dX9_move_102 : decode cX9_move 102 = .ok (.iload_n 3, 1) := by decide +kernel
theorem dX9_move_103 : decode cX9_move 103 = .ok (.invokevirtual 229, 3) := by decide +kernel
theorem dX9_move_106 : decode cX9_move 106 = .ok (.ireturn, 1) := by decide +kernel
theorem dX9_move_107 : decode cX9_move 107 = .ok (.aload_n 0, 1) := by decide +kernel
theorem dX9_move_108 : decode cX9_move 108 = .ok (.getfield 33, 3) := by decide +kernel
theorem dX9_move_111 : decode cX9_move 111 = .ok (.aload_n 0, 1) := by decide +kernel
theorem dX9_move_112 : decode cX9_move 112 = .ok (.getfield 47, 3) := by decide +kernel
theorem dX9_move_115 : decode cX9_move 115 = .ok (.iload_n 3, 1) := by decide +kernel
theorem dX9_move_116 : decode cX9_move 116 = .ok (.invokevirtual 232, 3) := by decide +kernel
theorem dX9_move_119 : decode cX9_move 119 = .ok (.invokestatic 226, 3) := by decide +kernel
theorem dX9_move_122 : decode cX9_move 122 = .ok (.ireturn, 1) := by decide +kernel
theorem dX9_move_123 : decode cX9_move 123 = .ok (.aload_n 0, 1) := by decide +kernel
theorem dX9_move_124 : decode cX9_move 124 = .ok (.iload_n 3, 1) := by decide +kernel
theorem dX9_move_125 : decode cX9_move 125 = .ok (.invokevirtual 235, 3) := by decide +kernel
theorem dX9_move_128 : decode cX9_move 128 = .ok (.ifCond .eq 7, 3) := by decide +kernel
theorem dX9_move_131 : decode cX9_move 131 = .ok (.iconst 1, 1) := by decide +kernel
theorem dX9_move_132 : decode cX9_move 132 = .ok (.goto 4, 3) := by decide +kernel
theorem dX9_move_135 : decode cX9_move 135 = .ok (.iconst 0, 1) := by decide +kernel
theorem dX9_move_136 : decode cX9_move 136 = .ok (.ireturn, 1) := by decide +kernel
theorem dX9_move_137 : decode cX9_move 137 = .ok (.aload_n 0, 1) := by decide +kernel
theorem dX9_move_138 : decode cX9_move 138 = .ok (.iload_n 3, 1) := by decide +kernel
theorem dX9_move_139 : decode cX9_move 139 = .ok (.invokevirtual 238, 3) := by decide +kernel
theorem dX9_move_142 : decode cX9_move 142 = .ok (.ireturn, 1) := by decide +kernel
theorem dX9_move_143 : decode cX9_move 143 = .ok (.iconst (-1), 1) := by decide +kernel
theorem dX9_move_144 : decode cX9_move 144 = .ok (.ireturn, 1) := by decide +kernel
theorem dX9_proof_0 : decode cX9_proof 0 = .ok (.aload_n 0, 1) := by decide +kernel
theorem dX9_proof_1 : decode cX9_proof 1 = .ok (.iload_n 1, 1) := by decide +kernel
theorem dX9_proof_2 : decode cX9_proof 2 = .ok (.invokevirtual 182, 3) := by decide +kernel
theorem dX9_proof_5 : decode cX9_proof 5 = .ok (.ifCond .eq 11, 3) := by decide +kernel
theorem dX9_proof_8 : decode cX9_proof 8 = .ok (.aload_n 0, 1) := by decide +kernel
theorem dX9_proof_9 : decode cX9_proof 9 = .ok (.iload_n 2, 1) := by decide +kernel
theorem dX9_proof_10 : decode cX9_proof 10 = .ok (.invokevirtual 182, 3) := by decide +kernel
theorem dX9_proof_13 : decode cX9_proof 13 = .ok (.ifCond .ne 5, 3) := by decide +kernel
theorem dX9_proof_16 : decode cX9_proof 16 = .ok (.iconst (-1), 1) := by decide +kernel
theorem dX9_proof_17 : decode cX9_proof 17 = .ok (.ireturn, 1) := by decide +kernel
theorem dX9_proof_18 : decode cX9_proof 18 = .ok (.aload_n 0, 1) := by decide +kernel
theorem dX9_proof_19 : decode cX9_proof 19 = .ok (.getfield 47, 3) := by decide +kernel
theorem dX9_proof_22 : decode cX9_proof 22 = .ok (.getfield 171, 3) := by decide +kernel
theorem dX9_proof_25 : decode cX9_proof 25 = .ok (.istore_n 3, 1) := by decide +kernel
theorem dX9_proof_26 : decode cX9_proof 26 = .ok (.aload_n 0, 1) := by decide +kernel
theorem dX9_proof_27 : decode cX9_proof 27 = .ok (.getfield 47, 3) := by decide +kernel
theorem dX9_proof_30 : decode cX9_proof 30 = .ok (.iload_n 3, 1) := by decide +kernel
theorem dX9_proof_31 : decode cX9_proof 31 = .ok (.invokevirtual 241, 3) := by decide +kernel
theorem dX9_proof_34 : decode cX9_proof 34 = .ok (.iload_n 1, 1) := by decide +kernel
theorem dX9_proof_35 : decode cX9_proof 35 = .ok (.invokestatic 245, 3) := by decide +kernel
theorem dX9_proof_38 : decode cX9_proof 38 = .ok (.ifCond .ne 6, 3) := by decide +kernel
theorem dX9_proof_41 : decode cX9_proof 41 = .ok (.bipush (-6), 2) := by decide +kernel
theorem dX9_proof_43 : decode cX9_proof 43 = .ok (.ireturn, 1) := by decide +kernel
theorem dX9_proof_44 : decode cX9_proof 44 = .ok (.aload_n 0, 1) := by decide +kernel
theorem dX9_proof_45 : decode cX9_proof 45 = .ok (.getfield 33, 3) := by decide +kernel
theorem dX9_proof_48 : decode cX9_proof 48 = .ok (.aload_n 0, 1) := by decide +kernel
theorem dX9_proof_49 : decode cX9_proof 49 = .ok (.getfield 47, 3) := by decide +kernel
theorem dX9_proof_52 : decode cX9_proof 52 = .ok (.iload_n 1, 1) := by decide +kernel
theorem dX9_proof_53 : decode cX9_proof 53 = .ok (.invokevirtual 249, 3) := by decide +kernel
theorem dX9_proof_56 : decode cX9_proof 56 = .ok (.iload_n 2, 1) := by decide +kernel
theorem dX9_proof_57 : decode cX9_proof 57 = .ok (.invokestatic 245, 3) := by decide +kernel
theorem dX9_proof_60 : decode cX9_proof 60 = .ok (.ifCond .ne 6, 3) := by decide +kernel
theorem dX9_proof_63 : decode cX9_proof 63 = .ok (.bipush (-7), 2) := by decide +kernel
theorem dX9_proof_65 : decode cX9_proof 65 = .ok (.ireturn, 1) := by decide +kernel
theorem dX9_proof_66 : decode cX9_proof 66 = .ok (.iconst 0, 1) := by decide +kernel
theorem dX9_proof_67 : decode cX9_proof 67 = .ok (.iload_n 1, 1) := by decide +kernel
theorem dX9_proof_68 : decode cX9_proof 68 = .ok (.iload_n 2, 1) := by decide +kernel
theorem dX9_proof_69 : decode cX9_proof 69 = .ok (.invokestatic 253, 3) := by decide +kernel
theorem dX9_proof_72 : decode cX9_proof 72 = .ok (.istore 4, 2) := by decide +kernel
theorem dX9_proof_74 : decode cX9_proof 74 = .ok (.aload_n 0, 1) := by decide +kernel
theorem dX9_proof_75 : decode cX9_proof 75 = .ok (.getfield 33, 3) := by decide +kernel
theorem dX9_proof_78 : decode cX9_proof 78 = .ok (.aload_n 0, 1) := by decide +kernel
theorem dX9_proof_79 : decode cX9_proof 79 = .ok (.getfield 47, 3) := by decide +kernel
theorem dX9_proof_82 : decode cX9_proof 82 = .ok (.iload 4, 2) := by decide +kernel
theorem dX9_proof_84 : decode cX9_proof 84 = .ok (.invokevirtual 257, 3) := by decide +kernel
theorem dX9_proof_87 : decode cX9_proof 87 = .ok (.istore 5, 2) := by decide +kernel
theorem dX9_proof_89 : decode cX9_proof 89 = .ok (.aload_n 0, 1) := by decide +kernel
theorem dX9_proof_90 : decode cX9_proof 90 = .ok (.getfield 33, 3) := by decide +kernel
theorem dX9_proof_93 : decode cX9_proof 93 = .ok (.aload_n 0, 1) := by decide +kernel
theorem dX9_proof_94 : decode cX9_proof 94 = .ok (.getfield 47, 3) := by decide +kernel
theorem dX9_proof_97 : decode cX9_proof 97 = .ok (.iload_n 3, 1) := by decide +kernel
theorem dX9_proof_98 : decode cX9_proof 98 = .ok (.invokevirtual 260, 3) := by decide +kernel
theorem dX9_proof_101 : decode cX9_proof 101 = .ok (.ifCond .eq 8, 3) := by decide +kernel
theorem dX9_proof_104 : decode cX9_proof 104 = .ok (.bipush (-5), 2) := by decide +kernel
theorem dX9_proof_106 : decode cX9_proof 106 = .ok (.goto 15, 3) := by decide +kernel
theorem dX9_proof_109 : decode cX9_proof 109 = .ok (.aload_n 0, 1) := by decide +kernel
theorem dX9_proof_110 : decode cX9_proof 110 = .ok (.getfield 33, 3) := by decide +kernel
theorem dX9_proof_113 : decode cX9_proof 113 = .ok (.aload_n 0, 1) := by decide +kernel
theorem dX9_proof_114 : decode cX9_proof 114 = .ok (.getfield 47, 3) := by decide +kernel
theorem dX9_proof_117 : decode cX9_proof 117 = .ok (.iload_n 3, 1) := by decide +kernel
theorem dX9_proof_118 : decode cX9_proof 118 = .ok (.invokevirtual 264, 3) := by decide +kernel
theorem dX9_proof_121 : decode cX9_proof 121 = .ok (.istore 6, 2) := by decide +kernel
theorem dX9_proof_123 : decode cX9_proof 123 = .ok (.aload_n 0, 1) := by decide +kernel
theorem dX9_proof_124 : decode cX9_proof 124 = .ok (.getfield 33, 3) := by decide +kernel
theorem dX9_proof_127 : decode cX9_proof 127 = .ok (.aload_n 0, 1) := by decide +kernel
theorem dX9_proof_128 : decode cX9_proof 128 = .ok (.getfield 47, 3) := by decide +kernel
theorem dX9_proof_131 : decode cX9_proof 131 = .ok (.iload 4, 2) := by decide +kernel
theorem dX9_proof_133 : decode cX9_proof 133 = .ok (.iload 5, 2) := by decide +kernel
theorem dX9_proof_135 : decode cX9_proof 135 = .ok (.invokevirtual 267, 3) := by decide +kernel
theorem dX9_proof_138 : decode cX9_proof 138 = .ok (.iload 6, 2) := by decide +kernel
theorem dX9_proof_140 : decode cX9_proof 140 = .ok (.ireturn, 1) := by decide +kernel
theorem dX9_make_0 : decode cX9_make 0 = .ok (.aload_n 0, 1) := by decide +kernel
theorem dX9_make_1 : decode cX9_make 1 = .ok (.invokevirtual 202, 3) := by decide +kernel
theorem dX9_make_4 : decode cX9_make 4 = .ok (.aload_n 0, 1) := by decide +kernel
theorem dX9_make_5 : decode cX9_make 5 = .ok (.getfield 64, 3) := by decide +kernel
theorem dX9_make_8 : decode cX9_make 8 = .ok (.iload_n 1, 1) := by decide +kernel
theorem dX9_make_9 : decode cX9_make 9 = .ok (.invokevirtual 206, 3) := by decide +kernel
theorem dX9_make_12 : decode cX9_make 12 = .ok (.istore_n 2, 1) := by decide +kernel
theorem dX9_make_13 : decode cX9_make 13 = .ok (.iload_n 2, 1) := by decide +kernel
theorem dX9_make_14 : decode cX9_make 14 = .ok (.ifCond .ge 5, 3) := by decide +kernel
theorem dX9_make_17 : decode cX9_make 17 = .ok (.iconst (-1), 1) := by decide +kernel
theorem dX9_make_18 : decode cX9_make 18 = .ok (.ireturn, 1) := by decide +kernel
theorem dX9_make_19 : decode cX9_make 19 = .ok (.aload_n 0, 1) := by decide +kernel
theorem dX9_make_20 : decode cX9_make 20 = .ok (.getfield 57, 3) := by decide +kernel
theorem dX9_make_23 : decode cX9_make 23 = .ok (.getfield 271, 3) := by decide +kernel
theorem dX9_make_26 : decode cX9_make 26 = .ok (.bipush 40, 2) := by decide +kernel
theorem dX9_make_28 : decode cX9_make 28 = .ok (.if_icmp .lt 6, 3) := by decide +kernel
theorem dX9_make_31 : decode cX9_make 31 = .ok (.bipush (-4), 2) := by decide +kernel
theorem dX9_make_33 : decode cX9_make 33 = .ok (.ireturn, 1) := by decide +kernel
theorem dX9_make_34 : decode cX9_make 34 = .ok (.aload_n 0, 1) := by decide +kernel
theorem dX9_make_35 : decode cX9_make 35 = .ok (.getfield 33, 3) := by decide +kernel
theorem dX9_make_38 : decode cX9_make 38 = .ok (.aload_n 0, 1) := by decide +kernel
theorem dX9_make_39 : decode cX9_make 39 = .ok (.getfield 47, 3) := by decide +kernel
theorem dX9_make_42 : decode cX9_make 42 = .ok (.iload_n 2, 1) := by decide +kernel
theorem dX9_make_43 : decode cX9_make 43 = .ok (.invokevirtual 257, 3) := by decide +kernel
theorem dX9_make_46 : decode cX9_make 46 = .ok (.istore_n 3, 1) := by decide +kernel
theorem dX9_make_47 : decode cX9_make 47 = .ok (.aload_n 0, 1) := by decide +kernel
theorem dX9_make_48 : decode cX9_make 48 = .ok (.getfield 57, 3) := by decide +kernel
theorem dX9_make_51 : decode cX9_make 51 = .ok (.iload_n 2, 1) := by decide +kernel
theorem dX9_make_52 : decode cX9_make 52 = .ok (.iload_n 3, 1) := by decide +kernel
theorem dX9_make_53 : decode cX9_make 53 = .ok (.aload_n 0, 1) := by decide +kernel
theorem dX9_make_54 : decode cX9_make 54 = .ok (.getfield 47, 3) := by decide +kernel
theorem dX9_make_57 : decode cX9_make 57 = .ok (.invokevirtual 274, 3) := by decide +kernel
theorem dX9_make_60 : decode cX9_make 60 = .ok (.invokevirtual 277, 3) := by decide +kernel
theorem dX9_make_63 : decode cX9_make 63 = .ok (.aload_n 0, 1) := by decide +kernel
theorem dX9_make_64 : decode cX9_make 64 = .ok (.iconst 0, 1) := by decide +kernel
theorem dX9_make_65 : decode cX9_make 65 = .ok (.putfield 279, 3) := by decide +kernel
theorem dX9_make_68 : decode cX9_make 68 = .ok (.aload_n 0, 1) := by decide +kernel
theorem dX9_make_69 : decode cX9_make 69 = .ok (.getfield 57, 3) := by decide +kernel
theorem dX9_make_72 : decode cX9_make 72 = .ok (.invokevirtual 283, 3) := by decide +kernel
theorem dX9_make_75 : decode cX9_make 75 = .ok (.ireturn, 1) := by decide +kernel
theorem dX9_back_0 : decode cX9_back 0 = .ok (.aload_n 0, 1) := by decide +kernel
theorem dX9_back_1 : decode cX9_back 1 = .ok (.getfield 57, 3) := by decide +kernel
theorem dX9_back_4 : decode cX9_back 4 = .ok (.getfield 271, 3) := by decide +kernel
theorem dX9_back_7 : decode cX9_back 7 = .ok (.ifCond .gt 6, 3) := by decide +kernel
theorem dX9_back_10 : decode cX9_back 10 = .ok (.bipush (-3), 2) := by decide +kernel
theorem dX9_back_12 : decode cX9_back 12 = .ok (.ireturn, 1) := by decide +kernel
theorem dX9_back_13 : decode cX9_back 13 = .ok (.aload_n 0, 1) := by decide +kernel
theorem dX9_back_14 : decode cX9_back 14 = .ok (.getfield 57, 3) := by decide +kernel
theorem dX9_back_17 : decode cX9_back 17 = .ok (.dup, 1) := by decide +kernel
theorem dX9_back_18 : decode cX9_back 18 = .ok (.getfield 271, 3) := by decide +kernel
theorem dX9_back_21 : decode cX9_back 21 = .ok (.iconst 1, 1) := by decide +kernel
theorem dX9_back_22 : decode cX9_back 22 = .ok (.isub, 1) := by decide +kernel
theorem dX9_back_23 : decode cX9_back 23 = .ok (.putfield 271, 3) := by decide +kernel
theorem dX9_back_26 : decode cX9_back 26 = .ok (.aload_n 0, 1) := by decide +kernel
theorem dX9_back_27 : decode cX9_back 27 = .ok (.getfield 33, 3) := by decide +kernel
theorem dX9_back_30 : decode cX9_back 30 = .ok (.aload_n 0, 1) := by decide +kernel
theorem dX9_back_31 : decode cX9_back 31 = .ok (.getfield 47, 3) := by decide +kernel
theorem dX9_back_34 : decode cX9_back 34 = .ok (.aload_n 0, 1) := by decide +kernel
theorem dX9_back_35 : decode cX9_back 35 = .ok (.getfield 57, 3) := by decide +kernel
theorem dX9_back_38 : decode cX9_back 38 = .ok (.getfield 286, 3) := by decide +kernel
theorem dX9_back_41 : decode cX9_back 41 = .ok (.aload_n 0, 1) := by decide +kernel
theorem dX9_back_42 : decode cX9_back 42 = .ok (.getfield 57, 3) := by decide +kernel
theorem dX9_back_45 : decode cX9_back 45 = .ok (.getfield 271, 3) := by decide +kernel
theorem dX9_back_48 : decode cX9_back 48 = .ok (.invokestatic 134, 3) := by decide +kernel
theorem dX9_back_51 : decode cX9_back 51 = .ok (.aload_n 0, 1) := by decide +kernel
theorem dX9_back_52 : decode cX9_back 52 = .ok (.getfield 57, 3) := by decide +kernel
theorem dX9_back_55 : decode cX9_back 55 = .ok (.getfield 289, 3) := by decide +kernel
theorem dX9_back_58 : decode cX9_back 58 = .ok (.aload_n 0, 1) := by decide +kernel
theorem dX9_back_59 : decode cX9_back 59 = .ok (.getfield 57, 3) := by decide +kernel
theorem dX9_back_62 : decode cX9_back 62 = .ok (.getfield 271, 3) := by decide +kernel
theorem dX9_back_65 : decode cX9_back 65 = .ok (.invokestatic 134, 3) := by decide +kernel
theorem dX9_back_68 : decode cX9_back 68 = .ok (.invokevirtual 267, 3) := by decide +kernel
theorem dX9_back_71 : decode cX9_back 71 = .ok (.aload_n 0, 1) := by decide +kernel
theorem dX9_back_72 : decode cX9_back 72 = .ok (.iconst 0, 1) := by decide +kernel
theorem dX9_back_73 : decode cX9_back 73 = .ok (.putfield 279, 3) := by decide +kernel
theorem dX9_back_76 : decode cX9_back 76 = .ok (.aload_n 0, 1) := by decide +kernel
theorem dX9_back_77 : decode cX9_back 77 = .ok (.getfield 57, 3) := by decide +kernel
theorem dX9_back_80 : decode cX9_back 80 = .ok (.getfield 271, 3) := by decide +kernel
theorem dX9_back_83 : decode cX9_back 83 = .ok (.ireturn, 1) := by decide +kernel
theorem dX9_attackers_0 : decode cX9_attackers 0 = .ok (.aload_n 0, 1) := by decide +kernel
theorem dX9_attackers_1 : decode cX9_attackers 1 = .ok (.iload_n 1, 1) := by decide +kernel
theorem dX9_attackers_2 : decode cX9_attackers 2 = .ok (.invokevirtual 182, 3) := by decide +kernel
theorem dX9_attackers_5 : decode cX9_attackers 5 = .ok (.ifCond .eq 10, 3) := by decide +kernel
theorem dX9_attackers_8 : decode cX9_attackers 8 = .ok (.iload_n 2, 1) := by decide +kernel
theorem dX9_attackers_9 : decode cX9_attackers 9 = .ok (.invokestatic 124, 3) := by decide +kernel
theorem dX9_attackers_12 : decode cX9_attackers 12 = .ok (.ifCond .ne 7, 3) := by decide +kernel
theorem dX9_attackers_15 : decode cX9_attackers 15 = .ok (.ldc2_w 292, 3) := by decide +kernel
theorem dX9_attackers_18 : decode cX9_attackers 18 = .ok (.lreturn, 1) := by decide +kernel
theorem dX9_attackers_19 : decode cX9_attackers 19 = .ok (.aload_n 0, 1) := by decide +kernel
theorem dX9_attackers_20 : decode cX9_attackers 20 = .ok (.getfield 33, 3) := by decide +kernel
theorem dX9_attackers_23 : decode cX9_attackers 23 = .ok (.aload_n 0, 1) := by decide +kernel
theorem dX9_attackers_24 : decode cX9_attackers 24 = .ok (.getfield 47, 3) := by decide +kernel
theorem dX9_attackers_27 : decode cX9_attackers 27 = .ok (.iload_n 2, 1) := by decide +kernel
theorem dX9_attackers_28 : decode cX9_attackers 28 = .ok (.lconst 1, 1) := by decide +kernel
theorem dX9_attackers_29 : decode cX9_attackers 29 = .ok (.iload_n 1, 1) := by decide +kernel
theorem dX9_attackers_30 : decode cX9_attackers 30 = .ok (.lshl, 1) := by decide +kernel
theorem dX9_attackers_31 : decode cX9_attackers 31 = .ok (.invokevirtual 294, 3) := by decide +kernel
theorem dX9_attackers_34 : decode cX9_attackers 34 = .ok (.lreturn, 1) := by decide +kernel
theorem dX9_attacked_0 : decode cX9_attacked 0 = .ok (.iload_n 1, 1) := by decide +kernel
theorem dX9_attacked_1 : decode cX9_attacked 1 = .ok (.invokestatic 124, 3) := by decide +kernel
theorem dX9_attacked_4 : decode cX9_attacked 4 = .ok (.ifCond .eq 18, 3) := by decide +kernel
theorem dX9_attacked_7 : decode cX9_attacked 7 = .ok (.aload_n 0, 1) := by decide +kernel
theorem dX9_attacked_8 : decode cX9_attacked 8 = .ok (.getfield 33, 3) := by decide +kernel
theorem dX9_attacked_11 : decode cX9_attacked 11 = .ok (.aload_n 0, 1) := by decide +kernel
theorem dX9_attacked_12 : decode cX9_attacked 12 = .ok (.getfield 47, 3) := by decide +kernel
theorem dX9_attacked_15 : decode cX9_attacked 15 = .ok (.iload_n 1, 1) := by decide +kernel
theorem dX9_attacked_16 : decode cX9_attacked 16 = .ok (.invokevirtual 298, 3) := by decide +kernel
theorem dX9_attacked_19 : decode cX9_attacked 19 = .ok (.goto 6, 3) := by decide +kernel
theorem dX9_attacked_22 : decode cX9_attacked 22 = .ok (.ldc2_w 292, 3) := by decide +kernel
theorem dX9_attacked_25 : decode cX9_attacked 25 = .ok (.lreturn, 1) := by decide +kernel
theorem dX9_status_0 : decode cX9_status 0 = .ok (.aload_n 0, 1) := by decide +kernel
theorem dX9_status_1 : decode cX9_status 1 = .ok (.invokevirtual 202, 3) := by decide +kernel
theorem dX9_status_4 : decode cX9_status 4 = .ok (.aload_n 0, 1) := by decide +kernel
theorem dX9_status_5 : decode cX9_status 5 = .ok (.getfield 64, 3) := by decide +kernel
theorem dX9_status_8 : decode cX9_status 8 = .ok (.getfield 205, 3) := by decide +kernel
theorem dX9_status_11 : decode cX9_status 11 = .ok (.ifCond .le 5, 3) := by decide +kernel
theorem dX9_status_14 : decode cX9_status 14 = .ok (.iconst 0, 1) := by decide +kernel
theorem dX9_status_15 : decode cX9_status 15 = .ok (.ireturn, 1) := by decide +kernel
theorem dX9_status_16 : decode cX9_status 16 = .ok (.aload_n 0, 1) := by decide +kernel
theorem dX9_status_17 : decode cX9_status 17 = .ok (.getfield 33, 3) := by decide +kernel
theorem dX9_status_20 : decode cX9_status 20 = .ok (.aload_n 0, 1) := by decide +kernel
theorem dX9_status_21 : decode cX9_status 21 = .ok (.getfield 47, 3) := by decide +kernel
theorem dX9_status_24 : decode cX9_status 24 = .ok (.aload_n 0, 1) := by decide +kernel
theorem dX9_status_25 : decode cX9_status 25 = .ok (.getfield 47, 3) := by decide +kernel
theorem dX9_status_28 : decode cX9_status 28 = .ok (.getfield 171, 3) := by decide +kernel
theorem dX9_status_31 : decode cX9_status 31 = .ok (.invokevirtual 260, 3) := by decide +kernel
theorem dX9_status_34 : decode cX9_status 34 = .ok (.ifCond .eq 7, 3) := by decide +kernel
theorem dX9_status_37 : decode cX9_status 37 = .ok (.iconst 2, 1) := by decide +kernel
theorem dX9_status_38 : decode cX9_status 38 = .ok (.goto 4, 3) := by decide +kernel
theorem dX9_status_41 : decode cX9_status 41 = .ok (.iconst 1, 1) := by decide +kernel
theorem dX9_status_42 : decode cX9_status 42 = .ok (.ireturn, 1) := by decide +kernel
theorem dX9_sequences_0 : decode cX9_sequences 0 = .ok (.iload_n 1, 1) := by decide +kernel
theorem dX9_sequences_1 : decode cX9_sequences 1 = .ok (.ifCond .lt 8, 3) := by decide +kernel
theorem dX9_sequences_4 : decode cX9_sequences 4 = .ok (.iload_n 1, 1) := by decide +kernel
theorem dX9_sequences_5 : decode cX9_sequences 5 = .ok (.iconst 2, 1) := by decide +kernel
theorem dX9_sequences_6 : decode cX9_sequences 6 = .ok (.if_icmp .le 6, 3) := by decide +kernel
theorem dX9_sequences_9 : decode cX9_sequences 9 = .ok (.bipush (-2), 2) := by decide +kernel
theorem dX9_sequences_11 : decode cX9_sequences 11 = .ok (.ireturn, 1) := by decide +kernel
theorem dX9_sequences_12 : decode cX9_sequences 12 = .ok (.iload_n 2, 1) := by decide +kernel
theorem dX9_sequences_13 : decode cX9_sequences 13 = .ok (.invokestatic 124, 3) := by decide +kernel
theorem dX9_sequences_16 : decode cX9_sequences 16 = .ok (.ifCond .ne 5, 3) := by decide +kernel
theorem dX9_sequences_19 : decode cX9_sequences 19 = .ok (.iconst (-1), 1) := by decide +kernel
theorem dX9_sequences_20 : decode cX9_sequences 20 = .ok (.ireturn, 1) := by decide +kernel
theorem dX9_sequences_21 : decode cX9_sequences 21 = .ok (.iload_n 1, 1) := by decide +kernel
theorem dX9_sequences_22 : decode cX9_sequences 22 = .ok (.ifCond .ne 5, 3) := by decide +kernel
theorem dX9_sequences_25 : decode cX9_sequences 25 = .ok (.iconst 1, 1) := by decide +kernel
theorem dX9_sequences_26 : decode cX9_sequences 26 = .ok (.ireturn, 1) := by decide +kernel
theorem dX9_sequences_27 : decode cX9_sequences 27 = .ok (.iload_n 2, 1) := by decide +kernel
theorem dX9_sequences_28 : decode cX9_sequences 28 = .ok (.ifCond .ne 34, 3) := by decide +kernel
theorem dX9_sequences_31 : decode cX9_sequences 31 = .ok (.iload_n 1, 1) := by decide +kernel
theorem dX9_sequences_32 : decode cX9_sequences 32 = .ok (.iconst 1, 1) := by decide +kernel
theorem dX9_sequences_33 : decode cX9_sequences 33 = .ok (.if_icmp .ne 17, 3) := by decide +kernel
theorem dX9_sequences_36 : decode cX9_sequences 36 = .ok (.aload_n 0, 1) := by decide +kernel
theorem dX9_sequences_37 : decode cX9_sequences 37 = .ok (.getfield 73, 3) := by decide +kernel
theorem dX9_sequences_40 : decode cX9_sequences 40 = .ok (.aload_n 0, 1) := by decide +kernel
theorem dX9_sequences_41 : decode cX9_sequences 41 = .ok (.getfield 47, 3) := by decide +kernel
theorem dX9_sequences_44 : decode cX9_sequences 44 = .ok (.invokevirtual 301, 3) := by decide +kernel
theorem dX9_sequences_47 : decode cX9_sequences 47 = .ok (.goto 14, 3) := by decide +kernel
theorem dX9_sequences_50 : decode cX9_sequences 50 = .ok (.aload_n 0, 1) := by decide +kernel
theorem dX9_sequences_51 : decode cX9_sequences 51 = .ok (.getfield 73, 3) := by decide +kernel
theorem dX9_sequences_54 : decode cX9_sequences 54 = .ok (.aload_n 0, 1) := by decide +kernel
theorem dX9_sequences_55 : decode cX9_sequences 55 = .ok (.getfield 47, 3) := by decide +kernel
theorem dX9_sequences_58 : decode cX9_sequences 58 = .ok (.invokevirtual 304, 3) := by decide +kernel
theorem dX9_sequences_61 : decode cX9_sequences 61 = .ok (.ireturn, 1) := by decide +kernel
theorem dX9_sequences_62 : decode cX9_sequences 62 = .ok (.iload_n 1, 1) := by decide +kernel
theorem dX9_sequences_63 : decode cX9_sequences 63 = .ok (.iconst 1, 1) := by decide +kernel
theorem dX9_sequences_64 : decode cX9_sequences 64 = .ok (.if_icmp .ne 17, 3) := by decide +kernel
theorem dX9_sequences_67 : decode cX9_sequences 67 = .ok (.aload_n 0, 1) := by decide +kernel
theorem dX9_sequences_68 : decode cX9_sequences 68 = .ok (.getfield 73, 3) := by decide +kernel
theorem dX9_sequences_71 : decode cX9_sequences 71 = .ok (.aload_n 0, 1) := by decide +kernel
theorem dX9_sequences_72 : decode cX9_sequences 72 = .ok (.getfield 47, 3) := by decide +kernel
theorem dX9_sequences_75 : decode cX9_sequences 75 = .ok (.invokevirtual 307, 3) := by decide +kernel
theorem dX9_sequences_78 : decode cX9_sequences 78 = .ok (.goto 14, 3) := by decide +kernel
theorem dX9_sequences_81 : decode cX9_sequences 81 = .ok (.aload_n 0, 1) := by decide +kernel
theorem dX9_sequences_82 : decode cX9_sequences 82 = .ok (.getfield 73, 3) := by decide +kernel
theorem dX9_sequences_85 : decode cX9_sequences 85 = .ok (.aload_n 0, 1) := by decide +kernel
theorem dX9_sequences_86 : decode cX9_sequences 86 = .ok (.getfield 47, 3) := by decide +kernel
theorem dX9_sequences_89 : decode cX9_sequences 89 = .ok (.invokevirtual 310, 3) := by decide +kernel
theorem dX9_sequences_92 : decode cX9_sequences 92 = .ok (.ireturn, 1) := by decide +kernel
theorem dX9_text_0 : decode cX9_text 0 = .ok (.aload_n 0, 1) := by decide +kernel
theorem dX9_text_1 : decode cX9_text 1 = .ok (.getfield 18, 3) := by decide +kernel
theorem dX9_text_4 : decode cX9_text 4 = .ok (.iconst 0, 1) := by decide +kernel
theorem dX9_text_5 : decode cX9_text 5 = .ok (.putfield 91, 3) := by decide +kernel
theorem dX9_text_8 : decode cX9_text 8 = .ok (.aload_n 0, 1) := by decide +kernel
theorem dX9_text_9 : decode cX9_text 9 = .ok (.getfield 47, 3) := by decide +kernel
theorem dX9_text_12 : decode cX9_text 12 = .ok (.getfield 151, 3) := by decide +kernel
theorem dX9_text_15 : decode cX9_text 15 = .ok (.iconst 1, 1) := by decide +kernel
theorem dX9_text_16 : decode cX9_text 16 = .ok (.isub, 1) := by decide +kernel
theorem dX9_text_17 : decode cX9_text 17 = .ok (.istore_n 2, 1) := by decide +kernel
theorem dX9_text_18 : decode cX9_text 18 = .ok (.iload_n 2, 1) := by decide +kernel
theorem dX9_text_19 : decode cX9_text 19 = .ok (.ifCond .lt 28, 3) := by decide +kernel
theorem dX9_text_22 : decode cX9_text 22 = .ok (.aload_n 0, 1) := by decide +kernel
theorem dX9_text_23 : decode cX9_text 23 = .ok (.iload_n 2, 1) := by decide +kernel
theorem dX9_text_24 : decode cX9_text 24 = .ok (.invokevirtual 313, 3) := by decide +kernel
theorem dX9_text_27 : decode cX9_text 27 = .ok (.iload_n 2, 1) := by decide +kernel
theorem dX9_text_28 : decode cX9_text 28 = .ok (.ifCond .le 13, 3) := by decide +kernel
theorem dX9_text_31 : decode cX9_text 31 = .ok (.aload_n 0, 1) := by decide +kernel
theorem dX9_text_32 : decode cX9_text 32 = .ok (.getfield 18, 3) := by decide +kernel
theorem dX9_text_35 : decode cX9_text 35 = .ok (.bipush 47, 2) := by decide +kernel
theorem dX9_text_37 : decode cX9_text 37 = .ok (.invokevirtual 87, 3) := by decide +kernel
theorem dX9_text_40 : decode cX9_text 40 = .ok (.pop, 1) := by decide +kernel
theorem dX9_text_41 : decode cX9_text 41 = .ok (.iinc 2 (-1), 3) := by decide +kernel
theorem dX9_text_44 : decode cX9_text 44 = .ok (.goto (-26), 3) := by decide +kernel
theorem dX9_text_47 : decode cX9_text 47 = .ok (.aload_n 0, 1) := by decide +kernel
theorem dX9_text_48 : decode cX9_text 48 = .ok (.getfield 18, 3) := by decide +kernel
theorem dX9_text_51 : decode cX9_text 51 = .ok (.iload_n 1, 1) := by decide +kernel
theorem dX9_text_52 : decode cX9_text 52 = .ok (.invokevirtual 317, 3) := by decide +kernel
theorem dX9_text_55 : decode cX9_text 55 = .ok (.ireturn, 1) := by decide +kernel
theorem dX9_told_0 : decode cX9_told 0 = .ok (.aload_n 0, 1) := by decide +kernel
theorem dX9_told_1 : decode cX9_told 1 = .ok (.invokevirtual 202, 3) := by decide +kernel
theorem dX9_told_4 : decode cX9_told 4 = .ok (.aload_n 0, 1) := by decide +kernel
theorem dX9_told_5 : decode cX9_told 5 = .ok (.getfield 64, 3) := by decide +kernel
theorem dX9_told_8 : decode cX9_told 8 = .ok (.iload_n 1, 1) := by decide +kernel
theorem dX9_told_9 : decode cX9_told 9 = .ok (.invokevirtual 206, 3) := by decide +kernel
theorem dX9_told_12 : decode cX9_told 12 = .ok (.istore_n 3, 1) := by decide +kernel
theorem dX9_told_13 : decode cX9_told 13 = .ok (.iload_n 3, 1) := by decide +kernel
theorem dX9_told_14 : decode cX9_told 14 = .ok (.ifCond .ge 5, 3) := by decide +kernel
theorem dX9_told_17 : decode cX9_told 17 = .ok (.iconst (-1), 1) := by decide +kernel
theorem dX9_told_18 : decode cX9_told 18 = .ok (.ireturn, 1) := by decide +kernel
theorem dX9_told_19 : decode cX9_told 19 = .ok (.aload_n 0, 1) := by decide +kernel
theorem dX9_told_20 : decode cX9_told 20 = .ok (.iload_n 3, 1) := by decide +kernel
theorem dX9_told_21 : decode cX9_told 21 = .ok (.invokevirtual 320, 3) := by decide +kernel
theorem dX9_told_24 : decode cX9_told 24 = .ok (.aload_n 0, 1) := by decide +kernel
theorem dX9_told_25 : decode cX9_told 25 = .ok (.getfield 18, 3) := by decide +kernel
theorem dX9_told_28 : decode cX9_told 28 = .ok (.iload_n 2, 1) := by decide +kernel
theorem dX9_told_29 : decode cX9_told 29 = .ok (.invokevirtual 317, 3) := by decide +kernel
theorem dX9_told_32 : decode cX9_told 32 = .ok (.ireturn, 1) := by decide +kernel
theorem dX9_property_0 : decode cX9_property 0 = .ok (.iload_n 1, 1) := by decide +kernel
theorem dX9_property_1 : decode cX9_property 1 = .ok (.invokestatic 109, 3) := by decide +kernel
theorem dX9_property_4 : decode cX9_property 4 = .ok (.ifCond .ne 5, 3) := by decide +kernel
theorem dX9_property_7 : decode cX9_property 7 = .ok (.iconst (-1), 1) := by decide +kernel
theorem dX9_property_8 : decode cX9_property 8 = .ok (.ireturn, 1) := by decide +kernel
theorem dX9_property_9 : decode cX9_property 9 = .ok (.iload_n 2, 1) := by decide +kernel
theorem dX9_property_10 : decode cX9_property 10 = .ok (.tableswitch 111 0 5 #[38, 63, 72, 84, 96, 105], 38) := by decide +kernel
theorem dX9_property_48 : decode cX9_property 48 = .ok (.aload_n 0, 1) := by decide +kernel
theorem dX9_property_49 : decode cX9_property 49 = .ok (.getfield 24, 3) := by decide +kernel
theorem dX9_property_52 : decode cX9_property 52 = .ok (.iload_n 1, 1) := by decide +kernel
theorem dX9_property_53 : decode cX9_property 53 = .ok (.invokevirtual 120, 3) := by decide +kernel
theorem dX9_property_56 : decode cX9_property 56 = .ok (.ifCond .ne 8, 3) := by decide +kernel
theorem dX9_property_59 : decode cX9_property 59 = .ok (.bipush (-5), 2) := by decide +kernel
theorem dX9_property_61 : decode cX9_property 61 = .ok (.goto 11, 3) := by decide +kernel
theorem dX9_property_64 : decode cX9_property 64 = .ok (.aload_n 0, 1) := by decide +kernel
theorem dX9_property_65 : decode cX9_property 65 = .ok (.getfield 24, 3) := by decide +kernel
theorem dX9_property_68 : decode cX9_property 68 = .ok (.iload_n 1, 1) := by decide +kernel
theorem dX9_property_69 : decode cX9_property 69 = .ok (.invokevirtual 120, 3) := by decide +kernel
theorem dX9_property_72 : decode cX9_property 72 = .ok (.ireturn, 1) := by decide +kernel
theorem dX9_property_73 : decode cX9_property 73 = .ok (.aload_n 0, 1) := by decide +kernel
theorem dX9_property_74 : decode cX9_property 74 = .ok (.getfield 24, 3) := by decide +kernel
theorem dX9_property_77 : decode cX9_property 77 = .ok (.iload_n 1, 1) := by decide +kernel
theorem dX9_property_78 : decode cX9_property 78 = .ok (.invokevirtual 323, 3) := by decide +kernel
theorem dX9_property_81 : decode cX9_property 81 = .ok (.ireturn, 1) := by decide +kernel
theorem dX9_property_82 : decode cX9_property 82 = .ok (.aload_n 0, 1) := by decide +kernel
theorem dX9_property_83 : decode cX9_property 83 = .ok (.getfield 24, 3) := by decide +kernel
theorem dX9_property_86 : decode cX9_property 86 = .ok (.getfield 127, 3) := by decide +kernel
theorem dX9_property_89 : decode cX9_property 89 = .ok (.iload_n 1, 1) := by decide +kernel
theorem dX9_property_90 : decode cX9_property 90 = .ok (.invokestatic 134, 3) := by decide +kernel
theorem dX9_property_93 : decode cX9_property 93 = .ok (.ireturn, 1) := by decide +kernel
theorem dX9_property_94 : decode cX9_property 94 = .ok (.aload_n 0, 1) := by decide +kernel
theorem dX9_property_95 : decode cX9_property 95 = .ok (.getfield 24, 3) := by decide +kernel
theorem dX9_property_98 : decode cX9_property 98 = .ok (.getfield 131, 3) := by decide +kernel
theorem dX9_property_101 : decode cX9_property 101 = .ok (.iload_n 1, 1) := by decide +kernel
theorem dX9_property_102 : decode cX9_property 102 = .ok (.invokestatic 134, 3) := by decide +kernel
theorem dX9_property_105 : decode cX9_property 105 = .ok (.ireturn, 1) := by decide +kernel
theorem dX9_property_106 : decode cX9_property 106 = .ok (.aload_n 0, 1) := by decide +kernel
theorem dX9_property_107 : decode cX9_property 107 = .ok (.getfield 47, 3) := by decide +kernel
theorem dX9_property_110 : decode cX9_property 110 = .ok (.iload_n 1, 1) := by decide +kernel
theorem dX9_property_111 : decode cX9_property 111 = .ok (.invokevirtual 326, 3) := by decide +kernel
theorem dX9_property_114 : decode cX9_property 114 = .ok (.ireturn, 1) := by decide +kernel
theorem dX9_property_115 : decode cX9_property 115 = .ok (.aload_n 0, 1) := by decide +kernel
theorem dX9_property_116 : decode cX9_property 116 = .ok (.iload_n 1, 1) := by decide +kernel
theorem dX9_property_117 : decode cX9_property 117 = .ok (.invokevirtual 329, 3) := by decide +kernel
theorem dX9_property_120 : decode cX9_property 120 = .ok (.ireturn, 1) := by decide +kernel
theorem dX9_property_121 : decode cX9_property 121 = .ok (.iconst (-1), 1) := by decide +kernel
theorem dX9_property_122 : decode cX9_property 122 = .ok (.ireturn, 1) := by decide +kernel
theorem dX9_digest_0 : decode cX9_digest 0 = .ok (.aload_n 0, 1) := by decide +kernel
theorem dX9_digest_1 : decode cX9_digest 1 = .ok (.getfield 47, 3) := by decide +kernel
theorem dX9_digest_4 : decode cX9_digest 4 = .ok (.invokevirtual 274, 3) := by decide +kernel
theorem dX9_digest_7 : decode cX9_digest 7 = .ok (.ireturn, 1) := by decide +kernel
theorem dX9_image_0 : decode cX9_image 0 = .ok (.aload_n 0, 1) := by decide +kernel
theorem dX9_image_1 : decode cX9_image 1 = .ok (.getfield 80, 3) := by decide +kernel
theorem dX9_image_4 : decode cX9_image 4 = .ok (.getfield 332, 3) := by decide +kernel
theorem dX9_image_7 : decode cX9_image 7 = .ok (.aload_n 0, 1) := by decide +kernel
theorem dX9_image_8 : decode cX9_image 8 = .ok (.getfield 24, 3) := by decide +kernel
theorem dX9_image_11 : decode cX9_image 11 = .ok (.invokevirtual 333, 3) := by decide +kernel
theorem dX9_image_14 : decode cX9_image 14 = .ok (.aload_n 0, 1) := by decide +kernel
theorem dX9_image_15 : decode cX9_image 15 = .ok (.getfield 80, 3) := by decide +kernel
theorem dX9_image_18 : decode cX9_image 18 = .ok (.getfield 335, 3) := by decide +kernel
theorem dX9_image_21 : decode cX9_image 21 = .ok (.aload_n 0, 1) := by decide +kernel
theorem dX9_image_22 : decode cX9_image 22 = .ok (.getfield 47, 3) := by decide +kernel
theorem dX9_image_25 : decode cX9_image 25 = .ok (.invokevirtual 158, 3) := by decide +kernel
theorem dX9_image_28 : decode cX9_image 28 = .ok (.aload_n 0, 1) := by decide +kernel
theorem dX9_image_29 : decode cX9_image 29 = .ok (.getfield 80, 3) := by decide +kernel
theorem dX9_image_32 : decode cX9_image 32 = .ok (.getfield 336, 3) := by decide +kernel
theorem dX9_image_35 : decode cX9_image 35 = .ok (.aload_n 0, 1) := by decide +kernel
theorem dX9_image_36 : decode cX9_image 36 = .ok (.getfield 57, 3) := by decide +kernel
theorem dX9_image_39 : decode cX9_image 39 = .ok (.invokevirtual 337, 3) := by decide +kernel
theorem dX9_image_42 : decode cX9_image 42 = .ok (.aload_n 0, 1) := by decide +kernel
theorem dX9_image_43 : decode cX9_image 43 = .ok (.getfield 80, 3) := by decide +kernel
theorem dX9_image_46 : decode cX9_image 46 = .ok (.iconst 1, 1) := by decide +kernel
theorem dX9_image_47 : decode cX9_image 47 = .ok (.putfield 340, 3) := by decide +kernel
theorem dX9_image_50 : decode cX9_image 50 = .ok (.aload_n 0, 1) := by decide +kernel
theorem dX9_image_51 : decode cX9_image 51 = .ok (.getfield 47, 3) := by decide +kernel
theorem dX9_image_54 : decode cX9_image 54 = .ok (.invokevirtual 168, 3) := by decide +kernel
theorem dX9_image_57 : decode cX9_image 57 = .ok (.ireturn, 1) := by decide +kernel
theorem dX9_undo_0 : decode cX9_undo 0 = .ok (.aload_n 0, 1) := by decide +kernel
theorem dX9_undo_1 : decode cX9_undo 1 = .ok (.getfield 80, 3) := by decide +kernel
theorem dX9_undo_4 : decode cX9_undo 4 = .ok (.getfield 340, 3) := by decide +kernel
theorem dX9_undo_7 : decode cX9_undo 7 = .ok (.ifCond .ne 6, 3) := by decide +kernel
theorem dX9_undo_10 : decode cX9_undo 10 = .ok (.bipush (-3), 2) := by decide +kernel
theorem dX9_undo_12 : decode cX9_undo 12 = .ok (.ireturn, 1) := by decide +kernel
theorem dX9_undo_13 : decode cX9_undo 13 = .ok (.aload_n 0, 1) := by decide +kernel
theorem dX9_undo_14 : decode cX9_undo 14 = .ok (.getfield 24, 3) := by decide +kernel
theorem dX9_undo_17 : decode cX9_undo 17 = .ok (.aload_n 0, 1) := by decide +kernel
theorem dX9_undo_18 : decode cX9_undo 18 = .ok (.getfield 80, 3) := by decide +kernel
theorem dX9_undo_21 : decode cX9_undo 21 = .ok (.getfield 332, 3) := by decide +kernel
theorem dX9_undo_24 : decode cX9_undo 24 = .ok (.invokevirtual 333, 3) := by decide +kernel
theorem dX9_undo_27 : decode cX9_undo 27 = .ok (.aload_n 0, 1) := by decide +kernel
theorem dX9_undo_28 : decode cX9_undo 28 = .ok (.getfield 47, 3) := by decide +kernel
theorem dX9_undo_31 : decode cX9_undo 31 = .ok (.aload_n 0, 1) := by decide +kernel
theorem dX9_undo_32 : decode cX9_undo 32 = .ok (.getfield 80, 3) := by decide +kernel
theorem dX9_undo_35 : decode cX9_undo 35 = .ok (.getfield 335, 3) := by decide +kernel
theorem dX9_undo_38 : decode cX9_undo 38 = .ok (.invokevirtual 158, 3) := by decide +kernel
theorem dX9_undo_41 : decode cX9_undo 41 = .ok (.aload_n 0, 1) := by decide +kernel
theorem dX9_undo_42 : decode cX9_undo 42 = .ok (.getfield 57, 3) := by decide +kernel
theorem dX9_undo_45 : decode cX9_undo 45 = .ok (.aload_n 0, 1) := by decide +kernel
theorem dX9_undo_46 : decode cX9_undo 46 = .ok (.getfield 80, 3) := by decide +kernel
theorem dX9_undo_49 : decode cX9_undo 49 = .ok (.getfield 336, 3) := by decide +kernel
theorem dX9_undo_52 : decode cX9_undo 52 = .ok (.invokevirtual 337, 3) := by decide +kernel
theorem dX9_undo_55 : decode cX9_undo 55 = .ok (.aload_n 0, 1) := by decide +kernel
theorem dX9_undo_56 : decode cX9_undo 56 = .ok (.iconst 0, 1) := by decide +kernel
theorem dX9_undo_57 : decode cX9_undo 57 = .ok (.putfield 279, 3) := by decide +kernel
theorem dX9_undo_60 : decode cX9_undo 60 = .ok (.aload_n 0, 1) := by decide +kernel
theorem dX9_undo_61 : decode cX9_undo 61 = .ok (.getfield 47, 3) := by decide +kernel
theorem dX9_undo_64 : decode cX9_undo 64 = .ok (.invokevirtual 168, 3) := by decide +kernel
theorem dX9_undo_67 : decode cX9_undo 67 = .ok (.ireturn, 1) := by decide +kernel
theorem dX9_count_0 : decode cX9_count 0 = .ok (.iload_n 1, 1) := by decide +kernel
theorem dX9_count_1 : decode cX9_count 1 = .ok (.bipush 20, 2) := by decide +kernel
theorem dX9_count_3 : decode cX9_count 3 = .ok (.if_icmp .lt 24, 3) := by decide +kernel
theorem dX9_count_6 : decode cX9_count 6 = .ok (.iload_n 1, 1) := by decide +kernel
theorem dX9_count_7 : decode cX9_count 7 = .ok (.bipush 32, 2) := by decide +kernel
theorem dX9_count_9 : decode cX9_count 9 = .ok (.if_icmp .ge 18, 3) := by decide +kernel
theorem dX9_count_12 : decode cX9_count 12 = .ok (.aload_n 0, 1) := by decide +kernel
theorem dX9_count_13 : decode cX9_count 13 = .ok (.getfield 47, 3) := by decide +kernel
theorem dX9_count_16 : decode cX9_count 16 = .ok (.getfield 343, 3) := by decide +kernel
theorem dX9_count_19 : decode cX9_count 19 = .ok (.iload_n 1, 1) := by decide +kernel
theorem dX9_count_20 : decode cX9_count 20 = .ok (.bipush 20, 2) := by decide +kernel
theorem dX9_count_22 : decode cX9_count 22 = .ok (.isub, 1) := by decide +kernel
theorem dX9_count_23 : decode cX9_count 23 = .ok (.invokestatic 134, 3) := by decide +kernel
theorem dX9_count_26 : decode cX9_count 26 = .ok (.ireturn, 1) := by decide +kernel
theorem dX9_count_27 : decode cX9_count 27 = .ok (.iload_n 1, 1) := by decide +kernel
theorem dX9_count_28 : decode cX9_count 28 = .ok (.tableswitch 154 0 10 #[60, 68, 76, 84, 92, 100, 108, 119, 130, 138, 146], 60) := by decide +kernel
theorem dX9_count_88 : decode cX9_count 88 = .ok (.aload_n 0, 1) := by decide +kernel
theorem dX9_count_89 : decode cX9_count 89 = .ok (.getfield 47, 3) := by decide +kernel
theorem dX9_count_92 : decode cX9_count 92 = .ok (.invokevirtual 168, 3) := by decide +kernel
theorem dX9_count_95 : decode cX9_count 95 = .ok (.ireturn, 1) := by decide +kernel
theorem dX9_count_96 : decode cX9_count 96 = .ok (.aload_n 0, 1) := by decide +kernel
theorem dX9_count_97 : decode cX9_count 97 = .ok (.getfield 47, 3) := by decide +kernel
theorem dX9_count_100 : decode cX9_count 100 = .ok (.getfield 148, 3) := by decide +kernel
theorem dX9_count_103 : decode cX9_count 103 = .ok (.ireturn, 1) := by decide +kernel
theorem dX9_count_104 : decode cX9_count 104 = .ok (.aload_n 0, 1) := by decide +kernel
theorem dX9_count_105 : decode cX9_count 105 = .ok (.getfield 47, 3) := by decide +kernel
theorem dX9_count_108 : decode cX9_count 108 = .ok (.getfield 151, 3) := by decide +kernel
theorem dX9_count_111 : decode cX9_count 111 = .ok (.ireturn, 1) := by decide +kernel
theorem dX9_count_112 : decode cX9_count 112 = .ok (.aload_n 0, 1) := by decide +kernel
theorem dX9_count_113 : decode cX9_count 113 = .ok (.getfield 47, 3) := by decide +kernel
theorem dX9_count_116 : decode cX9_count 116 = .ok (.getfield 171, 3) := by decide +kernel
theorem dX9_count_119 : decode cX9_count 119 = .ok (.ireturn, 1) := by decide +kernel
theorem dX9_count_120 : decode cX9_count 120 = .ok (.aload_n 0, 1) := by decide +kernel
theorem dX9_count_121 : decode cX9_count 121 = .ok (.getfield 57, 3) := by decide +kernel
theorem dX9_count_124 : decode cX9_count 124 = .ok (.getfield 271, 3) := by decide +kernel
theorem dX9_count_127 : decode cX9_count 127 = .ok (.ireturn, 1) := by decide +kernel
theorem dX9_count_128 : decode cX9_count 128 = .ok (.aload_n 0, 1) := by decide +kernel
theorem dX9_count_129 : decode cX9_count 129 = .ok (.getfield 57, 3) := by decide +kernel
theorem dX9_count_132 : decode cX9_count 132 = .ok (.invokevirtual 283, 3) := by decide +kernel
theorem dX9_count_135 : decode cX9_count 135 = .ok (.ireturn, 1) := by decide +kernel
theorem dX9_count_136 : decode cX9_count 136 = .ok (.aload_n 0, 1) := by decide +kernel
theorem dX9_count_137 : decode cX9_count 137 = .ok (.getfield 24, 3) := by decide +kernel
theorem dX9_count_140 : decode cX9_count 140 = .ok (.invokevirtual 162, 3) := by decide +kernel
theorem dX9_count_143 : decode cX9_count 143 = .ok (.invokestatic 194, 3) := by decide +kernel
theorem dX9_count_146 : decode cX9_count 146 = .ok (.ireturn, 1) := by decide +kernel
theorem dX9_count_147 : decode cX9_count 147 = .ok (.aload_n 0, 1) := by decide +kernel
theorem dX9_count_148 : decode cX9_count 148 = .ok (.getfield 47, 3) := by decide +kernel
theorem dX9_count_151 : decode cX9_count 151 = .ok (.getfield 165, 3) := by decide +kernel
theorem dX9_count_154 : decode cX9_count 154 = .ok (.invokestatic 194, 3) := by decide +kernel
theorem dX9_count_157 : decode cX9_count 157 = .ok (.ireturn, 1) := by decide +kernel
theorem dX9_count_158 : decode cX9_count 158 = .ok (.aload_n 0, 1) := by decide +kernel
theorem dX9_count_159 : decode cX9_count 159 = .ok (.getfield 14, 3) := by decide +kernel
theorem dX9_count_162 : decode cX9_count 162 = .ok (.getfield 91, 3) := by decide +kernel
theorem dX9_count_165 : decode cX9_count 165 = .ok (.ireturn, 1) := by decide +kernel
theorem dX9_count_166 : decode cX9_count 166 = .ok (.aload_n 0, 1) := by decide +kernel
theorem dX9_count_167 : decode cX9_count 167 = .ok (.getfield 24, 3) := by decide +kernel
theorem dX9_count_170 : decode cX9_count 170 = .ok (.getfield 142, 3) := by decide +kernel
theorem dX9_count_173 : decode cX9_count 173 = .ok (.ireturn, 1) := by decide +kernel
theorem dX9_count_174 : decode cX9_count 174 = .ok (.aload_n 0, 1) := by decide +kernel
theorem dX9_count_175 : decode cX9_count 175 = .ok (.getfield 24, 3) := by decide +kernel
theorem dX9_count_178 : decode cX9_count 178 = .ok (.getfield 145, 3) := by decide +kernel
theorem dX9_count_181 : decode cX9_count 181 = .ok (.ireturn, 1) := by decide +kernel
theorem dX9_count_182 : decode cX9_count 182 = .ok (.iconst (-1), 1) := by decide +kernel
theorem dX9_count_183 : decode cX9_count 183 = .ok (.ireturn, 1) := by decide +kernel
theorem dX9_begin_0 : decode cX9_begin 0 = .ok (.aload_n 0, 1) := by decide +kernel
theorem dX9_begin_1 : decode cX9_begin 1 = .ok (.getfield 57, 3) := by decide +kernel
theorem dX9_begin_4 : decode cX9_begin 4 = .ok (.aload_n 0, 1) := by decide +kernel
theorem dX9_begin_5 : decode cX9_begin 5 = .ok (.getfield 47, 3) := by decide +kernel
theorem dX9_begin_8 : decode cX9_begin 8 = .ok (.invokevirtual 274, 3) := by decide +kernel
theorem dX9_begin_11 : decode cX9_begin 11 = .ok (.invokevirtual 346, 3) := by decide +kernel
theorem dX9_begin_14 : decode cX9_begin 14 = .ok (.aload_n 0, 1) := by decide +kernel
theorem dX9_begin_15 : decode cX9_begin 15 = .ok (.iconst 0, 1) := by decide +kernel
theorem dX9_begin_16 : decode cX9_begin 16 = .ok (.putfield 279, 3) := by decide +kernel
theorem dX9_begin_19 : decode cX9_begin 19 = .ok (.return_, 1) := by decide +kernel
theorem dX9_isSquare_0 : decode cX9_isSquare 0 = .ok (.iload_n 1, 1) := by decide +kernel
theorem dX9_isSquare_1 : decode cX9_isSquare 1 = .ok (.ifCond .lt 18, 3) := by decide +kernel
theorem dX9_isSquare_4 : decode cX9_isSquare 4 = .ok (.iload_n 1, 1) := by decide +kernel
theorem dX9_isSquare_5 : decode cX9_isSquare 5 = .ok (.aload_n 0, 1) := by decide +kernel
theorem dX9_isSquare_6 : decode cX9_isSquare 6 = .ok (.getfield 47, 3) := by decide +kernel
theorem dX9_isSquare_9 : decode cX9_isSquare 9 = .ok (.invokevirtual 105, 3) := by decide +kernel
theorem dX9_isSquare_12 : decode cX9_isSquare 12 = .ok (.if_icmp .ge 7, 3) := by decide +kernel
theorem dX9_isSquare_15 : decode cX9_isSquare 15 = .ok (.iconst 1, 1) := by decide +kernel
theorem dX9_isSquare_16 : decode cX9_isSquare 16 = .ok (.goto 4, 3) := by decide +kernel
theorem dX9_isSquare_19 : decode cX9_isSquare 19 = .ok (.iconst 0, 1) := by decide +kernel
theorem dX9_isSquare_20 : decode cX9_isSquare 20 = .ok (.ireturn, 1) := by decide +kernel
theorem dX9_listLegal_0 : decode cX9_listLegal 0 = .ok (.aload_n 0, 1) := by decide +kernel
theorem dX9_listLegal_1 : decode cX9_listLegal 1 = .ok (.getfield 279, 3) := by decide +kernel
theorem dX9_listLegal_4 : decode cX9_listLegal 4 = .ok (.ifCond .ne 23, 3) := by decide +kernel
theorem dX9_listLegal_7 : decode cX9_listLegal 7 = .ok (.aload_n 0, 1) := by decide +kernel
theorem dX9_listLegal_8 : decode cX9_listLegal 8 = .ok (.getfield 33, 3) := by decide +kernel
theorem dX9_listLegal_11 : decode cX9_listLegal 11 = .ok (.aload_n 0, 1) := by decide +kernel
theorem dX9_listLegal_12 : decode cX9_listLegal 12 = .ok (.getfield 47, 3) := by decide +kernel
theorem dX9_listLegal_15 : decode cX9_listLegal 15 = .ok (.aload_n 0, 1) := by decide +kernel
theorem dX9_listLegal_16 : decode cX9_listLegal 16 = .ok (.getfield 64, 3) := by decide +kernel
theorem dX9_listLegal_19 : decode cX9_listLegal 19 = .ok (.invokevirtual 348, 3) := by decide +kernel
theorem dX9_listLegal_22 : decode cX9_listLegal 22 = .ok (.aload_n 0, 1) := by decide +kernel
theorem dX9_listLegal_23 : decode cX9_listLegal 23 = .ok (.iconst 1, 1) := by decide +kernel
theorem dX9_listLegal_24 : decode cX9_listLegal 24 = .ok (.putfield 279, 3) := by decide +kernel
theorem dX9_listLegal_27 : decode cX9_listLegal 27 = .ok (.return_, 1) := by decide +kernel
theorem dX9_isOfKind_0 : decode cX9_isOfKind 0 = .ok (.iload_n 2, 1) := by decide +kernel
theorem dX9_isOfKind_1 : decode cX9_isOfKind 1 = .ok (.iconst 3, 1) := by decide +kernel
theorem dX9_isOfKind_2 : decode cX9_isOfKind 2 = .ok (.if_icmp .ne 5, 3) := by decide +kernel
theorem dX9_isOfKind_5 : decode cX9_isOfKind 5 = .ok (.iconst 1, 1) := by decide +kernel
theorem dX9_isOfKind_6 : decode cX9_isOfKind 6 = .ok (.ireturn, 1) := by decide +kernel
theorem dX9_isOfKind_7 : decode cX9_isOfKind 7 = .ok (.iload_n 2, 1) := by decide +kernel
theorem dX9_isOfKind_8 : decode cX9_isOfKind 8 = .ok (.iconst 4, 1) := by decide +kernel
theorem dX9_isOfKind_9 : decode cX9_isOfKind 9 = .ok (.if_icmp .ne 24, 3) := by decide +kernel
theorem dX9_isOfKind_12 : decode cX9_isOfKind 12 = .ok (.aload_n 0, 1) := by decide +kernel
theorem dX9_isOfKind_13 : decode cX9_isOfKind 13 = .ok (.getfield 33, 3) := by decide +kernel
theorem dX9_isOfKind_16 : decode cX9_isOfKind 16 = .ok (.aload_n 0, 1) := by decide +kernel
theorem dX9_isOfKind_17 : decode cX9_isOfKind 17 = .ok (.getfield 47, 3) := by decide +kernel
theorem dX9_isOfKind_20 : decode cX9_isOfKind 20 = .ok (.iload_n 1, 1) := by decide +kernel
theorem dX9_isOfKind_21 : decode cX9_isOfKind 21 = .ok (.invokevirtual 351, 3) := by decide +kernel
theorem dX9_isOfKind_24 : decode cX9_isOfKind 24 = .ok (.ifCond .eq 7, 3) := by decide +kernel
theorem dX9_isOfKind_27 : decode cX9_isOfKind 27 = .ok (.iconst 1, 1) := by decide +kernel
theorem dX9_isOfKind_28 : decode cX9_isOfKind 28 = .ok (.goto 4, 3) := by decide +kernel
theorem dX9_isOfKind_31 : decode cX9_isOfKind 31 = .ok (.iconst 0, 1) := by decide +kernel
theorem dX9_isOfKind_32 : decode cX9_isOfKind 32 = .ok (.ireturn, 1) := by decide +kernel
theorem dX9_isOfKind_33 : decode cX9_isOfKind 33 = .ok (.iload_n 2, 1) := by decide +kernel
theorem dX9_isOfKind_34 : decode cX9_isOfKind 34 = .ok (.iconst 5, 1) := by decide +kernel
theorem dX9_isOfKind_35 : decode cX9_isOfKind 35 = .ok (.if_icmp .ne 18, 3) := by decide +kernel
theorem dX9_isOfKind_38 : decode cX9_isOfKind 38 = .ok (.aload_n 0, 1) := by decide +kernel
theorem dX9_isOfKind_39 : decode cX9_isOfKind 39 = .ok (.getfield 33, 3) := by decide +kernel
theorem dX9_isOfKind_42 : decode cX9_isOfKind 42 = .ok (.aload_n 0, 1) := by decide +kernel
theorem dX9_isOfKind_43 : decode cX9_isOfKind 43 = .ok (.getfield 47, 3) := by decide +kernel
theorem dX9_isOfKind_46 : decode cX9_isOfKind 46 = .ok (.iload_n 1, 1) := by decide +kernel
theorem dX9_isOfKind_47 : decode cX9_isOfKind 47 = .ok (.invokevirtual 354, 3) := by decide +kernel
theorem dX9_isOfKind_50 : decode cX9_isOfKind 50 = .ok (.goto 16, 3) := by decide +kernel
theorem dX9_isOfKind_53 : decode cX9_isOfKind 53 = .ok (.iload_n 1, 1) := by decide +kernel
theorem dX9_isOfKind_54 : decode cX9_isOfKind 54 = .ok (.invokestatic 213, 3) := by decide +kernel
theorem dX9_isOfKind_57 : decode cX9_isOfKind 57 = .ok (.iload_n 2, 1) := by decide +kernel
theorem dX9_isOfKind_58 : decode cX9_isOfKind 58 = .ok (.if_icmp .ne 7, 3) := by decide +kernel
theorem dX9_isOfKind_61 : decode cX9_isOfKind 61 = .ok (.iconst 1, 1) := by decide +kernel
theorem dX9_isOfKind_62 : decode cX9_isOfKind 62 = .ok (.goto 4, 3) := by decide +kernel
theorem dX9_isOfKind_65 : decode cX9_isOfKind 65 = .ok (.iconst 0, 1) := by decide +kernel
theorem dX9_isOfKind_66 : decode cX9_isOfKind 66 = .ok (.ireturn, 1) := by decide +kernel
theorem dX9_fromSquare_0 : decode cX9_fromSquare 0 = .ok (.iload_n 1, 1) := by decide +kernel
theorem dX9_fromSquare_1 : decode cX9_fromSquare 1 = .ok (.invokestatic 213, 3) := by decide +kernel
theorem dX9_fromSquare_4 : decode cX9_fromSquare 4 = .ok (.lookupswitch 46 #[(0, 28), (1, 33)], 28) := by decide +kernel
theorem dX9_fromSquare_32 : decode cX9_fromSquare 32 = .ok (.iload_n 1, 1) := by decide +kernel
theorem dX9_fromSquare_33 : decode cX9_fromSquare 33 = .ok (.invokestatic 357, 3) := by decide +kernel
theorem dX9_fromSquare_36 : decode cX9_fromSquare 36 = .ok (.ireturn, 1) := by decide +kernel
theorem dX9_fromSquare_37 : decode cX9_fromSquare 37 = .ok (.aload_n 0, 1) := by decide +kernel
theorem dX9_fromSquare_38 : decode cX9_fromSquare 38 = .ok (.getfield 24, 3) := by decide +kernel
theorem dX9_fromSquare_41 : decode cX9_fromSquare 41 = .ok (.iload_n 1, 1) := by decide +kernel
theorem dX9_fromSquare_42 : decode cX9_fromSquare 42 = .ok (.invokestatic 357, 3) := by decide +kernel
theorem dX9_fromSquare_45 : decode cX9_fromSquare 45 = .ok (.iconst 0, 1) := by decide +kernel
theorem dX9_fromSquare_46 : decode cX9_fromSquare 46 = .ok (.invokevirtual 360, 3) := by decide +kernel
theorem dX9_fromSquare_49 : decode cX9_fromSquare 49 = .ok (.ireturn, 1) := by decide +kernel
theorem dX9_fromSquare_50 : decode cX9_fromSquare 50 = .ok (.bipush (-5), 2) := by decide +kernel
theorem dX9_fromSquare_52 : decode cX9_fromSquare 52 = .ok (.ireturn, 1) := by decide +kernel
theorem dX9_toSquare_0 : decode cX9_toSquare 0 = .ok (.iload_n 1, 1) := by decide +kernel
theorem dX9_toSquare_1 : decode cX9_toSquare 1 = .ok (.invokestatic 213, 3) := by decide +kernel
theorem dX9_toSquare_4 : decode cX9_toSquare 4 = .ok (.iconst 1, 1) := by decide +kernel
theorem dX9_toSquare_5 : decode cX9_toSquare 5 = .ok (.if_icmp .ne 18, 3) := by decide +kernel
theorem dX9_toSquare_8 : decode cX9_toSquare 8 = .ok (.aload_n 0, 1) := by decide +kernel
theorem dX9_toSquare_9 : decode cX9_toSquare 9 = .ok (.getfield 24, 3) := by decide +kernel
theorem dX9_toSquare_12 : decode cX9_toSquare 12 = .ok (.iload_n 1, 1) := by decide +kernel
theorem dX9_toSquare_13 : decode cX9_toSquare 13 = .ok (.invokestatic 357, 3) := by decide +kernel
theorem dX9_toSquare_16 : decode cX9_toSquare 16 = .ok (.iconst 1, 1) := by decide +kernel
theorem dX9_toSquare_17 : decode cX9_toSquare 17 = .ok (.invokevirtual 360, 3) := by decide +kernel
theorem dX9_toSquare_20 : decode cX9_toSquare 20 = .ok (.goto 7, 3) := by decide +kernel
theorem dX9_toSquare_23 : decode cX9_toSquare 23 = .ok (.iload_n 1, 1) := by decide +kernel
theorem dX9_toSquare_24 : decode cX9_toSquare 24 = .ok (.invokestatic 363, 3) := by decide +kernel
theorem dX9_toSquare_27 : decode cX9_toSquare 27 = .ok (.ireturn, 1) := by decide +kernel
theorem dX9_capturedType_0 : decode cX9_capturedType 0 = .ok (.aload_n 0, 1) := by decide +kernel
theorem dX9_capturedType_1 : decode cX9_capturedType 1 = .ok (.getfield 33, 3) := by decide +kernel
theorem dX9_capturedType_4 : decode cX9_capturedType 4 = .ok (.aload_n 0, 1) := by decide +kernel
theorem dX9_capturedType_5 : decode cX9_capturedType 5 = .ok (.getfield 47, 3) := by decide +kernel
theorem dX9_capturedType_8 : decode cX9_capturedType 8 = .ok (.iload_n 1, 1) := by decide +kernel
theorem dX9_capturedType_9 : decode cX9_capturedType 9 = .ok (.invokevirtual 351, 3) := by decide +kernel
theorem dX9_capturedType_12 : decode cX9_capturedType 12 = .ok (.istore_n 2, 1) := by decide +kernel
theorem dX9_capturedType_13 : decode cX9_capturedType 13 = .ok (.iload_n 2, 1) := by decide +kernel
theorem dX9_capturedType_14 : decode cX9_capturedType 14 = .ok (.ifCond .ne 8, 3) := by decide +kernel
theorem dX9_capturedType_17 : decode cX9_capturedType 17 = .ok (.bipush (-5), 2) := by decide +kernel
theorem dX9_capturedType_19 : decode cX9_capturedType 19 = .ok (.goto 7, 3) := by decide +kernel
theorem dX9_capturedType_22 : decode cX9_capturedType 22 = .ok (.iload_n 2, 1) := by decide +kernel
theorem dX9_capturedType_23 : decode cX9_capturedType 23 = .ok (.invokestatic 226, 3) := by decide +kernel
theorem dX9_capturedType_26 : decode cX9_capturedType 26 = .ok (.ireturn, 1) := by decide +kernel
theorem dX9_givesCheck_0 : decode cX9_givesCheck 0 = .ok (.iconst 1, 1) := by decide +kernel
theorem dX9_givesCheck_1 : decode cX9_givesCheck 1 = .ok (.aload_n 0, 1) := by decide +kernel
theorem dX9_givesCheck_2 : decode cX9_givesCheck 2 = .ok (.getfield 47, 3) := by decide +kernel
theorem dX9_givesCheck_5 : decode cX9_givesCheck 5 = .ok (.getfield 171, 3) := by decide +kernel
theorem dX9_givesCheck_8 : decode cX9_givesCheck 8 = .ok (.isub, 1) := by decide +kernel
theorem dX9_givesCheck_9 : decode cX9_givesCheck 9 = .ok (.istore_n 2, 1) := by decide +kernel
theorem dX9_givesCheck_10 : decode cX9_givesCheck 10 = .ok (.aload_n 0, 1) := by decide +kernel
theorem dX9_givesCheck_11 : decode cX9_givesCheck 11 = .ok (.getfield 33, 3) := by decide +kernel
theorem dX9_givesCheck_14 : decode cX9_givesCheck 14 = .ok (.aload_n 0, 1) := by decide +kernel
theorem dX9_givesCheck_15 : decode cX9_givesCheck 15 = .ok (.getfield 47, 3) := by decide +kernel
theorem dX9_givesCheck_18 : decode cX9_givesCheck 18 = .ok (.iload_n 1, 1) := by decide +kernel
theorem dX9_givesCheck_19 : decode cX9_givesCheck 19 = .ok (.invokevirtual 257, 3) := by decide +kernel
theorem dX9_givesCheck_22 : decode cX9_givesCheck 22 = .ok (.istore_n 3, 1) := by decide +kernel
theorem dX9_givesCheck_23 : decode cX9_givesCheck 23 = .ok (.aload_n 0, 1) := by decide +kernel
theorem dX9_givesCheck_24 : decode cX9_givesCheck 24 = .ok (.getfield 33, 3) := by decide +kernel
theorem dX9_givesCheck_27 : decode cX9_givesCheck 27 = .ok (.aload_n 0, 1) := by decide +kernel
theorem dX9_givesCheck_28 : decode cX9_givesCheck 28 = .ok (.getfield 47, 3) := by decide +kernel
theorem dX9_givesCheck_31 : decode cX9_givesCheck 31 = .ok (.iload_n 2, 1) := by decide +kernel
theorem dX9_givesCheck_32 : decode cX9_givesCheck 32 = .ok (.invokevirtual 260, 3) := by decide +kernel
theorem dX9_givesCheck_35 : decode cX9_givesCheck 35 = .ok (.istore 4, 2) := by decide +kernel
theorem dX9_givesCheck_37 : decode cX9_givesCheck 37 = .ok (.aload_n 0, 1) := by decide +kernel
theorem dX9_givesCheck_38 : decode cX9_givesCheck 38 = .ok (.getfield 33, 3) := by decide +kernel
theorem dX9_givesCheck_41 : decode cX9_givesCheck 41 = .ok (.aload_n 0, 1) := by decide +kernel
theorem dX9_givesCheck_42 : decode cX9_givesCheck 42 = .ok (.getfield 47, 3) := by decide +kernel
theorem dX9_givesCheck_45 : decode cX9_givesCheck 45 = .ok (.iload_n 1, 1) := by decide +kernel
theorem dX9_givesCheck_46 : decode cX9_givesCheck 46 = .ok (.iload_n 3, 1) := by decide +kernel
theorem dX9_givesCheck_47 : decode cX9_givesCheck 47 = .ok (.invokevirtual 267, 3) := by decide +kernel
theorem dX9_givesCheck_50 : decode cX9_givesCheck 50 = .ok (.iload 4, 2) := by decide +kernel
theorem dX9_givesCheck_52 : decode cX9_givesCheck 52 = .ok (.ifCond .ne 7, 3) := by decide +kernel
theorem dX9_givesCheck_55 : decode cX9_givesCheck 55 = .ok (.iconst 1, 1) := by decide +kernel
theorem dX9_givesCheck_56 : decode cX9_givesCheck 56 = .ok (.goto 4, 3) := by decide +kernel
theorem dX9_givesCheck_59 : decode cX9_givesCheck 59 = .ok (.iconst 0, 1) := by decide +kernel
theorem dX9_givesCheck_60 : decode cX9_givesCheck 60 = .ok (.ireturn, 1) := by decide +kernel
theorem dX9_digestAfter_0 : decode cX9_digestAfter 0 = .ok (.aload_n 0, 1) := by decide +kernel
theorem dX9_digestAfter_1 : decode cX9_digestAfter 1 = .ok (.getfield 33, 3) := by decide +kernel
theorem dX9_digestAfter_4 : decode cX9_digestAfter 4 = .ok (.aload_n 0, 1) := by decide +kernel
theorem dX9_digestAfter_5 : decode cX9_digestAfter 5 = .ok (.getfield 47, 3) := by decide +kernel
theorem dX9_digestAfter_8 : decode cX9_digestAfter 8 = .ok (.iload_n 1, 1) := by decide +kernel
theorem dX9_digestAfter_9 : decode cX9_digestAfter 9 = .ok (.invokevirtual 257, 3) := by decide +kernel
theorem dX9_digestAfter_12 : decode cX9_digestAfter 12 = .ok (.istore_n 2, 1) := by decide +kernel
theorem dX9_digestAfter_13 : decode cX9_digestAfter 13 = .ok (.aload_n 0, 1) := by decide +kernel
theorem dX9_digestAfter_14 : decode cX9_digestAfter 14 = .ok (.getfield 47, 3) := by decide +kernel
theorem dX9_digestAfter_17 : decode cX9_digestAfter 17 = .ok (.invokevirtual 274, 3) := by decide +kernel
theorem dX9_digestAfter_20 : decode cX9_digestAfter 20 = .ok (.istore_n 3, 1) := by decide +kernel
theorem dX9_digestAfter_21 : decode cX9_digestAfter 21 = .ok (.aload_n 0, 1) := by decide +kernel
theorem dX9_digestAfter_22 : decode cX9_digestAfter 22 = .ok (.getfield 33, 3) := by decide +kernel
theorem dX9_digestAfter_25 : decode cX9_digestAfter 25 = .ok (.aload_n 0, 1) := by decide +kernel
theorem dX9_digestAfter_26 : decode cX9_digestAfter 26 = .ok (.getfield 47, 3) := by decide +kernel
theorem dX9_digestAfter_29 : decode cX9_digestAfter 29 = .ok (.iload_n 1, 1) := by decide +kernel
theorem dX9_digestAfter_30 : decode cX9_digestAfter 30 = .ok (.iload_n 2, 1) := by decide +kernel
theorem dX9_digestAfter_31 : decode cX9_digestAfter 31 = .ok (.invokevirtual 267, 3) := by decide +kernel
theorem dX9_digestAfter_34 : decode cX9_digestAfter 34 = .ok (.iload_n 3, 1) := by decide +kernel
theorem dX9_digestAfter_35 : decode cX9_digestAfter 35 = .ok (.ireturn, 1) := by decide +kernel
theorem dX9_mostMovesAlone_0 : decode cX9_mostMovesAlone 0 = .ok (.aload_n 0, 1) := by decide +kernel
theorem dX9_mostMovesAlone_1 : decode cX9_mostMovesAlone 1 = .ok (.getfield 51, 3) := by decide +kernel
theorem dX9_mostMovesAlone_4 : decode cX9_mostMovesAlone 4 = .ok (.aload_n 0, 1) := by decide +kernel
theorem dX9_mostMovesAlone_5 : decode cX9_mostMovesAlone 5 = .ok (.getfield 47, 3) := by decide +kernel
theorem dX9_mostMovesAlone_8 : decode cX9_mostMovesAlone 8 = .ok (.getfield 148, 3) := by decide +kernel
theorem dX9_mostMovesAlone_11 : decode cX9_mostMovesAlone 11 = .ok (.aload_n 0, 1) := by decide +kernel
theorem dX9_mostMovesAlone_12 : decode cX9_mostMovesAlone 12 = .ok (.getfield 47, 3) := by decide +kernel
theorem dX9_mostMovesAlone_15 : decode cX9_mostMovesAlone 15 = .ok (.getfield 151, 3) := by decide +kernel
theorem dX9_mostMovesAlone_18 : decode cX9_mostMovesAlone 18 = .ok (.invokevirtual 98, 3) := by decide +kernel
theorem dX9_mostMovesAlone_21 : decode cX9_mostMovesAlone 21 = .ok (.iconst 0, 1) := by decide +kernel
theorem dX9_mostMovesAlone_22 : decode cX9_mostMovesAlone 22 = .ok (.istore_n 2, 1) := by decide +kernel
theorem dX9_mostMovesAlone_23 : decode cX9_mostMovesAlone 23 = .ok (.iconst 0, 1) := by decide +kernel
theorem dX9_mostMovesAlone_24 : decode cX9_mostMovesAlone 24 = .ok (.istore_n 3, 1) := by decide +kernel
theorem dX9_mostMovesAlone_25 : decode cX9_mostMovesAlone 25 = .ok (.iload_n 3, 1) := by decide +kernel
theorem dX9_mostMovesAlone_26 : decode cX9_mostMovesAlone 26 = .ok (.aload_n 0, 1) := by decide +kernel
theorem dX9_mostMovesAlone_27 : decode cX9_mostMovesAlone 27 = .ok (.getfield 51, 3) := by decide +kernel
theorem dX9_mostMovesAlone_30 : decode cX9_mostMovesAlone 30 = .ok (.invokevirtual 105, 3) := by decide +kernel
theorem dX9_mostMovesAlone_33 : decode cX9_mostMovesAlone 33 = .ok (.if_icmp .ge 51, 3) := by decide +kernel
theorem dX9_mostMovesAlone_36 : decode cX9_mostMovesAlone 36 = .ok (.aload_n 0, 1) := by decide +kernel
theorem dX9_mostMovesAlone_37 : decode cX9_mostMovesAlone 37 = .ok (.getfield 51, 3) := by decide +kernel
theorem dX9_mostMovesAlone_40 : decode cX9_mostMovesAlone 40 = .ok (.iload_n 3, 1) := by decide +kernel
theorem dX9_mostMovesAlone_41 : decode cX9_mostMovesAlone 41 = .ok (.iconst 0, 1) := by decide +kernel
theorem dX9_mostMovesAlone_42 : decode cX9_mostMovesAlone 42 = .ok (.iload_n 1, 1) := by decide +kernel
theorem dX9_mostMovesAlone_43 : decode cX9_mostMovesAlone 43 = .ok (.invokestatic 366, 3) := by decide +kernel
theorem dX9_mostMovesAlone_46 : decode cX9_mostMovesAlone 46 = .ok (.invokevirtual 369, 3) := by decide +kernel
theorem dX9_mostMovesAlone_49 : decode cX9_mostMovesAlone 49 = .ok (.iload_n 2, 1) := by decide +kernel
theorem dX9_mostMovesAlone_50 : decode cX9_mostMovesAlone 50 = .ok (.aload_n 0, 1) := by decide +kernel
theorem dX9_mostMovesAlone_51 : decode cX9_mostMovesAlone 51 = .ok (.getfield 33, 3) := by decide +kernel
theorem dX9_mostMovesAlone_54 : decode cX9_mostMovesAlone 54 = .ok (.aload_n 0, 1) := by decide +kernel
theorem dX9_mostMovesAlone_55 : decode cX9_mostMovesAlone 55 = .ok (.getfield 51, 3) := by decide +kernel
theorem dX9_mostMovesAlone_58 : decode cX9_mostMovesAlone 58 = .ok (.iload_n 3, 1) := by decide +kernel
theorem dX9_mostMovesAlone_59 : decode cX9_mostMovesAlone 59 = .ok (.invokevirtual 249, 3) := by decide +kernel
theorem dX9_mostMovesAlone_62 : decode cX9_mostMovesAlone 62 = .ok (.invokestatic 372, 3) := by decide +kernel
theorem dX9_mostMovesAlone_65 : decode cX9_mostMovesAlone 65 = .ok (.invokestatic 375, 3) := by decide +kernel
theorem dX9_mostMovesAlone_68 : decode cX9_mostMovesAlone 68 = .ok (.istore_n 2, 1) := by decide +kernel
theorem dX9_mostMovesAlone_69 : decode cX9_mostMovesAlone 69 = .ok (.aload_n 0, 1) := by decide +kernel
theorem dX9_mostMovesAlone_70 : decode cX9_mostMovesAlone 70 = .ok (.getfield 51, 3) := by decide +kernel
theorem dX9_mostMovesAlone_73 : decode cX9_mostMovesAlone 73 = .ok (.iload_n 3, 1) := by decide +kernel
theorem dX9_mostMovesAlone_74 : decode cX9_mostMovesAlone 74 = .ok (.iconst 0, 1) := by decide +kernel
theorem dX9_mostMovesAlone_75 : decode cX9_mostMovesAlone 75 = .ok (.invokevirtual 369, 3) := by decide +kernel
theorem dX9_mostMovesAlone_78 : decode cX9_mostMovesAlone 78 = .ok (.iinc 3 1, 3) := by decide +kernel
theorem dX9_mostMovesAlone_81 : decode cX9_mostMovesAlone 81 = .ok (.goto (-56), 3) := by decide +kernel
theorem dX9_mostMovesAlone_84 : decode cX9_mostMovesAlone 84 = .ok (.iload_n 2, 1) := by decide +kernel
theorem dX9_mostMovesAlone_85 : decode cX9_mostMovesAlone 85 = .ok (.ireturn, 1) := by decide +kernel
