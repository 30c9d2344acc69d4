theorem dJ6_bitCount_0f7a4_0 : decode cJ6_bitCount_0f7a4 0 = .ok (.iload_n 0, 1) := by decide +kernel
theorem dJ6_bitCount_0f7a4_1 : decode cJ6_bitCount_0f7a4 1 = .ok (.iload_n 0, 1) := by decide +kernel
theorem dJ6_bitCount_0f7a4_2 : decode cJ6_bitCount_0f7a4 2 = .ok (.iconst 1, 1) := by decide +kernel
theorem dJ6_bitCount_0f7a4_3 : decode cJ6_bitCount_0f7a4 3 = .ok (.iushr, 1) := by decide +kernel
theorem dJ6_bitCount_0f7a4_4 : decode cJ6_bitCount_0f7a4 4 = .ok (.ldc_w 265, 3) := by decide +kernel
theorem dJ6_bitCount_0f7a4_7 : decode cJ6_bitCount_0f7a4 7 = .ok (.iand, 1) := by decide +kernel
theorem dJ6_bitCount_0f7a4_8 : decode cJ6_bitCount_0f7a4 8 = .ok (.isub, 1) := by decide +kernel
theorem dJ6_bitCount_0f7a4_9 : decode cJ6_bitCount_0f7a4 9 = .ok (.istore_n 0, 1) := by decide +kernel
theorem dJ6_bitCount_0f7a4_10 : decode cJ6_bitCount_0f7a4 10 = .ok (.iload_n 0, 1) := by decide +kernel
theorem dJ6_bitCount_0f7a4_11 : decode cJ6_bitCount_0f7a4 11 = .ok (.ldc_w 266, 3) := by decide +kernel
theorem dJ6_bitCount_0f7a4_14 : decode cJ6_bitCount_0f7a4 14 = .ok (.iand, 1) := by decide +kernel
theorem dJ6_bitCount_0f7a4_15 : decode cJ6_bitCount_0f7a4 15 = .ok (.iload_n 0, 1) := by decide +kernel
theorem dJ6_bitCount_0f7a4_16 : decode cJ6_bitCount_0f7a4 16 = .ok (.iconst 2, 1) := by decide +kernel
theorem dJ6_bitCount_0f7a4_17 : decode cJ6_bitCount_0f7a4 17 = .ok (.iushr, 1) := by decide +kernel
theorem dJ6_bitCount_0f7a4_18 : decode cJ6_bitCount_0f7a4 18 = .ok (.ldc_w 266, 3) := by decide +kernel
theorem dJ6_bitCount_0f7a4_21 : decode cJ6_bitCount_0f7a4 21 = .ok (.iand, 1) := by decide +kernel
theorem dJ6_bitCount_0f7a4_22 : decode cJ6_bitCount_0f7a4 22 = .ok (.iadd, 1) := by decide +kernel
theorem dJ6_bitCount_0f7a4_23 : decode cJ6_bitCount_0f7a4 23 = .ok (.istore_n 0, 1) := by decide +kernel
theorem dJ6_bitCount_0f7a4_24 : decode cJ6_bitCount_0f7a4 24 = .ok (.iload_n 0, 1) := by decide +kernel
theorem dJ6_bitCount_0f7a4_25 : decode cJ6_bitCount_0f7a4 25 = .ok (.iload_n 0, 1) := by decide +kernel
theorem dJ6_bitCount_0f7a4_26 : decode cJ6_bitCount_0f7a4 26 = .ok (.iconst 4, 1) := by decide +kernel
theorem dJ6_bitCount_0f7a4_27 : decode cJ6_bitCount_0f7a4 27 = .ok (.iushr, 1) := by decide +kernel
theorem dJ6_bitCount_0f7a4_28 : decode cJ6_bitCount_0f7a4 28 = .ok (.iadd, 1) := by decide +kernel
theorem dJ6_bitCount_0f7a4_29 : decode cJ6_bitCount_0f7a4 29 = .ok (.ldc_w 267, 3) := by decide +kernel
theorem dJ6_bitCount_0f7a4_32 : decode cJ6_bitCount_0f7a4 32 = .ok (.iand, 1) := by decide +kernel
theorem dJ6_bitCount_0f7a4_33 : decode cJ6_bitCount_0f7a4 33 = .ok (.istore_n 0, 1) := by decide +kernel
theorem dJ6_bitCount_0f7a4_34 : decode cJ6_bitCount_0f7a4 34 = .ok (.iload_n 0, 1) := by decide +kernel
theorem dJ6_bitCount_0f7a4_35 : decode cJ6_bitCount_0f7a4 35 = .ok (.iload_n 0, 1) := by decide +kernel
theorem dJ6_bitCount_0f7a4_36 : decode cJ6_bitCount_0f7a4 36 = .ok (.bipush 8, 2) := by decide +kernel
theorem dJ6_bitCount_0f7a4_38 : decode cJ6_bitCount_0f7a4 38 = .ok (.iushr, 1) := by decide +kernel
theorem dJ6_bitCount_0f7a4_39 : decode cJ6_bitCount_0f7a4 39 = .ok (.iadd, 1) := by decide +kernel
theorem dJ6_bitCount_0f7a4_40 : decode cJ6_bitCount_0f7a4 40 = .ok (.istore_n 0, 1) := by decide +kernel
theorem dJ6_bitCount_0f7a4_41 : decode cJ6_bitCount_0f7a4 41 = .ok (.iload_n 0, 1) := by decide +kernel
theorem dJ6_bitCount_0f7a4_42 : decode cJ6_bitCount_0f7a4 42 = .ok (.iload_n 0, 1) := by decide +kernel
theorem dJ6_bitCount_0f7a4_43 : decode cJ6_bitCount_0f7a4 43 = .ok (.bipush 16, 2) := by decide +kernel
theorem dJ6_bitCount_0f7a4_45 : decode cJ6_bitCount_0f7a4 45 = .ok (.iushr, 1) := by decide +kernel
theorem dJ6_bitCount_0f7a4_46 : decode cJ6_bitCount_0f7a4 46 = .ok (.iadd, 1) := by decide +kernel
theorem dJ6_bitCount_0f7a4_47 : decode cJ6_bitCount_0f7a4 47 = .ok (.istore_n 0, 1) := by decide +kernel
theorem dJ6_bitCount_0f7a4_48 : decode cJ6_bitCount_0f7a4 48 = .ok (.iload_n 0, 1) := by decide +kernel
theorem dJ6_bitCount_0f7a4_49 : decode cJ6_bitCount_0f7a4 49 = .ok (.bipush 63, 2) := by decide +kernel
theorem dJ6_bitCount_0f7a4_51 : decode cJ6_bitCount_0f7a4 51 = .ok (.iand, 1) := by decide +kernel
theorem dJ6_bitCount_0f7a4_52 : decode cJ6_bitCount_0f7a4 52 = .ok (.ireturn, 1) := by decide +kernel
theorem dJ7_fill_53178_0 : decode cJ7_fill_53178 0 = .ok (.iconst 0, 1) := by decide +kernel
theorem dJ7_fill_53178_1 : decode cJ7_fill_53178 1 = .ok (.istore_n 2, 1) := by decide +kernel
theorem dJ7_fill_53178_2 : decode cJ7_fill_53178 2 = .ok (.aload_n 0, 1) := by decide +kernel
theorem dJ7_fill_53178_3 : decode cJ7_fill_53178 3 = .ok (.arraylength, 1) := by decide +kernel
theorem dJ7_fill_53178_4 : decode cJ7_fill_53178 4 = .ok (.istore_n 3, 1) := by decide +kernel
theorem dJ7_fill_53178_5 : decode cJ7_fill_53178 5 = .ok (.iload_n 2, 1) := by decide +kernel
theorem dJ7_fill_53178_6 : decode cJ7_fill_53178 6 = .ok (.iload_n 3, 1) := by decide +kernel
theorem dJ7_fill_53178_7 : decode cJ7_fill_53178 7 = .ok (.if_icmp .ge 13, 3) := by decide +kernel
theorem dJ7_fill_53178_10 : decode cJ7_fill_53178 10 = .ok (.aload_n 0, 1) := by decide +kernel
theorem dJ7_fill_53178_11 : decode cJ7_fill_53178 11 = .ok (.iload_n 2, 1) := by decide +kernel
theorem dJ7_fill_53178_12 : decode cJ7_fill_53178 12 = .ok (.iload_n 1, 1) := by decide +kernel
theorem dJ7_fill_53178_13 : decode cJ7_fill_53178 13 = .ok (.iastore, 1) := by decide +kernel
theorem dJ7_fill_53178_14 : decode cJ7_fill_53178 14 = .ok (.iinc 2 1, 3) := by decide +kernel
theorem dJ7_fill_53178_17 : decode cJ7_fill_53178 17 = .ok (.goto (-12), 3) := by decide +kernel
theorem dJ7_fill_53178_20 : decode cJ7_fill_53178 20 = .ok (.return_, 1) := by decide +kernel
theorem dL_cell_0 : decode cL_cell 0 = .ok (.iload_n 1, 1) := by decide +kernel
theorem dL_cell_1 : decode cL_cell 1 = .ok (.aload_n 0, 1) := by decide +kernel
theorem dL_cell_2 : decode cL_cell 2 = .ok (.arraylength, 1) := by decide +kernel
theorem dL_cell_3 : decode cL_cell 3 = .ok (.if_icmp .ge 9, 3) := by decide +kernel
theorem dL_cell_6 : decode cL_cell 6 = .ok (.aload_n 0, 1) := by decide +kernel
theorem dL_cell_7 : decode cL_cell 7 = .ok (.iload_n 1, 1) := by decide +kernel
theorem dL_cell_8 : decode cL_cell 8 = .ok (.iaload, 1) := by decide +kernel
theorem dL_cell_9 : decode cL_cell 9 = .ok (.goto 11, 3) := by decide +kernel
theorem dL_cell_12 : decode cL_cell 12 = .ok (.ldc 7, 2) := by decide +kernel
theorem dL_cell_14 : decode cL_cell 14 = .ok (.iload_n 1, 1) := by decide +kernel
theorem dL_cell_15 : decode cL_cell 15 = .ok (.imul, 1) := by decide +kernel
theorem dL_cell_16 : decode cL_cell 16 = .ok (.sipush 8676, 3) := by decide +kernel
theorem dL_cell_19 : decode cL_cell 19 = .ok (.iadd, 1) := by decide +kernel
theorem dL_cell_20 : decode cL_cell 20 = .ok (.ldc 8, 2) := by decide +kernel
theorem dL_cell_22 : decode cL_cell 22 = .ok (.iand, 1) := by decide +kernel
theorem dL_cell_23 : decode cL_cell 23 = .ok (.ireturn, 1) := by decide +kernel
theorem dL_areFiles_0 : decode cL_areFiles 0 = .ok (.iconst 0, 1) := by decide +kernel
theorem dL_areFiles_1 : decode cL_areFiles 1 = .ok (.istore_n 1, 1) := by decide +kernel
theorem dL_areFiles_2 : decode cL_areFiles 2 = .ok (.iconst 0, 1) := by decide +kernel
theorem dL_areFiles_3 : decode cL_areFiles 3 = .ok (.istore_n 2, 1) := by decide +kernel
theorem dL_areFiles_4 : decode cL_areFiles 4 = .ok (.iconst (-1), 1) := by decide +kernel
theorem dL_areFiles_5 : decode cL_areFiles 5 = .ok (.istore_n 3, 1) := by decide +kernel
theorem dL_areFiles_6 : decode cL_areFiles 6 = .ok (.aload_n 0, 1) := by decide +kernel
theorem dL_areFiles_7 : decode cL_areFiles 7 = .ok (.iconst (-1), 1) := by decide +kernel
theorem dL_areFiles_8 : decode cL_areFiles 8 = .ok (.iconst 0, 1) := by decide +kernel
theorem dL_areFiles_9 : decode cL_areFiles 9 = .ok (.invokevirtual 9, 3) := by decide +kernel
theorem dL_areFiles_12 : decode cL_areFiles 12 = .ok (.iconst (-1), 1) := by decide +kernel
theorem dL_areFiles_13 : decode cL_areFiles 13 = .ok (.if_icmp .ne 45, 3) := by decide +kernel
theorem dL_areFiles_16 : decode cL_areFiles 16 = .ok (.aload_n 0, 1) := by decide +kernel
theorem dL_areFiles_17 : decode cL_areFiles 17 = .ok (.aload_n 0, 1) := by decide +kernel
theorem dL_areFiles_18 : decode cL_areFiles 18 = .ok (.iconst 1, 1) := by decide +kernel
theorem dL_areFiles_19 : decode cL_areFiles 19 = .ok (.invokevirtual 15, 3) := by decide +kernel
theorem dL_areFiles_22 : decode cL_areFiles 22 = .ok (.iconst 0, 1) := by decide +kernel
theorem dL_areFiles_23 : decode cL_areFiles 23 = .ok (.invokevirtual 9, 3) := by decide +kernel
theorem dL_areFiles_26 : decode cL_areFiles 26 = .ok (.iconst (-1), 1) := by decide +kernel
theorem dL_areFiles_27 : decode cL_areFiles 27 = .ok (.if_icmp .ne 31, 3) := by decide +kernel
theorem dL_areFiles_30 : decode cL_areFiles 30 = .ok (.aload_n 0, 1) := by decide +kernel
theorem dL_areFiles_31 : decode cL_areFiles 31 = .ok (.iconst (-1), 1) := by decide +kernel
theorem dL_areFiles_32 : decode cL_areFiles 32 = .ok (.invokevirtual 19, 3) := by decide +kernel
theorem dL_areFiles_35 : decode cL_areFiles 35 = .ok (.bipush (-2), 2) := by decide +kernel
theorem dL_areFiles_37 : decode cL_areFiles 37 = .ok (.if_icmp .ne 21, 3) := by decide +kernel
theorem dL_areFiles_40 : decode cL_areFiles 40 = .ok (.aload_n 0, 1) := by decide +kernel
theorem dL_areFiles_41 : decode cL_areFiles 41 = .ok (.aload_n 0, 1) := by decide +kernel
theorem dL_areFiles_42 : decode cL_areFiles 42 = .ok (.iconst 0, 1) := by decide +kernel
theorem dL_areFiles_43 : decode cL_areFiles 43 = .ok (.invokevirtual 15, 3) := by decide +kernel
theorem dL_areFiles_46 : decode cL_areFiles 46 = .ok (.invokevirtual 19, 3) := by decide +kernel
theorem dL_areFiles_49 : decode cL_areFiles 49 = .ok (.bipush (-6), 2) := by decide +kernel
theorem dL_areFiles_51 : decode cL_areFiles 51 = .ok (.if_icmp .ne 7, 3) := by decide +kernel
theorem dL_areFiles_54 : decode cL_areFiles 54 = .ok (.iconst 1, 1) := by decide +kernel
theorem dL_areFiles_55 : decode cL_areFiles 55 = .ok (.goto 4, 3) := by decide +kernel
theorem dL_areFiles_58 : decode cL_areFiles 58 = .ok (.iconst 0, 1) := by decide +kernel
theorem dL_areFiles_59 : decode cL_areFiles 59 = .ok (.istore 4, 2) := by decide +kernel
theorem dL_areFiles_61 : decode cL_areFiles 61 = .ok (.iconst 0, 1) := by decide +kernel
theorem dL_areFiles_62 : decode cL_areFiles 62 = .ok (.istore 5, 2) := by decide +kernel
theorem dL_areFiles_64 : decode cL_areFiles 64 = .ok (.iload 5, 2) := by decide +kernel
theorem dL_areFiles_66 : decode cL_areFiles 66 = .ok (.aload_n 0, 1) := by decide +kernel
theorem dL_areFiles_67 : decode cL_areFiles 67 = .ok (.iconst 0, 1) := by decide +kernel
theorem dL_areFiles_68 : decode cL_areFiles 68 = .ok (.invokevirtual 15, 3) := by decide +kernel
theorem dL_areFiles_71 : decode cL_areFiles 71 = .ok (.if_icmp .ge 502, 3) := by decide +kernel
theorem dL_areFiles_74 : decode cL_areFiles 74 = .ok (.iload 4, 2) := by decide +kernel
theorem dL_areFiles_76 : decode cL_areFiles 76 = .ok (.ifCond .eq 497, 3) := by decide +kernel
theorem dL_areFiles_79 : decode cL_areFiles 79 = .ok (.aload_n 0, 1) := by decide +kernel
theorem dL_areFiles_80 : decode cL_areFiles 80 = .ok (.iload 5, 2) := by decide +kernel
theorem dL_areFiles_82 : decode cL_areFiles 82 = .ok (.invokevirtual 19, 3) := by decide +kernel
theorem dL_areFiles_85 : decode cL_areFiles 85 = .ok (.istore 6, 2) := by decide +kernel
theorem dL_areFiles_87 : decode cL_areFiles 87 = .ok (.aload_n 0, 1) := by decide +kernel
theorem dL_areFiles_88 : decode cL_areFiles 88 = .ok (.iload 6, 2) := by decide +kernel
theorem dL_areFiles_90 : decode cL_areFiles 90 = .ok (.iconst 3, 1) := by decide +kernel
theorem dL_areFiles_91 : decode cL_areFiles 91 = .ok (.invokevirtual 9, 3) := by decide +kernel
theorem dL_areFiles_94 : decode cL_areFiles 94 = .ok (.istore 7, 2) := by decide +kernel
theorem dL_areFiles_96 : decode cL_areFiles 96 = .ok (.aload_n 0, 1) := by decide +kernel
theorem dL_areFiles_97 : decode cL_areFiles 97 = .ok (.iload 6, 2) := by decide +kernel
theorem dL_areFiles_99 : decode cL_areFiles 99 = .ok (.iconst 4, 1) := by decide +kernel
theorem dL_areFiles_100 : decode cL_areFiles 100 = .ok (.invokevirtual 9, 3) := by decide +kernel
theorem dL_areFiles_103 : decode cL_areFiles 103 = .ok (.istore 8, 2) := by decide +kernel
theorem dL_areFiles_105 : decode cL_areFiles 105 = .ok (.aload_n 0, 1) := by decide +kernel
theorem dL_areFiles_106 : decode cL_areFiles 106 = .ok (.aload_n 0, 1) := by decide +kernel
theorem dL_areFiles_107 : decode cL_areFiles 107 = .ok (.iload 6, 2) := by decide +kernel
theorem dL_areFiles_109 : decode cL_areFiles 109 = .ok (.iconst 0, 1) := by decide +kernel
theorem dL_areFiles_110 : decode cL_areFiles 110 = .ok (.invokevirtual 9, 3) := by decide +kernel
theorem dL_areFiles_113 : decode cL_areFiles 113 = .ok (.invokevirtual 22, 3) := by decide +kernel
theorem dL_areFiles_116 : decode cL_areFiles 116 = .ok (.iload 8, 2) := by decide +kernel
theorem dL_areFiles_118 : decode cL_areFiles 118 = .ok (.aload_n 0, 1) := by decide +kernel
theorem dL_areFiles_119 : decode cL_areFiles 119 = .ok (.iconst 5, 1) := by decide +kernel
theorem dL_areFiles_120 : decode cL_areFiles 120 = .ok (.invokevirtual 22, 3) := by decide +kernel
theorem dL_areFiles_123 : decode cL_areFiles 123 = .ok (.if_icmp .lt 7, 3) := by decide +kernel
theorem dL_areFiles_126 : decode cL_areFiles 126 = .ok (.iconst 2, 1) := by decide +kernel
theorem dL_areFiles_127 : decode cL_areFiles 127 = .ok (.goto 4, 3) := by decide +kernel
theorem dL_areFiles_130 : decode cL_areFiles 130 = .ok (.iconst 1, 1) := by decide +kernel
theorem dL_areFiles_131 : decode cL_areFiles 131 = .ok (.imul, 1) := by decide +kernel
theorem dL_areFiles_132 : decode cL_areFiles 132 = .ok (.istore 9, 2) := by decide +kernel
theorem dL_areFiles_134 : decode cL_areFiles 134 = .ok (.iload 9, 2) := by decide +kernel
theorem dL_areFiles_136 : decode cL_areFiles 136 = .ok (.iload 7, 2) := by decide +kernel
theorem dL_areFiles_138 : decode cL_areFiles 138 = .ok (.ifCond .ge 13, 3) := by decide +kernel
theorem dL_areFiles_141 : decode cL_areFiles 141 = .ok (.aload_n 0, 1) := by decide +kernel
theorem dL_areFiles_142 : decode cL_areFiles 142 = .ok (.iload 6, 2) := by decide +kernel
theorem dL_areFiles_144 : decode cL_areFiles 144 = .ok (.iconst 2, 1) := by decide +kernel
theorem dL_areFiles_145 : decode cL_areFiles 145 = .ok (.invokevirtual 9, 3) := by decide +kernel
theorem dL_areFiles_148 : decode cL_areFiles 148 = .ok (.goto 5, 3) := by decide +kernel
theorem dL_areFiles_151 : decode cL_areFiles 151 = .ok (.iload 7, 2) := by decide +kernel
theorem dL_areFiles_153 : decode cL_areFiles 153 = .ok (.iadd, 1) := by decide +kernel
theorem dL_areFiles_154 : decode cL_areFiles 154 = .ok (.istore 10, 2) := by decide +kernel
theorem dL_areFiles_156 : decode cL_areFiles 156 = .ok (.iconst 0, 1) := by decide +kernel
theorem dL_areFiles_157 : decode cL_areFiles 157 = .ok (.istore 11, 2) := by decide +kernel
theorem dL_areFiles_159 : decode cL_areFiles 159 = .ok (.bipush (-6), 2) := by decide +kernel
theorem dL_areFiles_161 : decode cL_areFiles 161 = .ok (.istore 12, 2) := by decide +kernel
theorem dL_areFiles_163 : decode cL_areFiles 163 = .ok (.iconst 0, 1) := by decide +kernel
theorem dL_areFiles_164 : decode cL_areFiles 164 = .ok (.istore 13, 2) := by decide +kernel
theorem dL_areFiles_166 : decode cL_areFiles 166 = .ok (.aload_n 0, 1) := by decide +kernel
theorem dL_areFiles_167 : decode cL_areFiles 167 = .ok (.iconst 0, 1) := by decide +kernel
theorem dL_areFiles_168 : decode cL_areFiles 168 = .ok (.invokevirtual 15, 3) := by decide +kernel
theorem dL_areFiles_171 : decode cL_areFiles 171 = .ok (.iconst 1, 1) := by decide +kernel
theorem dL_areFiles_172 : decode cL_areFiles 172 = .ok (.isub, 1) := by decide +kernel
theorem dL_areFiles_173 : decode cL_areFiles 173 = .ok (.istore 14, 2) := by decide +kernel
theorem dL_areFiles_175 : decode cL_areFiles 175 = .ok (.iload 14, 2) := by decide +kernel
theorem dL_areFiles_177 : decode cL_areFiles 177 = .ok (.ifCond .lt 78, 3) := by decide +kernel
theorem dL_areFiles_180 : decode cL_areFiles 180 = .ok (.aload_n 0, 1) := by decide +kernel
theorem dL_areFiles_181 : decode cL_areFiles 181 = .ok (.aload_n 0, 1) := by decide +kernel
theorem dL_areFiles_182 : decode cL_areFiles 182 = .ok (.iload 14, 2) := by decide +kernel
theorem dL_areFiles_184 : decode cL_areFiles 184 = .ok (.invokevirtual 19, 3) := by decide +kernel
theorem dL_areFiles_187 : decode cL_areFiles 187 = .ok (.iconst 5, 1) := by decide +kernel
theorem dL_areFiles_188 : decode cL_areFiles 188 = .ok (.invokevirtual 9, 3) := by decide +kernel
theorem dL_areFiles_191 : decode cL_areFiles 191 = .ok (.iload 6, 2) := by decide +kernel
theorem dL_areFiles_193 : decode cL_areFiles 193 = .ok (.if_icmp .ne 7, 3) := by decide +kernel
theorem dL_areFiles_196 : decode cL_areFiles 196 = .ok (.iconst 1, 1) := by decide +kernel
theorem dL_areFiles_197 : decode cL_areFiles 197 = .ok (.goto 4, 3) := by decide +kernel
theorem dL_areFiles_200 : decode cL_areFiles 200 = .ok (.iconst 0, 1) := by decide +kernel
theorem dL_areFiles_201 : decode cL_areFiles 201 = .ok (.istore 15, 2) := by decide +kernel
theorem dL_areFiles_203 : decode cL_areFiles 203 = .ok (.iload 11, 2) := by decide +kernel
theorem dL_areFiles_205 : decode cL_areFiles 205 = .ok (.iload 15, 2) := by decide +kernel
theorem dL_areFiles_207 : decode cL_areFiles 207 = .ok (.ifCond .eq 7, 3) := by decide +kernel
theorem dL_areFiles_210 : decode cL_areFiles 210 = .ok (.iconst 1, 1) := by decide +kernel
theorem dL_areFiles_211 : decode cL_areFiles 211 = .ok (.goto 4, 3) := by decide +kernel
theorem dL_areFiles_214 : decode cL_areFiles 214 = .ok (.iconst 0, 1) := by decide +kernel
theorem dL_areFiles_215 : decode cL_areFiles 215 = .ok (.iadd, 1) := by decide +kernel
theorem dL_areFiles_216 : decode cL_areFiles 216 = .ok (.istore 11, 2) := by decide +kernel
theorem dL_areFiles_218 : decode cL_areFiles 218 = .ok (.iload 15, 2) := by decide +kernel
theorem dL_areFiles_220 : decode cL_areFiles 220 = .ok (.ifCond .eq 25, 3) := by decide +kernel
theorem dL_areFiles_223 : decode cL_areFiles 223 = .ok (.aload_n 0, 1) := by decide +kernel
theorem dL_areFiles_224 : decode cL_areFiles 224 = .ok (.aload_n 0, 1) := by decide +kernel
theorem dL_areFiles_225 : decode cL_areFiles 225 = .ok (.iload 14, 2) := by decide +kernel
theorem dL_areFiles_227 : decode cL_areFiles 227 = .ok (.invokevirtual 19, 3) := by decide +kernel
theorem dL_areFiles_230 : decode cL_areFiles 230 = .ok (.invokevirtual 25, 3) := by decide +kernel
theorem dL_areFiles_233 : decode cL_areFiles 233 = .ok (.ifCond .le 12, 3) := by decide +kernel
theorem dL_areFiles_236 : decode cL_areFiles 236 = .ok (.aload_n 0, 1) := by decide +kernel
theorem dL_areFiles_237 : decode cL_areFiles 237 = .ok (.iload 14, 2) := by decide +kernel
theorem dL_areFiles_239 : decode cL_areFiles 239 = .ok (.invokevirtual 19, 3) := by decide +kernel
theorem dL_areFiles_242 : decode cL_areFiles 242 = .ok (.goto 5, 3) := by decide +kernel
theorem dL_areFiles_245 : decode cL_areFiles 245 = .ok (.iload 12, 2) := by decide +kernel
theorem dL_areFiles_247 : decode cL_areFiles 247 = .ok (.istore 12, 2) := by decide +kernel
theorem dL_areFiles_249 : decode cL_areFiles 249 = .ok (.iinc 14 (-1), 3) := by decide +kernel
theorem dL_areFiles_252 : decode cL_areFiles 252 = .ok (.goto (-77), 3) := by decide +kernel
theorem dL_areFiles_255 : decode cL_areFiles 255 = .ok (.iconst 0, 1) := by decide +kernel
theorem dL_areFiles_256 : decode cL_areFiles 256 = .ok (.istore 14, 2) := by decide +kernel
theorem dL_areFiles_258 : decode cL_areFiles 258 = .ok (.iload 14, 2) := by decide +kernel
theorem dL_areFiles_260 : decode cL_areFiles 260 = .ok (.bipush 8, 2) := by decide +kernel
theorem dL_areFiles_262 : decode cL_areFiles 262 = .ok (.if_icmp .ge 37, 3) := by decide +kernel
theorem dL_areFiles_265 : decode cL_areFiles 265 = .ok (.iload 13, 2) := by decide +kernel
theorem dL_areFiles_267 : decode cL_areFiles 267 = .ok (.aload_n 0, 1) := by decide +kernel
theorem dL_areFiles_268 : decode cL_areFiles 268 = .ok (.iload 14, 2) := by decide +kernel
theorem dL_areFiles_270 : decode cL_areFiles 270 = .ok (.iload 6, 2) := by decide +kernel
theorem dL_areFiles_272 : decode cL_areFiles 272 = .ok (.invokevirtual 28, 3) := by decide +kernel
theorem dL_areFiles_275 : decode cL_areFiles 275 = .ok (.aload_n 0, 1) := by decide +kernel
theorem dL_areFiles_276 : decode cL_areFiles 276 = .ok (.invokevirtual 31, 3) := by decide +kernel
theorem dL_areFiles_279 : decode cL_areFiles 279 = .ok (.if_icmp .lt 10, 3) := by decide +kernel
theorem dL_areFiles_282 : decode cL_areFiles 282 = .ok (.iconst 1, 1) := by decide +kernel
theorem dL_areFiles_283 : decode cL_areFiles 283 = .ok (.iload 14, 2) := by decide +kernel
theorem dL_areFiles_285 : decode cL_areFiles 285 = .ok (.ishl, 1) := by decide +kernel
theorem dL_areFiles_286 : decode cL_areFiles 286 = .ok (.goto 4, 3) := by decide +kernel
theorem dL_areFiles_289 : decode cL_areFiles 289 = .ok (.iconst 0, 1) := by decide +kernel
theorem dL_areFiles_290 : decode cL_areFiles 290 = .ok (.ior, 1) := by decide +kernel
theorem dL_areFiles_291 : decode cL_areFiles 291 = .ok (.istore 13, 2) := by decide +kernel
theorem dL_areFiles_293 : decode cL_areFiles 293 = .ok (.iinc 14 1, 3) := by decide +kernel
theorem dL_areFiles_296 : decode cL_areFiles 296 = .ok (.goto (-38), 3) := by decide +kernel
theorem dL_areFiles_299 : decode cL_areFiles 299 = .ok (.iload 10, 2) := by decide +kernel
theorem dL_areFiles_301 : decode cL_areFiles 301 = .ok (.aload_n 0, 1) := by decide +kernel
theorem dL_areFiles_302 : decode cL_areFiles 302 = .ok (.invokevirtual 31, 3) := by decide +kernel
theorem dL_areFiles_305 : decode cL_areFiles 305 = .ok (.if_icmp .le 7, 3) := by decide +kernel
theorem dL_areFiles_308 : decode cL_areFiles 308 = .ok (.iconst 1, 1) := by decide +kernel
theorem dL_areFiles_309 : decode cL_areFiles 309 = .ok (.goto 28, 3) := by decide +kernel
theorem dL_areFiles_312 : decode cL_areFiles 312 = .ok (.iload 13, 2) := by decide +kernel
theorem dL_areFiles_314 : decode cL_areFiles 314 = .ok (.ifCond .le 7, 3) := by decide +kernel
theorem dL_areFiles_317 : decode cL_areFiles 317 = .ok (.iconst 2, 1) := by decide +kernel
theorem dL_areFiles_318 : decode cL_areFiles 318 = .ok (.goto 19, 3) := by decide +kernel
theorem dL_areFiles_321 : decode cL_areFiles 321 = .ok (.aload_n 0, 1) := by decide +kernel
theorem dL_areFiles_322 : decode cL_areFiles 322 = .ok (.iload 6, 2) := by decide +kernel
theorem dL_areFiles_324 : decode cL_areFiles 324 = .ok (.bipush 9, 2) := by decide +kernel
theorem dL_areFiles_326 : decode cL_areFiles 326 = .ok (.invokevirtual 9, 3) := by decide +kernel
theorem dL_areFiles_329 : decode cL_areFiles 329 = .ok (.ifCond .le 7, 3) := by decide +kernel
theorem dL_areFiles_332 : decode cL_areFiles 332 = .ok (.iconst 3, 1) := by decide +kernel
theorem dL_areFiles_333 : decode cL_areFiles 333 = .ok (.goto 4, 3) := by decide +kernel
theorem dL_areFiles_336 : decode cL_areFiles 336 = .ok (.iconst 0, 1) := by decide +kernel
theorem dL_areFiles_337 : decode cL_areFiles 337 = .ok (.istore 14, 2) := by decide +kernel
theorem dL_areFiles_339 : decode cL_areFiles 339 = .ok (.aload_n 0, 1) := by decide +kernel
theorem dL_areFiles_340 : decode cL_areFiles 340 = .ok (.iload 6, 2) := by decide +kernel
theorem dL_areFiles_342 : decode cL_areFiles 342 = .ok (.invokevirtual 25, 3) := by decide +kernel
theorem dL_areFiles_345 : decode cL_areFiles 345 = .ok (.istore 15, 2) := by decide +kernel
theorem dL_areFiles_347 : decode cL_areFiles 347 = .ok (.iload_n 1, 1) := by decide +kernel
theorem dL_areFiles_348 : decode cL_areFiles 348 = .ok (.aload_n 0, 1) := by decide +kernel
theorem dL_areFiles_349 : decode cL_areFiles 349 = .ok (.iload 6, 2) := by decide +kernel
theorem dL_areFiles_351 : decode cL_areFiles 351 = .ok (.iconst 1, 1) := by decide +kernel
theorem dL_areFiles_352 : decode cL_areFiles 352 = .ok (.invokevirtual 9, 3) := by decide +kernel
theorem dL_areFiles_355 : decode cL_areFiles 355 = .ok (.iadd, 1) := by decide +kernel
theorem dL_areFiles_356 : decode cL_areFiles 356 = .ok (.istore_n 1, 1) := by decide +kernel
theorem dL_areFiles_357 : decode cL_areFiles 357 = .ok (.iload_n 2, 1) := by decide +kernel
theorem dL_areFiles_358 : decode cL_areFiles 358 = .ok (.aload_n 0, 1) := by decide +kernel
theorem dL_areFiles_359 : decode cL_areFiles 359 = .ok (.iload 6, 2) := by decide +kernel
theorem dL_areFiles_361 : decode cL_areFiles 361 = .ok (.bipush 9, 2) := by decide +kernel
theorem dL_areFiles_363 : decode cL_areFiles 363 = .ok (.invokevirtual 9, 3) := by decide +kernel
theorem dL_areFiles_366 : decode cL_areFiles 366 = .ok (.iadd, 1) := by decide +kernel
theorem dL_areFiles_367 : decode cL_areFiles 367 = .ok (.istore_n 2, 1) := by decide +kernel
theorem dL_areFiles_368 : decode cL_areFiles 368 = .ok (.iload 6, 2) := by decide +kernel
theorem dL_areFiles_370 : decode cL_areFiles 370 = .ok (.iload_n 3, 1) := by decide +kernel
theorem dL_areFiles_371 : decode cL_areFiles 371 = .ok (.if_icmp .le 104, 3) := by decide +kernel
theorem dL_areFiles_374 : decode cL_areFiles 374 = .ok (.iload 6, 2) := by decide +kernel
theorem dL_areFiles_376 : decode cL_areFiles 376 = .ok (.aload_n 0, 1) := by decide +kernel
theorem dL_areFiles_377 : decode cL_areFiles 377 = .ok (.iconst 1, 1) := by decide +kernel
theorem dL_areFiles_378 : decode cL_areFiles 378 = .ok (.invokevirtual 15, 3) := by decide +kernel
theorem dL_areFiles_381 : decode cL_areFiles 381 = .ok (.if_icmp .ge 94, 3) := by decide +kernel
theorem dL_areFiles_384 : decode cL_areFiles 384 = .ok (.aload_n 0, 1) := by decide +kernel
theorem dL_areFiles_385 : decode cL_areFiles 385 = .ok (.iload 6, 2) := by decide +kernel
theorem dL_areFiles_387 : decode cL_areFiles 387 = .ok (.bipush 6, 2) := by decide +kernel
theorem dL_areFiles_389 : decode cL_areFiles 389 = .ok (.invokevirtual 9, 3) := by decide +kernel
theorem dL_areFiles_392 : decode cL_areFiles 392 = .ok (.iload 10, 2) := by decide +kernel
theorem dL_areFiles_394 : decode cL_areFiles 394 = .ok (.if_icmp .ne 81, 3) := by decide +kernel
theorem dL_areFiles_397 : decode cL_areFiles 397 = .ok (.aload_n 0, 1) := by decide +kernel
theorem dL_areFiles_398 : decode cL_areFiles 398 = .ok (.iload 6, 2) := by decide +kernel
theorem dL_areFiles_400 : decode cL_areFiles 400 = .ok (.bipush 7, 2) := by decide +kernel
theorem dL_areFiles_402 : decode cL_areFiles 402 = .ok (.invokevirtual 9, 3) := by decide +kernel
theorem dL_areFiles_405 : decode cL_areFiles 405 = .ok (.iload 13, 2) := by decide +kernel
theorem dL_areFiles_407 : decode cL_areFiles 407 = .ok (.if_icmp .ne 68, 3) := by decide +kernel
theorem dL_areFiles_410 : decode cL_areFiles 410 = .ok (.aload_n 0, 1) := by decide +kernel
theorem dL_areFiles_411 : decode cL_areFiles 411 = .ok (.iload 6, 2) := by decide +kernel
theorem dL_areFiles_413 : decode cL_areFiles 413 = .ok (.bipush 8, 2) := by decide +kernel
theorem dL_areFiles_415 : decode cL_areFiles 415 = .ok (.invokevirtual 9, 3) := by decide +kernel
theorem dL_areFiles_418 : decode cL_areFiles 418 = .ok (.iload 11, 2) := by decide +kernel
theorem dL_areFiles_420 : decode cL_areFiles 420 = .ok (.if_icmp .ne 55, 3) := by decide +kernel
theorem dL_areFiles_423 : decode cL_areFiles 423 = .ok (.iload 7, 2) := by decide +kernel
theorem dL_areFiles_425 : decode cL_areFiles 425 = .ok (.bipush (-6), 2) := by decide +kernel
theorem dL_areFiles_427 : decode cL_areFiles 427 = .ok (.if_icmp .ne 7, 3) := by decide +kernel
theorem dL_areFiles_430 : decode cL_areFiles 430 = .ok (.iconst 1, 1) := by decide +kernel
theorem dL_areFiles_431 : decode cL_areFiles 431 = .ok (.goto 4, 3) := by decide +kernel
theorem dL_areFiles_434 : decode cL_areFiles 434 = .ok (.iconst 0, 1) := by decide +kernel
theorem dL_areFiles_435 : decode cL_areFiles 435 = .ok (.iload 8, 2) := by decide +kernel
theorem dL_areFiles_437 : decode cL_areFiles 437 = .ok (.ifCond .ne 7, 3) := by decide +kernel
theorem dL_areFiles_440 : decode cL_areFiles 440 = .ok (.iconst 1, 1) := by decide +kernel
theorem dL_areFiles_441 : decode cL_areFiles 441 = .ok (.goto 4, 3) := by decide +kernel
theorem dL_areFiles_444 : decode cL_areFiles 444 = .ok (.iconst 0, 1) := by decide +kernel
theorem dL_areFiles_445 : decode cL_areFiles 445 = .ok (.if_icmp .ne 30, 3) := by decide +kernel
theorem dL_areFiles_448 : decode cL_areFiles 448 = .ok (.iload 7, 2) := by decide +kernel
theorem dL_areFiles_450 : decode cL_areFiles 450 = .ok (.aload_n 0, 1) := by decide +kernel
theorem dL_areFiles_451 : decode cL_areFiles 451 = .ok (.invokevirtual 31, 3) := by decide +kernel
theorem dL_areFiles_454 : decode cL_areFiles 454 = .ok (.if_icmp .gt 21, 3) := by decide +kernel
theorem dL_areFiles_457 : decode cL_areFiles 457 = .ok (.aload_n 0, 1) := by decide +kernel
theorem dL_areFiles_458 : decode cL_areFiles 458 = .ok (.iload 6, 2) := by decide +kernel
theorem dL_areFiles_460 : decode cL_areFiles 460 = .ok (.iconst 2, 1) := by decide +kernel
theorem dL_areFiles_461 : decode cL_areFiles 461 = .ok (.invokevirtual 9, 3) := by decide +kernel
theorem dL_areFiles_464 : decode cL_areFiles 464 = .ok (.aload_n 0, 1) := by decide +kernel
theorem dL_areFiles_465 : decode cL_areFiles 465 = .ok (.invokevirtual 31, 3) := by decide +kernel
theorem dL_areFiles_468 : decode cL_areFiles 468 = .ok (.if_icmp .gt 7, 3) := by decide +kernel
theorem dL_areFiles_471 : decode cL_areFiles 471 = .ok (.iconst 1, 1) := by decide +kernel
theorem dL_areFiles_472 : decode cL_areFiles 472 = .ok (.goto 4, 3) := by decide +kernel
theorem dL_areFiles_475 : decode cL_areFiles 475 = .ok (.iconst 0, 1) := by decide +kernel
theorem dL_areFiles_476 : decode cL_areFiles 476 = .ok (.istore 4, 2) := by decide +kernel
theorem dL_areFiles_478 : decode cL_areFiles 478 = .ok (.iload 4, 2) := by decide +kernel
theorem dL_areFiles_480 : decode cL_areFiles 480 = .ok (.ifCond .eq 81, 3) := by decide +kernel
theorem dL_areFiles_483 : decode cL_areFiles 483 = .ok (.iload 14, 2) := by decide +kernel
theorem dL_areFiles_485 : decode cL_areFiles 485 = .ok (.ifCond .le 24, 3) := by decide +kernel
theorem dL_areFiles_488 : decode cL_areFiles 488 = .ok (.iload 15, 2) := by decide +kernel
theorem dL_areFiles_490 : decode cL_areFiles 490 = .ok (.iload 14, 2) := by decide +kernel
theorem dL_areFiles_492 : decode cL_areFiles 492 = .ok (.if_icmp .ne 69, 3) := by decide +kernel
theorem dL_areFiles_495 : decode cL_areFiles 495 = .ok (.aload_n 0, 1) := by decide +kernel
theorem dL_areFiles_496 : decode cL_areFiles 496 = .ok (.iload 6, 2) := by decide +kernel
theorem dL_areFiles_498 : decode cL_areFiles 498 = .ok (.invokevirtual 35, 3) := by decide +kernel
theorem dL_areFiles_501 : decode cL_areFiles 501 = .ok (.bipush (-6), 2) := by decide +kernel
theorem dL_areFiles_503 : decode cL_areFiles 503 = .ok (.if_icmp .ne 58, 3) := by decide +kernel
theorem dL_areFiles_506 : decode cL_areFiles 506 = .ok (.goto 51, 3) := by decide +kernel
theorem dL_areFiles_509 : decode cL_areFiles 509 = .ok (.iload 15, 2) := by decide +kernel
theorem dL_areFiles_511 : decode cL_areFiles 511 = .ok (.ifCond .ne 24, 3) := by decide +kernel
theorem dL_areFiles_514 : decode cL_areFiles 514 = .ok (.iload 12, 2) := by decide +kernel
theorem dL_areFiles_516 : decode cL_areFiles 516 = .ok (.bipush (-6), 2) := by decide +kernel
theorem dL_areFiles_518 : decode cL_areFiles 518 = .ok (.if_icmp .ne 43, 3) := by decide +kernel
theorem dL_areFiles_521 : decode cL_areFiles 521 = .ok (.aload_n 0, 1) := by decide +kernel
theorem dL_areFiles_522 : decode cL_areFiles 522 = .ok (.iload 6, 2) := by decide +kernel
theorem dL_areFiles_524 : decode cL_areFiles 524 = .ok (.invokevirtual 35, 3) := by decide +kernel
theorem dL_areFiles_527 : decode cL_areFiles 527 = .ok (.bipush (-6), 2) := by decide +kernel
theorem dL_areFiles_529 : decode cL_areFiles 529 = .ok (.if_icmp .ne 32, 3) := by decide +kernel
theorem dL_areFiles_532 : decode cL_areFiles 532 = .ok (.goto 25, 3) := by decide +kernel
theorem dL_areFiles_535 : decode cL_areFiles 535 = .ok (.iload 15, 2) := by decide +kernel
theorem dL_areFiles_537 : decode cL_areFiles 537 = .ok (.iconst 4, 1) := by decide +kernel
theorem dL_areFiles_538 : decode cL_areFiles 538 = .ok (.if_icmp .ne 23, 3) := by decide +kernel
theorem dL_areFiles_541 : decode cL_areFiles 541 = .ok (.aload_n 0, 1) := by decide +kernel
theorem dL_areFiles_542 : decode cL_areFiles 542 = .ok (.iload 6, 2) := by decide +kernel
theorem dL_areFiles_544 : decode cL_areFiles 544 = .ok (.invokevirtual 35, 3) := by decide +kernel
theorem dL_areFiles_547 : decode cL_areFiles 547 = .ok (.iload 12, 2) := by decide +kernel
theorem dL_areFiles_549 : decode cL_areFiles 549 = .ok (.if_icmp .ne 12, 3) := by decide +kernel
theorem dL_areFiles_552 : decode cL_areFiles 552 = .ok (.iload 12, 2) := by decide +kernel
theorem dL_areFiles_554 : decode cL_areFiles 554 = .ok (.ifCond .lt 7, 3) := by decide +kernel
theorem dL_areFiles_557 : decode cL_areFiles 557 = .ok (.iconst 1, 1) := by decide +kernel
theorem dL_areFiles_558 : decode cL_areFiles 558 = .ok (.goto 4, 3) := by decide +kernel
theorem dL_areFiles_561 : decode cL_areFiles 561 = .ok (.iconst 0, 1) := by decide +kernel
theorem dL_areFiles_562 : decode cL_areFiles 562 = .ok (.istore 4, 2) := by decide +kernel
theorem dL_areFiles_564 : decode cL_areFiles 564 = .ok (.iload 6, 2) := by decide +kernel
theorem dL_areFiles_566 : decode cL_areFiles 566 = .ok (.istore_n 3, 1) := by decide +kernel
theorem dL_areFiles_567 : decode cL_areFiles 567 = .ok (.iinc 5 1, 3) := by decide +kernel
theorem dL_areFiles_570 : decode cL_areFiles 570 = .ok (.goto (-506), 3) := by decide +kernel
theorem dL_areFiles_573 : decode cL_areFiles 573 = .ok (.iload 4, 2) := by decide +kernel
theorem dL_areFiles_575 : decode cL_areFiles 575 = .ok (.ifCond .eq 45, 3) := by decide +kernel
theorem dL_areFiles_578 : decode cL_areFiles 578 = .ok (.iload_n 1, 1) := by decide +kernel
theorem dL_areFiles_579 : decode cL_areFiles 579 = .ok (.aload_n 0, 1) := by decide +kernel
theorem dL_areFiles_580 : decode cL_areFiles 580 = .ok (.iconst 2, 1) := by decide +kernel
theorem dL_areFiles_581 : decode cL_areFiles 581 = .ok (.invokevirtual 15, 3) := by decide +kernel
theorem dL_areFiles_584 : decode cL_areFiles 584 = .ok (.if_icmp .ne 36, 3) := by decide +kernel
theorem dL_areFiles_587 : decode cL_areFiles 587 = .ok (.iload_n 2, 1) := by decide +kernel
theorem dL_areFiles_588 : decode cL_areFiles 588 = .ok (.aload_n 0, 1) := by decide +kernel
theorem dL_areFiles_589 : decode cL_areFiles 589 = .ok (.bipush 8, 2) := by decide +kernel
theorem dL_areFiles_591 : decode cL_areFiles 591 = .ok (.invokevirtual 15, 3) := by decide +kernel
theorem dL_areFiles_594 : decode cL_areFiles 594 = .ok (.if_icmp .ne 26, 3) := by decide +kernel
theorem dL_areFiles_597 : decode cL_areFiles 597 = .ok (.aload_n 0, 1) := by decide +kernel
theorem dL_areFiles_598 : decode cL_areFiles 598 = .ok (.iconst 0, 1) := by decide +kernel
theorem dL_areFiles_599 : decode cL_areFiles 599 = .ok (.invokevirtual 15, 3) := by decide +kernel
theorem dL_areFiles_602 : decode cL_areFiles 602 = .ok (.aload_n 0, 1) := by decide +kernel
theorem dL_areFiles_603 : decode cL_areFiles 603 = .ok (.iconst 3, 1) := by decide +kernel
theorem dL_areFiles_604 : decode cL_areFiles 604 = .ok (.invokevirtual 15, 3) := by decide +kernel
theorem dL_areFiles_607 : decode cL_areFiles 607 = .ok (.iadd, 1) := by decide +kernel
theorem dL_areFiles_608 : decode cL_areFiles 608 = .ok (.aload_n 0, 1) := by decide +kernel
theorem dL_areFiles_609 : decode cL_areFiles 609 = .ok (.iconst 1, 1) := by decide +kernel
theorem dL_areFiles_610 : decode cL_areFiles 610 = .ok (.invokevirtual 15, 3) := by decide +kernel
theorem dL_areFiles_613 : decode cL_areFiles 613 = .ok (.if_icmp .ne 7, 3) := by decide +kernel
theorem dL_areFiles_616 : decode cL_areFiles 616 = .ok (.iconst 1, 1) := by decide +kernel
theorem dL_areFiles_617 : decode cL_areFiles 617 = .ok (.goto 4, 3) := by decide +kernel
theorem dL_areFiles_620 : decode cL_areFiles 620 = .ok (.iconst 0, 1) := by decide +kernel
theorem dL_areFiles_621 : decode cL_areFiles 621 = .ok (.ireturn, 1) := by decide +kernel
theorem dL_areLists_0 : decode cL_areLists 0 = .ok (.aload_n 0, 1) := by decide +kernel
theorem dL_areLists_1 : decode cL_areLists 1 = .ok (.aload_n 0, 1) := by decide +kernel
theorem dL_areLists_2 : decode cL_areLists 2 = .ok (.bipush 8, 2) := by decide +kernel
theorem dL_areLists_4 : decode cL_areLists 4 = .ok (.invokevirtual 15, 3) := by decide +kernel
theorem dL_areLists_7 : decode cL_areLists 7 = .ok (.iconst 0, 1) := by decide +kernel
theorem dL_areLists_8 : decode cL_areLists 8 = .ok (.invokevirtual 38, 3) := by decide +kernel
theorem dL_areLists_11 : decode cL_areLists 11 = .ok (.bipush (-6), 2) := by decide +kernel
theorem dL_areLists_13 : decode cL_areLists 13 = .ok (.if_icmp .ne 48, 3) := by decide +kernel
theorem dL_areLists_16 : decode cL_areLists 16 = .ok (.aload_n 0, 1) := by decide +kernel
theorem dL_areLists_17 : decode cL_areLists 17 = .ok (.aload_n 0, 1) := by decide +kernel
theorem dL_areLists_18 : decode cL_areLists 18 = .ok (.bipush 9, 2) := by decide +kernel
theorem dL_areLists_20 : decode cL_areLists 20 = .ok (.invokevirtual 15, 3) := by decide +kernel
theorem dL_areLists_23 : decode cL_areLists 23 = .ok (.iconst 0, 1) := by decide +kernel
theorem dL_areLists_24 : decode cL_areLists 24 = .ok (.invokevirtual 41, 3) := by decide +kernel
theorem dL_areLists_27 : decode cL_areLists 27 = .ok (.bipush (-6), 2) := by decide +kernel
theorem dL_areLists_29 : decode cL_areLists 29 = .ok (.if_icmp .ne 32, 3) := by decide +kernel
theorem dL_areLists_32 : decode cL_areLists 32 = .ok (.aload_n 0, 1) := by decide +kernel
theorem dL_areLists_33 : decode cL_areLists 33 = .ok (.bipush 9, 2) := by decide +kernel
theorem dL_areLists_35 : decode cL_areLists 35 = .ok (.invokevirtual 15, 3) := by decide +kernel
theorem dL_areLists_38 : decode cL_areLists 38 = .ok (.bipush 12, 2) := by decide +kernel
theorem dL_areLists_40 : decode cL_areLists 40 = .ok (.if_icmp .gt 21, 3) := by decide +kernel
theorem dL_areLists_43 : decode cL_areLists 43 = .ok (.aload_n 0, 1) := by decide +kernel
theorem dL_areLists_44 : decode cL_areLists 44 = .ok (.bipush 9, 2) := by decide +kernel
theorem dL_areLists_46 : decode cL_areLists 46 = .ok (.invokevirtual 15, 3) := by decide +kernel
theorem dL_areLists_49 : decode cL_areLists 49 = .ok (.aload_n 0, 1) := by decide +kernel
theorem dL_areLists_50 : decode cL_areLists 50 = .ok (.iconst 3, 1) := by decide +kernel
theorem dL_areLists_51 : decode cL_areLists 51 = .ok (.invokevirtual 15, 3) := by decide +kernel
theorem dL_areLists_54 : decode cL_areLists 54 = .ok (.if_icmp .gt 7, 3) := by decide +kernel
theorem dL_areLists_57 : decode cL_areLists 57 = .ok (.iconst 1, 1) := by decide +kernel
theorem dL_areLists_58 : decode cL_areLists 58 = .ok (.goto 4, 3) := by decide +kernel
theorem dL_areLists_61 : decode cL_areLists 61 = .ok (.iconst 0, 1) := by decide +kernel
theorem dL_areLists_62 : decode cL_areLists 62 = .ok (.istore_n 1, 1) := by decide +kernel
theorem dL_areLists_63 : decode cL_areLists 63 = .ok (.iconst 0, 1) := by decide +kernel
theorem dL_areLists_64 : decode cL_areLists 64 = .ok (.istore_n 2, 1) := by decide +kernel
theorem dL_areLists_65 : decode cL_areLists 65 = .ok (.iload_n 2, 1) := by decide +kernel
theorem dL_areLists_66 : decode cL_areLists 66 = .ok (.aload_n 0, 1) := by decide +kernel
theorem dL_areLists_67 : decode cL_areLists 67 = .ok (.bipush 8, 2) := by decide +kernel
theorem dL_areLists_69 : decode cL_areLists 69 = .ok (.invokevirtual 15, 3) := by decide +kernel
theorem dL_areLists_72 : decode cL_areLists 72 = .ok (.if_icmp .ge 93, 3) := by decide +kernel
theorem dL_areLists_75 : decode cL_areLists 75 = .ok (.iload_n 1, 1) := by decide +kernel
theorem dL_areLists_76 : decode cL_areLists 76 = .ok (.ifCond .eq 89, 3) := by decide +kernel
theorem dL_areLists_79 : decode cL_areLists 79 = .ok (.aload_n 0, 1) := by decide +kernel
theorem dL_areLists_80 : decode cL_areLists 80 = .ok (.iload_n 2, 1) := by decide +kernel
theorem dL_areLists_81 : decode cL_areLists 81 = .ok (.iconst 1, 1) := by decide +kernel
theorem dL_areLists_82 : decode cL_areLists 82 = .ok (.invokevirtual 38, 3) := by decide +kernel
theorem dL_areLists_85 : decode cL_areLists 85 = .ok (.istore_n 3, 1) := by decide +kernel
theorem dL_areLists_86 : decode cL_areLists 86 = .ok (.iload_n 3, 1) := by decide +kernel
theorem dL_areLists_87 : decode cL_areLists 87 = .ok (.aload_n 0, 1) := by decide +kernel
theorem dL_areLists_88 : decode cL_areLists 88 = .ok (.invokevirtual 31, 3) := by decide +kernel
theorem dL_areLists_91 : decode cL_areLists 91 = .ok (.if_icmp .le 66, 3) := by decide +kernel
theorem dL_areLists_94 : decode cL_areLists 94 = .ok (.aload_n 0, 1) := by decide +kernel
theorem dL_areLists_95 : decode cL_areLists 95 = .ok (.aload_n 0, 1) := by decide +kernel
theorem dL_areLists_96 : decode cL_areLists 96 = .ok (.iload_n 2, 1) := by decide +kernel
theorem dL_areLists_97 : decode cL_areLists 97 = .ok (.iconst 0, 1) := by decide +kernel
theorem dL_areLists_98 : decode cL_areLists 98 = .ok (.invokevirtual 38, 3) := by decide +kernel
theorem dL_areLists_101 : decode cL_areLists 101 = .ok (.iconst 0, 1) := by decide +kernel
theorem dL_areLists_102 : decode cL_areLists 102 = .ok (.invokevirtual 9, 3) := by decide +kernel
theorem dL_areLists_105 : decode cL_areLists 105 = .ok (.ifCond .lt 52, 3) := by decide +kernel
theorem dL_areLists_108 : decode cL_areLists 108 = .ok (.iload_n 2, 1) := by decide +kernel
theorem dL_areLists_109 : decode cL_areLists 109 = .ok (.ifCond .eq 44, 3) := by decide +kernel
theorem dL_areLists_112 : decode cL_areLists 112 = .ok (.aload_n 0, 1) := by decide +kernel
theorem dL_areLists_113 : decode cL_areLists 113 = .ok (.iload_n 2, 1) := by decide +kernel
theorem dL_areLists_114 : decode cL_areLists 114 = .ok (.iconst 1, 1) := by decide +kernel
theorem dL_areLists_115 : decode cL_areLists 115 = .ok (.isub, 1) := by decide +kernel
theorem dL_areLists_116 : decode cL_areLists 116 = .ok (.iconst 1, 1) := by decide +kernel
theorem dL_areLists_117 : decode cL_areLists 117 = .ok (.invokevirtual 38, 3) := by decide +kernel
theorem dL_areLists_120 : decode cL_areLists 120 = .ok (.iload_n 3, 1) := by decide +kernel
theorem dL_areLists_121 : decode cL_areLists 121 = .ok (.if_icmp .lt 32, 3) := by decide +kernel
theorem dL_areLists_124 : decode cL_areLists 124 = .ok (.aload_n 0, 1) := by decide +kernel
theorem dL_areLists_125 : decode cL_areLists 125 = .ok (.iload_n 2, 1) := by decide +kernel
theorem dL_areLists_126 : decode cL_areLists 126 = .ok (.iconst 1, 1) := by decide +kernel
theorem dL_areLists_127 : decode cL_areLists 127 = .ok (.isub, 1) := by decide +kernel
theorem dL_areLists_128 : decode cL_areLists 128 = .ok (.iconst 1, 1) := by decide +kernel
theorem dL_areLists_129 : decode cL_areLists 129 = .ok (.invokevirtual 38, 3) := by decide +kernel
theorem dL_areLists_132 : decode cL_areLists 132 = .ok (.iload_n 3, 1) := by decide +kernel
theorem dL_areLists_133 : decode cL_areLists 133 = .ok (.if_icmp .ne 24, 3) := by decide +kernel
theorem dL_areLists_136 : decode cL_areLists 136 = .ok (.aload_n 0, 1) := by decide +kernel
theorem dL_areLists_137 : decode cL_areLists 137 = .ok (.iload_n 2, 1) := by decide +kernel
theorem dL_areLists_138 : decode cL_areLists 138 = .ok (.iconst 1, 1) := by decide +kernel
theorem dL_areLists_139 : decode cL_areLists 139 = .ok (.isub, 1) := by decide +kernel
theorem dL_areLists_140 : decode cL_areLists 140 = .ok (.iconst 0, 1) := by decide +kernel
theorem dL_areLists_141 : decode cL_areLists 141 = .ok (.invokevirtual 38, 3) := by decide +kernel
theorem dL_areLists_144 : decode cL_areLists 144 = .ok (.aload_n 0, 1) := by decide +kernel
theorem dL_areLists_145 : decode cL_areLists 145 = .ok (.iload_n 2, 1) := by decide +kernel
theorem dL_areLists_146 : decode cL_areLists 146 = .ok (.iconst 0, 1) := by decide +kernel
theorem dL_areLists_147 : decode cL_areLists 147 = .ok (.invokevirtual 38, 3) := by decide +kernel
theorem dL_areLists_150 : decode cL_areLists 150 = .ok (.if_icmp .ge 7, 3) := by decide +kernel
theorem dL_areLists_153 : decode cL_areLists 153 = .ok (.iconst 1, 1) := by decide +kernel
theorem dL_areLists_154 : decode cL_areLists 154 = .ok (.goto 4, 3) := by decide +kernel
theorem dL_areLists_157 : decode cL_areLists 157 = .ok (.iconst 0, 1) := by decide +kernel
theorem dL_areLists_158 : decode cL_areLists 158 = .ok (.istore_n 1, 1) := by decide +kernel
theorem dL_areLists_159 : decode cL_areLists 159 = .ok (.iinc 2 1, 3) := by decide +kernel
theorem dL_areLists_162 : decode cL_areLists 162 = .ok (.goto (-97), 3) := by decide +kernel
theorem dL_areLists_165 : decode cL_areLists 165 = .ok (.iconst 0, 1) := by decide +kernel
theorem dL_areLists_166 : decode cL_areLists 166 = .ok (.istore_n 2, 1) := by decide +kernel
theorem dL_areLists_167 : decode cL_areLists 167 = .ok (.iload_n 2, 1) := by decide +kernel
theorem dL_areLists_168 : decode cL_areLists 168 = .ok (.aload_n 0, 1) := by decide +kernel
theorem dL_areLists_169 : decode cL_areLists 169 = .ok (.bipush 9, 2) := by decide +kernel
theorem dL_areLists_171 : decode cL_areLists 171 = .ok (.invokevirtual 15, 3) := by decide +kernel
theorem dL_areLists_174 : decode cL_areLists 174 = .ok (.if_icmp .ge 114, 3) := by decide +kernel
theorem dL_areLists_177 : decode cL_areLists 177 = .ok (.iload_n 1, 1) := by decide +kernel
theorem dL_areLists_178 : decode cL_areLists 178 = .ok (.ifCond .eq 110, 3) := by decide +kernel
theorem dL_areLists_181 : decode cL_areLists 181 = .ok (.aload_n 0, 1) := by decide +kernel
theorem dL_areLists_182 : decode cL_areLists 182 = .ok (.iload_n 2, 1) := by decide +kernel
theorem dL_areLists_183 : decode cL_areLists 183 = .ok (.iconst 3, 1) := by decide +kernel
theorem dL_areLists_184 : decode cL_areLists 184 = .ok (.invokevirtual 41, 3) := by decide +kernel
theorem dL_areLists_187 : decode cL_areLists 187 = .ok (.bipush 90, 2) := by decide +kernel
theorem dL_areLists_189 : decode cL_areLists 189 = .ok (.irem, 1) := by decide +kernel
theorem dL_areLists_190 : decode cL_areLists 190 = .ok (.ifCond .ne 90, 3) := by decide +kernel
theorem dL_areLists_193 : decode cL_areLists 193 = .ok (.aload_n 0, 1) := by decide +kernel
theorem dL_areLists_194 : decode cL_areLists 194 = .ok (.iload_n 2, 1) := by decide +kernel
theorem dL_areLists_195 : decode cL_areLists 195 = .ok (.iconst 3, 1) := by decide +kernel
theorem dL_areLists_196 : decode cL_areLists 196 = .ok (.invokevirtual 41, 3) := by decide +kernel
theorem dL_areLists_199 : decode cL_areLists 199 = .ok (.aload_n 0, 1) := by decide +kernel
theorem dL_areLists_200 : decode cL_areLists 200 = .ok (.invokevirtual 31, 3) := by decide +kernel
theorem dL_areLists_203 : decode cL_areLists 203 = .ok (.if_icmp .gt 77, 3) := by decide +kernel
theorem dL_areLists_206 : decode cL_areLists 206 = .ok (.aload_n 0, 1) := by decide +kernel
theorem dL_areLists_207 : decode cL_areLists 207 = .ok (.aload_n 0, 1) := by decide +kernel
theorem dL_areLists_208 : decode cL_areLists 208 = .ok (.iload_n 2, 1) := by decide +kernel
theorem dL_areLists_209 : decode cL_areLists 209 = .ok (.iconst 0, 1) := by decide +kernel
theorem dL_areLists_210 : decode cL_areLists 210 = .ok (.invokevirtual 41, 3) := by decide +kernel
theorem dL_areLists_213 : decode cL_areLists 213 = .ok (.iconst 0, 1) := by decide +kernel
theorem dL_areLists_214 : decode cL_areLists 214 = .ok (.invokevirtual 9, 3) := by decide +kernel
theorem dL_areLists_217 : decode cL_areLists 217 = .ok (.iconst (-1), 1) := by decide +kernel
theorem dL_areLists_218 : decode cL_areLists 218 = .ok (.if_icmp .ne 62, 3) := by decide +kernel
theorem dL_areLists_221 : decode cL_areLists 221 = .ok (.iload_n 2, 1) := by decide +kernel
theorem dL_areLists_222 : decode cL_areLists 222 = .ok (.ifCond .eq 54, 3) := by decide +kernel
theorem dL_areLists_225 : decode cL_areLists 225 = .ok (.aload_n 0, 1) := by decide +kernel
theorem dL_areLists_226 : decode cL_areLists 226 = .ok (.iload_n 2, 1) := by decide +kernel
theorem dL_areLists_227 : decode cL_areLists 227 = .ok (.iconst 1, 1) := by decide +kernel
theorem dL_areLists_228 : decode cL_areLists 228 = .ok (.isub, 1) := by decide +kernel
theorem dL_areLists_229 : decode cL_areLists 229 = .ok (.iconst 3, 1) := by decide +kernel
theorem dL_areLists_230 : decode cL_areLists 230 = .ok (.invokevirtual 41, 3) := by decide +kernel
theorem dL_areLists_233 : decode cL_areLists 233 = .ok (.aload_n 0, 1) := by decide +kernel
theorem dL_areLists_234 : decode cL_areLists 234 = .ok (.iload_n 2, 1) := by decide +kernel
theorem dL_areLists_235 : decode cL_areLists 235 = .ok (.iconst 3, 1) := by decide +kernel
theorem dL_areLists_236 : decode cL_areLists 236 = .ok (.invokevirtual 41, 3) := by decide +kernel
theorem dL_areLists_239 : decode cL_areLists 239 = .ok (.if_icmp .gt 37, 3) := by decide +kernel
theorem dL_areLists_242 : decode cL_areLists 242 = .ok (.aload_n 0, 1) := by decide +kernel
theorem dL_areLists_243 : decode cL_areLists 243 = .ok (.iload_n 2, 1) := by decide +kernel
theorem dL_areLists_244 : decode cL_areLists 244 = .ok (.iconst 1, 1) := by decide +kernel
theorem dL_areLists_245 : decode cL_areLists 245 = .ok (.isub, 1) := by decide +kernel
theorem dL_areLists_246 : decode cL_areLists 246 = .ok (.iconst 3, 1) := by decide +kernel
theorem dL_areLists_247 : decode cL_areLists 247 = .ok (.invokevirtual 41, 3) := by decide +kernel
theorem dL_areLists_250 : decode cL_areLists 250 = .ok (.aload_n 0, 1) := by decide +kernel
theorem dL_areLists_251 : decode cL_areLists 251 = .ok (.iload_n 2, 1) := by decide +kernel
theorem dL_areLists_252 : decode cL_areLists 252 = .ok (.iconst 3, 1) := by decide +kernel
theorem dL_areLists_253 : decode cL_areLists 253 = .ok (.invokevirtual 41, 3) := by decide +kernel
theorem dL_areLists_256 : decode cL_areLists 256 = .ok (.if_icmp .ne 24, 3) := by decide +kernel
theorem dL_areLists_259 : decode cL_areLists 259 = .ok (.aload_n 0, 1) := by decide +kernel
theorem dL_areLists_260 : decode cL_areLists 260 = .ok (.iload_n 2, 1) := by decide +kernel
theorem dL_areLists_261 : decode cL_areLists 261 = .ok (.iconst 1, 1) := by decide +kernel
theorem dL_areLists_262 : decode cL_areLists 262 = .ok (.isub, 1) := by decide +kernel
theorem dL_areLists_263 : decode cL_areLists 263 = .ok (.iconst 0, 1) := by decide +kernel
theorem dL_areLists_264 : decode cL_areLists 264 = .ok (.invokevirtual 41, 3) := by decide +kernel
theorem dL_areLists_267 : decode cL_areLists 267 = .ok (.aload_n 0, 1) := by decide +kernel
theorem dL_areLists_268 : decode cL_areLists 268 = .ok (.iload_n 2, 1) := by decide +kernel
theorem dL_areLists_269 : decode cL_areLists 269 = .ok (.iconst 0, 1) := by decide +kernel
theorem dL_areLists_270 : decode cL_areLists 270 = .ok (.invokevirtual 41, 3) := by decide +kernel
theorem dL_areLists_273 : decode cL_areLists 273 = .ok (.if_icmp .le 7, 3) := by decide +kernel
theorem dL_areLists_276 : decode cL_areLists 276 = .ok (.iconst 1, 1) := by decide +kernel
theorem dL_areLists_277 : decode cL_areLists 277 = .ok (.goto 4, 3) := by decide +kernel
theorem dL_areLists_280 : decode cL_areLists 280 = .ok (.iconst 0, 1) := by decide +kernel
theorem dL_areLists_281 : decode cL_areLists 281 = .ok (.istore_n 1, 1) := by decide +kernel
theorem dL_areLists_282 : decode cL_areLists 282 = .ok (.iinc 2 1, 3) := by decide +kernel
theorem dL_areLists_285 : decode cL_areLists 285 = .ok (.goto (-118), 3) := by decide +kernel
theorem dL_areLists_288 : decode cL_areLists 288 = .ok (.iload_n 1, 1) := by decide +kernel
theorem dL_areLists_289 : decode cL_areLists 289 = .ok (.ifCond .eq 23, 3) := by decide +kernel
theorem dL_areLists_292 : decode cL_areLists 292 = .ok (.aload_n 0, 1) := by decide +kernel
theorem dL_areLists_293 : decode cL_areLists 293 = .ok (.bipush 7, 2) := by decide +kernel
theorem dL_areLists_295 : decode cL_areLists 295 = .ok (.invokevirtual 15, 3) := by decide +kernel
theorem dL_areLists_298 : decode cL_areLists 298 = .ok (.aload_n 0, 1) := by decide +kernel
theorem dL_areLists_299 : decode cL_areLists 299 = .ok (.invokevirtual 31, 3) := by decide +kernel
theorem dL_areLists_302 : decode cL_areLists 302 = .ok (.bipush 90, 2) := by decide +kernel
theorem dL_areLists_304 : decode cL_areLists 304 = .ok (.idiv, 1) := by decide +kernel
theorem dL_areLists_305 : decode cL_areLists 305 = .ok (.if_icmp .ne 7, 3) := by decide +kernel
theorem dL_areLists_308 : decode cL_areLists 308 = .ok (.iconst 1, 1) := by decide +kernel
theorem dL_areLists_309 : decode cL_areLists 309 = .ok (.goto 4, 3) := by decide +kernel
theorem dL_areLists_312 : decode cL_areLists 312 = .ok (.iconst 0, 1) := by decide +kernel
theorem dL_areLists_313 : decode cL_areLists 313 = .ok (.ireturn, 1) := by decide +kernel
theorem dL_acts_0 : decode cL_acts 0 = .ok (.aload_n 0, 1) := by decide +kernel
theorem dL_acts_1 : decode cL_acts 1 = .ok (.iconst 1, 1) := by decide +kernel
theorem dL_acts_2 : decode cL_acts 2 = .ok (.invokevirtual 15, 3) := by decide +kernel
theorem dL_acts_5 : decode cL_acts 5 = .ok (.ifCond .ne 7, 3) := by decide +kernel
theorem dL_acts_8 : decode cL_acts 8 = .ok (.iconst 0, 1) := by decide +kernel
theorem dL_acts_9 : decode cL_acts 9 = .ok (.goto 12, 3) := by decide +kernel
theorem dL_acts_12 : decode cL_acts 12 = .ok (.iload_n 1, 1) := by decide +kernel
theorem dL_acts_13 : decode cL_acts 13 = .ok (.iconst 4, 1) := by decide +kernel
theorem dL_acts_14 : decode cL_acts 14 = .ok (.ishr, 1) := by decide +kernel
theorem dL_acts_15 : decode cL_acts 15 = .ok (.aload_n 0, 1) := by decide +kernel
theorem dL_acts_16 : decode cL_acts 16 = .ok (.iconst 1, 1) := by decide +kernel
theorem dL_acts_17 : decode cL_acts 17 = .ok (.invokevirtual 15, 3) := by decide +kernel
theorem dL_acts_20 : decode cL_acts 20 = .ok (.irem, 1) := by decide +kernel
theorem dL_acts_21 : decode cL_acts 21 = .ok (.istore_n 2, 1) := by decide +kernel
theorem dL_acts_22 : decode cL_acts 22 = .ok (.iload_n 1, 1) := by decide +kernel
theorem dL_acts_23 : decode cL_acts 23 = .ok (.bipush 9, 2) := by decide +kernel
theorem dL_acts_25 : decode cL_acts 25 = .ok (.ishr, 1) := by decide +kernel
theorem dL_acts_26 : decode cL_acts 26 = .ok (.bipush 8, 2) := by decide +kernel
theorem dL_acts_28 : decode cL_acts 28 = .ok (.irem, 1) := by decide +kernel
theorem dL_acts_29 : decode cL_acts 29 = .ok (.istore_n 3, 1) := by decide +kernel
theorem dL_acts_30 : decode cL_acts 30 = .ok (.aload_n 0, 1) := by decide +kernel
theorem dL_acts_31 : decode cL_acts 31 = .ok (.iload_n 2, 1) := by decide +kernel
theorem dL_acts_32 : decode cL_acts 32 = .ok (.iconst 0, 1) := by decide +kernel
theorem dL_acts_33 : decode cL_acts 33 = .ok (.invokevirtual 9, 3) := by decide +kernel
theorem dL_acts_36 : decode cL_acts 36 = .ok (.istore 4, 2) := by decide +kernel
theorem dL_acts_38 : decode cL_acts 38 = .ok (.iload_n 1, 1) := by decide +kernel
theorem dL_acts_39 : decode cL_acts 39 = .ok (.bipush 12, 2) := by decide +kernel
theorem dL_acts_41 : decode cL_acts 41 = .ok (.irem, 1) := by decide +kernel
theorem dL_acts_42 : decode cL_acts 42 = .ok (.tableswitch 810 0 9 #[54, 54, 54, 190, 190, 315, 428, 485, 589, 713], 54) := by decide +kernel
theorem dL_acts_96 : decode cL_acts 96 = .ok (.aload_n 0, 1) := by decide +kernel
theorem dL_acts_97 : decode cL_acts 97 = .ok (.iconst 1, 1) := by decide +kernel
theorem dL_acts_98 : decode cL_acts 98 = .ok (.invokevirtual 15, 3) := by decide +kernel
theorem dL_acts_101 : decode cL_acts 101 = .ok (.istore 5, 2) := by decide +kernel
theorem dL_acts_103 : decode cL_acts 103 = .ok (.iconst 1, 1) := by decide +kernel
theorem dL_acts_104 : decode cL_acts 104 = .ok (.iload_n 1, 1) := by decide +kernel
theorem dL_acts_105 : decode cL_acts 105 = .ok (.bipush 8, 2) := by decide +kernel
theorem dL_acts_107 : decode cL_acts 107 = .ok (.ishr, 1) := by decide +kernel
theorem dL_acts_108 : decode cL_acts 108 = .ok (.bipush 50, 2) := by decide +kernel
theorem dL_acts_110 : decode cL_acts 110 = .ok (.irem, 1) := by decide +kernel
theorem dL_acts_111 : decode cL_acts 111 = .ok (.iadd, 1) := by decide +kernel
theorem dL_acts_112 : decode cL_acts 112 = .ok (.istore 6, 2) := by decide +kernel
theorem dL_acts_114 : decode cL_acts 114 = .ok (.aload_n 0, 1) := by decide +kernel
theorem dL_acts_115 : decode cL_acts 115 = .ok (.iconst 0, 1) := by decide +kernel
theorem dL_acts_116 : decode cL_acts 116 = .ok (.invokevirtual 15, 3) := by decide +kernel
theorem dL_acts_119 : decode cL_acts 119 = .ok (.bipush 24, 2) := by decide +kernel
theorem dL_acts_121 : decode cL_acts 121 = .ok (.if_icmp .ge 24, 3) := by decide +kernel
theorem dL_acts_124 : decode cL_acts 124 = .ok (.aload_n 0, 1) := by decide +kernel
theorem dL_acts_125 : decode cL_acts 125 = .ok (.iconst 2, 1) := by decide +kernel
theorem dL_acts_126 : decode cL_acts 126 = .ok (.invokevirtual 15, 3) := by decide +kernel
theorem dL_acts_129 : decode cL_acts 129 = .ok (.iload 6, 2) := by decide +kernel
theorem dL_acts_131 : decode cL_acts 131 = .ok (.iadd, 1) := by decide +kernel
theorem dL_acts_132 : decode cL_acts 132 = .ok (.aload_n 0, 1) := by decide +kernel
theorem dL_acts_133 : decode cL_acts 133 = .ok (.bipush 6, 2) := by decide +kernel
theorem dL_acts_135 : decode cL_acts 135 = .ok (.invokevirtual 22, 3) := by decide +kernel
theorem dL_acts_138 : decode cL_acts 138 = .ok (.if_icmp .gt 7, 3) := by decide +kernel
theorem dL_acts_141 : decode cL_acts 141 = .ok (.iconst 1, 1) := by decide +kernel
theorem dL_acts_142 : decode cL_acts 142 = .ok (.goto 4, 3) := by decide +kernel
theorem dL_acts_145 : decode cL_acts 145 = .ok (.iconst 0, 1) := by decide +kernel
theorem dL_acts_146 : decode cL_acts 146 = .ok (.istore 7, 2) := by decide +kernel
theorem dL_acts_148 : decode cL_acts 148 = .ok (.aload_n 0, 1) := by decide +kernel
theorem dL_acts_149 : decode cL_acts 149 = .ok (.iload_n 1, 1) := by decide +kernel
theorem dL_acts_150 : decode cL_acts 150 = .ok (.iconst 4, 1) := by decide +kernel
theorem dL_acts_151 : decode cL_acts 151 = .ok (.ishr, 1) := by decide +kernel
theorem dL_acts_152 : decode cL_acts 152 = .ok (.iconst 5, 1) := by decide +kernel
theorem dL_acts_153 : decode cL_acts 153 = .ok (.irem, 1) := by decide +kernel
theorem dL_acts_154 : decode cL_acts 154 = .ok (.iload 6, 2) := by decide +kernel
theorem dL_acts_156 : decode cL_acts 156 = .ok (.invokevirtual 44, 3) := by decide +kernel
theorem dL_acts_159 : decode cL_acts 159 = .ok (.istore 8, 2) := by decide +kernel
theorem dL_acts_161 : decode cL_acts 161 = .ok (.iload 7, 2) := by decide +kernel
theorem dL_acts_163 : decode cL_acts 163 = .ok (.ifCond .eq 56, 3) := by decide +kernel
theorem dL_acts_166 : decode cL_acts 166 = .ok (.iload 8, 2) := by decide +kernel
theorem dL_acts_168 : decode cL_acts 168 = .ok (.iload 5, 2) := by decide +kernel
theorem dL_acts_170 : decode cL_acts 170 = .ok (.if_icmp .ne 45, 3) := by decide +kernel
theorem dL_acts_173 : decode cL_acts 173 = .ok (.aload_n 0, 1) := by decide +kernel
theorem dL_acts_174 : decode cL_acts 174 = .ok (.iload 8, 2) := by decide +kernel
theorem dL_acts_176 : decode cL_acts 176 = .ok (.iconst 1, 1) := by decide +kernel
theorem dL_acts_177 : decode cL_acts 177 = .ok (.invokevirtual 9, 3) := by decide +kernel
theorem dL_acts_180 : decode cL_acts 180 = .ok (.iload 6, 2) := by decide +kernel
theorem dL_acts_182 : decode cL_acts 182 = .ok (.if_icmp .ne 33, 3) := by decide +kernel
theorem dL_acts_185 : decode cL_acts 185 = .ok (.aload_n 0, 1) := by decide +kernel
theorem dL_acts_186 : decode cL_acts 186 = .ok (.iload 8, 2) := by decide +kernel
theorem dL_acts_188 : decode cL_acts 188 = .ok (.iconst 2, 1) := by decide +kernel
theorem dL_acts_189 : decode cL_acts 189 = .ok (.invokevirtual 9, 3) := by decide +kernel
theorem dL_acts_192 : decode cL_acts 192 = .ok (.aload_n 0, 1) := by decide +kernel
theorem dL_acts_193 : decode cL_acts 193 = .ok (.invokevirtual 31, 3) := by decide +kernel
theorem dL_acts_196 : decode cL_acts 196 = .ok (.if_icmp .ne 19, 3) := by decide +kernel
theorem dL_acts_199 : decode cL_acts 199 = .ok (.aload_n 0, 1) := by decide +kernel
theorem dL_acts_200 : decode cL_acts 200 = .ok (.iload 8, 2) := by decide +kernel
theorem dL_acts_202 : decode cL_acts 202 = .ok (.iconst 3, 1) := by decide +kernel
theorem dL_acts_203 : decode cL_acts 203 = .ok (.invokevirtual 9, 3) := by decide +kernel
theorem dL_acts_206 : decode cL_acts 206 = .ok (.bipush (-6), 2) := by decide +kernel
theorem dL_acts_208 : decode cL_acts 208 = .ok (.if_icmp .ne 7, 3) := by decide +kernel
theorem dL_acts_211 : decode cL_acts 211 = .ok (.iconst 1, 1) := by decide +kernel
theorem dL_acts_212 : decode cL_acts 212 = .ok (.goto 19, 3) := by decide +kernel
theorem dL_acts_215 : decode cL_acts 215 = .ok (.iconst 0, 1) := by decide +kernel
theorem dL_acts_216 : decode cL_acts 216 = .ok (.goto 15, 3) := by decide +kernel
theorem dL_acts_219 : decode cL_acts 219 = .ok (.iload 8, 2) := by decide +kernel
theorem dL_acts_221 : decode cL_acts 221 = .ok (.bipush (-4), 2) := by decide +kernel
theorem dL_acts_223 : decode cL_acts 223 = .ok (.if_icmp .ne 7, 3) := by decide +kernel
theorem dL_acts_226 : decode cL_acts 226 = .ok (.iconst 1, 1) := by decide +kernel
theorem dL_acts_227 : decode cL_acts 227 = .ok (.goto 4, 3) := by decide +kernel
theorem dL_acts_230 : decode cL_acts 230 = .ok (.iconst 0, 1) := by decide +kernel
theorem dL_acts_231 : decode cL_acts 231 = .ok (.ireturn, 1) := by decide +kernel
theorem dL_acts_232 : decode cL_acts 232 = .ok (.aload_n 0, 1) := by decide +kernel
theorem dL_acts_233 : decode cL_acts 233 = .ok (.iload_n 2, 1) := by decide +kernel
theorem dL_acts_234 : decode cL_acts 234 = .ok (.iconst 4, 1) := by decide +kernel
theorem dL_acts_235 : decode cL_acts 235 = .ok (.invokevirtual 9, 3) := by decide +kernel
theorem dL_acts_238 : decode cL_acts 238 = .ok (.istore 9, 2) := by decide +kernel
theorem dL_acts_240 : decode cL_acts 240 = .ok (.aload_n 0, 1) := by decide +kernel
theorem dL_acts_241 : decode cL_acts 241 = .ok (.bipush 6, 2) := by decide +kernel
theorem dL_acts_243 : decode cL_acts 243 = .ok (.invokevirtual 15, 3) := by decide +kernel
theorem dL_acts_246 : decode cL_acts 246 = .ok (.istore 10, 2) := by decide +kernel
theorem dL_acts_248 : decode cL_acts 248 = .ok (.aload_n 0, 1) := by decide +kernel
theorem dL_acts_249 : decode cL_acts 249 = .ok (.iconst 5, 1) := by decide +kernel
theorem dL_acts_250 : decode cL_acts 250 = .ok (.invokevirtual 15, 3) := by decide +kernel
theorem dL_acts_253 : decode cL_acts 253 = .ok (.istore 11, 2) := by decide +kernel
theorem dL_acts_255 : decode cL_acts 255 = .ok (.aload_n 0, 1) := by decide +kernel
theorem dL_acts_256 : decode cL_acts 256 = .ok (.iload_n 2, 1) := by decide +kernel
theorem dL_acts_257 : decode cL_acts 257 = .ok (.invokevirtual 47, 3) := by decide +kernel
theorem dL_acts_260 : decode cL_acts 260 = .ok (.istore 12, 2) := by decide +kernel
theorem dL_acts_262 : decode cL_acts 262 = .ok (.aload_n 0, 1) := by decide +kernel
theorem dL_acts_263 : decode cL_acts 263 = .ok (.iconst 1, 1) := by decide +kernel
theorem dL_acts_264 : decode cL_acts 264 = .ok (.invokevirtual 15, 3) := by decide +kernel
theorem dL_acts_267 : decode cL_acts 267 = .ok (.ifCond .ne 17, 3) := by decide +kernel
theorem dL_acts_270 : decode cL_acts 270 = .ok (.iload 12, 2) := by decide +kernel
theorem dL_acts_272 : decode cL_acts 272 = .ok (.iconst (-1), 1) := by decide +kernel
theorem dL_acts_273 : decode cL_acts 273 = .ok (.if_icmp .ne 7, 3) := by decide +kernel
theorem dL_acts_276 : decode cL_acts 276 = .ok (.iconst 1, 1) := by decide +kernel
theorem dL_acts_277 : decode cL_acts 277 = .ok (.goto 79, 3) := by decide +kernel
theorem dL_acts_280 : decode cL_acts 280 = .ok (.iconst 0, 1) := by decide +kernel
theorem dL_acts_281 : decode cL_acts 281 = .ok (.goto 75, 3) := by decide +kernel
theorem dL_acts_284 : decode cL_acts 284 = .ok (.iload 4, 2) := by decide +kernel
theorem dL_acts_286 : decode cL_acts 286 = .ok (.ifCond .ge 31, 3) := by decide +kernel
theorem dL_acts_289 : decode cL_acts 289 = .ok (.iload 12, 2) := by decide +kernel
theorem dL_acts_291 : decode cL_acts 291 = .ok (.bipush (-6), 2) := by decide +kernel
theorem dL_acts_293 : decode cL_acts 293 = .ok (.if_icmp .ne 20, 3) := by decide +kernel
theorem dL_acts_296 : decode cL_acts 296 = .ok (.aload_n 0, 1) := by decide +kernel
theorem dL_acts_297 : decode cL_acts 297 = .ok (.bipush 6, 2) := by decide +kernel
theorem dL_acts_299 : decode cL_acts 299 = .ok (.invokevirtual 15, 3) := by decide +kernel
theorem dL_acts_302 : decode cL_acts 302 = .ok (.iload 10, 2) := by decide +kernel
theorem dL_acts_304 : decode cL_acts 304 = .ok (.iconst 1, 1) := by decide +kernel
theorem dL_acts_305 : decode cL_acts 305 = .ok (.iadd, 1) := by decide +kernel
theorem dL_acts_306 : decode cL_acts 306 = .ok (.if_icmp .ne 7, 3) := by decide +kernel
theorem dL_acts_309 : decode cL_acts 309 = .ok (.iconst 1, 1) := by decide +kernel
theorem dL_acts_310 : decode cL_acts 310 = .ok (.goto 46, 3) := by decide +kernel
theorem dL_acts_313 : decode cL_acts 313 = .ok (.iconst 0, 1) := by decide +kernel
theorem dL_acts_314 : decode cL_acts 314 = .ok (.goto 42, 3) := by decide +kernel
theorem dL_acts_317 : decode cL_acts 317 = .ok (.iload 12, 2) := by decide +kernel
theorem dL_acts_319 : decode cL_acts 319 = .ok (.iload 9, 2) := by decide +kernel
theorem dL_acts_321 : decode cL_acts 321 = .ok (.iconst 1, 1) := by decide +kernel
theorem dL_acts_322 : decode cL_acts 322 = .ok (.iadd, 1) := by decide +kernel
theorem dL_acts_323 : decode cL_acts 323 = .ok (.if_icmp .ne 32, 3) := by decide +kernel
theorem dL_acts_326 : decode cL_acts 326 = .ok (.aload_n 0, 1) := by decide +kernel
theorem dL_acts_327 : decode cL_acts 327 = .ok (.iload_n 2, 1) := by decide +kernel
theorem dL_acts_328 : decode cL_acts 328 = .ok (.iconst 3, 1) := by decide +kernel
theorem dL_acts_329 : decode cL_acts 329 = .ok (.invokevirtual 9, 3) := by decide +kernel
theorem dL_acts_332 : decode cL_acts 332 = .ok (.aload_n 0, 1) := by decide +kernel
theorem dL_acts_333 : decode cL_acts 333 = .ok (.invokevirtual 31, 3) := by decide +kernel
theorem dL_acts_336 : decode cL_acts 336 = .ok (.if_icmp .ne 19, 3) := by decide +kernel
theorem dL_acts_339 : decode cL_acts 339 = .ok (.aload_n 0, 1) := by decide +kernel
theorem dL_acts_340 : decode cL_acts 340 = .ok (.iconst 5, 1) := by decide +kernel
theorem dL_acts_341 : decode cL_acts 341 = .ok (.invokevirtual 15, 3) := by decide +kernel
theorem dL_acts_344 : decode cL_acts 344 = .ok (.iload 11, 2) := by decide +kernel
theorem dL_acts_346 : decode cL_acts 346 = .ok (.iconst 1, 1) := by decide +kernel
theorem dL_acts_347 : decode cL_acts 347 = .ok (.iadd, 1) := by decide +kernel
theorem dL_acts_348 : decode cL_acts 348 = .ok (.if_icmp .ne 7, 3) := by decide +kernel
theorem dL_acts_351 : decode cL_acts 351 = .ok (.iconst 1, 1) := by decide +kernel
theorem dL_acts_352 : decode cL_acts 352 = .ok (.goto 4, 3) := by decide +kernel
theorem dL_acts_355 : decode cL_acts 355 = .ok (.iconst 0, 1) := by decide +kernel
theorem dL_acts_356 : decode cL_acts 356 = .ok (.ireturn, 1) := by decide +kernel
theorem dL_acts_357 : decode cL_acts 357 = .ok (.iload_n 1, 1) := by decide +kernel
theorem dL_acts_358 : decode cL_acts 358 = .ok (.bipush 12, 2) := by decide +kernel
theorem dL_acts_360 : decode cL_acts 360 = .ok (.ishr, 1) := by decide +kernel
theorem dL_acts_361 : decode cL_acts 361 = .ok (.iconst 3, 1) := by decide +kernel
theorem dL_acts_362 : decode cL_acts 362 = .ok (.irem, 1) := by decide +kernel
theorem dL_acts_363 : decode cL_acts 363 = .ok (.ifCond .ne 7, 3) := by decide +kernel
theorem dL_acts_366 : decode cL_acts 366 = .ok (.iconst (-1), 1) := by decide +kernel
theorem dL_acts_367 : decode cL_acts 367 = .ok (.goto 16, 3) := by decide +kernel
theorem dL_acts_370 : decode cL_acts 370 = .ok (.aload_n 0, 1) := by decide +kernel
theorem dL_acts_371 : decode cL_acts 371 = .ok (.invokevirtual 31, 3) := by decide +kernel
theorem dL_acts_374 : decode cL_acts 374 = .ok (.iload_n 1, 1) := by decide +kernel
theorem dL_acts_375 : decode cL_acts 375 = .ok (.bipush 12, 2) := by decide +kernel
theorem dL_acts_377 : decode cL_acts 377 = .ok (.ishr, 1) := by decide +kernel
theorem dL_acts_378 : decode cL_acts 378 = .ok (.sipush 300, 3) := by decide +kernel
theorem dL_acts_381 : decode cL_acts 381 = .ok (.irem, 1) := by decide +kernel
theorem dL_acts_382 : decode cL_acts 382 = .ok (.iadd, 1) := by decide +kernel
theorem dL_acts_383 : decode cL_acts 383 = .ok (.istore 13, 2) := by decide +kernel
theorem dL_acts_385 : decode cL_acts 385 = .ok (.aload_n 0, 1) := by decide +kernel
theorem dL_acts_386 : decode cL_acts 386 = .ok (.iload_n 3, 1) := by decide +kernel
theorem dL_acts_387 : decode cL_acts 387 = .ok (.iload_n 2, 1) := by decide +kernel
theorem dL_acts_388 : decode cL_acts 388 = .ok (.iload 13, 2) := by decide +kernel
theorem dL_acts_390 : decode cL_acts 390 = .ok (.invokevirtual 50, 3) := by decide +kernel
theorem dL_acts_393 : decode cL_acts 393 = .ok (.istore 14, 2) := by decide +kernel
theorem dL_acts_395 : decode cL_acts 395 = .ok (.iload 4, 2) := by decide +kernel
theorem dL_acts_397 : decode cL_acts 397 = .ok (.ifCond .ge 17, 3) := by decide +kernel
theorem dL_acts_400 : decode cL_acts 400 = .ok (.iload 14, 2) := by decide +kernel
theorem dL_acts_402 : decode cL_acts 402 = .ok (.iconst (-1), 1) := by decide +kernel
theorem dL_acts_403 : decode cL_acts 403 = .ok (.if_icmp .ne 7, 3) := by decide +kernel
theorem dL_acts_406 : decode cL_acts 406 = .ok (.iconst 1, 1) := by decide +kernel
theorem dL_acts_407 : decode cL_acts 407 = .ok (.goto 62, 3) := by decide +kernel
theorem dL_acts_410 : decode cL_acts 410 = .ok (.iconst 0, 1) := by decide +kernel
theorem dL_acts_411 : decode cL_acts 411 = .ok (.goto 58, 3) := by decide +kernel
theorem dL_acts_414 : decode cL_acts 414 = .ok (.iload 14, 2) := by decide +kernel
theorem dL_acts_416 : decode cL_acts 416 = .ok (.iconst 1, 1) := by decide +kernel
theorem dL_acts_417 : decode cL_acts 417 = .ok (.if_icmp .lt 51, 3) := by decide +kernel
theorem dL_acts_420 : decode cL_acts 420 = .ok (.iload 14, 2) := by decide +kernel
theorem dL_acts_422 : decode cL_acts 422 = .ok (.bipush 8, 2) := by decide +kernel
theorem dL_acts_424 : decode cL_acts 424 = .ok (.if_icmp .gt 44, 3) := by decide +kernel
theorem dL_acts_427 : decode cL_acts 427 = .ok (.aload_n 0, 1) := by decide +kernel
theorem dL_acts_428 : decode cL_acts 428 = .ok (.iload_n 3, 1) := by decide +kernel
theorem dL_acts_429 : decode cL_acts 429 = .ok (.iload_n 2, 1) := by decide +kernel
theorem dL_acts_430 : decode cL_acts 430 = .ok (.invokevirtual 28, 3) := by decide +kernel
theorem dL_acts_433 : decode cL_acts 433 = .ok (.iload 13, 2) := by decide +kernel
theorem dL_acts_435 : decode cL_acts 435 = .ok (.ifCond .ge 9, 3) := by decide +kernel
theorem dL_acts_438 : decode cL_acts 438 = .ok (.sipush 10000, 3) := by decide +kernel
theorem dL_acts_441 : decode cL_acts 441 = .ok (.goto 5, 3) := by decide +kernel
theorem dL_acts_444 : decode cL_acts 444 = .ok (.iload 13, 2) := by decide +kernel
theorem dL_acts_446 : decode cL_acts 446 = .ok (.if_icmp .ne 22, 3) := by decide +kernel
theorem dL_acts_449 : decode cL_acts 449 = .ok (.aload_n 0, 1) := by decide +kernel
theorem dL_acts_450 : decode cL_acts 450 = .ok (.iload_n 2, 1) := by decide +kernel
theorem dL_acts_451 : decode cL_acts 451 = .ok (.bipush 7, 2) := by decide +kernel
theorem dL_acts_453 : decode cL_acts 453 = .ok (.invokevirtual 9, 3) := by decide +kernel
theorem dL_acts_456 : decode cL_acts 456 = .ok (.iload_n 3, 1) := by decide +kernel
theorem dL_acts_457 : decode cL_acts 457 = .ok (.ishr, 1) := by decide +kernel
theorem dL_acts_458 : decode cL_acts 458 = .ok (.iconst 1, 1) := by decide +kernel
theorem dL_acts_459 : decode cL_acts 459 = .ok (.iand, 1) := by decide +kernel
theorem dL_acts_460 : decode cL_acts 460 = .ok (.iconst 1, 1) := by decide +kernel
theorem dL_acts_461 : decode cL_acts 461 = .ok (.if_icmp .ne 7, 3) := by decide +kernel
theorem dL_acts_464 : decode cL_acts 464 = .ok (.iconst 1, 1) := by decide +kernel
theorem dL_acts_465 : decode cL_acts 465 = .ok (.goto 4, 3) := by decide +kernel
theorem dL_acts_468 : decode cL_acts 468 = .ok (.iconst 0, 1) := by decide +kernel
theorem dL_acts_469 : decode cL_acts 469 = .ok (.ireturn, 1) := by decide +kernel
theorem dL_acts_470 : decode cL_acts 470 = .ok (.aload_n 0, 1) := by decide +kernel
theorem dL_acts_471 : decode cL_acts 471 = .ok (.iload_n 3, 1) := by decide +kernel
theorem dL_acts_472 : decode cL_acts 472 = .ok (.iload_n 2, 1) := by decide +kernel
theorem dL_acts_473 : decode cL_acts 473 = .ok (.invokevirtual 28, 3) := by decide +kernel
theorem dL_acts_476 : decode cL_acts 476 = .ok (.istore 15, 2) := by decide +kernel
theorem dL_acts_478 : decode cL_acts 478 = .ok (.aload_n 0, 1) := by decide +kernel
theorem dL_acts_479 : decode cL_acts 479 = .ok (.iload_n 3, 1) := by decide +kernel
theorem dL_acts_480 : decode cL_acts 480 = .ok (.iload_n 2, 1) := by decide +kernel
theorem dL_acts_481 : decode cL_acts 481 = .ok (.invokevirtual 54, 3) := by decide +kernel
theorem dL_acts_484 : decode cL_acts 484 = .ok (.istore 16, 2) := by decide +kernel
theorem dL_acts_486 : decode cL_acts 486 = .ok (.iload 15, 2) := by decide +kernel
theorem dL_acts_488 : decode cL_acts 488 = .ok (.ifCond .ge 17, 3) := by decide +kernel
theorem dL_acts_491 : decode cL_acts 491 = .ok (.iload 16, 2) := by decide +kernel
theorem dL_acts_493 : decode cL_acts 493 = .ok (.iconst (-1), 1) := by decide +kernel
theorem dL_acts_494 : decode cL_acts 494 = .ok (.if_icmp .ne 7, 3) := by decide +kernel
theorem dL_acts_497 : decode cL_acts 497 = .ok (.iconst 1, 1) := by decide +kernel
theorem dL_acts_498 : decode cL_acts 498 = .ok (.goto 28, 3) := by decide +kernel
theorem dL_acts_501 : decode cL_acts 501 = .ok (.iconst 0, 1) := by decide +kernel
theorem dL_acts_502 : decode cL_acts 502 = .ok (.goto 24, 3) := by decide +kernel
theorem dL_acts_505 : decode cL_acts 505 = .ok (.iload 16, 2) := by decide +kernel
theorem dL_acts_507 : decode cL_acts 507 = .ok (.ifCond .lt 18, 3) := by decide +kernel
theorem dL_acts_510 : decode cL_acts 510 = .ok (.aload_n 0, 1) := by decide +kernel
theorem dL_acts_511 : decode cL_acts 511 = .ok (.iload_n 3, 1) := by decide +kernel
theorem dL_acts_512 : decode cL_acts 512 = .ok (.iload_n 2, 1) := by decide +kernel
theorem dL_acts_513 : decode cL_acts 513 = .ok (.invokevirtual 28, 3) := by decide +kernel
theorem dL_acts_516 : decode cL_acts 516 = .ok (.bipush (-6), 2) := by decide +kernel
theorem dL_acts_518 : decode cL_acts 518 = .ok (.if_icmp .ne 7, 3) := by decide +kernel
theorem dL_acts_521 : decode cL_acts 521 = .ok (.iconst 1, 1) := by decide +kernel
theorem dL_acts_522 : decode cL_acts 522 = .ok (.goto 4, 3) := by decide +kernel
theorem dL_acts_525 : decode cL_acts 525 = .ok (.iconst 0, 1) := by decide +kernel
theorem dL_acts_526 : decode cL_acts 526 = .ok (.ireturn, 1) := by decide +kernel
theorem dL_acts_527 : decode cL_acts 527 = .ok (.aload_n 0, 1) := by decide +kernel
theorem dL_acts_528 : decode cL_acts 528 = .ok (.iconst 1, 1) := by decide +kernel
theorem dL_acts_529 : decode cL_acts 529 = .ok (.invokevirtual 15, 3) := by decide +kernel
theorem dL_acts_532 : decode cL_acts 532 = .ok (.ifCond .ne 7, 3) := by decide +kernel
theorem dL_acts_535 : decode cL_acts 535 = .ok (.iconst 0, 1) := by decide +kernel
theorem dL_acts_536 : decode cL_acts 536 = .ok (.goto 13, 3) := by decide +kernel
theorem dL_acts_539 : decode cL_acts 539 = .ok (.iload_n 1, 1) := by decide +kernel
theorem dL_acts_540 : decode cL_acts 540 = .ok (.bipush 12, 2) := by decide +kernel
theorem dL_acts_542 : decode cL_acts 542 = .ok (.ishr, 1) := by decide +kernel
theorem dL_acts_543 : decode cL_acts 543 = .ok (.aload_n 0, 1) := by decide +kernel
theorem dL_acts_544 : decode cL_acts 544 = .ok (.iconst 1, 1) := by decide +kernel
theorem dL_acts_545 : decode cL_acts 545 = .ok (.invokevirtual 15, 3) := by decide +kernel
theorem dL_acts_548 : decode cL_acts 548 = .ok (.irem, 1) := by decide +kernel
theorem dL_acts_549 : decode cL_acts 549 = .ok (.istore 17, 2) := by decide +kernel
theorem dL_acts_551 : decode cL_acts 551 = .ok (.iload 4, 2) := by decide +kernel
theorem dL_acts_553 : decode cL_acts 553 = .ok (.ifCond .lt 17, 3) := by decide +kernel
theorem dL_acts_556 : decode cL_acts 556 = .ok (.aload_n 0, 1) := by decide +kernel
theorem dL_acts_557 : decode cL_acts 557 = .ok (.iload 17, 2) := by decide +kernel
theorem dL_acts_559 : decode cL_acts 559 = .ok (.iconst 0, 1) := by decide +kernel
theorem dL_acts_560 : decode cL_acts 560 = .ok (.invokevirtual 9, 3) := by decide +kernel
theorem dL_acts_563 : decode cL_acts 563 = .ok (.ifCond .lt 7, 3) := by decide +kernel
theorem dL_acts_566 : decode cL_acts 566 = .ok (.iconst 1, 1) := by decide +kernel
theorem dL_acts_567 : decode cL_acts 567 = .ok (.goto 4, 3) := by decide +kernel
theorem dL_acts_570 : decode cL_acts 570 = .ok (.iconst 0, 1) := by decide +kernel
theorem dL_acts_571 : decode cL_acts 571 = .ok (.istore 18, 2) := by decide +kernel
theorem dL_acts_573 : decode cL_acts 573 = .ok (.aload_n 0, 1) := by decide +kernel
theorem dL_acts_574 : decode cL_acts 574 = .ok (.iload_n 2, 1) := by decide +kernel
theorem dL_acts_575 : decode cL_acts 575 = .ok (.iload 17, 2) := by decide +kernel
theorem dL_acts_577 : decode cL_acts 577 = .ok (.invokevirtual 57, 3) := by decide +kernel
theorem dL_acts_580 : decode cL_acts 580 = .ok (.istore 19, 2) := by decide +kernel
theorem dL_acts_582 : decode cL_acts 582 = .ok (.iload 18, 2) := by decide +kernel
theorem dL_acts_584 : decode cL_acts 584 = .ok (.ifCond .eq 35, 3) := by decide +kernel
theorem dL_acts_587 : decode cL_acts 587 = .ok (.iload 19, 2) := by decide +kernel
theorem dL_acts_589 : decode cL_acts 589 = .ok (.aload_n 0, 1) := by decide +kernel
theorem dL_acts_590 : decode cL_acts 590 = .ok (.iload 17, 2) := by decide +kernel
theorem dL_acts_592 : decode cL_acts 592 = .ok (.bipush 8, 2) := by decide +kernel
theorem dL_acts_594 : decode cL_acts 594 = .ok (.invokevirtual 9, 3) := by decide +kernel
theorem dL_acts_597 : decode cL_acts 597 = .ok (.if_icmp .ne 18, 3) := by decide +kernel
theorem dL_acts_600 : decode cL_acts 600 = .ok (.aload_n 0, 1) := by decide +kernel
theorem dL_acts_601 : decode cL_acts 601 = .ok (.iload_n 2, 1) := by decide +kernel
theorem dL_acts_602 : decode cL_acts 602 = .ok (.iconst 5, 1) := by decide +kernel
theorem dL_acts_603 : decode cL_acts 603 = .ok (.invokevirtual 9, 3) := by decide +kernel
theorem dL_acts_606 : decode cL_acts 606 = .ok (.iload 17, 2) := by decide +kernel
theorem dL_acts_608 : decode cL_acts 608 = .ok (.if_icmp .ne 7, 3) := by decide +kernel
theorem dL_acts_611 : decode cL_acts 611 = .ok (.iconst 1, 1) := by decide +kernel
theorem dL_acts_612 : decode cL_acts 612 = .ok (.goto 18, 3) := by decide +kernel
theorem dL_acts_615 : decode cL_acts 615 = .ok (.iconst 0, 1) := by decide +kernel
theorem dL_acts_616 : decode cL_acts 616 = .ok (.goto 14, 3) := by decide +kernel
theorem dL_acts_619 : decode cL_acts 619 = .ok (.iload 19, 2) := by decide +kernel
theorem dL_acts_621 : decode cL_acts 621 = .ok (.iconst (-1), 1) := by decide +kernel
theorem dL_acts_622 : decode cL_acts 622 = .ok (.if_icmp .ne 7, 3) := by decide +kernel
theorem dL_acts_625 : decode cL_acts 625 = .ok (.iconst 1, 1) := by decide +kernel
theorem dL_acts_626 : decode cL_acts 626 = .ok (.goto 4, 3) := by decide +kernel
theorem dL_acts_629 : decode cL_acts 629 = .ok (.iconst 0, 1) := by decide +kernel
theorem dL_acts_630 : decode cL_acts 630 = .ok (.ireturn, 1) := by decide +kernel
theorem dL_acts_631 : decode cL_acts 631 = .ok (.aload_n 0, 1) := by decide +kernel
theorem dL_acts_632 : decode cL_acts 632 = .ok (.invokevirtual 31, 3) := by decide +kernel
theorem dL_acts_635 : decode cL_acts 635 = .ok (.iconst 1, 1) := by decide +kernel
theorem dL_acts_636 : decode cL_acts 636 = .ok (.iadd, 1) := by decide +kernel
theorem dL_acts_637 : decode cL_acts 637 = .ok (.iload_n 1, 1) := by decide +kernel
theorem dL_acts_638 : decode cL_acts 638 = .ok (.bipush 9, 2) := by decide +kernel
theorem dL_acts_640 : decode cL_acts 640 = .ok (.ishr, 1) := by decide +kernel
theorem dL_acts_641 : decode cL_acts 641 = .ok (.sipush 200, 3) := by decide +kernel
theorem dL_acts_644 : decode cL_acts 644 = .ok (.irem, 1) := by decide +kernel
theorem dL_acts_645 : decode cL_acts 645 = .ok (.iadd, 1) := by decide +kernel
theorem dL_acts_646 : decode cL_acts 646 = .ok (.istore 20, 2) := by decide +kernel
theorem dL_acts_648 : decode cL_acts 648 = .ok (.aload_n 0, 1) := by decide +kernel
theorem dL_acts_649 : decode cL_acts 649 = .ok (.bipush 8, 2) := by decide +kernel
theorem dL_acts_651 : decode cL_acts 651 = .ok (.invokevirtual 15, 3) := by decide +kernel
theorem dL_acts_654 : decode cL_acts 654 = .ok (.istore 21, 2) := by decide +kernel
theorem dL_acts_656 : decode cL_acts 656 = .ok (.aload_n 0, 1) := by decide +kernel
theorem dL_acts_657 : decode cL_acts 657 = .ok (.iload_n 2, 1) := by decide +kernel
theorem dL_acts_658 : decode cL_acts 658 = .ok (.iload 20, 2) := by decide +kernel
theorem dL_acts_660 : decode cL_acts 660 = .ok (.invokevirtual 60, 3) := by decide +kernel
theorem dL_acts_663 : decode cL_acts 663 = .ok (.istore 22, 2) := by decide +kernel
theorem dL_acts_665 : decode cL_acts 665 = .ok (.iload 4, 2) := by decide +kernel
theorem dL_acts_667 : decode cL_acts 667 = .ok (.ifCond .ge 17, 3) := by decide +kernel
theorem dL_acts_670 : decode cL_acts 670 = .ok (.iload 22, 2) := by decide +kernel
theorem dL_acts_672 : decode cL_acts 672 = .ok (.iconst (-1), 1) := by decide +kernel
theorem dL_acts_673 : decode cL_acts 673 = .ok (.if_icmp .ne 7, 3) := by decide +kernel
theorem dL_acts_676 : decode cL_acts 676 = .ok (.iconst 1, 1) := by decide +kernel
theorem dL_acts_677 : decode cL_acts 677 = .ok (.goto 77, 3) := by decide +kernel
theorem dL_acts_680 : decode cL_acts 680 = .ok (.iconst 0, 1) := by decide +kernel
theorem dL_acts_681 : decode cL_acts 681 = .ok (.goto 73, 3) := by decide +kernel
theorem dL_acts_684 : decode cL_acts 684 = .ok (.iload 22, 2) := by decide +kernel
theorem dL_acts_686 : decode cL_acts 686 = .ok (.bipush (-5), 2) := by decide +kernel
theorem dL_acts_688 : decode cL_acts 688 = .ok (.if_icmp .eq 61, 3) := by decide +kernel
theorem dL_acts_691 : decode cL_acts 691 = .ok (.iload 21, 2) := by decide +kernel
theorem dL_acts_693 : decode cL_acts 693 = .ok (.bipush 8, 2) := by decide +kernel
theorem dL_acts_695 : decode cL_acts 695 = .ok (.if_icmp .ne 13, 3) := by decide +kernel
theorem dL_acts_698 : decode cL_acts 698 = .ok (.iload 22, 2) := by decide +kernel
theorem dL_acts_700 : decode cL_acts 700 = .ok (.bipush (-4), 2) := by decide +kernel
theorem dL_acts_702 : decode cL_acts 702 = .ok (.if_icmp .ne 51, 3) := by decide +kernel
theorem dL_acts_705 : decode cL_acts 705 = .ok (.goto 44, 3) := by decide +kernel
theorem dL_acts_708 : decode cL_acts 708 = .ok (.iload 22, 2) := by decide +kernel
theorem dL_acts_710 : decode cL_acts 710 = .ok (.iload 21, 2) := by decide +kernel
theorem dL_acts_712 : decode cL_acts 712 = .ok (.iconst 1, 1) := by decide +kernel
theorem dL_acts_713 : decode cL_acts 713 = .ok (.iadd, 1) := by decide +kernel
theorem dL_acts_714 : decode cL_acts 714 = .ok (.if_icmp .ne 39, 3) := by decide +kernel
theorem dL_acts_717 : decode cL_acts 717 = .ok (.aload_n 0, 1) := by decide +kernel
theorem dL_acts_718 : decode cL_acts 718 = .ok (.iload_n 2, 1) := by decide +kernel
theorem dL_acts_719 : decode cL_acts 719 = .ok (.iload 20, 2) := by decide +kernel
theorem dL_acts_721 : decode cL_acts 721 = .ok (.invokevirtual 60, 3) := by decide +kernel
theorem dL_acts_724 : decode cL_acts 724 = .ok (.bipush (-5), 2) := by decide +kernel
theorem dL_acts_726 : decode cL_acts 726 = .ok (.if_icmp .ne 27, 3) := by decide +kernel
theorem dL_acts_729 : decode cL_acts 729 = .ok (.iload_n 1, 1) := by decide +kernel
theorem dL_acts_730 : decode cL_acts 730 = .ok (.iconst 4, 1) := by decide +kernel
theorem dL_acts_731 : decode cL_acts 731 = .ok (.ishr, 1) := by decide +kernel
theorem dL_acts_732 : decode cL_acts 732 = .ok (.iconst 4, 1) := by decide +kernel
theorem dL_acts_733 : decode cL_acts 733 = .ok (.irem, 1) := by decide +kernel
theorem dL_acts_734 : decode cL_acts 734 = .ok (.ifCond .gt 15, 3) := by decide +kernel
theorem dL_acts_737 : decode cL_acts 737 = .ok (.aload_n 0, 1) := by decide +kernel
theorem dL_acts_738 : decode cL_acts 738 = .ok (.iload_n 2, 1) := by decide +kernel
theorem dL_acts_739 : decode cL_acts 739 = .ok (.iload 20, 2) := by decide +kernel
theorem dL_acts_741 : decode cL_acts 741 = .ok (.invokevirtual 63, 3) := by decide +kernel
theorem dL_acts_744 : decode cL_acts 744 = .ok (.iload 21, 2) := by decide +kernel
theorem dL_acts_746 : decode cL_acts 746 = .ok (.if_icmp .ne 7, 3) := by decide +kernel
theorem dL_acts_749 : decode cL_acts 749 = .ok (.iconst 1, 1) := by decide +kernel
theorem dL_acts_750 : decode cL_acts 750 = .ok (.goto 4, 3) := by decide +kernel
theorem dL_acts_753 : decode cL_acts 753 = .ok (.iconst 0, 1) := by decide +kernel
theorem dL_acts_754 : decode cL_acts 754 = .ok (.ireturn, 1) := by decide +kernel
theorem dL_acts_755 : decode cL_acts 755 = .ok (.iload_n 1, 1) := by decide +kernel
theorem dL_acts_756 : decode cL_acts 756 = .ok (.iconst 4, 1) := by decide +kernel
theorem dL_acts_757 : decode cL_acts 757 = .ok (.ishr, 1) := by decide +kernel
theorem dL_acts_758 : decode cL_acts 758 = .ok (.bipush 7, 2) := by decide +kernel
theorem dL_acts_760 : decode cL_acts 760 = .ok (.irem, 1) := by decide +kernel
theorem dL_acts_761 : decode cL_acts 761 = .ok (.istore 23, 2) := by decide +kernel
theorem dL_acts_763 : decode cL_acts 763 = .ok (.iload 23, 2) := by decide +kernel
theorem dL_acts_765 : decode cL_acts 765 = .ok (.iconst 5, 1) := by decide +kernel
theorem dL_acts_766 : decode cL_acts 766 = .ok (.if_icmp .ge 17, 3) := by decide +kernel
theorem dL_acts_769 : decode cL_acts 769 = .ok (.bipush 30, 2) := by decide +kernel
theorem dL_acts_771 : decode cL_acts 771 = .ok (.iload_n 1, 1) := by decide +kernel
theorem dL_acts_772 : decode cL_acts 772 = .ok (.bipush 8, 2) := by decide +kernel
theorem dL_acts_774 : decode cL_acts 774 = .ok (.ishr, 1) := by decide +kernel
theorem dL_acts_775 : decode cL_acts 775 = .ok (.sipush 300, 3) := by decide +kernel
theorem dL_acts_778 : decode cL_acts 778 = .ok (.irem, 1) := by decide +kernel
theorem dL_acts_779 : decode cL_acts 779 = .ok (.iadd, 1) := by decide +kernel
theorem dL_acts_780 : decode cL_acts 780 = .ok (.goto 32, 3) := by decide +kernel
theorem dL_acts_783 : decode cL_acts 783 = .ok (.iload 23, 2) := by decide +kernel
theorem dL_acts_785 : decode cL_acts 785 = .ok (.iconst 5, 1) := by decide +kernel
theorem dL_acts_786 : decode cL_acts 786 = .ok (.if_icmp .ne 15, 3) := by decide +kernel
theorem dL_acts_789 : decode cL_acts 789 = .ok (.iconst 1, 1) := by decide +kernel
theorem dL_acts_790 : decode cL_acts 790 = .ok (.iload_n 1, 1) := by decide +kernel
theorem dL_acts_791 : decode cL_acts 791 = .ok (.bipush 8, 2) := by decide +kernel
theorem dL_acts_793 : decode cL_acts 793 = .ok (.ishr, 1) := by decide +kernel
theorem dL_acts_794 : decode cL_acts 794 = .ok (.bipush 20, 2) := by decide +kernel
theorem dL_acts_796 : decode cL_acts 796 = .ok (.irem, 1) := by decide +kernel
theorem dL_acts_797 : decode cL_acts 797 = .ok (.iadd, 1) := by decide +kernel
theorem dL_acts_798 : decode cL_acts 798 = .ok (.goto 14, 3) := by decide +kernel
theorem dL_acts_801 : decode cL_acts 801 = .ok (.bipush 50, 2) := by decide +kernel
theorem dL_acts_803 : decode cL_acts 803 = .ok (.iload_n 1, 1) := by decide +kernel
theorem dL_acts_804 : decode cL_acts 804 = .ok (.bipush 8, 2) := by decide +kernel
theorem dL_acts_806 : decode cL_acts 806 = .ok (.ishr, 1) := by decide +kernel
theorem dL_acts_807 : decode cL_acts 807 = .ok (.sipush 551, 3) := by decide +kernel
theorem dL_acts_810 : decode cL_acts 810 = .ok (.irem, 1) := by decide +kernel
theorem dL_acts_811 : decode cL_acts 811 = .ok (.iadd, 1) := by decide +kernel
theorem dL_acts_812 : decode cL_acts 812 = .ok (.istore 24, 2) := by decide +kernel
theorem dL_acts_814 : decode cL_acts 814 = .ok (.aload_n 0, 1) := by decide +kernel
theorem dL_acts_815 : decode cL_acts 815 = .ok (.iload 23, 2) := by decide +kernel
theorem dL_acts_817 : decode cL_acts 817 = .ok (.invokevirtual 22, 3) := by decide +kernel
theorem dL_acts_820 : decode cL_acts 820 = .ok (.istore 25, 2) := by decide +kernel
theorem dL_acts_822 : decode cL_acts 822 = .ok (.aload_n 0, 1) := by decide +kernel
theorem dL_acts_823 : decode cL_acts 823 = .ok (.iload 23, 2) := by decide +kernel
theorem dL_acts_825 : decode cL_acts 825 = .ok (.iload 24, 2) := by decide +kernel
theorem dL_acts_827 : decode cL_acts 827 = .ok (.invokevirtual 66, 3) := by decide +kernel
theorem dL_acts_830 : decode cL_acts 830 = .ok (.iload 25, 2) := by decide +kernel
theorem dL_acts_832 : decode cL_acts 832 = .ok (.if_icmp .ne 18, 3) := by decide +kernel
theorem dL_acts_835 : decode cL_acts 835 = .ok (.aload_n 0, 1) := by decide +kernel
theorem dL_acts_836 : decode cL_acts 836 = .ok (.iload 23, 2) := by decide +kernel
theorem dL_acts_838 : decode cL_acts 838 = .ok (.invokevirtual 22, 3) := by decide +kernel
theorem dL_acts_841 : decode cL_acts 841 = .ok (.iload 24, 2) := by decide +kernel
theorem dL_acts_843 : decode cL_acts 843 = .ok (.if_icmp .ne 7, 3) := by decide +kernel
theorem dL_acts_846 : decode cL_acts 846 = .ok (.iconst 1, 1) := by decide +kernel
theorem dL_acts_847 : decode cL_acts 847 = .ok (.goto 4, 3) := by decide +kernel
theorem dL_acts_850 : decode cL_acts 850 = .ok (.iconst 0, 1) := by decide +kernel
theorem dL_acts_851 : decode cL_acts 851 = .ok (.ireturn, 1) := by decide +kernel
theorem dL_acts_852 : decode cL_acts 852 = .ok (.iconst 1, 1) := by decide +kernel
theorem dL_acts_853 : decode cL_acts 853 = .ok (.iload_n 1, 1) := by decide +kernel
theorem dL_acts_854 : decode cL_acts 854 = .ok (.iconst 4, 1) := by decide +kernel
theorem dL_acts_855 : decode cL_acts 855 = .ok (.ishr, 1) := by decide +kernel
theorem dL_acts_856 : decode cL_acts 856 = .ok (.bipush 120, 2) := by decide +kernel
theorem dL_acts_858 : decode cL_acts 858 = .ok (.irem, 1) := by decide +kernel
theorem dL_acts_859 : decode cL_acts 859 = .ok (.iadd, 1) := by decide +kernel
theorem dL_acts_860 : decode cL_acts 860 = .ok (.istore 26, 2) := by decide +kernel
theorem dL_acts_862 : decode cL_acts 862 = .ok (.aload_n 0, 1) := by decide +kernel
theorem dL_acts_863 : decode cL_acts 863 = .ok (.invokevirtual 31, 3) := by decide +kernel
theorem dL_acts_866 : decode cL_acts 866 = .ok (.istore 27, 2) := by decide +kernel
theorem dL_acts_868 : decode cL_acts 868 = .ok (.aload_n 0, 1) := by decide +kernel
theorem dL_acts_869 : decode cL_acts 869 = .ok (.iconst 3, 1) := by decide +kernel
theorem dL_acts_870 : decode cL_acts 870 = .ok (.invokevirtual 15, 3) := by decide +kernel
theorem dL_acts_873 : decode cL_acts 873 = .ok (.istore 28, 2) := by decide +kernel
theorem dL_acts_875 : decode cL_acts 875 = .ok (.aload_n 0, 1) := by decide +kernel
theorem dL_acts_876 : decode cL_acts 876 = .ok (.iconst 4, 1) := by decide +kernel
theorem dL_acts_877 : decode cL_acts 877 = .ok (.invokevirtual 15, 3) := by decide +kernel
theorem dL_acts_880 : decode cL_acts 880 = .ok (.istore 29, 2) := by decide +kernel
theorem dL_acts_882 : decode cL_acts 882 = .ok (.aload_n 0, 1) := by decide +kernel
theorem dL_acts_883 : decode cL_acts 883 = .ok (.iconst 5, 1) := by decide +kernel
theorem dL_acts_884 : decode cL_acts 884 = .ok (.invokevirtual 15, 3) := by decide +kernel
theorem dL_acts_887 : decode cL_acts 887 = .ok (.istore 30, 2) := by decide +kernel
theorem dL_acts_889 : decode cL_acts 889 = .ok (.aload_n 0, 1) := by decide +kernel
theorem dL_acts_890 : decode cL_acts 890 = .ok (.iload 26, 2) := by decide +kernel
theorem dL_acts_892 : decode cL_acts 892 = .ok (.iconst 0, 1) := by decide +kernel
theorem dL_acts_893 : decode cL_acts 893 = .ok (.invokevirtual 69, 3) := by decide +kernel
theorem dL_acts_896 : decode cL_acts 896 = .ok (.istore 31, 2) := by decide +kernel
theorem dL_acts_898 : decode cL_acts 898 = .ok (.aload_n 0, 1) := by decide +kernel
theorem dL_acts_899 : decode cL_acts 899 = .ok (.iload 26, 2) := by decide +kernel
theorem dL_acts_901 : decode cL_acts 901 = .ok (.iconst 1, 1) := by decide +kernel
theorem dL_acts_902 : decode cL_acts 902 = .ok (.invokevirtual 69, 3) := by decide +kernel
theorem dL_acts_905 : decode cL_acts 905 = .ok (.istore 32, 2) := by decide +kernel
theorem dL_acts_907 : decode cL_acts 907 = .ok (.aload_n 0, 1) := by decide +kernel
theorem dL_acts_908 : decode cL_acts 908 = .ok (.iload 26, 2) := by decide +kernel
theorem dL_acts_910 : decode cL_acts 910 = .ok (.iconst 2, 1) := by decide +kernel
theorem dL_acts_911 : decode cL_acts 911 = .ok (.invokevirtual 69, 3) := by decide +kernel
theorem dL_acts_914 : decode cL_acts 914 = .ok (.istore 33, 2) := by decide +kernel
theorem dL_acts_916 : decode cL_acts 916 = .ok (.aload_n 0, 1) := by decide +kernel
theorem dL_acts_917 : decode cL_acts 917 = .ok (.iload 26, 2) := by decide +kernel
theorem dL_acts_919 : decode cL_acts 919 = .ok (.invokevirtual 72, 3) := by decide +kernel
theorem dL_acts_922 : decode cL_acts 922 = .ok (.iload 31, 2) := by decide +kernel
theorem dL_acts_924 : decode cL_acts 924 = .ok (.if_icmp .ne 58, 3) := by decide +kernel
theorem dL_acts_927 : decode cL_acts 927 = .ok (.aload_n 0, 1) := by decide +kernel
theorem dL_acts_928 : decode cL_acts 928 = .ok (.invokevirtual 31, 3) := by decide +kernel
theorem dL_acts_931 : decode cL_acts 931 = .ok (.iload 27, 2) := by decide +kernel
theorem dL_acts_933 : decode cL_acts 933 = .ok (.iload 26, 2) := by decide +kernel
theorem dL_acts_935 : decode cL_acts 935 = .ok (.iadd, 1) := by decide +kernel
theorem dL_acts_936 : decode cL_acts 936 = .ok (.if_icmp .ne 46, 3) := by decide +kernel
theorem dL_acts_939 : decode cL_acts 939 = .ok (.aload_n 0, 1) := by decide +kernel
theorem dL_acts_940 : decode cL_acts 940 = .ok (.iconst 3, 1) := by decide +kernel
theorem dL_acts_941 : decode cL_acts 941 = .ok (.invokevirtual 15, 3) := by decide +kernel
theorem dL_acts_944 : decode cL_acts 944 = .ok (.iload 28, 2) := by decide +kernel
theorem dL_acts_946 : decode cL_acts 946 = .ok (.iload 31, 2) := by decide +kernel
theorem dL_acts_948 : decode cL_acts 948 = .ok (.iadd, 1) := by decide +kernel
theorem dL_acts_949 : decode cL_acts 949 = .ok (.if_icmp .ne 33, 3) := by decide +kernel
theorem dL_acts_952 : decode cL_acts 952 = .ok (.aload_n 0, 1) := by decide +kernel
theorem dL_acts_953 : decode cL_acts 953 = .ok (.iconst 4, 1) := by decide +kernel
theorem dL_acts_954 : decode cL_acts 954 = .ok (.invokevirtual 15, 3) := by decide +kernel
theorem dL_acts_957 : decode cL_acts 957 = .ok (.iload 29, 2) := by decide +kernel
theorem dL_acts_959 : decode cL_acts 959 = .ok (.iload 32, 2) := by decide +kernel
theorem dL_acts_961 : decode cL_acts 961 = .ok (.iadd, 1) := by decide +kernel
theorem dL_acts_962 : decode cL_acts 962 = .ok (.if_icmp .ne 20, 3) := by decide +kernel
theorem dL_acts_965 : decode cL_acts 965 = .ok (.aload_n 0, 1) := by decide +kernel
theorem dL_acts_966 : decode cL_acts 966 = .ok (.iconst 5, 1) := by decide +kernel
theorem dL_acts_967 : decode cL_acts 967 = .ok (.invokevirtual 15, 3) := by decide +kernel
theorem dL_acts_970 : decode cL_acts 970 = .ok (.iload 30, 2) := by decide +kernel
theorem dL_acts_972 : decode cL_acts 972 = .ok (.iload 33, 2) := by decide +kernel
theorem dL_acts_974 : decode cL_acts 974 = .ok (.iadd, 1) := by decide +kernel
theorem dL_acts_975 : decode cL_acts 975 = .ok (.if_icmp .ne 7, 3) := by decide +kernel
theorem dL_acts_978 : decode cL_acts 978 = .ok (.iconst 1, 1) := by decide +kernel
theorem dL_acts_979 : decode cL_acts 979 = .ok (.goto 4, 3) := by decide +kernel
theorem dL_acts_982 : decode cL_acts 982 = .ok (.iconst 0, 1) := by decide +kernel
theorem dL_acts_983 : decode cL_acts 983 = .ok (.ireturn, 1) := by decide +kernel
theorem dL_law_0 : decode cL_law 0 = .ok (.new 10, 3) := by decide +kernel
theorem dL_law_3 : decode cL_law 3 = .ok (.dup, 1) := by decide +kernel
theorem dL_law_4 : decode cL_law 4 = .ok (.invokespecial 75, 3) := by decide +kernel
theorem dL_law_7 : decode cL_law 7 = .ok (.astore_n 1, 1) := by decide +kernel
theorem dL_law_8 : decode cL_law 8 = .ok (.aload_n 1, 1) := by decide +kernel
theorem dL_law_9 : decode cL_law 9 = .ok (.invokevirtual 76, 3) := by decide +kernel
theorem dL_law_12 : decode cL_law 12 = .ok (.bipush (-6), 2) := by decide +kernel
theorem dL_law_14 : decode cL_law 14 = .ok (.if_icmp .ne 35, 3) := by decide +kernel
theorem dL_law_17 : decode cL_law 17 = .ok (.aload_n 1, 1) := by decide +kernel
theorem dL_law_18 : decode cL_law 18 = .ok (.iconst 0, 1) := by decide +kernel
theorem dL_law_19 : decode cL_law 19 = .ok (.invokevirtual 79, 3) := by decide +kernel
theorem dL_law_22 : decode cL_law 22 = .ok (.bipush (-6), 2) := by decide +kernel
theorem dL_law_24 : decode cL_law 24 = .ok (.if_icmp .ne 25, 3) := by decide +kernel
theorem dL_law_27 : decode cL_law 27 = .ok (.aload_n 1, 1) := by decide +kernel
theorem dL_law_28 : decode cL_law 28 = .ok (.invokevirtual 82, 3) := by decide +kernel
theorem dL_law_31 : decode cL_law 31 = .ok (.fconst 0, 1) := by decide +kernel
theorem dL_law_32 : decode cL_law 32 = .ok (.fcmp .l, 1) := by decide +kernel
theorem dL_law_33 : decode cL_law 33 = .ok (.ifCond .ne 16, 3) := by decide +kernel
theorem dL_law_36 : decode cL_law 36 = .ok (.aload_n 1, 1) := by decide +kernel
theorem dL_law_37 : decode cL_law 37 = .ok (.invokevirtual 86, 3) := by decide +kernel
theorem dL_law_40 : decode cL_law 40 = .ok (.bipush (-3), 2) := by decide +kernel
theorem dL_law_42 : decode cL_law 42 = .ok (.if_icmp .ne 7, 3) := by decide +kernel
theorem dL_law_45 : decode cL_law 45 = .ok (.iconst 1, 1) := by decide +kernel
theorem dL_law_46 : decode cL_law 46 = .ok (.goto 4, 3) := by decide +kernel
theorem dL_law_49 : decode cL_law 49 = .ok (.iconst 0, 1) := by decide +kernel
theorem dL_law_50 : decode cL_law 50 = .ok (.istore_n 2, 1) := by decide +kernel
theorem dL_law_51 : decode cL_law 51 = .ok (.iconst 0, 1) := by decide +kernel
theorem dL_law_52 : decode cL_law 52 = .ok (.istore_n 3, 1) := by decide +kernel
theorem dL_law_53 : decode cL_law 53 = .ok (.iload_n 3, 1) := by decide +kernel
theorem dL_law_54 : decode cL_law 54 = .ok (.bipush 40, 2) := by decide +kernel
theorem dL_law_56 : decode cL_law 56 = .ok (.if_icmp .ge 52, 3) := by decide +kernel
theorem dL_law_59 : decode cL_law 59 = .ok (.iload_n 2, 1) := by decide +kernel
theorem dL_law_60 : decode cL_law 60 = .ok (.ifCond .eq 48, 3) := by decide +kernel
theorem dL_law_63 : decode cL_law 63 = .ok (.aload_n 1, 1) := by decide +kernel
theorem dL_law_64 : decode cL_law 64 = .ok (.aload_n 0, 1) := by decide +kernel
theorem dL_law_65 : decode cL_law 65 = .ok (.iload_n 3, 1) := by decide +kernel
theorem dL_law_66 : decode cL_law 66 = .ok (.invokestatic 89, 3) := by decide +kernel
theorem dL_law_69 : decode cL_law 69 = .ok (.invokestatic 95, 3) := by decide +kernel
theorem dL_law_72 : decode cL_law 72 = .ok (.ifCond .eq 28, 3) := by decide +kernel
theorem dL_law_75 : decode cL_law 75 = .ok (.iload_n 3, 1) := by decide +kernel
theorem dL_law_76 : decode cL_law 76 = .ok (.bipush 10, 2) := by decide +kernel
theorem dL_law_78 : decode cL_law 78 = .ok (.irem, 1) := by decide +kernel
theorem dL_law_79 : decode cL_law 79 = .ok (.ifCond .gt 17, 3) := by decide +kernel
theorem dL_law_82 : decode cL_law 82 = .ok (.aload_n 1, 1) := by decide +kernel
theorem dL_law_83 : decode cL_law 83 = .ok (.invokestatic 99, 3) := by decide +kernel
theorem dL_law_86 : decode cL_law 86 = .ok (.ifCond .eq 14, 3) := by decide +kernel
theorem dL_law_89 : decode cL_law 89 = .ok (.aload_n 1, 1) := by decide +kernel
theorem dL_law_90 : decode cL_law 90 = .ok (.invokestatic 103, 3) := by decide +kernel
theorem dL_law_93 : decode cL_law 93 = .ok (.ifCond .eq 7, 3) := by decide +kernel
theorem dL_law_96 : decode cL_law 96 = .ok (.iconst 1, 1) := by decide +kernel
theorem dL_law_97 : decode cL_law 97 = .ok (.goto 4, 3) := by decide +kernel
theorem dL_law_100 : decode cL_law 100 = .ok (.iconst 0, 1) := by decide +kernel
theorem dL_law_101 : decode cL_law 101 = .ok (.istore_n 2, 1) := by decide +kernel
theorem dL_law_102 : decode cL_law 102 = .ok (.iinc 3 1, 3) := by decide +kernel
theorem dL_law_105 : decode cL_law 105 = .ok (.goto (-52), 3) := by decide +kernel
theorem dL_law_108 : decode cL_law 108 = .ok (.iconst 0, 1) := by decide +kernel
theorem dL_law_109 : decode cL_law 109 = .ok (.istore_n 3, 1) := by decide +kernel
theorem dL_law_110 : decode cL_law 110 = .ok (.iconst 0, 1) := by decide +kernel
theorem dL_law_111 : decode cL_law 111 = .ok (.istore 4, 2) := by decide +kernel
theorem dL_law_113 : decode cL_law 113 = .ok (.iload 4, 2) := by decide +kernel
theorem dL_law_115 : decode cL_law 115 = .ok (.aload_n 1, 1) := by decide +kernel
theorem dL_law_116 : decode cL_law 116 = .ok (.iconst 0, 1) := by decide +kernel
theorem dL_law_117 : decode cL_law 117 = .ok (.invokevirtual 15, 3) := by decide +kernel
theorem dL_law_120 : decode cL_law 120 = .ok (.if_icmp .ge 28, 3) := by decide +kernel
theorem dL_law_123 : decode cL_law 123 = .ok (.iload_n 3, 1) := by decide +kernel
theorem dL_law_124 : decode cL_law 124 = .ok (.aload_n 1, 1) := by decide +kernel
theorem dL_law_125 : decode cL_law 125 = .ok (.invokevirtual 31, 3) := by decide +kernel
theorem dL_law_128 : decode cL_law 128 = .ok (.aload_n 1, 1) := by decide +kernel
theorem dL_law_129 : decode cL_law 129 = .ok (.aload_n 1, 1) := by decide +kernel
theorem dL_law_130 : decode cL_law 130 = .ok (.iload 4, 2) := by decide +kernel
theorem dL_law_132 : decode cL_law 132 = .ok (.invokevirtual 19, 3) := by decide +kernel
theorem dL_law_135 : decode cL_law 135 = .ok (.iconst 2, 1) := by decide +kernel
theorem dL_law_136 : decode cL_law 136 = .ok (.invokevirtual 9, 3) := by decide +kernel
theorem dL_law_139 : decode cL_law 139 = .ok (.isub, 1) := by decide +kernel
theorem dL_law_140 : decode cL_law 140 = .ok (.iadd, 1) := by decide +kernel
theorem dL_law_141 : decode cL_law 141 = .ok (.istore_n 3, 1) := by decide +kernel
theorem dL_law_142 : decode cL_law 142 = .ok (.iinc 4 1, 3) := by decide +kernel
theorem dL_law_145 : decode cL_law 145 = .ok (.goto (-32), 3) := by decide +kernel
theorem dL_law_148 : decode cL_law 148 = .ok (.iload_n 2, 1) := by decide +kernel
theorem dL_law_149 : decode cL_law 149 = .ok (.ifCond .eq 50, 3) := by decide +kernel
theorem dL_law_152 : decode cL_law 152 = .ok (.aload_n 1, 1) := by decide +kernel
theorem dL_law_153 : decode cL_law 153 = .ok (.invokestatic 99, 3) := by decide +kernel
theorem dL_law_156 : decode cL_law 156 = .ok (.ifCond .eq 43, 3) := by decide +kernel
theorem dL_law_159 : decode cL_law 159 = .ok (.aload_n 1, 1) := by decide +kernel
theorem dL_law_160 : decode cL_law 160 = .ok (.invokestatic 103, 3) := by decide +kernel
theorem dL_law_163 : decode cL_law 163 = .ok (.ifCond .eq 36, 3) := by decide +kernel
theorem dL_law_166 : decode cL_law 166 = .ok (.aload_n 1, 1) := by decide +kernel
theorem dL_law_167 : decode cL_law 167 = .ok (.invokevirtual 82, 3) := by decide +kernel
theorem dL_law_170 : decode cL_law 170 = .ok (.aload_n 1, 1) := by decide +kernel
theorem dL_law_171 : decode cL_law 171 = .ok (.iconst 0, 1) := by decide +kernel
theorem dL_law_172 : decode cL_law 172 = .ok (.invokevirtual 15, 3) := by decide +kernel
theorem dL_law_175 : decode cL_law 175 = .ok (.ifCond .ne 7, 3) := by decide +kernel
theorem dL_law_178 : decode cL_law 178 = .ok (.fconst 0, 1) := by decide +kernel
theorem dL_law_179 : decode cL_law 179 = .ok (.goto 12, 3) := by decide +kernel
theorem dL_law_182 : decode cL_law 182 = .ok (.iload_n 3, 1) := by decide +kernel
theorem dL_law_183 : decode cL_law 183 = .ok (.i2f, 1) := by decide +kernel
theorem dL_law_184 : decode cL_law 184 = .ok (.aload_n 1, 1) := by decide +kernel
theorem dL_law_185 : decode cL_law 185 = .ok (.iconst 0, 1) := by decide +kernel
theorem dL_law_186 : decode cL_law 186 = .ok (.invokevirtual 15, 3) := by decide +kernel
theorem dL_law_189 : decode cL_law 189 = .ok (.i2f, 1) := by decide +kernel
theorem dL_law_190 : decode cL_law 190 = .ok (.fdiv, 1) := by decide +kernel
theorem dL_law_191 : decode cL_law 191 = .ok (.fcmp .l, 1) := by decide +kernel
theorem dL_law_192 : decode cL_law 192 = .ok (.ifCond .ne 7, 3) := by decide +kernel
theorem dL_law_195 : decode cL_law 195 = .ok (.iconst 1, 1) := by decide +kernel
theorem dL_law_196 : decode cL_law 196 = .ok (.goto 4, 3) := by decide +kernel
theorem dL_law_199 : decode cL_law 199 = .ok (.iconst 0, 1) := by decide +kernel
theorem dL_law_200 : decode cL_law 200 = .ok (.istore_n 2, 1) := by decide +kernel
theorem dL_law_201 : decode cL_law 201 = .ok (.aload_n 1, 1) := by decide +kernel
theorem dL_law_202 : decode cL_law 202 = .ok (.iconst 0, 1) := by decide +kernel
theorem dL_law_203 : decode cL_law 203 = .ok (.invokevirtual 19, 3) := by decide +kernel
theorem dL_law_206 : decode cL_law 206 = .ok (.istore 4, 2) := by decide +kernel
theorem dL_law_208 : decode cL_law 208 = .ok (.iload 4, 2) := by decide +kernel
theorem dL_law_210 : decode cL_law 210 = .ok (.ifCond .ge 8, 3) := by decide +kernel
theorem dL_law_213 : decode cL_law 213 = .ok (.bipush (-6), 2) := by decide +kernel
theorem dL_law_215 : decode cL_law 215 = .ok (.goto 9, 3) := by decide +kernel
theorem dL_law_218 : decode cL_law 218 = .ok (.aload_n 1, 1) := by decide +kernel
theorem dL_law_219 : decode cL_law 219 = .ok (.iload 4, 2) := by decide +kernel
theorem dL_law_221 : decode cL_law 221 = .ok (.invokevirtual 106, 3) := by decide +kernel
theorem dL_law_224 : decode cL_law 224 = .ok (.istore 5, 2) := by decide +kernel
theorem dL_law_226 : decode cL_law 226 = .ok (.iload_n 2, 1) := by decide +kernel
theorem dL_law_227 : decode cL_law 227 = .ok (.ifCond .eq 116, 3) := by decide +kernel
theorem dL_law_230 : decode cL_law 230 = .ok (.iload 5, 2) := by decide +kernel
theorem dL_law_232 : decode cL_law 232 = .ok (.ifCond .le 111, 3) := by decide +kernel
theorem dL_law_235 : decode cL_law 235 = .ok (.iload 5, 2) := by decide +kernel
theorem dL_law_237 : decode cL_law 237 = .ok (.sipush 400, 3) := by decide +kernel
theorem dL_law_240 : decode cL_law 240 = .ok (.if_icmp .gt 103, 3) := by decide +kernel
theorem dL_law_243 : decode cL_law 243 = .ok (.aload_n 1, 1) := by decide +kernel
theorem dL_law_244 : decode cL_law 244 = .ok (.invokevirtual 31, 3) := by decide +kernel
theorem dL_law_247 : decode cL_law 247 = .ok (.iload 5, 2) := by decide +kernel
theorem dL_law_249 : decode cL_law 249 = .ok (.iadd, 1) := by decide +kernel
theorem dL_law_250 : decode cL_law 250 = .ok (.bipush 90, 2) := by decide +kernel
theorem dL_law_252 : decode cL_law 252 = .ok (.irem, 1) := by decide +kernel
theorem dL_law_253 : decode cL_law 253 = .ok (.ifCond .ne 88, 3) := by decide +kernel
theorem dL_law_256 : decode cL_law 256 = .ok (.iload 5, 2) := by decide +kernel
theorem dL_law_258 : decode cL_law 258 = .ok (.iconst 1, 1) := by decide +kernel
theorem dL_law_259 : decode cL_law 259 = .ok (.if_icmp .eq 24, 3) := by decide +kernel
theorem dL_law_262 : decode cL_law 262 = .ok (.aload_n 1, 1) := by decide +kernel
theorem dL_law_263 : decode cL_law 263 = .ok (.iload 5, 2) := by decide +kernel
theorem dL_law_265 : decode cL_law 265 = .ok (.iconst 1, 1) := by decide +kernel
theorem dL_law_266 : decode cL_law 266 = .ok (.isub, 1) := by decide +kernel
theorem dL_law_267 : decode cL_law 267 = .ok (.invokevirtual 72, 3) := by decide +kernel
theorem dL_law_270 : decode cL_law 270 = .ok (.ifCond .lt 71, 3) := by decide +kernel
theorem dL_law_273 : decode cL_law 273 = .ok (.aload_n 1, 1) := by decide +kernel
theorem dL_law_274 : decode cL_law 274 = .ok (.iload 4, 2) := by decide +kernel
theorem dL_law_276 : decode cL_law 276 = .ok (.iconst 0, 1) := by decide +kernel
theorem dL_law_277 : decode cL_law 277 = .ok (.invokevirtual 9, 3) := by decide +kernel
theorem dL_law_280 : decode cL_law 280 = .ok (.ifCond .lt 61, 3) := by decide +kernel
theorem dL_law_283 : decode cL_law 283 = .ok (.aload_n 1, 1) := by decide +kernel
theorem dL_law_284 : decode cL_law 284 = .ok (.iconst 1, 1) := by decide +kernel
theorem dL_law_285 : decode cL_law 285 = .ok (.invokevirtual 72, 3) := by decide +kernel
theorem dL_law_288 : decode cL_law 288 = .ok (.iconst 1, 1) := by decide +kernel
theorem dL_law_289 : decode cL_law 289 = .ok (.if_icmp .lt 52, 3) := by decide +kernel
theorem dL_law_292 : decode cL_law 292 = .ok (.aload_n 1, 1) := by decide +kernel
theorem dL_law_293 : decode cL_law 293 = .ok (.iload 4, 2) := by decide +kernel
theorem dL_law_295 : decode cL_law 295 = .ok (.iconst 0, 1) := by decide +kernel
theorem dL_law_296 : decode cL_law 296 = .ok (.invokevirtual 9, 3) := by decide +kernel
theorem dL_law_299 : decode cL_law 299 = .ok (.iconst (-1), 1) := by decide +kernel
theorem dL_law_300 : decode cL_law 300 = .ok (.if_icmp .ne 41, 3) := by decide +kernel
theorem dL_law_303 : decode cL_law 303 = .ok (.aload_n 1, 1) := by decide +kernel
theorem dL_law_304 : decode cL_law 304 = .ok (.aload_n 1, 1) := by decide +kernel
theorem dL_law_305 : decode cL_law 305 = .ok (.bipush 9, 2) := by decide +kernel
theorem dL_law_307 : decode cL_law 307 = .ok (.invokevirtual 15, 3) := by decide +kernel
theorem dL_law_310 : decode cL_law 310 = .ok (.iconst 1, 1) := by decide +kernel
theorem dL_law_311 : decode cL_law 311 = .ok (.isub, 1) := by decide +kernel
theorem dL_law_312 : decode cL_law 312 = .ok (.iconst 3, 1) := by decide +kernel
theorem dL_law_313 : decode cL_law 313 = .ok (.invokevirtual 41, 3) := by decide +kernel
theorem dL_law_316 : decode cL_law 316 = .ok (.aload_n 1, 1) := by decide +kernel
theorem dL_law_317 : decode cL_law 317 = .ok (.invokevirtual 31, 3) := by decide +kernel
theorem dL_law_320 : decode cL_law 320 = .ok (.if_icmp .gt 21, 3) := by decide +kernel
theorem dL_law_323 : decode cL_law 323 = .ok (.aload_n 1, 1) := by decide +kernel
theorem dL_law_324 : decode cL_law 324 = .ok (.invokestatic 99, 3) := by decide +kernel
theorem dL_law_327 : decode cL_law 327 = .ok (.ifCond .eq 14, 3) := by decide +kernel
theorem dL_law_330 : decode cL_law 330 = .ok (.aload_n 1, 1) := by decide +kernel
theorem dL_law_331 : decode cL_law 331 = .ok (.invokevirtual 76, 3) := by decide +kernel
theorem dL_law_334 : decode cL_law 334 = .ok (.ifCond .lt 7, 3) := by decide +kernel
theorem dL_law_337 : decode cL_law 337 = .ok (.iconst 1, 1) := by decide +kernel
theorem dL_law_338 : decode cL_law 338 = .ok (.goto 4, 3) := by decide +kernel
theorem dL_law_341 : decode cL_law 341 = .ok (.iconst 0, 1) := by decide +kernel
theorem dL_law_342 : decode cL_law 342 = .ok (.istore_n 2, 1) := by decide +kernel
theorem dL_law_343 : decode cL_law 343 = .ok (.iload_n 2, 1) := by decide +kernel
theorem dL_law_344 : decode cL_law 344 = .ok (.ifCond .eq 27, 3) := by decide +kernel
theorem dL_law_347 : decode cL_law 347 = .ok (.iload 5, 2) := by decide +kernel
theorem dL_law_349 : decode cL_law 349 = .ok (.bipush (-6), 2) := by decide +kernel
theorem dL_law_351 : decode cL_law 351 = .ok (.if_icmp .eq 16, 3) := by decide +kernel
theorem dL_law_354 : decode cL_law 354 = .ok (.iload 5, 2) := by decide +kernel
theorem dL_law_356 : decode cL_law 356 = .ok (.ifCond .le 15, 3) := by decide +kernel
theorem dL_law_359 : decode cL_law 359 = .ok (.iload 5, 2) := by decide +kernel
theorem dL_law_361 : decode cL_law 361 = .ok (.sipush 3000, 3) := by decide +kernel
theorem dL_law_364 : decode cL_law 364 = .ok (.if_icmp .gt 7, 3) := by decide +kernel
theorem dL_law_367 : decode cL_law 367 = .ok (.iconst 1, 1) := by decide +kernel
theorem dL_law_368 : decode cL_law 368 = .ok (.goto 4, 3) := by decide +kernel
theorem dL_law_371 : decode cL_law 371 = .ok (.iconst 0, 1) := by decide +kernel
theorem dL_law_372 : decode cL_law 372 = .ok (.ireturn, 1) := by decide +kernel
