theorem dL_cell_0 : decode cL_cell 0 = .ok (.iload_n 1, 1) := by decide +kernel
theorem dL_cell_1 : decode cL_cell 1 = .ok (.aload_n 0, 1) := by decide +kernel
theorem dL_cell_2 : decode cL_cell 2 = .ok (.arraylength, 1) := by decide +kernel
theorem dL_cell_3 : decode cL_cell 3 = .ok (.if_icmp .ge 9, 3) := by decide +kernel
theorem dL_cell_6 : decode cL_cell 6 = .ok (.aload_n 0, 1) := by decide +kernel
theorem dL_cell_7 : decode cL_cell 7 = .ok (.iload_n 1, 1) := by decide +kernel
theorem dL_cell_8 : decode cL_cell 8 = .ok (.iaload, 1) := by decide +kernel
theorem dL_cell_9 : decode cL_cell 9 = .ok (.goto 14, 3) := by decide +kernel
theorem dL_cell_12 : decode cL_cell 12 = .ok (.ldc 7, 2) := by decide +kernel
theorem dL_cell_14 : decode cL_cell 14 = .ok (.iload_n 1, 1) := by decide +kernel
theorem dL_cell_15 : decode cL_cell 15 = .ok (.sipush 173, 3) := by decide +kernel
theorem dL_cell_18 : decode cL_cell 18 = .ok (.iadd, 1) := by decide +kernel
theorem dL_cell_19 : decode cL_cell 19 = .ok (.imul, 1) := by decide +kernel
theorem dL_cell_20 : decode cL_cell 20 = .ok (.ldc 8, 2) := by decide +kernel
theorem dL_cell_22 : decode cL_cell 22 = .ok (.iadd, 1) := by decide +kernel
theorem dL_cell_23 : decode cL_cell 23 = .ok (.ldc 9, 2) := by decide +kernel
theorem dL_cell_25 : decode cL_cell 25 = .ok (.iand, 1) := by decide +kernel
theorem dL_cell_26 : decode cL_cell 26 = .ok (.ireturn, 1) := by decide +kernel
theorem dL_seen_0 : decode cL_seen 0 = .ok (.ldc2_w 10, 3) := by decide +kernel
theorem dL_seen_3 : decode cL_seen 3 = .ok (.lstore_n 1, 1) := by decide +kernel
theorem dL_seen_4 : decode cL_seen 4 = .ok (.iconst 0, 1) := by decide +kernel
theorem dL_seen_5 : decode cL_seen 5 = .ok (.istore_n 3, 1) := by decide +kernel
theorem dL_seen_6 : decode cL_seen 6 = .ok (.iload_n 3, 1) := by decide +kernel
theorem dL_seen_7 : decode cL_seen 7 = .ok (.bipush 7, 2) := by decide +kernel
theorem dL_seen_9 : decode cL_seen 9 = .ok (.if_icmp .ge 22, 3) := by decide +kernel
theorem dL_seen_12 : decode cL_seen 12 = .ok (.ldc2_w 12, 3) := by decide +kernel
theorem dL_seen_15 : decode cL_seen 15 = .ok (.lload_n 1, 1) := by decide +kernel
theorem dL_seen_16 : decode cL_seen 16 = .ok (.lmul, 1) := by decide +kernel
theorem dL_seen_17 : decode cL_seen 17 = .ok (.aload_n 0, 1) := by decide +kernel
theorem dL_seen_18 : decode cL_seen 18 = .ok (.iload_n 3, 1) := by decide +kernel
theorem dL_seen_19 : decode cL_seen 19 = .ok (.invokevirtual 14, 3) := by decide +kernel
theorem dL_seen_22 : decode cL_seen 22 = .ok (.i2l, 1) := by decide +kernel
theorem dL_seen_23 : decode cL_seen 23 = .ok (.ladd, 1) := by decide +kernel
theorem dL_seen_24 : decode cL_seen 24 = .ok (.lstore_n 1, 1) := by decide +kernel
theorem dL_seen_25 : decode cL_seen 25 = .ok (.iinc 3 1, 3) := by decide +kernel
theorem dL_seen_28 : decode cL_seen 28 = .ok (.goto (-22), 3) := by decide +kernel
theorem dL_seen_31 : decode cL_seen 31 = .ok (.iconst 0, 1) := by decide +kernel
theorem dL_seen_32 : decode cL_seen 32 = .ok (.istore_n 3, 1) := by decide +kernel
theorem dL_seen_33 : decode cL_seen 33 = .ok (.iload_n 3, 1) := by decide +kernel
theorem dL_seen_34 : decode cL_seen 34 = .ok (.bipush 60, 2) := by decide +kernel
theorem dL_seen_36 : decode cL_seen 36 = .ok (.if_icmp .ge 29, 3) := by decide +kernel
theorem dL_seen_39 : decode cL_seen 39 = .ok (.ldc2_w 12, 3) := by decide +kernel
theorem dL_seen_42 : decode cL_seen 42 = .ok (.lload_n 1, 1) := by decide +kernel
theorem dL_seen_43 : decode cL_seen 43 = .ok (.lmul, 1) := by decide +kernel
theorem dL_seen_44 : decode cL_seen 44 = .ok (.aload_n 0, 1) := by decide +kernel
theorem dL_seen_45 : decode cL_seen 45 = .ok (.iload_n 3, 1) := by decide +kernel
theorem dL_seen_46 : decode cL_seen 46 = .ok (.bipush 10, 2) := by decide +kernel
theorem dL_seen_48 : decode cL_seen 48 = .ok (.idiv, 1) := by decide +kernel
theorem dL_seen_49 : decode cL_seen 49 = .ok (.iload_n 3, 1) := by decide +kernel
theorem dL_seen_50 : decode cL_seen 50 = .ok (.bipush 10, 2) := by decide +kernel
theorem dL_seen_52 : decode cL_seen 52 = .ok (.irem, 1) := by decide +kernel
theorem dL_seen_53 : decode cL_seen 53 = .ok (.invokevirtual 20, 3) := by decide +kernel
theorem dL_seen_56 : decode cL_seen 56 = .ok (.i2l, 1) := by decide +kernel
theorem dL_seen_57 : decode cL_seen 57 = .ok (.ladd, 1) := by decide +kernel
theorem dL_seen_58 : decode cL_seen 58 = .ok (.lstore_n 1, 1) := by decide +kernel
theorem dL_seen_59 : decode cL_seen 59 = .ok (.iinc 3 1, 3) := by decide +kernel
theorem dL_seen_62 : decode cL_seen 62 = .ok (.goto (-29), 3) := by decide +kernel
theorem dL_seen_65 : decode cL_seen 65 = .ok (.iconst 0, 1) := by decide +kernel
theorem dL_seen_66 : decode cL_seen 66 = .ok (.istore_n 3, 1) := by decide +kernel
theorem dL_seen_67 : decode cL_seen 67 = .ok (.iload_n 3, 1) := by decide +kernel
theorem dL_seen_68 : decode cL_seen 68 = .ok (.bipush 8, 2) := by decide +kernel
theorem dL_seen_70 : decode cL_seen 70 = .ok (.if_icmp .ge 22, 3) := by decide +kernel
theorem dL_seen_73 : decode cL_seen 73 = .ok (.ldc2_w 12, 3) := by decide +kernel
theorem dL_seen_76 : decode cL_seen 76 = .ok (.lload_n 1, 1) := by decide +kernel
theorem dL_seen_77 : decode cL_seen 77 = .ok (.lmul, 1) := by decide +kernel
theorem dL_seen_78 : decode cL_seen 78 = .ok (.aload_n 0, 1) := by decide +kernel
theorem dL_seen_79 : decode cL_seen 79 = .ok (.iload_n 3, 1) := by decide +kernel
theorem dL_seen_80 : decode cL_seen 80 = .ok (.invokevirtual 24, 3) := by decide +kernel
theorem dL_seen_83 : decode cL_seen 83 = .ok (.i2l, 1) := by decide +kernel
theorem dL_seen_84 : decode cL_seen 84 = .ok (.ladd, 1) := by decide +kernel
theorem dL_seen_85 : decode cL_seen 85 = .ok (.lstore_n 1, 1) := by decide +kernel
theorem dL_seen_86 : decode cL_seen 86 = .ok (.iinc 3 1, 3) := by decide +kernel
theorem dL_seen_89 : decode cL_seen 89 = .ok (.goto (-22), 3) := by decide +kernel
theorem dL_seen_92 : decode cL_seen 92 = .ok (.lload_n 1, 1) := by decide +kernel
theorem dL_seen_93 : decode cL_seen 93 = .ok (.lreturn, 1) := by decide +kernel
theorem dL_isWhole_0 : decode cL_isWhole 0 = .ok (.iconst 0, 1) := by decide +kernel
theorem dL_isWhole_1 : decode cL_isWhole 1 = .ok (.istore_n 1, 1) := by decide +kernel
theorem dL_isWhole_2 : decode cL_isWhole 2 = .ok (.iconst 0, 1) := by decide +kernel
theorem dL_isWhole_3 : decode cL_isWhole 3 = .ok (.istore_n 2, 1) := by decide +kernel
theorem dL_isWhole_4 : decode cL_isWhole 4 = .ok (.iconst 0, 1) := by decide +kernel
theorem dL_isWhole_5 : decode cL_isWhole 5 = .ok (.istore_n 3, 1) := by decide +kernel
theorem dL_isWhole_6 : decode cL_isWhole 6 = .ok (.iconst 0, 1) := by decide +kernel
theorem dL_isWhole_7 : decode cL_isWhole 7 = .ok (.istore 4, 2) := by decide +kernel
theorem dL_isWhole_9 : decode cL_isWhole 9 = .ok (.aload_n 0, 1) := by decide +kernel
theorem dL_isWhole_10 : decode cL_isWhole 10 = .ok (.iconst 0, 1) := by decide +kernel
theorem dL_isWhole_11 : decode cL_isWhole 11 = .ok (.invokevirtual 14, 3) := by decide +kernel
theorem dL_isWhole_14 : decode cL_isWhole 14 = .ok (.istore 5, 2) := by decide +kernel
theorem dL_isWhole_16 : decode cL_isWhole 16 = .ok (.iload 5, 2) := by decide +kernel
theorem dL_isWhole_18 : decode cL_isWhole 18 = .ok (.ifCond .lt 32, 3) := by decide +kernel
theorem dL_isWhole_21 : decode cL_isWhole 21 = .ok (.iload 5, 2) := by decide +kernel
theorem dL_isWhole_23 : decode cL_isWhole 23 = .ok (.bipush 7, 2) := by decide +kernel
theorem dL_isWhole_25 : decode cL_isWhole 25 = .ok (.if_icmp .ge 25, 3) := by decide +kernel
theorem dL_isWhole_28 : decode cL_isWhole 28 = .ok (.aload_n 0, 1) := by decide +kernel
theorem dL_isWhole_29 : decode cL_isWhole 29 = .ok (.iconst 2, 1) := by decide +kernel
theorem dL_isWhole_30 : decode cL_isWhole 30 = .ok (.invokevirtual 14, 3) := by decide +kernel
theorem dL_isWhole_33 : decode cL_isWhole 33 = .ok (.ifCond .lt 17, 3) := by decide +kernel
theorem dL_isWhole_36 : decode cL_isWhole 36 = .ok (.aload_n 0, 1) := by decide +kernel
theorem dL_isWhole_37 : decode cL_isWhole 37 = .ok (.iconst 2, 1) := by decide +kernel
theorem dL_isWhole_38 : decode cL_isWhole 38 = .ok (.invokevirtual 14, 3) := by decide +kernel
theorem dL_isWhole_41 : decode cL_isWhole 41 = .ok (.bipush 16, 2) := by decide +kernel
theorem dL_isWhole_43 : decode cL_isWhole 43 = .ok (.if_icmp .ge 7, 3) := by decide +kernel
theorem dL_isWhole_46 : decode cL_isWhole 46 = .ok (.iconst 1, 1) := by decide +kernel
theorem dL_isWhole_47 : decode cL_isWhole 47 = .ok (.goto 4, 3) := by decide +kernel
theorem dL_isWhole_50 : decode cL_isWhole 50 = .ok (.iconst 0, 1) := by decide +kernel
theorem dL_isWhole_51 : decode cL_isWhole 51 = .ok (.istore 6, 2) := by decide +kernel
theorem dL_isWhole_53 : decode cL_isWhole 53 = .ok (.iconst 0, 1) := by decide +kernel
theorem dL_isWhole_54 : decode cL_isWhole 54 = .ok (.istore 7, 2) := by decide +kernel
theorem dL_isWhole_56 : decode cL_isWhole 56 = .ok (.iload 7, 2) := by decide +kernel
theorem dL_isWhole_58 : decode cL_isWhole 58 = .ok (.iload 5, 2) := by decide +kernel
theorem dL_isWhole_60 : decode cL_isWhole 60 = .ok (.if_icmp .ge 290, 3) := by decide +kernel
theorem dL_isWhole_63 : decode cL_isWhole 63 = .ok (.iload 6, 2) := by decide +kernel
theorem dL_isWhole_65 : decode cL_isWhole 65 = .ok (.ifCond .eq 285, 3) := by decide +kernel
theorem dL_isWhole_68 : decode cL_isWhole 68 = .ok (.aload_n 0, 1) := by decide +kernel
theorem dL_isWhole_69 : decode cL_isWhole 69 = .ok (.iload 7, 2) := by decide +kernel
theorem dL_isWhole_71 : decode cL_isWhole 71 = .ok (.iconst 0, 1) := by decide +kernel
theorem dL_isWhole_72 : decode cL_isWhole 72 = .ok (.invokevirtual 20, 3) := by decide +kernel
theorem dL_isWhole_75 : decode cL_isWhole 75 = .ok (.istore 8, 2) := by decide +kernel
theorem dL_isWhole_77 : decode cL_isWhole 77 = .ok (.aload_n 0, 1) := by decide +kernel
theorem dL_isWhole_78 : decode cL_isWhole 78 = .ok (.iload 7, 2) := by decide +kernel
theorem dL_isWhole_80 : decode cL_isWhole 80 = .ok (.iconst 1, 1) := by decide +kernel
theorem dL_isWhole_81 : decode cL_isWhole 81 = .ok (.invokevirtual 20, 3) := by decide +kernel
theorem dL_isWhole_84 : decode cL_isWhole 84 = .ok (.istore 9, 2) := by decide +kernel
theorem dL_isWhole_86 : decode cL_isWhole 86 = .ok (.aload_n 0, 1) := by decide +kernel
theorem dL_isWhole_87 : decode cL_isWhole 87 = .ok (.iload 7, 2) := by decide +kernel
theorem dL_isWhole_89 : decode cL_isWhole 89 = .ok (.iconst 2, 1) := by decide +kernel
theorem dL_isWhole_90 : decode cL_isWhole 90 = .ok (.invokevirtual 20, 3) := by decide +kernel
theorem dL_isWhole_93 : decode cL_isWhole 93 = .ok (.istore 10, 2) := by decide +kernel
theorem dL_isWhole_95 : decode cL_isWhole 95 = .ok (.aload_n 0, 1) := by decide +kernel
theorem dL_isWhole_96 : decode cL_isWhole 96 = .ok (.iload 7, 2) := by decide +kernel
theorem dL_isWhole_98 : decode cL_isWhole 98 = .ok (.bipush 6, 2) := by decide +kernel
theorem dL_isWhole_100 : decode cL_isWhole 100 = .ok (.invokevirtual 20, 3) := by decide +kernel
theorem dL_isWhole_103 : decode cL_isWhole 103 = .ok (.istore 11, 2) := by decide +kernel
theorem dL_isWhole_105 : decode cL_isWhole 105 = .ok (.aload_n 0, 1) := by decide +kernel
theorem dL_isWhole_106 : decode cL_isWhole 106 = .ok (.iload 7, 2) := by decide +kernel
theorem dL_isWhole_108 : decode cL_isWhole 108 = .ok (.bipush 9, 2) := by decide +kernel
theorem dL_isWhole_110 : decode cL_isWhole 110 = .ok (.invokevirtual 20, 3) := by decide +kernel
theorem dL_isWhole_113 : decode cL_isWhole 113 = .ok (.istore 12, 2) := by decide +kernel
theorem dL_isWhole_115 : decode cL_isWhole 115 = .ok (.iload 11, 2) := by decide +kernel
theorem dL_isWhole_117 : decode cL_isWhole 117 = .ok (.ifCond .eq 9, 3) := by decide +kernel
theorem dL_isWhole_120 : decode cL_isWhole 120 = .ok (.iload 11, 2) := by decide +kernel
theorem dL_isWhole_122 : decode cL_isWhole 122 = .ok (.iconst 2, 1) := by decide +kernel
theorem dL_isWhole_123 : decode cL_isWhole 123 = .ok (.if_icmp .ne 7, 3) := by decide +kernel
theorem dL_isWhole_126 : decode cL_isWhole 126 = .ok (.iconst 1, 1) := by decide +kernel
theorem dL_isWhole_127 : decode cL_isWhole 127 = .ok (.goto 4, 3) := by decide +kernel
theorem dL_isWhole_130 : decode cL_isWhole 130 = .ok (.iconst 0, 1) := by decide +kernel
theorem dL_isWhole_131 : decode cL_isWhole 131 = .ok (.istore 13, 2) := by decide +kernel
theorem dL_isWhole_133 : decode cL_isWhole 133 = .ok (.iload 11, 2) := by decide +kernel
theorem dL_isWhole_135 : decode cL_isWhole 135 = .ok (.iconst 1, 1) := by decide +kernel
theorem dL_isWhole_136 : decode cL_isWhole 136 = .ok (.if_icmp .ne 12, 3) := by decide +kernel
theorem dL_isWhole_139 : decode cL_isWhole 139 = .ok (.iload 9, 2) := by decide +kernel
theorem dL_isWhole_141 : decode cL_isWhole 141 = .ok (.ifCond .le 7, 3) := by decide +kernel
theorem dL_isWhole_144 : decode cL_isWhole 144 = .ok (.iconst 1, 1) := by decide +kernel
theorem dL_isWhole_145 : decode cL_isWhole 145 = .ok (.goto 4, 3) := by decide +kernel
theorem dL_isWhole_148 : decode cL_isWhole 148 = .ok (.iconst 0, 1) := by decide +kernel
theorem dL_isWhole_149 : decode cL_isWhole 149 = .ok (.istore 14, 2) := by decide +kernel
theorem dL_isWhole_151 : decode cL_isWhole 151 = .ok (.iload_n 1, 1) := by decide +kernel
theorem dL_isWhole_152 : decode cL_isWhole 152 = .ok (.aload_n 0, 1) := by decide +kernel
theorem dL_isWhole_153 : decode cL_isWhole 153 = .ok (.iload 7, 2) := by decide +kernel
theorem dL_isWhole_155 : decode cL_isWhole 155 = .ok (.iconst 5, 1) := by decide +kernel
theorem dL_isWhole_156 : decode cL_isWhole 156 = .ok (.invokevirtual 20, 3) := by decide +kernel
theorem dL_isWhole_159 : decode cL_isWhole 159 = .ok (.iadd, 1) := by decide +kernel
theorem dL_isWhole_160 : decode cL_isWhole 160 = .ok (.istore_n 1, 1) := by decide +kernel
theorem dL_isWhole_161 : decode cL_isWhole 161 = .ok (.iload_n 2, 1) := by decide +kernel
theorem dL_isWhole_162 : decode cL_isWhole 162 = .ok (.iload 8, 2) := by decide +kernel
theorem dL_isWhole_164 : decode cL_isWhole 164 = .ok (.iadd, 1) := by decide +kernel
theorem dL_isWhole_165 : decode cL_isWhole 165 = .ok (.istore_n 2, 1) := by decide +kernel
theorem dL_isWhole_166 : decode cL_isWhole 166 = .ok (.iload_n 3, 1) := by decide +kernel
theorem dL_isWhole_167 : decode cL_isWhole 167 = .ok (.iload 12, 2) := by decide +kernel
theorem dL_isWhole_169 : decode cL_isWhole 169 = .ok (.iadd, 1) := by decide +kernel
theorem dL_isWhole_170 : decode cL_isWhole 170 = .ok (.istore_n 3, 1) := by decide +kernel
theorem dL_isWhole_171 : decode cL_isWhole 171 = .ok (.iload 4, 2) := by decide +kernel
theorem dL_isWhole_173 : decode cL_isWhole 173 = .ok (.iload 13, 2) := by decide +kernel
theorem dL_isWhole_175 : decode cL_isWhole 175 = .ok (.ifCond .ne 8, 3) := by decide +kernel
theorem dL_isWhole_178 : decode cL_isWhole 178 = .ok (.iload 14, 2) := by decide +kernel
theorem dL_isWhole_180 : decode cL_isWhole 180 = .ok (.ifCond .eq 7, 3) := by decide +kernel
theorem dL_isWhole_183 : decode cL_isWhole 183 = .ok (.iconst 0, 1) := by decide +kernel
theorem dL_isWhole_184 : decode cL_isWhole 184 = .ok (.goto 4, 3) := by decide +kernel
theorem dL_isWhole_187 : decode cL_isWhole 187 = .ok (.iconst 1, 1) := by decide +kernel
theorem dL_isWhole_188 : decode cL_isWhole 188 = .ok (.iadd, 1) := by decide +kernel
theorem dL_isWhole_189 : decode cL_isWhole 189 = .ok (.istore 4, 2) := by decide +kernel
theorem dL_isWhole_191 : decode cL_isWhole 191 = .ok (.iload 8, 2) := by decide +kernel
theorem dL_isWhole_193 : decode cL_isWhole 193 = .ok (.iconst 1, 1) := by decide +kernel
theorem dL_isWhole_194 : decode cL_isWhole 194 = .ok (.if_icmp .le 147, 3) := by decide +kernel
theorem dL_isWhole_197 : decode cL_isWhole 197 = .ok (.iload 8, 2) := by decide +kernel
theorem dL_isWhole_199 : decode cL_isWhole 199 = .ok (.bipush 7, 2) := by decide +kernel
theorem dL_isWhole_201 : decode cL_isWhole 201 = .ok (.if_icmp .ge 140, 3) := by decide +kernel
theorem dL_isWhole_204 : decode cL_isWhole 204 = .ok (.iload 9, 2) := by decide +kernel
theorem dL_isWhole_206 : decode cL_isWhole 206 = .ok (.ifCond .eq 19, 3) := by decide +kernel
theorem dL_isWhole_209 : decode cL_isWhole 209 = .ok (.iload 9, 2) := by decide +kernel
theorem dL_isWhole_211 : decode cL_isWhole 211 = .ok (.iconst 2, 1) := by decide +kernel
theorem dL_isWhole_212 : decode cL_isWhole 212 = .ok (.irem, 1) := by decide +kernel
theorem dL_isWhole_213 : decode cL_isWhole 213 = .ok (.iconst 1, 1) := by decide +kernel
theorem dL_isWhole_214 : decode cL_isWhole 214 = .ok (.if_icmp .ne 127, 3) := by decide +kernel
theorem dL_isWhole_217 : decode cL_isWhole 217 = .ok (.iload 9, 2) := by decide +kernel
theorem dL_isWhole_219 : decode cL_isWhole 219 = .ok (.sipush 254, 3) := by decide +kernel
theorem dL_isWhole_222 : decode cL_isWhole 222 = .ok (.if_icmp .ge 119, 3) := by decide +kernel
theorem dL_isWhole_225 : decode cL_isWhole 225 = .ok (.iload 10, 2) := by decide +kernel
theorem dL_isWhole_227 : decode cL_isWhole 227 = .ok (.ifCond .le 114, 3) := by decide +kernel
theorem dL_isWhole_230 : decode cL_isWhole 230 = .ok (.iload 10, 2) := by decide +kernel
theorem dL_isWhole_232 : decode cL_isWhole 232 = .ok (.bipush 9, 2) := by decide +kernel
theorem dL_isWhole_234 : decode cL_isWhole 234 = .ok (.if_icmp .ge 107, 3) := by decide +kernel
theorem dL_isWhole_237 : decode cL_isWhole 237 = .ok (.iload 12, 2) := by decide +kernel
theorem dL_isWhole_239 : decode cL_isWhole 239 = .ok (.iload 13, 2) := by decide +kernel
theorem dL_isWhole_241 : decode cL_isWhole 241 = .ok (.ifCond .eq 8, 3) := by decide +kernel
theorem dL_isWhole_244 : decode cL_isWhole 244 = .ok (.iload 10, 2) := by decide +kernel
theorem dL_isWhole_246 : decode cL_isWhole 246 = .ok (.goto 14, 3) := by decide +kernel
theorem dL_isWhole_249 : decode cL_isWhole 249 = .ok (.iload 14, 2) := by decide +kernel
theorem dL_isWhole_251 : decode cL_isWhole 251 = .ok (.ifCond .eq 8, 3) := by decide +kernel
theorem dL_isWhole_254 : decode cL_isWhole 254 = .ok (.bipush 8, 2) := by decide +kernel
theorem dL_isWhole_256 : decode cL_isWhole 256 = .ok (.goto 4, 3) := by decide +kernel
theorem dL_isWhole_259 : decode cL_isWhole 259 = .ok (.iconst 1, 1) := by decide +kernel
theorem dL_isWhole_260 : decode cL_isWhole 260 = .ok (.if_icmp .ne 81, 3) := by decide +kernel
theorem dL_isWhole_263 : decode cL_isWhole 263 = .ok (.aload_n 0, 1) := by decide +kernel
theorem dL_isWhole_264 : decode cL_isWhole 264 = .ok (.iload 7, 2) := by decide +kernel
theorem dL_isWhole_266 : decode cL_isWhole 266 = .ok (.iconst 3, 1) := by decide +kernel
theorem dL_isWhole_267 : decode cL_isWhole 267 = .ok (.invokevirtual 20, 3) := by decide +kernel
theorem dL_isWhole_270 : decode cL_isWhole 270 = .ok (.iload 10, 2) := by decide +kernel
theorem dL_isWhole_272 : decode cL_isWhole 272 = .ok (.ishr, 1) := by decide +kernel
theorem dL_isWhole_273 : decode cL_isWhole 273 = .ok (.ifCond .ne 68, 3) := by decide +kernel
theorem dL_isWhole_276 : decode cL_isWhole 276 = .ok (.aload_n 0, 1) := by decide +kernel
theorem dL_isWhole_277 : decode cL_isWhole 277 = .ok (.iload 7, 2) := by decide +kernel
theorem dL_isWhole_279 : decode cL_isWhole 279 = .ok (.iconst 4, 1) := by decide +kernel
theorem dL_isWhole_280 : decode cL_isWhole 280 = .ok (.invokevirtual 20, 3) := by decide +kernel
theorem dL_isWhole_283 : decode cL_isWhole 283 = .ok (.iload 10, 2) := by decide +kernel
theorem dL_isWhole_285 : decode cL_isWhole 285 = .ok (.ishr, 1) := by decide +kernel
theorem dL_isWhole_286 : decode cL_isWhole 286 = .ok (.ifCond .ne 55, 3) := by decide +kernel
theorem dL_isWhole_289 : decode cL_isWhole 289 = .ok (.iload 11, 2) := by decide +kernel
theorem dL_isWhole_291 : decode cL_isWhole 291 = .ok (.iload 8, 2) := by decide +kernel
theorem dL_isWhole_293 : decode cL_isWhole 293 = .ok (.ishr, 1) := by decide +kernel
theorem dL_isWhole_294 : decode cL_isWhole 294 = .ok (.ifCond .ne 47, 3) := by decide +kernel
theorem dL_isWhole_297 : decode cL_isWhole 297 = .ok (.aload_n 0, 1) := by decide +kernel
theorem dL_isWhole_298 : decode cL_isWhole 298 = .ok (.iload 7, 2) := by decide +kernel
theorem dL_isWhole_300 : decode cL_isWhole 300 = .ok (.bipush 7, 2) := by decide +kernel
theorem dL_isWhole_302 : decode cL_isWhole 302 = .ok (.invokevirtual 20, 3) := by decide +kernel
theorem dL_isWhole_305 : decode cL_isWhole 305 = .ok (.iload 8, 2) := by decide +kernel
theorem dL_isWhole_307 : decode cL_isWhole 307 = .ok (.ishr, 1) := by decide +kernel
theorem dL_isWhole_308 : decode cL_isWhole 308 = .ok (.ifCond .ne 33, 3) := by decide +kernel
theorem dL_isWhole_311 : decode cL_isWhole 311 = .ok (.aload_n 0, 1) := by decide +kernel
theorem dL_isWhole_312 : decode cL_isWhole 312 = .ok (.iload 7, 2) := by decide +kernel
theorem dL_isWhole_314 : decode cL_isWhole 314 = .ok (.bipush 8, 2) := by decide +kernel
theorem dL_isWhole_316 : decode cL_isWhole 316 = .ok (.invokevirtual 20, 3) := by decide +kernel
theorem dL_isWhole_319 : decode cL_isWhole 319 = .ok (.iload 12, 2) := by decide +kernel
theorem dL_isWhole_321 : decode cL_isWhole 321 = .ok (.ishr, 1) := by decide +kernel
theorem dL_isWhole_322 : decode cL_isWhole 322 = .ok (.ifCond .ne 19, 3) := by decide +kernel
theorem dL_isWhole_325 : decode cL_isWhole 325 = .ok (.aload_n 0, 1) := by decide +kernel
theorem dL_isWhole_326 : decode cL_isWhole 326 = .ok (.iload 7, 2) := by decide +kernel
theorem dL_isWhole_328 : decode cL_isWhole 328 = .ok (.iconst 5, 1) := by decide +kernel
theorem dL_isWhole_329 : decode cL_isWhole 329 = .ok (.invokevirtual 20, 3) := by decide +kernel
theorem dL_isWhole_332 : decode cL_isWhole 332 = .ok (.iconst 1, 1) := by decide +kernel
theorem dL_isWhole_333 : decode cL_isWhole 333 = .ok (.ishr, 1) := by decide +kernel
theorem dL_isWhole_334 : decode cL_isWhole 334 = .ok (.ifCond .ne 7, 3) := by decide +kernel
theorem dL_isWhole_337 : decode cL_isWhole 337 = .ok (.iconst 1, 1) := by decide +kernel
theorem dL_isWhole_338 : decode cL_isWhole 338 = .ok (.goto 4, 3) := by decide +kernel
theorem dL_isWhole_341 : decode cL_isWhole 341 = .ok (.iconst 0, 1) := by decide +kernel
theorem dL_isWhole_342 : decode cL_isWhole 342 = .ok (.istore 6, 2) := by decide +kernel
theorem dL_isWhole_344 : decode cL_isWhole 344 = .ok (.iinc 7 1, 3) := by decide +kernel
theorem dL_isWhole_347 : decode cL_isWhole 347 = .ok (.goto (-291), 3) := by decide +kernel
theorem dL_isWhole_350 : decode cL_isWhole 350 = .ok (.aload_n 0, 1) := by decide +kernel
theorem dL_isWhole_351 : decode cL_isWhole 351 = .ok (.iconst 2, 1) := by decide +kernel
theorem dL_isWhole_352 : decode cL_isWhole 352 = .ok (.invokevirtual 14, 3) := by decide +kernel
theorem dL_isWhole_355 : decode cL_isWhole 355 = .ok (.istore 7, 2) := by decide +kernel
theorem dL_isWhole_357 : decode cL_isWhole 357 = .ok (.iload 5, 2) := by decide +kernel
theorem dL_isWhole_359 : decode cL_isWhole 359 = .ok (.ifCond .ne 7, 3) := by decide +kernel
theorem dL_isWhole_362 : decode cL_isWhole 362 = .ok (.iconst 0, 1) := by decide +kernel
theorem dL_isWhole_363 : decode cL_isWhole 363 = .ok (.goto 53, 3) := by decide +kernel
theorem dL_isWhole_366 : decode cL_isWhole 366 = .ok (.aload_n 0, 1) := by decide +kernel
theorem dL_isWhole_367 : decode cL_isWhole 367 = .ok (.iload 5, 2) := by decide +kernel
theorem dL_isWhole_369 : decode cL_isWhole 369 = .ok (.iconst 1, 1) := by decide +kernel
theorem dL_isWhole_370 : decode cL_isWhole 370 = .ok (.isub, 1) := by decide +kernel
theorem dL_isWhole_371 : decode cL_isWhole 371 = .ok (.iconst 5, 1) := by decide +kernel
theorem dL_isWhole_372 : decode cL_isWhole 372 = .ok (.invokevirtual 20, 3) := by decide +kernel
theorem dL_isWhole_375 : decode cL_isWhole 375 = .ok (.iconst 1, 1) := by decide +kernel
theorem dL_isWhole_376 : decode cL_isWhole 376 = .ok (.if_icmp .ne 7, 3) := by decide +kernel
theorem dL_isWhole_379 : decode cL_isWhole 379 = .ok (.iconst 1, 1) := by decide +kernel
theorem dL_isWhole_380 : decode cL_isWhole 380 = .ok (.goto 36, 3) := by decide +kernel
theorem dL_isWhole_383 : decode cL_isWhole 383 = .ok (.iload 7, 2) := by decide +kernel
theorem dL_isWhole_385 : decode cL_isWhole 385 = .ok (.iconst 4, 1) := by decide +kernel
theorem dL_isWhole_386 : decode cL_isWhole 386 = .ok (.if_icmp .ne 18, 3) := by decide +kernel
theorem dL_isWhole_389 : decode cL_isWhole 389 = .ok (.aload_n 0, 1) := by decide +kernel
theorem dL_isWhole_390 : decode cL_isWhole 390 = .ok (.iload 5, 2) := by decide +kernel
theorem dL_isWhole_392 : decode cL_isWhole 392 = .ok (.iconst 1, 1) := by decide +kernel
theorem dL_isWhole_393 : decode cL_isWhole 393 = .ok (.isub, 1) := by decide +kernel
theorem dL_isWhole_394 : decode cL_isWhole 394 = .ok (.bipush 8, 2) := by decide +kernel
theorem dL_isWhole_396 : decode cL_isWhole 396 = .ok (.invokevirtual 20, 3) := by decide +kernel
theorem dL_isWhole_399 : decode cL_isWhole 399 = .ok (.iconst 2, 1) := by decide +kernel
theorem dL_isWhole_400 : decode cL_isWhole 400 = .ok (.irem, 1) := by decide +kernel
theorem dL_isWhole_401 : decode cL_isWhole 401 = .ok (.goto 15, 3) := by decide +kernel
theorem dL_isWhole_404 : decode cL_isWhole 404 = .ok (.aload_n 0, 1) := by decide +kernel
theorem dL_isWhole_405 : decode cL_isWhole 405 = .ok (.iload 5, 2) := by decide +kernel
theorem dL_isWhole_407 : decode cL_isWhole 407 = .ok (.iconst 1, 1) := by decide +kernel
theorem dL_isWhole_408 : decode cL_isWhole 408 = .ok (.isub, 1) := by decide +kernel
theorem dL_isWhole_409 : decode cL_isWhole 409 = .ok (.bipush 7, 2) := by decide +kernel
theorem dL_isWhole_411 : decode cL_isWhole 411 = .ok (.invokevirtual 20, 3) := by decide +kernel
theorem dL_isWhole_414 : decode cL_isWhole 414 = .ok (.iconst 2, 1) := by decide +kernel
theorem dL_isWhole_415 : decode cL_isWhole 415 = .ok (.irem, 1) := by decide +kernel
theorem dL_isWhole_416 : decode cL_isWhole 416 = .ok (.istore 8, 2) := by decide +kernel
theorem dL_isWhole_418 : decode cL_isWhole 418 = .ok (.iload 7, 2) := by decide +kernel
theorem dL_isWhole_420 : decode cL_isWhole 420 = .ok (.iconst 4, 1) := by decide +kernel
theorem dL_isWhole_421 : decode cL_isWhole 421 = .ok (.if_icmp .eq 10, 3) := by decide +kernel
theorem dL_isWhole_424 : decode cL_isWhole 424 = .ok (.iload 7, 2) := by decide +kernel
theorem dL_isWhole_426 : decode cL_isWhole 426 = .ok (.bipush 11, 2) := by decide +kernel
theorem dL_isWhole_428 : decode cL_isWhole 428 = .ok (.if_icmp .ne 7, 3) := by decide +kernel
theorem dL_isWhole_431 : decode cL_isWhole 431 = .ok (.iconst 1, 1) := by decide +kernel
theorem dL_isWhole_432 : decode cL_isWhole 432 = .ok (.goto 4, 3) := by decide +kernel
theorem dL_isWhole_435 : decode cL_isWhole 435 = .ok (.iconst 0, 1) := by decide +kernel
theorem dL_isWhole_436 : decode cL_isWhole 436 = .ok (.istore 9, 2) := by decide +kernel
theorem dL_isWhole_438 : decode cL_isWhole 438 = .ok (.iload 6, 2) := by decide +kernel
theorem dL_isWhole_440 : decode cL_isWhole 440 = .ok (.ifCond .eq 59, 3) := by decide +kernel
theorem dL_isWhole_443 : decode cL_isWhole 443 = .ok (.aload_n 0, 1) := by decide +kernel
theorem dL_isWhole_444 : decode cL_isWhole 444 = .ok (.iconst 0, 1) := by decide +kernel
theorem dL_isWhole_445 : decode cL_isWhole 445 = .ok (.invokevirtual 27, 3) := by decide +kernel
theorem dL_isWhole_448 : decode cL_isWhole 448 = .ok (.iload 9, 2) := by decide +kernel
theorem dL_isWhole_450 : decode cL_isWhole 450 = .ok (.ifCond .ne 7, 3) := by decide +kernel
theorem dL_isWhole_453 : decode cL_isWhole 453 = .ok (.iconst 1, 1) := by decide +kernel
theorem dL_isWhole_454 : decode cL_isWhole 454 = .ok (.goto 14, 3) := by decide +kernel
theorem dL_isWhole_457 : decode cL_isWhole 457 = .ok (.iload 5, 2) := by decide +kernel
theorem dL_isWhole_459 : decode cL_isWhole 459 = .ok (.ifCond .ne 7, 3) := by decide +kernel
theorem dL_isWhole_462 : decode cL_isWhole 462 = .ok (.iconst 0, 1) := by decide +kernel
theorem dL_isWhole_463 : decode cL_isWhole 463 = .ok (.goto 5, 3) := by decide +kernel
theorem dL_isWhole_466 : decode cL_isWhole 466 = .ok (.iload 8, 2) := by decide +kernel
theorem dL_isWhole_468 : decode cL_isWhole 468 = .ok (.if_icmp .ne 31, 3) := by decide +kernel
theorem dL_isWhole_471 : decode cL_isWhole 471 = .ok (.aload_n 0, 1) := by decide +kernel
theorem dL_isWhole_472 : decode cL_isWhole 472 = .ok (.iconst 1, 1) := by decide +kernel
theorem dL_isWhole_473 : decode cL_isWhole 473 = .ok (.invokevirtual 27, 3) := by decide +kernel
theorem dL_isWhole_476 : decode cL_isWhole 476 = .ok (.iload 9, 2) := by decide +kernel
theorem dL_isWhole_478 : decode cL_isWhole 478 = .ok (.ifCond .eq 8, 3) := by decide +kernel
theorem dL_isWhole_481 : decode cL_isWhole 481 = .ok (.iload 5, 2) := by decide +kernel
theorem dL_isWhole_483 : decode cL_isWhole 483 = .ok (.ifCond .ne 7, 3) := by decide +kernel
theorem dL_isWhole_486 : decode cL_isWhole 486 = .ok (.iconst 1, 1) := by decide +kernel
theorem dL_isWhole_487 : decode cL_isWhole 487 = .ok (.goto 5, 3) := by decide +kernel
theorem dL_isWhole_490 : decode cL_isWhole 490 = .ok (.iload 8, 2) := by decide +kernel
theorem dL_isWhole_492 : decode cL_isWhole 492 = .ok (.if_icmp .ne 7, 3) := by decide +kernel
theorem dL_isWhole_495 : decode cL_isWhole 495 = .ok (.iconst 1, 1) := by decide +kernel
theorem dL_isWhole_496 : decode cL_isWhole 496 = .ok (.goto 4, 3) := by decide +kernel
theorem dL_isWhole_499 : decode cL_isWhole 499 = .ok (.iconst 0, 1) := by decide +kernel
theorem dL_isWhole_500 : decode cL_isWhole 500 = .ok (.istore 6, 2) := by decide +kernel
theorem dL_isWhole_502 : decode cL_isWhole 502 = .ok (.iconst 0, 1) := by decide +kernel
theorem dL_isWhole_503 : decode cL_isWhole 503 = .ok (.istore 10, 2) := by decide +kernel
theorem dL_isWhole_505 : decode cL_isWhole 505 = .ok (.iload 10, 2) := by decide +kernel
theorem dL_isWhole_507 : decode cL_isWhole 507 = .ok (.aload_n 0, 1) := by decide +kernel
theorem dL_isWhole_508 : decode cL_isWhole 508 = .ok (.bipush 6, 2) := by decide +kernel
theorem dL_isWhole_510 : decode cL_isWhole 510 = .ok (.invokevirtual 14, 3) := by decide +kernel
theorem dL_isWhole_513 : decode cL_isWhole 513 = .ok (.if_icmp .ge 54, 3) := by decide +kernel
theorem dL_isWhole_516 : decode cL_isWhole 516 = .ok (.iload 6, 2) := by decide +kernel
theorem dL_isWhole_518 : decode cL_isWhole 518 = .ok (.ifCond .eq 49, 3) := by decide +kernel
theorem dL_isWhole_521 : decode cL_isWhole 521 = .ok (.aload_n 0, 1) := by decide +kernel
theorem dL_isWhole_522 : decode cL_isWhole 522 = .ok (.iload 10, 2) := by decide +kernel
theorem dL_isWhole_524 : decode cL_isWhole 524 = .ok (.invokevirtual 24, 3) := by decide +kernel
theorem dL_isWhole_527 : decode cL_isWhole 527 = .ok (.ifCond .eq 27, 3) := by decide +kernel
theorem dL_isWhole_530 : decode cL_isWhole 530 = .ok (.aload_n 0, 1) := by decide +kernel
theorem dL_isWhole_531 : decode cL_isWhole 531 = .ok (.iload 10, 2) := by decide +kernel
theorem dL_isWhole_533 : decode cL_isWhole 533 = .ok (.invokevirtual 24, 3) := by decide +kernel
theorem dL_isWhole_536 : decode cL_isWhole 536 = .ok (.iconst 2, 1) := by decide +kernel
theorem dL_isWhole_537 : decode cL_isWhole 537 = .ok (.irem, 1) := by decide +kernel
theorem dL_isWhole_538 : decode cL_isWhole 538 = .ok (.iconst 1, 1) := by decide +kernel
theorem dL_isWhole_539 : decode cL_isWhole 539 = .ok (.if_icmp .ne 19, 3) := by decide +kernel
theorem dL_isWhole_542 : decode cL_isWhole 542 = .ok (.aload_n 0, 1) := by decide +kernel
theorem dL_isWhole_543 : decode cL_isWhole 543 = .ok (.iload 10, 2) := by decide +kernel
theorem dL_isWhole_545 : decode cL_isWhole 545 = .ok (.invokevirtual 24, 3) := by decide +kernel
theorem dL_isWhole_548 : decode cL_isWhole 548 = .ok (.sipush 255, 3) := by decide +kernel
theorem dL_isWhole_551 : decode cL_isWhole 551 = .ok (.if_icmp .ge 7, 3) := by decide +kernel
theorem dL_isWhole_554 : decode cL_isWhole 554 = .ok (.iconst 1, 1) := by decide +kernel
theorem dL_isWhole_555 : decode cL_isWhole 555 = .ok (.goto 4, 3) := by decide +kernel
theorem dL_isWhole_558 : decode cL_isWhole 558 = .ok (.iconst 0, 1) := by decide +kernel
theorem dL_isWhole_559 : decode cL_isWhole 559 = .ok (.istore 6, 2) := by decide +kernel
theorem dL_isWhole_561 : decode cL_isWhole 561 = .ok (.iinc 10 1, 3) := by decide +kernel
theorem dL_isWhole_564 : decode cL_isWhole 564 = .ok (.goto (-59), 3) := by decide +kernel
theorem dL_isWhole_567 : decode cL_isWhole 567 = .ok (.iload 6, 2) := by decide +kernel
theorem dL_isWhole_569 : decode cL_isWhole 569 = .ok (.ifCond .eq 136, 3) := by decide +kernel
theorem dL_isWhole_572 : decode cL_isWhole 572 = .ok (.aload_n 0, 1) := by decide +kernel
theorem dL_isWhole_573 : decode cL_isWhole 573 = .ok (.bipush 6, 2) := by decide +kernel
theorem dL_isWhole_575 : decode cL_isWhole 575 = .ok (.invokevirtual 14, 3) := by decide +kernel
theorem dL_isWhole_578 : decode cL_isWhole 578 = .ok (.bipush 9, 2) := by decide +kernel
theorem dL_isWhole_580 : decode cL_isWhole 580 = .ok (.if_icmp .ge 125, 3) := by decide +kernel
theorem dL_isWhole_583 : decode cL_isWhole 583 = .ok (.iload_n 1, 1) := by decide +kernel
theorem dL_isWhole_584 : decode cL_isWhole 584 = .ok (.aload_n 0, 1) := by decide +kernel
theorem dL_isWhole_585 : decode cL_isWhole 585 = .ok (.iconst 1, 1) := by decide +kernel
theorem dL_isWhole_586 : decode cL_isWhole 586 = .ok (.invokevirtual 14, 3) := by decide +kernel
theorem dL_isWhole_589 : decode cL_isWhole 589 = .ok (.if_icmp .ne 116, 3) := by decide +kernel
theorem dL_isWhole_592 : decode cL_isWhole 592 = .ok (.iload_n 2, 1) := by decide +kernel
theorem dL_isWhole_593 : decode cL_isWhole 593 = .ok (.aload_n 0, 1) := by decide +kernel
theorem dL_isWhole_594 : decode cL_isWhole 594 = .ok (.iconst 4, 1) := by decide +kernel
theorem dL_isWhole_595 : decode cL_isWhole 595 = .ok (.invokevirtual 14, 3) := by decide +kernel
theorem dL_isWhole_598 : decode cL_isWhole 598 = .ok (.if_icmp .ne 107, 3) := by decide +kernel
theorem dL_isWhole_601 : decode cL_isWhole 601 = .ok (.iload_n 3, 1) := by decide +kernel
theorem dL_isWhole_602 : decode cL_isWhole 602 = .ok (.aload_n 0, 1) := by decide +kernel
theorem dL_isWhole_603 : decode cL_isWhole 603 = .ok (.iconst 5, 1) := by decide +kernel
theorem dL_isWhole_604 : decode cL_isWhole 604 = .ok (.invokevirtual 14, 3) := by decide +kernel
theorem dL_isWhole_607 : decode cL_isWhole 607 = .ok (.if_icmp .ne 98, 3) := by decide +kernel
theorem dL_isWhole_610 : decode cL_isWhole 610 = .ok (.iload 5, 2) := by decide +kernel
theorem dL_isWhole_612 : decode cL_isWhole 612 = .ok (.ifCond .ne 15, 3) := by decide +kernel
theorem dL_isWhole_615 : decode cL_isWhole 615 = .ok (.aload_n 0, 1) := by decide +kernel
theorem dL_isWhole_616 : decode cL_isWhole 616 = .ok (.invokevirtual 30, 3) := by decide +kernel
theorem dL_isWhole_619 : decode cL_isWhole 619 = .ok (.fconst 0, 1) := by decide +kernel
theorem dL_isWhole_620 : decode cL_isWhole 620 = .ok (.fcmp .l, 1) := by decide +kernel
theorem dL_isWhole_621 : decode cL_isWhole 621 = .ok (.ifCond .ne 84, 3) := by decide +kernel
theorem dL_isWhole_624 : decode cL_isWhole 624 = .ok (.goto 77, 3) := by decide +kernel
theorem dL_isWhole_627 : decode cL_isWhole 627 = .ok (.aload_n 0, 1) := by decide +kernel
theorem dL_isWhole_628 : decode cL_isWhole 628 = .ok (.invokevirtual 30, 3) := by decide +kernel
theorem dL_isWhole_631 : decode cL_isWhole 631 = .ok (.fconst 0, 1) := by decide +kernel
theorem dL_isWhole_632 : decode cL_isWhole 632 = .ok (.fcmp .l, 1) := by decide +kernel
theorem dL_isWhole_633 : decode cL_isWhole 633 = .ok (.ifCond .lt 72, 3) := by decide +kernel
theorem dL_isWhole_636 : decode cL_isWhole 636 = .ok (.aload_n 0, 1) := by decide +kernel
theorem dL_isWhole_637 : decode cL_isWhole 637 = .ok (.invokevirtual 30, 3) := by decide +kernel
theorem dL_isWhole_640 : decode cL_isWhole 640 = .ok (.fconst 1, 1) := by decide +kernel
theorem dL_isWhole_641 : decode cL_isWhole 641 = .ok (.fcmp .g, 1) := by decide +kernel
theorem dL_isWhole_642 : decode cL_isWhole 642 = .ok (.ifCond .gt 63, 3) := by decide +kernel
theorem dL_isWhole_645 : decode cL_isWhole 645 = .ok (.aload_n 0, 1) := by decide +kernel
theorem dL_isWhole_646 : decode cL_isWhole 646 = .ok (.invokevirtual 30, 3) := by decide +kernel
theorem dL_isWhole_649 : decode cL_isWhole 649 = .ok (.fconst 0, 1) := by decide +kernel
theorem dL_isWhole_650 : decode cL_isWhole 650 = .ok (.fcmp .l, 1) := by decide +kernel
theorem dL_isWhole_651 : decode cL_isWhole 651 = .ok (.ifCond .ne 7, 3) := by decide +kernel
theorem dL_isWhole_654 : decode cL_isWhole 654 = .ok (.iconst 1, 1) := by decide +kernel
theorem dL_isWhole_655 : decode cL_isWhole 655 = .ok (.goto 4, 3) := by decide +kernel
theorem dL_isWhole_658 : decode cL_isWhole 658 = .ok (.iconst 0, 1) := by decide +kernel
theorem dL_isWhole_659 : decode cL_isWhole 659 = .ok (.iload 4, 2) := by decide +kernel
theorem dL_isWhole_661 : decode cL_isWhole 661 = .ok (.ifCond .ne 7, 3) := by decide +kernel
theorem dL_isWhole_664 : decode cL_isWhole 664 = .ok (.iconst 1, 1) := by decide +kernel
theorem dL_isWhole_665 : decode cL_isWhole 665 = .ok (.goto 4, 3) := by decide +kernel
theorem dL_isWhole_668 : decode cL_isWhole 668 = .ok (.iconst 0, 1) := by decide +kernel
theorem dL_isWhole_669 : decode cL_isWhole 669 = .ok (.if_icmp .ne 36, 3) := by decide +kernel
theorem dL_isWhole_672 : decode cL_isWhole 672 = .ok (.aload_n 0, 1) := by decide +kernel
theorem dL_isWhole_673 : decode cL_isWhole 673 = .ok (.invokevirtual 30, 3) := by decide +kernel
theorem dL_isWhole_676 : decode cL_isWhole 676 = .ok (.fconst 1, 1) := by decide +kernel
theorem dL_isWhole_677 : decode cL_isWhole 677 = .ok (.fcmp .l, 1) := by decide +kernel
theorem dL_isWhole_678 : decode cL_isWhole 678 = .ok (.ifCond .ne 7, 3) := by decide +kernel
theorem dL_isWhole_681 : decode cL_isWhole 681 = .ok (.iconst 1, 1) := by decide +kernel
theorem dL_isWhole_682 : decode cL_isWhole 682 = .ok (.goto 4, 3) := by decide +kernel
theorem dL_isWhole_685 : decode cL_isWhole 685 = .ok (.iconst 0, 1) := by decide +kernel
theorem dL_isWhole_686 : decode cL_isWhole 686 = .ok (.iload 4, 2) := by decide +kernel
theorem dL_isWhole_688 : decode cL_isWhole 688 = .ok (.iload 5, 2) := by decide +kernel
theorem dL_isWhole_690 : decode cL_isWhole 690 = .ok (.if_icmp .ne 7, 3) := by decide +kernel
theorem dL_isWhole_693 : decode cL_isWhole 693 = .ok (.iconst 1, 1) := by decide +kernel
theorem dL_isWhole_694 : decode cL_isWhole 694 = .ok (.goto 4, 3) := by decide +kernel
theorem dL_isWhole_697 : decode cL_isWhole 697 = .ok (.iconst 0, 1) := by decide +kernel
theorem dL_isWhole_698 : decode cL_isWhole 698 = .ok (.if_icmp .ne 7, 3) := by decide +kernel
theorem dL_isWhole_701 : decode cL_isWhole 701 = .ok (.iconst 1, 1) := by decide +kernel
theorem dL_isWhole_702 : decode cL_isWhole 702 = .ok (.goto 4, 3) := by decide +kernel
theorem dL_isWhole_705 : decode cL_isWhole 705 = .ok (.iconst 0, 1) := by decide +kernel
theorem dL_isWhole_706 : decode cL_isWhole 706 = .ok (.ireturn, 1) := by decide +kernel
theorem dL_refusesAny_0 : decode cL_refusesAny 0 = .ok (.iload_n 1, 1) := by decide +kernel
theorem dL_refusesAny_1 : decode cL_refusesAny 1 = .ok (.iconst 2, 1) := by decide +kernel
theorem dL_refusesAny_2 : decode cL_refusesAny 2 = .ok (.irem, 1) := by decide +kernel
theorem dL_refusesAny_3 : decode cL_refusesAny 3 = .ok (.ifCond .ne 12, 3) := by decide +kernel
theorem dL_refusesAny_6 : decode cL_refusesAny 6 = .ok (.iconst (-1), 1) := by decide +kernel
theorem dL_refusesAny_7 : decode cL_refusesAny 7 = .ok (.iload_n 1, 1) := by decide +kernel
theorem dL_refusesAny_8 : decode cL_refusesAny 8 = .ok (.bipush 99, 2) := by decide +kernel
theorem dL_refusesAny_10 : decode cL_refusesAny 10 = .ok (.irem, 1) := by decide +kernel
theorem dL_refusesAny_11 : decode cL_refusesAny 11 = .ok (.isub, 1) := by decide +kernel
theorem dL_refusesAny_12 : decode cL_refusesAny 12 = .ok (.goto 10, 3) := by decide +kernel
theorem dL_refusesAny_15 : decode cL_refusesAny 15 = .ok (.bipush 6, 2) := by decide +kernel
theorem dL_refusesAny_17 : decode cL_refusesAny 17 = .ok (.iload_n 1, 1) := by decide +kernel
theorem dL_refusesAny_18 : decode cL_refusesAny 18 = .ok (.bipush 99, 2) := by decide +kernel
theorem dL_refusesAny_20 : decode cL_refusesAny 20 = .ok (.irem, 1) := by decide +kernel
theorem dL_refusesAny_21 : decode cL_refusesAny 21 = .ok (.iadd, 1) := by decide +kernel
theorem dL_refusesAny_22 : decode cL_refusesAny 22 = .ok (.istore_n 2, 1) := by decide +kernel
theorem dL_refusesAny_23 : decode cL_refusesAny 23 = .ok (.iload_n 1, 1) := by decide +kernel
theorem dL_refusesAny_24 : decode cL_refusesAny 24 = .ok (.iconst 2, 1) := by decide +kernel
theorem dL_refusesAny_25 : decode cL_refusesAny 25 = .ok (.irem, 1) := by decide +kernel
theorem dL_refusesAny_26 : decode cL_refusesAny 26 = .ok (.ifCond .ne 12, 3) := by decide +kernel
theorem dL_refusesAny_29 : decode cL_refusesAny 29 = .ok (.iconst (-1), 1) := by decide +kernel
theorem dL_refusesAny_30 : decode cL_refusesAny 30 = .ok (.iload_n 1, 1) := by decide +kernel
theorem dL_refusesAny_31 : decode cL_refusesAny 31 = .ok (.bipush 99, 2) := by decide +kernel
theorem dL_refusesAny_33 : decode cL_refusesAny 33 = .ok (.irem, 1) := by decide +kernel
theorem dL_refusesAny_34 : decode cL_refusesAny 34 = .ok (.isub, 1) := by decide +kernel
theorem dL_refusesAny_35 : decode cL_refusesAny 35 = .ok (.goto 11, 3) := by decide +kernel
theorem dL_refusesAny_38 : decode cL_refusesAny 38 = .ok (.sipush 256, 3) := by decide +kernel
theorem dL_refusesAny_41 : decode cL_refusesAny 41 = .ok (.iload_n 1, 1) := by decide +kernel
theorem dL_refusesAny_42 : decode cL_refusesAny 42 = .ok (.bipush 99, 2) := by decide +kernel
theorem dL_refusesAny_44 : decode cL_refusesAny 44 = .ok (.irem, 1) := by decide +kernel
theorem dL_refusesAny_45 : decode cL_refusesAny 45 = .ok (.iadd, 1) := by decide +kernel
theorem dL_refusesAny_46 : decode cL_refusesAny 46 = .ok (.istore_n 3, 1) := by decide +kernel
theorem dL_refusesAny_47 : decode cL_refusesAny 47 = .ok (.iload_n 1, 1) := by decide +kernel
theorem dL_refusesAny_48 : decode cL_refusesAny 48 = .ok (.iconst 2, 1) := by decide +kernel
theorem dL_refusesAny_49 : decode cL_refusesAny 49 = .ok (.irem, 1) := by decide +kernel
theorem dL_refusesAny_50 : decode cL_refusesAny 50 = .ok (.ifCond .ne 12, 3) := by decide +kernel
theorem dL_refusesAny_53 : decode cL_refusesAny 53 = .ok (.iconst (-1), 1) := by decide +kernel
theorem dL_refusesAny_54 : decode cL_refusesAny 54 = .ok (.iload_n 1, 1) := by decide +kernel
theorem dL_refusesAny_55 : decode cL_refusesAny 55 = .ok (.bipush 99, 2) := by decide +kernel
theorem dL_refusesAny_57 : decode cL_refusesAny 57 = .ok (.irem, 1) := by decide +kernel
theorem dL_refusesAny_58 : decode cL_refusesAny 58 = .ok (.isub, 1) := by decide +kernel
theorem dL_refusesAny_59 : decode cL_refusesAny 59 = .ok (.goto 9, 3) := by decide +kernel
theorem dL_refusesAny_62 : decode cL_refusesAny 62 = .ok (.iconst 2, 1) := by decide +kernel
theorem dL_refusesAny_63 : decode cL_refusesAny 63 = .ok (.iload_n 1, 1) := by decide +kernel
theorem dL_refusesAny_64 : decode cL_refusesAny 64 = .ok (.bipush 99, 2) := by decide +kernel
theorem dL_refusesAny_66 : decode cL_refusesAny 66 = .ok (.irem, 1) := by decide +kernel
theorem dL_refusesAny_67 : decode cL_refusesAny 67 = .ok (.iadd, 1) := by decide +kernel
theorem dL_refusesAny_68 : decode cL_refusesAny 68 = .ok (.istore 4, 2) := by decide +kernel
theorem dL_refusesAny_70 : decode cL_refusesAny 70 = .ok (.iload_n 1, 1) := by decide +kernel
theorem dL_refusesAny_71 : decode cL_refusesAny 71 = .ok (.iconst 2, 1) := by decide +kernel
theorem dL_refusesAny_72 : decode cL_refusesAny 72 = .ok (.irem, 1) := by decide +kernel
theorem dL_refusesAny_73 : decode cL_refusesAny 73 = .ok (.ifCond .ne 12, 3) := by decide +kernel
theorem dL_refusesAny_76 : decode cL_refusesAny 76 = .ok (.iconst (-1), 1) := by decide +kernel
theorem dL_refusesAny_77 : decode cL_refusesAny 77 = .ok (.iload_n 1, 1) := by decide +kernel
theorem dL_refusesAny_78 : decode cL_refusesAny 78 = .ok (.bipush 99, 2) := by decide +kernel
theorem dL_refusesAny_80 : decode cL_refusesAny 80 = .ok (.irem, 1) := by decide +kernel
theorem dL_refusesAny_81 : decode cL_refusesAny 81 = .ok (.isub, 1) := by decide +kernel
theorem dL_refusesAny_82 : decode cL_refusesAny 82 = .ok (.goto 10, 3) := by decide +kernel
theorem dL_refusesAny_85 : decode cL_refusesAny 85 = .ok (.bipush 16, 2) := by decide +kernel
theorem dL_refusesAny_87 : decode cL_refusesAny 87 = .ok (.iload_n 1, 1) := by decide +kernel
theorem dL_refusesAny_88 : decode cL_refusesAny 88 = .ok (.bipush 99, 2) := by decide +kernel
theorem dL_refusesAny_90 : decode cL_refusesAny 90 = .ok (.irem, 1) := by decide +kernel
theorem dL_refusesAny_91 : decode cL_refusesAny 91 = .ok (.iadd, 1) := by decide +kernel
theorem dL_refusesAny_92 : decode cL_refusesAny 92 = .ok (.istore 5, 2) := by decide +kernel
theorem dL_refusesAny_94 : decode cL_refusesAny 94 = .ok (.aload_n 0, 1) := by decide +kernel
theorem dL_refusesAny_95 : decode cL_refusesAny 95 = .ok (.iload_n 1, 1) := by decide +kernel
theorem dL_refusesAny_96 : decode cL_refusesAny 96 = .ok (.iconst 2, 1) := by decide +kernel
theorem dL_refusesAny_97 : decode cL_refusesAny 97 = .ok (.irem, 1) := by decide +kernel
theorem dL_refusesAny_98 : decode cL_refusesAny 98 = .ok (.ifCond .ne 7, 3) := by decide +kernel
theorem dL_refusesAny_101 : decode cL_refusesAny 101 = .ok (.iconst 1, 1) := by decide +kernel
theorem dL_refusesAny_102 : decode cL_refusesAny 102 = .ok (.goto 5, 3) := by decide +kernel
theorem dL_refusesAny_105 : decode cL_refusesAny 105 = .ok (.bipush 7, 2) := by decide +kernel
theorem dL_refusesAny_107 : decode cL_refusesAny 107 = .ok (.iconst 0, 1) := by decide +kernel
theorem dL_refusesAny_108 : decode cL_refusesAny 108 = .ok (.iconst 1, 1) := by decide +kernel
theorem dL_refusesAny_109 : decode cL_refusesAny 109 = .ok (.invokevirtual 34, 3) := by decide +kernel
theorem dL_refusesAny_112 : decode cL_refusesAny 112 = .ok (.bipush (-2), 2) := by decide +kernel
theorem dL_refusesAny_114 : decode cL_refusesAny 114 = .ok (.if_icmp .ne 260, 3) := by decide +kernel
theorem dL_refusesAny_117 : decode cL_refusesAny 117 = .ok (.aload_n 0, 1) := by decide +kernel
theorem dL_refusesAny_118 : decode cL_refusesAny 118 = .ok (.iconst 2, 1) := by decide +kernel
theorem dL_refusesAny_119 : decode cL_refusesAny 119 = .ok (.iload_n 1, 1) := by decide +kernel
theorem dL_refusesAny_120 : decode cL_refusesAny 120 = .ok (.iconst 3, 1) := by decide +kernel
theorem dL_refusesAny_121 : decode cL_refusesAny 121 = .ok (.irem, 1) := by decide +kernel
theorem dL_refusesAny_122 : decode cL_refusesAny 122 = .ok (.ifCond .ne 14, 3) := by decide +kernel
theorem dL_refusesAny_125 : decode cL_refusesAny 125 = .ok (.iconst 2, 1) := by decide +kernel
theorem dL_refusesAny_126 : decode cL_refusesAny 126 = .ok (.iload_n 1, 1) := by decide +kernel
theorem dL_refusesAny_127 : decode cL_refusesAny 127 = .ok (.bipush 126, 2) := by decide +kernel
theorem dL_refusesAny_129 : decode cL_refusesAny 129 = .ok (.irem, 1) := by decide +kernel
theorem dL_refusesAny_130 : decode cL_refusesAny 130 = .ok (.iconst 2, 1) := by decide +kernel
theorem dL_refusesAny_131 : decode cL_refusesAny 131 = .ok (.imul, 1) := by decide +kernel
theorem dL_refusesAny_132 : decode cL_refusesAny 132 = .ok (.iadd, 1) := by decide +kernel
theorem dL_refusesAny_133 : decode cL_refusesAny 133 = .ok (.goto 17, 3) := by decide +kernel
theorem dL_refusesAny_136 : decode cL_refusesAny 136 = .ok (.iload_n 1, 1) := by decide +kernel
theorem dL_refusesAny_137 : decode cL_refusesAny 137 = .ok (.iconst 3, 1) := by decide +kernel
theorem dL_refusesAny_138 : decode cL_refusesAny 138 = .ok (.irem, 1) := by decide +kernel
theorem dL_refusesAny_139 : decode cL_refusesAny 139 = .ok (.iconst 1, 1) := by decide +kernel
theorem dL_refusesAny_140 : decode cL_refusesAny 140 = .ok (.if_icmp .ne 9, 3) := by decide +kernel
theorem dL_refusesAny_143 : decode cL_refusesAny 143 = .ok (.sipush 255, 3) := by decide +kernel
theorem dL_refusesAny_146 : decode cL_refusesAny 146 = .ok (.goto 4, 3) := by decide +kernel
theorem dL_refusesAny_149 : decode cL_refusesAny 149 = .ok (.iconst (-1), 1) := by decide +kernel
theorem dL_refusesAny_150 : decode cL_refusesAny 150 = .ok (.iconst 1, 1) := by decide +kernel
theorem dL_refusesAny_151 : decode cL_refusesAny 151 = .ok (.invokevirtual 34, 3) := by decide +kernel
theorem dL_refusesAny_154 : decode cL_refusesAny 154 = .ok (.bipush (-2), 2) := by decide +kernel
theorem dL_refusesAny_156 : decode cL_refusesAny 156 = .ok (.if_icmp .ne 218, 3) := by decide +kernel
theorem dL_refusesAny_159 : decode cL_refusesAny 159 = .ok (.aload_n 0, 1) := by decide +kernel
theorem dL_refusesAny_160 : decode cL_refusesAny 160 = .ok (.iconst 2, 1) := by decide +kernel
theorem dL_refusesAny_161 : decode cL_refusesAny 161 = .ok (.iconst 0, 1) := by decide +kernel
theorem dL_refusesAny_162 : decode cL_refusesAny 162 = .ok (.iload_n 1, 1) := by decide +kernel
theorem dL_refusesAny_163 : decode cL_refusesAny 163 = .ok (.iconst 2, 1) := by decide +kernel
theorem dL_refusesAny_164 : decode cL_refusesAny 164 = .ok (.irem, 1) := by decide +kernel
theorem dL_refusesAny_165 : decode cL_refusesAny 165 = .ok (.ifCond .ne 7, 3) := by decide +kernel
theorem dL_refusesAny_168 : decode cL_refusesAny 168 = .ok (.iconst 0, 1) := by decide +kernel
theorem dL_refusesAny_169 : decode cL_refusesAny 169 = .ok (.goto 5, 3) := by decide +kernel
theorem dL_refusesAny_172 : decode cL_refusesAny 172 = .ok (.bipush 9, 2) := by decide +kernel
theorem dL_refusesAny_174 : decode cL_refusesAny 174 = .ok (.invokevirtual 34, 3) := by decide +kernel
theorem dL_refusesAny_177 : decode cL_refusesAny 177 = .ok (.bipush (-2), 2) := by decide +kernel
theorem dL_refusesAny_179 : decode cL_refusesAny 179 = .ok (.if_icmp .ne 195, 3) := by decide +kernel
theorem dL_refusesAny_182 : decode cL_refusesAny 182 = .ok (.aload_n 0, 1) := by decide +kernel
theorem dL_refusesAny_183 : decode cL_refusesAny 183 = .ok (.iconst 0, 1) := by decide +kernel
theorem dL_refusesAny_184 : decode cL_refusesAny 184 = .ok (.invokevirtual 14, 3) := by decide +kernel
theorem dL_refusesAny_187 : decode cL_refusesAny 187 = .ok (.bipush 6, 2) := by decide +kernel
theorem dL_refusesAny_189 : decode cL_refusesAny 189 = .ok (.if_icmp .lt 15, 3) := by decide +kernel
theorem dL_refusesAny_192 : decode cL_refusesAny 192 = .ok (.aload_n 0, 1) := by decide +kernel
theorem dL_refusesAny_193 : decode cL_refusesAny 193 = .ok (.iconst 2, 1) := by decide +kernel
theorem dL_refusesAny_194 : decode cL_refusesAny 194 = .ok (.iconst 0, 1) := by decide +kernel
theorem dL_refusesAny_195 : decode cL_refusesAny 195 = .ok (.iconst 1, 1) := by decide +kernel
theorem dL_refusesAny_196 : decode cL_refusesAny 196 = .ok (.invokevirtual 34, 3) := by decide +kernel
theorem dL_refusesAny_199 : decode cL_refusesAny 199 = .ok (.bipush (-3), 2) := by decide +kernel
theorem dL_refusesAny_201 : decode cL_refusesAny 201 = .ok (.if_icmp .ne 173, 3) := by decide +kernel
theorem dL_refusesAny_204 : decode cL_refusesAny 204 = .ok (.aload_n 0, 1) := by decide +kernel
theorem dL_refusesAny_205 : decode cL_refusesAny 205 = .ok (.iload_n 2, 1) := by decide +kernel
theorem dL_refusesAny_206 : decode cL_refusesAny 206 = .ok (.invokevirtual 40, 3) := by decide +kernel
theorem dL_refusesAny_209 : decode cL_refusesAny 209 = .ok (.iconst (-1), 1) := by decide +kernel
theorem dL_refusesAny_210 : decode cL_refusesAny 210 = .ok (.if_icmp .ne 164, 3) := by decide +kernel
theorem dL_refusesAny_213 : decode cL_refusesAny 213 = .ok (.aload_n 0, 1) := by decide +kernel
theorem dL_refusesAny_214 : decode cL_refusesAny 214 = .ok (.aload_n 0, 1) := by decide +kernel
theorem dL_refusesAny_215 : decode cL_refusesAny 215 = .ok (.iconst 0, 1) := by decide +kernel
theorem dL_refusesAny_216 : decode cL_refusesAny 216 = .ok (.invokevirtual 14, 3) := by decide +kernel
theorem dL_refusesAny_219 : decode cL_refusesAny 219 = .ok (.invokevirtual 40, 3) := by decide +kernel
theorem dL_refusesAny_222 : decode cL_refusesAny 222 = .ok (.iconst (-1), 1) := by decide +kernel
theorem dL_refusesAny_223 : decode cL_refusesAny 223 = .ok (.if_icmp .ne 151, 3) := by decide +kernel
theorem dL_refusesAny_226 : decode cL_refusesAny 226 = .ok (.aload_n 0, 1) := by decide +kernel
theorem dL_refusesAny_227 : decode cL_refusesAny 227 = .ok (.iload_n 2, 1) := by decide +kernel
theorem dL_refusesAny_228 : decode cL_refusesAny 228 = .ok (.iload_n 3, 1) := by decide +kernel
theorem dL_refusesAny_229 : decode cL_refusesAny 229 = .ok (.invokevirtual 43, 3) := by decide +kernel
theorem dL_refusesAny_232 : decode cL_refusesAny 232 = .ok (.iconst (-1), 1) := by decide +kernel
theorem dL_refusesAny_233 : decode cL_refusesAny 233 = .ok (.if_icmp .ne 141, 3) := by decide +kernel
theorem dL_refusesAny_236 : decode cL_refusesAny 236 = .ok (.aload_n 0, 1) := by decide +kernel
theorem dL_refusesAny_237 : decode cL_refusesAny 237 = .ok (.iconst 0, 1) := by decide +kernel
theorem dL_refusesAny_238 : decode cL_refusesAny 238 = .ok (.invokevirtual 14, 3) := by decide +kernel
theorem dL_refusesAny_241 : decode cL_refusesAny 241 = .ok (.ifCond .eq 14, 3) := by decide +kernel
theorem dL_refusesAny_244 : decode cL_refusesAny 244 = .ok (.aload_n 0, 1) := by decide +kernel
theorem dL_refusesAny_245 : decode cL_refusesAny 245 = .ok (.iconst 0, 1) := by decide +kernel
theorem dL_refusesAny_246 : decode cL_refusesAny 246 = .ok (.iload_n 3, 1) := by decide +kernel
theorem dL_refusesAny_247 : decode cL_refusesAny 247 = .ok (.invokevirtual 43, 3) := by decide +kernel
theorem dL_refusesAny_250 : decode cL_refusesAny 250 = .ok (.bipush (-2), 2) := by decide +kernel
theorem dL_refusesAny_252 : decode cL_refusesAny 252 = .ok (.if_icmp .ne 122, 3) := by decide +kernel
theorem dL_refusesAny_255 : decode cL_refusesAny 255 = .ok (.aload_n 0, 1) := by decide +kernel
theorem dL_refusesAny_256 : decode cL_refusesAny 256 = .ok (.iload_n 2, 1) := by decide +kernel
theorem dL_refusesAny_257 : decode cL_refusesAny 257 = .ok (.iconst 1, 1) := by decide +kernel
theorem dL_refusesAny_258 : decode cL_refusesAny 258 = .ok (.invokevirtual 46, 3) := by decide +kernel
theorem dL_refusesAny_261 : decode cL_refusesAny 261 = .ok (.iconst (-1), 1) := by decide +kernel
theorem dL_refusesAny_262 : decode cL_refusesAny 262 = .ok (.if_icmp .ne 112, 3) := by decide +kernel
theorem dL_refusesAny_265 : decode cL_refusesAny 265 = .ok (.aload_n 0, 1) := by decide +kernel
theorem dL_refusesAny_266 : decode cL_refusesAny 266 = .ok (.iload 4, 2) := by decide +kernel
theorem dL_refusesAny_268 : decode cL_refusesAny 268 = .ok (.iconst 0, 1) := by decide +kernel
theorem dL_refusesAny_269 : decode cL_refusesAny 269 = .ok (.invokevirtual 50, 3) := by decide +kernel
theorem dL_refusesAny_272 : decode cL_refusesAny 272 = .ok (.bipush (-2), 2) := by decide +kernel
theorem dL_refusesAny_274 : decode cL_refusesAny 274 = .ok (.if_icmp .ne 100, 3) := by decide +kernel
theorem dL_refusesAny_277 : decode cL_refusesAny 277 = .ok (.aload_n 0, 1) := by decide +kernel
theorem dL_refusesAny_278 : decode cL_refusesAny 278 = .ok (.iconst 0, 1) := by decide +kernel
theorem dL_refusesAny_279 : decode cL_refusesAny 279 = .ok (.iload 4, 2) := by decide +kernel
theorem dL_refusesAny_281 : decode cL_refusesAny 281 = .ok (.invokevirtual 50, 3) := by decide +kernel
theorem dL_refusesAny_284 : decode cL_refusesAny 284 = .ok (.bipush (-2), 2) := by decide +kernel
theorem dL_refusesAny_286 : decode cL_refusesAny 286 = .ok (.if_icmp .ne 88, 3) := by decide +kernel
theorem dL_refusesAny_289 : decode cL_refusesAny 289 = .ok (.aload_n 0, 1) := by decide +kernel
theorem dL_refusesAny_290 : decode cL_refusesAny 290 = .ok (.iload 5, 2) := by decide +kernel
theorem dL_refusesAny_292 : decode cL_refusesAny 292 = .ok (.invokevirtual 53, 3) := by decide +kernel
theorem dL_refusesAny_295 : decode cL_refusesAny 295 = .ok (.bipush (-2), 2) := by decide +kernel
theorem dL_refusesAny_297 : decode cL_refusesAny 297 = .ok (.if_icmp .ne 77, 3) := by decide +kernel
theorem dL_refusesAny_300 : decode cL_refusesAny 300 = .ok (.aload_n 0, 1) := by decide +kernel
theorem dL_refusesAny_301 : decode cL_refusesAny 301 = .ok (.iload_n 2, 1) := by decide +kernel
theorem dL_refusesAny_302 : decode cL_refusesAny 302 = .ok (.bipush 99, 2) := by decide +kernel
theorem dL_refusesAny_304 : decode cL_refusesAny 304 = .ok (.invokevirtual 56, 3) := by decide +kernel
theorem dL_refusesAny_307 : decode cL_refusesAny 307 = .ok (.iconst (-1), 1) := by decide +kernel
theorem dL_refusesAny_308 : decode cL_refusesAny 308 = .ok (.if_icmp .ne 66, 3) := by decide +kernel
theorem dL_refusesAny_311 : decode cL_refusesAny 311 = .ok (.aload_n 0, 1) := by decide +kernel
theorem dL_refusesAny_312 : decode cL_refusesAny 312 = .ok (.iconst 0, 1) := by decide +kernel
theorem dL_refusesAny_313 : decode cL_refusesAny 313 = .ok (.invokevirtual 14, 3) := by decide +kernel
theorem dL_refusesAny_316 : decode cL_refusesAny 316 = .ok (.ifCond .eq 25, 3) := by decide +kernel
theorem dL_refusesAny_319 : decode cL_refusesAny 319 = .ok (.aload_n 0, 1) := by decide +kernel
theorem dL_refusesAny_320 : decode cL_refusesAny 320 = .ok (.iconst 0, 1) := by decide +kernel
theorem dL_refusesAny_321 : decode cL_refusesAny 321 = .ok (.iload_n 1, 1) := by decide +kernel
theorem dL_refusesAny_322 : decode cL_refusesAny 322 = .ok (.iconst 2, 1) := by decide +kernel
theorem dL_refusesAny_323 : decode cL_refusesAny 323 = .ok (.irem, 1) := by decide +kernel
theorem dL_refusesAny_324 : decode cL_refusesAny 324 = .ok (.ifCond .ne 7, 3) := by decide +kernel
theorem dL_refusesAny_327 : decode cL_refusesAny 327 = .ok (.iconst (-1), 1) := by decide +kernel
theorem dL_refusesAny_328 : decode cL_refusesAny 328 = .ok (.goto 5, 3) := by decide +kernel
theorem dL_refusesAny_331 : decode cL_refusesAny 331 = .ok (.bipush 64, 2) := by decide +kernel
theorem dL_refusesAny_333 : decode cL_refusesAny 333 = .ok (.invokevirtual 56, 3) := by decide +kernel
theorem dL_refusesAny_336 : decode cL_refusesAny 336 = .ok (.bipush (-2), 2) := by decide +kernel
theorem dL_refusesAny_338 : decode cL_refusesAny 338 = .ok (.if_icmp .ne 36, 3) := by decide +kernel
theorem dL_refusesAny_341 : decode cL_refusesAny 341 = .ok (.aload_n 0, 1) := by decide +kernel
theorem dL_refusesAny_342 : decode cL_refusesAny 342 = .ok (.iload_n 2, 1) := by decide +kernel
theorem dL_refusesAny_343 : decode cL_refusesAny 343 = .ok (.iload_n 3, 1) := by decide +kernel
theorem dL_refusesAny_344 : decode cL_refusesAny 344 = .ok (.invokevirtual 59, 3) := by decide +kernel
theorem dL_refusesAny_347 : decode cL_refusesAny 347 = .ok (.iconst (-1), 1) := by decide +kernel
theorem dL_refusesAny_348 : decode cL_refusesAny 348 = .ok (.if_icmp .ne 26, 3) := by decide +kernel
theorem dL_refusesAny_351 : decode cL_refusesAny 351 = .ok (.aload_n 0, 1) := by decide +kernel
theorem dL_refusesAny_352 : decode cL_refusesAny 352 = .ok (.iconst 0, 1) := by decide +kernel
theorem dL_refusesAny_353 : decode cL_refusesAny 353 = .ok (.invokevirtual 14, 3) := by decide +kernel
theorem dL_refusesAny_356 : decode cL_refusesAny 356 = .ok (.ifCond .eq 14, 3) := by decide +kernel
theorem dL_refusesAny_359 : decode cL_refusesAny 359 = .ok (.aload_n 0, 1) := by decide +kernel
theorem dL_refusesAny_360 : decode cL_refusesAny 360 = .ok (.iconst 0, 1) := by decide +kernel
theorem dL_refusesAny_361 : decode cL_refusesAny 361 = .ok (.iload_n 3, 1) := by decide +kernel
theorem dL_refusesAny_362 : decode cL_refusesAny 362 = .ok (.invokevirtual 59, 3) := by decide +kernel
theorem dL_refusesAny_365 : decode cL_refusesAny 365 = .ok (.bipush (-2), 2) := by decide +kernel
theorem dL_refusesAny_367 : decode cL_refusesAny 367 = .ok (.if_icmp .ne 7, 3) := by decide +kernel
theorem dL_refusesAny_370 : decode cL_refusesAny 370 = .ok (.iconst 1, 1) := by decide +kernel
theorem dL_refusesAny_371 : decode cL_refusesAny 371 = .ok (.goto 4, 3) := by decide +kernel
theorem dL_refusesAny_374 : decode cL_refusesAny 374 = .ok (.iconst 0, 1) := by decide +kernel
theorem dL_refusesAny_375 : decode cL_refusesAny 375 = .ok (.istore 6, 2) := by decide +kernel
theorem dL_refusesAny_377 : decode cL_refusesAny 377 = .ok (.iload 6, 2) := by decide +kernel
theorem dL_refusesAny_379 : decode cL_refusesAny 379 = .ok (.ifCond .eq 181, 3) := by decide +kernel
theorem dL_refusesAny_382 : decode cL_refusesAny 382 = .ok (.aload_n 0, 1) := by decide +kernel
theorem dL_refusesAny_383 : decode cL_refusesAny 383 = .ok (.iload_n 2, 1) := by decide +kernel
theorem dL_refusesAny_384 : decode cL_refusesAny 384 = .ok (.bipush 99, 2) := by decide +kernel
theorem dL_refusesAny_386 : decode cL_refusesAny 386 = .ok (.invokevirtual 20, 3) := by decide +kernel
theorem dL_refusesAny_389 : decode cL_refusesAny 389 = .ok (.iconst (-1), 1) := by decide +kernel
theorem dL_refusesAny_390 : decode cL_refusesAny 390 = .ok (.if_icmp .ne 170, 3) := by decide +kernel
theorem dL_refusesAny_393 : decode cL_refusesAny 393 = .ok (.aload_n 0, 1) := by decide +kernel
theorem dL_refusesAny_394 : decode cL_refusesAny 394 = .ok (.iconst 0, 1) := by decide +kernel
theorem dL_refusesAny_395 : decode cL_refusesAny 395 = .ok (.invokevirtual 14, 3) := by decide +kernel
theorem dL_refusesAny_398 : decode cL_refusesAny 398 = .ok (.ifCond .eq 25, 3) := by decide +kernel
theorem dL_refusesAny_401 : decode cL_refusesAny 401 = .ok (.aload_n 0, 1) := by decide +kernel
theorem dL_refusesAny_402 : decode cL_refusesAny 402 = .ok (.iconst 0, 1) := by decide +kernel
theorem dL_refusesAny_403 : decode cL_refusesAny 403 = .ok (.iload_n 1, 1) := by decide +kernel
theorem dL_refusesAny_404 : decode cL_refusesAny 404 = .ok (.iconst 2, 1) := by decide +kernel
theorem dL_refusesAny_405 : decode cL_refusesAny 405 = .ok (.irem, 1) := by decide +kernel
theorem dL_refusesAny_406 : decode cL_refusesAny 406 = .ok (.ifCond .ne 7, 3) := by decide +kernel
theorem dL_refusesAny_409 : decode cL_refusesAny 409 = .ok (.iconst (-1), 1) := by decide +kernel
theorem dL_refusesAny_410 : decode cL_refusesAny 410 = .ok (.goto 5, 3) := by decide +kernel
theorem dL_refusesAny_413 : decode cL_refusesAny 413 = .ok (.bipush 10, 2) := by decide +kernel
theorem dL_refusesAny_415 : decode cL_refusesAny 415 = .ok (.invokevirtual 20, 3) := by decide +kernel
theorem dL_refusesAny_418 : decode cL_refusesAny 418 = .ok (.bipush (-2), 2) := by decide +kernel
theorem dL_refusesAny_420 : decode cL_refusesAny 420 = .ok (.if_icmp .ne 140, 3) := by decide +kernel
theorem dL_refusesAny_423 : decode cL_refusesAny 423 = .ok (.aload_n 0, 1) := by decide +kernel
theorem dL_refusesAny_424 : decode cL_refusesAny 424 = .ok (.iload_n 1, 1) := by decide +kernel
theorem dL_refusesAny_425 : decode cL_refusesAny 425 = .ok (.iconst 2, 1) := by decide +kernel
theorem dL_refusesAny_426 : decode cL_refusesAny 426 = .ok (.irem, 1) := by decide +kernel
theorem dL_refusesAny_427 : decode cL_refusesAny 427 = .ok (.ifCond .ne 7, 3) := by decide +kernel
theorem dL_refusesAny_430 : decode cL_refusesAny 430 = .ok (.iconst (-1), 1) := by decide +kernel
theorem dL_refusesAny_431 : decode cL_refusesAny 431 = .ok (.goto 5, 3) := by decide +kernel
theorem dL_refusesAny_434 : decode cL_refusesAny 434 = .ok (.bipush 9, 2) := by decide +kernel
theorem dL_refusesAny_436 : decode cL_refusesAny 436 = .ok (.invokevirtual 14, 3) := by decide +kernel
theorem dL_refusesAny_439 : decode cL_refusesAny 439 = .ok (.bipush (-2), 2) := by decide +kernel
theorem dL_refusesAny_441 : decode cL_refusesAny 441 = .ok (.if_icmp .ne 119, 3) := by decide +kernel
theorem dL_refusesAny_444 : decode cL_refusesAny 444 = .ok (.aload_n 0, 1) := by decide +kernel
theorem dL_refusesAny_445 : decode cL_refusesAny 445 = .ok (.iconst (-1), 1) := by decide +kernel
theorem dL_refusesAny_446 : decode cL_refusesAny 446 = .ok (.iload_n 1, 1) := by decide +kernel
theorem dL_refusesAny_447 : decode cL_refusesAny 447 = .ok (.bipush 99, 2) := by decide +kernel
theorem dL_refusesAny_449 : decode cL_refusesAny 449 = .ok (.irem, 1) := by decide +kernel
theorem dL_refusesAny_450 : decode cL_refusesAny 450 = .ok (.isub, 1) := by decide +kernel
theorem dL_refusesAny_451 : decode cL_refusesAny 451 = .ok (.invokevirtual 24, 3) := by decide +kernel
theorem dL_refusesAny_454 : decode cL_refusesAny 454 = .ok (.bipush (-2), 2) := by decide +kernel
theorem dL_refusesAny_456 : decode cL_refusesAny 456 = .ok (.if_icmp .ne 104, 3) := by decide +kernel
theorem dL_refusesAny_459 : decode cL_refusesAny 459 = .ok (.aload_n 0, 1) := by decide +kernel
theorem dL_refusesAny_460 : decode cL_refusesAny 460 = .ok (.bipush 8, 2) := by decide +kernel
theorem dL_refusesAny_462 : decode cL_refusesAny 462 = .ok (.invokevirtual 24, 3) := by decide +kernel
theorem dL_refusesAny_465 : decode cL_refusesAny 465 = .ok (.bipush (-4), 2) := by decide +kernel
theorem dL_refusesAny_467 : decode cL_refusesAny 467 = .ok (.if_icmp .ne 93, 3) := by decide +kernel
theorem dL_refusesAny_470 : decode cL_refusesAny 470 = .ok (.aload_n 0, 1) := by decide +kernel
theorem dL_refusesAny_471 : decode cL_refusesAny 471 = .ok (.iload 5, 2) := by decide +kernel
theorem dL_refusesAny_473 : decode cL_refusesAny 473 = .ok (.iconst 0, 1) := by decide +kernel
theorem dL_refusesAny_474 : decode cL_refusesAny 474 = .ok (.invokevirtual 62, 3) := by decide +kernel
theorem dL_refusesAny_477 : decode cL_refusesAny 477 = .ok (.bipush (-2), 2) := by decide +kernel
theorem dL_refusesAny_479 : decode cL_refusesAny 479 = .ok (.if_icmp .ne 81, 3) := by decide +kernel
theorem dL_refusesAny_482 : decode cL_refusesAny 482 = .ok (.aload_n 0, 1) := by decide +kernel
theorem dL_refusesAny_483 : decode cL_refusesAny 483 = .ok (.iconst 0, 1) := by decide +kernel
theorem dL_refusesAny_484 : decode cL_refusesAny 484 = .ok (.iload 5, 2) := by decide +kernel
theorem dL_refusesAny_486 : decode cL_refusesAny 486 = .ok (.invokevirtual 62, 3) := by decide +kernel
theorem dL_refusesAny_489 : decode cL_refusesAny 489 = .ok (.bipush (-2), 2) := by decide +kernel
theorem dL_refusesAny_491 : decode cL_refusesAny 491 = .ok (.if_icmp .ne 69, 3) := by decide +kernel
theorem dL_refusesAny_494 : decode cL_refusesAny 494 = .ok (.aload_n 0, 1) := by decide +kernel
theorem dL_refusesAny_495 : decode cL_refusesAny 495 = .ok (.iload 4, 2) := by decide +kernel
theorem dL_refusesAny_497 : decode cL_refusesAny 497 = .ok (.invokevirtual 27, 3) := by decide +kernel
theorem dL_refusesAny_500 : decode cL_refusesAny 500 = .ok (.bipush (-2), 2) := by decide +kernel
theorem dL_refusesAny_502 : decode cL_refusesAny 502 = .ok (.if_icmp .ne 58, 3) := by decide +kernel
theorem dL_refusesAny_505 : decode cL_refusesAny 505 = .ok (.aload_n 0, 1) := by decide +kernel
theorem dL_refusesAny_506 : decode cL_refusesAny 506 = .ok (.iload_n 2, 1) := by decide +kernel
theorem dL_refusesAny_507 : decode cL_refusesAny 507 = .ok (.iload_n 3, 1) := by decide +kernel
theorem dL_refusesAny_508 : decode cL_refusesAny 508 = .ok (.invokevirtual 65, 3) := by decide +kernel
theorem dL_refusesAny_511 : decode cL_refusesAny 511 = .ok (.iconst (-1), 1) := by decide +kernel
theorem dL_refusesAny_512 : decode cL_refusesAny 512 = .ok (.if_icmp .ne 48, 3) := by decide +kernel
theorem dL_refusesAny_515 : decode cL_refusesAny 515 = .ok (.aload_n 0, 1) := by decide +kernel
theorem dL_refusesAny_516 : decode cL_refusesAny 516 = .ok (.iconst 0, 1) := by decide +kernel
theorem dL_refusesAny_517 : decode cL_refusesAny 517 = .ok (.invokevirtual 14, 3) := by decide +kernel
theorem dL_refusesAny_520 : decode cL_refusesAny 520 = .ok (.ifCond .eq 14, 3) := by decide +kernel
theorem dL_refusesAny_523 : decode cL_refusesAny 523 = .ok (.aload_n 0, 1) := by decide +kernel
theorem dL_refusesAny_524 : decode cL_refusesAny 524 = .ok (.iconst 0, 1) := by decide +kernel
theorem dL_refusesAny_525 : decode cL_refusesAny 525 = .ok (.iload_n 3, 1) := by decide +kernel
theorem dL_refusesAny_526 : decode cL_refusesAny 526 = .ok (.invokevirtual 65, 3) := by decide +kernel
theorem dL_refusesAny_529 : decode cL_refusesAny 529 = .ok (.bipush (-2), 2) := by decide +kernel
theorem dL_refusesAny_531 : decode cL_refusesAny 531 = .ok (.if_icmp .ne 29, 3) := by decide +kernel
theorem dL_refusesAny_534 : decode cL_refusesAny 534 = .ok (.aload_n 0, 1) := by decide +kernel
theorem dL_refusesAny_535 : decode cL_refusesAny 535 = .ok (.iload_n 1, 1) := by decide +kernel
theorem dL_refusesAny_536 : decode cL_refusesAny 536 = .ok (.iconst 2, 1) := by decide +kernel
theorem dL_refusesAny_537 : decode cL_refusesAny 537 = .ok (.irem, 1) := by decide +kernel
theorem dL_refusesAny_538 : decode cL_refusesAny 538 = .ok (.ifCond .ne 8, 3) := by decide +kernel
theorem dL_refusesAny_541 : decode cL_refusesAny 541 = .ok (.bipush 31, 2) := by decide +kernel
theorem dL_refusesAny_543 : decode cL_refusesAny 543 = .ok (.goto 5, 3) := by decide +kernel
theorem dL_refusesAny_546 : decode cL_refusesAny 546 = .ok (.bipush 127, 2) := by decide +kernel
theorem dL_refusesAny_548 : decode cL_refusesAny 548 = .ok (.invokevirtual 68, 3) := by decide +kernel
theorem dL_refusesAny_551 : decode cL_refusesAny 551 = .ok (.bipush (-2), 2) := by decide +kernel
theorem dL_refusesAny_553 : decode cL_refusesAny 553 = .ok (.if_icmp .ne 7, 3) := by decide +kernel
theorem dL_refusesAny_556 : decode cL_refusesAny 556 = .ok (.iconst 1, 1) := by decide +kernel
theorem dL_refusesAny_557 : decode cL_refusesAny 557 = .ok (.goto 4, 3) := by decide +kernel
theorem dL_refusesAny_560 : decode cL_refusesAny 560 = .ok (.iconst 0, 1) := by decide +kernel
theorem dL_refusesAny_561 : decode cL_refusesAny 561 = .ok (.istore 6, 2) := by decide +kernel
theorem dL_refusesAny_563 : decode cL_refusesAny 563 = .ok (.iload 6, 2) := by decide +kernel
theorem dL_refusesAny_565 : decode cL_refusesAny 565 = .ok (.ifCond .eq 30, 3) := by decide +kernel
theorem dL_refusesAny_568 : decode cL_refusesAny 568 = .ok (.aload_n 0, 1) := by decide +kernel
theorem dL_refusesAny_569 : decode cL_refusesAny 569 = .ok (.invokevirtual 71, 3) := by decide +kernel
theorem dL_refusesAny_572 : decode cL_refusesAny 572 = .ok (.ifCond .ne 23, 3) := by decide +kernel
theorem dL_refusesAny_575 : decode cL_refusesAny 575 = .ok (.aload_n 0, 1) := by decide +kernel
theorem dL_refusesAny_576 : decode cL_refusesAny 576 = .ok (.invokevirtual 75, 3) := by decide +kernel
theorem dL_refusesAny_579 : decode cL_refusesAny 579 = .ok (.ifCond .ne 16, 3) := by decide +kernel
theorem dL_refusesAny_582 : decode cL_refusesAny 582 = .ok (.aload_n 0, 1) := by decide +kernel
theorem dL_refusesAny_583 : decode cL_refusesAny 583 = .ok (.invokevirtual 78, 3) := by decide +kernel
theorem dL_refusesAny_586 : decode cL_refusesAny 586 = .ok (.bipush (-100), 2) := by decide +kernel
theorem dL_refusesAny_588 : decode cL_refusesAny 588 = .ok (.if_icmp .ne 7, 3) := by decide +kernel
theorem dL_refusesAny_591 : decode cL_refusesAny 591 = .ok (.iconst 1, 1) := by decide +kernel
theorem dL_refusesAny_592 : decode cL_refusesAny 592 = .ok (.goto 4, 3) := by decide +kernel
theorem dL_refusesAny_595 : decode cL_refusesAny 595 = .ok (.iconst 0, 1) := by decide +kernel
theorem dL_refusesAny_596 : decode cL_refusesAny 596 = .ok (.ireturn, 1) := by decide +kernel
theorem dL_refuses_0 : decode cL_refuses 0 = .ok (.aload_n 0, 1) := by decide +kernel
theorem dL_refuses_1 : decode cL_refuses 1 = .ok (.invokestatic 81, 3) := by decide +kernel
theorem dL_refuses_4 : decode cL_refuses 4 = .ok (.lstore_n 2, 1) := by decide +kernel
theorem dL_refuses_5 : decode cL_refuses 5 = .ok (.aload_n 0, 1) := by decide +kernel
theorem dL_refuses_6 : decode cL_refuses 6 = .ok (.bipush 7, 2) := by decide +kernel
theorem dL_refuses_8 : decode cL_refuses 8 = .ok (.invokevirtual 14, 3) := by decide +kernel
theorem dL_refuses_11 : decode cL_refuses 11 = .ok (.istore 4, 2) := by decide +kernel
theorem dL_refuses_13 : decode cL_refuses 13 = .ok (.aload_n 0, 1) := by decide +kernel
theorem dL_refuses_14 : decode cL_refuses 14 = .ok (.iload_n 1, 1) := by decide +kernel
theorem dL_refuses_15 : decode cL_refuses 15 = .ok (.invokestatic 85, 3) := by decide +kernel
theorem dL_refuses_18 : decode cL_refuses 18 = .ok (.ifCond .eq 27, 3) := by decide +kernel
theorem dL_refuses_21 : decode cL_refuses 21 = .ok (.aload_n 0, 1) := by decide +kernel
theorem dL_refuses_22 : decode cL_refuses 22 = .ok (.invokestatic 81, 3) := by decide +kernel
theorem dL_refuses_25 : decode cL_refuses 25 = .ok (.lload_n 2, 1) := by decide +kernel
theorem dL_refuses_26 : decode cL_refuses 26 = .ok (.lcmp, 1) := by decide +kernel
theorem dL_refuses_27 : decode cL_refuses 27 = .ok (.ifCond .ne 18, 3) := by decide +kernel
theorem dL_refuses_30 : decode cL_refuses 30 = .ok (.aload_n 0, 1) := by decide +kernel
theorem dL_refuses_31 : decode cL_refuses 31 = .ok (.bipush 7, 2) := by decide +kernel
theorem dL_refuses_33 : decode cL_refuses 33 = .ok (.invokevirtual 14, 3) := by decide +kernel
theorem dL_refuses_36 : decode cL_refuses 36 = .ok (.iload 4, 2) := by decide +kernel
theorem dL_refuses_38 : decode cL_refuses 38 = .ok (.if_icmp .ne 7, 3) := by decide +kernel
theorem dL_refuses_41 : decode cL_refuses 41 = .ok (.iconst 1, 1) := by decide +kernel
theorem dL_refuses_42 : decode cL_refuses 42 = .ok (.goto 4, 3) := by decide +kernel
theorem dL_refuses_45 : decode cL_refuses 45 = .ok (.iconst 0, 1) := by decide +kernel
theorem dL_refuses_46 : decode cL_refuses 46 = .ok (.ireturn, 1) := by decide +kernel
theorem dL_areWays_0 : decode cL_areWays 0 = .ok (.aload_n 0, 1) := by decide +kernel
theorem dL_areWays_1 : decode cL_areWays 1 = .ok (.iload_n 1, 1) := by decide +kernel
theorem dL_areWays_2 : decode cL_areWays 2 = .ok (.iload_n 1, 1) := by decide +kernel
theorem dL_areWays_3 : decode cL_areWays 3 = .ok (.invokevirtual 62, 3) := by decide +kernel
theorem dL_areWays_6 : decode cL_areWays 6 = .ok (.ifCond .ne 7, 3) := by decide +kernel
theorem dL_areWays_9 : decode cL_areWays 9 = .ok (.iconst 1, 1) := by decide +kernel
theorem dL_areWays_10 : decode cL_areWays 10 = .ok (.goto 4, 3) := by decide +kernel
theorem dL_areWays_13 : decode cL_areWays 13 = .ok (.iconst 0, 1) := by decide +kernel
theorem dL_areWays_14 : decode cL_areWays 14 = .ok (.istore_n 2, 1) := by decide +kernel
theorem dL_areWays_15 : decode cL_areWays 15 = .ok (.iconst 0, 1) := by decide +kernel
theorem dL_areWays_16 : decode cL_areWays 16 = .ok (.istore_n 3, 1) := by decide +kernel
theorem dL_areWays_17 : decode cL_areWays 17 = .ok (.iload_n 3, 1) := by decide +kernel
theorem dL_areWays_18 : decode cL_areWays 18 = .ok (.bipush 16, 2) := by decide +kernel
theorem dL_areWays_20 : decode cL_areWays 20 = .ok (.if_icmp .ge 84, 3) := by decide +kernel
theorem dL_areWays_23 : decode cL_areWays 23 = .ok (.iload_n 2, 1) := by decide +kernel
theorem dL_areWays_24 : decode cL_areWays 24 = .ok (.ifCond .eq 80, 3) := by decide +kernel
theorem dL_areWays_27 : decode cL_areWays 27 = .ok (.aload_n 0, 1) := by decide +kernel
theorem dL_areWays_28 : decode cL_areWays 28 = .ok (.iload_n 3, 1) := by decide +kernel
theorem dL_areWays_29 : decode cL_areWays 29 = .ok (.iload_n 1, 1) := by decide +kernel
theorem dL_areWays_30 : decode cL_areWays 30 = .ok (.invokevirtual 62, 3) := by decide +kernel
theorem dL_areWays_33 : decode cL_areWays 33 = .ok (.istore 4, 2) := by decide +kernel
theorem dL_areWays_35 : decode cL_areWays 35 = .ok (.iload 4, 2) := by decide +kernel
theorem dL_areWays_37 : decode cL_areWays 37 = .ok (.ifCond .lt 59, 3) := by decide +kernel
theorem dL_areWays_40 : decode cL_areWays 40 = .ok (.iload 4, 2) := by decide +kernel
theorem dL_areWays_42 : decode cL_areWays 42 = .ok (.ifCond .ne 7, 3) := by decide +kernel
theorem dL_areWays_45 : decode cL_areWays 45 = .ok (.iconst 1, 1) := by decide +kernel
theorem dL_areWays_46 : decode cL_areWays 46 = .ok (.goto 4, 3) := by decide +kernel
theorem dL_areWays_49 : decode cL_areWays 49 = .ok (.iconst 0, 1) := by decide +kernel
theorem dL_areWays_50 : decode cL_areWays 50 = .ok (.iload_n 3, 1) := by decide +kernel
theorem dL_areWays_51 : decode cL_areWays 51 = .ok (.iload_n 1, 1) := by decide +kernel
theorem dL_areWays_52 : decode cL_areWays 52 = .ok (.if_icmp .ne 7, 3) := by decide +kernel
theorem dL_areWays_55 : decode cL_areWays 55 = .ok (.iconst 1, 1) := by decide +kernel
theorem dL_areWays_56 : decode cL_areWays 56 = .ok (.goto 4, 3) := by decide +kernel
theorem dL_areWays_59 : decode cL_areWays 59 = .ok (.iconst 0, 1) := by decide +kernel
theorem dL_areWays_60 : decode cL_areWays 60 = .ok (.if_icmp .ne 36, 3) := by decide +kernel
theorem dL_areWays_63 : decode cL_areWays 63 = .ok (.iload 4, 2) := by decide +kernel
theorem dL_areWays_65 : decode cL_areWays 65 = .ok (.aload_n 0, 1) := by decide +kernel
theorem dL_areWays_66 : decode cL_areWays 66 = .ok (.iload_n 3, 1) := by decide +kernel
theorem dL_areWays_67 : decode cL_areWays 67 = .ok (.iconst 0, 1) := by decide +kernel
theorem dL_areWays_68 : decode cL_areWays 68 = .ok (.invokevirtual 62, 3) := by decide +kernel
theorem dL_areWays_71 : decode cL_areWays 71 = .ok (.aload_n 0, 1) := by decide +kernel
theorem dL_areWays_72 : decode cL_areWays 72 = .ok (.iconst 0, 1) := by decide +kernel
theorem dL_areWays_73 : decode cL_areWays 73 = .ok (.iload_n 1, 1) := by decide +kernel
theorem dL_areWays_74 : decode cL_areWays 74 = .ok (.invokevirtual 62, 3) := by decide +kernel
theorem dL_areWays_77 : decode cL_areWays 77 = .ok (.iadd, 1) := by decide +kernel
theorem dL_areWays_78 : decode cL_areWays 78 = .ok (.if_icmp .gt 18, 3) := by decide +kernel
theorem dL_areWays_81 : decode cL_areWays 81 = .ok (.aload_n 0, 1) := by decide +kernel
theorem dL_areWays_82 : decode cL_areWays 82 = .ok (.iload_n 3, 1) := by decide +kernel
theorem dL_areWays_83 : decode cL_areWays 83 = .ok (.iconst 0, 1) := by decide +kernel
theorem dL_areWays_84 : decode cL_areWays 84 = .ok (.invokevirtual 62, 3) := by decide +kernel
theorem dL_areWays_87 : decode cL_areWays 87 = .ok (.bipush 6, 2) := by decide +kernel
theorem dL_areWays_89 : decode cL_areWays 89 = .ok (.if_icmp .ge 7, 3) := by decide +kernel
theorem dL_areWays_92 : decode cL_areWays 92 = .ok (.iconst 1, 1) := by decide +kernel
theorem dL_areWays_93 : decode cL_areWays 93 = .ok (.goto 4, 3) := by decide +kernel
theorem dL_areWays_96 : decode cL_areWays 96 = .ok (.iconst 0, 1) := by decide +kernel
theorem dL_areWays_97 : decode cL_areWays 97 = .ok (.istore_n 2, 1) := by decide +kernel
theorem dL_areWays_98 : decode cL_areWays 98 = .ok (.iinc 3 1, 3) := by decide +kernel
theorem dL_areWays_101 : decode cL_areWays 101 = .ok (.goto (-84), 3) := by decide +kernel
theorem dL_areWays_104 : decode cL_areWays 104 = .ok (.iload_n 2, 1) := by decide +kernel
theorem dL_areWays_105 : decode cL_areWays 105 = .ok (.ireturn, 1) := by decide +kernel
theorem dL_clock_0 : decode cL_clock 0 = .ok (.aload_n 0, 1) := by decide +kernel
theorem dL_clock_1 : decode cL_clock 1 = .ok (.iconst 2, 1) := by decide +kernel
theorem dL_clock_2 : decode cL_clock 2 = .ok (.invokevirtual 14, 3) := by decide +kernel
theorem dL_clock_5 : decode cL_clock 5 = .ok (.istore_n 3, 1) := by decide +kernel
theorem dL_clock_6 : decode cL_clock 6 = .ok (.aload_n 0, 1) := by decide +kernel
theorem dL_clock_7 : decode cL_clock 7 = .ok (.iconst 3, 1) := by decide +kernel
theorem dL_clock_8 : decode cL_clock 8 = .ok (.invokevirtual 14, 3) := by decide +kernel
theorem dL_clock_11 : decode cL_clock 11 = .ok (.istore 4, 2) := by decide +kernel
theorem dL_clock_13 : decode cL_clock 13 = .ok (.aload_n 0, 1) := by decide +kernel
theorem dL_clock_14 : decode cL_clock 14 = .ok (.iload_n 2, 1) := by decide +kernel
theorem dL_clock_15 : decode cL_clock 15 = .ok (.invokevirtual 27, 3) := by decide +kernel
theorem dL_clock_18 : decode cL_clock 18 = .ok (.istore 5, 2) := by decide +kernel
theorem dL_clock_20 : decode cL_clock 20 = .ok (.aload_n 0, 1) := by decide +kernel
theorem dL_clock_21 : decode cL_clock 21 = .ok (.iconst 0, 1) := by decide +kernel
theorem dL_clock_22 : decode cL_clock 22 = .ok (.invokevirtual 14, 3) := by decide +kernel
theorem dL_clock_25 : decode cL_clock 25 = .ok (.istore 6, 2) := by decide +kernel
theorem dL_clock_27 : decode cL_clock 27 = .ok (.iload 6, 2) := by decide +kernel
theorem dL_clock_29 : decode cL_clock 29 = .ok (.ifCond .ne 7, 3) := by decide +kernel
theorem dL_clock_32 : decode cL_clock 32 = .ok (.iconst 0, 1) := by decide +kernel
theorem dL_clock_33 : decode cL_clock 33 = .ok (.goto 25, 3) := by decide +kernel
theorem dL_clock_36 : decode cL_clock 36 = .ok (.iload_n 3, 1) := by decide +kernel
theorem dL_clock_37 : decode cL_clock 37 = .ok (.iconst 4, 1) := by decide +kernel
theorem dL_clock_38 : decode cL_clock 38 = .ok (.if_icmp .ne 13, 3) := by decide +kernel
theorem dL_clock_41 : decode cL_clock 41 = .ok (.aload_n 0, 1) := by decide +kernel
theorem dL_clock_42 : decode cL_clock 42 = .ok (.iconst 0, 1) := by decide +kernel
theorem dL_clock_43 : decode cL_clock 43 = .ok (.bipush 8, 2) := by decide +kernel
theorem dL_clock_45 : decode cL_clock 45 = .ok (.invokevirtual 20, 3) := by decide +kernel
theorem dL_clock_48 : decode cL_clock 48 = .ok (.goto 10, 3) := by decide +kernel
theorem dL_clock_51 : decode cL_clock 51 = .ok (.aload_n 0, 1) := by decide +kernel
theorem dL_clock_52 : decode cL_clock 52 = .ok (.iconst 0, 1) := by decide +kernel
theorem dL_clock_53 : decode cL_clock 53 = .ok (.bipush 7, 2) := by decide +kernel
theorem dL_clock_55 : decode cL_clock 55 = .ok (.invokevirtual 20, 3) := by decide +kernel
theorem dL_clock_58 : decode cL_clock 58 = .ok (.istore 7, 2) := by decide +kernel
theorem dL_clock_60 : decode cL_clock 60 = .ok (.iload 6, 2) := by decide +kernel
theorem dL_clock_62 : decode cL_clock 62 = .ok (.ifCond .ne 7, 3) := by decide +kernel
theorem dL_clock_65 : decode cL_clock 65 = .ok (.iconst 0, 1) := by decide +kernel
theorem dL_clock_66 : decode cL_clock 66 = .ok (.goto 24, 3) := by decide +kernel
theorem dL_clock_69 : decode cL_clock 69 = .ok (.iload_n 3, 1) := by decide +kernel
theorem dL_clock_70 : decode cL_clock 70 = .ok (.iconst 4, 1) := by decide +kernel
theorem dL_clock_71 : decode cL_clock 71 = .ok (.if_icmp .ne 13, 3) := by decide +kernel
theorem dL_clock_74 : decode cL_clock 74 = .ok (.aload_n 0, 1) := by decide +kernel
theorem dL_clock_75 : decode cL_clock 75 = .ok (.iconst 0, 1) := by decide +kernel
theorem dL_clock_76 : decode cL_clock 76 = .ok (.bipush 9, 2) := by decide +kernel
theorem dL_clock_78 : decode cL_clock 78 = .ok (.invokevirtual 20, 3) := by decide +kernel
theorem dL_clock_81 : decode cL_clock 81 = .ok (.goto 9, 3) := by decide +kernel
theorem dL_clock_84 : decode cL_clock 84 = .ok (.aload_n 0, 1) := by decide +kernel
theorem dL_clock_85 : decode cL_clock 85 = .ok (.iconst 0, 1) := by decide +kernel
theorem dL_clock_86 : decode cL_clock 86 = .ok (.iconst 0, 1) := by decide +kernel
theorem dL_clock_87 : decode cL_clock 87 = .ok (.invokevirtual 20, 3) := by decide +kernel
theorem dL_clock_90 : decode cL_clock 90 = .ok (.istore 8, 2) := by decide +kernel
theorem dL_clock_92 : decode cL_clock 92 = .ok (.aload_n 0, 1) := by decide +kernel
theorem dL_clock_93 : decode cL_clock 93 = .ok (.iload_n 1, 1) := by decide +kernel
theorem dL_clock_94 : decode cL_clock 94 = .ok (.iload_n 2, 1) := by decide +kernel
theorem dL_clock_95 : decode cL_clock 95 = .ok (.invokevirtual 50, 3) := by decide +kernel
theorem dL_clock_98 : decode cL_clock 98 = .ok (.istore 9, 2) := by decide +kernel
theorem dL_clock_100 : decode cL_clock 100 = .ok (.iload 9, 2) := by decide +kernel
theorem dL_clock_102 : decode cL_clock 102 = .ok (.iload 5, 2) := by decide +kernel
theorem dL_clock_104 : decode cL_clock 104 = .ok (.if_icmp .ne 42, 3) := by decide +kernel
theorem dL_clock_107 : decode cL_clock 107 = .ok (.aload_n 0, 1) := by decide +kernel
theorem dL_clock_108 : decode cL_clock 108 = .ok (.iconst 3, 1) := by decide +kernel
theorem dL_clock_109 : decode cL_clock 109 = .ok (.invokevirtual 14, 3) := by decide +kernel
theorem dL_clock_112 : decode cL_clock 112 = .ok (.iload 4, 2) := by decide +kernel
theorem dL_clock_114 : decode cL_clock 114 = .ok (.iconst 1, 1) := by decide +kernel
theorem dL_clock_115 : decode cL_clock 115 = .ok (.iadd, 1) := by decide +kernel
theorem dL_clock_116 : decode cL_clock 116 = .ok (.if_icmp .ne 30, 3) := by decide +kernel
theorem dL_clock_119 : decode cL_clock 119 = .ok (.aload_n 0, 1) := by decide +kernel
theorem dL_clock_120 : decode cL_clock 120 = .ok (.iconst 2, 1) := by decide +kernel
theorem dL_clock_121 : decode cL_clock 121 = .ok (.invokevirtual 14, 3) := by decide +kernel
theorem dL_clock_124 : decode cL_clock 124 = .ok (.iload_n 3, 1) := by decide +kernel
theorem dL_clock_125 : decode cL_clock 125 = .ok (.if_icmp .eq 17, 3) := by decide +kernel
theorem dL_clock_128 : decode cL_clock 128 = .ok (.aload_n 0, 1) := by decide +kernel
theorem dL_clock_129 : decode cL_clock 129 = .ok (.iload_n 3, 1) := by decide +kernel
theorem dL_clock_130 : decode cL_clock 130 = .ok (.aload_n 0, 1) := by decide +kernel
theorem dL_clock_131 : decode cL_clock 131 = .ok (.iconst 2, 1) := by decide +kernel
theorem dL_clock_132 : decode cL_clock 132 = .ok (.invokevirtual 14, 3) := by decide +kernel
theorem dL_clock_135 : decode cL_clock 135 = .ok (.invokevirtual 62, 3) := by decide +kernel
theorem dL_clock_138 : decode cL_clock 138 = .ok (.iconst 1, 1) := by decide +kernel
theorem dL_clock_139 : decode cL_clock 139 = .ok (.if_icmp .ne 7, 3) := by decide +kernel
theorem dL_clock_142 : decode cL_clock 142 = .ok (.iconst 1, 1) := by decide +kernel
theorem dL_clock_143 : decode cL_clock 143 = .ok (.goto 4, 3) := by decide +kernel
theorem dL_clock_146 : decode cL_clock 146 = .ok (.iconst 0, 1) := by decide +kernel
theorem dL_clock_147 : decode cL_clock 147 = .ok (.istore 10, 2) := by decide +kernel
theorem dL_clock_149 : decode cL_clock 149 = .ok (.iload 6, 2) := by decide +kernel
theorem dL_clock_151 : decode cL_clock 151 = .ok (.ifCond .le 57, 3) := by decide +kernel
theorem dL_clock_154 : decode cL_clock 154 = .ok (.iload_n 3, 1) := by decide +kernel
theorem dL_clock_155 : decode cL_clock 155 = .ok (.iconst 4, 1) := by decide +kernel
theorem dL_clock_156 : decode cL_clock 156 = .ok (.if_icmp .eq 9, 3) := by decide +kernel
theorem dL_clock_159 : decode cL_clock 159 = .ok (.iload_n 3, 1) := by decide +kernel
theorem dL_clock_160 : decode cL_clock 160 = .ok (.bipush 11, 2) := by decide +kernel
theorem dL_clock_162 : decode cL_clock 162 = .ok (.if_icmp .ne 46, 3) := by decide +kernel
theorem dL_clock_165 : decode cL_clock 165 = .ok (.iload 10, 2) := by decide +kernel
theorem dL_clock_167 : decode cL_clock 167 = .ok (.ifCond .eq 38, 3) := by decide +kernel
theorem dL_clock_170 : decode cL_clock 170 = .ok (.aload_n 0, 1) := by decide +kernel
theorem dL_clock_171 : decode cL_clock 171 = .ok (.iconst 0, 1) := by decide +kernel
theorem dL_clock_172 : decode cL_clock 172 = .ok (.iload_n 3, 1) := by decide +kernel
theorem dL_clock_173 : decode cL_clock 173 = .ok (.iconst 4, 1) := by decide +kernel
theorem dL_clock_174 : decode cL_clock 174 = .ok (.if_icmp .ne 8, 3) := by decide +kernel
theorem dL_clock_177 : decode cL_clock 177 = .ok (.bipush 8, 2) := by decide +kernel
theorem dL_clock_179 : decode cL_clock 179 = .ok (.goto 5, 3) := by decide +kernel
theorem dL_clock_182 : decode cL_clock 182 = .ok (.bipush 7, 2) := by decide +kernel
theorem dL_clock_184 : decode cL_clock 184 = .ok (.invokevirtual 20, 3) := by decide +kernel
theorem dL_clock_187 : decode cL_clock 187 = .ok (.iload 7, 2) := by decide +kernel
theorem dL_clock_189 : decode cL_clock 189 = .ok (.iconst 2, 1) := by decide +kernel
theorem dL_clock_190 : decode cL_clock 190 = .ok (.idiv, 1) := by decide +kernel
theorem dL_clock_191 : decode cL_clock 191 = .ok (.iload_n 2, 1) := by decide +kernel
theorem dL_clock_192 : decode cL_clock 192 = .ok (.iload 8, 2) := by decide +kernel
theorem dL_clock_194 : decode cL_clock 194 = .ok (.iconst 1, 1) := by decide +kernel
theorem dL_clock_195 : decode cL_clock 195 = .ok (.isub, 1) := by decide +kernel
theorem dL_clock_196 : decode cL_clock 196 = .ok (.ishl, 1) := by decide +kernel
theorem dL_clock_197 : decode cL_clock 197 = .ok (.iadd, 1) := by decide +kernel
theorem dL_clock_198 : decode cL_clock 198 = .ok (.if_icmp .ne 7, 3) := by decide +kernel
theorem dL_clock_201 : decode cL_clock 201 = .ok (.iconst 1, 1) := by decide +kernel
theorem dL_clock_202 : decode cL_clock 202 = .ok (.goto 4, 3) := by decide +kernel
theorem dL_clock_205 : decode cL_clock 205 = .ok (.iconst 0, 1) := by decide +kernel
theorem dL_clock_206 : decode cL_clock 206 = .ok (.istore 10, 2) := by decide +kernel
theorem dL_clock_208 : decode cL_clock 208 = .ok (.iload 10, 2) := by decide +kernel
theorem dL_clock_210 : decode cL_clock 210 = .ok (.ifCond .eq 8, 3) := by decide +kernel
theorem dL_clock_213 : decode cL_clock 213 = .ok (.iload 9, 2) := by decide +kernel
theorem dL_clock_215 : decode cL_clock 215 = .ok (.goto 5, 3) := by decide +kernel
theorem dL_clock_218 : decode cL_clock 218 = .ok (.bipush (-9), 2) := by decide +kernel
theorem dL_clock_220 : decode cL_clock 220 = .ok (.ireturn, 1) := by decide +kernel
theorem dL_change_0 : decode cL_change 0 = .ok (.aload_n 0, 1) := by decide +kernel
theorem dL_change_1 : decode cL_change 1 = .ok (.iconst 0, 1) := by decide +kernel
theorem dL_change_2 : decode cL_change 2 = .ok (.invokevirtual 14, 3) := by decide +kernel
theorem dL_change_5 : decode cL_change 5 = .ok (.istore_n 3, 1) := by decide +kernel
theorem dL_change_6 : decode cL_change 6 = .ok (.iload_n 3, 1) := by decide +kernel
theorem dL_change_7 : decode cL_change 7 = .ok (.ifCond .ne 7, 3) := by decide +kernel
theorem dL_change_10 : decode cL_change 10 = .ok (.iconst 0, 1) := by decide +kernel
theorem dL_change_11 : decode cL_change 11 = .ok (.goto 6, 3) := by decide +kernel
theorem dL_change_14 : decode cL_change 14 = .ok (.iload_n 2, 1) := by decide +kernel
theorem dL_change_15 : decode cL_change 15 = .ok (.iload_n 3, 1) := by decide +kernel
theorem dL_change_16 : decode cL_change 16 = .ok (.irem, 1) := by decide +kernel
theorem dL_change_17 : decode cL_change 17 = .ok (.istore 4, 2) := by decide +kernel
theorem dL_change_19 : decode cL_change 19 = .ok (.iload_n 1, 1) := by decide +kernel
theorem dL_change_20 : decode cL_change 20 = .ok (.ifCond .eq 7, 3) := by decide +kernel
theorem dL_change_23 : decode cL_change 23 = .ok (.iload_n 3, 1) := by decide +kernel
theorem dL_change_24 : decode cL_change 24 = .ok (.ifCond .ne 177, 3) := by decide +kernel
theorem dL_change_27 : decode cL_change 27 = .ok (.iconst 2, 1) := by decide +kernel
theorem dL_change_28 : decode cL_change 28 = .ok (.iload_n 2, 1) := by decide +kernel
theorem dL_change_29 : decode cL_change 29 = .ok (.iconst 5, 1) := by decide +kernel
theorem dL_change_30 : decode cL_change 30 = .ok (.irem, 1) := by decide +kernel
theorem dL_change_31 : decode cL_change 31 = .ok (.iadd, 1) := by decide +kernel
theorem dL_change_32 : decode cL_change 32 = .ok (.istore 5, 2) := by decide +kernel
theorem dL_change_34 : decode cL_change 34 = .ok (.iload_n 2, 1) := by decide +kernel
theorem dL_change_35 : decode cL_change 35 = .ok (.iconst 5, 1) := by decide +kernel
theorem dL_change_36 : decode cL_change 36 = .ok (.idiv, 1) := by decide +kernel
theorem dL_change_37 : decode cL_change 37 = .ok (.iconst 3, 1) := by decide +kernel
theorem dL_change_38 : decode cL_change 38 = .ok (.irem, 1) := by decide +kernel
theorem dL_change_39 : decode cL_change 39 = .ok (.ifCond .ne 7, 3) := by decide +kernel
theorem dL_change_42 : decode cL_change 42 = .ok (.iconst 0, 1) := by decide +kernel
theorem dL_change_43 : decode cL_change 43 = .ok (.goto 14, 3) := by decide +kernel
theorem dL_change_46 : decode cL_change 46 = .ok (.iconst 1, 1) := by decide +kernel
theorem dL_change_47 : decode cL_change 47 = .ok (.iload_n 2, 1) := by decide +kernel
theorem dL_change_48 : decode cL_change 48 = .ok (.bipush 15, 2) := by decide +kernel
theorem dL_change_50 : decode cL_change 50 = .ok (.idiv, 1) := by decide +kernel
theorem dL_change_51 : decode cL_change 51 = .ok (.bipush 127, 2) := by decide +kernel
theorem dL_change_53 : decode cL_change 53 = .ok (.irem, 1) := by decide +kernel
theorem dL_change_54 : decode cL_change 54 = .ok (.iconst 2, 1) := by decide +kernel
theorem dL_change_55 : decode cL_change 55 = .ok (.imul, 1) := by decide +kernel
theorem dL_change_56 : decode cL_change 56 = .ok (.iadd, 1) := by decide +kernel
theorem dL_change_57 : decode cL_change 57 = .ok (.istore 6, 2) := by decide +kernel
theorem dL_change_59 : decode cL_change 59 = .ok (.aload_n 0, 1) := by decide +kernel
theorem dL_change_60 : decode cL_change 60 = .ok (.iload 5, 2) := by decide +kernel
theorem dL_change_62 : decode cL_change 62 = .ok (.iload 6, 2) := by decide +kernel
theorem dL_change_64 : decode cL_change 64 = .ok (.iconst 1, 1) := by decide +kernel
theorem dL_change_65 : decode cL_change 65 = .ok (.iload_n 2, 1) := by decide +kernel
theorem dL_change_66 : decode cL_change 66 = .ok (.bipush 7, 2) := by decide +kernel
theorem dL_change_68 : decode cL_change 68 = .ok (.idiv, 1) := by decide +kernel
theorem dL_change_69 : decode cL_change 69 = .ok (.bipush 8, 2) := by decide +kernel
theorem dL_change_71 : decode cL_change 71 = .ok (.irem, 1) := by decide +kernel
theorem dL_change_72 : decode cL_change 72 = .ok (.iadd, 1) := by decide +kernel
theorem dL_change_73 : decode cL_change 73 = .ok (.invokevirtual 34, 3) := by decide +kernel
theorem dL_change_76 : decode cL_change 76 = .ok (.istore 7, 2) := by decide +kernel
theorem dL_change_78 : decode cL_change 78 = .ok (.iload 7, 2) := by decide +kernel
theorem dL_change_80 : decode cL_change 80 = .ok (.iload_n 3, 1) := by decide +kernel
theorem dL_change_81 : decode cL_change 81 = .ok (.bipush 6, 2) := by decide +kernel
theorem dL_change_83 : decode cL_change 83 = .ok (.if_icmp .ne 8, 3) := by decide +kernel
theorem dL_change_86 : decode cL_change 86 = .ok (.bipush (-3), 2) := by decide +kernel
theorem dL_change_88 : decode cL_change 88 = .ok (.goto 4, 3) := by decide +kernel
theorem dL_change_91 : decode cL_change 91 = .ok (.iload_n 3, 1) := by decide +kernel
theorem dL_change_92 : decode cL_change 92 = .ok (.if_icmp .ne 106, 3) := by decide +kernel
theorem dL_change_95 : decode cL_change 95 = .ok (.iload 7, 2) := by decide +kernel
theorem dL_change_97 : decode cL_change 97 = .ok (.ifCond .lt 96, 3) := by decide +kernel
theorem dL_change_100 : decode cL_change 100 = .ok (.aload_n 0, 1) := by decide +kernel
theorem dL_change_101 : decode cL_change 101 = .ok (.iconst 0, 1) := by decide +kernel
theorem dL_change_102 : decode cL_change 102 = .ok (.invokevirtual 14, 3) := by decide +kernel
theorem dL_change_105 : decode cL_change 105 = .ok (.iload_n 3, 1) := by decide +kernel
theorem dL_change_106 : decode cL_change 106 = .ok (.iconst 1, 1) := by decide +kernel
theorem dL_change_107 : decode cL_change 107 = .ok (.iadd, 1) := by decide +kernel
theorem dL_change_108 : decode cL_change 108 = .ok (.if_icmp .ne 90, 3) := by decide +kernel
theorem dL_change_111 : decode cL_change 111 = .ok (.aload_n 0, 1) := by decide +kernel
theorem dL_change_112 : decode cL_change 112 = .ok (.iload 7, 2) := by decide +kernel
theorem dL_change_114 : decode cL_change 114 = .ok (.iconst 0, 1) := by decide +kernel
theorem dL_change_115 : decode cL_change 115 = .ok (.invokevirtual 20, 3) := by decide +kernel
theorem dL_change_118 : decode cL_change 118 = .ok (.iload 5, 2) := by decide +kernel
theorem dL_change_120 : decode cL_change 120 = .ok (.if_icmp .ne 78, 3) := by decide +kernel
theorem dL_change_123 : decode cL_change 123 = .ok (.aload_n 0, 1) := by decide +kernel
theorem dL_change_124 : decode cL_change 124 = .ok (.iload 7, 2) := by decide +kernel
theorem dL_change_126 : decode cL_change 126 = .ok (.iconst 1, 1) := by decide +kernel
theorem dL_change_127 : decode cL_change 127 = .ok (.invokevirtual 20, 3) := by decide +kernel
theorem dL_change_130 : decode cL_change 130 = .ok (.iload 6, 2) := by decide +kernel
theorem dL_change_132 : decode cL_change 132 = .ok (.if_icmp .ne 66, 3) := by decide +kernel
theorem dL_change_135 : decode cL_change 135 = .ok (.aload_n 0, 1) := by decide +kernel
theorem dL_change_136 : decode cL_change 136 = .ok (.iload 7, 2) := by decide +kernel
theorem dL_change_138 : decode cL_change 138 = .ok (.bipush 6, 2) := by decide +kernel
theorem dL_change_140 : decode cL_change 140 = .ok (.invokevirtual 20, 3) := by decide +kernel
theorem dL_change_143 : decode cL_change 143 = .ok (.iload 6, 2) := by decide +kernel
theorem dL_change_145 : decode cL_change 145 = .ok (.ifCond .le 7, 3) := by decide +kernel
theorem dL_change_148 : decode cL_change 148 = .ok (.iconst 1, 1) := by decide +kernel
theorem dL_change_149 : decode cL_change 149 = .ok (.goto 9, 3) := by decide +kernel
theorem dL_change_152 : decode cL_change 152 = .ok (.iconst 1, 1) := by decide +kernel
theorem dL_change_153 : decode cL_change 153 = .ok (.iload 5, 2) := by decide +kernel
theorem dL_change_155 : decode cL_change 155 = .ok (.ishl, 1) := by decide +kernel
theorem dL_change_156 : decode cL_change 156 = .ok (.iconst 1, 1) := by decide +kernel
theorem dL_change_157 : decode cL_change 157 = .ok (.isub, 1) := by decide +kernel
theorem dL_change_158 : decode cL_change 158 = .ok (.if_icmp .ne 40, 3) := by decide +kernel
theorem dL_change_161 : decode cL_change 161 = .ok (.aload_n 0, 1) := by decide +kernel
theorem dL_change_162 : decode cL_change 162 = .ok (.iload 7, 2) := by decide +kernel
theorem dL_change_164 : decode cL_change 164 = .ok (.bipush 7, 2) := by decide +kernel
theorem dL_change_166 : decode cL_change 166 = .ok (.invokevirtual 20, 3) := by decide +kernel
theorem dL_change_169 : decode cL_change 169 = .ok (.ifCond .ne 29, 3) := by decide +kernel
theorem dL_change_172 : decode cL_change 172 = .ok (.aload_n 0, 1) := by decide +kernel
theorem dL_change_173 : decode cL_change 173 = .ok (.iload 7, 2) := by decide +kernel
theorem dL_change_175 : decode cL_change 175 = .ok (.bipush 8, 2) := by decide +kernel
theorem dL_change_177 : decode cL_change 177 = .ok (.invokevirtual 20, 3) := by decide +kernel
theorem dL_change_180 : decode cL_change 180 = .ok (.ifCond .ne 18, 3) := by decide +kernel
theorem dL_change_183 : decode cL_change 183 = .ok (.aload_n 0, 1) := by decide +kernel
theorem dL_change_184 : decode cL_change 184 = .ok (.iload 7, 2) := by decide +kernel
theorem dL_change_186 : decode cL_change 186 = .ok (.iconst 3, 1) := by decide +kernel
theorem dL_change_187 : decode cL_change 187 = .ok (.invokevirtual 20, 3) := by decide +kernel
theorem dL_change_190 : decode cL_change 190 = .ok (.ifCond .ne 8, 3) := by decide +kernel
theorem dL_change_193 : decode cL_change 193 = .ok (.iload 7, 2) := by decide +kernel
theorem dL_change_195 : decode cL_change 195 = .ok (.goto 5, 3) := by decide +kernel
theorem dL_change_198 : decode cL_change 198 = .ok (.bipush (-9), 2) := by decide +kernel
theorem dL_change_200 : decode cL_change 200 = .ok (.ireturn, 1) := by decide +kernel
theorem dL_change_201 : decode cL_change 201 = .ok (.iload_n 1, 1) := by decide +kernel
theorem dL_change_202 : decode cL_change 202 = .ok (.iconst 1, 1) := by decide +kernel
theorem dL_change_203 : decode cL_change 203 = .ok (.if_icmp .ne 69, 3) := by decide +kernel
theorem dL_change_206 : decode cL_change 206 = .ok (.aload_n 0, 1) := by decide +kernel
theorem dL_change_207 : decode cL_change 207 = .ok (.iload 4, 2) := by decide +kernel
theorem dL_change_209 : decode cL_change 209 = .ok (.iconst 1, 1) := by decide +kernel
theorem dL_change_210 : decode cL_change 210 = .ok (.invokevirtual 20, 3) := by decide +kernel
theorem dL_change_213 : decode cL_change 213 = .ok (.istore 5, 2) := by decide +kernel
theorem dL_change_215 : decode cL_change 215 = .ok (.aload_n 0, 1) := by decide +kernel
theorem dL_change_216 : decode cL_change 216 = .ok (.iload 4, 2) := by decide +kernel
theorem dL_change_218 : decode cL_change 218 = .ok (.iconst 1, 1) := by decide +kernel
theorem dL_change_219 : decode cL_change 219 = .ok (.iadd, 1) := by decide +kernel
theorem dL_change_220 : decode cL_change 220 = .ok (.iconst 0, 1) := by decide +kernel
theorem dL_change_221 : decode cL_change 221 = .ok (.invokevirtual 20, 3) := by decide +kernel
theorem dL_change_224 : decode cL_change 224 = .ok (.istore 6, 2) := by decide +kernel
theorem dL_change_226 : decode cL_change 226 = .ok (.aload_n 0, 1) := by decide +kernel
theorem dL_change_227 : decode cL_change 227 = .ok (.iload 4, 2) := by decide +kernel
theorem dL_change_229 : decode cL_change 229 = .ok (.invokevirtual 40, 3) := by decide +kernel
theorem dL_change_232 : decode cL_change 232 = .ok (.istore 7, 2) := by decide +kernel
theorem dL_change_234 : decode cL_change 234 = .ok (.iload 7, 2) := by decide +kernel
theorem dL_change_236 : decode cL_change 236 = .ok (.iload 5, 2) := by decide +kernel
theorem dL_change_238 : decode cL_change 238 = .ok (.if_icmp .ne 31, 3) := by decide +kernel
theorem dL_change_241 : decode cL_change 241 = .ok (.aload_n 0, 1) := by decide +kernel
theorem dL_change_242 : decode cL_change 242 = .ok (.iconst 0, 1) := by decide +kernel
theorem dL_change_243 : decode cL_change 243 = .ok (.invokevirtual 14, 3) := by decide +kernel
theorem dL_change_246 : decode cL_change 246 = .ok (.iload_n 3, 1) := by decide +kernel
theorem dL_change_247 : decode cL_change 247 = .ok (.iconst 1, 1) := by decide +kernel
theorem dL_change_248 : decode cL_change 248 = .ok (.isub, 1) := by decide +kernel
theorem dL_change_249 : decode cL_change 249 = .ok (.if_icmp .ne 20, 3) := by decide +kernel
theorem dL_change_252 : decode cL_change 252 = .ok (.aload_n 0, 1) := by decide +kernel
theorem dL_change_253 : decode cL_change 253 = .ok (.iload 4, 2) := by decide +kernel
theorem dL_change_255 : decode cL_change 255 = .ok (.iconst 0, 1) := by decide +kernel
theorem dL_change_256 : decode cL_change 256 = .ok (.invokevirtual 20, 3) := by decide +kernel
theorem dL_change_259 : decode cL_change 259 = .ok (.iload 6, 2) := by decide +kernel
theorem dL_change_261 : decode cL_change 261 = .ok (.if_icmp .ne 8, 3) := by decide +kernel
theorem dL_change_264 : decode cL_change 264 = .ok (.iload 7, 2) := by decide +kernel
theorem dL_change_266 : decode cL_change 266 = .ok (.goto 5, 3) := by decide +kernel
theorem dL_change_269 : decode cL_change 269 = .ok (.bipush (-9), 2) := by decide +kernel
theorem dL_change_271 : decode cL_change 271 = .ok (.ireturn, 1) := by decide +kernel
theorem dL_change_272 : decode cL_change 272 = .ok (.iload_n 1, 1) := by decide +kernel
theorem dL_change_273 : decode cL_change 273 = .ok (.iconst 2, 1) := by decide +kernel
theorem dL_change_274 : decode cL_change 274 = .ok (.if_icmp .ne 71, 3) := by decide +kernel
theorem dL_change_277 : decode cL_change 277 = .ok (.aload_n 0, 1) := by decide +kernel
theorem dL_change_278 : decode cL_change 278 = .ok (.iload 4, 2) := by decide +kernel
theorem dL_change_280 : decode cL_change 280 = .ok (.iconst 3, 1) := by decide +kernel
theorem dL_change_281 : decode cL_change 281 = .ok (.invokevirtual 20, 3) := by decide +kernel
theorem dL_change_284 : decode cL_change 284 = .ok (.istore 5, 2) := by decide +kernel
theorem dL_change_286 : decode cL_change 286 = .ok (.aload_n 0, 1) := by decide +kernel
theorem dL_change_287 : decode cL_change 287 = .ok (.iload 4, 2) := by decide +kernel
theorem dL_change_289 : decode cL_change 289 = .ok (.iload_n 2, 1) := by decide +kernel
theorem dL_change_290 : decode cL_change 290 = .ok (.bipush 6, 2) := by decide +kernel
theorem dL_change_292 : decode cL_change 292 = .ok (.idiv, 1) := by decide +kernel
theorem dL_change_293 : decode cL_change 293 = .ok (.sipush 256, 3) := by decide +kernel
theorem dL_change_296 : decode cL_change 296 = .ok (.irem, 1) := by decide +kernel
theorem dL_change_297 : decode cL_change 297 = .ok (.invokevirtual 43, 3) := by decide +kernel
theorem dL_change_300 : decode cL_change 300 = .ok (.istore 6, 2) := by decide +kernel
theorem dL_change_302 : decode cL_change 302 = .ok (.iload 6, 2) := by decide +kernel
theorem dL_change_304 : decode cL_change 304 = .ok (.iload 5, 2) := by decide +kernel
theorem dL_change_306 : decode cL_change 306 = .ok (.if_icmp .ne 36, 3) := by decide +kernel
theorem dL_change_309 : decode cL_change 309 = .ok (.aload_n 0, 1) := by decide +kernel
theorem dL_change_310 : decode cL_change 310 = .ok (.iload 4, 2) := by decide +kernel
theorem dL_change_312 : decode cL_change 312 = .ok (.iconst 3, 1) := by decide +kernel
theorem dL_change_313 : decode cL_change 313 = .ok (.invokevirtual 20, 3) := by decide +kernel
theorem dL_change_316 : decode cL_change 316 = .ok (.iload_n 2, 1) := by decide +kernel
theorem dL_change_317 : decode cL_change 317 = .ok (.bipush 6, 2) := by decide +kernel
theorem dL_change_319 : decode cL_change 319 = .ok (.idiv, 1) := by decide +kernel
theorem dL_change_320 : decode cL_change 320 = .ok (.sipush 256, 3) := by decide +kernel
theorem dL_change_323 : decode cL_change 323 = .ok (.irem, 1) := by decide +kernel
theorem dL_change_324 : decode cL_change 324 = .ok (.iconst 1, 1) := by decide +kernel
theorem dL_change_325 : decode cL_change 325 = .ok (.aload_n 0, 1) := by decide +kernel
theorem dL_change_326 : decode cL_change 326 = .ok (.iload 4, 2) := by decide +kernel
theorem dL_change_328 : decode cL_change 328 = .ok (.iconst 2, 1) := by decide +kernel
theorem dL_change_329 : decode cL_change 329 = .ok (.invokevirtual 20, 3) := by decide +kernel
theorem dL_change_332 : decode cL_change 332 = .ok (.ishl, 1) := by decide +kernel
theorem dL_change_333 : decode cL_change 333 = .ok (.irem, 1) := by decide +kernel
theorem dL_change_334 : decode cL_change 334 = .ok (.if_icmp .ne 8, 3) := by decide +kernel
theorem dL_change_337 : decode cL_change 337 = .ok (.iload 6, 2) := by decide +kernel
theorem dL_change_339 : decode cL_change 339 = .ok (.goto 5, 3) := by decide +kernel
theorem dL_change_342 : decode cL_change 342 = .ok (.bipush (-9), 2) := by decide +kernel
theorem dL_change_344 : decode cL_change 344 = .ok (.ireturn, 1) := by decide +kernel
theorem dL_change_345 : decode cL_change 345 = .ok (.aload_n 0, 1) := by decide +kernel
theorem dL_change_346 : decode cL_change 346 = .ok (.iconst 1, 1) := by decide +kernel
theorem dL_change_347 : decode cL_change 347 = .ok (.invokevirtual 14, 3) := by decide +kernel
theorem dL_change_350 : decode cL_change 350 = .ok (.aload_n 0, 1) := by decide +kernel
theorem dL_change_351 : decode cL_change 351 = .ok (.iload 4, 2) := by decide +kernel
theorem dL_change_353 : decode cL_change 353 = .ok (.iconst 5, 1) := by decide +kernel
theorem dL_change_354 : decode cL_change 354 = .ok (.invokevirtual 20, 3) := by decide +kernel
theorem dL_change_357 : decode cL_change 357 = .ok (.isub, 1) := by decide +kernel
theorem dL_change_358 : decode cL_change 358 = .ok (.istore 5, 2) := by decide +kernel
theorem dL_change_360 : decode cL_change 360 = .ok (.iload_n 2, 1) := by decide +kernel
theorem dL_change_361 : decode cL_change 361 = .ok (.bipush 6, 2) := by decide +kernel
theorem dL_change_363 : decode cL_change 363 = .ok (.idiv, 1) := by decide +kernel
theorem dL_change_364 : decode cL_change 364 = .ok (.iconst 3, 1) := by decide +kernel
theorem dL_change_365 : decode cL_change 365 = .ok (.irem, 1) := by decide +kernel
theorem dL_change_366 : decode cL_change 366 = .ok (.ifCond .ne 7, 3) := by decide +kernel
theorem dL_change_369 : decode cL_change 369 = .ok (.iconst 1, 1) := by decide +kernel
theorem dL_change_370 : decode cL_change 370 = .ok (.goto 4, 3) := by decide +kernel
theorem dL_change_373 : decode cL_change 373 = .ok (.iconst 0, 1) := by decide +kernel
theorem dL_change_374 : decode cL_change 374 = .ok (.istore 6, 2) := by decide +kernel
theorem dL_change_376 : decode cL_change 376 = .ok (.aload_n 0, 1) := by decide +kernel
theorem dL_change_377 : decode cL_change 377 = .ok (.iload 4, 2) := by decide +kernel
theorem dL_change_379 : decode cL_change 379 = .ok (.iload 6, 2) := by decide +kernel
theorem dL_change_381 : decode cL_change 381 = .ok (.invokevirtual 46, 3) := by decide +kernel
theorem dL_change_384 : decode cL_change 384 = .ok (.istore 7, 2) := by decide +kernel
theorem dL_change_386 : decode cL_change 386 = .ok (.iload 7, 2) := by decide +kernel
theorem dL_change_388 : decode cL_change 388 = .ok (.iload 5, 2) := by decide +kernel
theorem dL_change_390 : decode cL_change 390 = .ok (.iload 6, 2) := by decide +kernel
theorem dL_change_392 : decode cL_change 392 = .ok (.ifCond .eq 7, 3) := by decide +kernel
theorem dL_change_395 : decode cL_change 395 = .ok (.iconst 1, 1) := by decide +kernel
theorem dL_change_396 : decode cL_change 396 = .ok (.goto 4, 3) := by decide +kernel
theorem dL_change_399 : decode cL_change 399 = .ok (.iconst 0, 1) := by decide +kernel
theorem dL_change_400 : decode cL_change 400 = .ok (.iadd, 1) := by decide +kernel
theorem dL_change_401 : decode cL_change 401 = .ok (.if_icmp .ne 28, 3) := by decide +kernel
theorem dL_change_404 : decode cL_change 404 = .ok (.aload_n 0, 1) := by decide +kernel
theorem dL_change_405 : decode cL_change 405 = .ok (.iload 4, 2) := by decide +kernel
theorem dL_change_407 : decode cL_change 407 = .ok (.iconst 5, 1) := by decide +kernel
theorem dL_change_408 : decode cL_change 408 = .ok (.invokevirtual 20, 3) := by decide +kernel
theorem dL_change_411 : decode cL_change 411 = .ok (.iload 6, 2) := by decide +kernel
theorem dL_change_413 : decode cL_change 413 = .ok (.ifCond .eq 7, 3) := by decide +kernel
theorem dL_change_416 : decode cL_change 416 = .ok (.iconst 1, 1) := by decide +kernel
theorem dL_change_417 : decode cL_change 417 = .ok (.goto 4, 3) := by decide +kernel
theorem dL_change_420 : decode cL_change 420 = .ok (.iconst 0, 1) := by decide +kernel
theorem dL_change_421 : decode cL_change 421 = .ok (.if_icmp .ne 8, 3) := by decide +kernel
theorem dL_change_424 : decode cL_change 424 = .ok (.iload 7, 2) := by decide +kernel
theorem dL_change_426 : decode cL_change 426 = .ok (.goto 5, 3) := by decide +kernel
theorem dL_change_429 : decode cL_change 429 = .ok (.bipush (-9), 2) := by decide +kernel
theorem dL_change_431 : decode cL_change 431 = .ok (.ireturn, 1) := by decide +kernel
theorem dL_act_0 : decode cL_act 0 = .ok (.iload_n 1, 1) := by decide +kernel
theorem dL_act_1 : decode cL_act 1 = .ok (.bipush 16, 2) := by decide +kernel
theorem dL_act_3 : decode cL_act 3 = .ok (.irem, 1) := by decide +kernel
theorem dL_act_4 : decode cL_act 4 = .ok (.istore_n 2, 1) := by decide +kernel
theorem dL_act_5 : decode cL_act 5 = .ok (.iload_n 1, 1) := by decide +kernel
theorem dL_act_6 : decode cL_act 6 = .ok (.bipush 16, 2) := by decide +kernel
theorem dL_act_8 : decode cL_act 8 = .ok (.idiv, 1) := by decide +kernel
theorem dL_act_9 : decode cL_act 9 = .ok (.istore_n 3, 1) := by decide +kernel
theorem dL_act_10 : decode cL_act 10 = .ok (.aload_n 0, 1) := by decide +kernel
theorem dL_act_11 : decode cL_act 11 = .ok (.iconst 0, 1) := by decide +kernel
theorem dL_act_12 : decode cL_act 12 = .ok (.invokevirtual 14, 3) := by decide +kernel
theorem dL_act_15 : decode cL_act 15 = .ok (.istore 4, 2) := by decide +kernel
theorem dL_act_17 : decode cL_act 17 = .ok (.iload_n 2, 1) := by decide +kernel
theorem dL_act_18 : decode cL_act 18 = .ok (.iconst 4, 1) := by decide +kernel
theorem dL_act_19 : decode cL_act 19 = .ok (.if_icmp .lt 14, 3) := by decide +kernel
theorem dL_act_22 : decode cL_act 22 = .ok (.iload_n 2, 1) := by decide +kernel
theorem dL_act_23 : decode cL_act 23 = .ok (.iconst 4, 1) := by decide +kernel
theorem dL_act_24 : decode cL_act 24 = .ok (.if_icmp .ne 18, 3) := by decide +kernel
theorem dL_act_27 : decode cL_act 27 = .ok (.iload 4, 2) := by decide +kernel
theorem dL_act_29 : decode cL_act 29 = .ok (.iconst 2, 1) := by decide +kernel
theorem dL_act_30 : decode cL_act 30 = .ok (.if_icmp .ge 12, 3) := by decide +kernel
theorem dL_act_33 : decode cL_act 33 = .ok (.aload_n 0, 1) := by decide +kernel
theorem dL_act_34 : decode cL_act 34 = .ok (.iload_n 2, 1) := by decide +kernel
theorem dL_act_35 : decode cL_act 35 = .ok (.iconst 4, 1) := by decide +kernel
theorem dL_act_36 : decode cL_act 36 = .ok (.irem, 1) := by decide +kernel
theorem dL_act_37 : decode cL_act 37 = .ok (.iload_n 3, 1) := by decide +kernel
theorem dL_act_38 : decode cL_act 38 = .ok (.invokestatic 89, 3) := by decide +kernel
theorem dL_act_41 : decode cL_act 41 = .ok (.ireturn, 1) := by decide +kernel
theorem dL_act_42 : decode cL_act 42 = .ok (.iload_n 2, 1) := by decide +kernel
theorem dL_act_43 : decode cL_act 43 = .ok (.bipush 9, 2) := by decide +kernel
theorem dL_act_45 : decode cL_act 45 = .ok (.if_icmp .ge 16, 3) := by decide +kernel
theorem dL_act_48 : decode cL_act 48 = .ok (.aload_n 0, 1) := by decide +kernel
theorem dL_act_49 : decode cL_act 49 = .ok (.iload_n 3, 1) := by decide +kernel
theorem dL_act_50 : decode cL_act 50 = .ok (.iconst 2, 1) := by decide +kernel
theorem dL_act_51 : decode cL_act 51 = .ok (.irem, 1) := by decide +kernel
theorem dL_act_52 : decode cL_act 52 = .ok (.iload_n 3, 1) := by decide +kernel
theorem dL_act_53 : decode cL_act 53 = .ok (.iconst 2, 1) := by decide +kernel
theorem dL_act_54 : decode cL_act 54 = .ok (.idiv, 1) := by decide +kernel
theorem dL_act_55 : decode cL_act 55 = .ok (.iconst 2, 1) := by decide +kernel
theorem dL_act_56 : decode cL_act 56 = .ok (.irem, 1) := by decide +kernel
theorem dL_act_57 : decode cL_act 57 = .ok (.invokestatic 93, 3) := by decide +kernel
theorem dL_act_60 : decode cL_act 60 = .ok (.ireturn, 1) := by decide +kernel
theorem dL_act_61 : decode cL_act 61 = .ok (.iload_n 2, 1) := by decide +kernel
theorem dL_act_62 : decode cL_act 62 = .ok (.bipush 12, 2) := by decide +kernel
theorem dL_act_64 : decode cL_act 64 = .ok (.if_icmp .ge 71, 3) := by decide +kernel
theorem dL_act_67 : decode cL_act 67 = .ok (.iload_n 3, 1) := by decide +kernel
theorem dL_act_68 : decode cL_act 68 = .ok (.bipush 16, 2) := by decide +kernel
theorem dL_act_70 : decode cL_act 70 = .ok (.irem, 1) := by decide +kernel
theorem dL_act_71 : decode cL_act 71 = .ok (.istore 5, 2) := by decide +kernel
theorem dL_act_73 : decode cL_act 73 = .ok (.aload_n 0, 1) := by decide +kernel
theorem dL_act_74 : decode cL_act 74 = .ok (.aload_n 0, 1) := by decide +kernel
theorem dL_act_75 : decode cL_act 75 = .ok (.iconst 2, 1) := by decide +kernel
theorem dL_act_76 : decode cL_act 76 = .ok (.invokevirtual 14, 3) := by decide +kernel
theorem dL_act_79 : decode cL_act 79 = .ok (.iload 5, 2) := by decide +kernel
theorem dL_act_81 : decode cL_act 81 = .ok (.invokevirtual 62, 3) := by decide +kernel
theorem dL_act_84 : decode cL_act 84 = .ok (.istore 6, 2) := by decide +kernel
theorem dL_act_86 : decode cL_act 86 = .ok (.aload_n 0, 1) := by decide +kernel
theorem dL_act_87 : decode cL_act 87 = .ok (.iconst 3, 1) := by decide +kernel
theorem dL_act_88 : decode cL_act 88 = .ok (.invokevirtual 14, 3) := by decide +kernel
theorem dL_act_91 : decode cL_act 91 = .ok (.istore 7, 2) := by decide +kernel
theorem dL_act_93 : decode cL_act 93 = .ok (.aload_n 0, 1) := by decide +kernel
theorem dL_act_94 : decode cL_act 94 = .ok (.iload 5, 2) := by decide +kernel
theorem dL_act_96 : decode cL_act 96 = .ok (.invokevirtual 53, 3) := by decide +kernel
theorem dL_act_99 : decode cL_act 99 = .ok (.iload 6, 2) := by decide +kernel
theorem dL_act_101 : decode cL_act 101 = .ok (.if_icmp .ne 31, 3) := by decide +kernel
theorem dL_act_104 : decode cL_act 104 = .ok (.aload_n 0, 1) := by decide +kernel
theorem dL_act_105 : decode cL_act 105 = .ok (.iconst 2, 1) := by decide +kernel
theorem dL_act_106 : decode cL_act 106 = .ok (.invokevirtual 14, 3) := by decide +kernel
theorem dL_act_109 : decode cL_act 109 = .ok (.iload 5, 2) := by decide +kernel
theorem dL_act_111 : decode cL_act 111 = .ok (.if_icmp .ne 21, 3) := by decide +kernel
theorem dL_act_114 : decode cL_act 114 = .ok (.aload_n 0, 1) := by decide +kernel
theorem dL_act_115 : decode cL_act 115 = .ok (.iconst 3, 1) := by decide +kernel
theorem dL_act_116 : decode cL_act 116 = .ok (.invokevirtual 14, 3) := by decide +kernel
theorem dL_act_119 : decode cL_act 119 = .ok (.iload 7, 2) := by decide +kernel
theorem dL_act_121 : decode cL_act 121 = .ok (.iload 6, 2) := by decide +kernel
theorem dL_act_123 : decode cL_act 123 = .ok (.iadd, 1) := by decide +kernel
theorem dL_act_124 : decode cL_act 124 = .ok (.if_icmp .ne 8, 3) := by decide +kernel
theorem dL_act_127 : decode cL_act 127 = .ok (.iload 6, 2) := by decide +kernel
theorem dL_act_129 : decode cL_act 129 = .ok (.goto 5, 3) := by decide +kernel
theorem dL_act_132 : decode cL_act 132 = .ok (.bipush (-9), 2) := by decide +kernel
theorem dL_act_134 : decode cL_act 134 = .ok (.ireturn, 1) := by decide +kernel
theorem dL_act_135 : decode cL_act 135 = .ok (.iload_n 2, 1) := by decide +kernel
theorem dL_act_136 : decode cL_act 136 = .ok (.bipush 12, 2) := by decide +kernel
theorem dL_act_138 : decode cL_act 138 = .ok (.if_icmp .ne 50, 3) := by decide +kernel
theorem dL_act_141 : decode cL_act 141 = .ok (.aload_n 0, 1) := by decide +kernel
theorem dL_act_142 : decode cL_act 142 = .ok (.invokevirtual 95, 3) := by decide +kernel
theorem dL_act_145 : decode cL_act 145 = .ok (.istore 5, 2) := by decide +kernel
theorem dL_act_147 : decode cL_act 147 = .ok (.aload_n 0, 1) := by decide +kernel
theorem dL_act_148 : decode cL_act 148 = .ok (.invokevirtual 98, 3) := by decide +kernel
theorem dL_act_151 : decode cL_act 151 = .ok (.istore 6, 2) := by decide +kernel
theorem dL_act_153 : decode cL_act 153 = .ok (.iload 6, 2) := by decide +kernel
theorem dL_act_155 : decode cL_act 155 = .ok (.iload 5, 2) := by decide +kernel
theorem dL_act_157 : decode cL_act 157 = .ok (.if_icmp .ne 28, 3) := by decide +kernel
theorem dL_act_160 : decode cL_act 160 = .ok (.aload_n 0, 1) := by decide +kernel
theorem dL_act_161 : decode cL_act 161 = .ok (.bipush 6, 2) := by decide +kernel
theorem dL_act_163 : decode cL_act 163 = .ok (.invokevirtual 14, 3) := by decide +kernel
theorem dL_act_166 : decode cL_act 166 = .ok (.iload 6, 2) := by decide +kernel
theorem dL_act_168 : decode cL_act 168 = .ok (.if_icmp .ne 17, 3) := by decide +kernel
theorem dL_act_171 : decode cL_act 171 = .ok (.aload_n 0, 1) := by decide +kernel
theorem dL_act_172 : decode cL_act 172 = .ok (.iconst 2, 1) := by decide +kernel
theorem dL_act_173 : decode cL_act 173 = .ok (.invokevirtual 14, 3) := by decide +kernel
theorem dL_act_176 : decode cL_act 176 = .ok (.iconst 1, 1) := by decide +kernel
theorem dL_act_177 : decode cL_act 177 = .ok (.if_icmp .ne 8, 3) := by decide +kernel
theorem dL_act_180 : decode cL_act 180 = .ok (.iload 6, 2) := by decide +kernel
theorem dL_act_182 : decode cL_act 182 = .ok (.goto 5, 3) := by decide +kernel
theorem dL_act_185 : decode cL_act 185 = .ok (.bipush (-9), 2) := by decide +kernel
theorem dL_act_187 : decode cL_act 187 = .ok (.ireturn, 1) := by decide +kernel
theorem dL_act_188 : decode cL_act 188 = .ok (.iload 4, 2) := by decide +kernel
theorem dL_act_190 : decode cL_act 190 = .ok (.ifCond .ne 7, 3) := by decide +kernel
theorem dL_act_193 : decode cL_act 193 = .ok (.iconst 0, 1) := by decide +kernel
theorem dL_act_194 : decode cL_act 194 = .ok (.goto 7, 3) := by decide +kernel
theorem dL_act_197 : decode cL_act 197 = .ok (.iload_n 3, 1) := by decide +kernel
theorem dL_act_198 : decode cL_act 198 = .ok (.iload 4, 2) := by decide +kernel
theorem dL_act_200 : decode cL_act 200 = .ok (.irem, 1) := by decide +kernel
theorem dL_act_201 : decode cL_act 201 = .ok (.istore 5, 2) := by decide +kernel
theorem dL_act_203 : decode cL_act 203 = .ok (.iload_n 2, 1) := by decide +kernel
theorem dL_act_204 : decode cL_act 204 = .ok (.bipush 13, 2) := by decide +kernel
theorem dL_act_206 : decode cL_act 206 = .ok (.if_icmp .ne 69, 3) := by decide +kernel
theorem dL_act_209 : decode cL_act 209 = .ok (.aload_n 0, 1) := by decide +kernel
theorem dL_act_210 : decode cL_act 210 = .ok (.iload 5, 2) := by decide +kernel
theorem dL_act_212 : decode cL_act 212 = .ok (.iload_n 3, 1) := by decide +kernel
theorem dL_act_213 : decode cL_act 213 = .ok (.bipush 6, 2) := by decide +kernel
theorem dL_act_215 : decode cL_act 215 = .ok (.idiv, 1) := by decide +kernel
theorem dL_act_216 : decode cL_act 216 = .ok (.bipush 64, 2) := by decide +kernel
theorem dL_act_218 : decode cL_act 218 = .ok (.irem, 1) := by decide +kernel
theorem dL_act_219 : decode cL_act 219 = .ok (.invokevirtual 56, 3) := by decide +kernel
theorem dL_act_222 : decode cL_act 222 = .ok (.istore 6, 2) := by decide +kernel
theorem dL_act_224 : decode cL_act 224 = .ok (.iload 4, 2) := by decide +kernel
theorem dL_act_226 : decode cL_act 226 = .ok (.ifCond .ne 19, 3) := by decide +kernel
theorem dL_act_229 : decode cL_act 229 = .ok (.iload 6, 2) := by decide +kernel
theorem dL_act_231 : decode cL_act 231 = .ok (.iconst (-1), 1) := by decide +kernel
theorem dL_act_232 : decode cL_act 232 = .ok (.if_icmp .ne 8, 3) := by decide +kernel
theorem dL_act_235 : decode cL_act 235 = .ok (.iload 6, 2) := by decide +kernel
theorem dL_act_237 : decode cL_act 237 = .ok (.goto 37, 3) := by decide +kernel
theorem dL_act_240 : decode cL_act 240 = .ok (.bipush (-9), 2) := by decide +kernel
theorem dL_act_242 : decode cL_act 242 = .ok (.goto 32, 3) := by decide +kernel
theorem dL_act_245 : decode cL_act 245 = .ok (.iload 6, 2) := by decide +kernel
theorem dL_act_247 : decode cL_act 247 = .ok (.aload_n 0, 1) := by decide +kernel
theorem dL_act_248 : decode cL_act 248 = .ok (.iload 5, 2) := by decide +kernel
theorem dL_act_250 : decode cL_act 250 = .ok (.bipush 9, 2) := by decide +kernel
theorem dL_act_252 : decode cL_act 252 = .ok (.invokevirtual 20, 3) := by decide +kernel
theorem dL_act_255 : decode cL_act 255 = .ok (.if_icmp .ne 17, 3) := by decide +kernel
theorem dL_act_258 : decode cL_act 258 = .ok (.aload_n 0, 1) := by decide +kernel
theorem dL_act_259 : decode cL_act 259 = .ok (.iconst 2, 1) := by decide +kernel
theorem dL_act_260 : decode cL_act 260 = .ok (.invokevirtual 14, 3) := by decide +kernel
theorem dL_act_263 : decode cL_act 263 = .ok (.iconst 1, 1) := by decide +kernel
theorem dL_act_264 : decode cL_act 264 = .ok (.if_icmp .ne 8, 3) := by decide +kernel
theorem dL_act_267 : decode cL_act 267 = .ok (.iload 6, 2) := by decide +kernel
theorem dL_act_269 : decode cL_act 269 = .ok (.goto 5, 3) := by decide +kernel
theorem dL_act_272 : decode cL_act 272 = .ok (.bipush (-9), 2) := by decide +kernel
theorem dL_act_274 : decode cL_act 274 = .ok (.ireturn, 1) := by decide +kernel
theorem dL_act_275 : decode cL_act 275 = .ok (.aload_n 0, 1) := by decide +kernel
theorem dL_act_276 : decode cL_act 276 = .ok (.iload 5, 2) := by decide +kernel
theorem dL_act_278 : decode cL_act 278 = .ok (.iload_n 3, 1) := by decide +kernel
theorem dL_act_279 : decode cL_act 279 = .ok (.bipush 6, 2) := by decide +kernel
theorem dL_act_281 : decode cL_act 281 = .ok (.idiv, 1) := by decide +kernel
theorem dL_act_282 : decode cL_act 282 = .ok (.sipush 256, 3) := by decide +kernel
theorem dL_act_285 : decode cL_act 285 = .ok (.irem, 1) := by decide +kernel
theorem dL_act_286 : decode cL_act 286 = .ok (.invokevirtual 65, 3) := by decide +kernel
theorem dL_act_289 : decode cL_act 289 = .ok (.istore 6, 2) := by decide +kernel
theorem dL_act_291 : decode cL_act 291 = .ok (.aload_n 0, 1) := by decide +kernel
theorem dL_act_292 : decode cL_act 292 = .ok (.iload 5, 2) := by decide +kernel
theorem dL_act_294 : decode cL_act 294 = .ok (.iload_n 3, 1) := by decide +kernel
theorem dL_act_295 : decode cL_act 295 = .ok (.bipush 6, 2) := by decide +kernel
theorem dL_act_297 : decode cL_act 297 = .ok (.idiv, 1) := by decide +kernel
theorem dL_act_298 : decode cL_act 298 = .ok (.sipush 256, 3) := by decide +kernel
theorem dL_act_301 : decode cL_act 301 = .ok (.irem, 1) := by decide +kernel
theorem dL_act_302 : decode cL_act 302 = .ok (.invokevirtual 59, 3) := by decide +kernel
theorem dL_act_305 : decode cL_act 305 = .ok (.istore 7, 2) := by decide +kernel
theorem dL_act_307 : decode cL_act 307 = .ok (.iload 7, 2) := by decide +kernel
theorem dL_act_309 : decode cL_act 309 = .ok (.iload 6, 2) := by decide +kernel
theorem dL_act_311 : decode cL_act 311 = .ok (.if_icmp .ne 36, 3) := by decide +kernel
theorem dL_act_314 : decode cL_act 314 = .ok (.iload 4, 2) := by decide +kernel
theorem dL_act_316 : decode cL_act 316 = .ok (.ifCond .ne 12, 3) := by decide +kernel
theorem dL_act_319 : decode cL_act 319 = .ok (.iload 7, 2) := by decide +kernel
theorem dL_act_321 : decode cL_act 321 = .ok (.iconst (-1), 1) := by decide +kernel
theorem dL_act_322 : decode cL_act 322 = .ok (.if_icmp .ne 25, 3) := by decide +kernel
theorem dL_act_325 : decode cL_act 325 = .ok (.goto 17, 3) := by decide +kernel
theorem dL_act_328 : decode cL_act 328 = .ok (.iload 7, 2) := by decide +kernel
theorem dL_act_330 : decode cL_act 330 = .ok (.ifCond .lt 17, 3) := by decide +kernel
theorem dL_act_333 : decode cL_act 333 = .ok (.aload_n 0, 1) := by decide +kernel
theorem dL_act_334 : decode cL_act 334 = .ok (.iconst 2, 1) := by decide +kernel
theorem dL_act_335 : decode cL_act 335 = .ok (.invokevirtual 14, 3) := by decide +kernel
theorem dL_act_338 : decode cL_act 338 = .ok (.iconst 1, 1) := by decide +kernel
theorem dL_act_339 : decode cL_act 339 = .ok (.if_icmp .ne 8, 3) := by decide +kernel
theorem dL_act_342 : decode cL_act 342 = .ok (.iload 7, 2) := by decide +kernel
theorem dL_act_344 : decode cL_act 344 = .ok (.goto 5, 3) := by decide +kernel
theorem dL_act_347 : decode cL_act 347 = .ok (.bipush (-9), 2) := by decide +kernel
theorem dL_act_349 : decode cL_act 349 = .ok (.ireturn, 1) := by decide +kernel
theorem dL_law_0 : decode cL_law 0 = .ok (.new 15, 3) := by decide +kernel
theorem dL_law_3 : decode cL_law 3 = .ok (.dup, 1) := by decide +kernel
theorem dL_law_4 : decode cL_law 4 = .ok (.invokespecial 101, 3) := by decide +kernel
theorem dL_law_7 : decode cL_law 7 = .ok (.astore_n 1, 1) := by decide +kernel
theorem dL_law_8 : decode cL_law 8 = .ok (.aload_n 1, 1) := by decide +kernel
theorem dL_law_9 : decode cL_law 9 = .ok (.invokevirtual 102, 3) := by decide +kernel
theorem dL_law_12 : decode cL_law 12 = .ok (.bipush (-4), 2) := by decide +kernel
theorem dL_law_14 : decode cL_law 14 = .ok (.if_icmp .ne 62, 3) := by decide +kernel
theorem dL_law_17 : decode cL_law 17 = .ok (.aload_n 1, 1) := by decide +kernel
theorem dL_law_18 : decode cL_law 18 = .ok (.invokevirtual 105, 3) := by decide +kernel
theorem dL_law_21 : decode cL_law 21 = .ok (.iconst (-1), 1) := by decide +kernel
theorem dL_law_22 : decode cL_law 22 = .ok (.if_icmp .ne 54, 3) := by decide +kernel
theorem dL_law_25 : decode cL_law 25 = .ok (.aload_n 1, 1) := by decide +kernel
theorem dL_law_26 : decode cL_law 26 = .ok (.iconst 2, 1) := by decide +kernel
theorem dL_law_27 : decode cL_law 27 = .ok (.invokevirtual 14, 3) := by decide +kernel
theorem dL_law_30 : decode cL_law 30 = .ok (.ifCond .ne 46, 3) := by decide +kernel
theorem dL_law_33 : decode cL_law 33 = .ok (.aload_n 1, 1) := by decide +kernel
theorem dL_law_34 : decode cL_law 34 = .ok (.iconst 3, 1) := by decide +kernel
theorem dL_law_35 : decode cL_law 35 = .ok (.invokevirtual 14, 3) := by decide +kernel
theorem dL_law_38 : decode cL_law 38 = .ok (.ifCond .ne 38, 3) := by decide +kernel
theorem dL_law_41 : decode cL_law 41 = .ok (.aload_n 1, 1) := by decide +kernel
theorem dL_law_42 : decode cL_law 42 = .ok (.iconst 0, 1) := by decide +kernel
theorem dL_law_43 : decode cL_law 43 = .ok (.invokestatic 108, 3) := by decide +kernel
theorem dL_law_46 : decode cL_law 46 = .ok (.ifCond .eq 30, 3) := by decide +kernel
theorem dL_law_49 : decode cL_law 49 = .ok (.aload_n 1, 1) := by decide +kernel
theorem dL_law_50 : decode cL_law 50 = .ok (.iconst 1, 1) := by decide +kernel
theorem dL_law_51 : decode cL_law 51 = .ok (.invokestatic 108, 3) := by decide +kernel
theorem dL_law_54 : decode cL_law 54 = .ok (.ifCond .eq 22, 3) := by decide +kernel
theorem dL_law_57 : decode cL_law 57 = .ok (.aload_n 1, 1) := by decide +kernel
theorem dL_law_58 : decode cL_law 58 = .ok (.iconst 2, 1) := by decide +kernel
theorem dL_law_59 : decode cL_law 59 = .ok (.invokestatic 108, 3) := by decide +kernel
theorem dL_law_62 : decode cL_law 62 = .ok (.ifCond .eq 14, 3) := by decide +kernel
theorem dL_law_65 : decode cL_law 65 = .ok (.aload_n 1, 1) := by decide +kernel
theorem dL_law_66 : decode cL_law 66 = .ok (.invokevirtual 111, 3) := by decide +kernel
theorem dL_law_69 : decode cL_law 69 = .ok (.ifCond .ne 7, 3) := by decide +kernel
theorem dL_law_72 : decode cL_law 72 = .ok (.iconst 1, 1) := by decide +kernel
theorem dL_law_73 : decode cL_law 73 = .ok (.goto 4, 3) := by decide +kernel
theorem dL_law_76 : decode cL_law 76 = .ok (.iconst 0, 1) := by decide +kernel
theorem dL_law_77 : decode cL_law 77 = .ok (.istore_n 2, 1) := by decide +kernel
theorem dL_law_78 : decode cL_law 78 = .ok (.aload_n 1, 1) := by decide +kernel
theorem dL_law_79 : decode cL_law 79 = .ok (.invokestatic 81, 3) := by decide +kernel
theorem dL_law_82 : decode cL_law 82 = .ok (.lstore_n 3, 1) := by decide +kernel
theorem dL_law_83 : decode cL_law 83 = .ok (.iconst 0, 1) := by decide +kernel
theorem dL_law_84 : decode cL_law 84 = .ok (.istore 5, 2) := by decide +kernel
theorem dL_law_86 : decode cL_law 86 = .ok (.iconst 0, 1) := by decide +kernel
theorem dL_law_87 : decode cL_law 87 = .ok (.istore 6, 2) := by decide +kernel
theorem dL_law_89 : decode cL_law 89 = .ok (.iload 6, 2) := by decide +kernel
theorem dL_law_91 : decode cL_law 91 = .ok (.bipush 60, 2) := by decide +kernel
theorem dL_law_93 : decode cL_law 93 = .ok (.if_icmp .ge 287, 3) := by decide +kernel
theorem dL_law_96 : decode cL_law 96 = .ok (.iload_n 2, 1) := by decide +kernel
theorem dL_law_97 : decode cL_law 97 = .ok (.ifCond .eq 283, 3) := by decide +kernel
theorem dL_law_100 : decode cL_law 100 = .ok (.aload_n 0, 1) := by decide +kernel
theorem dL_law_101 : decode cL_law 101 = .ok (.iload 6, 2) := by decide +kernel
theorem dL_law_103 : decode cL_law 103 = .ok (.invokestatic 114, 3) := by decide +kernel
theorem dL_law_106 : decode cL_law 106 = .ok (.istore 7, 2) := by decide +kernel
theorem dL_law_108 : decode cL_law 108 = .ok (.aload_n 1, 1) := by decide +kernel
theorem dL_law_109 : decode cL_law 109 = .ok (.invokestatic 81, 3) := by decide +kernel
theorem dL_law_112 : decode cL_law 112 = .ok (.lstore 8, 2) := by decide +kernel
theorem dL_law_114 : decode cL_law 114 = .ok (.aload_n 1, 1) := by decide +kernel
theorem dL_law_115 : decode cL_law 115 = .ok (.bipush 7, 2) := by decide +kernel
theorem dL_law_117 : decode cL_law 117 = .ok (.invokevirtual 14, 3) := by decide +kernel
theorem dL_law_120 : decode cL_law 120 = .ok (.istore 10, 2) := by decide +kernel
theorem dL_law_122 : decode cL_law 122 = .ok (.aload_n 1, 1) := by decide +kernel
theorem dL_law_123 : decode cL_law 123 = .ok (.iload 7, 2) := by decide +kernel
theorem dL_law_125 : decode cL_law 125 = .ok (.invokestatic 118, 3) := by decide +kernel
theorem dL_law_128 : decode cL_law 128 = .ok (.istore 11, 2) := by decide +kernel
theorem dL_law_130 : decode cL_law 130 = .ok (.aload_n 1, 1) := by decide +kernel
theorem dL_law_131 : decode cL_law 131 = .ok (.bipush 7, 2) := by decide +kernel
theorem dL_law_133 : decode cL_law 133 = .ok (.invokevirtual 14, 3) := by decide +kernel
theorem dL_law_136 : decode cL_law 136 = .ok (.istore 12, 2) := by decide +kernel
theorem dL_law_138 : decode cL_law 138 = .ok (.iload 11, 2) := by decide +kernel
theorem dL_law_140 : decode cL_law 140 = .ok (.bipush (-9), 2) := by decide +kernel
theorem dL_law_142 : decode cL_law 142 = .ok (.if_icmp .le 92, 3) := by decide +kernel
theorem dL_law_145 : decode cL_law 145 = .ok (.iload 11, 2) := by decide +kernel
theorem dL_law_147 : decode cL_law 147 = .ok (.ifCond .ge 23, 3) := by decide +kernel
theorem dL_law_150 : decode cL_law 150 = .ok (.iload 12, 2) := by decide +kernel
theorem dL_law_152 : decode cL_law 152 = .ok (.iload 10, 2) := by decide +kernel
theorem dL_law_154 : decode cL_law 154 = .ok (.if_icmp .ne 80, 3) := by decide +kernel
theorem dL_law_157 : decode cL_law 157 = .ok (.aload_n 1, 1) := by decide +kernel
theorem dL_law_158 : decode cL_law 158 = .ok (.invokestatic 81, 3) := by decide +kernel
theorem dL_law_161 : decode cL_law 161 = .ok (.lload 8, 2) := by decide +kernel
theorem dL_law_163 : decode cL_law 163 = .ok (.lcmp, 1) := by decide +kernel
theorem dL_law_164 : decode cL_law 164 = .ok (.ifCond .ne 70, 3) := by decide +kernel
theorem dL_law_167 : decode cL_law 167 = .ok (.goto 22, 3) := by decide +kernel
theorem dL_law_170 : decode cL_law 170 = .ok (.iload 12, 2) := by decide +kernel
theorem dL_law_172 : decode cL_law 172 = .ok (.iload 10, 2) := by decide +kernel
theorem dL_law_174 : decode cL_law 174 = .ok (.iconst 4, 1) := by decide +kernel
theorem dL_law_175 : decode cL_law 175 = .ok (.if_icmp .ge 10, 3) := by decide +kernel
theorem dL_law_178 : decode cL_law 178 = .ok (.iload 10, 2) := by decide +kernel
theorem dL_law_180 : decode cL_law 180 = .ok (.iconst 1, 1) := by decide +kernel
theorem dL_law_181 : decode cL_law 181 = .ok (.iadd, 1) := by decide +kernel
theorem dL_law_182 : decode cL_law 182 = .ok (.goto 4, 3) := by decide +kernel
theorem dL_law_185 : decode cL_law 185 = .ok (.iconst 4, 1) := by decide +kernel
theorem dL_law_186 : decode cL_law 186 = .ok (.if_icmp .ne 48, 3) := by decide +kernel
theorem dL_law_189 : decode cL_law 189 = .ok (.aload_n 1, 1) := by decide +kernel
theorem dL_law_190 : decode cL_law 190 = .ok (.invokestatic 122, 3) := by decide +kernel
theorem dL_law_193 : decode cL_law 193 = .ok (.ifCond .eq 41, 3) := by decide +kernel
theorem dL_law_196 : decode cL_law 196 = .ok (.iload 6, 2) := by decide +kernel
theorem dL_law_198 : decode cL_law 198 = .ok (.bipush 7, 2) := by decide +kernel
theorem dL_law_200 : decode cL_law 200 = .ok (.irem, 1) := by decide +kernel
theorem dL_law_201 : decode cL_law 201 = .ok (.bipush 6, 2) := by decide +kernel
theorem dL_law_203 : decode cL_law 203 = .ok (.if_icmp .ne 27, 3) := by decide +kernel
theorem dL_law_206 : decode cL_law 206 = .ok (.aload_n 1, 1) := by decide +kernel
theorem dL_law_207 : decode cL_law 207 = .ok (.iload 7, 2) := by decide +kernel
theorem dL_law_209 : decode cL_law 209 = .ok (.bipush 7, 2) := by decide +kernel
theorem dL_law_211 : decode cL_law 211 = .ok (.idiv, 1) := by decide +kernel
theorem dL_law_212 : decode cL_law 212 = .ok (.invokestatic 108, 3) := by decide +kernel
theorem dL_law_215 : decode cL_law 215 = .ok (.ifCond .eq 19, 3) := by decide +kernel
theorem dL_law_218 : decode cL_law 218 = .ok (.aload_n 1, 1) := by decide +kernel
theorem dL_law_219 : decode cL_law 219 = .ok (.iload 7, 2) := by decide +kernel
theorem dL_law_221 : decode cL_law 221 = .ok (.bipush 16, 2) := by decide +kernel
theorem dL_law_223 : decode cL_law 223 = .ok (.irem, 1) := by decide +kernel
theorem dL_law_224 : decode cL_law 224 = .ok (.invokestatic 126, 3) := by decide +kernel
theorem dL_law_227 : decode cL_law 227 = .ok (.ifCond .eq 7, 3) := by decide +kernel
theorem dL_law_230 : decode cL_law 230 = .ok (.iconst 1, 1) := by decide +kernel
theorem dL_law_231 : decode cL_law 231 = .ok (.goto 4, 3) := by decide +kernel
theorem dL_law_234 : decode cL_law 234 = .ok (.iconst 0, 1) := by decide +kernel
theorem dL_law_235 : decode cL_law 235 = .ok (.istore_n 2, 1) := by decide +kernel
theorem dL_law_236 : decode cL_law 236 = .ok (.iload_n 2, 1) := by decide +kernel
theorem dL_law_237 : decode cL_law 237 = .ok (.ifCond .eq 53, 3) := by decide +kernel
theorem dL_law_240 : decode cL_law 240 = .ok (.iload 11, 2) := by decide +kernel
theorem dL_law_242 : decode cL_law 242 = .ok (.ifCond .lt 48, 3) := by decide +kernel
theorem dL_law_245 : decode cL_law 245 = .ok (.iload 7, 2) := by decide +kernel
theorem dL_law_247 : decode cL_law 247 = .ok (.bipush 17, 2) := by decide +kernel
theorem dL_law_249 : decode cL_law 249 = .ok (.idiv, 1) := by decide +kernel
theorem dL_law_250 : decode cL_law 250 = .ok (.iconst 4, 1) := by decide +kernel
theorem dL_law_251 : decode cL_law 251 = .ok (.irem, 1) := by decide +kernel
theorem dL_law_252 : decode cL_law 252 = .ok (.ifCond .ne 38, 3) := by decide +kernel
theorem dL_law_255 : decode cL_law 255 = .ok (.aload_n 1, 1) := by decide +kernel
theorem dL_law_256 : decode cL_law 256 = .ok (.invokevirtual 102, 3) := by decide +kernel
theorem dL_law_259 : decode cL_law 259 = .ok (.iload 10, 2) := by decide +kernel
theorem dL_law_261 : decode cL_law 261 = .ok (.iconst 4, 1) := by decide +kernel
theorem dL_law_262 : decode cL_law 262 = .ok (.if_icmp .ge 8, 3) := by decide +kernel
theorem dL_law_265 : decode cL_law 265 = .ok (.iload 10, 2) := by decide +kernel
theorem dL_law_267 : decode cL_law 267 = .ok (.goto 4, 3) := by decide +kernel
theorem dL_law_270 : decode cL_law 270 = .ok (.iconst 3, 1) := by decide +kernel
theorem dL_law_271 : decode cL_law 271 = .ok (.if_icmp .ne 17, 3) := by decide +kernel
theorem dL_law_274 : decode cL_law 274 = .ok (.aload_n 1, 1) := by decide +kernel
theorem dL_law_275 : decode cL_law 275 = .ok (.invokestatic 81, 3) := by decide +kernel
theorem dL_law_278 : decode cL_law 278 = .ok (.lload 8, 2) := by decide +kernel
theorem dL_law_280 : decode cL_law 280 = .ok (.lcmp, 1) := by decide +kernel
theorem dL_law_281 : decode cL_law 281 = .ok (.ifCond .ne 7, 3) := by decide +kernel
theorem dL_law_284 : decode cL_law 284 = .ok (.iconst 1, 1) := by decide +kernel
theorem dL_law_285 : decode cL_law 285 = .ok (.goto 4, 3) := by decide +kernel
theorem dL_law_288 : decode cL_law 288 = .ok (.iconst 0, 1) := by decide +kernel
theorem dL_law_289 : decode cL_law 289 = .ok (.istore_n 2, 1) := by decide +kernel
theorem dL_law_290 : decode cL_law 290 = .ok (.iload_n 2, 1) := by decide +kernel
theorem dL_law_291 : decode cL_law 291 = .ok (.ifCond .eq 83, 3) := by decide +kernel
theorem dL_law_294 : decode cL_law 294 = .ok (.iload 6, 2) := by decide +kernel
theorem dL_law_296 : decode cL_law 296 = .ok (.bipush 15, 2) := by decide +kernel
theorem dL_law_298 : decode cL_law 298 = .ok (.irem, 1) := by decide +kernel
theorem dL_law_299 : decode cL_law 299 = .ok (.bipush 14, 2) := by decide +kernel
theorem dL_law_301 : decode cL_law 301 = .ok (.if_icmp .ne 73, 3) := by decide +kernel
theorem dL_law_304 : decode cL_law 304 = .ok (.aload_n 1, 1) := by decide +kernel
theorem dL_law_305 : decode cL_law 305 = .ok (.invokestatic 81, 3) := by decide +kernel
theorem dL_law_308 : decode cL_law 308 = .ok (.lstore 13, 2) := by decide +kernel
theorem dL_law_310 : decode cL_law 310 = .ok (.aload_n 1, 1) := by decide +kernel
theorem dL_law_311 : decode cL_law 311 = .ok (.iconst 0, 1) := by decide +kernel
theorem dL_law_312 : decode cL_law 312 = .ok (.invokevirtual 14, 3) := by decide +kernel
theorem dL_law_315 : decode cL_law 315 = .ok (.istore 15, 2) := by decide +kernel
theorem dL_law_317 : decode cL_law 317 = .ok (.aload_n 1, 1) := by decide +kernel
theorem dL_law_318 : decode cL_law 318 = .ok (.invokevirtual 105, 3) := by decide +kernel
theorem dL_law_321 : decode cL_law 321 = .ok (.iload 5, 2) := by decide +kernel
theorem dL_law_323 : decode cL_law 323 = .ok (.if_icmp .ne 42, 3) := by decide +kernel
theorem dL_law_326 : decode cL_law 326 = .ok (.aload_n 1, 1) := by decide +kernel
theorem dL_law_327 : decode cL_law 327 = .ok (.invokestatic 81, 3) := by decide +kernel
theorem dL_law_330 : decode cL_law 330 = .ok (.lload_n 3, 1) := by decide +kernel
theorem dL_law_331 : decode cL_law 331 = .ok (.lcmp, 1) := by decide +kernel
theorem dL_law_332 : decode cL_law 332 = .ok (.ifCond .ne 33, 3) := by decide +kernel
theorem dL_law_335 : decode cL_law 335 = .ok (.aload_n 1, 1) := by decide +kernel
theorem dL_law_336 : decode cL_law 336 = .ok (.invokevirtual 102, 3) := by decide +kernel
theorem dL_law_339 : decode cL_law 339 = .ok (.ifCond .lt 26, 3) := by decide +kernel
theorem dL_law_342 : decode cL_law 342 = .ok (.aload_n 1, 1) := by decide +kernel
theorem dL_law_343 : decode cL_law 343 = .ok (.invokestatic 81, 3) := by decide +kernel
theorem dL_law_346 : decode cL_law 346 = .ok (.lload 13, 2) := by decide +kernel
theorem dL_law_348 : decode cL_law 348 = .ok (.lcmp, 1) := by decide +kernel
theorem dL_law_349 : decode cL_law 349 = .ok (.ifCond .ne 16, 3) := by decide +kernel
theorem dL_law_352 : decode cL_law 352 = .ok (.aload_n 1, 1) := by decide +kernel
theorem dL_law_353 : decode cL_law 353 = .ok (.invokevirtual 111, 3) := by decide +kernel
theorem dL_law_356 : decode cL_law 356 = .ok (.iload 15, 2) := by decide +kernel
theorem dL_law_358 : decode cL_law 358 = .ok (.if_icmp .ne 7, 3) := by decide +kernel
theorem dL_law_361 : decode cL_law 361 = .ok (.iconst 1, 1) := by decide +kernel
theorem dL_law_362 : decode cL_law 362 = .ok (.goto 4, 3) := by decide +kernel
theorem dL_law_365 : decode cL_law 365 = .ok (.iconst 0, 1) := by decide +kernel
theorem dL_law_366 : decode cL_law 366 = .ok (.istore_n 2, 1) := by decide +kernel
theorem dL_law_367 : decode cL_law 367 = .ok (.lload 13, 2) := by decide +kernel
theorem dL_law_369 : decode cL_law 369 = .ok (.lstore_n 3, 1) := by decide +kernel
theorem dL_law_370 : decode cL_law 370 = .ok (.iload 15, 2) := by decide +kernel
theorem dL_law_372 : decode cL_law 372 = .ok (.istore 5, 2) := by decide +kernel
theorem dL_law_374 : decode cL_law 374 = .ok (.iinc 6 1, 3) := by decide +kernel
theorem dL_law_377 : decode cL_law 377 = .ok (.goto (-288), 3) := by decide +kernel
theorem dL_law_380 : decode cL_law 380 = .ok (.iload_n 2, 1) := by decide +kernel
theorem dL_law_381 : decode cL_law 381 = .ok (.ireturn, 1) := by decide +kernel
