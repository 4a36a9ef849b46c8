/-! decode rows of the larger methods of the reference -/
theorem dX1_second_w_0 : decode cX1_second_w 0 = .ok (.aload_n 0, 1) := by decide +kernel
theorem dX1_second_w_1 : decode cX1_second_w 1 = .ok (.getfield 24, 3) := by decide +kernel
theorem dX1_second_w_4 : decode cX1_second_w 4 = .ok (.ifCond .lt 11, 3) := by decide +kernel
theorem dX1_second_w_7 : decode cX1_second_w 7 = .ok (.aload_n 0, 1) := by decide +kernel
theorem dX1_second_w_8 : decode cX1_second_w 8 = .ok (.iload 4, 2) := by decide +kernel
theorem dX1_second_w_10 : decode cX1_second_w 10 = .ok (.lload_n 1, 1) := by decide +kernel
theorem dX1_second_w_11 : decode cX1_second_w 11 = .ok (.invokevirtual 48, 3) := by decide +kernel
theorem dX1_second_w_14 : decode cX1_second_w 14 = .ok (.lreturn, 1) := by decide +kernel
theorem dX1_second_w_15 : decode cX1_second_w 15 = .ok (.aload_n 0, 1) := by decide +kernel
theorem dX1_second_w_16 : decode cX1_second_w 16 = .ok (.getfield 24, 3) := by decide +kernel
theorem dX1_second_w_19 : decode cX1_second_w 19 = .ok (.ldc 52, 2) := by decide +kernel
theorem dX1_second_w_21 : decode cX1_second_w 21 = .ok (.iand, 1) := by decide +kernel
theorem dX1_second_w_22 : decode cX1_second_w 22 = .ok (.i2l, 1) := by decide +kernel
theorem dX1_second_w_23 : decode cX1_second_w 23 = .ok (.bipush 12, 2) := by decide +kernel
theorem dX1_second_w_25 : decode cX1_second_w 25 = .ok (.lshl, 1) := by decide +kernel
theorem dX1_second_w_26 : decode cX1_second_w 26 = .ok (.lstore 6, 2) := by decide +kernel
theorem dX1_second_w_28 : decode cX1_second_w 28 = .ok (.iconst 1, 1) := by decide +kernel
theorem dX1_second_w_29 : decode cX1_second_w 29 = .ok (.istore 8, 2) := by decide +kernel
theorem dX1_second_w_31 : decode cX1_second_w 31 = .ok (.iload 8, 2) := by decide +kernel
theorem dX1_second_w_33 : decode cX1_second_w 33 = .ok (.ifCond .lt 242, 3) := by decide +kernel
theorem dX1_second_w_36 : decode cX1_second_w 36 = .ok (.lload 6, 2) := by decide +kernel
theorem dX1_second_w_38 : decode cX1_second_w 38 = .ok (.ldc2_w 53, 3) := by decide +kernel
theorem dX1_second_w_41 : decode cX1_second_w 41 = .ok (.iload 8, 2) := by decide +kernel
theorem dX1_second_w_43 : decode cX1_second_w 43 = .ok (.iconst 1, 1) := by decide +kernel
theorem dX1_second_w_44 : decode cX1_second_w 44 = .ok (.if_icmp .ne 14, 3) := by decide +kernel
theorem dX1_second_w_47 : decode cX1_second_w 47 = .ok (.lload_n 1, 1) := by decide +kernel
theorem dX1_second_w_48 : decode cX1_second_w 48 = .ok (.bipush 22, 2) := by decide +kernel
theorem dX1_second_w_50 : decode cX1_second_w 50 = .ok (.lshr, 1) := by decide +kernel
theorem dX1_second_w_51 : decode cX1_second_w 51 = .ok (.ldc2_w 46, 3) := by decide +kernel
theorem dX1_second_w_54 : decode cX1_second_w 54 = .ok (.land, 1) := by decide +kernel
theorem dX1_second_w_55 : decode cX1_second_w 55 = .ok (.goto 11, 3) := by decide +kernel
theorem dX1_second_w_58 : decode cX1_second_w 58 = .ok (.lload_n 1, 1) := by decide +kernel
theorem dX1_second_w_59 : decode cX1_second_w 59 = .ok (.bipush 12, 2) := by decide +kernel
theorem dX1_second_w_61 : decode cX1_second_w 61 = .ok (.lshr, 1) := by decide +kernel
theorem dX1_second_w_62 : decode cX1_second_w 62 = .ok (.ldc2_w 44, 3) := by decide +kernel
theorem dX1_second_w_65 : decode cX1_second_w 65 = .ok (.land, 1) := by decide +kernel
theorem dX1_second_w_66 : decode cX1_second_w 66 = .ok (.lmul, 1) := by decide +kernel
theorem dX1_second_w_67 : decode cX1_second_w 67 = .ok (.ladd, 1) := by decide +kernel
theorem dX1_second_w_68 : decode cX1_second_w 68 = .ok (.lstore 9, 2) := by decide +kernel
theorem dX1_second_w_70 : decode cX1_second_w 70 = .ok (.aload_n 0, 1) := by decide +kernel
theorem dX1_second_w_71 : decode cX1_second_w 71 = .ok (.iload 4, 2) := by decide +kernel
theorem dX1_second_w_73 : decode cX1_second_w 73 = .ok (.lload 9, 2) := by decide +kernel
theorem dX1_second_w_75 : decode cX1_second_w 75 = .ok (.invokevirtual 48, 3) := by decide +kernel
theorem dX1_second_w_78 : decode cX1_second_w 78 = .ok (.lstore 9, 2) := by decide +kernel
theorem dX1_second_w_80 : decode cX1_second_w 80 = .ok (.aload_n 0, 1) := by decide +kernel
theorem dX1_second_w_81 : decode cX1_second_w 81 = .ok (.getfield 14, 3) := by decide +kernel
theorem dX1_second_w_84 : decode cX1_second_w 84 = .ok (.ifCond .eq 5, 3) := by decide +kernel
theorem dX1_second_w_87 : decode cX1_second_w 87 = .ok (.lconst 0, 1) := by decide +kernel
theorem dX1_second_w_88 : decode cX1_second_w 88 = .ok (.lreturn, 1) := by decide +kernel
theorem dX1_second_w_89 : decode cX1_second_w 89 = .ok (.aload_n 0, 1) := by decide +kernel
theorem dX1_second_w_90 : decode cX1_second_w 90 = .ok (.getfield 8, 3) := by decide +kernel
theorem dX1_second_w_93 : decode cX1_second_w 93 = .ok (.lload 9, 2) := by decide +kernel
theorem dX1_second_w_95 : decode cX1_second_w 95 = .ok (.ldc2_w 53, 3) := by decide +kernel
theorem dX1_second_w_98 : decode cX1_second_w 98 = .ok (.ldiv, 1) := by decide +kernel
theorem dX1_second_w_99 : decode cX1_second_w 99 = .ok (.l2i, 1) := by decide +kernel
theorem dX1_second_w_100 : decode cX1_second_w 100 = .ok (.iaload, 1) := by decide +kernel
theorem dX1_second_w_101 : decode cX1_second_w 101 = .ok (.istore 11, 2) := by decide +kernel
theorem dX1_second_w_103 : decode cX1_second_w 103 = .ok (.iload 11, 2) := by decide +kernel
theorem dX1_second_w_105 : decode cX1_second_w 105 = .ok (.invokestatic 55, 3) := by decide +kernel
theorem dX1_second_w_108 : decode cX1_second_w 108 = .ok (.ifCond .eq 110, 3) := by decide +kernel
theorem dX1_second_w_111 : decode cX1_second_w 111 = .ok (.iload 11, 2) := by decide +kernel
theorem dX1_second_w_113 : decode cX1_second_w 113 = .ok (.invokestatic 59, 3) := by decide +kernel
theorem dX1_second_w_116 : decode cX1_second_w 116 = .ok (.ifCond .eq 102, 3) := by decide +kernel
theorem dX1_second_w_119 : decode cX1_second_w 119 = .ok (.iload 8, 2) := by decide +kernel
theorem dX1_second_w_121 : decode cX1_second_w 121 = .ok (.iconst 1, 1) := by decide +kernel
theorem dX1_second_w_122 : decode cX1_second_w 122 = .ok (.if_icmp .ne 7, 3) := by decide +kernel
theorem dX1_second_w_125 : decode cX1_second_w 125 = .ok (.iconst 1, 1) := by decide +kernel
theorem dX1_second_w_126 : decode cX1_second_w 126 = .ok (.goto 4, 3) := by decide +kernel
theorem dX1_second_w_129 : decode cX1_second_w 129 = .ok (.iconst 0, 1) := by decide +kernel
theorem dX1_second_w_130 : decode cX1_second_w 130 = .ok (.istore 12, 2) := by decide +kernel
theorem dX1_second_w_132 : decode cX1_second_w 132 = .ok (.iload 12, 2) := by decide +kernel
theorem dX1_second_w_134 : decode cX1_second_w 134 = .ok (.ifCond .eq 15, 3) := by decide +kernel
theorem dX1_second_w_137 : decode cX1_second_w 137 = .ok (.iload 11, 2) := by decide +kernel
theorem dX1_second_w_139 : decode cX1_second_w 139 = .ok (.bipush 10, 2) := by decide +kernel
theorem dX1_second_w_141 : decode cX1_second_w 141 = .ok (.ishr, 1) := by decide +kernel
theorem dX1_second_w_142 : decode cX1_second_w 142 = .ok (.sipush 1023, 3) := by decide +kernel
theorem dX1_second_w_145 : decode cX1_second_w 145 = .ok (.iand, 1) := by decide +kernel
theorem dX1_second_w_146 : decode cX1_second_w 146 = .ok (.ifCond .ne 7, 3) := by decide +kernel
theorem dX1_second_w_149 : decode cX1_second_w 149 = .ok (.iconst 1, 1) := by decide +kernel
theorem dX1_second_w_150 : decode cX1_second_w 150 = .ok (.goto 4, 3) := by decide +kernel
theorem dX1_second_w_153 : decode cX1_second_w 153 = .ok (.iconst 0, 1) := by decide +kernel
theorem dX1_second_w_154 : decode cX1_second_w 154 = .ok (.istore 13, 2) := by decide +kernel
theorem dX1_second_w_156 : decode cX1_second_w 156 = .ok (.iload 13, 2) := by decide +kernel
theorem dX1_second_w_158 : decode cX1_second_w 158 = .ok (.ifCond .eq 54, 3) := by decide +kernel
theorem dX1_second_w_161 : decode cX1_second_w 161 = .ok (.iload 11, 2) := by decide +kernel
theorem dX1_second_w_163 : decode cX1_second_w 163 = .ok (.iconst 4, 1) := by decide +kernel
theorem dX1_second_w_164 : decode cX1_second_w 164 = .ok (.invokestatic 38, 3) := by decide +kernel
theorem dX1_second_w_167 : decode cX1_second_w 167 = .ok (.ifCond .eq 45, 3) := by decide +kernel
theorem dX1_second_w_170 : decode cX1_second_w 170 = .ok (.iload 11, 2) := by decide +kernel
theorem dX1_second_w_172 : decode cX1_second_w 172 = .ok (.iload_n 3, 1) := by decide +kernel
theorem dX1_second_w_173 : decode cX1_second_w 173 = .ok (.iload 5, 2) := by decide +kernel
theorem dX1_second_w_175 : decode cX1_second_w 175 = .ok (.ifCond .ne 15, 3) := by decide +kernel
theorem dX1_second_w_178 : decode cX1_second_w 178 = .ok (.aload_n 0, 1) := by decide +kernel
theorem dX1_second_w_179 : decode cX1_second_w 179 = .ok (.iconst 1, 1) := by decide +kernel
theorem dX1_second_w_180 : decode cX1_second_w 180 = .ok (.invokevirtual 62, 3) := by decide +kernel
theorem dX1_second_w_183 : decode cX1_second_w 183 = .ok (.ifCond .eq 7, 3) := by decide +kernel
theorem dX1_second_w_186 : decode cX1_second_w 186 = .ok (.iconst 1, 1) := by decide +kernel
theorem dX1_second_w_187 : decode cX1_second_w 187 = .ok (.goto 4, 3) := by decide +kernel
theorem dX1_second_w_190 : decode cX1_second_w 190 = .ok (.iconst 0, 1) := by decide +kernel
theorem dX1_second_w_191 : decode cX1_second_w 191 = .ok (.invokestatic 65, 3) := by decide +kernel
theorem dX1_second_w_194 : decode cX1_second_w 194 = .ok (.ifCond .eq 18, 3) := by decide +kernel
theorem dX1_second_w_197 : decode cX1_second_w 197 = .ok (.aload_n 0, 1) := by decide +kernel
theorem dX1_second_w_198 : decode cX1_second_w 198 = .ok (.iload 4, 2) := by decide +kernel
theorem dX1_second_w_200 : decode cX1_second_w 200 = .ok (.iload 11, 2) := by decide +kernel
theorem dX1_second_w_202 : decode cX1_second_w 202 = .ok (.iload 12, 2) := by decide +kernel
theorem dX1_second_w_204 : decode cX1_second_w 204 = .ok (.lload_n 1, 1) := by decide +kernel
theorem dX1_second_w_205 : decode cX1_second_w 205 = .ok (.invokestatic 69, 3) := by decide +kernel
theorem dX1_second_w_208 : decode cX1_second_w 208 = .ok (.invokevirtual 48, 3) := by decide +kernel
theorem dX1_second_w_211 : decode cX1_second_w 211 = .ok (.lreturn, 1) := by decide +kernel
theorem dX1_second_w_212 : decode cX1_second_w 212 = .ok (.iconst 0, 1) := by decide +kernel
theorem dX1_second_w_213 : decode cX1_second_w 213 = .ok (.istore 8, 2) := by decide +kernel
theorem dX1_second_w_215 : decode cX1_second_w 215 = .ok (.goto 43, 3) := by decide +kernel
theorem dX1_second_w_218 : decode cX1_second_w 218 = .ok (.iload 11, 2) := by decide +kernel
theorem dX1_second_w_220 : decode cX1_second_w 220 = .ok (.invokestatic 55, 3) := by decide +kernel
theorem dX1_second_w_223 : decode cX1_second_w 223 = .ok (.ifCond .eq 32, 3) := by decide +kernel
theorem dX1_second_w_226 : decode cX1_second_w 226 = .ok (.iload 11, 2) := by decide +kernel
theorem dX1_second_w_228 : decode cX1_second_w 228 = .ok (.iconst 4, 1) := by decide +kernel
theorem dX1_second_w_229 : decode cX1_second_w 229 = .ok (.invokestatic 38, 3) := by decide +kernel
theorem dX1_second_w_232 : decode cX1_second_w 232 = .ok (.ifCond .ne 23, 3) := by decide +kernel
theorem dX1_second_w_235 : decode cX1_second_w 235 = .ok (.iload 11, 2) := by decide +kernel
theorem dX1_second_w_237 : decode cX1_second_w 237 = .ok (.bipush 6, 2) := by decide +kernel
theorem dX1_second_w_239 : decode cX1_second_w 239 = .ok (.invokestatic 38, 3) := by decide +kernel
theorem dX1_second_w_242 : decode cX1_second_w 242 = .ok (.ifCond .ne 13, 3) := by decide +kernel
theorem dX1_second_w_245 : decode cX1_second_w 245 = .ok (.iload 11, 2) := by decide +kernel
theorem dX1_second_w_247 : decode cX1_second_w 247 = .ok (.bipush 7, 2) := by decide +kernel
theorem dX1_second_w_249 : decode cX1_second_w 249 = .ok (.invokestatic 38, 3) := by decide +kernel
theorem dX1_second_w_252 : decode cX1_second_w 252 = .ok (.ifCond .eq 6, 3) := by decide +kernel
theorem dX1_second_w_255 : decode cX1_second_w 255 = .ok (.iconst 0, 1) := by decide +kernel
theorem dX1_second_w_256 : decode cX1_second_w 256 = .ok (.istore 8, 2) := by decide +kernel
theorem dX1_second_w_258 : decode cX1_second_w 258 = .ok (.iload 11, 2) := by decide +kernel
theorem dX1_second_w_260 : decode cX1_second_w 260 = .ok (.bipush 10, 2) := by decide +kernel
theorem dX1_second_w_262 : decode cX1_second_w 262 = .ok (.iushr, 1) := by decide +kernel
theorem dX1_second_w_263 : decode cX1_second_w 263 = .ok (.i2l, 1) := by decide +kernel
theorem dX1_second_w_264 : decode cX1_second_w 264 = .ok (.bipush 12, 2) := by decide +kernel
theorem dX1_second_w_266 : decode cX1_second_w 266 = .ok (.lshl, 1) := by decide +kernel
theorem dX1_second_w_267 : decode cX1_second_w 267 = .ok (.lstore 6, 2) := by decide +kernel
theorem dX1_second_w_269 : decode cX1_second_w 269 = .ok (.iinc 8 (-1), 3) := by decide +kernel
theorem dX1_second_w_272 : decode cX1_second_w 272 = .ok (.goto (-241), 3) := by decide +kernel
theorem dX1_second_w_275 : decode cX1_second_w 275 = .ok (.aload_n 0, 1) := by decide +kernel
theorem dX1_second_w_276 : decode cX1_second_w 276 = .ok (.iload 4, 2) := by decide +kernel
theorem dX1_second_w_278 : decode cX1_second_w 278 = .ok (.bipush 20, 2) := by decide +kernel
theorem dX1_second_w_280 : decode cX1_second_w 280 = .ok (.bipush 21, 2) := by decide +kernel
theorem dX1_second_w_282 : decode cX1_second_w 282 = .ok (.bipush 23, 2) := by decide +kernel
theorem dX1_second_w_284 : decode cX1_second_w 284 = .ok (.invokevirtual 34, 3) := by decide +kernel
theorem dX1_second_w_287 : decode cX1_second_w 287 = .ok (.aload_n 0, 1) := by decide +kernel
theorem dX1_second_w_288 : decode cX1_second_w 288 = .ok (.lload_n 1, 1) := by decide +kernel
theorem dX1_second_w_289 : decode cX1_second_w 289 = .ok (.putfield 73, 3) := by decide +kernel
theorem dX1_second_w_292 : decode cX1_second_w 292 = .ok (.aload_n 0, 1) := by decide +kernel
theorem dX1_second_w_293 : decode cX1_second_w 293 = .ok (.iload 5, 2) := by decide +kernel
theorem dX1_second_w_295 : decode cX1_second_w 295 = .ok (.putfield 77, 3) := by decide +kernel
theorem dX1_second_w_298 : decode cX1_second_w 298 = .ok (.lconst 0, 1) := by decide +kernel
theorem dX1_second_w_299 : decode cX1_second_w 299 = .ok (.lreturn, 1) := by decide +kernel
theorem dX1_first_0 : decode cX1_first 0 = .ok (.iload_n 1, 1) := by decide +kernel
theorem dX1_first_1 : decode cX1_first 1 = .ok (.ifCond .lt 5, 3) := by decide +kernel
theorem dX1_first_4 : decode cX1_first 4 = .ok (.lload_n 2, 1) := by decide +kernel
theorem dX1_first_5 : decode cX1_first 5 = .ok (.lreturn, 1) := by decide +kernel
theorem dX1_first_6 : decode cX1_first 6 = .ok (.iload_n 1, 1) := by decide +kernel
theorem dX1_first_7 : decode cX1_first 7 = .ok (.ldc 81, 2) := by decide +kernel
theorem dX1_first_9 : decode cX1_first 9 = .ok (.iand, 1) := by decide +kernel
theorem dX1_first_10 : decode cX1_first 10 = .ok (.i2l, 1) := by decide +kernel
theorem dX1_first_11 : decode cX1_first 11 = .ok (.bipush 12, 2) := by decide +kernel
theorem dX1_first_13 : decode cX1_first 13 = .ok (.lshl, 1) := by decide +kernel
theorem dX1_first_14 : decode cX1_first 14 = .ok (.lstore 9, 2) := by decide +kernel
theorem dX1_first_16 : decode cX1_first 16 = .ok (.iconst 1, 1) := by decide +kernel
theorem dX1_first_17 : decode cX1_first 17 = .ok (.istore 11, 2) := by decide +kernel
theorem dX1_first_19 : decode cX1_first 19 = .ok (.iload 11, 2) := by decide +kernel
theorem dX1_first_21 : decode cX1_first 21 = .ok (.ifCond .lt 245, 3) := by decide +kernel
theorem dX1_first_24 : decode cX1_first 24 = .ok (.lload 9, 2) := by decide +kernel
theorem dX1_first_26 : decode cX1_first 26 = .ok (.ldc2_w 53, 3) := by decide +kernel
theorem dX1_first_29 : decode cX1_first 29 = .ok (.iload 11, 2) := by decide +kernel
theorem dX1_first_31 : decode cX1_first 31 = .ok (.iconst 1, 1) := by decide +kernel
theorem dX1_first_32 : decode cX1_first 32 = .ok (.if_icmp .ne 14, 3) := by decide +kernel
theorem dX1_first_35 : decode cX1_first 35 = .ok (.lload_n 2, 1) := by decide +kernel
theorem dX1_first_36 : decode cX1_first 36 = .ok (.bipush 22, 2) := by decide +kernel
theorem dX1_first_38 : decode cX1_first 38 = .ok (.lshr, 1) := by decide +kernel
theorem dX1_first_39 : decode cX1_first 39 = .ok (.ldc2_w 44, 3) := by decide +kernel
theorem dX1_first_42 : decode cX1_first 42 = .ok (.land, 1) := by decide +kernel
theorem dX1_first_43 : decode cX1_first 43 = .ok (.goto 11, 3) := by decide +kernel
theorem dX1_first_46 : decode cX1_first 46 = .ok (.lload_n 2, 1) := by decide +kernel
theorem dX1_first_47 : decode cX1_first 47 = .ok (.bipush 12, 2) := by decide +kernel
theorem dX1_first_49 : decode cX1_first 49 = .ok (.lshr, 1) := by decide +kernel
theorem dX1_first_50 : decode cX1_first 50 = .ok (.ldc2_w 44, 3) := by decide +kernel
theorem dX1_first_53 : decode cX1_first 53 = .ok (.land, 1) := by decide +kernel
theorem dX1_first_54 : decode cX1_first 54 = .ok (.lmul, 1) := by decide +kernel
theorem dX1_first_55 : decode cX1_first 55 = .ok (.ladd, 1) := by decide +kernel
theorem dX1_first_56 : decode cX1_first 56 = .ok (.lstore 12, 2) := by decide +kernel
theorem dX1_first_58 : decode cX1_first 58 = .ok (.iload 8, 2) := by decide +kernel
theorem dX1_first_60 : decode cX1_first 60 = .ok (.ifCond .eq 16, 3) := by decide +kernel
theorem dX1_first_63 : decode cX1_first 63 = .ok (.aload_n 0, 1) := by decide +kernel
theorem dX1_first_64 : decode cX1_first 64 = .ok (.lload 12, 2) := by decide +kernel
theorem dX1_first_66 : decode cX1_first 66 = .ok (.iconst 1, 1) := by decide +kernel
theorem dX1_first_67 : decode cX1_first 67 = .ok (.iload 4, 2) := by decide +kernel
theorem dX1_first_69 : decode cX1_first 69 = .ok (.iconst 1, 1) := by decide +kernel
theorem dX1_first_70 : decode cX1_first 70 = .ok (.invokevirtual 82, 3) := by decide +kernel
theorem dX1_first_73 : decode cX1_first 73 = .ok (.goto 11, 3) := by decide +kernel
theorem dX1_first_76 : decode cX1_first 76 = .ok (.aload_n 0, 1) := by decide +kernel
theorem dX1_first_77 : decode cX1_first 77 = .ok (.iload 4, 2) := by decide +kernel
theorem dX1_first_79 : decode cX1_first 79 = .ok (.lload 12, 2) := by decide +kernel
theorem dX1_first_81 : decode cX1_first 81 = .ok (.invokevirtual 48, 3) := by decide +kernel
theorem dX1_first_84 : decode cX1_first 84 = .ok (.lstore 12, 2) := by decide +kernel
theorem dX1_first_86 : decode cX1_first 86 = .ok (.aload_n 0, 1) := by decide +kernel
theorem dX1_first_87 : decode cX1_first 87 = .ok (.getfield 14, 3) := by decide +kernel
theorem dX1_first_90 : decode cX1_first 90 = .ok (.ifCond .eq 5, 3) := by decide +kernel
theorem dX1_first_93 : decode cX1_first 93 = .ok (.lconst 0, 1) := by decide +kernel
theorem dX1_first_94 : decode cX1_first 94 = .ok (.lreturn, 1) := by decide +kernel
theorem dX1_first_95 : decode cX1_first 95 = .ok (.aload_n 0, 1) := by decide +kernel
theorem dX1_first_96 : decode cX1_first 96 = .ok (.getfield 8, 3) := by decide +kernel
theorem dX1_first_99 : decode cX1_first 99 = .ok (.lload 12, 2) := by decide +kernel
theorem dX1_first_101 : decode cX1_first 101 = .ok (.ldc2_w 53, 3) := by decide +kernel
theorem dX1_first_104 : decode cX1_first 104 = .ok (.ldiv, 1) := by decide +kernel
theorem dX1_first_105 : decode cX1_first 105 = .ok (.l2i, 1) := by decide +kernel
theorem dX1_first_106 : decode cX1_first 106 = .ok (.iaload, 1) := by decide +kernel
theorem dX1_first_107 : decode cX1_first 107 = .ok (.istore 14, 2) := by decide +kernel
theorem dX1_first_109 : decode cX1_first 109 = .ok (.iload 14, 2) := by decide +kernel
theorem dX1_first_111 : decode cX1_first 111 = .ok (.invokestatic 55, 3) := by decide +kernel
theorem dX1_first_114 : decode cX1_first 114 = .ok (.ifCond .eq 95, 3) := by decide +kernel
theorem dX1_first_117 : decode cX1_first 117 = .ok (.iload 14, 2) := by decide +kernel
theorem dX1_first_119 : decode cX1_first 119 = .ok (.invokestatic 59, 3) := by decide +kernel
theorem dX1_first_122 : decode cX1_first 122 = .ok (.ifCond .eq 87, 3) := by decide +kernel
theorem dX1_first_125 : decode cX1_first 125 = .ok (.iload 11, 2) := by decide +kernel
theorem dX1_first_127 : decode cX1_first 127 = .ok (.iconst 1, 1) := by decide +kernel
theorem dX1_first_128 : decode cX1_first 128 = .ok (.if_icmp .ne 7, 3) := by decide +kernel
theorem dX1_first_131 : decode cX1_first 131 = .ok (.iconst 1, 1) := by decide +kernel
theorem dX1_first_132 : decode cX1_first 132 = .ok (.goto 4, 3) := by decide +kernel
theorem dX1_first_135 : decode cX1_first 135 = .ok (.iconst 0, 1) := by decide +kernel
theorem dX1_first_136 : decode cX1_first 136 = .ok (.istore 15, 2) := by decide +kernel
theorem dX1_first_138 : decode cX1_first 138 = .ok (.iload 15, 2) := by decide +kernel
theorem dX1_first_140 : decode cX1_first 140 = .ok (.ifCond .eq 15, 3) := by decide +kernel
theorem dX1_first_143 : decode cX1_first 143 = .ok (.iload 14, 2) := by decide +kernel
theorem dX1_first_145 : decode cX1_first 145 = .ok (.bipush 10, 2) := by decide +kernel
theorem dX1_first_147 : decode cX1_first 147 = .ok (.ishr, 1) := by decide +kernel
theorem dX1_first_148 : decode cX1_first 148 = .ok (.sipush 1023, 3) := by decide +kernel
theorem dX1_first_151 : decode cX1_first 151 = .ok (.iand, 1) := by decide +kernel
theorem dX1_first_152 : decode cX1_first 152 = .ok (.ifCond .ne 7, 3) := by decide +kernel
theorem dX1_first_155 : decode cX1_first 155 = .ok (.iconst 1, 1) := by decide +kernel
theorem dX1_first_156 : decode cX1_first 156 = .ok (.goto 4, 3) := by decide +kernel
theorem dX1_first_159 : decode cX1_first 159 = .ok (.iconst 0, 1) := by decide +kernel
theorem dX1_first_160 : decode cX1_first 160 = .ok (.istore 16, 2) := by decide +kernel
theorem dX1_first_162 : decode cX1_first 162 = .ok (.iload 16, 2) := by decide +kernel
theorem dX1_first_164 : decode cX1_first 164 = .ok (.ifCond .eq 39, 3) := by decide +kernel
theorem dX1_first_167 : decode cX1_first 167 = .ok (.aload_n 0, 1) := by decide +kernel
theorem dX1_first_168 : decode cX1_first 168 = .ok (.iload 14, 2) := by decide +kernel
theorem dX1_first_170 : decode cX1_first 170 = .ok (.iload 5, 2) := by decide +kernel
theorem dX1_first_172 : decode cX1_first 172 = .ok (.iload 4, 2) := by decide +kernel
theorem dX1_first_174 : decode cX1_first 174 = .ok (.iload 6, 2) := by decide +kernel
theorem dX1_first_176 : decode cX1_first 176 = .ok (.invokevirtual 86, 3) := by decide +kernel
theorem dX1_first_179 : decode cX1_first 179 = .ok (.ifCond .eq 24, 3) := by decide +kernel
theorem dX1_first_182 : decode cX1_first 182 = .ok (.iload 14, 2) := by decide +kernel
theorem dX1_first_184 : decode cX1_first 184 = .ok (.iload 4, 2) := by decide +kernel
theorem dX1_first_186 : decode cX1_first 186 = .ok (.iload 7, 2) := by decide +kernel
theorem dX1_first_188 : decode cX1_first 188 = .ok (.invokestatic 65, 3) := by decide +kernel
theorem dX1_first_191 : decode cX1_first 191 = .ok (.ifCond .eq 12, 3) := by decide +kernel
theorem dX1_first_194 : decode cX1_first 194 = .ok (.iload 14, 2) := by decide +kernel
theorem dX1_first_196 : decode cX1_first 196 = .ok (.iload 15, 2) := by decide +kernel
theorem dX1_first_198 : decode cX1_first 198 = .ok (.lload_n 2, 1) := by decide +kernel
theorem dX1_first_199 : decode cX1_first 199 = .ok (.invokestatic 69, 3) := by decide +kernel
theorem dX1_first_202 : decode cX1_first 202 = .ok (.lreturn, 1) := by decide +kernel
theorem dX1_first_203 : decode cX1_first 203 = .ok (.iconst 0, 1) := by decide +kernel
theorem dX1_first_204 : decode cX1_first 204 = .ok (.istore 11, 2) := by decide +kernel
theorem dX1_first_206 : decode cX1_first 206 = .ok (.goto 43, 3) := by decide +kernel
theorem dX1_first_209 : decode cX1_first 209 = .ok (.iload 14, 2) := by decide +kernel
theorem dX1_first_211 : decode cX1_first 211 = .ok (.invokestatic 55, 3) := by decide +kernel
theorem dX1_first_214 : decode cX1_first 214 = .ok (.ifCond .eq 32, 3) := by decide +kernel
theorem dX1_first_217 : decode cX1_first 217 = .ok (.iload 14, 2) := by decide +kernel
theorem dX1_first_219 : decode cX1_first 219 = .ok (.iconst 4, 1) := by decide +kernel
theorem dX1_first_220 : decode cX1_first 220 = .ok (.invokestatic 38, 3) := by decide +kernel
theorem dX1_first_223 : decode cX1_first 223 = .ok (.ifCond .ne 23, 3) := by decide +kernel
theorem dX1_first_226 : decode cX1_first 226 = .ok (.iload 14, 2) := by decide +kernel
theorem dX1_first_228 : decode cX1_first 228 = .ok (.bipush 6, 2) := by decide +kernel
theorem dX1_first_230 : decode cX1_first 230 = .ok (.invokestatic 38, 3) := by decide +kernel
theorem dX1_first_233 : decode cX1_first 233 = .ok (.ifCond .ne 13, 3) := by decide +kernel
theorem dX1_first_236 : decode cX1_first 236 = .ok (.iload 14, 2) := by decide +kernel
theorem dX1_first_238 : decode cX1_first 238 = .ok (.bipush 7, 2) := by decide +kernel
theorem dX1_first_240 : decode cX1_first 240 = .ok (.invokestatic 38, 3) := by decide +kernel
theorem dX1_first_243 : decode cX1_first 243 = .ok (.ifCond .eq 6, 3) := by decide +kernel
theorem dX1_first_246 : decode cX1_first 246 = .ok (.iconst 0, 1) := by decide +kernel
theorem dX1_first_247 : decode cX1_first 247 = .ok (.istore 11, 2) := by decide +kernel
theorem dX1_first_249 : decode cX1_first 249 = .ok (.iload 14, 2) := by decide +kernel
theorem dX1_first_251 : decode cX1_first 251 = .ok (.bipush 10, 2) := by decide +kernel
theorem dX1_first_253 : decode cX1_first 253 = .ok (.iushr, 1) := by decide +kernel
theorem dX1_first_254 : decode cX1_first 254 = .ok (.i2l, 1) := by decide +kernel
theorem dX1_first_255 : decode cX1_first 255 = .ok (.bipush 12, 2) := by decide +kernel
theorem dX1_first_257 : decode cX1_first 257 = .ok (.lshl, 1) := by decide +kernel
theorem dX1_first_258 : decode cX1_first 258 = .ok (.lstore 9, 2) := by decide +kernel
theorem dX1_first_260 : decode cX1_first 260 = .ok (.iinc 11 (-1), 3) := by decide +kernel
theorem dX1_first_263 : decode cX1_first 263 = .ok (.goto (-244), 3) := by decide +kernel
theorem dX1_first_266 : decode cX1_first 266 = .ok (.aload_n 0, 1) := by decide +kernel
theorem dX1_first_267 : decode cX1_first 267 = .ok (.iload 4, 2) := by decide +kernel
theorem dX1_first_269 : decode cX1_first 269 = .ok (.bipush 12, 2) := by decide +kernel
theorem dX1_first_271 : decode cX1_first 271 = .ok (.bipush 13, 2) := by decide +kernel
theorem dX1_first_273 : decode cX1_first 273 = .ok (.bipush 15, 2) := by decide +kernel
theorem dX1_first_275 : decode cX1_first 275 = .ok (.invokevirtual 34, 3) := by decide +kernel
theorem dX1_first_278 : decode cX1_first 278 = .ok (.lconst 0, 1) := by decide +kernel
theorem dX1_first_279 : decode cX1_first 279 = .ok (.lreturn, 1) := by decide +kernel
theorem dX1_go_0 : decode cX1_go 0 = .ok (.iload_n 3, 1) := by decide +kernel
theorem dX1_go_1 : decode cX1_go 1 = .ok (.i2l, 1) := by decide +kernel
theorem dX1_go_2 : decode cX1_go 2 = .ok (.ldc2_w 90, 3) := by decide +kernel
theorem dX1_go_5 : decode cX1_go 5 = .ok (.land, 1) := by decide +kernel
theorem dX1_go_6 : decode cX1_go 6 = .ok (.lstore 4, 2) := by decide +kernel
theorem dX1_go_8 : decode cX1_go 8 = .ok (.aload_n 0, 1) := by decide +kernel
theorem dX1_go_9 : decode cX1_go 9 = .ok (.iconst 0, 1) := by decide +kernel
theorem dX1_go_10 : decode cX1_go 10 = .ok (.putfield 14, 3) := by decide +kernel
theorem dX1_go_13 : decode cX1_go 13 = .ok (.aload_n 0, 1) := by decide +kernel
theorem dX1_go_14 : decode cX1_go 14 = .ok (.lconst 0, 1) := by decide +kernel
theorem dX1_go_15 : decode cX1_go 15 = .ok (.putfield 73, 3) := by decide +kernel
theorem dX1_go_18 : decode cX1_go 18 = .ok (.aload_n 0, 1) := by decide +kernel
theorem dX1_go_19 : decode cX1_go 19 = .ok (.iconst 0, 1) := by decide +kernel
theorem dX1_go_20 : decode cX1_go 20 = .ok (.putfield 77, 3) := by decide +kernel
theorem dX1_go_23 : decode cX1_go 23 = .ok (.iload_n 1, 1) := by decide +kernel
theorem dX1_go_24 : decode cX1_go 24 = .ok (.iconst 2, 1) := by decide +kernel
theorem dX1_go_25 : decode cX1_go 25 = .ok (.if_icmp .lt 7, 3) := by decide +kernel
theorem dX1_go_28 : decode cX1_go 28 = .ok (.iconst 1, 1) := by decide +kernel
theorem dX1_go_29 : decode cX1_go 29 = .ok (.goto 4, 3) := by decide +kernel
theorem dX1_go_32 : decode cX1_go 32 = .ok (.iconst 0, 1) := by decide +kernel
theorem dX1_go_33 : decode cX1_go 33 = .ok (.istore 6, 2) := by decide +kernel
theorem dX1_go_35 : decode cX1_go 35 = .ok (.iload_n 1, 1) := by decide +kernel
theorem dX1_go_36 : decode cX1_go 36 = .ok (.iconst 2, 1) := by decide +kernel
theorem dX1_go_37 : decode cX1_go 37 = .ok (.irem, 1) := by decide +kernel
theorem dX1_go_38 : decode cX1_go 38 = .ok (.ifCond .ne 7, 3) := by decide +kernel
theorem dX1_go_41 : decode cX1_go 41 = .ok (.iconst 1, 1) := by decide +kernel
theorem dX1_go_42 : decode cX1_go 42 = .ok (.goto 4, 3) := by decide +kernel
theorem dX1_go_45 : decode cX1_go 45 = .ok (.iconst 0, 1) := by decide +kernel
theorem dX1_go_46 : decode cX1_go 46 = .ok (.istore 7, 2) := by decide +kernel
theorem dX1_go_48 : decode cX1_go 48 = .ok (.iload 6, 2) := by decide +kernel
theorem dX1_go_50 : decode cX1_go 50 = .ok (.ifCond .eq 46, 3) := by decide +kernel
theorem dX1_go_53 : decode cX1_go 53 = .ok (.aload_n 0, 1) := by decide +kernel
theorem dX1_go_54 : decode cX1_go 54 = .ok (.aload_n 0, 1) := by decide +kernel
theorem dX1_go_55 : decode cX1_go 55 = .ok (.getfield 21, 3) := by decide +kernel
theorem dX1_go_58 : decode cX1_go 58 = .ok (.lload 4, 2) := by decide +kernel
theorem dX1_go_60 : decode cX1_go 60 = .ok (.iload_n 2, 1) := by decide +kernel
theorem dX1_go_61 : decode cX1_go 61 = .ok (.iload 7, 2) := by decide +kernel
theorem dX1_go_63 : decode cX1_go 63 = .ok (.aload_n 0, 1) := by decide +kernel
theorem dX1_go_64 : decode cX1_go 64 = .ok (.iconst 2, 1) := by decide +kernel
theorem dX1_go_65 : decode cX1_go 65 = .ok (.invokevirtual 62, 3) := by decide +kernel
theorem dX1_go_68 : decode cX1_go 68 = .ok (.aload_n 0, 1) := by decide +kernel
theorem dX1_go_69 : decode cX1_go 69 = .ok (.iconst 3, 1) := by decide +kernel
theorem dX1_go_70 : decode cX1_go 70 = .ok (.invokevirtual 62, 3) := by decide +kernel
theorem dX1_go_73 : decode cX1_go 73 = .ok (.ifCond .ne 11, 3) := by decide +kernel
theorem dX1_go_76 : decode cX1_go 76 = .ok (.aload_n 0, 1) := by decide +kernel
theorem dX1_go_77 : decode cX1_go 77 = .ok (.iconst 1, 1) := by decide +kernel
theorem dX1_go_78 : decode cX1_go 78 = .ok (.invokevirtual 62, 3) := by decide +kernel
theorem dX1_go_81 : decode cX1_go 81 = .ok (.ifCond .eq 7, 3) := by decide +kernel
theorem dX1_go_84 : decode cX1_go 84 = .ok (.iconst 1, 1) := by decide +kernel
theorem dX1_go_85 : decode cX1_go 85 = .ok (.goto 4, 3) := by decide +kernel
theorem dX1_go_88 : decode cX1_go 88 = .ok (.iconst 0, 1) := by decide +kernel
theorem dX1_go_89 : decode cX1_go 89 = .ok (.iconst 1, 1) := by decide +kernel
theorem dX1_go_90 : decode cX1_go 90 = .ok (.invokevirtual 92, 3) := by decide +kernel
theorem dX1_go_93 : decode cX1_go 93 = .ok (.goto 27, 3) := by decide +kernel
theorem dX1_go_96 : decode cX1_go 96 = .ok (.aload_n 0, 1) := by decide +kernel
theorem dX1_go_97 : decode cX1_go 97 = .ok (.aload_n 0, 1) := by decide +kernel
theorem dX1_go_98 : decode cX1_go 98 = .ok (.getfield 18, 3) := by decide +kernel
theorem dX1_go_101 : decode cX1_go 101 = .ok (.lload 4, 2) := by decide +kernel
theorem dX1_go_103 : decode cX1_go 103 = .ok (.iload_n 2, 1) := by decide +kernel
theorem dX1_go_104 : decode cX1_go 104 = .ok (.iload 7, 2) := by decide +kernel
theorem dX1_go_106 : decode cX1_go 106 = .ok (.aload_n 0, 1) := by decide +kernel
theorem dX1_go_107 : decode cX1_go 107 = .ok (.iconst 0, 1) := by decide +kernel
theorem dX1_go_108 : decode cX1_go 108 = .ok (.invokevirtual 62, 3) := by decide +kernel
theorem dX1_go_111 : decode cX1_go 111 = .ok (.aload_n 0, 1) := by decide +kernel
theorem dX1_go_112 : decode cX1_go 112 = .ok (.iconst 1, 1) := by decide +kernel
theorem dX1_go_113 : decode cX1_go 113 = .ok (.invokevirtual 62, 3) := by decide +kernel
theorem dX1_go_116 : decode cX1_go 116 = .ok (.iconst 0, 1) := by decide +kernel
theorem dX1_go_117 : decode cX1_go 117 = .ok (.invokevirtual 92, 3) := by decide +kernel
theorem dX1_go_120 : decode cX1_go 120 = .ok (.lstore 8, 2) := by decide +kernel
theorem dX1_go_122 : decode cX1_go 122 = .ok (.aload_n 0, 1) := by decide +kernel
theorem dX1_go_123 : decode cX1_go 123 = .ok (.getfield 14, 3) := by decide +kernel
theorem dX1_go_126 : decode cX1_go 126 = .ok (.ifCond .ne 29, 3) := by decide +kernel
theorem dX1_go_129 : decode cX1_go 129 = .ok (.iload 6, 2) := by decide +kernel
theorem dX1_go_131 : decode cX1_go 131 = .ok (.ifCond .eq 15, 3) := by decide +kernel
theorem dX1_go_134 : decode cX1_go 134 = .ok (.aload_n 0, 1) := by decide +kernel
theorem dX1_go_135 : decode cX1_go 135 = .ok (.lload 8, 2) := by decide +kernel
theorem dX1_go_137 : decode cX1_go 137 = .ok (.iload_n 2, 1) := by decide +kernel
theorem dX1_go_138 : decode cX1_go 138 = .ok (.iload_n 2, 1) := by decide +kernel
theorem dX1_go_139 : decode cX1_go 139 = .ok (.iconst 0, 1) := by decide +kernel
theorem dX1_go_140 : decode cX1_go 140 = .ok (.invokevirtual 82, 3) := by decide +kernel
theorem dX1_go_143 : decode cX1_go 143 = .ok (.goto 10, 3) := by decide +kernel
theorem dX1_go_146 : decode cX1_go 146 = .ok (.aload_n 0, 1) := by decide +kernel
theorem dX1_go_147 : decode cX1_go 147 = .ok (.iload_n 2, 1) := by decide +kernel
theorem dX1_go_148 : decode cX1_go 148 = .ok (.lload 8, 2) := by decide +kernel
theorem dX1_go_150 : decode cX1_go 150 = .ok (.invokevirtual 48, 3) := by decide +kernel
theorem dX1_go_153 : decode cX1_go 153 = .ok (.lstore 8, 2) := by decide +kernel
theorem dX1_go_155 : decode cX1_go 155 = .ok (.aload_n 0, 1) := by decide +kernel
theorem dX1_go_156 : decode cX1_go 156 = .ok (.aload_n 0, 1) := by decide +kernel
theorem dX1_go_157 : decode cX1_go 157 = .ok (.getfield 14, 3) := by decide +kernel
theorem dX1_go_160 : decode cX1_go 160 = .ok (.ifCond .ne 8, 3) := by decide +kernel
theorem dX1_go_163 : decode cX1_go 163 = .ok (.lload 8, 2) := by decide +kernel
theorem dX1_go_165 : decode cX1_go 165 = .ok (.goto 4, 3) := by decide +kernel
theorem dX1_go_168 : decode cX1_go 168 = .ok (.lconst 0, 1) := by decide +kernel
theorem dX1_go_169 : decode cX1_go 169 = .ok (.putfield 96, 3) := by decide +kernel
theorem dX1_go_172 : decode cX1_go 172 = .ok (.return_, 1) := by decide +kernel
theorem dX1_pages_0 : decode cX1_pages 0 = .ok (.iload_n 1, 1) := by decide +kernel
theorem dX1_pages_1 : decode cX1_pages 1 = .ok (.iload_n 2, 1) := by decide +kernel
theorem dX1_pages_2 : decode cX1_pages 2 = .ok (.invokestatic 99, 3) := by decide +kernel
theorem dX1_pages_5 : decode cX1_pages 5 = .ok (.ifCond .eq 17, 3) := by decide +kernel
theorem dX1_pages_8 : decode cX1_pages 8 = .ok (.iload 4, 2) := by decide +kernel
theorem dX1_pages_10 : decode cX1_pages 10 = .ok (.iconst 1, 1) := by decide +kernel
theorem dX1_pages_11 : decode cX1_pages 11 = .ok (.if_icmp .lt 11, 3) := by decide +kernel
theorem dX1_pages_14 : decode cX1_pages 14 = .ok (.iload 4, 2) := by decide +kernel
theorem dX1_pages_16 : decode cX1_pages 16 = .ok (.sipush 1024, 3) := by decide +kernel
theorem dX1_pages_19 : decode cX1_pages 19 = .ok (.if_icmp .le 5, 3) := by decide +kernel
theorem dX1_pages_22 : decode cX1_pages 22 = .ok (.iconst (-1), 1) := by decide +kernel
theorem dX1_pages_23 : decode cX1_pages 23 = .ok (.ireturn, 1) := by decide +kernel
theorem dX1_pages_24 : decode cX1_pages 24 = .ok (.aload_n 0, 1) := by decide +kernel
theorem dX1_pages_25 : decode cX1_pages 25 = .ok (.getfield 14, 3) := by decide +kernel
theorem dX1_pages_28 : decode cX1_pages 28 = .ok (.istore 5, 2) := by decide +kernel
theorem dX1_pages_30 : decode cX1_pages 30 = .ok (.aload_n 0, 1) := by decide +kernel
theorem dX1_pages_31 : decode cX1_pages 31 = .ok (.getfield 96, 3) := by decide +kernel
theorem dX1_pages_34 : decode cX1_pages 34 = .ok (.lstore 6, 2) := by decide +kernel
theorem dX1_pages_36 : decode cX1_pages 36 = .ok (.aload_n 0, 1) := by decide +kernel
theorem dX1_pages_37 : decode cX1_pages 37 = .ok (.getfield 73, 3) := by decide +kernel
theorem dX1_pages_40 : decode cX1_pages 40 = .ok (.lstore 8, 2) := by decide +kernel
theorem dX1_pages_42 : decode cX1_pages 42 = .ok (.aload_n 0, 1) := by decide +kernel
theorem dX1_pages_43 : decode cX1_pages 43 = .ok (.getfield 77, 3) := by decide +kernel
theorem dX1_pages_46 : decode cX1_pages 46 = .ok (.istore 10, 2) := by decide +kernel
theorem dX1_pages_48 : decode cX1_pages 48 = .ok (.iconst 0, 1) := by decide +kernel
theorem dX1_pages_49 : decode cX1_pages 49 = .ok (.istore 11, 2) := by decide +kernel
theorem dX1_pages_51 : decode cX1_pages 51 = .ok (.iload_n 3, 1) := by decide +kernel
theorem dX1_pages_52 : decode cX1_pages 52 = .ok (.i2l, 1) := by decide +kernel
theorem dX1_pages_53 : decode cX1_pages 53 = .ok (.ldc2_w 90, 3) := by decide +kernel
theorem dX1_pages_56 : decode cX1_pages 56 = .ok (.land, 1) := by decide +kernel
theorem dX1_pages_57 : decode cX1_pages 57 = .ok (.lstore 12, 2) := by decide +kernel
theorem dX1_pages_59 : decode cX1_pages 59 = .ok (.iconst 0, 1) := by decide +kernel
theorem dX1_pages_60 : decode cX1_pages 60 = .ok (.istore 14, 2) := by decide +kernel
theorem dX1_pages_62 : decode cX1_pages 62 = .ok (.iload 14, 2) := by decide +kernel
theorem dX1_pages_64 : decode cX1_pages 64 = .ok (.iload 4, 2) := by decide +kernel
theorem dX1_pages_66 : decode cX1_pages 66 = .ok (.if_icmp .ge 53, 3) := by decide +kernel
theorem dX1_pages_69 : decode cX1_pages 69 = .ok (.lload 12, 2) := by decide +kernel
theorem dX1_pages_71 : decode cX1_pages 71 = .ok (.ldc2_w 90, 3) := by decide +kernel
theorem dX1_pages_74 : decode cX1_pages 74 = .ok (.lcmp, 1) := by decide +kernel
theorem dX1_pages_75 : decode cX1_pages 75 = .ok (.ifCond .gt 44, 3) := by decide +kernel
theorem dX1_pages_78 : decode cX1_pages 78 = .ok (.aload_n 0, 1) := by decide +kernel
theorem dX1_pages_79 : decode cX1_pages 79 = .ok (.iload_n 1, 1) := by decide +kernel
theorem dX1_pages_80 : decode cX1_pages 80 = .ok (.iload_n 2, 1) := by decide +kernel
theorem dX1_pages_81 : decode cX1_pages 81 = .ok (.lload 12, 2) := by decide +kernel
theorem dX1_pages_83 : decode cX1_pages 83 = .ok (.l2i, 1) := by decide +kernel
theorem dX1_pages_84 : decode cX1_pages 84 = .ok (.invokevirtual 102, 3) := by decide +kernel
theorem dX1_pages_87 : decode cX1_pages 87 = .ok (.aload_n 0, 1) := by decide +kernel
theorem dX1_pages_88 : decode cX1_pages 88 = .ok (.getfield 14, 3) := by decide +kernel
theorem dX1_pages_91 : decode cX1_pages 91 = .ok (.ifCond .ne 10, 3) := by decide +kernel
theorem dX1_pages_94 : decode cX1_pages 94 = .ok (.iload 11, 2) := by decide +kernel
theorem dX1_pages_96 : decode cX1_pages 96 = .ok (.iconst 1, 1) := by decide +kernel
theorem dX1_pages_97 : decode cX1_pages 97 = .ok (.iadd, 1) := by decide +kernel
theorem dX1_pages_98 : decode cX1_pages 98 = .ok (.goto 5, 3) := by decide +kernel
theorem dX1_pages_101 : decode cX1_pages 101 = .ok (.iload 11, 2) := by decide +kernel
theorem dX1_pages_103 : decode cX1_pages 103 = .ok (.istore 11, 2) := by decide +kernel
theorem dX1_pages_105 : decode cX1_pages 105 = .ok (.lload 12, 2) := by decide +kernel
theorem dX1_pages_107 : decode cX1_pages 107 = .ok (.ldc2_w 106, 3) := by decide +kernel
theorem dX1_pages_110 : decode cX1_pages 110 = .ok (.ladd, 1) := by decide +kernel
theorem dX1_pages_111 : decode cX1_pages 111 = .ok (.lstore 12, 2) := by decide +kernel
theorem dX1_pages_113 : decode cX1_pages 113 = .ok (.iinc 14 1, 3) := by decide +kernel
theorem dX1_pages_116 : decode cX1_pages 116 = .ok (.goto (-54), 3) := by decide +kernel
theorem dX1_pages_119 : decode cX1_pages 119 = .ok (.aload_n 0, 1) := by decide +kernel
theorem dX1_pages_120 : decode cX1_pages 120 = .ok (.iload 5, 2) := by decide +kernel
theorem dX1_pages_122 : decode cX1_pages 122 = .ok (.putfield 14, 3) := by decide +kernel
theorem dX1_pages_125 : decode cX1_pages 125 = .ok (.aload_n 0, 1) := by decide +kernel
theorem dX1_pages_126 : decode cX1_pages 126 = .ok (.lload 6, 2) := by decide +kernel
theorem dX1_pages_128 : decode cX1_pages 128 = .ok (.putfield 96, 3) := by decide +kernel
theorem dX1_pages_131 : decode cX1_pages 131 = .ok (.aload_n 0, 1) := by decide +kernel
theorem dX1_pages_132 : decode cX1_pages 132 = .ok (.lload 8, 2) := by decide +kernel
theorem dX1_pages_134 : decode cX1_pages 134 = .ok (.putfield 73, 3) := by decide +kernel
theorem dX1_pages_137 : decode cX1_pages 137 = .ok (.aload_n 0, 1) := by decide +kernel
theorem dX1_pages_138 : decode cX1_pages 138 = .ok (.iload 10, 2) := by decide +kernel
theorem dX1_pages_140 : decode cX1_pages 140 = .ok (.putfield 77, 3) := by decide +kernel
theorem dX1_pages_143 : decode cX1_pages 143 = .ok (.iload 11, 2) := by decide +kernel
theorem dX1_pages_145 : decode cX1_pages 145 = .ok (.ireturn, 1) := by decide +kernel
