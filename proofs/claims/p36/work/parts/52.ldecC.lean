theorem dL_isThereAndBack_101 : decode cL_isThereAndBack 101 = .ok (.invokevirtual 72, 3) := by decide +kernel
theorem dL_isThereAndBack_104 : decode cL_isThereAndBack 104 = .ok (.iload 5, 2) := by decide +kernel
theorem dL_isThereAndBack_106 : decode cL_isThereAndBack 106 = .ok (.if_icmp .ne 17, 3) := by decide +kernel
theorem dL_isThereAndBack_109 : decode cL_isThereAndBack 109 = .ok (.aload_n 0, 1) := by decide +kernel
theorem dL_isThereAndBack_110 : decode cL_isThereAndBack 110 = .ok (.iload_n 1, 1) := by decide +kernel
theorem dL_isThereAndBack_111 : decode cL_isThereAndBack 111 = .ok (.invokevirtual 94, 3) := by decide +kernel
theorem dL_isThereAndBack_114 : decode cL_isThereAndBack 114 = .ok (.iload 6, 2) := by decide +kernel
theorem dL_isThereAndBack_116 : decode cL_isThereAndBack 116 = .ok (.if_icmp .ne 7, 3) := by decide +kernel
theorem dL_isThereAndBack_119 : decode cL_isThereAndBack 119 = .ok (.iconst 1, 1) := by decide +kernel
theorem dL_isThereAndBack_120 : decode cL_isThereAndBack 120 = .ok (.goto 4, 3) := by decide +kernel
theorem dL_isThereAndBack_123 : decode cL_isThereAndBack 123 = .ok (.iconst 0, 1) := by decide +kernel
theorem dL_isThereAndBack_124 : decode cL_isThereAndBack 124 = .ok (.ireturn, 1) := by decide +kernel
theorem dL_isSnailSo_0 : decode cL_isSnailSo 0 = .ok (.aload_n 0, 1) := by decide +kernel
theorem dL_isSnailSo_1 : decode cL_isSnailSo 1 = .ok (.iload_n 1, 1) := by decide +kernel
theorem dL_isSnailSo_2 : decode cL_isSnailSo 2 = .ok (.invokevirtual 82, 3) := by decide +kernel
theorem dL_isSnailSo_5 : decode cL_isSnailSo 5 = .ok (.istore_n 2, 1) := by decide +kernel
theorem dL_isSnailSo_6 : decode cL_isSnailSo 6 = .ok (.iconst 0, 1) := by decide +kernel
theorem dL_isSnailSo_7 : decode cL_isSnailSo 7 = .ok (.istore_n 3, 1) := by decide +kernel
theorem dL_isSnailSo_8 : decode cL_isSnailSo 8 = .ok (.iconst 0, 1) := by decide +kernel
theorem dL_isSnailSo_9 : decode cL_isSnailSo 9 = .ok (.istore 4, 2) := by decide +kernel
theorem dL_isSnailSo_11 : decode cL_isSnailSo 11 = .ok (.aload_n 0, 1) := by decide +kernel
theorem dL_isSnailSo_12 : decode cL_isSnailSo 12 = .ok (.iload_n 1, 1) := by decide +kernel
theorem dL_isSnailSo_13 : decode cL_isSnailSo 13 = .ok (.invokevirtual 97, 3) := by decide +kernel
theorem dL_isSnailSo_16 : decode cL_isSnailSo 16 = .ok (.aload_n 0, 1) := by decide +kernel
theorem dL_isSnailSo_17 : decode cL_isSnailSo 17 = .ok (.iload_n 1, 1) := by decide +kernel
theorem dL_isSnailSo_18 : decode cL_isSnailSo 18 = .ok (.invokevirtual 18, 3) := by decide +kernel
theorem dL_isSnailSo_21 : decode cL_isSnailSo 21 = .ok (.if_icmp .ne 52, 3) := by decide +kernel
theorem dL_isSnailSo_24 : decode cL_isSnailSo 24 = .ok (.aload_n 0, 1) := by decide +kernel
theorem dL_isSnailSo_25 : decode cL_isSnailSo 25 = .ok (.iload_n 1, 1) := by decide +kernel
theorem dL_isSnailSo_26 : decode cL_isSnailSo 26 = .ok (.invokevirtual 100, 3) := by decide +kernel
theorem dL_isSnailSo_29 : decode cL_isSnailSo 29 = .ok (.aload_n 0, 1) := by decide +kernel
theorem dL_isSnailSo_30 : decode cL_isSnailSo 30 = .ok (.invokevirtual 50, 3) := by decide +kernel
theorem dL_isSnailSo_33 : decode cL_isSnailSo 33 = .ok (.imul, 1) := by decide +kernel
theorem dL_isSnailSo_34 : decode cL_isSnailSo 34 = .ok (.iload_n 2, 1) := by decide +kernel
theorem dL_isSnailSo_35 : decode cL_isSnailSo 35 = .ok (.iadd, 1) := by decide +kernel
theorem dL_isSnailSo_36 : decode cL_isSnailSo 36 = .ok (.aload_n 0, 1) := by decide +kernel
theorem dL_isSnailSo_37 : decode cL_isSnailSo 37 = .ok (.iload_n 1, 1) := by decide +kernel
theorem dL_isSnailSo_38 : decode cL_isSnailSo 38 = .ok (.invokevirtual 18, 3) := by decide +kernel
theorem dL_isSnailSo_41 : decode cL_isSnailSo 41 = .ok (.if_icmp .ne 32, 3) := by decide +kernel
theorem dL_isSnailSo_44 : decode cL_isSnailSo 44 = .ok (.iload_n 2, 1) := by decide +kernel
theorem dL_isSnailSo_45 : decode cL_isSnailSo 45 = .ok (.ifCond .lt 28, 3) := by decide +kernel
theorem dL_isSnailSo_48 : decode cL_isSnailSo 48 = .ok (.iload_n 2, 1) := by decide +kernel
theorem dL_isSnailSo_49 : decode cL_isSnailSo 49 = .ok (.aload_n 0, 1) := by decide +kernel
theorem dL_isSnailSo_50 : decode cL_isSnailSo 50 = .ok (.invokevirtual 50, 3) := by decide +kernel
theorem dL_isSnailSo_53 : decode cL_isSnailSo 53 = .ok (.if_icmp .ge 20, 3) := by decide +kernel
theorem dL_isSnailSo_56 : decode cL_isSnailSo 56 = .ok (.aload_n 0, 1) := by decide +kernel
theorem dL_isSnailSo_57 : decode cL_isSnailSo 57 = .ok (.iload_n 1, 1) := by decide +kernel
theorem dL_isSnailSo_58 : decode cL_isSnailSo 58 = .ok (.aload_n 0, 1) := by decide +kernel
theorem dL_isSnailSo_59 : decode cL_isSnailSo 59 = .ok (.iload_n 1, 1) := by decide +kernel
theorem dL_isSnailSo_60 : decode cL_isSnailSo 60 = .ok (.invokevirtual 72, 3) := by decide +kernel
theorem dL_isSnailSo_63 : decode cL_isSnailSo 63 = .ok (.invokevirtual 63, 3) := by decide +kernel
theorem dL_isSnailSo_66 : decode cL_isSnailSo 66 = .ok (.ifCond .ne 7, 3) := by decide +kernel
theorem dL_isSnailSo_69 : decode cL_isSnailSo 69 = .ok (.iconst 1, 1) := by decide +kernel
theorem dL_isSnailSo_70 : decode cL_isSnailSo 70 = .ok (.goto 4, 3) := by decide +kernel
theorem dL_isSnailSo_73 : decode cL_isSnailSo 73 = .ok (.iconst 0, 1) := by decide +kernel
theorem dL_isSnailSo_74 : decode cL_isSnailSo 74 = .ok (.istore 5, 2) := by decide +kernel
theorem dL_isSnailSo_76 : decode cL_isSnailSo 76 = .ok (.iconst 0, 1) := by decide +kernel
theorem dL_isSnailSo_77 : decode cL_isSnailSo 77 = .ok (.istore 6, 2) := by decide +kernel
theorem dL_isSnailSo_79 : decode cL_isSnailSo 79 = .ok (.iload 6, 2) := by decide +kernel
theorem dL_isSnailSo_81 : decode cL_isSnailSo 81 = .ok (.iconst 4, 1) := by decide +kernel
theorem dL_isSnailSo_82 : decode cL_isSnailSo 82 = .ok (.if_icmp .ge 49, 3) := by decide +kernel
theorem dL_isSnailSo_85 : decode cL_isSnailSo 85 = .ok (.iload_n 3, 1) := by decide +kernel
theorem dL_isSnailSo_86 : decode cL_isSnailSo 86 = .ok (.aload_n 0, 1) := by decide +kernel
theorem dL_isSnailSo_87 : decode cL_isSnailSo 87 = .ok (.iload_n 1, 1) := by decide +kernel
theorem dL_isSnailSo_88 : decode cL_isSnailSo 88 = .ok (.iload 6, 2) := by decide +kernel
theorem dL_isSnailSo_90 : decode cL_isSnailSo 90 = .ok (.invokevirtual 63, 3) := by decide +kernel
theorem dL_isSnailSo_93 : decode cL_isSnailSo 93 = .ok (.iconst 1, 1) := by decide +kernel
theorem dL_isSnailSo_94 : decode cL_isSnailSo 94 = .ok (.if_icmp .ne 7, 3) := by decide +kernel
theorem dL_isSnailSo_97 : decode cL_isSnailSo 97 = .ok (.iconst 1, 1) := by decide +kernel
theorem dL_isSnailSo_98 : decode cL_isSnailSo 98 = .ok (.goto 4, 3) := by decide +kernel
theorem dL_isSnailSo_101 : decode cL_isSnailSo 101 = .ok (.iconst 0, 1) := by decide +kernel
theorem dL_isSnailSo_102 : decode cL_isSnailSo 102 = .ok (.iadd, 1) := by decide +kernel
theorem dL_isSnailSo_103 : decode cL_isSnailSo 103 = .ok (.istore_n 3, 1) := by decide +kernel
theorem dL_isSnailSo_104 : decode cL_isSnailSo 104 = .ok (.iload 4, 2) := by decide +kernel
theorem dL_isSnailSo_106 : decode cL_isSnailSo 106 = .ok (.aload_n 0, 1) := by decide +kernel
theorem dL_isSnailSo_107 : decode cL_isSnailSo 107 = .ok (.iload_n 1, 1) := by decide +kernel
theorem dL_isSnailSo_108 : decode cL_isSnailSo 108 = .ok (.iload 6, 2) := by decide +kernel
theorem dL_isSnailSo_110 : decode cL_isSnailSo 110 = .ok (.invokevirtual 63, 3) := by decide +kernel
theorem dL_isSnailSo_113 : decode cL_isSnailSo 113 = .ok (.iconst (-1), 1) := by decide +kernel
theorem dL_isSnailSo_114 : decode cL_isSnailSo 114 = .ok (.if_icmp .ne 7, 3) := by decide +kernel
theorem dL_isSnailSo_117 : decode cL_isSnailSo 117 = .ok (.iconst 1, 1) := by decide +kernel
theorem dL_isSnailSo_118 : decode cL_isSnailSo 118 = .ok (.goto 4, 3) := by decide +kernel
theorem dL_isSnailSo_121 : decode cL_isSnailSo 121 = .ok (.iconst 0, 1) := by decide +kernel
theorem dL_isSnailSo_122 : decode cL_isSnailSo 122 = .ok (.iadd, 1) := by decide +kernel
theorem dL_isSnailSo_123 : decode cL_isSnailSo 123 = .ok (.istore 4, 2) := by decide +kernel
theorem dL_isSnailSo_125 : decode cL_isSnailSo 125 = .ok (.iinc 6 1, 3) := by decide +kernel
theorem dL_isSnailSo_128 : decode cL_isSnailSo 128 = .ok (.goto (-49), 3) := by decide +kernel
theorem dL_isSnailSo_131 : decode cL_isSnailSo 131 = .ok (.iload 5, 2) := by decide +kernel
theorem dL_isSnailSo_133 : decode cL_isSnailSo 133 = .ok (.ifCond .eq 60, 3) := by decide +kernel
theorem dL_isSnailSo_136 : decode cL_isSnailSo 136 = .ok (.iload_n 3, 1) := by decide +kernel
theorem dL_isSnailSo_137 : decode cL_isSnailSo 137 = .ok (.iconst 1, 1) := by decide +kernel
theorem dL_isSnailSo_138 : decode cL_isSnailSo 138 = .ok (.if_icmp .ne 55, 3) := by decide +kernel
theorem dL_isSnailSo_141 : decode cL_isSnailSo 141 = .ok (.iload 4, 2) := by decide +kernel
theorem dL_isSnailSo_143 : decode cL_isSnailSo 143 = .ok (.iconst 1, 1) := by decide +kernel
theorem dL_isSnailSo_144 : decode cL_isSnailSo 144 = .ok (.if_icmp .ne 49, 3) := by decide +kernel
theorem dL_isSnailSo_147 : decode cL_isSnailSo 147 = .ok (.aload_n 0, 1) := by decide +kernel
theorem dL_isSnailSo_148 : decode cL_isSnailSo 148 = .ok (.iload_n 1, 1) := by decide +kernel
theorem dL_isSnailSo_149 : decode cL_isSnailSo 149 = .ok (.invokevirtual 56, 3) := by decide +kernel
theorem dL_isSnailSo_152 : decode cL_isSnailSo 152 = .ok (.ifCond .lt 41, 3) := by decide +kernel
theorem dL_isSnailSo_155 : decode cL_isSnailSo 155 = .ok (.aload_n 0, 1) := by decide +kernel
theorem dL_isSnailSo_156 : decode cL_isSnailSo 156 = .ok (.iload_n 1, 1) := by decide +kernel
theorem dL_isSnailSo_157 : decode cL_isSnailSo 157 = .ok (.invokevirtual 56, 3) := by decide +kernel
theorem dL_isSnailSo_160 : decode cL_isSnailSo 160 = .ok (.bipush 17, 2) := by decide +kernel
theorem dL_isSnailSo_162 : decode cL_isSnailSo 162 = .ok (.if_icmp .ge 31, 3) := by decide +kernel
theorem dL_isSnailSo_165 : decode cL_isSnailSo 165 = .ok (.aload_n 0, 1) := by decide +kernel
theorem dL_isSnailSo_166 : decode cL_isSnailSo 166 = .ok (.iload_n 1, 1) := by decide +kernel
theorem dL_isSnailSo_167 : decode cL_isSnailSo 167 = .ok (.invokevirtual 103, 3) := by decide +kernel
theorem dL_isSnailSo_170 : decode cL_isSnailSo 170 = .ok (.ldc2_w 107, 3) := by decide +kernel
theorem dL_isSnailSo_173 : decode cL_isSnailSo 173 = .ok (.dcmp .l, 1) := by decide +kernel
theorem dL_isSnailSo_174 : decode cL_isSnailSo 174 = .ok (.ifCond .lt 19, 3) := by decide +kernel
theorem dL_isSnailSo_177 : decode cL_isSnailSo 177 = .ok (.aload_n 0, 1) := by decide +kernel
theorem dL_isSnailSo_178 : decode cL_isSnailSo 178 = .ok (.iload_n 1, 1) := by decide +kernel
theorem dL_isSnailSo_179 : decode cL_isSnailSo 179 = .ok (.invokevirtual 103, 3) := by decide +kernel
theorem dL_isSnailSo_182 : decode cL_isSnailSo 182 = .ok (.ldc2_w 109, 3) := by decide +kernel
theorem dL_isSnailSo_185 : decode cL_isSnailSo 185 = .ok (.dcmp .g, 1) := by decide +kernel
theorem dL_isSnailSo_186 : decode cL_isSnailSo 186 = .ok (.ifCond .gt 7, 3) := by decide +kernel
theorem dL_isSnailSo_189 : decode cL_isSnailSo 189 = .ok (.iconst 1, 1) := by decide +kernel
theorem dL_isSnailSo_190 : decode cL_isSnailSo 190 = .ok (.goto 4, 3) := by decide +kernel
theorem dL_isSnailSo_193 : decode cL_isSnailSo 193 = .ok (.iconst 0, 1) := by decide +kernel
theorem dL_isSnailSo_194 : decode cL_isSnailSo 194 = .ok (.istore 5, 2) := by decide +kernel
theorem dL_isSnailSo_196 : decode cL_isSnailSo 196 = .ok (.iload 5, 2) := by decide +kernel
theorem dL_isSnailSo_198 : decode cL_isSnailSo 198 = .ok (.ifCond .eq 69, 3) := by decide +kernel
theorem dL_isSnailSo_201 : decode cL_isSnailSo 201 = .ok (.aload_n 0, 1) := by decide +kernel
theorem dL_isSnailSo_202 : decode cL_isSnailSo 202 = .ok (.iload_n 1, 1) := by decide +kernel
theorem dL_isSnailSo_203 : decode cL_isSnailSo 203 = .ok (.invokevirtual 27, 3) := by decide +kernel
theorem dL_isSnailSo_206 : decode cL_isSnailSo 206 = .ok (.aload_n 0, 1) := by decide +kernel
theorem dL_isSnailSo_207 : decode cL_isSnailSo 207 = .ok (.iload_n 1, 1) := by decide +kernel
theorem dL_isSnailSo_208 : decode cL_isSnailSo 208 = .ok (.invokevirtual 18, 3) := by decide +kernel
theorem dL_isSnailSo_211 : decode cL_isSnailSo 211 = .ok (.invokestatic 33, 3) := by decide +kernel
theorem dL_isSnailSo_214 : decode cL_isSnailSo 214 = .ok (.aload_n 0, 1) := by decide +kernel
theorem dL_isSnailSo_215 : decode cL_isSnailSo 215 = .ok (.iload_n 1, 1) := by decide +kernel
theorem dL_isSnailSo_216 : decode cL_isSnailSo 216 = .ok (.invokevirtual 85, 3) := by decide +kernel
theorem dL_isSnailSo_219 : decode cL_isSnailSo 219 = .ok (.isub, 1) := by decide +kernel
theorem dL_isSnailSo_220 : decode cL_isSnailSo 220 = .ok (.if_icmp .lt 47, 3) := by decide +kernel
theorem dL_isSnailSo_223 : decode cL_isSnailSo 223 = .ok (.aload_n 0, 1) := by decide +kernel
theorem dL_isSnailSo_224 : decode cL_isSnailSo 224 = .ok (.aload_n 0, 1) := by decide +kernel
theorem dL_isSnailSo_225 : decode cL_isSnailSo 225 = .ok (.invokevirtual 111, 3) := by decide +kernel
theorem dL_isSnailSo_228 : decode cL_isSnailSo 228 = .ok (.invokevirtual 18, 3) := by decide +kernel
theorem dL_isSnailSo_231 : decode cL_isSnailSo 231 = .ok (.aload_n 0, 1) := by decide +kernel
theorem dL_isSnailSo_232 : decode cL_isSnailSo 232 = .ok (.iload_n 1, 1) := by decide +kernel
theorem dL_isSnailSo_233 : decode cL_isSnailSo 233 = .ok (.invokevirtual 18, 3) := by decide +kernel
theorem dL_isSnailSo_236 : decode cL_isSnailSo 236 = .ok (.if_icmp .lt 31, 3) := by decide +kernel
theorem dL_isSnailSo_239 : decode cL_isSnailSo 239 = .ok (.aload_n 0, 1) := by decide +kernel
theorem dL_isSnailSo_240 : decode cL_isSnailSo 240 = .ok (.aload_n 0, 1) := by decide +kernel
theorem dL_isSnailSo_241 : decode cL_isSnailSo 241 = .ok (.invokevirtual 111, 3) := by decide +kernel
theorem dL_isSnailSo_244 : decode cL_isSnailSo 244 = .ok (.invokevirtual 18, 3) := by decide +kernel
theorem dL_isSnailSo_247 : decode cL_isSnailSo 247 = .ok (.aload_n 0, 1) := by decide +kernel
theorem dL_isSnailSo_248 : decode cL_isSnailSo 248 = .ok (.iload_n 1, 1) := by decide +kernel
theorem dL_isSnailSo_249 : decode cL_isSnailSo 249 = .ok (.invokevirtual 18, 3) := by decide +kernel
theorem dL_isSnailSo_252 : decode cL_isSnailSo 252 = .ok (.if_icmp .gt 11, 3) := by decide +kernel
theorem dL_isSnailSo_255 : decode cL_isSnailSo 255 = .ok (.aload_n 0, 1) := by decide +kernel
theorem dL_isSnailSo_256 : decode cL_isSnailSo 256 = .ok (.invokevirtual 111, 3) := by decide +kernel
theorem dL_isSnailSo_259 : decode cL_isSnailSo 259 = .ok (.iload_n 1, 1) := by decide +kernel
theorem dL_isSnailSo_260 : decode cL_isSnailSo 260 = .ok (.if_icmp .gt 7, 3) := by decide +kernel
theorem dL_isSnailSo_263 : decode cL_isSnailSo 263 = .ok (.iconst 1, 1) := by decide +kernel
theorem dL_isSnailSo_264 : decode cL_isSnailSo 264 = .ok (.goto 4, 3) := by decide +kernel
theorem dL_isSnailSo_267 : decode cL_isSnailSo 267 = .ok (.iconst 0, 1) := by decide +kernel
theorem dL_isSnailSo_268 : decode cL_isSnailSo 268 = .ok (.ireturn, 1) := by decide +kernel
theorem dL_law_0 : decode cL_law 0 = .ok (.new 19, 3) := by decide +kernel
theorem dL_law_3 : decode cL_law 3 = .ok (.dup, 1) := by decide +kernel
theorem dL_law_4 : decode cL_law 4 = .ok (.invokespecial 114, 3) := by decide +kernel
theorem dL_law_7 : decode cL_law 7 = .ok (.astore_n 1, 1) := by decide +kernel
theorem dL_law_8 : decode cL_law 8 = .ok (.iconst 0, 1) := by decide +kernel
theorem dL_law_9 : decode cL_law 9 = .ok (.istore_n 2, 1) := by decide +kernel
theorem dL_law_10 : decode cL_law 10 = .ok (.iload_n 2, 1) := by decide +kernel
theorem dL_law_11 : decode cL_law 11 = .ok (.bipush 52, 2) := by decide +kernel
theorem dL_law_13 : decode cL_law 13 = .ok (.if_icmp .ge 66, 3) := by decide +kernel
theorem dL_law_16 : decode cL_law 16 = .ok (.aload_n 0, 1) := by decide +kernel
theorem dL_law_17 : decode cL_law 17 = .ok (.iload_n 2, 1) := by decide +kernel
theorem dL_law_18 : decode cL_law 18 = .ok (.invokestatic 115, 3) := by decide +kernel
theorem dL_law_21 : decode cL_law 21 = .ok (.istore_n 3, 1) := by decide +kernel
theorem dL_law_22 : decode cL_law 22 = .ok (.aload_n 0, 1) := by decide +kernel
theorem dL_law_23 : decode cL_law 23 = .ok (.iload_n 2, 1) := by decide +kernel
theorem dL_law_24 : decode cL_law 24 = .ok (.bipush 12, 2) := by decide +kernel
theorem dL_law_26 : decode cL_law 26 = .ok (.iadd, 1) := by decide +kernel
theorem dL_law_27 : decode cL_law 27 = .ok (.invokestatic 115, 3) := by decide +kernel
theorem dL_law_30 : decode cL_law 30 = .ok (.istore 4, 2) := by decide +kernel
theorem dL_law_32 : decode cL_law 32 = .ok (.aload_n 1, 1) := by decide +kernel
theorem dL_law_33 : decode cL_law 33 = .ok (.iload_n 3, 1) := by decide +kernel
theorem dL_law_34 : decode cL_law 34 = .ok (.iload 4, 2) := by decide +kernel
theorem dL_law_36 : decode cL_law 36 = .ok (.invokestatic 119, 3) := by decide +kernel
theorem dL_law_39 : decode cL_law 39 = .ok (.ifCond .eq 32, 3) := by decide +kernel
theorem dL_law_42 : decode cL_law 42 = .ok (.aload_n 1, 1) := by decide +kernel
theorem dL_law_43 : decode cL_law 43 = .ok (.iload_n 3, 1) := by decide +kernel
theorem dL_law_44 : decode cL_law 44 = .ok (.iconst 4, 1) := by decide +kernel
theorem dL_law_45 : decode cL_law 45 = .ok (.ishr, 1) := by decide +kernel
theorem dL_law_46 : decode cL_law 46 = .ok (.iconst 3, 1) := by decide +kernel
theorem dL_law_47 : decode cL_law 47 = .ok (.invokestatic 8, 3) := by decide +kernel
theorem dL_law_50 : decode cL_law 50 = .ok (.invokestatic 122, 3) := by decide +kernel
theorem dL_law_53 : decode cL_law 53 = .ok (.ifCond .eq 18, 3) := by decide +kernel
theorem dL_law_56 : decode cL_law 56 = .ok (.aload_n 1, 1) := by decide +kernel
theorem dL_law_57 : decode cL_law 57 = .ok (.iload 4, 2) := by decide +kernel
theorem dL_law_59 : decode cL_law 59 = .ok (.iconst 2, 1) := by decide +kernel
theorem dL_law_60 : decode cL_law 60 = .ok (.ishr, 1) := by decide +kernel
theorem dL_law_61 : decode cL_law 61 = .ok (.iconst 4, 1) := by decide +kernel
theorem dL_law_62 : decode cL_law 62 = .ok (.invokestatic 8, 3) := by decide +kernel
theorem dL_law_65 : decode cL_law 65 = .ok (.invokestatic 122, 3) := by decide +kernel
theorem dL_law_68 : decode cL_law 68 = .ok (.ifCond .ne 5, 3) := by decide +kernel
theorem dL_law_71 : decode cL_law 71 = .ok (.iconst 0, 1) := by decide +kernel
theorem dL_law_72 : decode cL_law 72 = .ok (.ireturn, 1) := by decide +kernel
theorem dL_law_73 : decode cL_law 73 = .ok (.iinc 2 1, 3) := by decide +kernel
theorem dL_law_76 : decode cL_law 76 = .ok (.goto (-66), 3) := by decide +kernel
theorem dL_law_79 : decode cL_law 79 = .ok (.iconst 1, 1) := by decide +kernel
theorem dL_law_80 : decode cL_law 80 = .ok (.ireturn, 1) := by decide +kernel
