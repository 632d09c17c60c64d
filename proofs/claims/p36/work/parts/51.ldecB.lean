theorem dL_isFelt_136 : decode cL_isFelt 136 = .ok (.invokestatic 33, 3) := by decide +kernel
theorem dL_isFelt_139 : decode cL_isFelt 139 = .ok (.iadd, 1) := by decide +kernel
theorem dL_isFelt_140 : decode cL_isFelt 140 = .ok (.if_icmp .ne 7, 3) := by decide +kernel
theorem dL_isFelt_143 : decode cL_isFelt 143 = .ok (.iconst 1, 1) := by decide +kernel
theorem dL_isFelt_144 : decode cL_isFelt 144 = .ok (.goto 4, 3) := by decide +kernel
theorem dL_isFelt_147 : decode cL_isFelt 147 = .ok (.iconst 0, 1) := by decide +kernel
theorem dL_isFelt_148 : decode cL_isFelt 148 = .ok (.istore 12, 2) := by decide +kernel
theorem dL_isFelt_150 : decode cL_isFelt 150 = .ok (.iload 12, 2) := by decide +kernel
theorem dL_isFelt_152 : decode cL_isFelt 152 = .ok (.ifCond .eq 76, 3) := by decide +kernel
theorem dL_isFelt_155 : decode cL_isFelt 155 = .ok (.aload_n 0, 1) := by decide +kernel
theorem dL_isFelt_156 : decode cL_isFelt 156 = .ok (.iload_n 1, 1) := by decide +kernel
theorem dL_isFelt_157 : decode cL_isFelt 157 = .ok (.invokevirtual 56, 3) := by decide +kernel
theorem dL_isFelt_160 : decode cL_isFelt 160 = .ok (.iload 7, 2) := by decide +kernel
theorem dL_isFelt_162 : decode cL_isFelt 162 = .ok (.bipush 16, 2) := by decide +kernel
theorem dL_isFelt_164 : decode cL_isFelt 164 = .ok (.if_icmp .ge 10, 3) := by decide +kernel
theorem dL_isFelt_167 : decode cL_isFelt 167 = .ok (.iload 7, 2) := by decide +kernel
theorem dL_isFelt_169 : decode cL_isFelt 169 = .ok (.iconst 1, 1) := by decide +kernel
theorem dL_isFelt_170 : decode cL_isFelt 170 = .ok (.iadd, 1) := by decide +kernel
theorem dL_isFelt_171 : decode cL_isFelt 171 = .ok (.goto 5, 3) := by decide +kernel
theorem dL_isFelt_174 : decode cL_isFelt 174 = .ok (.bipush 16, 2) := by decide +kernel
theorem dL_isFelt_176 : decode cL_isFelt 176 = .ok (.if_icmp .ne 52, 3) := by decide +kernel
theorem dL_isFelt_179 : decode cL_isFelt 179 = .ok (.aload_n 0, 1) := by decide +kernel
theorem dL_isFelt_180 : decode cL_isFelt 180 = .ok (.iload_n 1, 1) := by decide +kernel
theorem dL_isFelt_181 : decode cL_isFelt 181 = .ok (.aload_n 0, 1) := by decide +kernel
theorem dL_isFelt_182 : decode cL_isFelt 182 = .ok (.iload_n 1, 1) := by decide +kernel
theorem dL_isFelt_183 : decode cL_isFelt 183 = .ok (.invokevirtual 56, 3) := by decide +kernel
theorem dL_isFelt_186 : decode cL_isFelt 186 = .ok (.iconst 1, 1) := by decide +kernel
theorem dL_isFelt_187 : decode cL_isFelt 187 = .ok (.isub, 1) := by decide +kernel
theorem dL_isFelt_188 : decode cL_isFelt 188 = .ok (.invokevirtual 79, 3) := by decide +kernel
theorem dL_isFelt_191 : decode cL_isFelt 191 = .ok (.iload 4, 2) := by decide +kernel
theorem dL_isFelt_193 : decode cL_isFelt 193 = .ok (.if_icmp .ne 35, 3) := by decide +kernel
theorem dL_isFelt_196 : decode cL_isFelt 196 = .ok (.aload_n 0, 1) := by decide +kernel
theorem dL_isFelt_197 : decode cL_isFelt 197 = .ok (.iload_n 1, 1) := by decide +kernel
theorem dL_isFelt_198 : decode cL_isFelt 198 = .ok (.invokevirtual 69, 3) := by decide +kernel
theorem dL_isFelt_201 : decode cL_isFelt 201 = .ok (.iload 4, 2) := by decide +kernel
theorem dL_isFelt_203 : decode cL_isFelt 203 = .ok (.ifCond .le 7, 3) := by decide +kernel
theorem dL_isFelt_206 : decode cL_isFelt 206 = .ok (.iconst 1, 1) := by decide +kernel
theorem dL_isFelt_207 : decode cL_isFelt 207 = .ok (.goto 14, 3) := by decide +kernel
theorem dL_isFelt_210 : decode cL_isFelt 210 = .ok (.iload 4, 2) := by decide +kernel
theorem dL_isFelt_212 : decode cL_isFelt 212 = .ok (.ifCond .ge 7, 3) := by decide +kernel
theorem dL_isFelt_215 : decode cL_isFelt 215 = .ok (.iconst (-1), 1) := by decide +kernel
theorem dL_isFelt_216 : decode cL_isFelt 216 = .ok (.goto 5, 3) := by decide +kernel
theorem dL_isFelt_219 : decode cL_isFelt 219 = .ok (.iload 8, 2) := by decide +kernel
theorem dL_isFelt_221 : decode cL_isFelt 221 = .ok (.if_icmp .ne 7, 3) := by decide +kernel
theorem dL_isFelt_224 : decode cL_isFelt 224 = .ok (.iconst 1, 1) := by decide +kernel
theorem dL_isFelt_225 : decode cL_isFelt 225 = .ok (.goto 4, 3) := by decide +kernel
theorem dL_isFelt_228 : decode cL_isFelt 228 = .ok (.iconst 0, 1) := by decide +kernel
theorem dL_isFelt_229 : decode cL_isFelt 229 = .ok (.istore 12, 2) := by decide +kernel
theorem dL_isFelt_231 : decode cL_isFelt 231 = .ok (.iload 12, 2) := by decide +kernel
theorem dL_isFelt_233 : decode cL_isFelt 233 = .ok (.ifCond .eq 47, 3) := by decide +kernel
theorem dL_isFelt_236 : decode cL_isFelt 236 = .ok (.iload 9, 2) := by decide +kernel
theorem dL_isFelt_238 : decode cL_isFelt 238 = .ok (.ifCond .ne 18, 3) := by decide +kernel
theorem dL_isFelt_241 : decode cL_isFelt 241 = .ok (.iload 4, 2) := by decide +kernel
theorem dL_isFelt_243 : decode cL_isFelt 243 = .ok (.iconst (-1), 1) := by decide +kernel
theorem dL_isFelt_244 : decode cL_isFelt 244 = .ok (.if_icmp .lt 36, 3) := by decide +kernel
theorem dL_isFelt_247 : decode cL_isFelt 247 = .ok (.iload 4, 2) := by decide +kernel
theorem dL_isFelt_249 : decode cL_isFelt 249 = .ok (.iconst 1, 1) := by decide +kernel
theorem dL_isFelt_250 : decode cL_isFelt 250 = .ok (.if_icmp .gt 30, 3) := by decide +kernel
theorem dL_isFelt_253 : decode cL_isFelt 253 = .ok (.goto 23, 3) := by decide +kernel
theorem dL_isFelt_256 : decode cL_isFelt 256 = .ok (.iload 4, 2) := by decide +kernel
theorem dL_isFelt_258 : decode cL_isFelt 258 = .ok (.aload_n 0, 1) := by decide +kernel
theorem dL_isFelt_259 : decode cL_isFelt 259 = .ok (.invokevirtual 43, 3) := by decide +kernel
theorem dL_isFelt_262 : decode cL_isFelt 262 = .ok (.ifCond .ne 7, 3) := by decide +kernel
theorem dL_isFelt_265 : decode cL_isFelt 265 = .ok (.iconst 0, 1) := by decide +kernel
theorem dL_isFelt_266 : decode cL_isFelt 266 = .ok (.goto 7, 3) := by decide +kernel
theorem dL_isFelt_269 : decode cL_isFelt 269 = .ok (.iconst 2, 1) := by decide +kernel
theorem dL_isFelt_270 : decode cL_isFelt 270 = .ok (.iload 8, 2) := by decide +kernel
theorem dL_isFelt_272 : decode cL_isFelt 272 = .ok (.imul, 1) := by decide +kernel
theorem dL_isFelt_273 : decode cL_isFelt 273 = .ok (.if_icmp .ne 7, 3) := by decide +kernel
theorem dL_isFelt_276 : decode cL_isFelt 276 = .ok (.iconst 1, 1) := by decide +kernel
theorem dL_isFelt_277 : decode cL_isFelt 277 = .ok (.goto 4, 3) := by decide +kernel
theorem dL_isFelt_280 : decode cL_isFelt 280 = .ok (.iconst 0, 1) := by decide +kernel
theorem dL_isFelt_281 : decode cL_isFelt 281 = .ok (.ireturn, 1) := by decide +kernel
theorem dL_isMarked_0 : decode cL_isMarked 0 = .ok (.aload_n 0, 1) := by decide +kernel
theorem dL_isMarked_1 : decode cL_isMarked 1 = .ok (.iload_n 1, 1) := by decide +kernel
theorem dL_isMarked_2 : decode cL_isMarked 2 = .ok (.invokevirtual 82, 3) := by decide +kernel
theorem dL_isMarked_5 : decode cL_isMarked 5 = .ok (.istore_n 2, 1) := by decide +kernel
theorem dL_isMarked_6 : decode cL_isMarked 6 = .ok (.aload_n 0, 1) := by decide +kernel
theorem dL_isMarked_7 : decode cL_isMarked 7 = .ok (.iload_n 1, 1) := by decide +kernel
theorem dL_isMarked_8 : decode cL_isMarked 8 = .ok (.invokevirtual 85, 3) := by decide +kernel
theorem dL_isMarked_11 : decode cL_isMarked 11 = .ok (.istore_n 3, 1) := by decide +kernel
theorem dL_isMarked_12 : decode cL_isMarked 12 = .ok (.aload_n 0, 1) := by decide +kernel
theorem dL_isMarked_13 : decode cL_isMarked 13 = .ok (.iload_n 1, 1) := by decide +kernel
theorem dL_isMarked_14 : decode cL_isMarked 14 = .ok (.invokevirtual 18, 3) := by decide +kernel
theorem dL_isMarked_17 : decode cL_isMarked 17 = .ok (.istore 4, 2) := by decide +kernel
theorem dL_isMarked_19 : decode cL_isMarked 19 = .ok (.iconst 2, 1) := by decide +kernel
theorem dL_isMarked_20 : decode cL_isMarked 20 = .ok (.iload_n 2, 1) := by decide +kernel
theorem dL_isMarked_21 : decode cL_isMarked 21 = .ok (.imul, 1) := by decide +kernel
theorem dL_isMarked_22 : decode cL_isMarked 22 = .ok (.aload_n 0, 1) := by decide +kernel
theorem dL_isMarked_23 : decode cL_isMarked 23 = .ok (.invokevirtual 50, 3) := by decide +kernel
theorem dL_isMarked_26 : decode cL_isMarked 26 = .ok (.if_icmp .gt 7, 3) := by decide +kernel
theorem dL_isMarked_29 : decode cL_isMarked 29 = .ok (.iload_n 2, 1) := by decide +kernel
theorem dL_isMarked_30 : decode cL_isMarked 30 = .ok (.goto 9, 3) := by decide +kernel
theorem dL_isMarked_33 : decode cL_isMarked 33 = .ok (.iload_n 2, 1) := by decide +kernel
theorem dL_isMarked_34 : decode cL_isMarked 34 = .ok (.aload_n 0, 1) := by decide +kernel
theorem dL_isMarked_35 : decode cL_isMarked 35 = .ok (.invokevirtual 50, 3) := by decide +kernel
theorem dL_isMarked_38 : decode cL_isMarked 38 = .ok (.isub, 1) := by decide +kernel
theorem dL_isMarked_39 : decode cL_isMarked 39 = .ok (.istore 5, 2) := by decide +kernel
theorem dL_isMarked_41 : decode cL_isMarked 41 = .ok (.aload_n 0, 1) := by decide +kernel
theorem dL_isMarked_42 : decode cL_isMarked 42 = .ok (.iload_n 1, 1) := by decide +kernel
theorem dL_isMarked_43 : decode cL_isMarked 43 = .ok (.invokevirtual 88, 3) := by decide +kernel
theorem dL_isMarked_46 : decode cL_isMarked 46 = .ok (.iload 5, 2) := by decide +kernel
theorem dL_isMarked_48 : decode cL_isMarked 48 = .ok (.if_icmp .ne 51, 3) := by decide +kernel
theorem dL_isMarked_51 : decode cL_isMarked 51 = .ok (.aload_n 0, 1) := by decide +kernel
theorem dL_isMarked_52 : decode cL_isMarked 52 = .ok (.iload_n 1, 1) := by decide +kernel
theorem dL_isMarked_53 : decode cL_isMarked 53 = .ok (.invokevirtual 85, 3) := by decide +kernel
theorem dL_isMarked_56 : decode cL_isMarked 56 = .ok (.iload_n 3, 1) := by decide +kernel
theorem dL_isMarked_57 : decode cL_isMarked 57 = .ok (.iload 5, 2) := by decide +kernel
theorem dL_isMarked_59 : decode cL_isMarked 59 = .ok (.invokestatic 33, 3) := by decide +kernel
theorem dL_isMarked_62 : decode cL_isMarked 62 = .ok (.iadd, 1) := by decide +kernel
theorem dL_isMarked_63 : decode cL_isMarked 63 = .ok (.if_icmp .ne 36, 3) := by decide +kernel
theorem dL_isMarked_66 : decode cL_isMarked 66 = .ok (.aload_n 0, 1) := by decide +kernel
theorem dL_isMarked_67 : decode cL_isMarked 67 = .ok (.iload_n 1, 1) := by decide +kernel
theorem dL_isMarked_68 : decode cL_isMarked 68 = .ok (.invokevirtual 18, 3) := by decide +kernel
theorem dL_isMarked_71 : decode cL_isMarked 71 = .ok (.iload 4, 2) := by decide +kernel
theorem dL_isMarked_73 : decode cL_isMarked 73 = .ok (.iload 5, 2) := by decide +kernel
theorem dL_isMarked_75 : decode cL_isMarked 75 = .ok (.isub, 1) := by decide +kernel
theorem dL_isMarked_76 : decode cL_isMarked 76 = .ok (.if_icmp .ne 23, 3) := by decide +kernel
theorem dL_isMarked_79 : decode cL_isMarked 79 = .ok (.aload_n 0, 1) := by decide +kernel
theorem dL_isMarked_80 : decode cL_isMarked 80 = .ok (.iload_n 1, 1) := by decide +kernel
theorem dL_isMarked_81 : decode cL_isMarked 81 = .ok (.invokevirtual 82, 3) := by decide +kernel
theorem dL_isMarked_84 : decode cL_isMarked 84 = .ok (.ifCond .ne 15, 3) := by decide +kernel
theorem dL_isMarked_87 : decode cL_isMarked 87 = .ok (.aload_n 0, 1) := by decide +kernel
theorem dL_isMarked_88 : decode cL_isMarked 88 = .ok (.iload_n 1, 1) := by decide +kernel
theorem dL_isMarked_89 : decode cL_isMarked 89 = .ok (.invokevirtual 88, 3) := by decide +kernel
theorem dL_isMarked_92 : decode cL_isMarked 92 = .ok (.ifCond .ne 7, 3) := by decide +kernel
theorem dL_isMarked_95 : decode cL_isMarked 95 = .ok (.iconst 1, 1) := by decide +kernel
theorem dL_isMarked_96 : decode cL_isMarked 96 = .ok (.goto 4, 3) := by decide +kernel
theorem dL_isMarked_99 : decode cL_isMarked 99 = .ok (.iconst 0, 1) := by decide +kernel
theorem dL_isMarked_100 : decode cL_isMarked 100 = .ok (.ireturn, 1) := by decide +kernel
theorem dL_isBack_0 : decode cL_isBack 0 = .ok (.aload_n 0, 1) := by decide +kernel
theorem dL_isBack_1 : decode cL_isBack 1 = .ok (.iload_n 1, 1) := by decide +kernel
theorem dL_isBack_2 : decode cL_isBack 2 = .ok (.invokevirtual 56, 3) := by decide +kernel
theorem dL_isBack_5 : decode cL_isBack 5 = .ok (.istore_n 3, 1) := by decide +kernel
theorem dL_isBack_6 : decode cL_isBack 6 = .ok (.iconst 0, 1) := by decide +kernel
theorem dL_isBack_7 : decode cL_isBack 7 = .ok (.istore 4, 2) := by decide +kernel
theorem dL_isBack_9 : decode cL_isBack 9 = .ok (.iconst 0, 1) := by decide +kernel
theorem dL_isBack_10 : decode cL_isBack 10 = .ok (.istore 5, 2) := by decide +kernel
theorem dL_isBack_12 : decode cL_isBack 12 = .ok (.iload_n 3, 1) := by decide +kernel
theorem dL_isBack_13 : decode cL_isBack 13 = .ok (.iload_n 2, 1) := by decide +kernel
theorem dL_isBack_14 : decode cL_isBack 14 = .ok (.isub, 1) := by decide +kernel
theorem dL_isBack_15 : decode cL_isBack 15 = .ok (.istore 6, 2) := by decide +kernel
theorem dL_isBack_17 : decode cL_isBack 17 = .ok (.iload 6, 2) := by decide +kernel
theorem dL_isBack_19 : decode cL_isBack 19 = .ok (.iload_n 3, 1) := by decide +kernel
theorem dL_isBack_20 : decode cL_isBack 20 = .ok (.if_icmp .ge 36, 3) := by decide +kernel
theorem dL_isBack_23 : decode cL_isBack 23 = .ok (.iload 4, 2) := by decide +kernel
theorem dL_isBack_25 : decode cL_isBack 25 = .ok (.aload_n 0, 1) := by decide +kernel
theorem dL_isBack_26 : decode cL_isBack 26 = .ok (.iload_n 1, 1) := by decide +kernel
theorem dL_isBack_27 : decode cL_isBack 27 = .ok (.iload 6, 2) := by decide +kernel
theorem dL_isBack_29 : decode cL_isBack 29 = .ok (.invokevirtual 79, 3) := by decide +kernel
theorem dL_isBack_32 : decode cL_isBack 32 = .ok (.iadd, 1) := by decide +kernel
theorem dL_isBack_33 : decode cL_isBack 33 = .ok (.istore 4, 2) := by decide +kernel
theorem dL_isBack_35 : decode cL_isBack 35 = .ok (.iload 5, 2) := by decide +kernel
theorem dL_isBack_37 : decode cL_isBack 37 = .ok (.aload_n 0, 1) := by decide +kernel
theorem dL_isBack_38 : decode cL_isBack 38 = .ok (.iload_n 1, 1) := by decide +kernel
theorem dL_isBack_39 : decode cL_isBack 39 = .ok (.iload 6, 2) := by decide +kernel
theorem dL_isBack_41 : decode cL_isBack 41 = .ok (.invokevirtual 79, 3) := by decide +kernel
theorem dL_isBack_44 : decode cL_isBack 44 = .ok (.invokestatic 33, 3) := by decide +kernel
theorem dL_isBack_47 : decode cL_isBack 47 = .ok (.iadd, 1) := by decide +kernel
theorem dL_isBack_48 : decode cL_isBack 48 = .ok (.istore 5, 2) := by decide +kernel
theorem dL_isBack_50 : decode cL_isBack 50 = .ok (.iinc 6 1, 3) := by decide +kernel
theorem dL_isBack_53 : decode cL_isBack 53 = .ok (.goto (-36), 3) := by decide +kernel
theorem dL_isBack_56 : decode cL_isBack 56 = .ok (.aload_n 0, 1) := by decide +kernel
theorem dL_isBack_57 : decode cL_isBack 57 = .ok (.iload_n 1, 1) := by decide +kernel
theorem dL_isBack_58 : decode cL_isBack 58 = .ok (.invokevirtual 18, 3) := by decide +kernel
theorem dL_isBack_61 : decode cL_isBack 61 = .ok (.istore 6, 2) := by decide +kernel
theorem dL_isBack_63 : decode cL_isBack 63 = .ok (.aload_n 0, 1) := by decide +kernel
theorem dL_isBack_64 : decode cL_isBack 64 = .ok (.iload_n 1, 1) := by decide +kernel
theorem dL_isBack_65 : decode cL_isBack 65 = .ok (.invokevirtual 27, 3) := by decide +kernel
theorem dL_isBack_68 : decode cL_isBack 68 = .ok (.istore 7, 2) := by decide +kernel
theorem dL_isBack_70 : decode cL_isBack 70 = .ok (.aload_n 0, 1) := by decide +kernel
theorem dL_isBack_71 : decode cL_isBack 71 = .ok (.iload_n 1, 1) := by decide +kernel
theorem dL_isBack_72 : decode cL_isBack 72 = .ok (.invokevirtual 24, 3) := by decide +kernel
theorem dL_isBack_75 : decode cL_isBack 75 = .ok (.istore 8, 2) := by decide +kernel
theorem dL_isBack_77 : decode cL_isBack 77 = .ok (.aload_n 0, 1) := by decide +kernel
theorem dL_isBack_78 : decode cL_isBack 78 = .ok (.iload_n 1, 1) := by decide +kernel
theorem dL_isBack_79 : decode cL_isBack 79 = .ok (.iload_n 2, 1) := by decide +kernel
theorem dL_isBack_80 : decode cL_isBack 80 = .ok (.invokevirtual 91, 3) := by decide +kernel
theorem dL_isBack_83 : decode cL_isBack 83 = .ok (.iload 6, 2) := by decide +kernel
theorem dL_isBack_85 : decode cL_isBack 85 = .ok (.iload 4, 2) := by decide +kernel
theorem dL_isBack_87 : decode cL_isBack 87 = .ok (.isub, 1) := by decide +kernel
theorem dL_isBack_88 : decode cL_isBack 88 = .ok (.if_icmp .ne 41, 3) := by decide +kernel
theorem dL_isBack_91 : decode cL_isBack 91 = .ok (.aload_n 0, 1) := by decide +kernel
theorem dL_isBack_92 : decode cL_isBack 92 = .ok (.iload_n 1, 1) := by decide +kernel
theorem dL_isBack_93 : decode cL_isBack 93 = .ok (.invokevirtual 56, 3) := by decide +kernel
theorem dL_isBack_96 : decode cL_isBack 96 = .ok (.iload_n 3, 1) := by decide +kernel
theorem dL_isBack_97 : decode cL_isBack 97 = .ok (.iload_n 2, 1) := by decide +kernel
theorem dL_isBack_98 : decode cL_isBack 98 = .ok (.isub, 1) := by decide +kernel
theorem dL_isBack_99 : decode cL_isBack 99 = .ok (.if_icmp .ne 30, 3) := by decide +kernel
theorem dL_isBack_102 : decode cL_isBack 102 = .ok (.aload_n 0, 1) := by decide +kernel
theorem dL_isBack_103 : decode cL_isBack 103 = .ok (.iload_n 1, 1) := by decide +kernel
theorem dL_isBack_104 : decode cL_isBack 104 = .ok (.invokevirtual 27, 3) := by decide +kernel
theorem dL_isBack_107 : decode cL_isBack 107 = .ok (.iload 7, 2) := by decide +kernel
theorem dL_isBack_109 : decode cL_isBack 109 = .ok (.iload 5, 2) := by decide +kernel
theorem dL_isBack_111 : decode cL_isBack 111 = .ok (.iadd, 1) := by decide +kernel
theorem dL_isBack_112 : decode cL_isBack 112 = .ok (.if_icmp .ne 17, 3) := by decide +kernel
theorem dL_isBack_115 : decode cL_isBack 115 = .ok (.aload_n 0, 1) := by decide +kernel
theorem dL_isBack_116 : decode cL_isBack 116 = .ok (.iload_n 1, 1) := by decide +kernel
theorem dL_isBack_117 : decode cL_isBack 117 = .ok (.invokevirtual 24, 3) := by decide +kernel
theorem dL_isBack_120 : decode cL_isBack 120 = .ok (.iload 8, 2) := by decide +kernel
theorem dL_isBack_122 : decode cL_isBack 122 = .ok (.if_icmp .ne 7, 3) := by decide +kernel
theorem dL_isBack_125 : decode cL_isBack 125 = .ok (.iconst 1, 1) := by decide +kernel
theorem dL_isBack_126 : decode cL_isBack 126 = .ok (.goto 4, 3) := by decide +kernel
theorem dL_isBack_129 : decode cL_isBack 129 = .ok (.iconst 0, 1) := by decide +kernel
theorem dL_isBack_130 : decode cL_isBack 130 = .ok (.ireturn, 1) := by decide +kernel
theorem dL_isThereAndBack_0 : decode cL_isThereAndBack 0 = .ok (.aload_n 0, 1) := by decide +kernel
theorem dL_isThereAndBack_1 : decode cL_isThereAndBack 1 = .ok (.iload_n 1, 1) := by decide +kernel
theorem dL_isThereAndBack_2 : decode cL_isThereAndBack 2 = .ok (.invokevirtual 18, 3) := by decide +kernel
theorem dL_isThereAndBack_5 : decode cL_isThereAndBack 5 = .ok (.istore 4, 2) := by decide +kernel
theorem dL_isThereAndBack_7 : decode cL_isThereAndBack 7 = .ok (.aload_n 0, 1) := by decide +kernel
theorem dL_isThereAndBack_8 : decode cL_isThereAndBack 8 = .ok (.iload_n 1, 1) := by decide +kernel
theorem dL_isThereAndBack_9 : decode cL_isThereAndBack 9 = .ok (.invokevirtual 72, 3) := by decide +kernel
theorem dL_isThereAndBack_12 : decode cL_isThereAndBack 12 = .ok (.istore 5, 2) := by decide +kernel
theorem dL_isThereAndBack_14 : decode cL_isThereAndBack 14 = .ok (.aload_n 0, 1) := by decide +kernel
theorem dL_isThereAndBack_15 : decode cL_isThereAndBack 15 = .ok (.iload_n 1, 1) := by decide +kernel
theorem dL_isThereAndBack_16 : decode cL_isThereAndBack 16 = .ok (.invokevirtual 94, 3) := by decide +kernel
theorem dL_isThereAndBack_19 : decode cL_isThereAndBack 19 = .ok (.istore 6, 2) := by decide +kernel
theorem dL_isThereAndBack_21 : decode cL_isThereAndBack 21 = .ok (.iconst 1, 1) := by decide +kernel
theorem dL_isThereAndBack_22 : decode cL_isThereAndBack 22 = .ok (.iload_n 3, 1) := by decide +kernel
theorem dL_isThereAndBack_23 : decode cL_isThereAndBack 23 = .ok (.bipush 8, 2) := by decide +kernel
theorem dL_isThereAndBack_25 : decode cL_isThereAndBack 25 = .ok (.invokestatic 8, 3) := by decide +kernel
theorem dL_isThereAndBack_28 : decode cL_isThereAndBack 28 = .ok (.iadd, 1) := by decide +kernel
theorem dL_isThereAndBack_29 : decode cL_isThereAndBack 29 = .ok (.istore 7, 2) := by decide +kernel
theorem dL_isThereAndBack_31 : decode cL_isThereAndBack 31 = .ok (.iconst 1, 1) := by decide +kernel
theorem dL_isThereAndBack_32 : decode cL_isThereAndBack 32 = .ok (.istore 8, 2) := by decide +kernel
theorem dL_isThereAndBack_34 : decode cL_isThereAndBack 34 = .ok (.iconst 0, 1) := by decide +kernel
theorem dL_isThereAndBack_35 : decode cL_isThereAndBack 35 = .ok (.istore 9, 2) := by decide +kernel
theorem dL_isThereAndBack_37 : decode cL_isThereAndBack 37 = .ok (.iload 9, 2) := by decide +kernel
theorem dL_isThereAndBack_39 : decode cL_isThereAndBack 39 = .ok (.iload 7, 2) := by decide +kernel
theorem dL_isThereAndBack_41 : decode cL_isThereAndBack 41 = .ok (.if_icmp .ge 41, 3) := by decide +kernel
theorem dL_isThereAndBack_44 : decode cL_isThereAndBack 44 = .ok (.iload 8, 2) := by decide +kernel
theorem dL_isThereAndBack_46 : decode cL_isThereAndBack 46 = .ok (.ifCond .eq 27, 3) := by decide +kernel
theorem dL_isThereAndBack_49 : decode cL_isThereAndBack 49 = .ok (.aload_n 0, 1) := by decide +kernel
theorem dL_isThereAndBack_50 : decode cL_isThereAndBack 50 = .ok (.iload_n 1, 1) := by decide +kernel
theorem dL_isThereAndBack_51 : decode cL_isThereAndBack 51 = .ok (.iload_n 2, 1) := by decide +kernel
theorem dL_isThereAndBack_52 : decode cL_isThereAndBack 52 = .ok (.iload 9, 2) := by decide +kernel
theorem dL_isThereAndBack_54 : decode cL_isThereAndBack 54 = .ok (.ishr, 1) := by decide +kernel
theorem dL_isThereAndBack_55 : decode cL_isThereAndBack 55 = .ok (.iconst 4, 1) := by decide +kernel
theorem dL_isThereAndBack_56 : decode cL_isThereAndBack 56 = .ok (.invokestatic 8, 3) := by decide +kernel
theorem dL_isThereAndBack_59 : decode cL_isThereAndBack 59 = .ok (.iconst 1, 1) := by decide +kernel
theorem dL_isThereAndBack_60 : decode cL_isThereAndBack 60 = .ok (.iload 9, 2) := by decide +kernel
theorem dL_isThereAndBack_62 : decode cL_isThereAndBack 62 = .ok (.iadd, 1) := by decide +kernel
theorem dL_isThereAndBack_63 : decode cL_isThereAndBack 63 = .ok (.invokestatic 14, 3) := by decide +kernel
theorem dL_isThereAndBack_66 : decode cL_isThereAndBack 66 = .ok (.ifCond .eq 7, 3) := by decide +kernel
theorem dL_isThereAndBack_69 : decode cL_isThereAndBack 69 = .ok (.iconst 1, 1) := by decide +kernel
theorem dL_isThereAndBack_70 : decode cL_isThereAndBack 70 = .ok (.goto 4, 3) := by decide +kernel
theorem dL_isThereAndBack_73 : decode cL_isThereAndBack 73 = .ok (.iconst 0, 1) := by decide +kernel
theorem dL_isThereAndBack_74 : decode cL_isThereAndBack 74 = .ok (.istore 8, 2) := by decide +kernel
theorem dL_isThereAndBack_76 : decode cL_isThereAndBack 76 = .ok (.iinc 9 1, 3) := by decide +kernel
theorem dL_isThereAndBack_79 : decode cL_isThereAndBack 79 = .ok (.goto (-42), 3) := by decide +kernel
theorem dL_isThereAndBack_82 : decode cL_isThereAndBack 82 = .ok (.iload 8, 2) := by decide +kernel
theorem dL_isThereAndBack_84 : decode cL_isThereAndBack 84 = .ok (.ifCond .eq 39, 3) := by decide +kernel
theorem dL_isThereAndBack_87 : decode cL_isThereAndBack 87 = .ok (.aload_n 0, 1) := by decide +kernel
theorem dL_isThereAndBack_88 : decode cL_isThereAndBack 88 = .ok (.iload_n 1, 1) := by decide +kernel
theorem dL_isThereAndBack_89 : decode cL_isThereAndBack 89 = .ok (.iload 7, 2) := by decide +kernel
theorem dL_isThereAndBack_91 : decode cL_isThereAndBack 91 = .ok (.invokevirtual 91, 3) := by decide +kernel
theorem dL_isThereAndBack_94 : decode cL_isThereAndBack 94 = .ok (.iload 4, 2) := by decide +kernel
theorem dL_isThereAndBack_96 : decode cL_isThereAndBack 96 = .ok (.if_icmp .ne 27, 3) := by decide +kernel
theorem dL_isThereAndBack_99 : decode cL_isThereAndBack 99 = .ok (.aload_n 0, 1) := by decide +kernel
theorem dL_isThereAndBack_100 : decode cL_isThereAndBack 100 = .ok (.iload_n 1, 1) := by decide +kernel
