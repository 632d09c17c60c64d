theorem dL_cell_0 : decode cL_cell 0 = .ok (.iload_n 1, 1) := by decide +kernel
theorem dL_cell_1 : decode cL_cell 1 = .ok (.aload_n 0, 1) := by decide +kernel
theorem dL_cell_2 : decode cL_cell 2 = .ok (.arraylength, 1) := by decide +kernel
theorem dL_cell_3 : decode cL_cell 3 = .ok (.if_icmp .ge 9, 3) := by decide +kernel
theorem dL_cell_6 : decode cL_cell 6 = .ok (.aload_n 0, 1) := by decide +kernel
theorem dL_cell_7 : decode cL_cell 7 = .ok (.iload_n 1, 1) := by decide +kernel
theorem dL_cell_8 : decode cL_cell 8 = .ok (.iaload, 1) := by decide +kernel
theorem dL_cell_9 : decode cL_cell 9 = .ok (.goto 15, 3) := by decide +kernel
theorem dL_cell_12 : decode cL_cell 12 = .ok (.sipush 7919, 3) := by decide +kernel
theorem dL_cell_15 : decode cL_cell 15 = .ok (.iload_n 1, 1) := by decide +kernel
theorem dL_cell_16 : decode cL_cell 16 = .ok (.iconst 3, 1) := by decide +kernel
theorem dL_cell_17 : decode cL_cell 17 = .ok (.iadd, 1) := by decide +kernel
theorem dL_cell_18 : decode cL_cell 18 = .ok (.imul, 1) := by decide +kernel
theorem dL_cell_19 : decode cL_cell 19 = .ok (.iload_n 1, 1) := by decide +kernel
theorem dL_cell_20 : decode cL_cell 20 = .ok (.bipush 11, 2) := by decide +kernel
theorem dL_cell_22 : decode cL_cell 22 = .ok (.iadd, 1) := by decide +kernel
theorem dL_cell_23 : decode cL_cell 23 = .ok (.imul, 1) := by decide +kernel
theorem dL_cell_24 : decode cL_cell 24 = .ok (.ireturn, 1) := by decide +kernel
theorem dL_low_0 : decode cL_low 0 = .ok (.iload_n 0, 1) := by decide +kernel
theorem dL_low_1 : decode cL_low 1 = .ok (.ldc 7, 2) := by decide +kernel
theorem dL_low_3 : decode cL_low 3 = .ok (.iand, 1) := by decide +kernel
theorem dL_low_4 : decode cL_low 4 = .ok (.iload_n 1, 1) := by decide +kernel
theorem dL_low_5 : decode cL_low 5 = .ok (.irem, 1) := by decide +kernel
theorem dL_low_6 : decode cL_low 6 = .ok (.ireturn, 1) := by decide +kernel
theorem dL_size_0 : decode cL_size 0 = .ok (.iload_n 0, 1) := by decide +kernel
theorem dL_size_1 : decode cL_size 1 = .ok (.ifCond .ge 8, 3) := by decide +kernel
theorem dL_size_4 : decode cL_size 4 = .ok (.iload_n 0, 1) := by decide +kernel
theorem dL_size_5 : decode cL_size 5 = .ok (.ineg, 1) := by decide +kernel
theorem dL_size_6 : decode cL_size 6 = .ok (.goto 4, 3) := by decide +kernel
theorem dL_size_9 : decode cL_size 9 = .ok (.iload_n 0, 1) := by decide +kernel
theorem dL_size_10 : decode cL_size 10 = .ok (.ireturn, 1) := by decide +kernel
theorem dL_does_0 : decode cL_does 0 = .ok (.iload_n 1, 1) := by decide +kernel
theorem dL_does_1 : decode cL_does 1 = .ok (.iconst 4, 1) := by decide +kernel
theorem dL_does_2 : decode cL_does 2 = .ok (.ishr, 1) := by decide +kernel
theorem dL_does_3 : decode cL_does 3 = .ok (.iconst 3, 1) := by decide +kernel
theorem dL_does_4 : decode cL_does 4 = .ok (.invokestatic 8, 3) := by decide +kernel
theorem dL_does_7 : decode cL_does 7 = .ok (.istore_n 3, 1) := by decide +kernel
theorem dL_does_8 : decode cL_does 8 = .ok (.iload_n 1, 1) := by decide +kernel
theorem dL_does_9 : decode cL_does 9 = .ok (.bipush 15, 2) := by decide +kernel
theorem dL_does_11 : decode cL_does 11 = .ok (.iand, 1) := by decide +kernel
theorem dL_does_12 : decode cL_does 12 = .ok (.tableswitch 285 0 14 #[76, 76, 76, 76, 76, 76, 76, 97, 97, 189, 189, 195, 195, 203, 237], 76) := by decide +kernel
theorem dL_does_88 : decode cL_does 88 = .ok (.aload_n 0, 1) := by decide +kernel
theorem dL_does_89 : decode cL_does 89 = .ok (.iload_n 3, 1) := by decide +kernel
theorem dL_does_90 : decode cL_does 90 = .ok (.iload_n 2, 1) := by decide +kernel
theorem dL_does_91 : decode cL_does 91 = .ok (.iconst 4, 1) := by decide +kernel
theorem dL_does_92 : decode cL_does 92 = .ok (.invokestatic 8, 3) := by decide +kernel
theorem dL_does_95 : decode cL_does 95 = .ok (.iconst 1, 1) := by decide +kernel
theorem dL_does_96 : decode cL_does 96 = .ok (.iload_n 2, 1) := by decide +kernel
theorem dL_does_97 : decode cL_does 97 = .ok (.iconst 2, 1) := by decide +kernel
theorem dL_does_98 : decode cL_does 98 = .ok (.ishr, 1) := by decide +kernel
theorem dL_does_99 : decode cL_does 99 = .ok (.bipush 50, 2) := by decide +kernel
theorem dL_does_101 : decode cL_does 101 = .ok (.invokestatic 8, 3) := by decide +kernel
theorem dL_does_104 : decode cL_does 104 = .ok (.iadd, 1) := by decide +kernel
theorem dL_does_105 : decode cL_does 105 = .ok (.invokestatic 14, 3) := by decide +kernel
theorem dL_does_108 : decode cL_does 108 = .ok (.ireturn, 1) := by decide +kernel
theorem dL_does_109 : decode cL_does 109 = .ok (.aload_n 0, 1) := by decide +kernel
theorem dL_does_110 : decode cL_does 110 = .ok (.iload_n 3, 1) := by decide +kernel
theorem dL_does_111 : decode cL_does 111 = .ok (.invokevirtual 18, 3) := by decide +kernel
theorem dL_does_114 : decode cL_does 114 = .ok (.istore 4, 2) := by decide +kernel
theorem dL_does_116 : decode cL_does 116 = .ok (.iload_n 2, 1) := by decide +kernel
theorem dL_does_117 : decode cL_does 117 = .ok (.bipush 81, 2) := by decide +kernel
theorem dL_does_119 : decode cL_does 119 = .ok (.invokestatic 8, 3) := by decide +kernel
theorem dL_does_122 : decode cL_does 122 = .ok (.bipush 40, 2) := by decide +kernel
theorem dL_does_124 : decode cL_does 124 = .ok (.isub, 1) := by decide +kernel
theorem dL_does_125 : decode cL_does 125 = .ok (.istore 5, 2) := by decide +kernel
theorem dL_does_127 : decode cL_does 127 = .ok (.aload_n 0, 1) := by decide +kernel
theorem dL_does_128 : decode cL_does 128 = .ok (.iload_n 3, 1) := by decide +kernel
theorem dL_does_129 : decode cL_does 129 = .ok (.invokevirtual 24, 3) := by decide +kernel
theorem dL_does_132 : decode cL_does 132 = .ok (.istore 6, 2) := by decide +kernel
theorem dL_does_134 : decode cL_does 134 = .ok (.aload_n 0, 1) := by decide +kernel
theorem dL_does_135 : decode cL_does 135 = .ok (.iload_n 3, 1) := by decide +kernel
theorem dL_does_136 : decode cL_does 136 = .ok (.invokevirtual 27, 3) := by decide +kernel
theorem dL_does_139 : decode cL_does 139 = .ok (.istore 7, 2) := by decide +kernel
theorem dL_does_141 : decode cL_does 141 = .ok (.aload_n 0, 1) := by decide +kernel
theorem dL_does_142 : decode cL_does 142 = .ok (.iload_n 3, 1) := by decide +kernel
theorem dL_does_143 : decode cL_does 143 = .ok (.iload 5, 2) := by decide +kernel
theorem dL_does_145 : decode cL_does 145 = .ok (.invokevirtual 30, 3) := by decide +kernel
theorem dL_does_148 : decode cL_does 148 = .ok (.iload 4, 2) := by decide +kernel
theorem dL_does_150 : decode cL_does 150 = .ok (.iload 5, 2) := by decide +kernel
theorem dL_does_152 : decode cL_does 152 = .ok (.iadd, 1) := by decide +kernel
theorem dL_does_153 : decode cL_does 153 = .ok (.if_icmp .ne 46, 3) := by decide +kernel
theorem dL_does_156 : decode cL_does 156 = .ok (.aload_n 0, 1) := by decide +kernel
theorem dL_does_157 : decode cL_does 157 = .ok (.iload_n 3, 1) := by decide +kernel
theorem dL_does_158 : decode cL_does 158 = .ok (.invokevirtual 18, 3) := by decide +kernel
theorem dL_does_161 : decode cL_does 161 = .ok (.iload 4, 2) := by decide +kernel
theorem dL_does_163 : decode cL_does 163 = .ok (.iload 5, 2) := by decide +kernel
theorem dL_does_165 : decode cL_does 165 = .ok (.iadd, 1) := by decide +kernel
theorem dL_does_166 : decode cL_does 166 = .ok (.if_icmp .ne 33, 3) := by decide +kernel
theorem dL_does_169 : decode cL_does 169 = .ok (.aload_n 0, 1) := by decide +kernel
theorem dL_does_170 : decode cL_does 170 = .ok (.iload_n 3, 1) := by decide +kernel
theorem dL_does_171 : decode cL_does 171 = .ok (.invokevirtual 24, 3) := by decide +kernel
theorem dL_does_174 : decode cL_does 174 = .ok (.iload 6, 2) := by decide +kernel
theorem dL_does_176 : decode cL_does 176 = .ok (.if_icmp .ne 23, 3) := by decide +kernel
theorem dL_does_179 : decode cL_does 179 = .ok (.aload_n 0, 1) := by decide +kernel
theorem dL_does_180 : decode cL_does 180 = .ok (.iload_n 3, 1) := by decide +kernel
theorem dL_does_181 : decode cL_does 181 = .ok (.invokevirtual 27, 3) := by decide +kernel
theorem dL_does_184 : decode cL_does 184 = .ok (.iload 7, 2) := by decide +kernel
theorem dL_does_186 : decode cL_does 186 = .ok (.iload 5, 2) := by decide +kernel
theorem dL_does_188 : decode cL_does 188 = .ok (.invokestatic 33, 3) := by decide +kernel
theorem dL_does_191 : decode cL_does 191 = .ok (.iadd, 1) := by decide +kernel
theorem dL_does_192 : decode cL_does 192 = .ok (.if_icmp .ne 7, 3) := by decide +kernel
theorem dL_does_195 : decode cL_does 195 = .ok (.iconst 1, 1) := by decide +kernel
theorem dL_does_196 : decode cL_does 196 = .ok (.goto 4, 3) := by decide +kernel
theorem dL_does_199 : decode cL_does 199 = .ok (.iconst 0, 1) := by decide +kernel
theorem dL_does_200 : decode cL_does 200 = .ok (.ireturn, 1) := by decide +kernel
theorem dL_does_201 : decode cL_does 201 = .ok (.aload_n 0, 1) := by decide +kernel
theorem dL_does_202 : decode cL_does 202 = .ok (.iload_n 3, 1) := by decide +kernel
theorem dL_does_203 : decode cL_does 203 = .ok (.invokestatic 36, 3) := by decide +kernel
theorem dL_does_206 : decode cL_does 206 = .ok (.ireturn, 1) := by decide +kernel
theorem dL_does_207 : decode cL_does 207 = .ok (.aload_n 0, 1) := by decide +kernel
theorem dL_does_208 : decode cL_does 208 = .ok (.iload_n 3, 1) := by decide +kernel
theorem dL_does_209 : decode cL_does 209 = .ok (.iload_n 1, 1) := by decide +kernel
theorem dL_does_210 : decode cL_does 210 = .ok (.iload_n 2, 1) := by decide +kernel
theorem dL_does_211 : decode cL_does 211 = .ok (.invokestatic 40, 3) := by decide +kernel
theorem dL_does_214 : decode cL_does 214 = .ok (.ireturn, 1) := by decide +kernel
theorem dL_does_215 : decode cL_does 215 = .ok (.aload_n 0, 1) := by decide +kernel
theorem dL_does_216 : decode cL_does 216 = .ok (.invokevirtual 43, 3) := by decide +kernel
theorem dL_does_219 : decode cL_does 219 = .ok (.istore 8, 2) := by decide +kernel
theorem dL_does_221 : decode cL_does 221 = .ok (.aload_n 0, 1) := by decide +kernel
theorem dL_does_222 : decode cL_does 222 = .ok (.iload_n 2, 1) := by decide +kernel
theorem dL_does_223 : decode cL_does 223 = .ok (.iconst 1, 1) := by decide +kernel
theorem dL_does_224 : decode cL_does 224 = .ok (.iand, 1) := by decide +kernel
theorem dL_does_225 : decode cL_does 225 = .ok (.invokevirtual 47, 3) := by decide +kernel
theorem dL_does_228 : decode cL_does 228 = .ok (.iload 8, 2) := by decide +kernel
theorem dL_does_230 : decode cL_does 230 = .ok (.if_icmp .ne 17, 3) := by decide +kernel
theorem dL_does_233 : decode cL_does 233 = .ok (.aload_n 0, 1) := by decide +kernel
theorem dL_does_234 : decode cL_does 234 = .ok (.invokevirtual 43, 3) := by decide +kernel
theorem dL_does_237 : decode cL_does 237 = .ok (.iload_n 2, 1) := by decide +kernel
theorem dL_does_238 : decode cL_does 238 = .ok (.iconst 1, 1) := by decide +kernel
theorem dL_does_239 : decode cL_does 239 = .ok (.iand, 1) := by decide +kernel
theorem dL_does_240 : decode cL_does 240 = .ok (.if_icmp .ne 7, 3) := by decide +kernel
theorem dL_does_243 : decode cL_does 243 = .ok (.iconst 1, 1) := by decide +kernel
theorem dL_does_244 : decode cL_does 244 = .ok (.goto 4, 3) := by decide +kernel
theorem dL_does_247 : decode cL_does 247 = .ok (.iconst 0, 1) := by decide +kernel
theorem dL_does_248 : decode cL_does 248 = .ok (.ireturn, 1) := by decide +kernel
theorem dL_does_249 : decode cL_does 249 = .ok (.aload_n 0, 1) := by decide +kernel
theorem dL_does_250 : decode cL_does 250 = .ok (.invokevirtual 50, 3) := by decide +kernel
theorem dL_does_253 : decode cL_does 253 = .ok (.istore 9, 2) := by decide +kernel
theorem dL_does_255 : decode cL_does 255 = .ok (.aload_n 0, 1) := by decide +kernel
theorem dL_does_256 : decode cL_does 256 = .ok (.iconst 4, 1) := by decide +kernel
theorem dL_does_257 : decode cL_does 257 = .ok (.iconst 4, 1) := by decide +kernel
theorem dL_does_258 : decode cL_does 258 = .ok (.iload_n 2, 1) := by decide +kernel
theorem dL_does_259 : decode cL_does 259 = .ok (.bipush 20, 2) := by decide +kernel
theorem dL_does_261 : decode cL_does 261 = .ok (.invokestatic 8, 3) := by decide +kernel
theorem dL_does_264 : decode cL_does 264 = .ok (.imul, 1) := by decide +kernel
theorem dL_does_265 : decode cL_does 265 = .ok (.iadd, 1) := by decide +kernel
theorem dL_does_266 : decode cL_does 266 = .ok (.invokevirtual 53, 3) := by decide +kernel
theorem dL_does_269 : decode cL_does 269 = .ok (.iload 9, 2) := by decide +kernel
theorem dL_does_271 : decode cL_does 271 = .ok (.if_icmp .ne 24, 3) := by decide +kernel
theorem dL_does_274 : decode cL_does 274 = .ok (.aload_n 0, 1) := by decide +kernel
theorem dL_does_275 : decode cL_does 275 = .ok (.invokevirtual 50, 3) := by decide +kernel
theorem dL_does_278 : decode cL_does 278 = .ok (.iconst 4, 1) := by decide +kernel
theorem dL_does_279 : decode cL_does 279 = .ok (.iconst 4, 1) := by decide +kernel
theorem dL_does_280 : decode cL_does 280 = .ok (.iload_n 2, 1) := by decide +kernel
theorem dL_does_281 : decode cL_does 281 = .ok (.bipush 20, 2) := by decide +kernel
theorem dL_does_283 : decode cL_does 283 = .ok (.invokestatic 8, 3) := by decide +kernel
theorem dL_does_286 : decode cL_does 286 = .ok (.imul, 1) := by decide +kernel
theorem dL_does_287 : decode cL_does 287 = .ok (.iadd, 1) := by decide +kernel
theorem dL_does_288 : decode cL_does 288 = .ok (.if_icmp .ne 7, 3) := by decide +kernel
theorem dL_does_291 : decode cL_does 291 = .ok (.iconst 1, 1) := by decide +kernel
theorem dL_does_292 : decode cL_does 292 = .ok (.goto 4, 3) := by decide +kernel
theorem dL_does_295 : decode cL_does 295 = .ok (.iconst 0, 1) := by decide +kernel
theorem dL_does_296 : decode cL_does 296 = .ok (.ireturn, 1) := by decide +kernel
theorem dL_does_297 : decode cL_does 297 = .ok (.aload_n 0, 1) := by decide +kernel
theorem dL_does_298 : decode cL_does 298 = .ok (.iload_n 3, 1) := by decide +kernel
theorem dL_does_299 : decode cL_does 299 = .ok (.invokevirtual 56, 3) := by decide +kernel
theorem dL_does_302 : decode cL_does 302 = .ok (.istore 10, 2) := by decide +kernel
theorem dL_does_304 : decode cL_does 304 = .ok (.iload 10, 2) := by decide +kernel
theorem dL_does_306 : decode cL_does 306 = .ok (.ifCond .eq 19, 3) := by decide +kernel
theorem dL_does_309 : decode cL_does 309 = .ok (.aload_n 0, 1) := by decide +kernel
theorem dL_does_310 : decode cL_does 310 = .ok (.iload_n 3, 1) := by decide +kernel
theorem dL_does_311 : decode cL_does 311 = .ok (.iconst 1, 1) := by decide +kernel
theorem dL_does_312 : decode cL_does 312 = .ok (.iload_n 2, 1) := by decide +kernel
theorem dL_does_313 : decode cL_does 313 = .ok (.iload 10, 2) := by decide +kernel
theorem dL_does_315 : decode cL_does 315 = .ok (.invokestatic 8, 3) := by decide +kernel
theorem dL_does_318 : decode cL_does 318 = .ok (.iadd, 1) := by decide +kernel
theorem dL_does_319 : decode cL_does 319 = .ok (.invokestatic 59, 3) := by decide +kernel
theorem dL_does_322 : decode cL_does 322 = .ok (.ifCond .eq 7, 3) := by decide +kernel
theorem dL_does_325 : decode cL_does 325 = .ok (.iconst 1, 1) := by decide +kernel
theorem dL_does_326 : decode cL_does 326 = .ok (.goto 4, 3) := by decide +kernel
theorem dL_does_329 : decode cL_does 329 = .ok (.iconst 0, 1) := by decide +kernel
theorem dL_does_330 : decode cL_does 330 = .ok (.ireturn, 1) := by decide +kernel
theorem dL_isFelt_0 : decode cL_isFelt 0 = .ok (.aload_n 0, 1) := by decide +kernel
theorem dL_isFelt_1 : decode cL_isFelt 1 = .ok (.iload_n 1, 1) := by decide +kernel
theorem dL_isFelt_2 : decode cL_isFelt 2 = .ok (.iload_n 2, 1) := by decide +kernel
theorem dL_isFelt_3 : decode cL_isFelt 3 = .ok (.invokevirtual 63, 3) := by decide +kernel
theorem dL_isFelt_6 : decode cL_isFelt 6 = .ok (.istore 4, 2) := by decide +kernel
theorem dL_isFelt_8 : decode cL_isFelt 8 = .ok (.aload_n 0, 1) := by decide +kernel
theorem dL_isFelt_9 : decode cL_isFelt 9 = .ok (.iload_n 1, 1) := by decide +kernel
theorem dL_isFelt_10 : decode cL_isFelt 10 = .ok (.invokevirtual 18, 3) := by decide +kernel
theorem dL_isFelt_13 : decode cL_isFelt 13 = .ok (.istore 5, 2) := by decide +kernel
theorem dL_isFelt_15 : decode cL_isFelt 15 = .ok (.aload_n 0, 1) := by decide +kernel
theorem dL_isFelt_16 : decode cL_isFelt 16 = .ok (.iload_n 1, 1) := by decide +kernel
theorem dL_isFelt_17 : decode cL_isFelt 17 = .ok (.invokevirtual 66, 3) := by decide +kernel
theorem dL_isFelt_20 : decode cL_isFelt 20 = .ok (.istore 6, 2) := by decide +kernel
theorem dL_isFelt_22 : decode cL_isFelt 22 = .ok (.aload_n 0, 1) := by decide +kernel
theorem dL_isFelt_23 : decode cL_isFelt 23 = .ok (.iload_n 1, 1) := by decide +kernel
theorem dL_isFelt_24 : decode cL_isFelt 24 = .ok (.invokevirtual 56, 3) := by decide +kernel
theorem dL_isFelt_27 : decode cL_isFelt 27 = .ok (.istore 7, 2) := by decide +kernel
theorem dL_isFelt_29 : decode cL_isFelt 29 = .ok (.aload_n 0, 1) := by decide +kernel
theorem dL_isFelt_30 : decode cL_isFelt 30 = .ok (.iload_n 1, 1) := by decide +kernel
theorem dL_isFelt_31 : decode cL_isFelt 31 = .ok (.invokevirtual 69, 3) := by decide +kernel
theorem dL_isFelt_34 : decode cL_isFelt 34 = .ok (.istore 8, 2) := by decide +kernel
theorem dL_isFelt_36 : decode cL_isFelt 36 = .ok (.aload_n 0, 1) := by decide +kernel
theorem dL_isFelt_37 : decode cL_isFelt 37 = .ok (.iload_n 1, 1) := by decide +kernel
theorem dL_isFelt_38 : decode cL_isFelt 38 = .ok (.invokevirtual 72, 3) := by decide +kernel
theorem dL_isFelt_41 : decode cL_isFelt 41 = .ok (.iload_n 2, 1) := by decide +kernel
theorem dL_isFelt_42 : decode cL_isFelt 42 = .ok (.ixor, 1) := by decide +kernel
theorem dL_isFelt_43 : decode cL_isFelt 43 = .ok (.iconst 3, 1) := by decide +kernel
theorem dL_isFelt_44 : decode cL_isFelt 44 = .ok (.if_icmp .ne 7, 3) := by decide +kernel
theorem dL_isFelt_47 : decode cL_isFelt 47 = .ok (.iconst 1, 1) := by decide +kernel
theorem dL_isFelt_48 : decode cL_isFelt 48 = .ok (.goto 4, 3) := by decide +kernel
theorem dL_isFelt_51 : decode cL_isFelt 51 = .ok (.iconst 0, 1) := by decide +kernel
theorem dL_isFelt_52 : decode cL_isFelt 52 = .ok (.istore 9, 2) := by decide +kernel
theorem dL_isFelt_54 : decode cL_isFelt 54 = .ok (.aload_n 0, 1) := by decide +kernel
theorem dL_isFelt_55 : decode cL_isFelt 55 = .ok (.iload_n 1, 1) := by decide +kernel
theorem dL_isFelt_56 : decode cL_isFelt 56 = .ok (.invokevirtual 24, 3) := by decide +kernel
theorem dL_isFelt_59 : decode cL_isFelt 59 = .ok (.istore 10, 2) := by decide +kernel
theorem dL_isFelt_61 : decode cL_isFelt 61 = .ok (.aload_n 0, 1) := by decide +kernel
theorem dL_isFelt_62 : decode cL_isFelt 62 = .ok (.iload_n 1, 1) := by decide +kernel
theorem dL_isFelt_63 : decode cL_isFelt 63 = .ok (.invokevirtual 27, 3) := by decide +kernel
theorem dL_isFelt_66 : decode cL_isFelt 66 = .ok (.istore 11, 2) := by decide +kernel
theorem dL_isFelt_68 : decode cL_isFelt 68 = .ok (.aload_n 0, 1) := by decide +kernel
theorem dL_isFelt_69 : decode cL_isFelt 69 = .ok (.iload_n 1, 1) := by decide +kernel
theorem dL_isFelt_70 : decode cL_isFelt 70 = .ok (.iload_n 2, 1) := by decide +kernel
theorem dL_isFelt_71 : decode cL_isFelt 71 = .ok (.iload_n 3, 1) := by decide +kernel
theorem dL_isFelt_72 : decode cL_isFelt 72 = .ok (.invokevirtual 75, 3) := by decide +kernel
theorem dL_isFelt_75 : decode cL_isFelt 75 = .ok (.iload 4, 2) := by decide +kernel
theorem dL_isFelt_77 : decode cL_isFelt 77 = .ok (.if_icmp .ne 70, 3) := by decide +kernel
theorem dL_isFelt_80 : decode cL_isFelt 80 = .ok (.aload_n 0, 1) := by decide +kernel
theorem dL_isFelt_81 : decode cL_isFelt 81 = .ok (.iload_n 1, 1) := by decide +kernel
theorem dL_isFelt_82 : decode cL_isFelt 82 = .ok (.invokevirtual 72, 3) := by decide +kernel
theorem dL_isFelt_85 : decode cL_isFelt 85 = .ok (.iload_n 2, 1) := by decide +kernel
theorem dL_isFelt_86 : decode cL_isFelt 86 = .ok (.if_icmp .ne 61, 3) := by decide +kernel
theorem dL_isFelt_89 : decode cL_isFelt 89 = .ok (.aload_n 0, 1) := by decide +kernel
theorem dL_isFelt_90 : decode cL_isFelt 90 = .ok (.iload_n 1, 1) := by decide +kernel
theorem dL_isFelt_91 : decode cL_isFelt 91 = .ok (.invokevirtual 18, 3) := by decide +kernel
theorem dL_isFelt_94 : decode cL_isFelt 94 = .ok (.iload 5, 2) := by decide +kernel
theorem dL_isFelt_96 : decode cL_isFelt 96 = .ok (.iload 4, 2) := by decide +kernel
theorem dL_isFelt_98 : decode cL_isFelt 98 = .ok (.iadd, 1) := by decide +kernel
theorem dL_isFelt_99 : decode cL_isFelt 99 = .ok (.if_icmp .ne 48, 3) := by decide +kernel
theorem dL_isFelt_102 : decode cL_isFelt 102 = .ok (.aload_n 0, 1) := by decide +kernel
theorem dL_isFelt_103 : decode cL_isFelt 103 = .ok (.iload_n 1, 1) := by decide +kernel
theorem dL_isFelt_104 : decode cL_isFelt 104 = .ok (.invokevirtual 66, 3) := by decide +kernel
theorem dL_isFelt_107 : decode cL_isFelt 107 = .ok (.iload 6, 2) := by decide +kernel
theorem dL_isFelt_109 : decode cL_isFelt 109 = .ok (.iload_n 3, 1) := by decide +kernel
theorem dL_isFelt_110 : decode cL_isFelt 110 = .ok (.iadd, 1) := by decide +kernel
theorem dL_isFelt_111 : decode cL_isFelt 111 = .ok (.if_icmp .ne 36, 3) := by decide +kernel
theorem dL_isFelt_114 : decode cL_isFelt 114 = .ok (.aload_n 0, 1) := by decide +kernel
theorem dL_isFelt_115 : decode cL_isFelt 115 = .ok (.iload_n 1, 1) := by decide +kernel
theorem dL_isFelt_116 : decode cL_isFelt 116 = .ok (.invokevirtual 24, 3) := by decide +kernel
theorem dL_isFelt_119 : decode cL_isFelt 119 = .ok (.iload 10, 2) := by decide +kernel
theorem dL_isFelt_121 : decode cL_isFelt 121 = .ok (.iload 9, 2) := by decide +kernel
theorem dL_isFelt_123 : decode cL_isFelt 123 = .ok (.iadd, 1) := by decide +kernel
theorem dL_isFelt_124 : decode cL_isFelt 124 = .ok (.if_icmp .ne 23, 3) := by decide +kernel
theorem dL_isFelt_127 : decode cL_isFelt 127 = .ok (.aload_n 0, 1) := by decide +kernel
theorem dL_isFelt_128 : decode cL_isFelt 128 = .ok (.iload_n 1, 1) := by decide +kernel
theorem dL_isFelt_129 : decode cL_isFelt 129 = .ok (.invokevirtual 27, 3) := by decide +kernel
theorem dL_isFelt_132 : decode cL_isFelt 132 = .ok (.iload 11, 2) := by decide +kernel
theorem dL_isFelt_134 : decode cL_isFelt 134 = .ok (.iload 4, 2) := by decide +kernel
