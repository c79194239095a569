theorem dX8_in_0 : decode cX8_in 0 = .ok (.lload_n 0, 1) := by decide +kernel
theorem dX8_in_1 : decode cX8_in 1 = .ok (.lload_n 2, 1) := by decide +kernel
theorem dX8_in_2 : decode cX8_in 2 = .ok (.lcmp, 1) := by decide +kernel
theorem dX8_in_3 : decode cX8_in 3 = .ok (.ifCond .lt 14, 3) := by decide +kernel
theorem dX8_in_6 : decode cX8_in 6 = .ok (.lload_n 0, 1) := by decide +kernel
theorem dX8_in_7 : decode cX8_in 7 = .ok (.lload 4, 2) := by decide +kernel
theorem dX8_in_9 : decode cX8_in 9 = .ok (.lcmp, 1) := by decide +kernel
theorem dX8_in_10 : decode cX8_in 10 = .ok (.ifCond .gt 7, 3) := by decide +kernel
theorem dX8_in_13 : decode cX8_in 13 = .ok (.iconst 1, 1) := by decide +kernel
theorem dX8_in_14 : decode cX8_in 14 = .ok (.goto 4, 3) := by decide +kernel
theorem dX8_in_17 : decode cX8_in 17 = .ok (.iconst 0, 1) := by decide +kernel
theorem dX8_in_18 : decode cX8_in 18 = .ok (.ireturn, 1) := by decide +kernel
theorem dX8_within_0 : decode cX8_within 0 = .ok (.iload_n 0, 1) := by decide +kernel
theorem dX8_within_1 : decode cX8_within 1 = .ok (.iload_n 1, 1) := by decide +kernel
theorem dX8_within_2 : decode cX8_within 2 = .ok (.if_icmp .ge 7, 3) := by decide +kernel
theorem dX8_within_5 : decode cX8_within 5 = .ok (.iload_n 1, 1) := by decide +kernel
theorem dX8_within_6 : decode cX8_within 6 = .ok (.goto 13, 3) := by decide +kernel
theorem dX8_within_9 : decode cX8_within 9 = .ok (.iload_n 0, 1) := by decide +kernel
theorem dX8_within_10 : decode cX8_within 10 = .ok (.iload_n 2, 1) := by decide +kernel
theorem dX8_within_11 : decode cX8_within 11 = .ok (.if_icmp .le 7, 3) := by decide +kernel
theorem dX8_within_14 : decode cX8_within 14 = .ok (.iload_n 2, 1) := by decide +kernel
theorem dX8_within_15 : decode cX8_within 15 = .ok (.goto 4, 3) := by decide +kernel
theorem dX8_within_18 : decode cX8_within 18 = .ok (.iload_n 0, 1) := by decide +kernel
theorem dX8_within_19 : decode cX8_within 19 = .ok (.ireturn, 1) := by decide +kernel
theorem dX8_off_0 : decode cX8_off 0 = .ok (.iload_n 0, 1) := by decide +kernel
theorem dX8_off_1 : decode cX8_off 1 = .ok (.iload_n 1, 1) := by decide +kernel
theorem dX8_off_2 : decode cX8_off 2 = .ok (.if_icmp .ge 9, 3) := by decide +kernel
theorem dX8_off_5 : decode cX8_off 5 = .ok (.iload_n 1, 1) := by decide +kernel
theorem dX8_off_6 : decode cX8_off 6 = .ok (.iload_n 0, 1) := by decide +kernel
theorem dX8_off_7 : decode cX8_off 7 = .ok (.isub, 1) := by decide +kernel
theorem dX8_off_8 : decode cX8_off 8 = .ok (.goto 6, 3) := by decide +kernel
theorem dX8_off_11 : decode cX8_off 11 = .ok (.iload_n 0, 1) := by decide +kernel
theorem dX8_off_12 : decode cX8_off 12 = .ok (.iload_n 1, 1) := by decide +kernel
theorem dX8_off_13 : decode cX8_off 13 = .ok (.isub, 1) := by decide +kernel
theorem dX8_off_14 : decode cX8_off 14 = .ok (.ireturn, 1) := by decide +kernel
theorem dX8_bitsOf_0 : decode cX8_bitsOf 0 = .ok (.iconst 0, 1) := by decide +kernel
theorem dX8_bitsOf_1 : decode cX8_bitsOf 1 = .ok (.istore_n 1, 1) := by decide +kernel
theorem dX8_bitsOf_2 : decode cX8_bitsOf 2 = .ok (.iload_n 0, 1) := by decide +kernel
theorem dX8_bitsOf_3 : decode cX8_bitsOf 3 = .ok (.istore_n 2, 1) := by decide +kernel
theorem dX8_bitsOf_4 : decode cX8_bitsOf 4 = .ok (.iload_n 2, 1) := by decide +kernel
theorem dX8_bitsOf_5 : decode cX8_bitsOf 5 = .ok (.ifCond .eq 15, 3) := by decide +kernel
theorem dX8_bitsOf_8 : decode cX8_bitsOf 8 = .ok (.iinc 1 1, 3) := by decide +kernel
theorem dX8_bitsOf_11 : decode cX8_bitsOf 11 = .ok (.iload_n 2, 1) := by decide +kernel
theorem dX8_bitsOf_12 : decode cX8_bitsOf 12 = .ok (.iload_n 2, 1) := by decide +kernel
theorem dX8_bitsOf_13 : decode cX8_bitsOf 13 = .ok (.iconst 1, 1) := by decide +kernel
theorem dX8_bitsOf_14 : decode cX8_bitsOf 14 = .ok (.isub, 1) := by decide +kernel
theorem dX8_bitsOf_15 : decode cX8_bitsOf 15 = .ok (.iand, 1) := by decide +kernel
theorem dX8_bitsOf_16 : decode cX8_bitsOf 16 = .ok (.istore_n 2, 1) := by decide +kernel
theorem dX8_bitsOf_17 : decode cX8_bitsOf 17 = .ok (.goto (-13), 3) := by decide +kernel
theorem dX8_bitsOf_20 : decode cX8_bitsOf 20 = .ok (.iload_n 1, 1) := by decide +kernel
theorem dX8_bitsOf_21 : decode cX8_bitsOf 21 = .ok (.ireturn, 1) := by decide +kernel
theorem dX8_init_0 : decode cX8_init 0 = .ok (.aload_n 0, 1) := by decide +kernel
theorem dX8_init_1 : decode cX8_init 1 = .ok (.invokespecial 7, 3) := by decide +kernel
theorem dX8_init_4 : decode cX8_init 4 = .ok (.aload_n 0, 1) := by decide +kernel
theorem dX8_init_5 : decode cX8_init 5 = .ok (.sipush 960, 3) := by decide +kernel
theorem dX8_init_8 : decode cX8_init 8 = .ok (.newarray .int, 2) := by decide +kernel
theorem dX8_init_10 : decode cX8_init 10 = .ok (.putfield 13, 3) := by decide +kernel
theorem dX8_init_13 : decode cX8_init 13 = .ok (.aload_n 0, 1) := by decide +kernel
theorem dX8_init_14 : decode cX8_init 14 = .ok (.bipush 6, 2) := by decide +kernel
theorem dX8_init_16 : decode cX8_init 16 = .ok (.newarray .int, 2) := by decide +kernel
theorem dX8_init_18 : decode cX8_init 18 = .ok (.putfield 17, 3) := by decide +kernel
theorem dX8_init_21 : decode cX8_init 21 = .ok (.aload_n 0, 1) := by decide +kernel
theorem dX8_init_22 : decode cX8_init 22 = .ok (.sipush 160, 3) := by decide +kernel
theorem dX8_init_25 : decode cX8_init 25 = .ok (.newarray .int, 2) := by decide +kernel
theorem dX8_init_27 : decode cX8_init 27 = .ok (.putfield 20, 3) := by decide +kernel
theorem dX8_init_30 : decode cX8_init 30 = .ok (.aload_n 0, 1) := by decide +kernel
theorem dX8_init_31 : decode cX8_init 31 = .ok (.bipush 6, 2) := by decide +kernel
theorem dX8_init_33 : decode cX8_init 33 = .ok (.newarray .int, 2) := by decide +kernel
theorem dX8_init_35 : decode cX8_init 35 = .ok (.putfield 23, 3) := by decide +kernel
theorem dX8_init_38 : decode cX8_init 38 = .ok (.aload_n 0, 1) := by decide +kernel
theorem dX8_init_39 : decode cX8_init 39 = .ok (.bipush 6, 2) := by decide +kernel
theorem dX8_init_41 : decode cX8_init 41 = .ok (.newarray .int, 2) := by decide +kernel
theorem dX8_init_43 : decode cX8_init 43 = .ok (.putfield 26, 3) := by decide +kernel
theorem dX8_init_46 : decode cX8_init 46 = .ok (.aload_n 0, 1) := by decide +kernel
theorem dX8_init_47 : decode cX8_init 47 = .ok (.bipush 6, 2) := by decide +kernel
theorem dX8_init_49 : decode cX8_init 49 = .ok (.newarray .int, 2) := by decide +kernel
theorem dX8_init_51 : decode cX8_init 51 = .ok (.putfield 29, 3) := by decide +kernel
theorem dX8_init_54 : decode cX8_init 54 = .ok (.aload_n 0, 1) := by decide +kernel
theorem dX8_init_55 : decode cX8_init 55 = .ok (.bipush 6, 2) := by decide +kernel
theorem dX8_init_57 : decode cX8_init 57 = .ok (.newarray .int, 2) := by decide +kernel
theorem dX8_init_59 : decode cX8_init 59 = .ok (.putfield 32, 3) := by decide +kernel
theorem dX8_init_62 : decode cX8_init 62 = .ok (.aload_n 0, 1) := by decide +kernel
theorem dX8_init_63 : decode cX8_init 63 = .ok (.bipush 6, 2) := by decide +kernel
theorem dX8_init_65 : decode cX8_init 65 = .ok (.newarray .int, 2) := by decide +kernel
theorem dX8_init_67 : decode cX8_init 67 = .ok (.putfield 35, 3) := by decide +kernel
theorem dX8_init_70 : decode cX8_init 70 = .ok (.aload_n 0, 1) := by decide +kernel
theorem dX8_init_71 : decode cX8_init 71 = .ok (.bipush 40, 2) := by decide +kernel
theorem dX8_init_73 : decode cX8_init 73 = .ok (.newarray .int, 2) := by decide +kernel
theorem dX8_init_75 : decode cX8_init 75 = .ok (.putfield 38, 3) := by decide +kernel
theorem dX8_init_78 : decode cX8_init 78 = .ok (.aload_n 0, 1) := by decide +kernel
theorem dX8_init_79 : decode cX8_init 79 = .ok (.bipush 40, 2) := by decide +kernel
theorem dX8_init_81 : decode cX8_init 81 = .ok (.newarray .int, 2) := by decide +kernel
theorem dX8_init_83 : decode cX8_init 83 = .ok (.putfield 41, 3) := by decide +kernel
theorem dX8_init_86 : decode cX8_init 86 = .ok (.aload_n 0, 1) := by decide +kernel
theorem dX8_init_87 : decode cX8_init 87 = .ok (.bipush 40, 2) := by decide +kernel
theorem dX8_init_89 : decode cX8_init 89 = .ok (.newarray .int, 2) := by decide +kernel
theorem dX8_init_91 : decode cX8_init 91 = .ok (.putfield 44, 3) := by decide +kernel
theorem dX8_init_94 : decode cX8_init 94 = .ok (.aload_n 0, 1) := by decide +kernel
theorem dX8_init_95 : decode cX8_init 95 = .ok (.bipush 40, 2) := by decide +kernel
theorem dX8_init_97 : decode cX8_init 97 = .ok (.newarray .int, 2) := by decide +kernel
theorem dX8_init_99 : decode cX8_init 99 = .ok (.putfield 47, 3) := by decide +kernel
theorem dX8_init_102 : decode cX8_init 102 = .ok (.aload_n 0, 1) := by decide +kernel
theorem dX8_init_103 : decode cX8_init 103 = .ok (.bipush 40, 2) := by decide +kernel
theorem dX8_init_105 : decode cX8_init 105 = .ok (.newarray .int, 2) := by decide +kernel
theorem dX8_init_107 : decode cX8_init 107 = .ok (.putfield 50, 3) := by decide +kernel
theorem dX8_init_110 : decode cX8_init 110 = .ok (.aload_n 0, 1) := by decide +kernel
theorem dX8_init_111 : decode cX8_init 111 = .ok (.bipush 6, 2) := by decide +kernel
theorem dX8_init_113 : decode cX8_init 113 = .ok (.newarray .int, 2) := by decide +kernel
theorem dX8_init_115 : decode cX8_init 115 = .ok (.putfield 53, 3) := by decide +kernel
theorem dX8_init_118 : decode cX8_init 118 = .ok (.aload_n 0, 1) := by decide +kernel
theorem dX8_init_119 : decode cX8_init 119 = .ok (.bipush 6, 2) := by decide +kernel
theorem dX8_init_121 : decode cX8_init 121 = .ok (.newarray .int, 2) := by decide +kernel
theorem dX8_init_123 : decode cX8_init 123 = .ok (.putfield 56, 3) := by decide +kernel
theorem dX8_init_126 : decode cX8_init 126 = .ok (.aload_n 0, 1) := by decide +kernel
theorem dX8_init_127 : decode cX8_init 127 = .ok (.iconst 4, 1) := by decide +kernel
theorem dX8_init_128 : decode cX8_init 128 = .ok (.newarray .int, 2) := by decide +kernel
theorem dX8_init_130 : decode cX8_init 130 = .ok (.putfield 59, 3) := by decide +kernel
theorem dX8_init_133 : decode cX8_init 133 = .ok (.aload_n 0, 1) := by decide +kernel
theorem dX8_init_134 : decode cX8_init 134 = .ok (.iconst 4, 1) := by decide +kernel
theorem dX8_init_135 : decode cX8_init 135 = .ok (.newarray .int, 2) := by decide +kernel
theorem dX8_init_137 : decode cX8_init 137 = .ok (.putfield 62, 3) := by decide +kernel
theorem dX8_init_140 : decode cX8_init 140 = .ok (.aload_n 0, 1) := by decide +kernel
theorem dX8_init_141 : decode cX8_init 141 = .ok (.bipush 6, 2) := by decide +kernel
theorem dX8_init_143 : decode cX8_init 143 = .ok (.newarray .int, 2) := by decide +kernel
theorem dX8_init_145 : decode cX8_init 145 = .ok (.putfield 65, 3) := by decide +kernel
theorem dX8_init_148 : decode cX8_init 148 = .ok (.aload_n 0, 1) := by decide +kernel
theorem dX8_init_149 : decode cX8_init 149 = .ok (.bipush 6, 2) := by decide +kernel
theorem dX8_init_151 : decode cX8_init 151 = .ok (.newarray .int, 2) := by decide +kernel
theorem dX8_init_153 : decode cX8_init 153 = .ok (.putfield 68, 3) := by decide +kernel
theorem dX8_init_156 : decode cX8_init 156 = .ok (.aload_n 0, 1) := by decide +kernel
theorem dX8_init_157 : decode cX8_init 157 = .ok (.bipush 36, 2) := by decide +kernel
theorem dX8_init_159 : decode cX8_init 159 = .ok (.newarray .int, 2) := by decide +kernel
theorem dX8_init_161 : decode cX8_init 161 = .ok (.putfield 71, 3) := by decide +kernel
theorem dX8_init_164 : decode cX8_init 164 = .ok (.aload_n 0, 1) := by decide +kernel
theorem dX8_init_165 : decode cX8_init 165 = .ok (.bipush 24, 2) := by decide +kernel
theorem dX8_init_167 : decode cX8_init 167 = .ok (.newarray .int, 2) := by decide +kernel
theorem dX8_init_169 : decode cX8_init 169 = .ok (.putfield 74, 3) := by decide +kernel
theorem dX8_init_172 : decode cX8_init 172 = .ok (.aload_n 0, 1) := by decide +kernel
theorem dX8_init_173 : decode cX8_init 173 = .ok (.bipush 80, 2) := by decide +kernel
theorem dX8_init_175 : decode cX8_init 175 = .ok (.newarray .int, 2) := by decide +kernel
theorem dX8_init_177 : decode cX8_init 177 = .ok (.putfield 77, 3) := by decide +kernel
theorem dX8_init_180 : decode cX8_init 180 = .ok (.aload_n 0, 1) := by decide +kernel
theorem dX8_init_181 : decode cX8_init 181 = .ok (.iconst (-1), 1) := by decide +kernel
theorem dX8_init_182 : decode cX8_init 182 = .ok (.putfield 80, 3) := by decide +kernel
theorem dX8_init_185 : decode cX8_init 185 = .ok (.aload_n 0, 1) := by decide +kernel
theorem dX8_init_186 : decode cX8_init 186 = .ok (.iconst 4, 1) := by decide +kernel
theorem dX8_init_187 : decode cX8_init 187 = .ok (.newarray .boolean, 2) := by decide +kernel
theorem dX8_init_189 : decode cX8_init 189 = .ok (.putfield 83, 3) := by decide +kernel
theorem dX8_init_192 : decode cX8_init 192 = .ok (.aload_n 0, 1) := by decide +kernel
theorem dX8_init_193 : decode cX8_init 193 = .ok (.iconst 4, 1) := by decide +kernel
theorem dX8_init_194 : decode cX8_init 194 = .ok (.newarray .int, 2) := by decide +kernel
theorem dX8_init_196 : decode cX8_init 196 = .ok (.putfield 87, 3) := by decide +kernel
theorem dX8_init_199 : decode cX8_init 199 = .ok (.aload_n 0, 1) := by decide +kernel
theorem dX8_init_200 : decode cX8_init 200 = .ok (.iconst 4, 1) := by decide +kernel
theorem dX8_init_201 : decode cX8_init 201 = .ok (.newarray .int, 2) := by decide +kernel
theorem dX8_init_203 : decode cX8_init 203 = .ok (.putfield 90, 3) := by decide +kernel
theorem dX8_init_206 : decode cX8_init 206 = .ok (.aload_n 0, 1) := by decide +kernel
theorem dX8_init_207 : decode cX8_init 207 = .ok (.sipush 160, 3) := by decide +kernel
theorem dX8_init_210 : decode cX8_init 210 = .ok (.newarray .int, 2) := by decide +kernel
theorem dX8_init_212 : decode cX8_init 212 = .ok (.putfield 93, 3) := by decide +kernel
theorem dX8_init_215 : decode cX8_init 215 = .ok (.aload_n 0, 1) := by decide +kernel
theorem dX8_init_216 : decode cX8_init 216 = .ok (.iconst 0, 1) := by decide +kernel
theorem dX8_init_217 : decode cX8_init 217 = .ok (.bipush 111, 2) := by decide +kernel
theorem dX8_init_219 : decode cX8_init 219 = .ok (.bipush 100, 2) := by decide +kernel
theorem dX8_init_221 : decode cX8_init 221 = .ok (.bipush 100, 2) := by decide +kernel
theorem dX8_init_223 : decode cX8_init 223 = .ok (.bipush 115, 2) := by decide +kernel
theorem dX8_init_225 : decode cX8_init 225 = .ok (.bipush 32, 2) := by decide +kernel
theorem dX8_init_227 : decode cX8_init 227 = .ok (.bipush 112, 2) := by decide +kernel
theorem dX8_init_229 : decode cX8_init 229 = .ok (.bipush 97, 2) := by decide +kernel
theorem dX8_init_231 : decode cX8_init 231 = .ok (.bipush 99, 2) := by decide +kernel
theorem dX8_init_233 : decode cX8_init 233 = .ok (.invokevirtual 96, 3) := by decide +kernel
theorem dX8_init_236 : decode cX8_init 236 = .ok (.aload_n 0, 1) := by decide +kernel
theorem dX8_init_237 : decode cX8_init 237 = .ok (.bipush 8, 2) := by decide +kernel
theorem dX8_init_239 : decode cX8_init 239 = .ok (.bipush 101, 2) := by decide +kernel
theorem dX8_init_241 : decode cX8_init 241 = .ok (.bipush 32, 2) := by decide +kernel
theorem dX8_init_243 : decode cX8_init 243 = .ok (.bipush 59, 2) := by decide +kernel
theorem dX8_init_245 : decode cX8_init 245 = .ok (.bipush 32, 2) := by decide +kernel
theorem dX8_init_247 : decode cX8_init 247 = .ok (.bipush 119, 2) := by decide +kernel
theorem dX8_init_249 : decode cX8_init 249 = .ok (.bipush 111, 2) := by decide +kernel
theorem dX8_init_251 : decode cX8_init 251 = .ok (.bipush 114, 2) := by decide +kernel
theorem dX8_init_253 : decode cX8_init 253 = .ok (.bipush 116, 2) := by decide +kernel
theorem dX8_init_255 : decode cX8_init 255 = .ok (.invokevirtual 96, 3) := by decide +kernel
theorem dX8_init_258 : decode cX8_init 258 = .ok (.aload_n 0, 1) := by decide +kernel
theorem dX8_init_259 : decode cX8_init 259 = .ok (.bipush 16, 2) := by decide +kernel
theorem dX8_init_261 : decode cX8_init 261 = .ok (.bipush 104, 2) := by decide +kernel
theorem dX8_init_263 : decode cX8_init 263 = .ok (.bipush 32, 2) := by decide +kernel
theorem dX8_init_265 : decode cX8_init 265 = .ok (.bipush 49, 2) := by decide +kernel
theorem dX8_init_267 : decode cX8_init 267 = .ok (.bipush 48, 2) := by decide +kernel
theorem dX8_init_269 : decode cX8_init 269 = .ok (.bipush 32, 2) := by decide +kernel
theorem dX8_init_271 : decode cX8_init 271 = .ok (.bipush 45, 2) := by decide +kernel
theorem dX8_init_273 : decode cX8_init 273 = .ok (.bipush 32, 2) := by decide +kernel
theorem dX8_init_275 : decode cX8_init 275 = .ok (.bipush 112, 2) := by decide +kernel
theorem dX8_init_277 : decode cX8_init 277 = .ok (.invokevirtual 96, 3) := by decide +kernel
theorem dX8_init_280 : decode cX8_init 280 = .ok (.aload_n 0, 1) := by decide +kernel
theorem dX8_init_281 : decode cX8_init 281 = .ok (.bipush 24, 2) := by decide +kernel
theorem dX8_init_283 : decode cX8_init 283 = .ok (.bipush 97, 2) := by decide +kernel
theorem dX8_init_285 : decode cX8_init 285 = .ok (.bipush 99, 2) := by decide +kernel
theorem dX8_init_287 : decode cX8_init 287 = .ok (.bipush 101, 2) := by decide +kernel
theorem dX8_init_289 : decode cX8_init 289 = .ok (.bipush 32, 2) := by decide +kernel
theorem dX8_init_291 : decode cX8_init 291 = .ok (.bipush 59, 2) := by decide +kernel
theorem dX8_init_293 : decode cX8_init 293 = .ok (.bipush 32, 2) := by decide +kernel
theorem dX8_init_295 : decode cX8_init 295 = .ok (.bipush 109, 2) := by decide +kernel
theorem dX8_init_297 : decode cX8_init 297 = .ok (.bipush 105, 2) := by decide +kernel
theorem dX8_init_299 : decode cX8_init 299 = .ok (.invokevirtual 96, 3) := by decide +kernel
theorem dX8_init_302 : decode cX8_init 302 = .ok (.aload_n 0, 1) := by decide +kernel
theorem dX8_init_303 : decode cX8_init 303 = .ok (.bipush 32, 2) := by decide +kernel
theorem dX8_init_305 : decode cX8_init 305 = .ok (.bipush 110, 2) := by decide +kernel
theorem dX8_init_307 : decode cX8_init 307 = .ok (.bipush 100, 2) := by decide +kernel
theorem dX8_init_309 : decode cX8_init 309 = .ok (.bipush 115, 2) := by decide +kernel
theorem dX8_init_311 : decode cX8_init 311 = .ok (.bipush 32, 2) := by decide +kernel
theorem dX8_init_313 : decode cX8_init 313 = .ok (.bipush 49, 2) := by decide +kernel
theorem dX8_init_315 : decode cX8_init 315 = .ok (.bipush 32, 2) := by decide +kernel
theorem dX8_init_317 : decode cX8_init 317 = .ok (.bipush 59, 2) := by decide +kernel
theorem dX8_init_319 : decode cX8_init 319 = .ok (.bipush 32, 2) := by decide +kernel
theorem dX8_init_321 : decode cX8_init 321 = .ok (.invokevirtual 96, 3) := by decide +kernel
theorem dX8_init_324 : decode cX8_init 324 = .ok (.aload_n 0, 1) := by decide +kernel
theorem dX8_init_325 : decode cX8_init 325 = .ok (.getfield 17, 3) := by decide +kernel
theorem dX8_init_328 : decode cX8_init 328 = .ok (.iconst 0, 1) := by decide +kernel
theorem dX8_init_329 : decode cX8_init 329 = .ok (.bipush 40, 2) := by decide +kernel
theorem dX8_init_331 : decode cX8_init 331 = .ok (.iastore, 1) := by decide +kernel
theorem dX8_init_332 : decode cX8_init 332 = .ok (.aload_n 0, 1) := by decide +kernel
theorem dX8_init_333 : decode cX8_init 333 = .ok (.iconst 1, 1) := by decide +kernel
theorem dX8_init_334 : decode cX8_init 334 = .ok (.putfield 100, 3) := by decide +kernel
theorem dX8_init_337 : decode cX8_init 337 = .ok (.return_, 1) := by decide +kernel
theorem dX8_spell_0 : decode cX8_spell 0 = .ok (.aload_n 0, 1) := by decide +kernel
theorem dX8_spell_1 : decode cX8_spell 1 = .ok (.getfield 13, 3) := by decide +kernel
theorem dX8_spell_4 : decode cX8_spell 4 = .ok (.iload_n 1, 1) := by decide +kernel
theorem dX8_spell_5 : decode cX8_spell 5 = .ok (.iload_n 2, 1) := by decide +kernel
theorem dX8_spell_6 : decode cX8_spell 6 = .ok (.iastore, 1) := by decide +kernel
theorem dX8_spell_7 : decode cX8_spell 7 = .ok (.aload_n 0, 1) := by decide +kernel
theorem dX8_spell_8 : decode cX8_spell 8 = .ok (.getfield 13, 3) := by decide +kernel
theorem dX8_spell_11 : decode cX8_spell 11 = .ok (.iload_n 1, 1) := by decide +kernel
theorem dX8_spell_12 : decode cX8_spell 12 = .ok (.iconst 1, 1) := by decide +kernel
theorem dX8_spell_13 : decode cX8_spell 13 = .ok (.iadd, 1) := by decide +kernel
theorem dX8_spell_14 : decode cX8_spell 14 = .ok (.iload_n 3, 1) := by decide +kernel
theorem dX8_spell_15 : decode cX8_spell 15 = .ok (.iastore, 1) := by decide +kernel
theorem dX8_spell_16 : decode cX8_spell 16 = .ok (.aload_n 0, 1) := by decide +kernel
theorem dX8_spell_17 : decode cX8_spell 17 = .ok (.getfield 13, 3) := by decide +kernel
theorem dX8_spell_20 : decode cX8_spell 20 = .ok (.iload_n 1, 1) := by decide +kernel
theorem dX8_spell_21 : decode cX8_spell 21 = .ok (.iconst 2, 1) := by decide +kernel
theorem dX8_spell_22 : decode cX8_spell 22 = .ok (.iadd, 1) := by decide +kernel
theorem dX8_spell_23 : decode cX8_spell 23 = .ok (.iload 4, 2) := by decide +kernel
theorem dX8_spell_25 : decode cX8_spell 25 = .ok (.iastore, 1) := by decide +kernel
theorem dX8_spell_26 : decode cX8_spell 26 = .ok (.aload_n 0, 1) := by decide +kernel
theorem dX8_spell_27 : decode cX8_spell 27 = .ok (.getfield 13, 3) := by decide +kernel
theorem dX8_spell_30 : decode cX8_spell 30 = .ok (.iload_n 1, 1) := by decide +kernel
theorem dX8_spell_31 : decode cX8_spell 31 = .ok (.iconst 3, 1) := by decide +kernel
theorem dX8_spell_32 : decode cX8_spell 32 = .ok (.iadd, 1) := by decide +kernel
theorem dX8_spell_33 : decode cX8_spell 33 = .ok (.iload 5, 2) := by decide +kernel
theorem dX8_spell_35 : decode cX8_spell 35 = .ok (.iastore, 1) := by decide +kernel
theorem dX8_spell_36 : decode cX8_spell 36 = .ok (.aload_n 0, 1) := by decide +kernel
theorem dX8_spell_37 : decode cX8_spell 37 = .ok (.getfield 13, 3) := by decide +kernel
theorem dX8_spell_40 : decode cX8_spell 40 = .ok (.iload_n 1, 1) := by decide +kernel
theorem dX8_spell_41 : decode cX8_spell 41 = .ok (.iconst 4, 1) := by decide +kernel
theorem dX8_spell_42 : decode cX8_spell 42 = .ok (.iadd, 1) := by decide +kernel
theorem dX8_spell_43 : decode cX8_spell 43 = .ok (.iload 6, 2) := by decide +kernel
theorem dX8_spell_45 : decode cX8_spell 45 = .ok (.iastore, 1) := by decide +kernel
theorem dX8_spell_46 : decode cX8_spell 46 = .ok (.aload_n 0, 1) := by decide +kernel
theorem dX8_spell_47 : decode cX8_spell 47 = .ok (.getfield 13, 3) := by decide +kernel
theorem dX8_spell_50 : decode cX8_spell 50 = .ok (.iload_n 1, 1) := by decide +kernel
theorem dX8_spell_51 : decode cX8_spell 51 = .ok (.iconst 5, 1) := by decide +kernel
theorem dX8_spell_52 : decode cX8_spell 52 = .ok (.iadd, 1) := by decide +kernel
theorem dX8_spell_53 : decode cX8_spell 53 = .ok (.iload 7, 2) := by decide +kernel
theorem dX8_spell_55 : decode cX8_spell 55 = .ok (.iastore, 1) := by decide +kernel
theorem dX8_spell_56 : decode cX8_spell 56 = .ok (.aload_n 0, 1) := by decide +kernel
theorem dX8_spell_57 : decode cX8_spell 57 = .ok (.getfield 13, 3) := by decide +kernel
theorem dX8_spell_60 : decode cX8_spell 60 = .ok (.iload_n 1, 1) := by decide +kernel
theorem dX8_spell_61 : decode cX8_spell 61 = .ok (.bipush 6, 2) := by decide +kernel
theorem dX8_spell_63 : decode cX8_spell 63 = .ok (.iadd, 1) := by decide +kernel
theorem dX8_spell_64 : decode cX8_spell 64 = .ok (.iload 8, 2) := by decide +kernel
theorem dX8_spell_66 : decode cX8_spell 66 = .ok (.iastore, 1) := by decide +kernel
theorem dX8_spell_67 : decode cX8_spell 67 = .ok (.aload_n 0, 1) := by decide +kernel
theorem dX8_spell_68 : decode cX8_spell 68 = .ok (.getfield 13, 3) := by decide +kernel
theorem dX8_spell_71 : decode cX8_spell 71 = .ok (.iload_n 1, 1) := by decide +kernel
theorem dX8_spell_72 : decode cX8_spell 72 = .ok (.bipush 7, 2) := by decide +kernel
theorem dX8_spell_74 : decode cX8_spell 74 = .ok (.iadd, 1) := by decide +kernel
theorem dX8_spell_75 : decode cX8_spell 75 = .ok (.iload 9, 2) := by decide +kernel
theorem dX8_spell_77 : decode cX8_spell 77 = .ok (.iastore, 1) := by decide +kernel
theorem dX8_spell_78 : decode cX8_spell 78 = .ok (.return_, 1) := by decide +kernel
theorem dX8_isDog_0 : decode cX8_isDog 0 = .ok (.iload_n 1, 1) := by decide +kernel
theorem dX8_isDog_1 : decode cX8_isDog 1 = .ok (.i2l, 1) := by decide +kernel
theorem dX8_isDog_2 : decode cX8_isDog 2 = .ok (.lconst 0, 1) := by decide +kernel
theorem dX8_isDog_3 : decode cX8_isDog 3 = .ok (.aload_n 0, 1) := by decide +kernel
theorem dX8_isDog_4 : decode cX8_isDog 4 = .ok (.getfield 103, 3) := by decide +kernel
theorem dX8_isDog_7 : decode cX8_isDog 7 = .ok (.iconst 1, 1) := by decide +kernel
theorem dX8_isDog_8 : decode cX8_isDog 8 = .ok (.isub, 1) := by decide +kernel
theorem dX8_isDog_9 : decode cX8_isDog 9 = .ok (.i2l, 1) := by decide +kernel
theorem dX8_isDog_10 : decode cX8_isDog 10 = .ok (.invokestatic 106, 3) := by decide +kernel
theorem dX8_isDog_13 : decode cX8_isDog 13 = .ok (.ireturn, 1) := by decide +kernel
theorem dX8_dog_0 : decode cX8_dog 0 = .ok (.iload_n 1, 1) := by decide +kernel
theorem dX8_dog_1 : decode cX8_dog 1 = .ok (.i2l, 1) := by decide +kernel
theorem dX8_dog_2 : decode cX8_dog 2 = .ok (.lconst 0, 1) := by decide +kernel
theorem dX8_dog_3 : decode cX8_dog 3 = .ok (.ldc2_w 110, 3) := by decide +kernel
theorem dX8_dog_6 : decode cX8_dog 6 = .ok (.invokestatic 106, 3) := by decide +kernel
theorem dX8_dog_9 : decode cX8_dog 9 = .ok (.ifCond .eq 29, 3) := by decide +kernel
theorem dX8_dog_12 : decode cX8_dog 12 = .ok (.iload_n 2, 1) := by decide +kernel
theorem dX8_dog_13 : decode cX8_dog 13 = .ok (.i2l, 1) := by decide +kernel
theorem dX8_dog_14 : decode cX8_dog 14 = .ok (.ldc2_w 112, 3) := by decide +kernel
theorem dX8_dog_17 : decode cX8_dog 17 = .ok (.ldc2_w 114, 3) := by decide +kernel
theorem dX8_dog_20 : decode cX8_dog 20 = .ok (.invokestatic 106, 3) := by decide +kernel
theorem dX8_dog_23 : decode cX8_dog 23 = .ok (.ifCond .eq 15, 3) := by decide +kernel
theorem dX8_dog_26 : decode cX8_dog 26 = .ok (.iload_n 3, 1) := by decide +kernel
theorem dX8_dog_27 : decode cX8_dog 27 = .ok (.i2l, 1) := by decide +kernel
theorem dX8_dog_28 : decode cX8_dog 28 = .ok (.lconst 0, 1) := by decide +kernel
theorem dX8_dog_29 : decode cX8_dog 29 = .ok (.ldc2_w 114, 3) := by decide +kernel
theorem dX8_dog_32 : decode cX8_dog 32 = .ok (.invokestatic 106, 3) := by decide +kernel
theorem dX8_dog_35 : decode cX8_dog 35 = .ok (.ifCond .ne 6, 3) := by decide +kernel
theorem dX8_dog_38 : decode cX8_dog 38 = .ok (.bipush (-2), 2) := by decide +kernel
theorem dX8_dog_40 : decode cX8_dog 40 = .ok (.ireturn, 1) := by decide +kernel
theorem dX8_dog_41 : decode cX8_dog 41 = .ok (.aload_n 0, 1) := by decide +kernel
theorem dX8_dog_42 : decode cX8_dog 42 = .ok (.getfield 116, 3) := by decide +kernel
theorem dX8_dog_45 : decode cX8_dog 45 = .ok (.ifCond .le 6, 3) := by decide +kernel
theorem dX8_dog_48 : decode cX8_dog 48 = .ok (.bipush (-3), 2) := by decide +kernel
theorem dX8_dog_50 : decode cX8_dog 50 = .ok (.ireturn, 1) := by decide +kernel
theorem dX8_dog_51 : decode cX8_dog 51 = .ok (.aload_n 0, 1) := by decide +kernel
theorem dX8_dog_52 : decode cX8_dog 52 = .ok (.getfield 103, 3) := by decide +kernel
theorem dX8_dog_55 : decode cX8_dog 55 = .ok (.bipush 6, 2) := by decide +kernel
theorem dX8_dog_57 : decode cX8_dog 57 = .ok (.if_icmp .ne 6, 3) := by decide +kernel
theorem dX8_dog_60 : decode cX8_dog 60 = .ok (.bipush (-4), 2) := by decide +kernel
theorem dX8_dog_62 : decode cX8_dog 62 = .ok (.ireturn, 1) := by decide +kernel
theorem dX8_dog_63 : decode cX8_dog 63 = .ok (.aload_n 0, 1) := by decide +kernel
theorem dX8_dog_64 : decode cX8_dog 64 = .ok (.getfield 23, 3) := by decide +kernel
theorem dX8_dog_67 : decode cX8_dog 67 = .ok (.aload_n 0, 1) := by decide +kernel
theorem dX8_dog_68 : decode cX8_dog 68 = .ok (.getfield 103, 3) := by decide +kernel
theorem dX8_dog_71 : decode cX8_dog 71 = .ok (.iload_n 1, 1) := by decide +kernel
theorem dX8_dog_72 : decode cX8_dog 72 = .ok (.iastore, 1) := by decide +kernel
theorem dX8_dog_73 : decode cX8_dog 73 = .ok (.aload_n 0, 1) := by decide +kernel
theorem dX8_dog_74 : decode cX8_dog 74 = .ok (.getfield 26, 3) := by decide +kernel
theorem dX8_dog_77 : decode cX8_dog 77 = .ok (.aload_n 0, 1) := by decide +kernel
theorem dX8_dog_78 : decode cX8_dog 78 = .ok (.getfield 103, 3) := by decide +kernel
theorem dX8_dog_81 : decode cX8_dog 81 = .ok (.iload_n 2, 1) := by decide +kernel
theorem dX8_dog_82 : decode cX8_dog 82 = .ok (.bipush 10, 2) := by decide +kernel
theorem dX8_dog_84 : decode cX8_dog 84 = .ok (.idiv, 1) := by decide +kernel
theorem dX8_dog_85 : decode cX8_dog 85 = .ok (.iastore, 1) := by decide +kernel
theorem dX8_dog_86 : decode cX8_dog 86 = .ok (.aload_n 0, 1) := by decide +kernel
theorem dX8_dog_87 : decode cX8_dog 87 = .ok (.getfield 29, 3) := by decide +kernel
theorem dX8_dog_90 : decode cX8_dog 90 = .ok (.aload_n 0, 1) := by decide +kernel
theorem dX8_dog_91 : decode cX8_dog 91 = .ok (.getfield 103, 3) := by decide +kernel
theorem dX8_dog_94 : decode cX8_dog 94 = .ok (.iload_n 2, 1) := by decide +kernel
theorem dX8_dog_95 : decode cX8_dog 95 = .ok (.bipush 10, 2) := by decide +kernel
theorem dX8_dog_97 : decode cX8_dog 97 = .ok (.irem, 1) := by decide +kernel
theorem dX8_dog_98 : decode cX8_dog 98 = .ok (.iastore, 1) := by decide +kernel
theorem dX8_dog_99 : decode cX8_dog 99 = .ok (.aload_n 0, 1) := by decide +kernel
theorem dX8_dog_100 : decode cX8_dog 100 = .ok (.getfield 32, 3) := by decide +kernel
theorem dX8_dog_103 : decode cX8_dog 103 = .ok (.aload_n 0, 1) := by decide +kernel
theorem dX8_dog_104 : decode cX8_dog 104 = .ok (.getfield 103, 3) := by decide +kernel
theorem dX8_dog_107 : decode cX8_dog 107 = .ok (.iload_n 3, 1) := by decide +kernel
theorem dX8_dog_108 : decode cX8_dog 108 = .ok (.iastore, 1) := by decide +kernel
theorem dX8_dog_109 : decode cX8_dog 109 = .ok (.aload_n 0, 1) := by decide +kernel
theorem dX8_dog_110 : decode cX8_dog 110 = .ok (.getfield 35, 3) := by decide +kernel
theorem dX8_dog_113 : decode cX8_dog 113 = .ok (.aload_n 0, 1) := by decide +kernel
theorem dX8_dog_114 : decode cX8_dog 114 = .ok (.getfield 103, 3) := by decide +kernel
theorem dX8_dog_117 : decode cX8_dog 117 = .ok (.aload_n 0, 1) := by decide +kernel
theorem dX8_dog_118 : decode cX8_dog 118 = .ok (.getfield 103, 3) := by decide +kernel
theorem dX8_dog_121 : decode cX8_dog 121 = .ok (.iastore, 1) := by decide +kernel
theorem dX8_dog_122 : decode cX8_dog 122 = .ok (.aload_n 0, 1) := by decide +kernel
theorem dX8_dog_123 : decode cX8_dog 123 = .ok (.dup, 1) := by decide +kernel
theorem dX8_dog_124 : decode cX8_dog 124 = .ok (.getfield 103, 3) := by decide +kernel
theorem dX8_dog_127 : decode cX8_dog 127 = .ok (.iconst 1, 1) := by decide +kernel
theorem dX8_dog_128 : decode cX8_dog 128 = .ok (.iadd, 1) := by decide +kernel
theorem dX8_dog_129 : decode cX8_dog 129 = .ok (.putfield 103, 3) := by decide +kernel
theorem dX8_dog_132 : decode cX8_dog 132 = .ok (.aload_n 0, 1) := by decide +kernel
theorem dX8_dog_133 : decode cX8_dog 133 = .ok (.getfield 103, 3) := by decide +kernel
theorem dX8_dog_136 : decode cX8_dog 136 = .ok (.iconst 1, 1) := by decide +kernel
theorem dX8_dog_137 : decode cX8_dog 137 = .ok (.isub, 1) := by decide +kernel
theorem dX8_dog_138 : decode cX8_dog 138 = .ok (.ireturn, 1) := by decide +kernel
theorem dX8_set_0 : decode cX8_set 0 = .ok (.aload_n 0, 1) := by decide +kernel
theorem dX8_set_1 : decode cX8_set 1 = .ok (.iload_n 1, 1) := by decide +kernel
theorem dX8_set_2 : decode cX8_set 2 = .ok (.invokevirtual 119, 3) := by decide +kernel
theorem dX8_set_5 : decode cX8_set 5 = .ok (.ifCond .eq 46, 3) := by decide +kernel
theorem dX8_set_8 : decode cX8_set 8 = .ok (.iload_n 2, 1) := by decide +kernel
theorem dX8_set_9 : decode cX8_set 9 = .ok (.i2l, 1) := by decide +kernel
theorem dX8_set_10 : decode cX8_set 10 = .ok (.lconst 0, 1) := by decide +kernel
theorem dX8_set_11 : decode cX8_set 11 = .ok (.ldc2_w 123, 3) := by decide +kernel
theorem dX8_set_14 : decode cX8_set 14 = .ok (.invokestatic 106, 3) := by decide +kernel
theorem dX8_set_17 : decode cX8_set 17 = .ok (.ifCond .eq 34, 3) := by decide +kernel
theorem dX8_set_20 : decode cX8_set 20 = .ok (.iload_n 3, 1) := by decide +kernel
theorem dX8_set_21 : decode cX8_set 21 = .ok (.i2l, 1) := by decide +kernel
theorem dX8_set_22 : decode cX8_set 22 = .ok (.iload_n 2, 1) := by decide +kernel
theorem dX8_set_23 : decode cX8_set 23 = .ok (.ifCond .ne 7, 3) := by decide +kernel
theorem dX8_set_26 : decode cX8_set 26 = .ok (.lconst 1, 1) := by decide +kernel
theorem dX8_set_27 : decode cX8_set 27 = .ok (.goto 4, 3) := by decide +kernel
theorem dX8_set_30 : decode cX8_set 30 = .ok (.lconst 0, 1) := by decide +kernel
theorem dX8_set_31 : decode cX8_set 31 = .ok (.iload_n 2, 1) := by decide +kernel
theorem dX8_set_32 : decode cX8_set 32 = .ok (.iconst 2, 1) := by decide +kernel
theorem dX8_set_33 : decode cX8_set 33 = .ok (.if_icmp .ne 9, 3) := by decide +kernel
theorem dX8_set_36 : decode cX8_set 36 = .ok (.ldc2_w 114, 3) := by decide +kernel
theorem dX8_set_39 : decode cX8_set 39 = .ok (.goto 6, 3) := by decide +kernel
theorem dX8_set_42 : decode cX8_set 42 = .ok (.ldc2_w 125, 3) := by decide +kernel
theorem dX8_set_45 : decode cX8_set 45 = .ok (.invokestatic 106, 3) := by decide +kernel
theorem dX8_set_48 : decode cX8_set 48 = .ok (.ifCond .ne 6, 3) := by decide +kernel
theorem dX8_set_51 : decode cX8_set 51 = .ok (.bipush (-2), 2) := by decide +kernel
theorem dX8_set_53 : decode cX8_set 53 = .ok (.ireturn, 1) := by decide +kernel
theorem dX8_set_54 : decode cX8_set 54 = .ok (.iload_n 2, 1) := by decide +kernel
theorem dX8_set_55 : decode cX8_set 55 = .ok (.ifCond .ne 12, 3) := by decide +kernel
theorem dX8_set_58 : decode cX8_set 58 = .ok (.aload_n 0, 1) := by decide +kernel
theorem dX8_set_59 : decode cX8_set 59 = .ok (.getfield 26, 3) := by decide +kernel
theorem dX8_set_62 : decode cX8_set 62 = .ok (.iload_n 1, 1) := by decide +kernel
theorem dX8_set_63 : decode cX8_set 63 = .ok (.iaload, 1) := by decide +kernel
theorem dX8_set_64 : decode cX8_set 64 = .ok (.goto 23, 3) := by decide +kernel
theorem dX8_set_67 : decode cX8_set 67 = .ok (.iload_n 2, 1) := by decide +kernel
theorem dX8_set_68 : decode cX8_set 68 = .ok (.iconst 1, 1) := by decide +kernel
theorem dX8_set_69 : decode cX8_set 69 = .ok (.if_icmp .ne 12, 3) := by decide +kernel
theorem dX8_set_72 : decode cX8_set 72 = .ok (.aload_n 0, 1) := by decide +kernel
theorem dX8_set_73 : decode cX8_set 73 = .ok (.getfield 29, 3) := by decide +kernel
theorem dX8_set_76 : decode cX8_set 76 = .ok (.iload_n 1, 1) := by decide +kernel
theorem dX8_set_77 : decode cX8_set 77 = .ok (.iaload, 1) := by decide +kernel
theorem dX8_set_78 : decode cX8_set 78 = .ok (.goto 9, 3) := by decide +kernel
theorem dX8_set_81 : decode cX8_set 81 = .ok (.aload_n 0, 1) := by decide +kernel
theorem dX8_set_82 : decode cX8_set 82 = .ok (.getfield 32, 3) := by decide +kernel
theorem dX8_set_85 : decode cX8_set 85 = .ok (.iload_n 1, 1) := by decide +kernel
theorem dX8_set_86 : decode cX8_set 86 = .ok (.iaload, 1) := by decide +kernel
theorem dX8_set_87 : decode cX8_set 87 = .ok (.istore 4, 2) := by decide +kernel
theorem dX8_set_89 : decode cX8_set 89 = .ok (.iload_n 2, 1) := by decide +kernel
theorem dX8_set_90 : decode cX8_set 90 = .ok (.ifCond .ne 13, 3) := by decide +kernel
theorem dX8_set_93 : decode cX8_set 93 = .ok (.aload_n 0, 1) := by decide +kernel
theorem dX8_set_94 : decode cX8_set 94 = .ok (.getfield 26, 3) := by decide +kernel
theorem dX8_set_97 : decode cX8_set 97 = .ok (.iload_n 1, 1) := by decide +kernel
theorem dX8_set_98 : decode cX8_set 98 = .ok (.iload_n 3, 1) := by decide +kernel
theorem dX8_set_99 : decode cX8_set 99 = .ok (.iastore, 1) := by decide +kernel
theorem dX8_set_100 : decode cX8_set 100 = .ok (.goto 25, 3) := by decide +kernel
theorem dX8_set_103 : decode cX8_set 103 = .ok (.iload_n 2, 1) := by decide +kernel
theorem dX8_set_104 : decode cX8_set 104 = .ok (.iconst 1, 1) := by decide +kernel
theorem dX8_set_105 : decode cX8_set 105 = .ok (.if_icmp .ne 13, 3) := by decide +kernel
theorem dX8_set_108 : decode cX8_set 108 = .ok (.aload_n 0, 1) := by decide +kernel
theorem dX8_set_109 : decode cX8_set 109 = .ok (.getfield 29, 3) := by decide +kernel
theorem dX8_set_112 : decode cX8_set 112 = .ok (.iload_n 1, 1) := by decide +kernel
theorem dX8_set_113 : decode cX8_set 113 = .ok (.iload_n 3, 1) := by decide +kernel
theorem dX8_set_114 : decode cX8_set 114 = .ok (.iastore, 1) := by decide +kernel
theorem dX8_set_115 : decode cX8_set 115 = .ok (.goto 10, 3) := by decide +kernel
theorem dX8_set_118 : decode cX8_set 118 = .ok (.aload_n 0, 1) := by decide +kernel
theorem dX8_set_119 : decode cX8_set 119 = .ok (.getfield 32, 3) := by decide +kernel
theorem dX8_set_122 : decode cX8_set 122 = .ok (.iload_n 1, 1) := by decide +kernel
theorem dX8_set_123 : decode cX8_set 123 = .ok (.iload_n 3, 1) := by decide +kernel
theorem dX8_set_124 : decode cX8_set 124 = .ok (.iastore, 1) := by decide +kernel
theorem dX8_set_125 : decode cX8_set 125 = .ok (.iload 4, 2) := by decide +kernel
theorem dX8_set_127 : decode cX8_set 127 = .ok (.ireturn, 1) := by decide +kernel
theorem dX8_placeOf_0 : decode cX8_placeOf 0 = .ok (.iconst 0, 1) := by decide +kernel
theorem dX8_placeOf_1 : decode cX8_placeOf 1 = .ok (.istore_n 2, 1) := by decide +kernel
theorem dX8_placeOf_2 : decode cX8_placeOf 2 = .ok (.aload_n 0, 1) := by decide +kernel
theorem dX8_placeOf_3 : decode cX8_placeOf 3 = .ok (.getfield 35, 3) := by decide +kernel
theorem dX8_placeOf_6 : decode cX8_placeOf 6 = .ok (.iload_n 2, 1) := by decide +kernel
theorem dX8_placeOf_7 : decode cX8_placeOf 7 = .ok (.iaload, 1) := by decide +kernel
theorem dX8_placeOf_8 : decode cX8_placeOf 8 = .ok (.iload_n 1, 1) := by decide +kernel
theorem dX8_placeOf_9 : decode cX8_placeOf 9 = .ok (.if_icmp .eq 9, 3) := by decide +kernel
theorem dX8_placeOf_12 : decode cX8_placeOf 12 = .ok (.iinc 2 1, 3) := by decide +kernel
theorem dX8_placeOf_15 : decode cX8_placeOf 15 = .ok (.goto (-13), 3) := by decide +kernel
theorem dX8_placeOf_18 : decode cX8_placeOf 18 = .ok (.iload_n 2, 1) := by decide +kernel
theorem dX8_placeOf_19 : decode cX8_placeOf 19 = .ok (.ireturn, 1) := by decide +kernel
theorem dX8_pulls_0 : decode cX8_pulls 0 = .ok (.aload_n 0, 1) := by decide +kernel
theorem dX8_pulls_1 : decode cX8_pulls 1 = .ok (.getfield 23, 3) := by decide +kernel
theorem dX8_pulls_4 : decode cX8_pulls 4 = .ok (.iload_n 1, 1) := by decide +kernel
theorem dX8_pulls_5 : decode cX8_pulls 5 = .ok (.iaload, 1) := by decide +kernel
theorem dX8_pulls_6 : decode cX8_pulls 6 = .ok (.istore_n 3, 1) := by decide +kernel
theorem dX8_pulls_7 : decode cX8_pulls 7 = .ok (.aload_n 0, 1) := by decide +kernel
theorem dX8_pulls_8 : decode cX8_pulls 8 = .ok (.getfield 26, 3) := by decide +kernel
theorem dX8_pulls_11 : decode cX8_pulls 11 = .ok (.iload_n 1, 1) := by decide +kernel
theorem dX8_pulls_12 : decode cX8_pulls 12 = .ok (.iaload, 1) := by decide +kernel
theorem dX8_pulls_13 : decode cX8_pulls 13 = .ok (.aload_n 0, 1) := by decide +kernel
theorem dX8_pulls_14 : decode cX8_pulls 14 = .ok (.getfield 29, 3) := by decide +kernel
theorem dX8_pulls_17 : decode cX8_pulls 17 = .ok (.iload_n 1, 1) := by decide +kernel
theorem dX8_pulls_18 : decode cX8_pulls 18 = .ok (.iaload, 1) := by decide +kernel
theorem dX8_pulls_19 : decode cX8_pulls 19 = .ok (.iadd, 1) := by decide +kernel
theorem dX8_pulls_20 : decode cX8_pulls 20 = .ok (.istore 4, 2) := by decide +kernel
theorem dX8_pulls_22 : decode cX8_pulls 22 = .ok (.aload_n 0, 1) := by decide +kernel
theorem dX8_pulls_23 : decode cX8_pulls 23 = .ok (.getfield 26, 3) := by decide +kernel
theorem dX8_pulls_26 : decode cX8_pulls 26 = .ok (.iload_n 1, 1) := by decide +kernel
theorem dX8_pulls_27 : decode cX8_pulls 27 = .ok (.iaload, 1) := by decide +kernel
theorem dX8_pulls_28 : decode cX8_pulls 28 = .ok (.istore 5, 2) := by decide +kernel
theorem dX8_pulls_30 : decode cX8_pulls 30 = .ok (.iload_n 3, 1) := by decide +kernel
theorem dX8_pulls_31 : decode cX8_pulls 31 = .ok (.iconst 1, 1) := by decide +kernel
theorem dX8_pulls_32 : decode cX8_pulls 32 = .ok (.if_icmp .ne 7, 3) := by decide +kernel
theorem dX8_pulls_35 : decode cX8_pulls 35 = .ok (.iload 4, 2) := by decide +kernel
theorem dX8_pulls_37 : decode cX8_pulls 37 = .ok (.istore 5, 2) := by decide +kernel
theorem dX8_pulls_39 : decode cX8_pulls 39 = .ok (.iload_n 3, 1) := by decide +kernel
theorem dX8_pulls_40 : decode cX8_pulls 40 = .ok (.iconst 3, 1) := by decide +kernel
theorem dX8_pulls_41 : decode cX8_pulls 41 = .ok (.if_icmp .ne 9, 3) := by decide +kernel
theorem dX8_pulls_44 : decode cX8_pulls 44 = .ok (.iload 4, 2) := by decide +kernel
theorem dX8_pulls_46 : decode cX8_pulls 46 = .ok (.iload_n 2, 1) := by decide +kernel
theorem dX8_pulls_47 : decode cX8_pulls 47 = .ok (.iadd, 1) := by decide +kernel
theorem dX8_pulls_48 : decode cX8_pulls 48 = .ok (.istore 5, 2) := by decide +kernel
theorem dX8_pulls_50 : decode cX8_pulls 50 = .ok (.iload_n 3, 1) := by decide +kernel
theorem dX8_pulls_51 : decode cX8_pulls 51 = .ok (.iconst 5, 1) := by decide +kernel
theorem dX8_pulls_52 : decode cX8_pulls 52 = .ok (.if_icmp .ne 11, 3) := by decide +kernel
theorem dX8_pulls_55 : decode cX8_pulls 55 = .ok (.iconst 2, 1) := by decide +kernel
theorem dX8_pulls_56 : decode cX8_pulls 56 = .ok (.iload 4, 2) := by decide +kernel
theorem dX8_pulls_58 : decode cX8_pulls 58 = .ok (.imul, 1) := by decide +kernel
theorem dX8_pulls_59 : decode cX8_pulls 59 = .ok (.iload_n 2, 1) := by decide +kernel
theorem dX8_pulls_60 : decode cX8_pulls 60 = .ok (.isub, 1) := by decide +kernel
theorem dX8_pulls_61 : decode cX8_pulls 61 = .ok (.istore 5, 2) := by decide +kernel
theorem dX8_pulls_63 : decode cX8_pulls 63 = .ok (.iload_n 3, 1) := by decide +kernel
theorem dX8_pulls_64 : decode cX8_pulls 64 = .ok (.iconst 2, 1) := by decide +kernel
theorem dX8_pulls_65 : decode cX8_pulls 65 = .ok (.if_icmp .ne 13, 3) := by decide +kernel
theorem dX8_pulls_68 : decode cX8_pulls 68 = .ok (.aload_n 0, 1) := by decide +kernel
theorem dX8_pulls_69 : decode cX8_pulls 69 = .ok (.getfield 26, 3) := by decide +kernel
theorem dX8_pulls_72 : decode cX8_pulls 72 = .ok (.iload_n 1, 1) := by decide +kernel
theorem dX8_pulls_73 : decode cX8_pulls 73 = .ok (.iaload, 1) := by decide +kernel
theorem dX8_pulls_74 : decode cX8_pulls 74 = .ok (.iconst 2, 1) := by decide +kernel
theorem dX8_pulls_75 : decode cX8_pulls 75 = .ok (.idiv, 1) := by decide +kernel
theorem dX8_pulls_76 : decode cX8_pulls 76 = .ok (.istore 5, 2) := by decide +kernel
theorem dX8_pulls_78 : decode cX8_pulls 78 = .ok (.iload_n 3, 1) := by decide +kernel
theorem dX8_pulls_79 : decode cX8_pulls 79 = .ok (.iconst 4, 1) := by decide +kernel
theorem dX8_pulls_80 : decode cX8_pulls 80 = .ok (.if_icmp .ne 15, 3) := by decide +kernel
theorem dX8_pulls_83 : decode cX8_pulls 83 = .ok (.aload_n 0, 1) := by decide +kernel
theorem dX8_pulls_84 : decode cX8_pulls 84 = .ok (.getfield 26, 3) := by decide +kernel
theorem dX8_pulls_87 : decode cX8_pulls 87 = .ok (.iload_n 1, 1) := by decide +kernel
theorem dX8_pulls_88 : decode cX8_pulls 88 = .ok (.iaload, 1) := by decide +kernel
theorem dX8_pulls_89 : decode cX8_pulls 89 = .ok (.iconst 2, 1) := by decide +kernel
theorem dX8_pulls_90 : decode cX8_pulls 90 = .ok (.idiv, 1) := by decide +kernel
theorem dX8_pulls_91 : decode cX8_pulls 91 = .ok (.iconst 2, 1) := by decide +kernel
theorem dX8_pulls_92 : decode cX8_pulls 92 = .ok (.isub, 1) := by decide +kernel
theorem dX8_pulls_93 : decode cX8_pulls 93 = .ok (.istore 5, 2) := by decide +kernel
theorem dX8_pulls_95 : decode cX8_pulls 95 = .ok (.iload 5, 2) := by decide +kernel
theorem dX8_pulls_97 : decode cX8_pulls 97 = .ok (.ifCond .ge 7, 3) := by decide +kernel
theorem dX8_pulls_100 : decode cX8_pulls 100 = .ok (.iconst 0, 1) := by decide +kernel
theorem dX8_pulls_101 : decode cX8_pulls 101 = .ok (.goto 5, 3) := by decide +kernel
theorem dX8_pulls_104 : decode cX8_pulls 104 = .ok (.iload 5, 2) := by decide +kernel
theorem dX8_pulls_106 : decode cX8_pulls 106 = .ok (.ireturn, 1) := by decide +kernel
theorem dX8_right_0 : decode cX8_right 0 = .ok (.aload_n 0, 1) := by decide +kernel
theorem dX8_right_1 : decode cX8_right 1 = .ok (.getfield 23, 3) := by decide +kernel
theorem dX8_right_4 : decode cX8_right 4 = .ok (.iload_n 1, 1) := by decide +kernel
theorem dX8_right_5 : decode cX8_right 5 = .ok (.iaload, 1) := by decide +kernel
theorem dX8_right_6 : decode cX8_right 6 = .ok (.istore 4, 2) := by decide +kernel
theorem dX8_right_8 : decode cX8_right 8 = .ok (.iload 4, 2) := by decide +kernel
theorem dX8_right_10 : decode cX8_right 10 = .ok (.iconst 3, 1) := by decide +kernel
theorem dX8_right_11 : decode cX8_right 11 = .ok (.if_icmp .ne 5, 3) := by decide +kernel
theorem dX8_right_14 : decode cX8_right 14 = .ok (.iconst 0, 1) := by decide +kernel
theorem dX8_right_15 : decode cX8_right 15 = .ok (.ireturn, 1) := by decide +kernel
theorem dX8_right_16 : decode cX8_right 16 = .ok (.iload 4, 2) := by decide +kernel
theorem dX8_right_18 : decode cX8_right 18 = .ok (.ifCond .eq 9, 3) := by decide +kernel
theorem dX8_right_21 : decode cX8_right 21 = .ok (.iload 4, 2) := by decide +kernel
theorem dX8_right_23 : decode cX8_right 23 = .ok (.iconst 2, 1) := by decide +kernel
theorem dX8_right_24 : decode cX8_right 24 = .ok (.if_icmp .ne 14, 3) := by decide +kernel
theorem dX8_right_27 : decode cX8_right 27 = .ok (.iload_n 2, 1) := by decide +kernel
theorem dX8_right_28 : decode cX8_right 28 = .ok (.iload_n 3, 1) := by decide +kernel
theorem dX8_right_29 : decode cX8_right 29 = .ok (.if_icmp .lt 7, 3) := by decide +kernel
theorem dX8_right_32 : decode cX8_right 32 = .ok (.iconst 1, 1) := by decide +kernel
theorem dX8_right_33 : decode cX8_right 33 = .ok (.goto 4, 3) := by decide +kernel
theorem dX8_right_36 : decode cX8_right 36 = .ok (.iconst 0, 1) := by decide +kernel
theorem dX8_right_37 : decode cX8_right 37 = .ok (.ireturn, 1) := by decide +kernel
theorem dX8_right_38 : decode cX8_right 38 = .ok (.iload 4, 2) := by decide +kernel
theorem dX8_right_40 : decode cX8_right 40 = .ok (.iconst 4, 1) := by decide +kernel
theorem dX8_right_41 : decode cX8_right 41 = .ok (.if_icmp .ne 18, 3) := by decide +kernel
theorem dX8_right_44 : decode cX8_right 44 = .ok (.iload_n 2, 1) := by decide +kernel
theorem dX8_right_45 : decode cX8_right 45 = .ok (.iload_n 3, 1) := by decide +kernel
theorem dX8_right_46 : decode cX8_right 46 = .ok (.if_icmp .ge 7, 3) := by decide +kernel
theorem dX8_right_49 : decode cX8_right 49 = .ok (.iload_n 2, 1) := by decide +kernel
theorem dX8_right_50 : decode cX8_right 50 = .ok (.ifCond .ne 7, 3) := by decide +kernel
theorem dX8_right_53 : decode cX8_right 53 = .ok (.iconst 1, 1) := by decide +kernel
theorem dX8_right_54 : decode cX8_right 54 = .ok (.goto 4, 3) := by decide +kernel
theorem dX8_right_57 : decode cX8_right 57 = .ok (.iconst 0, 1) := by decide +kernel
theorem dX8_right_58 : decode cX8_right 58 = .ok (.ireturn, 1) := by decide +kernel
theorem dX8_right_59 : decode cX8_right 59 = .ok (.iload_n 2, 1) := by decide +kernel
theorem dX8_right_60 : decode cX8_right 60 = .ok (.aload_n 0, 1) := by decide +kernel
theorem dX8_right_61 : decode cX8_right 61 = .ok (.getfield 29, 3) := by decide +kernel
theorem dX8_right_64 : decode cX8_right 64 = .ok (.iload_n 1, 1) := by decide +kernel
theorem dX8_right_65 : decode cX8_right 65 = .ok (.iaload, 1) := by decide +kernel
theorem dX8_right_66 : decode cX8_right 66 = .ok (.iconst 4, 1) := by decide +kernel
theorem dX8_right_67 : decode cX8_right 67 = .ok (.if_icmp .le 7, 3) := by decide +kernel
theorem dX8_right_70 : decode cX8_right 70 = .ok (.iconst 1, 1) := by decide +kernel
theorem dX8_right_71 : decode cX8_right 71 = .ok (.goto 4, 3) := by decide +kernel
theorem dX8_right_74 : decode cX8_right 74 = .ok (.iconst 0, 1) := by decide +kernel
theorem dX8_right_75 : decode cX8_right 75 = .ok (.iadd, 1) := by decide +kernel
theorem dX8_right_76 : decode cX8_right 76 = .ok (.iload_n 3, 1) := by decide +kernel
theorem dX8_right_77 : decode cX8_right 77 = .ok (.if_icmp .lt 7, 3) := by decide +kernel
theorem dX8_right_80 : decode cX8_right 80 = .ok (.iconst 1, 1) := by decide +kernel
theorem dX8_right_81 : decode cX8_right 81 = .ok (.goto 4, 3) := by decide +kernel
theorem dX8_right_84 : decode cX8_right 84 = .ok (.iconst 0, 1) := by decide +kernel
theorem dX8_right_85 : decode cX8_right 85 = .ok (.istore 5, 2) := by decide +kernel
theorem dX8_right_87 : decode cX8_right 87 = .ok (.iload 4, 2) := by decide +kernel
theorem dX8_right_89 : decode cX8_right 89 = .ok (.iconst 5, 1) := by decide +kernel
theorem dX8_right_90 : decode cX8_right 90 = .ok (.if_icmp .ne 22, 3) := by decide +kernel
theorem dX8_right_93 : decode cX8_right 93 = .ok (.iload_n 2, 1) := by decide +kernel
theorem dX8_right_94 : decode cX8_right 94 = .ok (.iconst 2, 1) := by decide +kernel
theorem dX8_right_95 : decode cX8_right 95 = .ok (.irem, 1) := by decide +kernel
theorem dX8_right_96 : decode cX8_right 96 = .ok (.ifCond .ne 16, 3) := by decide +kernel
theorem dX8_right_99 : decode cX8_right 99 = .ok (.iload 5, 2) := by decide +kernel
theorem dX8_right_101 : decode cX8_right 101 = .ok (.ifCond .ne 7, 3) := by decide +kernel
theorem dX8_right_104 : decode cX8_right 104 = .ok (.iconst 1, 1) := by decide +kernel
theorem dX8_right_105 : decode cX8_right 105 = .ok (.goto 9, 3) := by decide +kernel
theorem dX8_right_108 : decode cX8_right 108 = .ok (.iconst 0, 1) := by decide +kernel
theorem dX8_right_109 : decode cX8_right 109 = .ok (.goto 5, 3) := by decide +kernel
theorem dX8_right_112 : decode cX8_right 112 = .ok (.iload 5, 2) := by decide +kernel
theorem dX8_right_114 : decode cX8_right 114 = .ok (.ireturn, 1) := by decide +kernel
theorem dX8_told_0 : decode cX8_told 0 = .ok (.aload_n 0, 1) := by decide +kernel
theorem dX8_told_1 : decode cX8_told 1 = .ok (.iload_n 1, 1) := by decide +kernel
theorem dX8_told_2 : decode cX8_told 2 = .ok (.invokevirtual 119, 3) := by decide +kernel
theorem dX8_told_5 : decode cX8_told 5 = .ok (.ifCond .eq 15, 3) := by decide +kernel
theorem dX8_told_8 : decode cX8_told 8 = .ok (.iload_n 2, 1) := by decide +kernel
theorem dX8_told_9 : decode cX8_told 9 = .ok (.i2l, 1) := by decide +kernel
theorem dX8_told_10 : decode cX8_told 10 = .ok (.lconst 0, 1) := by decide +kernel
theorem dX8_told_11 : decode cX8_told 11 = .ok (.ldc2_w 110, 3) := by decide +kernel
theorem dX8_told_14 : decode cX8_told 14 = .ok (.invokestatic 106, 3) := by decide +kernel
theorem dX8_told_17 : decode cX8_told 17 = .ok (.ifCond .ne 6, 3) := by decide +kernel
theorem dX8_told_20 : decode cX8_told 20 = .ok (.bipush (-2), 2) := by decide +kernel
theorem dX8_told_22 : decode cX8_told 22 = .ok (.ireturn, 1) := by decide +kernel
theorem dX8_told_23 : decode cX8_told 23 = .ok (.iload_n 2, 1) := by decide +kernel
theorem dX8_told_24 : decode cX8_told 24 = .ok (.iconst 3, 1) := by decide +kernel
theorem dX8_told_25 : decode cX8_told 25 = .ok (.if_icmp .ge 37, 3) := by decide +kernel
theorem dX8_told_28 : decode cX8_told 28 = .ok (.iload_n 2, 1) := by decide +kernel
theorem dX8_told_29 : decode cX8_told 29 = .ok (.ifCond .ne 12, 3) := by decide +kernel
theorem dX8_told_32 : decode cX8_told 32 = .ok (.aload_n 0, 1) := by decide +kernel
theorem dX8_told_33 : decode cX8_told 33 = .ok (.getfield 26, 3) := by decide +kernel
theorem dX8_told_36 : decode cX8_told 36 = .ok (.iload_n 1, 1) := by decide +kernel
theorem dX8_told_37 : decode cX8_told 37 = .ok (.iaload, 1) := by decide +kernel
theorem dX8_told_38 : decode cX8_told 38 = .ok (.goto 23, 3) := by decide +kernel
theorem dX8_told_41 : decode cX8_told 41 = .ok (.iload_n 2, 1) := by decide +kernel
theorem dX8_told_42 : decode cX8_told 42 = .ok (.iconst 1, 1) := by decide +kernel
theorem dX8_told_43 : decode cX8_told 43 = .ok (.if_icmp .ne 12, 3) := by decide +kernel
theorem dX8_told_46 : decode cX8_told 46 = .ok (.aload_n 0, 1) := by decide +kernel
theorem dX8_told_47 : decode cX8_told 47 = .ok (.getfield 29, 3) := by decide +kernel
theorem dX8_told_50 : decode cX8_told 50 = .ok (.iload_n 1, 1) := by decide +kernel
theorem dX8_told_51 : decode cX8_told 51 = .ok (.iaload, 1) := by decide +kernel
theorem dX8_told_52 : decode cX8_told 52 = .ok (.goto 9, 3) := by decide +kernel
theorem dX8_told_55 : decode cX8_told 55 = .ok (.aload_n 0, 1) := by decide +kernel
theorem dX8_told_56 : decode cX8_told 56 = .ok (.getfield 32, 3) := by decide +kernel
theorem dX8_told_59 : decode cX8_told 59 = .ok (.iload_n 1, 1) := by decide +kernel
theorem dX8_told_60 : decode cX8_told 60 = .ok (.iaload, 1) := by decide +kernel
theorem dX8_told_61 : decode cX8_told 61 = .ok (.ireturn, 1) := by decide +kernel
theorem dX8_told_62 : decode cX8_told 62 = .ok (.iload_n 2, 1) := by decide +kernel
theorem dX8_told_63 : decode cX8_told 63 = .ok (.iconst 3, 1) := by decide +kernel
theorem dX8_told_64 : decode cX8_told 64 = .ok (.if_icmp .ne 12, 3) := by decide +kernel
theorem dX8_told_67 : decode cX8_told 67 = .ok (.aload_n 0, 1) := by decide +kernel
theorem dX8_told_68 : decode cX8_told 68 = .ok (.getfield 23, 3) := by decide +kernel
theorem dX8_told_71 : decode cX8_told 71 = .ok (.iload_n 1, 1) := by decide +kernel
theorem dX8_told_72 : decode cX8_told 72 = .ok (.iaload, 1) := by decide +kernel
theorem dX8_told_73 : decode cX8_told 73 = .ok (.goto 26, 3) := by decide +kernel
theorem dX8_told_76 : decode cX8_told 76 = .ok (.iload_n 2, 1) := by decide +kernel
theorem dX8_told_77 : decode cX8_told 77 = .ok (.iconst 4, 1) := by decide +kernel
theorem dX8_told_78 : decode cX8_told 78 = .ok (.if_icmp .ne 11, 3) := by decide +kernel
theorem dX8_told_81 : decode cX8_told 81 = .ok (.aload_n 0, 1) := by decide +kernel
theorem dX8_told_82 : decode cX8_told 82 = .ok (.iload_n 1, 1) := by decide +kernel
theorem dX8_told_83 : decode cX8_told 83 = .ok (.invokevirtual 127, 3) := by decide +kernel
theorem dX8_told_86 : decode cX8_told 86 = .ok (.goto 13, 3) := by decide +kernel
theorem dX8_told_89 : decode cX8_told 89 = .ok (.aload_n 0, 1) := by decide +kernel
theorem dX8_told_90 : decode cX8_told 90 = .ok (.iload_n 1, 1) := by decide +kernel
theorem dX8_told_91 : decode cX8_told 91 = .ok (.aload_n 0, 1) := by decide +kernel
theorem dX8_told_92 : decode cX8_told 92 = .ok (.iload_n 1, 1) := by decide +kernel
theorem dX8_told_93 : decode cX8_told 93 = .ok (.invokevirtual 127, 3) := by decide +kernel
theorem dX8_told_96 : decode cX8_told 96 = .ok (.invokevirtual 131, 3) := by decide +kernel
theorem dX8_told_99 : decode cX8_told 99 = .ok (.ireturn, 1) := by decide +kernel
theorem dX8_feed_0 : decode cX8_feed 0 = .ok (.iload_n 1, 1) := by decide +kernel
theorem dX8_feed_1 : decode cX8_feed 1 = .ok (.i2l, 1) := by decide +kernel
theorem dX8_feed_2 : decode cX8_feed 2 = .ok (.lconst 0, 1) := by decide +kernel
theorem dX8_feed_3 : decode cX8_feed 3 = .ok (.ldc2_w 135, 3) := by decide +kernel
theorem dX8_feed_6 : decode cX8_feed 6 = .ok (.invokestatic 106, 3) := by decide +kernel
theorem dX8_feed_9 : decode cX8_feed 9 = .ok (.ifCond .ne 6, 3) := by decide +kernel
theorem dX8_feed_12 : decode cX8_feed 12 = .ok (.bipush (-2), 2) := by decide +kernel
theorem dX8_feed_14 : decode cX8_feed 14 = .ok (.ireturn, 1) := by decide +kernel
theorem dX8_feed_15 : decode cX8_feed 15 = .ok (.aload_n 0, 1) := by decide +kernel
theorem dX8_feed_16 : decode cX8_feed 16 = .ok (.getfield 137, 3) := by decide +kernel
theorem dX8_feed_19 : decode cX8_feed 19 = .ok (.sipush 160, 3) := by decide +kernel
theorem dX8_feed_22 : decode cX8_feed 22 = .ok (.if_icmp .ne 6, 3) := by decide +kernel
theorem dX8_feed_25 : decode cX8_feed 25 = .ok (.bipush (-4), 2) := by decide +kernel
theorem dX8_feed_27 : decode cX8_feed 27 = .ok (.ireturn, 1) := by decide +kernel
theorem dX8_feed_28 : decode cX8_feed 28 = .ok (.aload_n 0, 1) := by decide +kernel
theorem dX8_feed_29 : decode cX8_feed 29 = .ok (.getfield 20, 3) := by decide +kernel
theorem dX8_feed_32 : decode cX8_feed 32 = .ok (.aload_n 0, 1) := by decide +kernel
theorem dX8_feed_33 : decode cX8_feed 33 = .ok (.getfield 137, 3) := by decide +kernel
theorem dX8_feed_36 : decode cX8_feed 36 = .ok (.iload_n 1, 1) := by decide +kernel
theorem dX8_feed_37 : decode cX8_feed 37 = .ok (.iastore, 1) := by decide +kernel
theorem dX8_feed_38 : decode cX8_feed 38 = .ok (.aload_n 0, 1) := by decide +kernel
theorem dX8_feed_39 : decode cX8_feed 39 = .ok (.dup, 1) := by decide +kernel
theorem dX8_feed_40 : decode cX8_feed 40 = .ok (.getfield 137, 3) := by decide +kernel
theorem dX8_feed_43 : decode cX8_feed 43 = .ok (.iconst 1, 1) := by decide +kernel
theorem dX8_feed_44 : decode cX8_feed 44 = .ok (.iadd, 1) := by decide +kernel
theorem dX8_feed_45 : decode cX8_feed 45 = .ok (.putfield 137, 3) := by decide +kernel
theorem dX8_feed_48 : decode cX8_feed 48 = .ok (.aload_n 0, 1) := by decide +kernel
theorem dX8_feed_49 : decode cX8_feed 49 = .ok (.getfield 137, 3) := by decide +kernel
theorem dX8_feed_52 : decode cX8_feed 52 = .ok (.ireturn, 1) := by decide +kernel
theorem dX8_byteAt_0 : decode cX8_byteAt 0 = .ok (.iload_n 1, 1) := by decide +kernel
theorem dX8_byteAt_1 : decode cX8_byteAt 1 = .ok (.aload_n 0, 1) := by decide +kernel
theorem dX8_byteAt_2 : decode cX8_byteAt 2 = .ok (.getfield 140, 3) := by decide +kernel
theorem dX8_byteAt_5 : decode cX8_byteAt 5 = .ok (.if_icmp .ge 17, 3) := by decide +kernel
theorem dX8_byteAt_8 : decode cX8_byteAt 8 = .ok (.aload_n 0, 1) := by decide +kernel
theorem dX8_byteAt_9 : decode cX8_byteAt 9 = .ok (.getfield 13, 3) := by decide +kernel
theorem dX8_byteAt_12 : decode cX8_byteAt 12 = .ok (.aload_n 0, 1) := by decide +kernel
theorem dX8_byteAt_13 : decode cX8_byteAt 13 = .ok (.getfield 143, 3) := by decide +kernel
theorem dX8_byteAt_16 : decode cX8_byteAt 16 = .ok (.iload_n 1, 1) := by decide +kernel
theorem dX8_byteAt_17 : decode cX8_byteAt 17 = .ok (.iadd, 1) := by decide +kernel
theorem dX8_byteAt_18 : decode cX8_byteAt 18 = .ok (.iaload, 1) := by decide +kernel
theorem dX8_byteAt_19 : decode cX8_byteAt 19 = .ok (.goto 4, 3) := by decide +kernel
theorem dX8_byteAt_22 : decode cX8_byteAt 22 = .ok (.iconst (-1), 1) := by decide +kernel
theorem dX8_byteAt_23 : decode cX8_byteAt 23 = .ok (.ireturn, 1) := by decide +kernel
theorem dX8_next_0 : decode cX8_next 0 = .ok (.aload_n 0, 1) := by decide +kernel
theorem dX8_next_1 : decode cX8_next 1 = .ok (.aload_n 0, 1) := by decide +kernel
theorem dX8_next_2 : decode cX8_next 2 = .ok (.getfield 146, 3) := by decide +kernel
theorem dX8_next_5 : decode cX8_next 5 = .ok (.invokevirtual 149, 3) := by decide +kernel
theorem dX8_next_8 : decode cX8_next 8 = .ok (.bipush 32, 2) := by decide +kernel
theorem dX8_next_10 : decode cX8_next 10 = .ok (.if_icmp .eq 16, 3) := by decide +kernel
theorem dX8_next_13 : decode cX8_next 13 = .ok (.aload_n 0, 1) := by decide +kernel
theorem dX8_next_14 : decode cX8_next 14 = .ok (.aload_n 0, 1) := by decide +kernel
theorem dX8_next_15 : decode cX8_next 15 = .ok (.getfield 146, 3) := by decide +kernel
theorem dX8_next_18 : decode cX8_next 18 = .ok (.invokevirtual 149, 3) := by decide +kernel
theorem dX8_next_21 : decode cX8_next 21 = .ok (.bipush 10, 2) := by decide +kernel
theorem dX8_next_23 : decode cX8_next 23 = .ok (.if_icmp .ne 16, 3) := by decide +kernel
theorem dX8_next_26 : decode cX8_next 26 = .ok (.aload_n 0, 1) := by decide +kernel
theorem dX8_next_27 : decode cX8_next 27 = .ok (.dup, 1) := by decide +kernel
theorem dX8_next_28 : decode cX8_next 28 = .ok (.getfield 146, 3) := by decide +kernel
theorem dX8_next_31 : decode cX8_next 31 = .ok (.iconst 1, 1) := by decide +kernel
theorem dX8_next_32 : decode cX8_next 32 = .ok (.iadd, 1) := by decide +kernel
theorem dX8_next_33 : decode cX8_next 33 = .ok (.putfield 146, 3) := by decide +kernel
theorem dX8_next_36 : decode cX8_next 36 = .ok (.goto (-36), 3) := by decide +kernel
theorem dX8_next_39 : decode cX8_next 39 = .ok (.aload_n 0, 1) := by decide +kernel
theorem dX8_next_40 : decode cX8_next 40 = .ok (.aload_n 0, 1) := by decide +kernel
theorem dX8_next_41 : decode cX8_next 41 = .ok (.getfield 146, 3) := by decide +kernel
theorem dX8_next_44 : decode cX8_next 44 = .ok (.putfield 152, 3) := by decide +kernel
theorem dX8_next_47 : decode cX8_next 47 = .ok (.aload_n 0, 1) := by decide +kernel
theorem dX8_next_48 : decode cX8_next 48 = .ok (.aload_n 0, 1) := by decide +kernel
theorem dX8_next_49 : decode cX8_next 49 = .ok (.getfield 146, 3) := by decide +kernel
theorem dX8_next_52 : decode cX8_next 52 = .ok (.invokevirtual 149, 3) := by decide +kernel
theorem dX8_next_55 : decode cX8_next 55 = .ok (.istore_n 1, 1) := by decide +kernel
theorem dX8_next_56 : decode cX8_next 56 = .ok (.aload_n 0, 1) := by decide +kernel
theorem dX8_next_57 : decode cX8_next 57 = .ok (.iconst 4, 1) := by decide +kernel
theorem dX8_next_58 : decode cX8_next 58 = .ok (.putfield 155, 3) := by decide +kernel
theorem dX8_next_61 : decode cX8_next 61 = .ok (.iload_n 1, 1) := by decide +kernel
theorem dX8_next_62 : decode cX8_next 62 = .ok (.ifCond .ge 19, 3) := by decide +kernel
theorem dX8_next_65 : decode cX8_next 65 = .ok (.aload_n 0, 1) := by decide +kernel
theorem dX8_next_66 : decode cX8_next 66 = .ok (.iconst 0, 1) := by decide +kernel
theorem dX8_next_67 : decode cX8_next 67 = .ok (.putfield 155, 3) := by decide +kernel
theorem dX8_next_70 : decode cX8_next 70 = .ok (.aload_n 0, 1) := by decide +kernel
theorem dX8_next_71 : decode cX8_next 71 = .ok (.aload_n 0, 1) := by decide +kernel
theorem dX8_next_72 : decode cX8_next 72 = .ok (.getfield 140, 3) := by decide +kernel
theorem dX8_next_75 : decode cX8_next 75 = .ok (.putfield 152, 3) := by decide +kernel
theorem dX8_next_78 : decode cX8_next 78 = .ok (.goto 243, 3) := by decide +kernel
theorem dX8_next_81 : decode cX8_next 81 = .ok (.iload_n 1, 1) := by decide +kernel
theorem dX8_next_82 : decode cX8_next 82 = .ok (.i2l, 1) := by decide +kernel
theorem dX8_next_83 : decode cX8_next 83 = .ok (.ldc2_w 158, 3) := by decide +kernel
theorem dX8_next_86 : decode cX8_next 86 = .ok (.ldc2_w 160, 3) := by decide +kernel
theorem dX8_next_89 : decode cX8_next 89 = .ok (.invokestatic 106, 3) := by decide +kernel
theorem dX8_next_92 : decode cX8_next 92 = .ok (.ifCond .eq 42, 3) := by decide +kernel
theorem dX8_next_95 : decode cX8_next 95 = .ok (.aload_n 0, 1) := by decide +kernel
theorem dX8_next_96 : decode cX8_next 96 = .ok (.iconst 1, 1) := by decide +kernel
theorem dX8_next_97 : decode cX8_next 97 = .ok (.putfield 155, 3) := by decide +kernel
theorem dX8_next_100 : decode cX8_next 100 = .ok (.aload_n 0, 1) := by decide +kernel
theorem dX8_next_101 : decode cX8_next 101 = .ok (.aload_n 0, 1) := by decide +kernel
theorem dX8_next_102 : decode cX8_next 102 = .ok (.getfield 146, 3) := by decide +kernel
theorem dX8_next_105 : decode cX8_next 105 = .ok (.invokevirtual 149, 3) := by decide +kernel
theorem dX8_next_108 : decode cX8_next 108 = .ok (.i2l, 1) := by decide +kernel
theorem dX8_next_109 : decode cX8_next 109 = .ok (.ldc2_w 158, 3) := by decide +kernel
theorem dX8_next_112 : decode cX8_next 112 = .ok (.ldc2_w 160, 3) := by decide +kernel
theorem dX8_next_115 : decode cX8_next 115 = .ok (.invokestatic 106, 3) := by decide +kernel
theorem dX8_next_118 : decode cX8_next 118 = .ok (.ifCond .eq 203, 3) := by decide +kernel
theorem dX8_next_121 : decode cX8_next 121 = .ok (.aload_n 0, 1) := by decide +kernel
theorem dX8_next_122 : decode cX8_next 122 = .ok (.dup, 1) := by decide +kernel
theorem dX8_next_123 : decode cX8_next 123 = .ok (.getfield 146, 3) := by decide +kernel
theorem dX8_next_126 : decode cX8_next 126 = .ok (.iconst 1, 1) := by decide +kernel
theorem dX8_next_127 : decode cX8_next 127 = .ok (.iadd, 1) := by decide +kernel
theorem dX8_next_128 : decode cX8_next 128 = .ok (.putfield 146, 3) := by decide +kernel
theorem dX8_next_131 : decode cX8_next 131 = .ok (.goto (-31), 3) := by decide +kernel
theorem dX8_next_134 : decode cX8_next 134 = .ok (.iload_n 1, 1) := by decide +kernel
theorem dX8_next_135 : decode cX8_next 135 = .ok (.i2l, 1) := by decide +kernel
theorem dX8_next_136 : decode cX8_next 136 = .ok (.ldc2_w 162, 3) := by decide +kernel
theorem dX8_next_139 : decode cX8_next 139 = .ok (.ldc2_w 164, 3) := by decide +kernel
theorem dX8_next_142 : decode cX8_next 142 = .ok (.invokestatic 106, 3) := by decide +kernel
theorem dX8_next_145 : decode cX8_next 145 = .ok (.ifCond .eq 107, 3) := by decide +kernel
theorem dX8_next_148 : decode cX8_next 148 = .ok (.aload_n 0, 1) := by decide +kernel
theorem dX8_next_149 : decode cX8_next 149 = .ok (.iconst 2, 1) := by decide +kernel
theorem dX8_next_150 : decode cX8_next 150 = .ok (.putfield 155, 3) := by decide +kernel
theorem dX8_next_153 : decode cX8_next 153 = .ok (.aload_n 0, 1) := by decide +kernel
theorem dX8_next_154 : decode cX8_next 154 = .ok (.lconst 0, 1) := by decide +kernel
theorem dX8_next_155 : decode cX8_next 155 = .ok (.putfield 166, 3) := by decide +kernel
theorem dX8_next_158 : decode cX8_next 158 = .ok (.iconst 0, 1) := by decide +kernel
theorem dX8_next_159 : decode cX8_next 159 = .ok (.istore_n 2, 1) := by decide +kernel
theorem dX8_next_160 : decode cX8_next 160 = .ok (.aload_n 0, 1) := by decide +kernel
theorem dX8_next_161 : decode cX8_next 161 = .ok (.aload_n 0, 1) := by decide +kernel
theorem dX8_next_162 : decode cX8_next 162 = .ok (.getfield 146, 3) := by decide +kernel
theorem dX8_next_165 : decode cX8_next 165 = .ok (.invokevirtual 149, 3) := by decide +kernel
theorem dX8_next_168 : decode cX8_next 168 = .ok (.i2l, 1) := by decide +kernel
theorem dX8_next_169 : decode cX8_next 169 = .ok (.ldc2_w 162, 3) := by decide +kernel
theorem dX8_next_172 : decode cX8_next 172 = .ok (.ldc2_w 164, 3) := by decide +kernel
theorem dX8_next_175 : decode cX8_next 175 = .ok (.invokestatic 106, 3) := by decide +kernel
theorem dX8_next_178 : decode cX8_next 178 = .ok (.ifCond .eq 57, 3) := by decide +kernel
theorem dX8_next_181 : decode cX8_next 181 = .ok (.aload_n 0, 1) := by decide +kernel
theorem dX8_next_182 : decode cX8_next 182 = .ok (.iload_n 2, 1) := by decide +kernel
theorem dX8_next_183 : decode cX8_next 183 = .ok (.iconst 4, 1) := by decide +kernel
theorem dX8_next_184 : decode cX8_next 184 = .ok (.if_icmp .ge 28, 3) := by decide +kernel
theorem dX8_next_187 : decode cX8_next 187 = .ok (.ldc2_w 112, 3) := by decide +kernel
theorem dX8_next_190 : decode cX8_next 190 = .ok (.aload_n 0, 1) := by decide +kernel
theorem dX8_next_191 : decode cX8_next 191 = .ok (.getfield 166, 3) := by decide +kernel
theorem dX8_next_194 : decode cX8_next 194 = .ok (.lmul, 1) := by decide +kernel
theorem dX8_next_195 : decode cX8_next 195 = .ok (.aload_n 0, 1) := by decide +kernel
theorem dX8_next_196 : decode cX8_next 196 = .ok (.aload_n 0, 1) := by decide +kernel
theorem dX8_next_197 : decode cX8_next 197 = .ok (.getfield 146, 3) := by decide +kernel
theorem dX8_next_200 : decode cX8_next 200 = .ok (.invokevirtual 149, 3) := by decide +kernel
theorem dX8_next_203 : decode cX8_next 203 = .ok (.i2l, 1) := by decide +kernel
theorem dX8_next_204 : decode cX8_next 204 = .ok (.ladd, 1) := by decide +kernel
theorem dX8_next_205 : decode cX8_next 205 = .ok (.ldc2_w 162, 3) := by decide +kernel
theorem dX8_next_208 : decode cX8_next 208 = .ok (.lsub, 1) := by decide +kernel
theorem dX8_next_209 : decode cX8_next 209 = .ok (.goto 7, 3) := by decide +kernel
theorem dX8_next_212 : decode cX8_next 212 = .ok (.aload_n 0, 1) := by decide +kernel
theorem dX8_next_213 : decode cX8_next 213 = .ok (.getfield 166, 3) := by decide +kernel
theorem dX8_next_216 : decode cX8_next 216 = .ok (.putfield 166, 3) := by decide +kernel
theorem dX8_next_219 : decode cX8_next 219 = .ok (.iinc 2 1, 3) := by decide +kernel
theorem dX8_next_222 : decode cX8_next 222 = .ok (.aload_n 0, 1) := by decide +kernel
theorem dX8_next_223 : decode cX8_next 223 = .ok (.dup, 1) := by decide +kernel
theorem dX8_next_224 : decode cX8_next 224 = .ok (.getfield 146, 3) := by decide +kernel
theorem dX8_next_227 : decode cX8_next 227 = .ok (.iconst 1, 1) := by decide +kernel
theorem dX8_next_228 : decode cX8_next 228 = .ok (.iadd, 1) := by decide +kernel
theorem dX8_next_229 : decode cX8_next 229 = .ok (.putfield 146, 3) := by decide +kernel
theorem dX8_next_232 : decode cX8_next 232 = .ok (.goto (-72), 3) := by decide +kernel
theorem dX8_next_235 : decode cX8_next 235 = .ok (.aload_n 0, 1) := by decide +kernel
theorem dX8_next_236 : decode cX8_next 236 = .ok (.iload_n 2, 1) := by decide +kernel
theorem dX8_next_237 : decode cX8_next 237 = .ok (.iconst 4, 1) := by decide +kernel
theorem dX8_next_238 : decode cX8_next 238 = .ok (.if_icmp .le 7, 3) := by decide +kernel
theorem dX8_next_241 : decode cX8_next 241 = .ok (.iconst 4, 1) := by decide +kernel
theorem dX8_next_242 : decode cX8_next 242 = .ok (.goto 4, 3) := by decide +kernel
theorem dX8_next_245 : decode cX8_next 245 = .ok (.iconst 2, 1) := by decide +kernel
theorem dX8_next_246 : decode cX8_next 246 = .ok (.putfield 155, 3) := by decide +kernel
theorem dX8_next_249 : decode cX8_next 249 = .ok (.goto 72, 3) := by decide +kernel
theorem dX8_next_252 : decode cX8_next 252 = .ok (.iload_n 1, 1) := by decide +kernel
theorem dX8_next_253 : decode cX8_next 253 = .ok (.bipush 40, 2) := by decide +kernel
theorem dX8_next_255 : decode cX8_next 255 = .ok (.if_icmp .eq 45, 3) := by decide +kernel
theorem dX8_next_258 : decode cX8_next 258 = .ok (.iload_n 1, 1) := by decide +kernel
theorem dX8_next_259 : decode cX8_next 259 = .ok (.bipush 41, 2) := by decide +kernel
theorem dX8_next_261 : decode cX8_next 261 = .ok (.if_icmp .eq 39, 3) := by decide +kernel
theorem dX8_next_264 : decode cX8_next 264 = .ok (.iload_n 1, 1) := by decide +kernel
theorem dX8_next_265 : decode cX8_next 265 = .ok (.bipush 59, 2) := by decide +kernel
theorem dX8_next_267 : decode cX8_next 267 = .ok (.if_icmp .eq 33, 3) := by decide +kernel
theorem dX8_next_270 : decode cX8_next 270 = .ok (.iload_n 1, 1) := by decide +kernel
theorem dX8_next_271 : decode cX8_next 271 = .ok (.bipush 43, 2) := by decide +kernel
theorem dX8_next_273 : decode cX8_next 273 = .ok (.if_icmp .eq 27, 3) := by decide +kernel
theorem dX8_next_276 : decode cX8_next 276 = .ok (.iload_n 1, 1) := by decide +kernel
theorem dX8_next_277 : decode cX8_next 277 = .ok (.bipush 45, 2) := by decide +kernel
theorem dX8_next_279 : decode cX8_next 279 = .ok (.if_icmp .eq 21, 3) := by decide +kernel
theorem dX8_next_282 : decode cX8_next 282 = .ok (.iload_n 1, 1) := by decide +kernel
theorem dX8_next_283 : decode cX8_next 283 = .ok (.bipush 42, 2) := by decide +kernel
theorem dX8_next_285 : decode cX8_next 285 = .ok (.if_icmp .eq 15, 3) := by decide +kernel
theorem dX8_next_288 : decode cX8_next 288 = .ok (.iload_n 1, 1) := by decide +kernel
theorem dX8_next_289 : decode cX8_next 289 = .ok (.bipush 60, 2) := by decide +kernel
theorem dX8_next_291 : decode cX8_next 291 = .ok (.if_icmp .eq 9, 3) := by decide +kernel
theorem dX8_next_294 : decode cX8_next 294 = .ok (.iload_n 1, 1) := by decide +kernel
theorem dX8_next_295 : decode cX8_next 295 = .ok (.bipush 61, 2) := by decide +kernel
theorem dX8_next_297 : decode cX8_next 297 = .ok (.if_icmp .ne 24, 3) := by decide +kernel
theorem dX8_next_300 : decode cX8_next 300 = .ok (.aload_n 0, 1) := by decide +kernel
theorem dX8_next_301 : decode cX8_next 301 = .ok (.iconst 3, 1) := by decide +kernel
theorem dX8_next_302 : decode cX8_next 302 = .ok (.putfield 155, 3) := by decide +kernel
theorem dX8_next_305 : decode cX8_next 305 = .ok (.aload_n 0, 1) := by decide +kernel
theorem dX8_next_306 : decode cX8_next 306 = .ok (.iload_n 1, 1) := by decide +kernel
theorem dX8_next_307 : decode cX8_next 307 = .ok (.i2l, 1) := by decide +kernel
theorem dX8_next_308 : decode cX8_next 308 = .ok (.putfield 166, 3) := by decide +kernel
theorem dX8_next_311 : decode cX8_next 311 = .ok (.aload_n 0, 1) := by decide +kernel
theorem dX8_next_312 : decode cX8_next 312 = .ok (.dup, 1) := by decide +kernel
theorem dX8_next_313 : decode cX8_next 313 = .ok (.getfield 146, 3) := by decide +kernel
theorem dX8_next_316 : decode cX8_next 316 = .ok (.iconst 1, 1) := by decide +kernel
theorem dX8_next_317 : decode cX8_next 317 = .ok (.iadd, 1) := by decide +kernel
theorem dX8_next_318 : decode cX8_next 318 = .ok (.putfield 146, 3) := by decide +kernel
theorem dX8_next_321 : decode cX8_next 321 = .ok (.return_, 1) := by decide +kernel
theorem dX8_fail_0 : decode cX8_fail 0 = .ok (.aload_n 0, 1) := by decide +kernel
theorem dX8_fail_1 : decode cX8_fail 1 = .ok (.getfield 170, 3) := by decide +kernel
theorem dX8_fail_4 : decode cX8_fail 4 = .ok (.ifCond .ne 16, 3) := by decide +kernel
theorem dX8_fail_7 : decode cX8_fail 7 = .ok (.aload_n 0, 1) := by decide +kernel
theorem dX8_fail_8 : decode cX8_fail 8 = .ok (.iconst 1, 1) := by decide +kernel
theorem dX8_fail_9 : decode cX8_fail 9 = .ok (.putfield 170, 3) := by decide +kernel
theorem dX8_fail_12 : decode cX8_fail 12 = .ok (.aload_n 0, 1) := by decide +kernel
theorem dX8_fail_13 : decode cX8_fail 13 = .ok (.aload_n 0, 1) := by decide +kernel
theorem dX8_fail_14 : decode cX8_fail 14 = .ok (.getfield 152, 3) := by decide +kernel
theorem dX8_fail_17 : decode cX8_fail 17 = .ok (.putfield 174, 3) := by decide +kernel
theorem dX8_fail_20 : decode cX8_fail 20 = .ok (.return_, 1) := by decide +kernel
theorem dX8_isLetter_0 : decode cX8_isLetter 0 = .ok (.aload_n 0, 1) := by decide +kernel
theorem dX8_isLetter_1 : decode cX8_isLetter 1 = .ok (.getfield 152, 3) := by decide +kernel
theorem dX8_isLetter_4 : decode cX8_isLetter 4 = .ok (.iload_n 1, 1) := by decide +kernel
theorem dX8_isLetter_5 : decode cX8_isLetter 5 = .ok (.iadd, 1) := by decide +kernel
theorem dX8_isLetter_6 : decode cX8_isLetter 6 = .ok (.aload_n 0, 1) := by decide +kernel
theorem dX8_isLetter_7 : decode cX8_isLetter 7 = .ok (.getfield 146, 3) := by decide +kernel
theorem dX8_isLetter_10 : decode cX8_isLetter 10 = .ok (.if_icmp .ge 25, 3) := by decide +kernel
theorem dX8_isLetter_13 : decode cX8_isLetter 13 = .ok (.aload_n 0, 1) := by decide +kernel
theorem dX8_isLetter_14 : decode cX8_isLetter 14 = .ok (.aload_n 0, 1) := by decide +kernel
theorem dX8_isLetter_15 : decode cX8_isLetter 15 = .ok (.getfield 152, 3) := by decide +kernel
theorem dX8_isLetter_18 : decode cX8_isLetter 18 = .ok (.iload_n 1, 1) := by decide +kernel
theorem dX8_isLetter_19 : decode cX8_isLetter 19 = .ok (.iadd, 1) := by decide +kernel
theorem dX8_isLetter_20 : decode cX8_isLetter 20 = .ok (.invokevirtual 149, 3) := by decide +kernel
theorem dX8_isLetter_23 : decode cX8_isLetter 23 = .ok (.iload_n 2, 1) := by decide +kernel
theorem dX8_isLetter_24 : decode cX8_isLetter 24 = .ok (.if_icmp .ne 7, 3) := by decide +kernel
theorem dX8_isLetter_27 : decode cX8_isLetter 27 = .ok (.iconst 1, 1) := by decide +kernel
theorem dX8_isLetter_28 : decode cX8_isLetter 28 = .ok (.goto 16, 3) := by decide +kernel
theorem dX8_isLetter_31 : decode cX8_isLetter 31 = .ok (.iconst 0, 1) := by decide +kernel
theorem dX8_isLetter_32 : decode cX8_isLetter 32 = .ok (.goto 12, 3) := by decide +kernel
theorem dX8_isLetter_35 : decode cX8_isLetter 35 = .ok (.iload_n 2, 1) := by decide +kernel
theorem dX8_isLetter_36 : decode cX8_isLetter 36 = .ok (.ifCond .ne 7, 3) := by decide +kernel
theorem dX8_isLetter_39 : decode cX8_isLetter 39 = .ok (.iconst 1, 1) := by decide +kernel
theorem dX8_isLetter_40 : decode cX8_isLetter 40 = .ok (.goto 4, 3) := by decide +kernel
theorem dX8_isLetter_43 : decode cX8_isLetter 43 = .ok (.iconst 0, 1) := by decide +kernel
theorem dX8_isLetter_44 : decode cX8_isLetter 44 = .ok (.ireturn, 1) := by decide +kernel
theorem dX8_isWord_0 : decode cX8_isWord 0 = .ok (.aload_n 0, 1) := by decide +kernel
theorem dX8_isWord_1 : decode cX8_isWord 1 = .ok (.getfield 170, 3) := by decide +kernel
theorem dX8_isWord_4 : decode cX8_isWord 4 = .ok (.ifCond .ne 108, 3) := by decide +kernel
theorem dX8_isWord_7 : decode cX8_isWord 7 = .ok (.aload_n 0, 1) := by decide +kernel
theorem dX8_isWord_8 : decode cX8_isWord 8 = .ok (.getfield 155, 3) := by decide +kernel
theorem dX8_isWord_11 : decode cX8_isWord 11 = .ok (.iconst 1, 1) := by decide +kernel
theorem dX8_isWord_12 : decode cX8_isWord 12 = .ok (.if_icmp .ne 100, 3) := by decide +kernel
theorem dX8_isWord_15 : decode cX8_isWord 15 = .ok (.aload_n 0, 1) := by decide +kernel
theorem dX8_isWord_16 : decode cX8_isWord 16 = .ok (.getfield 146, 3) := by decide +kernel
theorem dX8_isWord_19 : decode cX8_isWord 19 = .ok (.aload_n 0, 1) := by decide +kernel
theorem dX8_isWord_20 : decode cX8_isWord 20 = .ok (.getfield 152, 3) := by decide +kernel
theorem dX8_isWord_23 : decode cX8_isWord 23 = .ok (.bipush 8, 2) := by decide +kernel
theorem dX8_isWord_25 : decode cX8_isWord 25 = .ok (.iadd, 1) := by decide +kernel
theorem dX8_isWord_26 : decode cX8_isWord 26 = .ok (.if_icmp .gt 86, 3) := by decide +kernel
theorem dX8_isWord_29 : decode cX8_isWord 29 = .ok (.aload_n 0, 1) := by decide +kernel
theorem dX8_isWord_30 : decode cX8_isWord 30 = .ok (.iconst 0, 1) := by decide +kernel
theorem dX8_isWord_31 : decode cX8_isWord 31 = .ok (.iload_n 1, 1) := by decide +kernel
theorem dX8_isWord_32 : decode cX8_isWord 32 = .ok (.invokevirtual 177, 3) := by decide +kernel
theorem dX8_isWord_35 : decode cX8_isWord 35 = .ok (.ifCond .eq 77, 3) := by decide +kernel
theorem dX8_isWord_38 : decode cX8_isWord 38 = .ok (.aload_n 0, 1) := by decide +kernel
theorem dX8_isWord_39 : decode cX8_isWord 39 = .ok (.iconst 1, 1) := by decide +kernel
theorem dX8_isWord_40 : decode cX8_isWord 40 = .ok (.iload_n 2, 1) := by decide +kernel
theorem dX8_isWord_41 : decode cX8_isWord 41 = .ok (.invokevirtual 177, 3) := by decide +kernel
theorem dX8_isWord_44 : decode cX8_isWord 44 = .ok (.ifCond .eq 68, 3) := by decide +kernel
theorem dX8_isWord_47 : decode cX8_isWord 47 = .ok (.aload_n 0, 1) := by decide +kernel
theorem dX8_isWord_48 : decode cX8_isWord 48 = .ok (.iconst 2, 1) := by decide +kernel
theorem dX8_isWord_49 : decode cX8_isWord 49 = .ok (.iload_n 3, 1) := by decide +kernel
theorem dX8_isWord_50 : decode cX8_isWord 50 = .ok (.invokevirtual 177, 3) := by decide +kernel
theorem dX8_isWord_53 : decode cX8_isWord 53 = .ok (.ifCond .eq 59, 3) := by decide +kernel
theorem dX8_isWord_56 : decode cX8_isWord 56 = .ok (.aload_n 0, 1) := by decide +kernel
theorem dX8_isWord_57 : decode cX8_isWord 57 = .ok (.iconst 3, 1) := by decide +kernel
theorem dX8_isWord_58 : decode cX8_isWord 58 = .ok (.iload 4, 2) := by decide +kernel
theorem dX8_isWord_60 : decode cX8_isWord 60 = .ok (.invokevirtual 177, 3) := by decide +kernel
theorem dX8_isWord_63 : decode cX8_isWord 63 = .ok (.ifCond .eq 49, 3) := by decide +kernel
theorem dX8_isWord_66 : decode cX8_isWord 66 = .ok (.aload_n 0, 1) := by decide +kernel
theorem dX8_isWord_67 : decode cX8_isWord 67 = .ok (.iconst 4, 1) := by decide +kernel
theorem dX8_isWord_68 : decode cX8_isWord 68 = .ok (.iload 5, 2) := by decide +kernel
theorem dX8_isWord_70 : decode cX8_isWord 70 = .ok (.invokevirtual 177, 3) := by decide +kernel
theorem dX8_isWord_73 : decode cX8_isWord 73 = .ok (.ifCond .eq 39, 3) := by decide +kernel
theorem dX8_isWord_76 : decode cX8_isWord 76 = .ok (.aload_n 0, 1) := by decide +kernel
theorem dX8_isWord_77 : decode cX8_isWord 77 = .ok (.iconst 5, 1) := by decide +kernel
theorem dX8_isWord_78 : decode cX8_isWord 78 = .ok (.iload 6, 2) := by decide +kernel
theorem dX8_isWord_80 : decode cX8_isWord 80 = .ok (.invokevirtual 177, 3) := by decide +kernel
theorem dX8_isWord_83 : decode cX8_isWord 83 = .ok (.ifCond .eq 29, 3) := by decide +kernel
theorem dX8_isWord_86 : decode cX8_isWord 86 = .ok (.aload_n 0, 1) := by decide +kernel
theorem dX8_isWord_87 : decode cX8_isWord 87 = .ok (.bipush 6, 2) := by decide +kernel
theorem dX8_isWord_89 : decode cX8_isWord 89 = .ok (.iload 7, 2) := by decide +kernel
theorem dX8_isWord_91 : decode cX8_isWord 91 = .ok (.invokevirtual 177, 3) := by decide +kernel
theorem dX8_isWord_94 : decode cX8_isWord 94 = .ok (.ifCond .eq 18, 3) := by decide +kernel
theorem dX8_isWord_97 : decode cX8_isWord 97 = .ok (.aload_n 0, 1) := by decide +kernel
theorem dX8_isWord_98 : decode cX8_isWord 98 = .ok (.bipush 7, 2) := by decide +kernel
theorem dX8_isWord_100 : decode cX8_isWord 100 = .ok (.iload 8, 2) := by decide +kernel
theorem dX8_isWord_102 : decode cX8_isWord 102 = .ok (.invokevirtual 177, 3) := by decide +kernel
theorem dX8_isWord_105 : decode cX8_isWord 105 = .ok (.ifCond .eq 7, 3) := by decide +kernel
theorem dX8_isWord_108 : decode cX8_isWord 108 = .ok (.iconst 1, 1) := by decide +kernel
theorem dX8_isWord_109 : decode cX8_isWord 109 = .ok (.goto 4, 3) := by decide +kernel
theorem dX8_isWord_112 : decode cX8_isWord 112 = .ok (.iconst 0, 1) := by decide +kernel
theorem dX8_isWord_113 : decode cX8_isWord 113 = .ok (.ireturn, 1) := by decide +kernel
theorem dX8_isSign_0 : decode cX8_isSign 0 = .ok (.aload_n 0, 1) := by decide +kernel
theorem dX8_isSign_1 : decode cX8_isSign 1 = .ok (.getfield 170, 3) := by decide +kernel
theorem dX8_isSign_4 : decode cX8_isSign 4 = .ok (.ifCond .ne 25, 3) := by decide +kernel
theorem dX8_isSign_7 : decode cX8_isSign 7 = .ok (.aload_n 0, 1) := by decide +kernel
theorem dX8_isSign_8 : decode cX8_isSign 8 = .ok (.getfield 155, 3) := by decide +kernel
theorem dX8_isSign_11 : decode cX8_isSign 11 = .ok (.iconst 3, 1) := by decide +kernel
theorem dX8_isSign_12 : decode cX8_isSign 12 = .ok (.if_icmp .ne 17, 3) := by decide +kernel
theorem dX8_isSign_15 : decode cX8_isSign 15 = .ok (.aload_n 0, 1) := by decide +kernel
theorem dX8_isSign_16 : decode cX8_isSign 16 = .ok (.getfield 166, 3) := by decide +kernel
theorem dX8_isSign_19 : decode cX8_isSign 19 = .ok (.iload_n 1, 1) := by decide +kernel
theorem dX8_isSign_20 : decode cX8_isSign 20 = .ok (.i2l, 1) := by decide +kernel
theorem dX8_isSign_21 : decode cX8_isSign 21 = .ok (.lcmp, 1) := by decide +kernel
theorem dX8_isSign_22 : decode cX8_isSign 22 = .ok (.ifCond .ne 7, 3) := by decide +kernel
theorem dX8_isSign_25 : decode cX8_isSign 25 = .ok (.iconst 1, 1) := by decide +kernel
theorem dX8_isSign_26 : decode cX8_isSign 26 = .ok (.goto 4, 3) := by decide +kernel
theorem dX8_isSign_29 : decode cX8_isSign 29 = .ok (.iconst 0, 1) := by decide +kernel
theorem dX8_isSign_30 : decode cX8_isSign 30 = .ok (.ireturn, 1) := by decide +kernel
theorem dX8_opens_0 : decode cX8_opens 0 = .ok (.aload_n 0, 1) := by decide +kernel
theorem dX8_opens_1 : decode cX8_opens 1 = .ok (.getfield 181, 3) := by decide +kernel
theorem dX8_opens_4 : decode cX8_opens 4 = .ok (.iconst 5, 1) := by decide +kernel
theorem dX8_opens_5 : decode cX8_opens 5 = .ok (.if_icmp .ne 9, 3) := by decide +kernel
theorem dX8_opens_8 : decode cX8_opens 8 = .ok (.aload_n 0, 1) := by decide +kernel
theorem dX8_opens_9 : decode cX8_opens 9 = .ok (.invokevirtual 184, 3) := by decide +kernel
theorem dX8_opens_12 : decode cX8_opens 12 = .ok (.iconst 0, 1) := by decide +kernel
theorem dX8_opens_13 : decode cX8_opens 13 = .ok (.ireturn, 1) := by decide +kernel
theorem dX8_opens_14 : decode cX8_opens 14 = .ok (.aload_n 0, 1) := by decide +kernel
theorem dX8_opens_15 : decode cX8_opens 15 = .ok (.dup, 1) := by decide +kernel
theorem dX8_opens_16 : decode cX8_opens 16 = .ok (.getfield 181, 3) := by decide +kernel
theorem dX8_opens_19 : decode cX8_opens 19 = .ok (.iconst 1, 1) := by decide +kernel
theorem dX8_opens_20 : decode cX8_opens 20 = .ok (.iadd, 1) := by decide +kernel
theorem dX8_opens_21 : decode cX8_opens 21 = .ok (.putfield 181, 3) := by decide +kernel
theorem dX8_opens_24 : decode cX8_opens 24 = .ok (.aload_n 0, 1) := by decide +kernel
theorem dX8_opens_25 : decode cX8_opens 25 = .ok (.invokevirtual 187, 3) := by decide +kernel
theorem dX8_opens_28 : decode cX8_opens 28 = .ok (.iconst 1, 1) := by decide +kernel
theorem dX8_opens_29 : decode cX8_opens 29 = .ok (.ireturn, 1) := by decide +kernel
theorem dX8_name_0 : decode cX8_name 0 = .ok (.aload_n 0, 1) := by decide +kernel
theorem dX8_name_1 : decode cX8_name 1 = .ok (.bipush 111, 2) := by decide +kernel
theorem dX8_name_3 : decode cX8_name 3 = .ok (.bipush 110, 2) := by decide +kernel
theorem dX8_name_5 : decode cX8_name 5 = .ok (.bipush 101, 2) := by decide +kernel
theorem dX8_name_7 : decode cX8_name 7 = .ok (.iconst 0, 1) := by decide +kernel
theorem dX8_name_8 : decode cX8_name 8 = .ok (.iconst 0, 1) := by decide +kernel
theorem dX8_name_9 : decode cX8_name 9 = .ok (.iconst 0, 1) := by decide +kernel
theorem dX8_name_10 : decode cX8_name 10 = .ok (.iconst 0, 1) := by decide +kernel
theorem dX8_name_11 : decode cX8_name 11 = .ok (.iconst 0, 1) := by decide +kernel
theorem dX8_name_12 : decode cX8_name 12 = .ok (.invokevirtual 190, 3) := by decide +kernel
theorem dX8_name_15 : decode cX8_name 15 = .ok (.ifCond .eq 8, 3) := by decide +kernel
theorem dX8_name_18 : decode cX8_name 18 = .ok (.aload_n 0, 1) := by decide +kernel
theorem dX8_name_19 : decode cX8_name 19 = .ok (.getfield 194, 3) := by decide +kernel
theorem dX8_name_22 : decode cX8_name 22 = .ok (.ireturn, 1) := by decide +kernel
theorem dX8_name_23 : decode cX8_name 23 = .ok (.aload_n 0, 1) := by decide +kernel
theorem dX8_name_24 : decode cX8_name 24 = .ok (.bipush 111, 2) := by decide +kernel
theorem dX8_name_26 : decode cX8_name 26 = .ok (.bipush 116, 2) := by decide +kernel
theorem dX8_name_28 : decode cX8_name 28 = .ok (.bipush 104, 2) := by decide +kernel
theorem dX8_name_30 : decode cX8_name 30 = .ok (.bipush 101, 2) := by decide +kernel
theorem dX8_name_32 : decode cX8_name 32 = .ok (.bipush 114, 2) := by decide +kernel
theorem dX8_name_34 : decode cX8_name 34 = .ok (.iconst 0, 1) := by decide +kernel
theorem dX8_name_35 : decode cX8_name 35 = .ok (.iconst 0, 1) := by decide +kernel
theorem dX8_name_36 : decode cX8_name 36 = .ok (.iconst 0, 1) := by decide +kernel
theorem dX8_name_37 : decode cX8_name 37 = .ok (.invokevirtual 190, 3) := by decide +kernel
theorem dX8_name_40 : decode cX8_name 40 = .ok (.ifCond .eq 8, 3) := by decide +kernel
theorem dX8_name_43 : decode cX8_name 43 = .ok (.aload_n 0, 1) := by decide +kernel
theorem dX8_name_44 : decode cX8_name 44 = .ok (.getfield 197, 3) := by decide +kernel
theorem dX8_name_47 : decode cX8_name 47 = .ok (.ireturn, 1) := by decide +kernel
theorem dX8_name_48 : decode cX8_name 48 = .ok (.aload_n 0, 1) := by decide +kernel
theorem dX8_name_49 : decode cX8_name 49 = .ok (.bipush 112, 2) := by decide +kernel
theorem dX8_name_51 : decode cX8_name 51 = .ok (.bipush 97, 2) := by decide +kernel
theorem dX8_name_53 : decode cX8_name 53 = .ok (.bipush 99, 2) := by decide +kernel
theorem dX8_name_55 : decode cX8_name 55 = .ok (.bipush 101, 2) := by decide +kernel
theorem dX8_name_57 : decode cX8_name 57 = .ok (.iconst 0, 1) := by decide +kernel
theorem dX8_name_58 : decode cX8_name 58 = .ok (.iconst 0, 1) := by decide +kernel
theorem dX8_name_59 : decode cX8_name 59 = .ok (.iconst 0, 1) := by decide +kernel
theorem dX8_name_60 : decode cX8_name 60 = .ok (.iconst 0, 1) := by decide +kernel
theorem dX8_name_61 : decode cX8_name 61 = .ok (.invokevirtual 190, 3) := by decide +kernel
theorem dX8_name_64 : decode cX8_name 64 = .ok (.ifCond .eq 8, 3) := by decide +kernel
theorem dX8_name_67 : decode cX8_name 67 = .ok (.aload_n 0, 1) := by decide +kernel
theorem dX8_name_68 : decode cX8_name 68 = .ok (.getfield 200, 3) := by decide +kernel
theorem dX8_name_71 : decode cX8_name 71 = .ok (.ireturn, 1) := by decide +kernel
theorem dX8_name_72 : decode cX8_name 72 = .ok (.aload_n 0, 1) := by decide +kernel
theorem dX8_name_73 : decode cX8_name 73 = .ok (.bipush 110, 2) := by decide +kernel
theorem dX8_name_75 : decode cX8_name 75 = .ok (.bipush 101, 2) := by decide +kernel
theorem dX8_name_77 : decode cX8_name 77 = .ok (.bipush 97, 2) := by decide +kernel
theorem dX8_name_79 : decode cX8_name 79 = .ok (.bipush 114, 2) := by decide +kernel
theorem dX8_name_81 : decode cX8_name 81 = .ok (.iconst 0, 1) := by decide +kernel
theorem dX8_name_82 : decode cX8_name 82 = .ok (.iconst 0, 1) := by decide +kernel
theorem dX8_name_83 : decode cX8_name 83 = .ok (.iconst 0, 1) := by decide +kernel
theorem dX8_name_84 : decode cX8_name 84 = .ok (.iconst 0, 1) := by decide +kernel
theorem dX8_name_85 : decode cX8_name 85 = .ok (.invokevirtual 190, 3) := by decide +kernel
theorem dX8_name_88 : decode cX8_name 88 = .ok (.ifCond .eq 8, 3) := by decide +kernel
theorem dX8_name_91 : decode cX8_name 91 = .ok (.aload_n 0, 1) := by decide +kernel
theorem dX8_name_92 : decode cX8_name 92 = .ok (.getfield 203, 3) := by decide +kernel
theorem dX8_name_95 : decode cX8_name 95 = .ok (.ireturn, 1) := by decide +kernel
theorem dX8_name_96 : decode cX8_name 96 = .ok (.aload_n 0, 1) := by decide +kernel
theorem dX8_name_97 : decode cX8_name 97 = .ok (.bipush 109, 2) := by decide +kernel
theorem dX8_name_99 : decode cX8_name 99 = .ok (.bipush 97, 2) := by decide +kernel
theorem dX8_name_101 : decode cX8_name 101 = .ok (.bipush 110, 2) := by decide +kernel
theorem dX8_name_103 : decode cX8_name 103 = .ok (.bipush 121, 2) := by decide +kernel
theorem dX8_name_105 : decode cX8_name 105 = .ok (.iconst 0, 1) := by decide +kernel
theorem dX8_name_106 : decode cX8_name 106 = .ok (.iconst 0, 1) := by decide +kernel
theorem dX8_name_107 : decode cX8_name 107 = .ok (.iconst 0, 1) := by decide +kernel
theorem dX8_name_108 : decode cX8_name 108 = .ok (.iconst 0, 1) := by decide +kernel
theorem dX8_name_109 : decode cX8_name 109 = .ok (.invokevirtual 190, 3) := by decide +kernel
theorem dX8_name_112 : decode cX8_name 112 = .ok (.ifCond .eq 8, 3) := by decide +kernel
theorem dX8_name_115 : decode cX8_name 115 = .ok (.aload_n 0, 1) := by decide +kernel
theorem dX8_name_116 : decode cX8_name 116 = .ok (.getfield 206, 3) := by decide +kernel
theorem dX8_name_119 : decode cX8_name 119 = .ok (.ireturn, 1) := by decide +kernel
theorem dX8_name_120 : decode cX8_name 120 = .ok (.aload_n 0, 1) := by decide +kernel
theorem dX8_name_121 : decode cX8_name 121 = .ok (.bipush 104, 2) := by decide +kernel
theorem dX8_name_123 : decode cX8_name 123 = .ok (.bipush 97, 2) := by decide +kernel
theorem dX8_name_125 : decode cX8_name 125 = .ok (.bipush 110, 2) := by decide +kernel
theorem dX8_name_127 : decode cX8_name 127 = .ok (.bipush 100, 2) := by decide +kernel
theorem dX8_name_129 : decode cX8_name 129 = .ok (.iconst 0, 1) := by decide +kernel
theorem dX8_name_130 : decode cX8_name 130 = .ok (.iconst 0, 1) := by decide +kernel
theorem dX8_name_131 : decode cX8_name 131 = .ok (.iconst 0, 1) := by decide +kernel
theorem dX8_name_132 : decode cX8_name 132 = .ok (.iconst 0, 1) := by decide +kernel
theorem dX8_name_133 : decode cX8_name 133 = .ok (.invokevirtual 190, 3) := by decide +kernel
theorem dX8_name_136 : decode cX8_name 136 = .ok (.ifCond .eq 8, 3) := by decide +kernel
theorem dX8_name_139 : decode cX8_name 139 = .ok (.aload_n 0, 1) := by decide +kernel
theorem dX8_name_140 : decode cX8_name 140 = .ok (.getfield 209, 3) := by decide +kernel
theorem dX8_name_143 : decode cX8_name 143 = .ok (.ireturn, 1) := by decide +kernel
theorem dX8_name_144 : decode cX8_name 144 = .ok (.aload_n 0, 1) := by decide +kernel
theorem dX8_name_145 : decode cX8_name 145 = .ok (.invokevirtual 184, 3) := by decide +kernel
theorem dX8_name_148 : decode cX8_name 148 = .ok (.iconst 0, 1) := by decide +kernel
theorem dX8_name_149 : decode cX8_name 149 = .ok (.ireturn, 1) := by decide +kernel
theorem dX8_atom_0 : decode cX8_atom 0 = .ok (.iconst 0, 1) := by decide +kernel
theorem dX8_atom_1 : decode cX8_atom 1 = .ok (.istore_n 1, 1) := by decide +kernel
theorem dX8_atom_2 : decode cX8_atom 2 = .ok (.aload_n 0, 1) := by decide +kernel
theorem dX8_atom_3 : decode cX8_atom 3 = .ok (.bipush 45, 2) := by decide +kernel
theorem dX8_atom_5 : decode cX8_atom 5 = .ok (.invokevirtual 212, 3) := by decide +kernel
theorem dX8_atom_8 : decode cX8_atom 8 = .ok (.ifCond .eq 29, 3) := by decide +kernel
theorem dX8_atom_11 : decode cX8_atom 11 = .ok (.aload_n 0, 1) := by decide +kernel
theorem dX8_atom_12 : decode cX8_atom 12 = .ok (.invokevirtual 215, 3) := by decide +kernel
theorem dX8_atom_15 : decode cX8_atom 15 = .ok (.ifCond .eq 146, 3) := by decide +kernel
theorem dX8_atom_18 : decode cX8_atom 18 = .ok (.aload_n 0, 1) := by decide +kernel
theorem dX8_atom_19 : decode cX8_atom 19 = .ok (.invokevirtual 219, 3) := by decide +kernel
theorem dX8_atom_22 : decode cX8_atom 22 = .ok (.ineg, 1) := by decide +kernel
theorem dX8_atom_23 : decode cX8_atom 23 = .ok (.istore_n 1, 1) := by decide +kernel
theorem dX8_atom_24 : decode cX8_atom 24 = .ok (.aload_n 0, 1) := by decide +kernel
theorem dX8_atom_25 : decode cX8_atom 25 = .ok (.dup, 1) := by decide +kernel
theorem dX8_atom_26 : decode cX8_atom 26 = .ok (.getfield 181, 3) := by decide +kernel
theorem dX8_atom_29 : decode cX8_atom 29 = .ok (.iconst 1, 1) := by decide +kernel
theorem dX8_atom_30 : decode cX8_atom 30 = .ok (.isub, 1) := by decide +kernel
theorem dX8_atom_31 : decode cX8_atom 31 = .ok (.putfield 181, 3) := by decide +kernel
theorem dX8_atom_34 : decode cX8_atom 34 = .ok (.goto 127, 3) := by decide +kernel
theorem dX8_atom_37 : decode cX8_atom 37 = .ok (.aload_n 0, 1) := by decide +kernel
theorem dX8_atom_38 : decode cX8_atom 38 = .ok (.bipush 40, 2) := by decide +kernel
theorem dX8_atom_40 : decode cX8_atom 40 = .ok (.invokevirtual 212, 3) := by decide +kernel
theorem dX8_atom_43 : decode cX8_atom 43 = .ok (.ifCond .eq 52, 3) := by decide +kernel
theorem dX8_atom_46 : decode cX8_atom 46 = .ok (.aload_n 0, 1) := by decide +kernel
theorem dX8_atom_47 : decode cX8_atom 47 = .ok (.invokevirtual 215, 3) := by decide +kernel
theorem dX8_atom_50 : decode cX8_atom 50 = .ok (.ifCond .eq 111, 3) := by decide +kernel
theorem dX8_atom_53 : decode cX8_atom 53 = .ok (.aload_n 0, 1) := by decide +kernel
theorem dX8_atom_54 : decode cX8_atom 54 = .ok (.invokevirtual 223, 3) := by decide +kernel
theorem dX8_atom_57 : decode cX8_atom 57 = .ok (.istore_n 1, 1) := by decide +kernel
theorem dX8_atom_58 : decode cX8_atom 58 = .ok (.aload_n 0, 1) := by decide +kernel
theorem dX8_atom_59 : decode cX8_atom 59 = .ok (.bipush 41, 2) := by decide +kernel
theorem dX8_atom_61 : decode cX8_atom 61 = .ok (.invokevirtual 212, 3) := by decide +kernel
theorem dX8_atom_64 : decode cX8_atom 64 = .ok (.ifCond .ne 7, 3) := by decide +kernel
theorem dX8_atom_67 : decode cX8_atom 67 = .ok (.aload_n 0, 1) := by decide +kernel
theorem dX8_atom_68 : decode cX8_atom 68 = .ok (.invokevirtual 184, 3) := by decide +kernel
theorem dX8_atom_71 : decode cX8_atom 71 = .ok (.aload_n 0, 1) := by decide +kernel
theorem dX8_atom_72 : decode cX8_atom 72 = .ok (.dup, 1) := by decide +kernel
theorem dX8_atom_73 : decode cX8_atom 73 = .ok (.getfield 181, 3) := by decide +kernel
theorem dX8_atom_76 : decode cX8_atom 76 = .ok (.iconst 1, 1) := by decide +kernel
theorem dX8_atom_77 : decode cX8_atom 77 = .ok (.isub, 1) := by decide +kernel
theorem dX8_atom_78 : decode cX8_atom 78 = .ok (.putfield 181, 3) := by decide +kernel
theorem dX8_atom_81 : decode cX8_atom 81 = .ok (.aload_n 0, 1) := by decide +kernel
theorem dX8_atom_82 : decode cX8_atom 82 = .ok (.getfield 170, 3) := by decide +kernel
theorem dX8_atom_85 : decode cX8_atom 85 = .ok (.ifCond .ne 76, 3) := by decide +kernel
theorem dX8_atom_88 : decode cX8_atom 88 = .ok (.aload_n 0, 1) := by decide +kernel
theorem dX8_atom_89 : decode cX8_atom 89 = .ok (.invokevirtual 187, 3) := by decide +kernel
theorem dX8_atom_92 : decode cX8_atom 92 = .ok (.goto 69, 3) := by decide +kernel
theorem dX8_atom_95 : decode cX8_atom 95 = .ok (.aload_n 0, 1) := by decide +kernel
theorem dX8_atom_96 : decode cX8_atom 96 = .ok (.getfield 170, 3) := by decide +kernel
theorem dX8_atom_99 : decode cX8_atom 99 = .ok (.ifCond .ne 24, 3) := by decide +kernel
theorem dX8_atom_102 : decode cX8_atom 102 = .ok (.aload_n 0, 1) := by decide +kernel
theorem dX8_atom_103 : decode cX8_atom 103 = .ok (.getfield 155, 3) := by decide +kernel
theorem dX8_atom_106 : decode cX8_atom 106 = .ok (.iconst 2, 1) := by decide +kernel
theorem dX8_atom_107 : decode cX8_atom 107 = .ok (.if_icmp .ne 16, 3) := by decide +kernel
theorem dX8_atom_110 : decode cX8_atom 110 = .ok (.aload_n 0, 1) := by decide +kernel
theorem dX8_atom_111 : decode cX8_atom 111 = .ok (.getfield 166, 3) := by decide +kernel
theorem dX8_atom_114 : decode cX8_atom 114 = .ok (.l2i, 1) := by decide +kernel
theorem dX8_atom_115 : decode cX8_atom 115 = .ok (.istore_n 1, 1) := by decide +kernel
theorem dX8_atom_116 : decode cX8_atom 116 = .ok (.aload_n 0, 1) := by decide +kernel
theorem dX8_atom_117 : decode cX8_atom 117 = .ok (.invokevirtual 187, 3) := by decide +kernel
theorem dX8_atom_120 : decode cX8_atom 120 = .ok (.goto 41, 3) := by decide +kernel
theorem dX8_atom_123 : decode cX8_atom 123 = .ok (.aload_n 0, 1) := by decide +kernel
theorem dX8_atom_124 : decode cX8_atom 124 = .ok (.getfield 170, 3) := by decide +kernel
theorem dX8_atom_127 : decode cX8_atom 127 = .ok (.ifCond .ne 30, 3) := by decide +kernel
theorem dX8_atom_130 : decode cX8_atom 130 = .ok (.aload_n 0, 1) := by decide +kernel
theorem dX8_atom_131 : decode cX8_atom 131 = .ok (.getfield 155, 3) := by decide +kernel
theorem dX8_atom_134 : decode cX8_atom 134 = .ok (.iconst 1, 1) := by decide +kernel
theorem dX8_atom_135 : decode cX8_atom 135 = .ok (.if_icmp .ne 22, 3) := by decide +kernel
theorem dX8_atom_138 : decode cX8_atom 138 = .ok (.aload_n 0, 1) := by decide +kernel
theorem dX8_atom_139 : decode cX8_atom 139 = .ok (.invokevirtual 226, 3) := by decide +kernel
theorem dX8_atom_142 : decode cX8_atom 142 = .ok (.istore_n 1, 1) := by decide +kernel
theorem dX8_atom_143 : decode cX8_atom 143 = .ok (.aload_n 0, 1) := by decide +kernel
theorem dX8_atom_144 : decode cX8_atom 144 = .ok (.getfield 170, 3) := by decide +kernel
theorem dX8_atom_147 : decode cX8_atom 147 = .ok (.ifCond .ne 14, 3) := by decide +kernel
theorem dX8_atom_150 : decode cX8_atom 150 = .ok (.aload_n 0, 1) := by decide +kernel
theorem dX8_atom_151 : decode cX8_atom 151 = .ok (.invokevirtual 187, 3) := by decide +kernel
theorem dX8_atom_154 : decode cX8_atom 154 = .ok (.goto 7, 3) := by decide +kernel
theorem dX8_atom_157 : decode cX8_atom 157 = .ok (.aload_n 0, 1) := by decide +kernel
theorem dX8_atom_158 : decode cX8_atom 158 = .ok (.invokevirtual 184, 3) := by decide +kernel
theorem dX8_atom_161 : decode cX8_atom 161 = .ok (.iload_n 1, 1) := by decide +kernel
theorem dX8_atom_162 : decode cX8_atom 162 = .ok (.ireturn, 1) := by decide +kernel
theorem dX8_term_0 : decode cX8_term 0 = .ok (.aload_n 0, 1) := by decide +kernel
theorem dX8_term_1 : decode cX8_term 1 = .ok (.invokevirtual 219, 3) := by decide +kernel
theorem dX8_term_4 : decode cX8_term 4 = .ok (.istore_n 1, 1) := by decide +kernel
theorem dX8_term_5 : decode cX8_term 5 = .ok (.aload_n 0, 1) := by decide +kernel
theorem dX8_term_6 : decode cX8_term 6 = .ok (.bipush 42, 2) := by decide +kernel
theorem dX8_term_8 : decode cX8_term 8 = .ok (.invokevirtual 212, 3) := by decide +kernel
theorem dX8_term_11 : decode cX8_term 11 = .ok (.ifCond .eq 17, 3) := by decide +kernel
theorem dX8_term_14 : decode cX8_term 14 = .ok (.aload_n 0, 1) := by decide +kernel
theorem dX8_term_15 : decode cX8_term 15 = .ok (.invokevirtual 187, 3) := by decide +kernel
theorem dX8_term_18 : decode cX8_term 18 = .ok (.iload_n 1, 1) := by decide +kernel
theorem dX8_term_19 : decode cX8_term 19 = .ok (.aload_n 0, 1) := by decide +kernel
theorem dX8_term_20 : decode cX8_term 20 = .ok (.invokevirtual 219, 3) := by decide +kernel
theorem dX8_term_23 : decode cX8_term 23 = .ok (.imul, 1) := by decide +kernel
theorem dX8_term_24 : decode cX8_term 24 = .ok (.istore_n 1, 1) := by decide +kernel
theorem dX8_term_25 : decode cX8_term 25 = .ok (.goto (-20), 3) := by decide +kernel
theorem dX8_term_28 : decode cX8_term 28 = .ok (.iload_n 1, 1) := by decide +kernel
theorem dX8_term_29 : decode cX8_term 29 = .ok (.ireturn, 1) := by decide +kernel
theorem dX8_added_0 : decode cX8_added 0 = .ok (.aload_n 0, 1) := by decide +kernel
theorem dX8_added_1 : decode cX8_added 1 = .ok (.invokevirtual 229, 3) := by decide +kernel
theorem dX8_added_4 : decode cX8_added 4 = .ok (.istore_n 1, 1) := by decide +kernel
theorem dX8_added_5 : decode cX8_added 5 = .ok (.aload_n 0, 1) := by decide +kernel
theorem dX8_added_6 : decode cX8_added 6 = .ok (.bipush 43, 2) := by decide +kernel
theorem dX8_added_8 : decode cX8_added 8 = .ok (.invokevirtual 212, 3) := by decide +kernel
theorem dX8_added_11 : decode cX8_added 11 = .ok (.ifCond .ne 12, 3) := by decide +kernel
theorem dX8_added_14 : decode cX8_added 14 = .ok (.aload_n 0, 1) := by decide +kernel
theorem dX8_added_15 : decode cX8_added 15 = .ok (.bipush 45, 2) := by decide +kernel
theorem dX8_added_17 : decode cX8_added 17 = .ok (.invokevirtual 212, 3) := by decide +kernel
theorem dX8_added_20 : decode cX8_added 20 = .ok (.ifCond .eq 46, 3) := by decide +kernel
theorem dX8_added_23 : decode cX8_added 23 = .ok (.aload_n 0, 1) := by decide +kernel
theorem dX8_added_24 : decode cX8_added 24 = .ok (.getfield 166, 3) := by decide +kernel
theorem dX8_added_27 : decode cX8_added 27 = .ok (.ldc2_w 232, 3) := by decide +kernel
theorem dX8_added_30 : decode cX8_added 30 = .ok (.lcmp, 1) := by decide +kernel
theorem dX8_added_31 : decode cX8_added 31 = .ok (.ifCond .ne 7, 3) := by decide +kernel
theorem dX8_added_34 : decode cX8_added 34 = .ok (.iconst 1, 1) := by decide +kernel
theorem dX8_added_35 : decode cX8_added 35 = .ok (.goto 4, 3) := by decide +kernel
theorem dX8_added_38 : decode cX8_added 38 = .ok (.iconst 0, 1) := by decide +kernel
theorem dX8_added_39 : decode cX8_added 39 = .ok (.istore_n 2, 1) := by decide +kernel
theorem dX8_added_40 : decode cX8_added 40 = .ok (.aload_n 0, 1) := by decide +kernel
theorem dX8_added_41 : decode cX8_added 41 = .ok (.invokevirtual 187, 3) := by decide +kernel
theorem dX8_added_44 : decode cX8_added 44 = .ok (.aload_n 0, 1) := by decide +kernel
theorem dX8_added_45 : decode cX8_added 45 = .ok (.invokevirtual 229, 3) := by decide +kernel
theorem dX8_added_48 : decode cX8_added 48 = .ok (.istore_n 3, 1) := by decide +kernel
theorem dX8_added_49 : decode cX8_added 49 = .ok (.iload_n 2, 1) := by decide +kernel
theorem dX8_added_50 : decode cX8_added 50 = .ok (.ifCond .eq 9, 3) := by decide +kernel
theorem dX8_added_53 : decode cX8_added 53 = .ok (.iload_n 1, 1) := by decide +kernel
theorem dX8_added_54 : decode cX8_added 54 = .ok (.iload_n 3, 1) := by decide +kernel
theorem dX8_added_55 : decode cX8_added 55 = .ok (.iadd, 1) := by decide +kernel
theorem dX8_added_56 : decode cX8_added 56 = .ok (.goto 6, 3) := by decide +kernel
theorem dX8_added_59 : decode cX8_added 59 = .ok (.iload_n 1, 1) := by decide +kernel
theorem dX8_added_60 : decode cX8_added 60 = .ok (.iload_n 3, 1) := by decide +kernel
theorem dX8_added_61 : decode cX8_added 61 = .ok (.isub, 1) := by decide +kernel
theorem dX8_added_62 : decode cX8_added 62 = .ok (.istore_n 1, 1) := by decide +kernel
theorem dX8_added_63 : decode cX8_added 63 = .ok (.goto (-58), 3) := by decide +kernel
theorem dX8_added_66 : decode cX8_added 66 = .ok (.iload_n 1, 1) := by decide +kernel
theorem dX8_added_67 : decode cX8_added 67 = .ok (.ireturn, 1) := by decide +kernel
theorem dX8_not_0 : decode cX8_not 0 = .ok (.aload_n 0, 1) := by decide +kernel
theorem dX8_not_1 : decode cX8_not 1 = .ok (.bipush 110, 2) := by decide +kernel
theorem dX8_not_3 : decode cX8_not 3 = .ok (.bipush 111, 2) := by decide +kernel
theorem dX8_not_5 : decode cX8_not 5 = .ok (.bipush 116, 2) := by decide +kernel
theorem dX8_not_7 : decode cX8_not 7 = .ok (.iconst 0, 1) := by decide +kernel
theorem dX8_not_8 : decode cX8_not 8 = .ok (.iconst 0, 1) := by decide +kernel
theorem dX8_not_9 : decode cX8_not 9 = .ok (.iconst 0, 1) := by decide +kernel
theorem dX8_not_10 : decode cX8_not 10 = .ok (.iconst 0, 1) := by decide +kernel
theorem dX8_not_11 : decode cX8_not 11 = .ok (.iconst 0, 1) := by decide +kernel
theorem dX8_not_12 : decode cX8_not 12 = .ok (.invokevirtual 190, 3) := by decide +kernel
theorem dX8_not_15 : decode cX8_not 15 = .ok (.ifCond .eq 37, 3) := by decide +kernel
theorem dX8_not_18 : decode cX8_not 18 = .ok (.aload_n 0, 1) := by decide +kernel
theorem dX8_not_19 : decode cX8_not 19 = .ok (.invokevirtual 215, 3) := by decide +kernel
theorem dX8_not_22 : decode cX8_not 22 = .ok (.ifCond .ne 5, 3) := by decide +kernel
theorem dX8_not_25 : decode cX8_not 25 = .ok (.iconst 0, 1) := by decide +kernel
theorem dX8_not_26 : decode cX8_not 26 = .ok (.ireturn, 1) := by decide +kernel
theorem dX8_not_27 : decode cX8_not 27 = .ok (.aload_n 0, 1) := by decide +kernel
theorem dX8_not_28 : decode cX8_not 28 = .ok (.invokevirtual 234, 3) := by decide +kernel
theorem dX8_not_31 : decode cX8_not 31 = .ok (.istore_n 1, 1) := by decide +kernel
theorem dX8_not_32 : decode cX8_not 32 = .ok (.aload_n 0, 1) := by decide +kernel
theorem dX8_not_33 : decode cX8_not 33 = .ok (.dup, 1) := by decide +kernel
theorem dX8_not_34 : decode cX8_not 34 = .ok (.getfield 181, 3) := by decide +kernel
theorem dX8_not_37 : decode cX8_not 37 = .ok (.iconst 1, 1) := by decide +kernel
theorem dX8_not_38 : decode cX8_not 38 = .ok (.isub, 1) := by decide +kernel
theorem dX8_not_39 : decode cX8_not 39 = .ok (.putfield 181, 3) := by decide +kernel
theorem dX8_not_42 : decode cX8_not 42 = .ok (.iload_n 1, 1) := by decide +kernel
theorem dX8_not_43 : decode cX8_not 43 = .ok (.ifCond .ne 7, 3) := by decide +kernel
theorem dX8_not_46 : decode cX8_not 46 = .ok (.iconst 1, 1) := by decide +kernel
theorem dX8_not_47 : decode cX8_not 47 = .ok (.goto 4, 3) := by decide +kernel
theorem dX8_not_50 : decode cX8_not 50 = .ok (.iconst 0, 1) := by decide +kernel
theorem dX8_not_51 : decode cX8_not 51 = .ok (.ireturn, 1) := by decide +kernel
theorem dX8_not_52 : decode cX8_not 52 = .ok (.aload_n 0, 1) := by decide +kernel
theorem dX8_not_53 : decode cX8_not 53 = .ok (.invokevirtual 237, 3) := by decide +kernel
theorem dX8_not_56 : decode cX8_not 56 = .ok (.istore_n 1, 1) := by decide +kernel
theorem dX8_not_57 : decode cX8_not 57 = .ok (.aload_n 0, 1) := by decide +kernel
theorem dX8_not_58 : decode cX8_not 58 = .ok (.bipush 60, 2) := by decide +kernel
theorem dX8_not_60 : decode cX8_not 60 = .ok (.invokevirtual 212, 3) := by decide +kernel
theorem dX8_not_63 : decode cX8_not 63 = .ok (.ifCond .ne 14, 3) := by decide +kernel
theorem dX8_not_66 : decode cX8_not 66 = .ok (.aload_n 0, 1) := by decide +kernel
theorem dX8_not_67 : decode cX8_not 67 = .ok (.bipush 61, 2) := by decide +kernel
theorem dX8_not_69 : decode cX8_not 69 = .ok (.invokevirtual 212, 3) := by decide +kernel
theorem dX8_not_72 : decode cX8_not 72 = .ok (.ifCond .ne 5, 3) := by decide +kernel
theorem dX8_not_75 : decode cX8_not 75 = .ok (.iload_n 1, 1) := by decide +kernel
theorem dX8_not_76 : decode cX8_not 76 = .ok (.ireturn, 1) := by decide +kernel
theorem dX8_not_77 : decode cX8_not 77 = .ok (.aload_n 0, 1) := by decide +kernel
theorem dX8_not_78 : decode cX8_not 78 = .ok (.getfield 166, 3) := by decide +kernel
theorem dX8_not_81 : decode cX8_not 81 = .ok (.ldc2_w 240, 3) := by decide +kernel
theorem dX8_not_84 : decode cX8_not 84 = .ok (.lcmp, 1) := by decide +kernel
theorem dX8_not_85 : decode cX8_not 85 = .ok (.ifCond .ne 7, 3) := by decide +kernel
theorem dX8_not_88 : decode cX8_not 88 = .ok (.iconst 1, 1) := by decide +kernel
theorem dX8_not_89 : decode cX8_not 89 = .ok (.goto 4, 3) := by decide +kernel
theorem dX8_not_92 : decode cX8_not 92 = .ok (.iconst 0, 1) := by decide +kernel
theorem dX8_not_93 : decode cX8_not 93 = .ok (.istore_n 2, 1) := by decide +kernel
theorem dX8_not_94 : decode cX8_not 94 = .ok (.aload_n 0, 1) := by decide +kernel
theorem dX8_not_95 : decode cX8_not 95 = .ok (.invokevirtual 187, 3) := by decide +kernel
theorem dX8_not_98 : decode cX8_not 98 = .ok (.aload_n 0, 1) := by decide +kernel
theorem dX8_not_99 : decode cX8_not 99 = .ok (.invokevirtual 237, 3) := by decide +kernel
theorem dX8_not_102 : decode cX8_not 102 = .ok (.istore_n 3, 1) := by decide +kernel
theorem dX8_not_103 : decode cX8_not 103 = .ok (.iload_n 2, 1) := by decide +kernel
theorem dX8_not_104 : decode cX8_not 104 = .ok (.ifCond .eq 11, 3) := by decide +kernel
theorem dX8_not_107 : decode cX8_not 107 = .ok (.iload_n 1, 1) := by decide +kernel
theorem dX8_not_108 : decode cX8_not 108 = .ok (.iload_n 3, 1) := by decide +kernel
theorem dX8_not_109 : decode cX8_not 109 = .ok (.if_icmp .ge 15, 3) := by decide +kernel
theorem dX8_not_112 : decode cX8_not 112 = .ok (.goto 8, 3) := by decide +kernel
theorem dX8_not_115 : decode cX8_not 115 = .ok (.iload_n 1, 1) := by decide +kernel
theorem dX8_not_116 : decode cX8_not 116 = .ok (.iload_n 3, 1) := by decide +kernel
theorem dX8_not_117 : decode cX8_not 117 = .ok (.if_icmp .ne 7, 3) := by decide +kernel
theorem dX8_not_120 : decode cX8_not 120 = .ok (.iconst 1, 1) := by decide +kernel
theorem dX8_not_121 : decode cX8_not 121 = .ok (.goto 4, 3) := by decide +kernel
theorem dX8_not_124 : decode cX8_not 124 = .ok (.iconst 0, 1) := by decide +kernel
theorem dX8_not_125 : decode cX8_not 125 = .ok (.ireturn, 1) := by decide +kernel
theorem dX8_both_0 : decode cX8_both 0 = .ok (.aload_n 0, 1) := by decide +kernel
theorem dX8_both_1 : decode cX8_both 1 = .ok (.invokevirtual 234, 3) := by decide +kernel
theorem dX8_both_4 : decode cX8_both 4 = .ok (.istore_n 1, 1) := by decide +kernel
theorem dX8_both_5 : decode cX8_both 5 = .ok (.aload_n 0, 1) := by decide +kernel
theorem dX8_both_6 : decode cX8_both 6 = .ok (.bipush 97, 2) := by decide +kernel
theorem dX8_both_8 : decode cX8_both 8 = .ok (.bipush 110, 2) := by decide +kernel
theorem dX8_both_10 : decode cX8_both 10 = .ok (.bipush 100, 2) := by decide +kernel
theorem dX8_both_12 : decode cX8_both 12 = .ok (.iconst 0, 1) := by decide +kernel
theorem dX8_both_13 : decode cX8_both 13 = .ok (.iconst 0, 1) := by decide +kernel
theorem dX8_both_14 : decode cX8_both 14 = .ok (.iconst 0, 1) := by decide +kernel
theorem dX8_both_15 : decode cX8_both 15 = .ok (.iconst 0, 1) := by decide +kernel
theorem dX8_both_16 : decode cX8_both 16 = .ok (.iconst 0, 1) := by decide +kernel
theorem dX8_both_17 : decode cX8_both 17 = .ok (.invokevirtual 190, 3) := by decide +kernel
theorem dX8_both_20 : decode cX8_both 20 = .ok (.ifCond .eq 29, 3) := by decide +kernel
theorem dX8_both_23 : decode cX8_both 23 = .ok (.aload_n 0, 1) := by decide +kernel
theorem dX8_both_24 : decode cX8_both 24 = .ok (.invokevirtual 187, 3) := by decide +kernel
theorem dX8_both_27 : decode cX8_both 27 = .ok (.aload_n 0, 1) := by decide +kernel
theorem dX8_both_28 : decode cX8_both 28 = .ok (.invokevirtual 234, 3) := by decide +kernel
theorem dX8_both_31 : decode cX8_both 31 = .ok (.istore_n 2, 1) := by decide +kernel
theorem dX8_both_32 : decode cX8_both 32 = .ok (.iload_n 1, 1) := by decide +kernel
theorem dX8_both_33 : decode cX8_both 33 = .ok (.ifCond .eq 11, 3) := by decide +kernel
theorem dX8_both_36 : decode cX8_both 36 = .ok (.iload_n 2, 1) := by decide +kernel
theorem dX8_both_37 : decode cX8_both 37 = .ok (.ifCond .eq 7, 3) := by decide +kernel
theorem dX8_both_40 : decode cX8_both 40 = .ok (.iconst 1, 1) := by decide +kernel
theorem dX8_both_41 : decode cX8_both 41 = .ok (.goto 4, 3) := by decide +kernel
theorem dX8_both_44 : decode cX8_both 44 = .ok (.iconst 0, 1) := by decide +kernel
theorem dX8_both_45 : decode cX8_both 45 = .ok (.istore_n 1, 1) := by decide +kernel
theorem dX8_both_46 : decode cX8_both 46 = .ok (.goto (-41), 3) := by decide +kernel
theorem dX8_both_49 : decode cX8_both 49 = .ok (.iload_n 1, 1) := by decide +kernel
theorem dX8_both_50 : decode cX8_both 50 = .ok (.ireturn, 1) := by decide +kernel
theorem dX8_either_0 : decode cX8_either 0 = .ok (.aload_n 0, 1) := by decide +kernel
theorem dX8_either_1 : decode cX8_either 1 = .ok (.invokevirtual 242, 3) := by decide +kernel
theorem dX8_either_4 : decode cX8_either 4 = .ok (.istore_n 1, 1) := by decide +kernel
theorem dX8_either_5 : decode cX8_either 5 = .ok (.aload_n 0, 1) := by decide +kernel
theorem dX8_either_6 : decode cX8_either 6 = .ok (.bipush 111, 2) := by decide +kernel
theorem dX8_either_8 : decode cX8_either 8 = .ok (.bipush 114, 2) := by decide +kernel
theorem dX8_either_10 : decode cX8_either 10 = .ok (.iconst 0, 1) := by decide +kernel
theorem dX8_either_11 : decode cX8_either 11 = .ok (.iconst 0, 1) := by decide +kernel
theorem dX8_either_12 : decode cX8_either 12 = .ok (.iconst 0, 1) := by decide +kernel
theorem dX8_either_13 : decode cX8_either 13 = .ok (.iconst 0, 1) := by decide +kernel
theorem dX8_either_14 : decode cX8_either 14 = .ok (.iconst 0, 1) := by decide +kernel
theorem dX8_either_15 : decode cX8_either 15 = .ok (.iconst 0, 1) := by decide +kernel
theorem dX8_either_16 : decode cX8_either 16 = .ok (.invokevirtual 190, 3) := by decide +kernel
theorem dX8_either_19 : decode cX8_either 19 = .ok (.ifCond .eq 29, 3) := by decide +kernel
theorem dX8_either_22 : decode cX8_either 22 = .ok (.aload_n 0, 1) := by decide +kernel
theorem dX8_either_23 : decode cX8_either 23 = .ok (.invokevirtual 187, 3) := by decide +kernel
theorem dX8_either_26 : decode cX8_either 26 = .ok (.aload_n 0, 1) := by decide +kernel
theorem dX8_either_27 : decode cX8_either 27 = .ok (.invokevirtual 242, 3) := by decide +kernel
theorem dX8_either_30 : decode cX8_either 30 = .ok (.istore_n 2, 1) := by decide +kernel
theorem dX8_either_31 : decode cX8_either 31 = .ok (.iload_n 1, 1) := by decide +kernel
theorem dX8_either_32 : decode cX8_either 32 = .ok (.ifCond .ne 7, 3) := by decide +kernel
theorem dX8_either_35 : decode cX8_either 35 = .ok (.iload_n 2, 1) := by decide +kernel
theorem dX8_either_36 : decode cX8_either 36 = .ok (.ifCond .eq 7, 3) := by decide +kernel
theorem dX8_either_39 : decode cX8_either 39 = .ok (.iconst 1, 1) := by decide +kernel
theorem dX8_either_40 : decode cX8_either 40 = .ok (.goto 4, 3) := by decide +kernel
theorem dX8_either_43 : decode cX8_either 43 = .ok (.iconst 0, 1) := by decide +kernel
theorem dX8_either_44 : decode cX8_either 44 = .ok (.istore_n 1, 1) := by decide +kernel
theorem dX8_either_45 : decode cX8_either 45 = .ok (.goto (-40), 3) := by decide +kernel
theorem dX8_either_48 : decode cX8_either 48 = .ok (.iload_n 1, 1) := by decide +kernel
theorem dX8_either_49 : decode cX8_either 49 = .ok (.ireturn, 1) := by decide +kernel
theorem dX8_part_0 : decode cX8_part 0 = .ok (.iload_n 1, 1) := by decide +kernel
theorem dX8_part_1 : decode cX8_part 1 = .ok (.ifCond .ne 7, 3) := by decide +kernel
theorem dX8_part_4 : decode cX8_part 4 = .ok (.aload_n 0, 1) := by decide +kernel
theorem dX8_part_5 : decode cX8_part 5 = .ok (.invokevirtual 184, 3) := by decide +kernel
theorem dX8_part_8 : decode cX8_part 8 = .ok (.aload_n 0, 1) := by decide +kernel
theorem dX8_part_9 : decode cX8_part 9 = .ok (.getfield 170, 3) := by decide +kernel
theorem dX8_part_12 : decode cX8_part 12 = .ok (.ifCond .ne 7, 3) := by decide +kernel
theorem dX8_part_15 : decode cX8_part 15 = .ok (.aload_n 0, 1) := by decide +kernel
theorem dX8_part_16 : decode cX8_part 16 = .ok (.invokevirtual 187, 3) := by decide +kernel
theorem dX8_part_19 : decode cX8_part 19 = .ok (.aload_n 0, 1) := by decide +kernel
theorem dX8_part_20 : decode cX8_part 20 = .ok (.getfield 170, 3) := by decide +kernel
theorem dX8_part_23 : decode cX8_part 23 = .ok (.ifCond .eq 7, 3) := by decide +kernel
theorem dX8_part_26 : decode cX8_part 26 = .ok (.iconst 0, 1) := by decide +kernel
theorem dX8_part_27 : decode cX8_part 27 = .ok (.goto 7, 3) := by decide +kernel
theorem dX8_part_30 : decode cX8_part 30 = .ok (.aload_n 0, 1) := by decide +kernel
theorem dX8_part_31 : decode cX8_part 31 = .ok (.invokevirtual 223, 3) := by decide +kernel
theorem dX8_part_34 : decode cX8_part 34 = .ok (.istore_n 2, 1) := by decide +kernel
theorem dX8_part_35 : decode cX8_part 35 = .ok (.aload_n 0, 1) := by decide +kernel
theorem dX8_part_36 : decode cX8_part 36 = .ok (.bipush 59, 2) := by decide +kernel
theorem dX8_part_38 : decode cX8_part 38 = .ok (.invokevirtual 212, 3) := by decide +kernel
theorem dX8_part_41 : decode cX8_part 41 = .ok (.ifCond .ne 7, 3) := by decide +kernel
theorem dX8_part_44 : decode cX8_part 44 = .ok (.aload_n 0, 1) := by decide +kernel
theorem dX8_part_45 : decode cX8_part 45 = .ok (.invokevirtual 184, 3) := by decide +kernel
theorem dX8_part_48 : decode cX8_part 48 = .ok (.aload_n 0, 1) := by decide +kernel
theorem dX8_part_49 : decode cX8_part 49 = .ok (.getfield 170, 3) := by decide +kernel
theorem dX8_part_52 : decode cX8_part 52 = .ok (.ifCond .ne 7, 3) := by decide +kernel
theorem dX8_part_55 : decode cX8_part 55 = .ok (.aload_n 0, 1) := by decide +kernel
theorem dX8_part_56 : decode cX8_part 56 = .ok (.invokevirtual 187, 3) := by decide +kernel
theorem dX8_part_59 : decode cX8_part 59 = .ok (.iload_n 2, 1) := by decide +kernel
theorem dX8_part_60 : decode cX8_part 60 = .ok (.ireturn, 1) := by decide +kernel
theorem dX8_read_0 : decode cX8_read 0 = .ok (.aload_n 0, 1) := by decide +kernel
theorem dX8_read_1 : decode cX8_read 1 = .ok (.sipush 160, 3) := by decide +kernel
theorem dX8_read_4 : decode cX8_read 4 = .ok (.iload_n 1, 1) := by decide +kernel
theorem dX8_read_5 : decode cX8_read 5 = .ok (.imul, 1) := by decide +kernel
theorem dX8_read_6 : decode cX8_read 6 = .ok (.putfield 143, 3) := by decide +kernel
theorem dX8_read_9 : decode cX8_read 9 = .ok (.aload_n 0, 1) := by decide +kernel
theorem dX8_read_10 : decode cX8_read 10 = .ok (.aload_n 0, 1) := by decide +kernel
theorem dX8_read_11 : decode cX8_read 11 = .ok (.getfield 17, 3) := by decide +kernel
theorem dX8_read_14 : decode cX8_read 14 = .ok (.iload_n 1, 1) := by decide +kernel
theorem dX8_read_15 : decode cX8_read 15 = .ok (.iaload, 1) := by decide +kernel
theorem dX8_read_16 : decode cX8_read 16 = .ok (.putfield 140, 3) := by decide +kernel
theorem dX8_read_19 : decode cX8_read 19 = .ok (.aload_n 0, 1) := by decide +kernel
theorem dX8_read_20 : decode cX8_read 20 = .ok (.iconst 0, 1) := by decide +kernel
theorem dX8_read_21 : decode cX8_read 21 = .ok (.putfield 146, 3) := by decide +kernel
theorem dX8_read_24 : decode cX8_read 24 = .ok (.aload_n 0, 1) := by decide +kernel
theorem dX8_read_25 : decode cX8_read 25 = .ok (.iconst 0, 1) := by decide +kernel
theorem dX8_read_26 : decode cX8_read 26 = .ok (.putfield 181, 3) := by decide +kernel
theorem dX8_read_29 : decode cX8_read 29 = .ok (.aload_n 0, 1) := by decide +kernel
theorem dX8_read_30 : decode cX8_read 30 = .ok (.iconst 0, 1) := by decide +kernel
theorem dX8_read_31 : decode cX8_read 31 = .ok (.putfield 170, 3) := by decide +kernel
theorem dX8_read_34 : decode cX8_read 34 = .ok (.aload_n 0, 1) := by decide +kernel
theorem dX8_read_35 : decode cX8_read 35 = .ok (.invokevirtual 187, 3) := by decide +kernel
theorem dX8_read_38 : decode cX8_read 38 = .ok (.aload_n 0, 1) := by decide +kernel
theorem dX8_read_39 : decode cX8_read 39 = .ok (.aload_n 0, 1) := by decide +kernel
theorem dX8_read_40 : decode cX8_read 40 = .ok (.bipush 111, 2) := by decide +kernel
theorem dX8_read_42 : decode cX8_read 42 = .ok (.bipush 100, 2) := by decide +kernel
theorem dX8_read_44 : decode cX8_read 44 = .ok (.bipush 100, 2) := by decide +kernel
theorem dX8_read_46 : decode cX8_read 46 = .ok (.bipush 115, 2) := by decide +kernel
theorem dX8_read_48 : decode cX8_read 48 = .ok (.iconst 0, 1) := by decide +kernel
theorem dX8_read_49 : decode cX8_read 49 = .ok (.iconst 0, 1) := by decide +kernel
theorem dX8_read_50 : decode cX8_read 50 = .ok (.iconst 0, 1) := by decide +kernel
theorem dX8_read_51 : decode cX8_read 51 = .ok (.iconst 0, 1) := by decide +kernel
theorem dX8_read_52 : decode cX8_read 52 = .ok (.invokevirtual 190, 3) := by decide +kernel
theorem dX8_read_55 : decode cX8_read 55 = .ok (.invokevirtual 245, 3) := by decide +kernel
theorem dX8_read_58 : decode cX8_read 58 = .ok (.istore_n 3, 1) := by decide +kernel
theorem dX8_read_59 : decode cX8_read 59 = .ok (.aload_n 0, 1) := by decide +kernel
theorem dX8_read_60 : decode cX8_read 60 = .ok (.getfield 170, 3) := by decide +kernel
theorem dX8_read_63 : decode cX8_read 63 = .ok (.ifCond .eq 7, 3) := by decide +kernel
theorem dX8_read_66 : decode cX8_read 66 = .ok (.iconst 0, 1) := by decide +kernel
theorem dX8_read_67 : decode cX8_read 67 = .ok (.goto 24, 3) := by decide +kernel
theorem dX8_read_70 : decode cX8_read 70 = .ok (.aload_n 0, 1) := by decide +kernel
theorem dX8_read_71 : decode cX8_read 71 = .ok (.aload_n 0, 1) := by decide +kernel
theorem dX8_read_72 : decode cX8_read 72 = .ok (.bipush 119, 2) := by decide +kernel
theorem dX8_read_74 : decode cX8_read 74 = .ok (.bipush 111, 2) := by decide +kernel
theorem dX8_read_76 : decode cX8_read 76 = .ok (.bipush 114, 2) := by decide +kernel
theorem dX8_read_78 : decode cX8_read 78 = .ok (.bipush 116, 2) := by decide +kernel
theorem dX8_read_80 : decode cX8_read 80 = .ok (.bipush 104, 2) := by decide +kernel
theorem dX8_read_82 : decode cX8_read 82 = .ok (.iconst 0, 1) := by decide +kernel
theorem dX8_read_83 : decode cX8_read 83 = .ok (.iconst 0, 1) := by decide +kernel
theorem dX8_read_84 : decode cX8_read 84 = .ok (.iconst 0, 1) := by decide +kernel
theorem dX8_read_85 : decode cX8_read 85 = .ok (.invokevirtual 190, 3) := by decide +kernel
theorem dX8_read_88 : decode cX8_read 88 = .ok (.invokevirtual 245, 3) := by decide +kernel
theorem dX8_read_91 : decode cX8_read 91 = .ok (.istore 4, 2) := by decide +kernel
theorem dX8_read_93 : decode cX8_read 93 = .ok (.aload_n 0, 1) := by decide +kernel
theorem dX8_read_94 : decode cX8_read 94 = .ok (.getfield 170, 3) := by decide +kernel
theorem dX8_read_97 : decode cX8_read 97 = .ok (.ifCond .eq 7, 3) := by decide +kernel
theorem dX8_read_100 : decode cX8_read 100 = .ok (.iconst 0, 1) := by decide +kernel
theorem dX8_read_101 : decode cX8_read 101 = .ok (.goto 24, 3) := by decide +kernel
theorem dX8_read_104 : decode cX8_read 104 = .ok (.aload_n 0, 1) := by decide +kernel
theorem dX8_read_105 : decode cX8_read 105 = .ok (.aload_n 0, 1) := by decide +kernel
theorem dX8_read_106 : decode cX8_read 106 = .ok (.bipush 109, 2) := by decide +kernel
theorem dX8_read_108 : decode cX8_read 108 = .ok (.bipush 105, 2) := by decide +kernel
theorem dX8_read_110 : decode cX8_read 110 = .ok (.bipush 110, 2) := by decide +kernel
theorem dX8_read_112 : decode cX8_read 112 = .ok (.bipush 100, 2) := by decide +kernel
theorem dX8_read_114 : decode cX8_read 114 = .ok (.bipush 115, 2) := by decide +kernel
theorem dX8_read_116 : decode cX8_read 116 = .ok (.iconst 0, 1) := by decide +kernel
theorem dX8_read_117 : decode cX8_read 117 = .ok (.iconst 0, 1) := by decide +kernel
theorem dX8_read_118 : decode cX8_read 118 = .ok (.iconst 0, 1) := by decide +kernel
theorem dX8_read_119 : decode cX8_read 119 = .ok (.invokevirtual 190, 3) := by decide +kernel
theorem dX8_read_122 : decode cX8_read 122 = .ok (.invokevirtual 245, 3) := by decide +kernel
theorem dX8_read_125 : decode cX8_read 125 = .ok (.istore 5, 2) := by decide +kernel
theorem dX8_read_127 : decode cX8_read 127 = .ok (.aload_n 0, 1) := by decide +kernel
theorem dX8_read_128 : decode cX8_read 128 = .ok (.getfield 170, 3) := by decide +kernel
theorem dX8_read_131 : decode cX8_read 131 = .ok (.ifCond .ne 14, 3) := by decide +kernel
theorem dX8_read_134 : decode cX8_read 134 = .ok (.aload_n 0, 1) := by decide +kernel
theorem dX8_read_135 : decode cX8_read 135 = .ok (.getfield 155, 3) := by decide +kernel
theorem dX8_read_138 : decode cX8_read 138 = .ok (.ifCond .eq 7, 3) := by decide +kernel
theorem dX8_read_141 : decode cX8_read 141 = .ok (.aload_n 0, 1) := by decide +kernel
theorem dX8_read_142 : decode cX8_read 142 = .ok (.invokevirtual 184, 3) := by decide +kernel
theorem dX8_read_145 : decode cX8_read 145 = .ok (.iload_n 2, 1) := by decide +kernel
theorem dX8_read_146 : decode cX8_read 146 = .ok (.ifCond .ne 7, 3) := by decide +kernel
theorem dX8_read_149 : decode cX8_read 149 = .ok (.iload_n 3, 1) := by decide +kernel
theorem dX8_read_150 : decode cX8_read 150 = .ok (.goto 15, 3) := by decide +kernel
theorem dX8_read_153 : decode cX8_read 153 = .ok (.iload_n 2, 1) := by decide +kernel
theorem dX8_read_154 : decode cX8_read 154 = .ok (.iconst 1, 1) := by decide +kernel
theorem dX8_read_155 : decode cX8_read 155 = .ok (.if_icmp .ne 8, 3) := by decide +kernel
theorem dX8_read_158 : decode cX8_read 158 = .ok (.iload 4, 2) := by decide +kernel
theorem dX8_read_160 : decode cX8_read 160 = .ok (.goto 5, 3) := by decide +kernel
theorem dX8_read_163 : decode cX8_read 163 = .ok (.iload 5, 2) := by decide +kernel
theorem dX8_read_165 : decode cX8_read 165 = .ok (.ireturn, 1) := by decide +kernel
theorem dX8_text_0 : decode cX8_text 0 = .ok (.aload_n 0, 1) := by decide +kernel
theorem dX8_text_1 : decode cX8_text 1 = .ok (.getfield 100, 3) := by decide +kernel
theorem dX8_text_4 : decode cX8_text 4 = .ok (.bipush 6, 2) := by decide +kernel
theorem dX8_text_6 : decode cX8_text 6 = .ok (.if_icmp .ne 6, 3) := by decide +kernel
theorem dX8_text_9 : decode cX8_text 9 = .ok (.bipush (-4), 2) := by decide +kernel
theorem dX8_text_11 : decode cX8_text 11 = .ok (.ireturn, 1) := by decide +kernel
theorem dX8_text_12 : decode cX8_text 12 = .ok (.iconst 0, 1) := by decide +kernel
theorem dX8_text_13 : decode cX8_text 13 = .ok (.istore_n 1, 1) := by decide +kernel
theorem dX8_text_14 : decode cX8_text 14 = .ok (.iload_n 1, 1) := by decide +kernel
theorem dX8_text_15 : decode cX8_text 15 = .ok (.aload_n 0, 1) := by decide +kernel
theorem dX8_text_16 : decode cX8_text 16 = .ok (.getfield 137, 3) := by decide +kernel
theorem dX8_text_19 : decode cX8_text 19 = .ok (.if_icmp .ge 30, 3) := by decide +kernel
theorem dX8_text_22 : decode cX8_text 22 = .ok (.aload_n 0, 1) := by decide +kernel
theorem dX8_text_23 : decode cX8_text 23 = .ok (.getfield 13, 3) := by decide +kernel
theorem dX8_text_26 : decode cX8_text 26 = .ok (.sipush 160, 3) := by decide +kernel
theorem dX8_text_29 : decode cX8_text 29 = .ok (.aload_n 0, 1) := by decide +kernel
theorem dX8_text_30 : decode cX8_text 30 = .ok (.getfield 100, 3) := by decide +kernel
theorem dX8_text_33 : decode cX8_text 33 = .ok (.imul, 1) := by decide +kernel
theorem dX8_text_34 : decode cX8_text 34 = .ok (.iload_n 1, 1) := by decide +kernel
theorem dX8_text_35 : decode cX8_text 35 = .ok (.iadd, 1) := by decide +kernel
theorem dX8_text_36 : decode cX8_text 36 = .ok (.aload_n 0, 1) := by decide +kernel
theorem dX8_text_37 : decode cX8_text 37 = .ok (.getfield 20, 3) := by decide +kernel
theorem dX8_text_40 : decode cX8_text 40 = .ok (.iload_n 1, 1) := by decide +kernel
theorem dX8_text_41 : decode cX8_text 41 = .ok (.iaload, 1) := by decide +kernel
theorem dX8_text_42 : decode cX8_text 42 = .ok (.iastore, 1) := by decide +kernel
theorem dX8_text_43 : decode cX8_text 43 = .ok (.iinc 1 1, 3) := by decide +kernel
theorem dX8_text_46 : decode cX8_text 46 = .ok (.goto (-32), 3) := by decide +kernel
theorem dX8_text_49 : decode cX8_text 49 = .ok (.aload_n 0, 1) := by decide +kernel
theorem dX8_text_50 : decode cX8_text 50 = .ok (.getfield 17, 3) := by decide +kernel
theorem dX8_text_53 : decode cX8_text 53 = .ok (.aload_n 0, 1) := by decide +kernel
theorem dX8_text_54 : decode cX8_text 54 = .ok (.getfield 100, 3) := by decide +kernel
theorem dX8_text_57 : decode cX8_text 57 = .ok (.aload_n 0, 1) := by decide +kernel
theorem dX8_text_58 : decode cX8_text 58 = .ok (.getfield 137, 3) := by decide +kernel
theorem dX8_text_61 : decode cX8_text 61 = .ok (.iastore, 1) := by decide +kernel
theorem dX8_text_62 : decode cX8_text 62 = .ok (.aload_n 0, 1) := by decide +kernel
theorem dX8_text_63 : decode cX8_text 63 = .ok (.iconst 0, 1) := by decide +kernel
theorem dX8_text_64 : decode cX8_text 64 = .ok (.putfield 137, 3) := by decide +kernel
theorem dX8_text_67 : decode cX8_text 67 = .ok (.aload_n 0, 1) := by decide +kernel
theorem dX8_text_68 : decode cX8_text 68 = .ok (.aload_n 0, 1) := by decide +kernel
theorem dX8_text_69 : decode cX8_text 69 = .ok (.getfield 100, 3) := by decide +kernel
theorem dX8_text_72 : decode cX8_text 72 = .ok (.iconst 0, 1) := by decide +kernel
theorem dX8_text_73 : decode cX8_text 73 = .ok (.invokevirtual 249, 3) := by decide +kernel
theorem dX8_text_76 : decode cX8_text 76 = .ok (.istore_n 1, 1) := by decide +kernel
theorem dX8_text_77 : decode cX8_text 77 = .ok (.aload_n 0, 1) := by decide +kernel
theorem dX8_text_78 : decode cX8_text 78 = .ok (.getfield 170, 3) := by decide +kernel
theorem dX8_text_81 : decode cX8_text 81 = .ok (.ifCond .eq 11, 3) := by decide +kernel
theorem dX8_text_84 : decode cX8_text 84 = .ok (.bipush (-100), 2) := by decide +kernel
theorem dX8_text_86 : decode cX8_text 86 = .ok (.aload_n 0, 1) := by decide +kernel
theorem dX8_text_87 : decode cX8_text 87 = .ok (.getfield 174, 3) := by decide +kernel
theorem dX8_text_90 : decode cX8_text 90 = .ok (.isub, 1) := by decide +kernel
theorem dX8_text_91 : decode cX8_text 91 = .ok (.ireturn, 1) := by decide +kernel
theorem dX8_text_92 : decode cX8_text 92 = .ok (.aload_n 0, 1) := by decide +kernel
theorem dX8_text_93 : decode cX8_text 93 = .ok (.dup, 1) := by decide +kernel
theorem dX8_text_94 : decode cX8_text 94 = .ok (.getfield 100, 3) := by decide +kernel
theorem dX8_text_97 : decode cX8_text 97 = .ok (.iconst 1, 1) := by decide +kernel
theorem dX8_text_98 : decode cX8_text 98 = .ok (.iadd, 1) := by decide +kernel
theorem dX8_text_99 : decode cX8_text 99 = .ok (.putfield 100, 3) := by decide +kernel
theorem dX8_text_102 : decode cX8_text 102 = .ok (.aload_n 0, 1) := by decide +kernel
theorem dX8_text_103 : decode cX8_text 103 = .ok (.getfield 100, 3) := by decide +kernel
theorem dX8_text_106 : decode cX8_text 106 = .ok (.iconst 1, 1) := by decide +kernel
theorem dX8_text_107 : decode cX8_text 107 = .ok (.isub, 1) := by decide +kernel
theorem dX8_text_108 : decode cX8_text 108 = .ok (.ireturn, 1) := by decide +kernel
theorem dX8_force_0 : decode cX8_force 0 = .ok (.iload_n 1, 1) := by decide +kernel
theorem dX8_force_1 : decode cX8_force 1 = .ok (.i2l, 1) := by decide +kernel
theorem dX8_force_2 : decode cX8_force 2 = .ok (.lconst 0, 1) := by decide +kernel
theorem dX8_force_3 : decode cX8_force 3 = .ok (.aload_n 0, 1) := by decide +kernel
theorem dX8_force_4 : decode cX8_force 4 = .ok (.getfield 100, 3) := by decide +kernel
theorem dX8_force_7 : decode cX8_force 7 = .ok (.iconst 1, 1) := by decide +kernel
theorem dX8_force_8 : decode cX8_force 8 = .ok (.isub, 1) := by decide +kernel
theorem dX8_force_9 : decode cX8_force 9 = .ok (.i2l, 1) := by decide +kernel
theorem dX8_force_10 : decode cX8_force 10 = .ok (.invokestatic 106, 3) := by decide +kernel
theorem dX8_force_13 : decode cX8_force 13 = .ok (.ifCond .ne 6, 3) := by decide +kernel
theorem dX8_force_16 : decode cX8_force 16 = .ok (.bipush (-2), 2) := by decide +kernel
theorem dX8_force_18 : decode cX8_force 18 = .ok (.ireturn, 1) := by decide +kernel
theorem dX8_force_19 : decode cX8_force 19 = .ok (.aload_n 0, 1) := by decide +kernel
theorem dX8_force_20 : decode cX8_force 20 = .ok (.getfield 252, 3) := by decide +kernel
theorem dX8_force_23 : decode cX8_force 23 = .ok (.istore_n 2, 1) := by decide +kernel
theorem dX8_force_24 : decode cX8_force 24 = .ok (.aload_n 0, 1) := by decide +kernel
theorem dX8_force_25 : decode cX8_force 25 = .ok (.iload_n 1, 1) := by decide +kernel
theorem dX8_force_26 : decode cX8_force 26 = .ok (.putfield 252, 3) := by decide +kernel
theorem dX8_force_29 : decode cX8_force 29 = .ok (.iload_n 2, 1) := by decide +kernel
theorem dX8_force_30 : decode cX8_force 30 = .ok (.ireturn, 1) := by decide +kernel
theorem dX8_says_0 : decode cX8_says 0 = .ok (.iload_n 2, 1) := by decide +kernel
theorem dX8_says_1 : decode cX8_says 1 = .ok (.iload_n 3, 1) := by decide +kernel
theorem dX8_says_2 : decode cX8_says 2 = .ok (.if_icmp .ge 7, 3) := by decide +kernel
theorem dX8_says_5 : decode cX8_says 5 = .ok (.iload_n 2, 1) := by decide +kernel
theorem dX8_says_6 : decode cX8_says 6 = .ok (.goto 4, 3) := by decide +kernel
theorem dX8_says_9 : decode cX8_says 9 = .ok (.iload_n 3, 1) := by decide +kernel
theorem dX8_says_10 : decode cX8_says 10 = .ok (.istore 5, 2) := by decide +kernel
theorem dX8_says_12 : decode cX8_says 12 = .ok (.iload_n 2, 1) := by decide +kernel
theorem dX8_says_13 : decode cX8_says 13 = .ok (.iload_n 3, 1) := by decide +kernel
theorem dX8_says_14 : decode cX8_says 14 = .ok (.if_icmp .ge 7, 3) := by decide +kernel
theorem dX8_says_17 : decode cX8_says 17 = .ok (.iload_n 3, 1) := by decide +kernel
theorem dX8_says_18 : decode cX8_says 18 = .ok (.goto 4, 3) := by decide +kernel
theorem dX8_says_21 : decode cX8_says 21 = .ok (.iload_n 2, 1) := by decide +kernel
theorem dX8_says_22 : decode cX8_says 22 = .ok (.istore 6, 2) := by decide +kernel
theorem dX8_says_24 : decode cX8_says 24 = .ok (.aload_n 0, 1) := by decide +kernel
theorem dX8_says_25 : decode cX8_says 25 = .ok (.iload 5, 2) := by decide +kernel
theorem dX8_says_27 : decode cX8_says 27 = .ok (.putfield 194, 3) := by decide +kernel
theorem dX8_says_30 : decode cX8_says 30 = .ok (.aload_n 0, 1) := by decide +kernel
theorem dX8_says_31 : decode cX8_says 31 = .ok (.iload 6, 2) := by decide +kernel
theorem dX8_says_33 : decode cX8_says 33 = .ok (.putfield 197, 3) := by decide +kernel
theorem dX8_says_36 : decode cX8_says 36 = .ok (.aload_n 0, 1) := by decide +kernel
theorem dX8_says_37 : decode cX8_says 37 = .ok (.aload_n 0, 1) := by decide +kernel
theorem dX8_says_38 : decode cX8_says 38 = .ok (.getfield 26, 3) := by decide +kernel
theorem dX8_says_41 : decode cX8_says 41 = .ok (.iload_n 2, 1) := by decide +kernel
theorem dX8_says_42 : decode cX8_says 42 = .ok (.iaload, 1) := by decide +kernel
theorem dX8_says_43 : decode cX8_says 43 = .ok (.aload_n 0, 1) := by decide +kernel
theorem dX8_says_44 : decode cX8_says 44 = .ok (.getfield 26, 3) := by decide +kernel
theorem dX8_says_47 : decode cX8_says 47 = .ok (.iload_n 3, 1) := by decide +kernel
theorem dX8_says_48 : decode cX8_says 48 = .ok (.iaload, 1) := by decide +kernel
theorem dX8_says_49 : decode cX8_says 49 = .ok (.invokestatic 255, 3) := by decide +kernel
theorem dX8_says_52 : decode cX8_says 52 = .ok (.putfield 200, 3) := by decide +kernel
theorem dX8_says_55 : decode cX8_says 55 = .ok (.aload_n 0, 1) := by decide +kernel
theorem dX8_says_56 : decode cX8_says 56 = .ok (.iload 4, 2) := by decide +kernel
theorem dX8_says_58 : decode cX8_says 58 = .ok (.putfield 203, 3) := by decide +kernel
theorem dX8_says_61 : decode cX8_says 61 = .ok (.aload_n 0, 1) := by decide +kernel
theorem dX8_says_62 : decode cX8_says 62 = .ok (.aload_n 0, 1) := by decide +kernel
theorem dX8_says_63 : decode cX8_says 63 = .ok (.getfield 103, 3) := by decide +kernel
theorem dX8_says_66 : decode cX8_says 66 = .ok (.putfield 206, 3) := by decide +kernel
theorem dX8_says_69 : decode cX8_says 69 = .ok (.aload_n 0, 1) := by decide +kernel
theorem dX8_says_70 : decode cX8_says 70 = .ok (.aload_n 0, 1) := by decide +kernel
theorem dX8_says_71 : decode cX8_says 71 = .ok (.iload 5, 2) := by decide +kernel
theorem dX8_says_73 : decode cX8_says 73 = .ok (.invokevirtual 127, 3) := by decide +kernel
theorem dX8_says_76 : decode cX8_says 76 = .ok (.putfield 209, 3) := by decide +kernel
theorem dX8_says_79 : decode cX8_says 79 = .ok (.aload_n 0, 1) := by decide +kernel
theorem dX8_says_80 : decode cX8_says 80 = .ok (.aload_n 0, 1) := by decide +kernel
theorem dX8_says_81 : decode cX8_says 81 = .ok (.getfield 252, 3) := by decide +kernel
theorem dX8_says_84 : decode cX8_says 84 = .ok (.iload_n 1, 1) := by decide +kernel
theorem dX8_says_85 : decode cX8_says 85 = .ok (.invokevirtual 249, 3) := by decide +kernel
theorem dX8_says_88 : decode cX8_says 88 = .ok (.iload_n 1, 1) := by decide +kernel
theorem dX8_says_89 : decode cX8_says 89 = .ok (.iconst 1, 1) := by decide +kernel
theorem dX8_says_90 : decode cX8_says 90 = .ok (.if_icmp .ne 8, 3) := by decide +kernel
theorem dX8_says_93 : decode cX8_says 93 = .ok (.bipush (-99), 2) := by decide +kernel
theorem dX8_says_95 : decode cX8_says 95 = .ok (.goto 4, 3) := by decide +kernel
theorem dX8_says_98 : decode cX8_says 98 = .ok (.iconst 0, 1) := by decide +kernel
theorem dX8_says_99 : decode cX8_says 99 = .ok (.bipush 99, 2) := by decide +kernel
theorem dX8_says_101 : decode cX8_says 101 = .ok (.invokestatic 258, 3) := by decide +kernel
theorem dX8_says_104 : decode cX8_says 104 = .ok (.ireturn, 1) := by decide +kernel
theorem dX8_told2_0 : decode cX8_told2 0 = .ok (.aload_n 0, 1) := by decide +kernel
theorem dX8_told2_1 : decode cX8_told2 1 = .ok (.iload_n 1, 1) := by decide +kernel
theorem dX8_told2_2 : decode cX8_told2 2 = .ok (.iload_n 2, 1) := by decide +kernel
theorem dX8_told2_3 : decode cX8_told2 3 = .ok (.iload_n 3, 1) := by decide +kernel
theorem dX8_told2_4 : decode cX8_told2 4 = .ok (.aload_n 0, 1) := by decide +kernel
theorem dX8_told2_5 : decode cX8_told2 5 = .ok (.iload_n 2, 1) := by decide +kernel
theorem dX8_told2_6 : decode cX8_told2 6 = .ok (.invokevirtual 127, 3) := by decide +kernel
theorem dX8_told2_9 : decode cX8_told2 9 = .ok (.aload_n 0, 1) := by decide +kernel
theorem dX8_told2_10 : decode cX8_told2 10 = .ok (.iload_n 3, 1) := by decide +kernel
theorem dX8_told2_11 : decode cX8_told2 11 = .ok (.invokevirtual 127, 3) := by decide +kernel
theorem dX8_told2_14 : decode cX8_told2 14 = .ok (.invokestatic 255, 3) := by decide +kernel
theorem dX8_told2_17 : decode cX8_told2 17 = .ok (.invokevirtual 262, 3) := by decide +kernel
theorem dX8_told2_20 : decode cX8_told2 20 = .ok (.ireturn, 1) := by decide +kernel
theorem dX8_asks_0 : decode cX8_asks 0 = .ok (.aload_n 0, 1) := by decide +kernel
theorem dX8_asks_1 : decode cX8_asks 1 = .ok (.iload_n 1, 1) := by decide +kernel
theorem dX8_asks_2 : decode cX8_asks 2 = .ok (.invokevirtual 119, 3) := by decide +kernel
theorem dX8_asks_5 : decode cX8_asks 5 = .ok (.ifCond .eq 38, 3) := by decide +kernel
theorem dX8_asks_8 : decode cX8_asks 8 = .ok (.aload_n 0, 1) := by decide +kernel
theorem dX8_asks_9 : decode cX8_asks 9 = .ok (.iload_n 2, 1) := by decide +kernel
theorem dX8_asks_10 : decode cX8_asks 10 = .ok (.invokevirtual 119, 3) := by decide +kernel
theorem dX8_asks_13 : decode cX8_asks 13 = .ok (.ifCond .eq 30, 3) := by decide +kernel
theorem dX8_asks_16 : decode cX8_asks 16 = .ok (.iload_n 1, 1) := by decide +kernel
theorem dX8_asks_17 : decode cX8_asks 17 = .ok (.iload_n 2, 1) := by decide +kernel
theorem dX8_asks_18 : decode cX8_asks 18 = .ok (.if_icmp .eq 25, 3) := by decide +kernel
theorem dX8_asks_21 : decode cX8_asks 21 = .ok (.iload_n 3, 1) := by decide +kernel
theorem dX8_asks_22 : decode cX8_asks 22 = .ok (.i2l, 1) := by decide +kernel
theorem dX8_asks_23 : decode cX8_asks 23 = .ok (.lconst 0, 1) := by decide +kernel
theorem dX8_asks_24 : decode cX8_asks 24 = .ok (.ldc2_w 123, 3) := by decide +kernel
theorem dX8_asks_27 : decode cX8_asks 27 = .ok (.invokestatic 106, 3) := by decide +kernel
theorem dX8_asks_30 : decode cX8_asks 30 = .ok (.ifCond .eq 13, 3) := by decide +kernel
theorem dX8_asks_33 : decode cX8_asks 33 = .ok (.aload_n 0, 1) := by decide +kernel
theorem dX8_asks_34 : decode cX8_asks 34 = .ok (.iload_n 3, 1) := by decide +kernel
theorem dX8_asks_35 : decode cX8_asks 35 = .ok (.iload_n 1, 1) := by decide +kernel
theorem dX8_asks_36 : decode cX8_asks 36 = .ok (.iload_n 2, 1) := by decide +kernel
theorem dX8_asks_37 : decode cX8_asks 37 = .ok (.invokevirtual 266, 3) := by decide +kernel
theorem dX8_asks_40 : decode cX8_asks 40 = .ok (.goto 6, 3) := by decide +kernel
theorem dX8_asks_43 : decode cX8_asks 43 = .ok (.ldc_w 269, 3) := by decide +kernel
theorem dX8_asks_46 : decode cX8_asks 46 = .ok (.ireturn, 1) := by decide +kernel
theorem dX8_swap_0 : decode cX8_swap 0 = .ok (.aload_n 0, 1) := by decide +kernel
theorem dX8_swap_1 : decode cX8_swap 1 = .ok (.getfield 35, 3) := by decide +kernel
theorem dX8_swap_4 : decode cX8_swap 4 = .ok (.iload_n 1, 1) := by decide +kernel
theorem dX8_swap_5 : decode cX8_swap 5 = .ok (.iaload, 1) := by decide +kernel
theorem dX8_swap_6 : decode cX8_swap 6 = .ok (.istore_n 2, 1) := by decide +kernel
theorem dX8_swap_7 : decode cX8_swap 7 = .ok (.aload_n 0, 1) := by decide +kernel
theorem dX8_swap_8 : decode cX8_swap 8 = .ok (.getfield 35, 3) := by decide +kernel
theorem dX8_swap_11 : decode cX8_swap 11 = .ok (.iload_n 1, 1) := by decide +kernel
theorem dX8_swap_12 : decode cX8_swap 12 = .ok (.aload_n 0, 1) := by decide +kernel
theorem dX8_swap_13 : decode cX8_swap 13 = .ok (.getfield 35, 3) := by decide +kernel
theorem dX8_swap_16 : decode cX8_swap 16 = .ok (.iload_n 1, 1) := by decide +kernel
theorem dX8_swap_17 : decode cX8_swap 17 = .ok (.iconst 1, 1) := by decide +kernel
theorem dX8_swap_18 : decode cX8_swap 18 = .ok (.iadd, 1) := by decide +kernel
theorem dX8_swap_19 : decode cX8_swap 19 = .ok (.iaload, 1) := by decide +kernel
theorem dX8_swap_20 : decode cX8_swap 20 = .ok (.iastore, 1) := by decide +kernel
theorem dX8_swap_21 : decode cX8_swap 21 = .ok (.aload_n 0, 1) := by decide +kernel
theorem dX8_swap_22 : decode cX8_swap 22 = .ok (.getfield 35, 3) := by decide +kernel
theorem dX8_swap_25 : decode cX8_swap 25 = .ok (.iload_n 1, 1) := by decide +kernel
theorem dX8_swap_26 : decode cX8_swap 26 = .ok (.iconst 1, 1) := by decide +kernel
theorem dX8_swap_27 : decode cX8_swap 27 = .ok (.iadd, 1) := by decide +kernel
theorem dX8_swap_28 : decode cX8_swap 28 = .ok (.iload_n 2, 1) := by decide +kernel
theorem dX8_swap_29 : decode cX8_swap 29 = .ok (.iastore, 1) := by decide +kernel
theorem dX8_swap_30 : decode cX8_swap 30 = .ok (.return_, 1) := by decide +kernel
theorem dX8_cross_0 : decode cX8_cross 0 = .ok (.iload_n 1, 1) := by decide +kernel
theorem dX8_cross_1 : decode cX8_cross 1 = .ok (.i2l, 1) := by decide +kernel
theorem dX8_cross_2 : decode cX8_cross 2 = .ok (.lconst 0, 1) := by decide +kernel
theorem dX8_cross_3 : decode cX8_cross 3 = .ok (.aload_n 0, 1) := by decide +kernel
theorem dX8_cross_4 : decode cX8_cross 4 = .ok (.getfield 103, 3) := by decide +kernel
theorem dX8_cross_7 : decode cX8_cross 7 = .ok (.iconst 2, 1) := by decide +kernel
theorem dX8_cross_8 : decode cX8_cross 8 = .ok (.isub, 1) := by decide +kernel
theorem dX8_cross_9 : decode cX8_cross 9 = .ok (.i2l, 1) := by decide +kernel
theorem dX8_cross_10 : decode cX8_cross 10 = .ok (.invokestatic 106, 3) := by decide +kernel
theorem dX8_cross_13 : decode cX8_cross 13 = .ok (.ifCond .eq 13, 3) := by decide +kernel
theorem dX8_cross_16 : decode cX8_cross 16 = .ok (.iload_n 2, 1) := by decide +kernel
theorem dX8_cross_17 : decode cX8_cross 17 = .ok (.i2l, 1) := by decide +kernel
theorem dX8_cross_18 : decode cX8_cross 18 = .ok (.lconst 0, 1) := by decide +kernel
theorem dX8_cross_19 : decode cX8_cross 19 = .ok (.lconst 1, 1) := by decide +kernel
theorem dX8_cross_20 : decode cX8_cross 20 = .ok (.invokestatic 106, 3) := by decide +kernel
theorem dX8_cross_23 : decode cX8_cross 23 = .ok (.ifCond .ne 6, 3) := by decide +kernel
theorem dX8_cross_26 : decode cX8_cross 26 = .ok (.bipush (-2), 2) := by decide +kernel
theorem dX8_cross_28 : decode cX8_cross 28 = .ok (.ireturn, 1) := by decide +kernel
theorem dX8_cross_29 : decode cX8_cross 29 = .ok (.aload_n 0, 1) := by decide +kernel
theorem dX8_cross_30 : decode cX8_cross 30 = .ok (.getfield 116, 3) := by decide +kernel
theorem dX8_cross_33 : decode cX8_cross 33 = .ok (.bipush 40, 2) := by decide +kernel
theorem dX8_cross_35 : decode cX8_cross 35 = .ok (.if_icmp .ne 6, 3) := by decide +kernel
theorem dX8_cross_38 : decode cX8_cross 38 = .ok (.bipush (-4), 2) := by decide +kernel
theorem dX8_cross_40 : decode cX8_cross 40 = .ok (.ireturn, 1) := by decide +kernel
theorem dX8_cross_41 : decode cX8_cross 41 = .ok (.aload_n 0, 1) := by decide +kernel
theorem dX8_cross_42 : decode cX8_cross 42 = .ok (.iload_n 1, 1) := by decide +kernel
theorem dX8_cross_43 : decode cX8_cross 43 = .ok (.invokevirtual 270, 3) := by decide +kernel
theorem dX8_cross_46 : decode cX8_cross 46 = .ok (.aload_n 0, 1) := by decide +kernel
theorem dX8_cross_47 : decode cX8_cross 47 = .ok (.getfield 38, 3) := by decide +kernel
theorem dX8_cross_50 : decode cX8_cross 50 = .ok (.aload_n 0, 1) := by decide +kernel
theorem dX8_cross_51 : decode cX8_cross 51 = .ok (.getfield 116, 3) := by decide +kernel
theorem dX8_cross_54 : decode cX8_cross 54 = .ok (.iload_n 1, 1) := by decide +kernel
theorem dX8_cross_55 : decode cX8_cross 55 = .ok (.iastore, 1) := by decide +kernel
theorem dX8_cross_56 : decode cX8_cross 56 = .ok (.aload_n 0, 1) := by decide +kernel
theorem dX8_cross_57 : decode cX8_cross 57 = .ok (.getfield 41, 3) := by decide +kernel
theorem dX8_cross_60 : decode cX8_cross 60 = .ok (.aload_n 0, 1) := by decide +kernel
theorem dX8_cross_61 : decode cX8_cross 61 = .ok (.getfield 116, 3) := by decide +kernel
theorem dX8_cross_64 : decode cX8_cross 64 = .ok (.iload_n 2, 1) := by decide +kernel
theorem dX8_cross_65 : decode cX8_cross 65 = .ok (.iastore, 1) := by decide +kernel
theorem dX8_cross_66 : decode cX8_cross 66 = .ok (.aload_n 0, 1) := by decide +kernel
theorem dX8_cross_67 : decode cX8_cross 67 = .ok (.dup, 1) := by decide +kernel
theorem dX8_cross_68 : decode cX8_cross 68 = .ok (.getfield 116, 3) := by decide +kernel
theorem dX8_cross_71 : decode cX8_cross 71 = .ok (.iconst 1, 1) := by decide +kernel
theorem dX8_cross_72 : decode cX8_cross 72 = .ok (.iadd, 1) := by decide +kernel
theorem dX8_cross_73 : decode cX8_cross 73 = .ok (.putfield 116, 3) := by decide +kernel
theorem dX8_cross_76 : decode cX8_cross 76 = .ok (.aload_n 0, 1) := by decide +kernel
theorem dX8_cross_77 : decode cX8_cross 77 = .ok (.getfield 116, 3) := by decide +kernel
theorem dX8_cross_80 : decode cX8_cross 80 = .ok (.ireturn, 1) := by decide +kernel
theorem dX8_undo_0 : decode cX8_undo 0 = .ok (.aload_n 0, 1) := by decide +kernel
theorem dX8_undo_1 : decode cX8_undo 1 = .ok (.getfield 116, 3) := by decide +kernel
theorem dX8_undo_4 : decode cX8_undo 4 = .ok (.ifCond .ne 6, 3) := by decide +kernel
theorem dX8_undo_7 : decode cX8_undo 7 = .ok (.bipush (-3), 2) := by decide +kernel
theorem dX8_undo_9 : decode cX8_undo 9 = .ok (.ireturn, 1) := by decide +kernel
theorem dX8_undo_10 : decode cX8_undo 10 = .ok (.aload_n 0, 1) := by decide +kernel
theorem dX8_undo_11 : decode cX8_undo 11 = .ok (.dup, 1) := by decide +kernel
theorem dX8_undo_12 : decode cX8_undo 12 = .ok (.getfield 116, 3) := by decide +kernel
theorem dX8_undo_15 : decode cX8_undo 15 = .ok (.iconst 1, 1) := by decide +kernel
theorem dX8_undo_16 : decode cX8_undo 16 = .ok (.isub, 1) := by decide +kernel
theorem dX8_undo_17 : decode cX8_undo 17 = .ok (.putfield 116, 3) := by decide +kernel
theorem dX8_undo_20 : decode cX8_undo 20 = .ok (.aload_n 0, 1) := by decide +kernel
theorem dX8_undo_21 : decode cX8_undo 21 = .ok (.aload_n 0, 1) := by decide +kernel
theorem dX8_undo_22 : decode cX8_undo 22 = .ok (.getfield 38, 3) := by decide +kernel
theorem dX8_undo_25 : decode cX8_undo 25 = .ok (.aload_n 0, 1) := by decide +kernel
theorem dX8_undo_26 : decode cX8_undo 26 = .ok (.getfield 116, 3) := by decide +kernel
theorem dX8_undo_29 : decode cX8_undo 29 = .ok (.iaload, 1) := by decide +kernel
theorem dX8_undo_30 : decode cX8_undo 30 = .ok (.invokevirtual 270, 3) := by decide +kernel
theorem dX8_undo_33 : decode cX8_undo 33 = .ok (.aload_n 0, 1) := by decide +kernel
theorem dX8_undo_34 : decode cX8_undo 34 = .ok (.getfield 116, 3) := by decide +kernel
theorem dX8_undo_37 : decode cX8_undo 37 = .ok (.ireturn, 1) := by decide +kernel
theorem dX8_comes_0 : decode cX8_comes 0 = .ok (.aload_n 0, 1) := by decide +kernel
theorem dX8_comes_1 : decode cX8_comes 1 = .ok (.getfield 274, 3) := by decide +kernel
theorem dX8_comes_4 : decode cX8_comes 4 = .ok (.iconst 1, 1) := by decide +kernel
theorem dX8_comes_5 : decode cX8_comes 5 = .ok (.isub, 1) := by decide +kernel
theorem dX8_comes_6 : decode cX8_comes 6 = .ok (.istore 4, 2) := by decide +kernel
theorem dX8_comes_8 : decode cX8_comes 8 = .ok (.iload 4, 2) := by decide +kernel
theorem dX8_comes_10 : decode cX8_comes 10 = .ok (.ifCond .lt 24, 3) := by decide +kernel
theorem dX8_comes_13 : decode cX8_comes 13 = .ok (.aload_n 0, 1) := by decide +kernel
theorem dX8_comes_14 : decode cX8_comes 14 = .ok (.getfield 44, 3) := by decide +kernel
theorem dX8_comes_17 : decode cX8_comes 17 = .ok (.iload 4, 2) := by decide +kernel
theorem dX8_comes_19 : decode cX8_comes 19 = .ok (.iaload, 1) := by decide +kernel
theorem dX8_comes_20 : decode cX8_comes 20 = .ok (.iload_n 1, 1) := by decide +kernel
theorem dX8_comes_21 : decode cX8_comes 21 = .ok (.invokestatic 255, 3) := by decide +kernel
theorem dX8_comes_24 : decode cX8_comes 24 = .ok (.iconst 1, 1) := by decide +kernel
theorem dX8_comes_25 : decode cX8_comes 25 = .ok (.if_icmp .le 9, 3) := by decide +kernel
theorem dX8_comes_28 : decode cX8_comes 28 = .ok (.iinc 4 (-1), 3) := by decide +kernel
theorem dX8_comes_31 : decode cX8_comes 31 = .ok (.goto (-23), 3) := by decide +kernel
theorem dX8_comes_34 : decode cX8_comes 34 = .ok (.iload 4, 2) := by decide +kernel
theorem dX8_comes_36 : decode cX8_comes 36 = .ok (.ifCond .lt 105, 3) := by decide +kernel
theorem dX8_comes_39 : decode cX8_comes 39 = .ok (.aload_n 0, 1) := by decide +kernel
theorem dX8_comes_40 : decode cX8_comes 40 = .ok (.getfield 44, 3) := by decide +kernel
theorem dX8_comes_43 : decode cX8_comes 43 = .ok (.iload 4, 2) := by decide +kernel
theorem dX8_comes_45 : decode cX8_comes 45 = .ok (.iaload, 1) := by decide +kernel
theorem dX8_comes_46 : decode cX8_comes 46 = .ok (.iload_n 1, 1) := by decide +kernel
theorem dX8_comes_47 : decode cX8_comes 47 = .ok (.if_icmp .ne 94, 3) := by decide +kernel
theorem dX8_comes_50 : decode cX8_comes 50 = .ok (.aload_n 0, 1) := by decide +kernel
theorem dX8_comes_51 : decode cX8_comes 51 = .ok (.getfield 47, 3) := by decide +kernel
theorem dX8_comes_54 : decode cX8_comes 54 = .ok (.iload 4, 2) := by decide +kernel
theorem dX8_comes_56 : decode cX8_comes 56 = .ok (.iaload, 1) := by decide +kernel
theorem dX8_comes_57 : decode cX8_comes 57 = .ok (.iload_n 2, 1) := by decide +kernel
theorem dX8_comes_58 : decode cX8_comes 58 = .ok (.if_icmp .eq 83, 3) := by decide +kernel
theorem dX8_comes_61 : decode cX8_comes 61 = .ok (.iload 4, 2) := by decide +kernel
theorem dX8_comes_63 : decode cX8_comes 63 = .ok (.iconst 1, 1) := by decide +kernel
theorem dX8_comes_64 : decode cX8_comes 64 = .ok (.iadd, 1) := by decide +kernel
theorem dX8_comes_65 : decode cX8_comes 65 = .ok (.istore 5, 2) := by decide +kernel
theorem dX8_comes_67 : decode cX8_comes 67 = .ok (.iload 5, 2) := by decide +kernel
theorem dX8_comes_69 : decode cX8_comes 69 = .ok (.aload_n 0, 1) := by decide +kernel
theorem dX8_comes_70 : decode cX8_comes 70 = .ok (.getfield 274, 3) := by decide +kernel
theorem dX8_comes_73 : decode cX8_comes 73 = .ok (.if_icmp .ge 57, 3) := by decide +kernel
theorem dX8_comes_76 : decode cX8_comes 76 = .ok (.aload_n 0, 1) := by decide +kernel
theorem dX8_comes_77 : decode cX8_comes 77 = .ok (.getfield 44, 3) := by decide +kernel
theorem dX8_comes_80 : decode cX8_comes 80 = .ok (.iload 5, 2) := by decide +kernel
theorem dX8_comes_82 : decode cX8_comes 82 = .ok (.iconst 1, 1) := by decide +kernel
theorem dX8_comes_83 : decode cX8_comes 83 = .ok (.isub, 1) := by decide +kernel
theorem dX8_comes_84 : decode cX8_comes 84 = .ok (.aload_n 0, 1) := by decide +kernel
theorem dX8_comes_85 : decode cX8_comes 85 = .ok (.getfield 44, 3) := by decide +kernel
theorem dX8_comes_88 : decode cX8_comes 88 = .ok (.iload 5, 2) := by decide +kernel
theorem dX8_comes_90 : decode cX8_comes 90 = .ok (.iaload, 1) := by decide +kernel
theorem dX8_comes_91 : decode cX8_comes 91 = .ok (.iastore, 1) := by decide +kernel
theorem dX8_comes_92 : decode cX8_comes 92 = .ok (.aload_n 0, 1) := by decide +kernel
theorem dX8_comes_93 : decode cX8_comes 93 = .ok (.getfield 47, 3) := by decide +kernel
theorem dX8_comes_96 : decode cX8_comes 96 = .ok (.iload 5, 2) := by decide +kernel
theorem dX8_comes_98 : decode cX8_comes 98 = .ok (.iconst 1, 1) := by decide +kernel
theorem dX8_comes_99 : decode cX8_comes 99 = .ok (.isub, 1) := by decide +kernel
theorem dX8_comes_100 : decode cX8_comes 100 = .ok (.aload_n 0, 1) := by decide +kernel
theorem dX8_comes_101 : decode cX8_comes 101 = .ok (.getfield 47, 3) := by decide +kernel
theorem dX8_comes_104 : decode cX8_comes 104 = .ok (.iload 5, 2) := by decide +kernel
theorem dX8_comes_106 : decode cX8_comes 106 = .ok (.iaload, 1) := by decide +kernel
theorem dX8_comes_107 : decode cX8_comes 107 = .ok (.iastore, 1) := by decide +kernel
theorem dX8_comes_108 : decode cX8_comes 108 = .ok (.aload_n 0, 1) := by decide +kernel
theorem dX8_comes_109 : decode cX8_comes 109 = .ok (.getfield 50, 3) := by decide +kernel
theorem dX8_comes_112 : decode cX8_comes 112 = .ok (.iload 5, 2) := by decide +kernel
theorem dX8_comes_114 : decode cX8_comes 114 = .ok (.iconst 1, 1) := by decide +kernel
theorem dX8_comes_115 : decode cX8_comes 115 = .ok (.isub, 1) := by decide +kernel
theorem dX8_comes_116 : decode cX8_comes 116 = .ok (.aload_n 0, 1) := by decide +kernel
theorem dX8_comes_117 : decode cX8_comes 117 = .ok (.getfield 50, 3) := by decide +kernel
theorem dX8_comes_120 : decode cX8_comes 120 = .ok (.iload 5, 2) := by decide +kernel
theorem dX8_comes_122 : decode cX8_comes 122 = .ok (.iaload, 1) := by decide +kernel
theorem dX8_comes_123 : decode cX8_comes 123 = .ok (.iastore, 1) := by decide +kernel
theorem dX8_comes_124 : decode cX8_comes 124 = .ok (.iinc 5 1, 3) := by decide +kernel
theorem dX8_comes_127 : decode cX8_comes 127 = .ok (.goto (-60), 3) := by decide +kernel
theorem dX8_comes_130 : decode cX8_comes 130 = .ok (.aload_n 0, 1) := by decide +kernel
theorem dX8_comes_131 : decode cX8_comes 131 = .ok (.dup, 1) := by decide +kernel
theorem dX8_comes_132 : decode cX8_comes 132 = .ok (.getfield 274, 3) := by decide +kernel
theorem dX8_comes_135 : decode cX8_comes 135 = .ok (.iconst 1, 1) := by decide +kernel
theorem dX8_comes_136 : decode cX8_comes 136 = .ok (.isub, 1) := by decide +kernel
theorem dX8_comes_137 : decode cX8_comes 137 = .ok (.putfield 274, 3) := by decide +kernel
theorem dX8_comes_140 : decode cX8_comes 140 = .ok (.return_, 1) := by decide +kernel
theorem dX8_comes_141 : decode cX8_comes 141 = .ok (.aload_n 0, 1) := by decide +kernel
theorem dX8_comes_142 : decode cX8_comes 142 = .ok (.getfield 44, 3) := by decide +kernel
theorem dX8_comes_145 : decode cX8_comes 145 = .ok (.aload_n 0, 1) := by decide +kernel
theorem dX8_comes_146 : decode cX8_comes 146 = .ok (.getfield 274, 3) := by decide +kernel
theorem dX8_comes_149 : decode cX8_comes 149 = .ok (.iload_n 1, 1) := by decide +kernel
theorem dX8_comes_150 : decode cX8_comes 150 = .ok (.iastore, 1) := by decide +kernel
theorem dX8_comes_151 : decode cX8_comes 151 = .ok (.aload_n 0, 1) := by decide +kernel
theorem dX8_comes_152 : decode cX8_comes 152 = .ok (.getfield 47, 3) := by decide +kernel
theorem dX8_comes_155 : decode cX8_comes 155 = .ok (.aload_n 0, 1) := by decide +kernel
theorem dX8_comes_156 : decode cX8_comes 156 = .ok (.getfield 274, 3) := by decide +kernel
theorem dX8_comes_159 : decode cX8_comes 159 = .ok (.iload_n 2, 1) := by decide +kernel
theorem dX8_comes_160 : decode cX8_comes 160 = .ok (.iastore, 1) := by decide +kernel
theorem dX8_comes_161 : decode cX8_comes 161 = .ok (.aload_n 0, 1) := by decide +kernel
theorem dX8_comes_162 : decode cX8_comes 162 = .ok (.getfield 50, 3) := by decide +kernel
theorem dX8_comes_165 : decode cX8_comes 165 = .ok (.aload_n 0, 1) := by decide +kernel
theorem dX8_comes_166 : decode cX8_comes 166 = .ok (.getfield 274, 3) := by decide +kernel
theorem dX8_comes_169 : decode cX8_comes 169 = .ok (.iload_n 3, 1) := by decide +kernel
theorem dX8_comes_170 : decode cX8_comes 170 = .ok (.iastore, 1) := by decide +kernel
theorem dX8_comes_171 : decode cX8_comes 171 = .ok (.aload_n 0, 1) := by decide +kernel
theorem dX8_comes_172 : decode cX8_comes 172 = .ok (.dup, 1) := by decide +kernel
theorem dX8_comes_173 : decode cX8_comes 173 = .ok (.getfield 274, 3) := by decide +kernel
theorem dX8_comes_176 : decode cX8_comes 176 = .ok (.iconst 1, 1) := by decide +kernel
theorem dX8_comes_177 : decode cX8_comes 177 = .ok (.iadd, 1) := by decide +kernel
theorem dX8_comes_178 : decode cX8_comes 178 = .ok (.putfield 274, 3) := by decide +kernel
theorem dX8_comes_181 : decode cX8_comes 181 = .ok (.return_, 1) := by decide +kernel
theorem dX8_tangle_0 : decode cX8_tangle 0 = .ok (.aload_n 0, 1) := by decide +kernel
theorem dX8_tangle_1 : decode cX8_tangle 1 = .ok (.getfield 116, 3) := by decide +kernel
theorem dX8_tangle_4 : decode cX8_tangle 4 = .ok (.iconst 1, 1) := by decide +kernel
theorem dX8_tangle_5 : decode cX8_tangle 5 = .ok (.isub, 1) := by decide +kernel
theorem dX8_tangle_6 : decode cX8_tangle 6 = .ok (.istore_n 2, 1) := by decide +kernel
theorem dX8_tangle_7 : decode cX8_tangle 7 = .ok (.iload_n 2, 1) := by decide +kernel
theorem dX8_tangle_8 : decode cX8_tangle 8 = .ok (.ifCond .lt 19, 3) := by decide +kernel
theorem dX8_tangle_11 : decode cX8_tangle 11 = .ok (.aload_n 0, 1) := by decide +kernel
theorem dX8_tangle_12 : decode cX8_tangle 12 = .ok (.aload_n 0, 1) := by decide +kernel
theorem dX8_tangle_13 : decode cX8_tangle 13 = .ok (.getfield 38, 3) := by decide +kernel
theorem dX8_tangle_16 : decode cX8_tangle 16 = .ok (.iload_n 2, 1) := by decide +kernel
theorem dX8_tangle_17 : decode cX8_tangle 17 = .ok (.iaload, 1) := by decide +kernel
theorem dX8_tangle_18 : decode cX8_tangle 18 = .ok (.invokevirtual 270, 3) := by decide +kernel
theorem dX8_tangle_21 : decode cX8_tangle 21 = .ok (.iinc 2 (-1), 3) := by decide +kernel
theorem dX8_tangle_24 : decode cX8_tangle 24 = .ok (.goto (-17), 3) := by decide +kernel
theorem dX8_tangle_27 : decode cX8_tangle 27 = .ok (.aload_n 0, 1) := by decide +kernel
theorem dX8_tangle_28 : decode cX8_tangle 28 = .ok (.iconst 0, 1) := by decide +kernel
theorem dX8_tangle_29 : decode cX8_tangle 29 = .ok (.putfield 274, 3) := by decide +kernel
theorem dX8_tangle_32 : decode cX8_tangle 32 = .ok (.iconst 0, 1) := by decide +kernel
theorem dX8_tangle_33 : decode cX8_tangle 33 = .ok (.istore_n 2, 1) := by decide +kernel
theorem dX8_tangle_34 : decode cX8_tangle 34 = .ok (.iload_n 2, 1) := by decide +kernel
theorem dX8_tangle_35 : decode cX8_tangle 35 = .ok (.aload_n 0, 1) := by decide +kernel
theorem dX8_tangle_36 : decode cX8_tangle 36 = .ok (.getfield 116, 3) := by decide +kernel
theorem dX8_tangle_39 : decode cX8_tangle 39 = .ok (.if_icmp .ge 113, 3) := by decide +kernel
theorem dX8_tangle_42 : decode cX8_tangle 42 = .ok (.aload_n 0, 1) := by decide +kernel
theorem dX8_tangle_43 : decode cX8_tangle 43 = .ok (.getfield 38, 3) := by decide +kernel
theorem dX8_tangle_46 : decode cX8_tangle 46 = .ok (.iload_n 2, 1) := by decide +kernel
theorem dX8_tangle_47 : decode cX8_tangle 47 = .ok (.iaload, 1) := by decide +kernel
theorem dX8_tangle_48 : decode cX8_tangle 48 = .ok (.istore_n 3, 1) := by decide +kernel
theorem dX8_tangle_49 : decode cX8_tangle 49 = .ok (.aload_n 0, 1) := by decide +kernel
theorem dX8_tangle_50 : decode cX8_tangle 50 = .ok (.getfield 35, 3) := by decide +kernel
theorem dX8_tangle_53 : decode cX8_tangle 53 = .ok (.iload_n 3, 1) := by decide +kernel
theorem dX8_tangle_54 : decode cX8_tangle 54 = .ok (.iaload, 1) := by decide +kernel
theorem dX8_tangle_55 : decode cX8_tangle 55 = .ok (.istore 4, 2) := by decide +kernel
theorem dX8_tangle_57 : decode cX8_tangle 57 = .ok (.aload_n 0, 1) := by decide +kernel
theorem dX8_tangle_58 : decode cX8_tangle 58 = .ok (.getfield 35, 3) := by decide +kernel
theorem dX8_tangle_61 : decode cX8_tangle 61 = .ok (.iload_n 3, 1) := by decide +kernel
theorem dX8_tangle_62 : decode cX8_tangle 62 = .ok (.iconst 1, 1) := by decide +kernel
theorem dX8_tangle_63 : decode cX8_tangle 63 = .ok (.iadd, 1) := by decide +kernel
theorem dX8_tangle_64 : decode cX8_tangle 64 = .ok (.iaload, 1) := by decide +kernel
theorem dX8_tangle_65 : decode cX8_tangle 65 = .ok (.istore 5, 2) := by decide +kernel
theorem dX8_tangle_67 : decode cX8_tangle 67 = .ok (.iconst 0, 1) := by decide +kernel
theorem dX8_tangle_68 : decode cX8_tangle 68 = .ok (.istore 6, 2) := by decide +kernel
theorem dX8_tangle_70 : decode cX8_tangle 70 = .ok (.iconst 0, 1) := by decide +kernel
theorem dX8_tangle_71 : decode cX8_tangle 71 = .ok (.istore 7, 2) := by decide +kernel
theorem dX8_tangle_73 : decode cX8_tangle 73 = .ok (.iload 7, 2) := by decide +kernel
theorem dX8_tangle_75 : decode cX8_tangle 75 = .ok (.iload_n 3, 1) := by decide +kernel
theorem dX8_tangle_76 : decode cX8_tangle 76 = .ok (.if_icmp .ge 27, 3) := by decide +kernel
theorem dX8_tangle_79 : decode cX8_tangle 79 = .ok (.iload 6, 2) := by decide +kernel
theorem dX8_tangle_81 : decode cX8_tangle 81 = .ok (.iconst 1, 1) := by decide +kernel
theorem dX8_tangle_82 : decode cX8_tangle 82 = .ok (.iload_n 1, 1) := by decide +kernel
theorem dX8_tangle_83 : decode cX8_tangle 83 = .ok (.aload_n 0, 1) := by decide +kernel
theorem dX8_tangle_84 : decode cX8_tangle 84 = .ok (.getfield 35, 3) := by decide +kernel
theorem dX8_tangle_87 : decode cX8_tangle 87 = .ok (.iload 7, 2) := by decide +kernel
theorem dX8_tangle_89 : decode cX8_tangle 89 = .ok (.iaload, 1) := by decide +kernel
theorem dX8_tangle_90 : decode cX8_tangle 90 = .ok (.ishr, 1) := by decide +kernel
theorem dX8_tangle_91 : decode cX8_tangle 91 = .ok (.iconst 1, 1) := by decide +kernel
theorem dX8_tangle_92 : decode cX8_tangle 92 = .ok (.iand, 1) := by decide +kernel
theorem dX8_tangle_93 : decode cX8_tangle 93 = .ok (.isub, 1) := by decide +kernel
theorem dX8_tangle_94 : decode cX8_tangle 94 = .ok (.iadd, 1) := by decide +kernel
theorem dX8_tangle_95 : decode cX8_tangle 95 = .ok (.istore 6, 2) := by decide +kernel
theorem dX8_tangle_97 : decode cX8_tangle 97 = .ok (.iinc 7 1, 3) := by decide +kernel
theorem dX8_tangle_100 : decode cX8_tangle 100 = .ok (.goto (-27), 3) := by decide +kernel
theorem dX8_tangle_103 : decode cX8_tangle 103 = .ok (.iload_n 1, 1) := by decide +kernel
theorem dX8_tangle_104 : decode cX8_tangle 104 = .ok (.iload 4, 2) := by decide +kernel
theorem dX8_tangle_106 : decode cX8_tangle 106 = .ok (.ishr, 1) := by decide +kernel
theorem dX8_tangle_107 : decode cX8_tangle 107 = .ok (.iconst 1, 1) := by decide +kernel
theorem dX8_tangle_108 : decode cX8_tangle 108 = .ok (.iand, 1) := by decide +kernel
theorem dX8_tangle_109 : decode cX8_tangle 109 = .ok (.ifCond .ne 32, 3) := by decide +kernel
theorem dX8_tangle_112 : decode cX8_tangle 112 = .ok (.iload_n 1, 1) := by decide +kernel
theorem dX8_tangle_113 : decode cX8_tangle 113 = .ok (.iload 5, 2) := by decide +kernel
theorem dX8_tangle_115 : decode cX8_tangle 115 = .ok (.ishr, 1) := by decide +kernel
theorem dX8_tangle_116 : decode cX8_tangle 116 = .ok (.iconst 1, 1) := by decide +kernel
theorem dX8_tangle_117 : decode cX8_tangle 117 = .ok (.iand, 1) := by decide +kernel
theorem dX8_tangle_118 : decode cX8_tangle 118 = .ok (.ifCond .ne 23, 3) := by decide +kernel
theorem dX8_tangle_121 : decode cX8_tangle 121 = .ok (.aload_n 0, 1) := by decide +kernel
theorem dX8_tangle_122 : decode cX8_tangle 122 = .ok (.iload 6, 2) := by decide +kernel
theorem dX8_tangle_124 : decode cX8_tangle 124 = .ok (.aload_n 0, 1) := by decide +kernel
theorem dX8_tangle_125 : decode cX8_tangle 125 = .ok (.getfield 41, 3) := by decide +kernel
theorem dX8_tangle_128 : decode cX8_tangle 128 = .ok (.iload_n 2, 1) := by decide +kernel
theorem dX8_tangle_129 : decode cX8_tangle 129 = .ok (.iaload, 1) := by decide +kernel
theorem dX8_tangle_130 : decode cX8_tangle 130 = .ok (.bipush 10, 2) := by decide +kernel
theorem dX8_tangle_132 : decode cX8_tangle 132 = .ok (.iload 4, 2) := by decide +kernel
theorem dX8_tangle_134 : decode cX8_tangle 134 = .ok (.imul, 1) := by decide +kernel
theorem dX8_tangle_135 : decode cX8_tangle 135 = .ok (.iload 5, 2) := by decide +kernel
theorem dX8_tangle_137 : decode cX8_tangle 137 = .ok (.iadd, 1) := by decide +kernel
theorem dX8_tangle_138 : decode cX8_tangle 138 = .ok (.invokevirtual 277, 3) := by decide +kernel
theorem dX8_tangle_141 : decode cX8_tangle 141 = .ok (.aload_n 0, 1) := by decide +kernel
theorem dX8_tangle_142 : decode cX8_tangle 142 = .ok (.iload_n 3, 1) := by decide +kernel
theorem dX8_tangle_143 : decode cX8_tangle 143 = .ok (.invokevirtual 270, 3) := by decide +kernel
theorem dX8_tangle_146 : decode cX8_tangle 146 = .ok (.iinc 2 1, 3) := by decide +kernel
theorem dX8_tangle_149 : decode cX8_tangle 149 = .ok (.goto (-115), 3) := by decide +kernel
theorem dX8_tangle_152 : decode cX8_tangle 152 = .ok (.return_, 1) := by decide +kernel
theorem dX8_comb_0 : decode cX8_comb 0 = .ok (.aload_n 0, 1) := by decide +kernel
theorem dX8_comb_1 : decode cX8_comb 1 = .ok (.iconst 0, 1) := by decide +kernel
theorem dX8_comb_2 : decode cX8_comb 2 = .ok (.invokevirtual 281, 3) := by decide +kernel
theorem dX8_comb_5 : decode cX8_comb 5 = .ok (.aload_n 0, 1) := by decide +kernel
theorem dX8_comb_6 : decode cX8_comb 6 = .ok (.getfield 116, 3) := by decide +kernel
theorem dX8_comb_9 : decode cX8_comb 9 = .ok (.aload_n 0, 1) := by decide +kernel
theorem dX8_comb_10 : decode cX8_comb 10 = .ok (.getfield 274, 3) := by decide +kernel
theorem dX8_comb_13 : decode cX8_comb 13 = .ok (.isub, 1) := by decide +kernel
theorem dX8_comb_14 : decode cX8_comb 14 = .ok (.istore_n 1, 1) := by decide +kernel
theorem dX8_comb_15 : decode cX8_comb 15 = .ok (.iconst 0, 1) := by decide +kernel
theorem dX8_comb_16 : decode cX8_comb 16 = .ok (.istore_n 2, 1) := by decide +kernel
theorem dX8_comb_17 : decode cX8_comb 17 = .ok (.iload_n 2, 1) := by decide +kernel
theorem dX8_comb_18 : decode cX8_comb 18 = .ok (.aload_n 0, 1) := by decide +kernel
theorem dX8_comb_19 : decode cX8_comb 19 = .ok (.getfield 274, 3) := by decide +kernel
theorem dX8_comb_22 : decode cX8_comb 22 = .ok (.if_icmp .ge 33, 3) := by decide +kernel
theorem dX8_comb_25 : decode cX8_comb 25 = .ok (.aload_n 0, 1) := by decide +kernel
theorem dX8_comb_26 : decode cX8_comb 26 = .ok (.getfield 38, 3) := by decide +kernel
theorem dX8_comb_29 : decode cX8_comb 29 = .ok (.iload_n 2, 1) := by decide +kernel
theorem dX8_comb_30 : decode cX8_comb 30 = .ok (.aload_n 0, 1) := by decide +kernel
theorem dX8_comb_31 : decode cX8_comb 31 = .ok (.getfield 44, 3) := by decide +kernel
theorem dX8_comb_34 : decode cX8_comb 34 = .ok (.iload_n 2, 1) := by decide +kernel
theorem dX8_comb_35 : decode cX8_comb 35 = .ok (.iaload, 1) := by decide +kernel
theorem dX8_comb_36 : decode cX8_comb 36 = .ok (.iastore, 1) := by decide +kernel
theorem dX8_comb_37 : decode cX8_comb 37 = .ok (.aload_n 0, 1) := by decide +kernel
theorem dX8_comb_38 : decode cX8_comb 38 = .ok (.getfield 41, 3) := by decide +kernel
theorem dX8_comb_41 : decode cX8_comb 41 = .ok (.iload_n 2, 1) := by decide +kernel
theorem dX8_comb_42 : decode cX8_comb 42 = .ok (.aload_n 0, 1) := by decide +kernel
theorem dX8_comb_43 : decode cX8_comb 43 = .ok (.getfield 47, 3) := by decide +kernel
theorem dX8_comb_46 : decode cX8_comb 46 = .ok (.iload_n 2, 1) := by decide +kernel
theorem dX8_comb_47 : decode cX8_comb 47 = .ok (.iaload, 1) := by decide +kernel
theorem dX8_comb_48 : decode cX8_comb 48 = .ok (.iastore, 1) := by decide +kernel
theorem dX8_comb_49 : decode cX8_comb 49 = .ok (.iinc 2 1, 3) := by decide +kernel
theorem dX8_comb_52 : decode cX8_comb 52 = .ok (.goto (-35), 3) := by decide +kernel
theorem dX8_comb_55 : decode cX8_comb 55 = .ok (.aload_n 0, 1) := by decide +kernel
theorem dX8_comb_56 : decode cX8_comb 56 = .ok (.aload_n 0, 1) := by decide +kernel
theorem dX8_comb_57 : decode cX8_comb 57 = .ok (.getfield 274, 3) := by decide +kernel
theorem dX8_comb_60 : decode cX8_comb 60 = .ok (.putfield 116, 3) := by decide +kernel
theorem dX8_comb_63 : decode cX8_comb 63 = .ok (.iload_n 1, 1) := by decide +kernel
theorem dX8_comb_64 : decode cX8_comb 64 = .ok (.ireturn, 1) := by decide +kernel
theorem dX8_at_0 : decode cX8_at 0 = .ok (.aload_n 0, 1) := by decide +kernel
theorem dX8_at_1 : decode cX8_at 1 = .ok (.iload_n 1, 1) := by decide +kernel
theorem dX8_at_2 : decode cX8_at 2 = .ok (.invokevirtual 119, 3) := by decide +kernel
theorem dX8_at_5 : decode cX8_at 5 = .ok (.ifCond .eq 12, 3) := by decide +kernel
theorem dX8_at_8 : decode cX8_at 8 = .ok (.aload_n 0, 1) := by decide +kernel
theorem dX8_at_9 : decode cX8_at 9 = .ok (.getfield 35, 3) := by decide +kernel
theorem dX8_at_12 : decode cX8_at 12 = .ok (.iload_n 1, 1) := by decide +kernel
theorem dX8_at_13 : decode cX8_at 13 = .ok (.iaload, 1) := by decide +kernel
theorem dX8_at_14 : decode cX8_at 14 = .ok (.goto 5, 3) := by decide +kernel
theorem dX8_at_17 : decode cX8_at 17 = .ok (.bipush (-2), 2) := by decide +kernel
theorem dX8_at_19 : decode cX8_at 19 = .ok (.ireturn, 1) := by decide +kernel
theorem dX8_left_0 : decode cX8_left 0 = .ok (.aload_n 0, 1) := by decide +kernel
theorem dX8_left_1 : decode cX8_left 1 = .ok (.iconst 0, 1) := by decide +kernel
theorem dX8_left_2 : decode cX8_left 2 = .ok (.invokevirtual 281, 3) := by decide +kernel
theorem dX8_left_5 : decode cX8_left 5 = .ok (.iload_n 1, 1) := by decide +kernel
theorem dX8_left_6 : decode cX8_left 6 = .ok (.i2l, 1) := by decide +kernel
theorem dX8_left_7 : decode cX8_left 7 = .ok (.lconst 0, 1) := by decide +kernel
theorem dX8_left_8 : decode cX8_left 8 = .ok (.aload_n 0, 1) := by decide +kernel
theorem dX8_left_9 : decode cX8_left 9 = .ok (.getfield 274, 3) := by decide +kernel
theorem dX8_left_12 : decode cX8_left 12 = .ok (.iconst 1, 1) := by decide +kernel
theorem dX8_left_13 : decode cX8_left 13 = .ok (.isub, 1) := by decide +kernel
theorem dX8_left_14 : decode cX8_left 14 = .ok (.i2l, 1) := by decide +kernel
theorem dX8_left_15 : decode cX8_left 15 = .ok (.invokestatic 106, 3) := by decide +kernel
theorem dX8_left_18 : decode cX8_left 18 = .ok (.ifCond .eq 22, 3) := by decide +kernel
theorem dX8_left_21 : decode cX8_left 21 = .ok (.bipush 10, 2) := by decide +kernel
theorem dX8_left_23 : decode cX8_left 23 = .ok (.aload_n 0, 1) := by decide +kernel
theorem dX8_left_24 : decode cX8_left 24 = .ok (.getfield 44, 3) := by decide +kernel
theorem dX8_left_27 : decode cX8_left 27 = .ok (.iload_n 1, 1) := by decide +kernel
theorem dX8_left_28 : decode cX8_left 28 = .ok (.iaload, 1) := by decide +kernel
theorem dX8_left_29 : decode cX8_left 29 = .ok (.imul, 1) := by decide +kernel
theorem dX8_left_30 : decode cX8_left 30 = .ok (.aload_n 0, 1) := by decide +kernel
theorem dX8_left_31 : decode cX8_left 31 = .ok (.getfield 47, 3) := by decide +kernel
theorem dX8_left_34 : decode cX8_left 34 = .ok (.iload_n 1, 1) := by decide +kernel
theorem dX8_left_35 : decode cX8_left 35 = .ok (.iaload, 1) := by decide +kernel
theorem dX8_left_36 : decode cX8_left 36 = .ok (.iadd, 1) := by decide +kernel
theorem dX8_left_37 : decode cX8_left 37 = .ok (.goto 4, 3) := by decide +kernel
theorem dX8_left_40 : decode cX8_left 40 = .ok (.iconst (-1), 1) := by decide +kernel
theorem dX8_left_41 : decode cX8_left 41 = .ok (.ireturn, 1) := by decide +kernel
theorem dX8_who_0 : decode cX8_who 0 = .ok (.aload_n 0, 1) := by decide +kernel
theorem dX8_who_1 : decode cX8_who 1 = .ok (.iload_n 1, 1) := by decide +kernel
theorem dX8_who_2 : decode cX8_who 2 = .ok (.invokevirtual 119, 3) := by decide +kernel
theorem dX8_who_5 : decode cX8_who 5 = .ok (.ifCond .eq 11, 3) := by decide +kernel
theorem dX8_who_8 : decode cX8_who 8 = .ok (.aload_n 0, 1) := by decide +kernel
theorem dX8_who_9 : decode cX8_who 9 = .ok (.iload_n 2, 1) := by decide +kernel
theorem dX8_who_10 : decode cX8_who 10 = .ok (.invokevirtual 119, 3) := by decide +kernel
theorem dX8_who_13 : decode cX8_who 13 = .ok (.ifCond .ne 6, 3) := by decide +kernel
theorem dX8_who_16 : decode cX8_who 16 = .ok (.bipush (-2), 2) := by decide +kernel
theorem dX8_who_18 : decode cX8_who 18 = .ok (.ireturn, 1) := by decide +kernel
theorem dX8_who_19 : decode cX8_who 19 = .ok (.aload_n 0, 1) := by decide +kernel
theorem dX8_who_20 : decode cX8_who 20 = .ok (.iconst 0, 1) := by decide +kernel
theorem dX8_who_21 : decode cX8_who 21 = .ok (.invokevirtual 281, 3) := by decide +kernel
theorem dX8_who_24 : decode cX8_who 24 = .ok (.iconst 0, 1) := by decide +kernel
theorem dX8_who_25 : decode cX8_who 25 = .ok (.istore_n 3, 1) := by decide +kernel
theorem dX8_who_26 : decode cX8_who 26 = .ok (.iconst 0, 1) := by decide +kernel
theorem dX8_who_27 : decode cX8_who 27 = .ok (.istore 4, 2) := by decide +kernel
theorem dX8_who_29 : decode cX8_who 29 = .ok (.iload 4, 2) := by decide +kernel
theorem dX8_who_31 : decode cX8_who 31 = .ok (.aload_n 0, 1) := by decide +kernel
theorem dX8_who_32 : decode cX8_who 32 = .ok (.getfield 274, 3) := by decide +kernel
theorem dX8_who_35 : decode cX8_who 35 = .ok (.if_icmp .ge 80, 3) := by decide +kernel
theorem dX8_who_38 : decode cX8_who 38 = .ok (.aload_n 0, 1) := by decide +kernel
theorem dX8_who_39 : decode cX8_who 39 = .ok (.getfield 50, 3) := by decide +kernel
theorem dX8_who_42 : decode cX8_who 42 = .ok (.iload 4, 2) := by decide +kernel
theorem dX8_who_44 : decode cX8_who 44 = .ok (.iaload, 1) := by decide +kernel
theorem dX8_who_45 : decode cX8_who 45 = .ok (.bipush 10, 2) := by decide +kernel
theorem dX8_who_47 : decode cX8_who 47 = .ok (.idiv, 1) := by decide +kernel
theorem dX8_who_48 : decode cX8_who 48 = .ok (.istore 5, 2) := by decide +kernel
theorem dX8_who_50 : decode cX8_who 50 = .ok (.aload_n 0, 1) := by decide +kernel
theorem dX8_who_51 : decode cX8_who 51 = .ok (.getfield 50, 3) := by decide +kernel
theorem dX8_who_54 : decode cX8_who 54 = .ok (.iload 4, 2) := by decide +kernel
theorem dX8_who_56 : decode cX8_who 56 = .ok (.iaload, 1) := by decide +kernel
theorem dX8_who_57 : decode cX8_who 57 = .ok (.bipush 10, 2) := by decide +kernel
theorem dX8_who_59 : decode cX8_who 59 = .ok (.irem, 1) := by decide +kernel
theorem dX8_who_60 : decode cX8_who 60 = .ok (.istore 6, 2) := by decide +kernel
theorem dX8_who_62 : decode cX8_who 62 = .ok (.iload_n 1, 1) := by decide +kernel
theorem dX8_who_63 : decode cX8_who 63 = .ok (.iload_n 2, 1) := by decide +kernel
theorem dX8_who_64 : decode cX8_who 64 = .ok (.if_icmp .ne 18, 3) := by decide +kernel
theorem dX8_who_67 : decode cX8_who 67 = .ok (.iload 5, 2) := by decide +kernel
theorem dX8_who_69 : decode cX8_who 69 = .ok (.iload_n 1, 1) := by decide +kernel
theorem dX8_who_70 : decode cX8_who 70 = .ok (.if_icmp .eq 36, 3) := by decide +kernel
theorem dX8_who_73 : decode cX8_who 73 = .ok (.iload 6, 2) := by decide +kernel
theorem dX8_who_75 : decode cX8_who 75 = .ok (.iload_n 1, 1) := by decide +kernel
theorem dX8_who_76 : decode cX8_who 76 = .ok (.if_icmp .ne 33, 3) := by decide +kernel
theorem dX8_who_79 : decode cX8_who 79 = .ok (.goto 27, 3) := by decide +kernel
theorem dX8_who_82 : decode cX8_who 82 = .ok (.iload 5, 2) := by decide +kernel
theorem dX8_who_84 : decode cX8_who 84 = .ok (.iload_n 1, 1) := by decide +kernel
theorem dX8_who_85 : decode cX8_who 85 = .ok (.if_icmp .ne 9, 3) := by decide +kernel
theorem dX8_who_88 : decode cX8_who 88 = .ok (.iload 6, 2) := by decide +kernel
theorem dX8_who_90 : decode cX8_who 90 = .ok (.iload_n 2, 1) := by decide +kernel
theorem dX8_who_91 : decode cX8_who 91 = .ok (.if_icmp .eq 15, 3) := by decide +kernel
theorem dX8_who_94 : decode cX8_who 94 = .ok (.iload 5, 2) := by decide +kernel
theorem dX8_who_96 : decode cX8_who 96 = .ok (.iload_n 2, 1) := by decide +kernel
theorem dX8_who_97 : decode cX8_who 97 = .ok (.if_icmp .ne 12, 3) := by decide +kernel
theorem dX8_who_100 : decode cX8_who 100 = .ok (.iload 6, 2) := by decide +kernel
theorem dX8_who_102 : decode cX8_who 102 = .ok (.iload_n 1, 1) := by decide +kernel
theorem dX8_who_103 : decode cX8_who 103 = .ok (.if_icmp .ne 6, 3) := by decide +kernel
theorem dX8_who_106 : decode cX8_who 106 = .ok (.iinc 3 1, 3) := by decide +kernel
theorem dX8_who_109 : decode cX8_who 109 = .ok (.iinc 4 1, 3) := by decide +kernel
theorem dX8_who_112 : decode cX8_who 112 = .ok (.goto (-83), 3) := by decide +kernel
theorem dX8_who_115 : decode cX8_who 115 = .ok (.iload_n 1, 1) := by decide +kernel
theorem dX8_who_116 : decode cX8_who 116 = .ok (.iload_n 2, 1) := by decide +kernel
theorem dX8_who_117 : decode cX8_who 117 = .ok (.if_icmp .ne 11, 3) := by decide +kernel
theorem dX8_who_120 : decode cX8_who 120 = .ok (.iload_n 3, 1) := by decide +kernel
theorem dX8_who_121 : decode cX8_who 121 = .ok (.ifCond .le 7, 3) := by decide +kernel
theorem dX8_who_124 : decode cX8_who 124 = .ok (.iconst 1, 1) := by decide +kernel
theorem dX8_who_125 : decode cX8_who 125 = .ok (.goto 4, 3) := by decide +kernel
theorem dX8_who_128 : decode cX8_who 128 = .ok (.iload_n 3, 1) := by decide +kernel
theorem dX8_who_129 : decode cX8_who 129 = .ok (.ireturn, 1) := by decide +kernel
theorem dX8_without_0 : decode cX8_without 0 = .ok (.iload_n 1, 1) := by decide +kernel
theorem dX8_without_1 : decode cX8_without 1 = .ok (.i2l, 1) := by decide +kernel
theorem dX8_without_2 : decode cX8_without 2 = .ok (.lconst 0, 1) := by decide +kernel
theorem dX8_without_3 : decode cX8_without 3 = .ok (.iconst 1, 1) := by decide +kernel
theorem dX8_without_4 : decode cX8_without 4 = .ok (.aload_n 0, 1) := by decide +kernel
theorem dX8_without_5 : decode cX8_without 5 = .ok (.getfield 103, 3) := by decide +kernel
theorem dX8_without_8 : decode cX8_without 8 = .ok (.ishl, 1) := by decide +kernel
theorem dX8_without_9 : decode cX8_without 9 = .ok (.iconst 1, 1) := by decide +kernel
theorem dX8_without_10 : decode cX8_without 10 = .ok (.isub, 1) := by decide +kernel
theorem dX8_without_11 : decode cX8_without 11 = .ok (.i2l, 1) := by decide +kernel
theorem dX8_without_12 : decode cX8_without 12 = .ok (.invokestatic 106, 3) := by decide +kernel
theorem dX8_without_15 : decode cX8_without 15 = .ok (.ifCond .ne 6, 3) := by decide +kernel
theorem dX8_without_18 : decode cX8_without 18 = .ok (.bipush (-2), 2) := by decide +kernel
theorem dX8_without_20 : decode cX8_without 20 = .ok (.ireturn, 1) := by decide +kernel
theorem dX8_without_21 : decode cX8_without 21 = .ok (.aload_n 0, 1) := by decide +kernel
theorem dX8_without_22 : decode cX8_without 22 = .ok (.iload_n 1, 1) := by decide +kernel
theorem dX8_without_23 : decode cX8_without 23 = .ok (.invokevirtual 281, 3) := by decide +kernel
theorem dX8_without_26 : decode cX8_without 26 = .ok (.aload_n 0, 1) := by decide +kernel
theorem dX8_without_27 : decode cX8_without 27 = .ok (.getfield 274, 3) := by decide +kernel
theorem dX8_without_30 : decode cX8_without 30 = .ok (.ireturn, 1) := by decide +kernel
theorem dX8_unclip_0 : decode cX8_unclip 0 = .ok (.iload_n 1, 1) := by decide +kernel
theorem dX8_unclip_1 : decode cX8_unclip 1 = .ok (.i2l, 1) := by decide +kernel
theorem dX8_unclip_2 : decode cX8_unclip 2 = .ok (.lconst 0, 1) := by decide +kernel
theorem dX8_unclip_3 : decode cX8_unclip 3 = .ok (.lconst 1, 1) := by decide +kernel
theorem dX8_unclip_4 : decode cX8_unclip 4 = .ok (.invokestatic 106, 3) := by decide +kernel
theorem dX8_unclip_7 : decode cX8_unclip 7 = .ok (.ifCond .ne 6, 3) := by decide +kernel
theorem dX8_unclip_10 : decode cX8_unclip 10 = .ok (.bipush (-2), 2) := by decide +kernel
theorem dX8_unclip_12 : decode cX8_unclip 12 = .ok (.ireturn, 1) := by decide +kernel
theorem dX8_unclip_13 : decode cX8_unclip 13 = .ok (.iconst (-1), 1) := by decide +kernel
theorem dX8_unclip_14 : decode cX8_unclip 14 = .ok (.istore_n 2, 1) := by decide +kernel
theorem dX8_unclip_15 : decode cX8_unclip 15 = .ok (.iconst 0, 1) := by decide +kernel
theorem dX8_unclip_16 : decode cX8_unclip 16 = .ok (.istore_n 3, 1) := by decide +kernel
theorem dX8_unclip_17 : decode cX8_unclip 17 = .ok (.iload_n 3, 1) := by decide +kernel
theorem dX8_unclip_18 : decode cX8_unclip 18 = .ok (.iconst 1, 1) := by decide +kernel
theorem dX8_unclip_19 : decode cX8_unclip 19 = .ok (.aload_n 0, 1) := by decide +kernel
theorem dX8_unclip_20 : decode cX8_unclip 20 = .ok (.getfield 103, 3) := by decide +kernel
theorem dX8_unclip_23 : decode cX8_unclip 23 = .ok (.ishl, 1) := by decide +kernel
theorem dX8_unclip_24 : decode cX8_unclip 24 = .ok (.if_icmp .ge 39, 3) := by decide +kernel
theorem dX8_unclip_27 : decode cX8_unclip 27 = .ok (.iload_n 2, 1) := by decide +kernel
theorem dX8_unclip_28 : decode cX8_unclip 28 = .ok (.iconst (-1), 1) := by decide +kernel
theorem dX8_unclip_29 : decode cX8_unclip 29 = .ok (.if_icmp .eq 14, 3) := by decide +kernel
theorem dX8_unclip_32 : decode cX8_unclip 32 = .ok (.iload_n 3, 1) := by decide +kernel
theorem dX8_unclip_33 : decode cX8_unclip 33 = .ok (.invokestatic 284, 3) := by decide +kernel
theorem dX8_unclip_36 : decode cX8_unclip 36 = .ok (.iload_n 2, 1) := by decide +kernel
theorem dX8_unclip_37 : decode cX8_unclip 37 = .ok (.invokestatic 284, 3) := by decide +kernel
theorem dX8_unclip_40 : decode cX8_unclip 40 = .ok (.if_icmp .ge 17, 3) := by decide +kernel
theorem dX8_unclip_43 : decode cX8_unclip 43 = .ok (.aload_n 0, 1) := by decide +kernel
theorem dX8_unclip_44 : decode cX8_unclip 44 = .ok (.iload_n 3, 1) := by decide +kernel
theorem dX8_unclip_45 : decode cX8_unclip 45 = .ok (.invokevirtual 281, 3) := by decide +kernel
theorem dX8_unclip_48 : decode cX8_unclip 48 = .ok (.aload_n 0, 1) := by decide +kernel
theorem dX8_unclip_49 : decode cX8_unclip 49 = .ok (.getfield 274, 3) := by decide +kernel
theorem dX8_unclip_52 : decode cX8_unclip 52 = .ok (.ifCond .ne 5, 3) := by decide +kernel
theorem dX8_unclip_55 : decode cX8_unclip 55 = .ok (.iload_n 3, 1) := by decide +kernel
theorem dX8_unclip_56 : decode cX8_unclip 56 = .ok (.istore_n 2, 1) := by decide +kernel
theorem dX8_unclip_57 : decode cX8_unclip 57 = .ok (.iinc 3 1, 3) := by decide +kernel
theorem dX8_unclip_60 : decode cX8_unclip 60 = .ok (.goto (-43), 3) := by decide +kernel
theorem dX8_unclip_63 : decode cX8_unclip 63 = .ok (.iload_n 1, 1) := by decide +kernel
theorem dX8_unclip_64 : decode cX8_unclip 64 = .ok (.ifCond .ne 7, 3) := by decide +kernel
theorem dX8_unclip_67 : decode cX8_unclip 67 = .ok (.iload_n 2, 1) := by decide +kernel
theorem dX8_unclip_68 : decode cX8_unclip 68 = .ok (.goto 7, 3) := by decide +kernel
theorem dX8_unclip_71 : decode cX8_unclip 71 = .ok (.iload_n 2, 1) := by decide +kernel
theorem dX8_unclip_72 : decode cX8_unclip 72 = .ok (.invokestatic 284, 3) := by decide +kernel
theorem dX8_unclip_75 : decode cX8_unclip 75 = .ok (.ireturn, 1) := by decide +kernel
theorem dX8_cost_0 : decode cX8_cost 0 = .ok (.aload_n 0, 1) := by decide +kernel
theorem dX8_cost_1 : decode cX8_cost 1 = .ok (.iconst 0, 1) := by decide +kernel
theorem dX8_cost_2 : decode cX8_cost 2 = .ok (.invokevirtual 281, 3) := by decide +kernel
theorem dX8_cost_5 : decode cX8_cost 5 = .ok (.iconst 0, 1) := by decide +kernel
theorem dX8_cost_6 : decode cX8_cost 6 = .ok (.istore_n 1, 1) := by decide +kernel
theorem dX8_cost_7 : decode cX8_cost 7 = .ok (.iconst 0, 1) := by decide +kernel
theorem dX8_cost_8 : decode cX8_cost 8 = .ok (.istore_n 2, 1) := by decide +kernel
theorem dX8_cost_9 : decode cX8_cost 9 = .ok (.iload_n 2, 1) := by decide +kernel
theorem dX8_cost_10 : decode cX8_cost 10 = .ok (.aload_n 0, 1) := by decide +kernel
theorem dX8_cost_11 : decode cX8_cost 11 = .ok (.getfield 274, 3) := by decide +kernel
theorem dX8_cost_14 : decode cX8_cost 14 = .ok (.if_icmp .ge 35, 3) := by decide +kernel
theorem dX8_cost_17 : decode cX8_cost 17 = .ok (.iload_n 1, 1) := by decide +kernel
theorem dX8_cost_18 : decode cX8_cost 18 = .ok (.aload_n 0, 1) := by decide +kernel
theorem dX8_cost_19 : decode cX8_cost 19 = .ok (.iconst 2, 1) := by decide +kernel
theorem dX8_cost_20 : decode cX8_cost 20 = .ok (.aload_n 0, 1) := by decide +kernel
theorem dX8_cost_21 : decode cX8_cost 21 = .ok (.getfield 50, 3) := by decide +kernel
theorem dX8_cost_24 : decode cX8_cost 24 = .ok (.iload_n 2, 1) := by decide +kernel
theorem dX8_cost_25 : decode cX8_cost 25 = .ok (.iaload, 1) := by decide +kernel
theorem dX8_cost_26 : decode cX8_cost 26 = .ok (.bipush 10, 2) := by decide +kernel
theorem dX8_cost_28 : decode cX8_cost 28 = .ok (.idiv, 1) := by decide +kernel
theorem dX8_cost_29 : decode cX8_cost 29 = .ok (.aload_n 0, 1) := by decide +kernel
theorem dX8_cost_30 : decode cX8_cost 30 = .ok (.getfield 50, 3) := by decide +kernel
theorem dX8_cost_33 : decode cX8_cost 33 = .ok (.iload_n 2, 1) := by decide +kernel
theorem dX8_cost_34 : decode cX8_cost 34 = .ok (.iaload, 1) := by decide +kernel
theorem dX8_cost_35 : decode cX8_cost 35 = .ok (.bipush 10, 2) := by decide +kernel
theorem dX8_cost_37 : decode cX8_cost 37 = .ok (.irem, 1) := by decide +kernel
theorem dX8_cost_38 : decode cX8_cost 38 = .ok (.invokevirtual 266, 3) := by decide +kernel
theorem dX8_cost_41 : decode cX8_cost 41 = .ok (.iadd, 1) := by decide +kernel
theorem dX8_cost_42 : decode cX8_cost 42 = .ok (.istore_n 1, 1) := by decide +kernel
theorem dX8_cost_43 : decode cX8_cost 43 = .ok (.iinc 2 1, 3) := by decide +kernel
theorem dX8_cost_46 : decode cX8_cost 46 = .ok (.goto (-37), 3) := by decide +kernel
theorem dX8_cost_49 : decode cX8_cost 49 = .ok (.iload_n 1, 1) := by decide +kernel
theorem dX8_cost_50 : decode cX8_cost 50 = .ok (.ireturn, 1) := by decide +kernel
theorem dX8_atOddsNow_0 : decode cX8_atOddsNow 0 = .ok (.iconst 0, 1) := by decide +kernel
theorem dX8_atOddsNow_1 : decode cX8_atOddsNow 1 = .ok (.istore_n 1, 1) := by decide +kernel
theorem dX8_atOddsNow_2 : decode cX8_atOddsNow 2 = .ok (.iconst 0, 1) := by decide +kernel
theorem dX8_atOddsNow_3 : decode cX8_atOddsNow 3 = .ok (.istore_n 2, 1) := by decide +kernel
theorem dX8_atOddsNow_4 : decode cX8_atOddsNow 4 = .ok (.iload_n 2, 1) := by decide +kernel
theorem dX8_atOddsNow_5 : decode cX8_atOddsNow 5 = .ok (.iconst 1, 1) := by decide +kernel
theorem dX8_atOddsNow_6 : decode cX8_atOddsNow 6 = .ok (.iadd, 1) := by decide +kernel
theorem dX8_atOddsNow_7 : decode cX8_atOddsNow 7 = .ok (.aload_n 0, 1) := by decide +kernel
theorem dX8_atOddsNow_8 : decode cX8_atOddsNow 8 = .ok (.getfield 103, 3) := by decide +kernel
theorem dX8_atOddsNow_11 : decode cX8_atOddsNow 11 = .ok (.if_icmp .ge 31, 3) := by decide +kernel
theorem dX8_atOddsNow_14 : decode cX8_atOddsNow 14 = .ok (.iload_n 1, 1) := by decide +kernel
theorem dX8_atOddsNow_15 : decode cX8_atOddsNow 15 = .ok (.aload_n 0, 1) := by decide +kernel
theorem dX8_atOddsNow_16 : decode cX8_atOddsNow 16 = .ok (.iconst 0, 1) := by decide +kernel
theorem dX8_atOddsNow_17 : decode cX8_atOddsNow 17 = .ok (.aload_n 0, 1) := by decide +kernel
theorem dX8_atOddsNow_18 : decode cX8_atOddsNow 18 = .ok (.getfield 35, 3) := by decide +kernel
theorem dX8_atOddsNow_21 : decode cX8_atOddsNow 21 = .ok (.iload_n 2, 1) := by decide +kernel
theorem dX8_atOddsNow_22 : decode cX8_atOddsNow 22 = .ok (.iaload, 1) := by decide +kernel
theorem dX8_atOddsNow_23 : decode cX8_atOddsNow 23 = .ok (.aload_n 0, 1) := by decide +kernel
theorem dX8_atOddsNow_24 : decode cX8_atOddsNow 24 = .ok (.getfield 35, 3) := by decide +kernel
theorem dX8_atOddsNow_27 : decode cX8_atOddsNow 27 = .ok (.iload_n 2, 1) := by decide +kernel
theorem dX8_atOddsNow_28 : decode cX8_atOddsNow 28 = .ok (.iconst 1, 1) := by decide +kernel
theorem dX8_atOddsNow_29 : decode cX8_atOddsNow 29 = .ok (.iadd, 1) := by decide +kernel
theorem dX8_atOddsNow_30 : decode cX8_atOddsNow 30 = .ok (.iaload, 1) := by decide +kernel
theorem dX8_atOddsNow_31 : decode cX8_atOddsNow 31 = .ok (.invokevirtual 266, 3) := by decide +kernel
theorem dX8_atOddsNow_34 : decode cX8_atOddsNow 34 = .ok (.iadd, 1) := by decide +kernel
theorem dX8_atOddsNow_35 : decode cX8_atOddsNow 35 = .ok (.istore_n 1, 1) := by decide +kernel
theorem dX8_atOddsNow_36 : decode cX8_atOddsNow 36 = .ok (.iinc 2 1, 3) := by decide +kernel
theorem dX8_atOddsNow_39 : decode cX8_atOddsNow 39 = .ok (.goto (-35), 3) := by decide +kernel
theorem dX8_atOddsNow_42 : decode cX8_atOddsNow 42 = .ok (.iload_n 1, 1) := by decide +kernel
theorem dX8_atOddsNow_43 : decode cX8_atOddsNow 43 = .ok (.ireturn, 1) := by decide +kernel
theorem dX8_orders_0 : decode cX8_orders 0 = .ok (.iload_n 1, 1) := by decide +kernel
theorem dX8_orders_1 : decode cX8_orders 1 = .ok (.aload_n 0, 1) := by decide +kernel
theorem dX8_orders_2 : decode cX8_orders 2 = .ok (.getfield 103, 3) := by decide +kernel
theorem dX8_orders_5 : decode cX8_orders 5 = .ok (.if_icmp .ne 62, 3) := by decide +kernel
theorem dX8_orders_8 : decode cX8_orders 8 = .ok (.aload_n 0, 1) := by decide +kernel
theorem dX8_orders_9 : decode cX8_orders 9 = .ok (.invokevirtual 287, 3) := by decide +kernel
theorem dX8_orders_12 : decode cX8_orders 12 = .ok (.istore_n 3, 1) := by decide +kernel
theorem dX8_orders_13 : decode cX8_orders 13 = .ok (.aload_n 0, 1) := by decide +kernel
theorem dX8_orders_14 : decode cX8_orders 14 = .ok (.getfield 290, 3) := by decide +kernel
theorem dX8_orders_17 : decode cX8_orders 17 = .ok (.iconst (-1), 1) := by decide +kernel
theorem dX8_orders_18 : decode cX8_orders 18 = .ok (.if_icmp .eq 11, 3) := by decide +kernel
theorem dX8_orders_21 : decode cX8_orders 21 = .ok (.iload_n 3, 1) := by decide +kernel
theorem dX8_orders_22 : decode cX8_orders 22 = .ok (.aload_n 0, 1) := by decide +kernel
theorem dX8_orders_23 : decode cX8_orders 23 = .ok (.getfield 290, 3) := by decide +kernel
theorem dX8_orders_26 : decode cX8_orders 26 = .ok (.if_icmp .ge 40, 3) := by decide +kernel
theorem dX8_orders_29 : decode cX8_orders 29 = .ok (.aload_n 0, 1) := by decide +kernel
theorem dX8_orders_30 : decode cX8_orders 30 = .ok (.iload_n 3, 1) := by decide +kernel
theorem dX8_orders_31 : decode cX8_orders 31 = .ok (.putfield 290, 3) := by decide +kernel
theorem dX8_orders_34 : decode cX8_orders 34 = .ok (.iconst 0, 1) := by decide +kernel
theorem dX8_orders_35 : decode cX8_orders 35 = .ok (.istore 4, 2) := by decide +kernel
theorem dX8_orders_37 : decode cX8_orders 37 = .ok (.iload 4, 2) := by decide +kernel
theorem dX8_orders_39 : decode cX8_orders 39 = .ok (.aload_n 0, 1) := by decide +kernel
theorem dX8_orders_40 : decode cX8_orders 40 = .ok (.getfield 103, 3) := by decide +kernel
theorem dX8_orders_43 : decode cX8_orders 43 = .ok (.if_icmp .ge 23, 3) := by decide +kernel
theorem dX8_orders_46 : decode cX8_orders 46 = .ok (.aload_n 0, 1) := by decide +kernel
theorem dX8_orders_47 : decode cX8_orders 47 = .ok (.getfield 56, 3) := by decide +kernel
theorem dX8_orders_50 : decode cX8_orders 50 = .ok (.iload 4, 2) := by decide +kernel
theorem dX8_orders_52 : decode cX8_orders 52 = .ok (.aload_n 0, 1) := by decide +kernel
theorem dX8_orders_53 : decode cX8_orders 53 = .ok (.getfield 35, 3) := by decide +kernel
theorem dX8_orders_56 : decode cX8_orders 56 = .ok (.iload 4, 2) := by decide +kernel
theorem dX8_orders_58 : decode cX8_orders 58 = .ok (.iaload, 1) := by decide +kernel
theorem dX8_orders_59 : decode cX8_orders 59 = .ok (.iastore, 1) := by decide +kernel
theorem dX8_orders_60 : decode cX8_orders 60 = .ok (.iinc 4 1, 3) := by decide +kernel
theorem dX8_orders_63 : decode cX8_orders 63 = .ok (.goto (-26), 3) := by decide +kernel
theorem dX8_orders_66 : decode cX8_orders 66 = .ok (.return_, 1) := by decide +kernel
theorem dX8_orders_67 : decode cX8_orders 67 = .ok (.iconst 0, 1) := by decide +kernel
theorem dX8_orders_68 : decode cX8_orders 68 = .ok (.istore_n 3, 1) := by decide +kernel
theorem dX8_orders_69 : decode cX8_orders 69 = .ok (.iload_n 3, 1) := by decide +kernel
theorem dX8_orders_70 : decode cX8_orders 70 = .ok (.aload_n 0, 1) := by decide +kernel
theorem dX8_orders_71 : decode cX8_orders 71 = .ok (.getfield 103, 3) := by decide +kernel
theorem dX8_orders_74 : decode cX8_orders 74 = .ok (.if_icmp .ge 36, 3) := by decide +kernel
theorem dX8_orders_77 : decode cX8_orders 77 = .ok (.iload_n 2, 1) := by decide +kernel
theorem dX8_orders_78 : decode cX8_orders 78 = .ok (.iload_n 3, 1) := by decide +kernel
theorem dX8_orders_79 : decode cX8_orders 79 = .ok (.ishr, 1) := by decide +kernel
theorem dX8_orders_80 : decode cX8_orders 80 = .ok (.iconst 1, 1) := by decide +kernel
theorem dX8_orders_81 : decode cX8_orders 81 = .ok (.iand, 1) := by decide +kernel
theorem dX8_orders_82 : decode cX8_orders 82 = .ok (.ifCond .ne 22, 3) := by decide +kernel
theorem dX8_orders_85 : decode cX8_orders 85 = .ok (.aload_n 0, 1) := by decide +kernel
theorem dX8_orders_86 : decode cX8_orders 86 = .ok (.getfield 35, 3) := by decide +kernel
theorem dX8_orders_89 : decode cX8_orders 89 = .ok (.iload_n 1, 1) := by decide +kernel
theorem dX8_orders_90 : decode cX8_orders 90 = .ok (.iload_n 3, 1) := by decide +kernel
theorem dX8_orders_91 : decode cX8_orders 91 = .ok (.iastore, 1) := by decide +kernel
theorem dX8_orders_92 : decode cX8_orders 92 = .ok (.aload_n 0, 1) := by decide +kernel
theorem dX8_orders_93 : decode cX8_orders 93 = .ok (.iload_n 1, 1) := by decide +kernel
theorem dX8_orders_94 : decode cX8_orders 94 = .ok (.iconst 1, 1) := by decide +kernel
theorem dX8_orders_95 : decode cX8_orders 95 = .ok (.iadd, 1) := by decide +kernel
theorem dX8_orders_96 : decode cX8_orders 96 = .ok (.iload_n 2, 1) := by decide +kernel
theorem dX8_orders_97 : decode cX8_orders 97 = .ok (.iconst 1, 1) := by decide +kernel
theorem dX8_orders_98 : decode cX8_orders 98 = .ok (.iload_n 3, 1) := by decide +kernel
theorem dX8_orders_99 : decode cX8_orders 99 = .ok (.ishl, 1) := by decide +kernel
theorem dX8_orders_100 : decode cX8_orders 100 = .ok (.ior, 1) := by decide +kernel
theorem dX8_orders_101 : decode cX8_orders 101 = .ok (.invokevirtual 293, 3) := by decide +kernel
theorem dX8_orders_104 : decode cX8_orders 104 = .ok (.iinc 3 1, 3) := by decide +kernel
theorem dX8_orders_107 : decode cX8_orders 107 = .ok (.goto (-38), 3) := by decide +kernel
theorem dX8_orders_110 : decode cX8_orders 110 = .ok (.return_, 1) := by decide +kernel
theorem dX8_bestOrder_0 : decode cX8_bestOrder 0 = .ok (.iconst 0, 1) := by decide +kernel
theorem dX8_bestOrder_1 : decode cX8_bestOrder 1 = .ok (.istore_n 1, 1) := by decide +kernel
theorem dX8_bestOrder_2 : decode cX8_bestOrder 2 = .ok (.iload_n 1, 1) := by decide +kernel
theorem dX8_bestOrder_3 : decode cX8_bestOrder 3 = .ok (.aload_n 0, 1) := by decide +kernel
theorem dX8_bestOrder_4 : decode cX8_bestOrder 4 = .ok (.getfield 103, 3) := by decide +kernel
theorem dX8_bestOrder_7 : decode cX8_bestOrder 7 = .ok (.if_icmp .ge 21, 3) := by decide +kernel
theorem dX8_bestOrder_10 : decode cX8_bestOrder 10 = .ok (.aload_n 0, 1) := by decide +kernel
theorem dX8_bestOrder_11 : decode cX8_bestOrder 11 = .ok (.getfield 53, 3) := by decide +kernel
theorem dX8_bestOrder_14 : decode cX8_bestOrder 14 = .ok (.iload_n 1, 1) := by decide +kernel
theorem dX8_bestOrder_15 : decode cX8_bestOrder 15 = .ok (.aload_n 0, 1) := by decide +kernel
theorem dX8_bestOrder_16 : decode cX8_bestOrder 16 = .ok (.getfield 35, 3) := by decide +kernel
theorem dX8_bestOrder_19 : decode cX8_bestOrder 19 = .ok (.iload_n 1, 1) := by decide +kernel
theorem dX8_bestOrder_20 : decode cX8_bestOrder 20 = .ok (.iaload, 1) := by decide +kernel
theorem dX8_bestOrder_21 : decode cX8_bestOrder 21 = .ok (.iastore, 1) := by decide +kernel
theorem dX8_bestOrder_22 : decode cX8_bestOrder 22 = .ok (.iinc 1 1, 3) := by decide +kernel
theorem dX8_bestOrder_25 : decode cX8_bestOrder 25 = .ok (.goto (-23), 3) := by decide +kernel
theorem dX8_bestOrder_28 : decode cX8_bestOrder 28 = .ok (.aload_n 0, 1) := by decide +kernel
theorem dX8_bestOrder_29 : decode cX8_bestOrder 29 = .ok (.iconst (-1), 1) := by decide +kernel
theorem dX8_bestOrder_30 : decode cX8_bestOrder 30 = .ok (.putfield 290, 3) := by decide +kernel
theorem dX8_bestOrder_33 : decode cX8_bestOrder 33 = .ok (.aload_n 0, 1) := by decide +kernel
theorem dX8_bestOrder_34 : decode cX8_bestOrder 34 = .ok (.iconst 0, 1) := by decide +kernel
theorem dX8_bestOrder_35 : decode cX8_bestOrder 35 = .ok (.iconst 0, 1) := by decide +kernel
theorem dX8_bestOrder_36 : decode cX8_bestOrder 36 = .ok (.invokevirtual 293, 3) := by decide +kernel
theorem dX8_bestOrder_39 : decode cX8_bestOrder 39 = .ok (.iconst 0, 1) := by decide +kernel
theorem dX8_bestOrder_40 : decode cX8_bestOrder 40 = .ok (.istore_n 1, 1) := by decide +kernel
theorem dX8_bestOrder_41 : decode cX8_bestOrder 41 = .ok (.iload_n 1, 1) := by decide +kernel
theorem dX8_bestOrder_42 : decode cX8_bestOrder 42 = .ok (.aload_n 0, 1) := by decide +kernel
theorem dX8_bestOrder_43 : decode cX8_bestOrder 43 = .ok (.getfield 103, 3) := by decide +kernel
theorem dX8_bestOrder_46 : decode cX8_bestOrder 46 = .ok (.if_icmp .ge 21, 3) := by decide +kernel
theorem dX8_bestOrder_49 : decode cX8_bestOrder 49 = .ok (.aload_n 0, 1) := by decide +kernel
theorem dX8_bestOrder_50 : decode cX8_bestOrder 50 = .ok (.getfield 35, 3) := by decide +kernel
theorem dX8_bestOrder_53 : decode cX8_bestOrder 53 = .ok (.iload_n 1, 1) := by decide +kernel
theorem dX8_bestOrder_54 : decode cX8_bestOrder 54 = .ok (.aload_n 0, 1) := by decide +kernel
theorem dX8_bestOrder_55 : decode cX8_bestOrder 55 = .ok (.getfield 53, 3) := by decide +kernel
theorem dX8_bestOrder_58 : decode cX8_bestOrder 58 = .ok (.iload_n 1, 1) := by decide +kernel
theorem dX8_bestOrder_59 : decode cX8_bestOrder 59 = .ok (.iaload, 1) := by decide +kernel
theorem dX8_bestOrder_60 : decode cX8_bestOrder 60 = .ok (.iastore, 1) := by decide +kernel
theorem dX8_bestOrder_61 : decode cX8_bestOrder 61 = .ok (.iinc 1 1, 3) := by decide +kernel
theorem dX8_bestOrder_64 : decode cX8_bestOrder 64 = .ok (.goto (-23), 3) := by decide +kernel
theorem dX8_bestOrder_67 : decode cX8_bestOrder 67 = .ok (.return_, 1) := by decide +kernel
theorem dX8_atOdds_0 : decode cX8_atOdds 0 = .ok (.iload_n 1, 1) := by decide +kernel
theorem dX8_atOdds_1 : decode cX8_atOdds 1 = .ok (.i2l, 1) := by decide +kernel
theorem dX8_atOdds_2 : decode cX8_atOdds 2 = .ok (.lconst 0, 1) := by decide +kernel
theorem dX8_atOdds_3 : decode cX8_atOdds 3 = .ok (.lconst 1, 1) := by decide +kernel
theorem dX8_atOdds_4 : decode cX8_atOdds 4 = .ok (.invokestatic 106, 3) := by decide +kernel
theorem dX8_atOdds_7 : decode cX8_atOdds 7 = .ok (.ifCond .ne 6, 3) := by decide +kernel
theorem dX8_atOdds_10 : decode cX8_atOdds 10 = .ok (.bipush (-2), 2) := by decide +kernel
theorem dX8_atOdds_12 : decode cX8_atOdds 12 = .ok (.ireturn, 1) := by decide +kernel
theorem dX8_atOdds_13 : decode cX8_atOdds 13 = .ok (.iload_n 1, 1) := by decide +kernel
theorem dX8_atOdds_14 : decode cX8_atOdds 14 = .ok (.ifCond .ne 8, 3) := by decide +kernel
theorem dX8_atOdds_17 : decode cX8_atOdds 17 = .ok (.aload_n 0, 1) := by decide +kernel
theorem dX8_atOdds_18 : decode cX8_atOdds 18 = .ok (.invokevirtual 287, 3) := by decide +kernel
theorem dX8_atOdds_21 : decode cX8_atOdds 21 = .ok (.ireturn, 1) := by decide +kernel
theorem dX8_atOdds_22 : decode cX8_atOdds 22 = .ok (.aload_n 0, 1) := by decide +kernel
theorem dX8_atOdds_23 : decode cX8_atOdds 23 = .ok (.invokevirtual 297, 3) := by decide +kernel
theorem dX8_atOdds_26 : decode cX8_atOdds 26 = .ok (.aload_n 0, 1) := by decide +kernel
theorem dX8_atOdds_27 : decode cX8_atOdds 27 = .ok (.getfield 290, 3) := by decide +kernel
theorem dX8_atOdds_30 : decode cX8_atOdds 30 = .ok (.ireturn, 1) := by decide +kernel
theorem dX8_best_0 : decode cX8_best 0 = .ok (.aload_n 0, 1) := by decide +kernel
theorem dX8_best_1 : decode cX8_best 1 = .ok (.iload_n 1, 1) := by decide +kernel
theorem dX8_best_2 : decode cX8_best 2 = .ok (.invokevirtual 119, 3) := by decide +kernel
theorem dX8_best_5 : decode cX8_best 5 = .ok (.ifCond .ne 6, 3) := by decide +kernel
theorem dX8_best_8 : decode cX8_best 8 = .ok (.bipush (-2), 2) := by decide +kernel
theorem dX8_best_10 : decode cX8_best 10 = .ok (.ireturn, 1) := by decide +kernel
theorem dX8_best_11 : decode cX8_best 11 = .ok (.aload_n 0, 1) := by decide +kernel
theorem dX8_best_12 : decode cX8_best 12 = .ok (.invokevirtual 297, 3) := by decide +kernel
theorem dX8_best_15 : decode cX8_best 15 = .ok (.aload_n 0, 1) := by decide +kernel
theorem dX8_best_16 : decode cX8_best 16 = .ok (.getfield 56, 3) := by decide +kernel
theorem dX8_best_19 : decode cX8_best 19 = .ok (.iload_n 1, 1) := by decide +kernel
theorem dX8_best_20 : decode cX8_best 20 = .ok (.iaload, 1) := by decide +kernel
theorem dX8_best_21 : decode cX8_best 21 = .ok (.ireturn, 1) := by decide +kernel
theorem dX8_orderBad_0 : decode cX8_orderBad 0 = .ok (.iload_n 1, 1) := by decide +kernel
theorem dX8_orderBad_1 : decode cX8_orderBad 1 = .ok (.invokestatic 300, 3) := by decide +kernel
theorem dX8_orderBad_4 : decode cX8_orderBad 4 = .ok (.ifCond .ne 6, 3) := by decide +kernel
theorem dX8_orderBad_7 : decode cX8_orderBad 7 = .ok (.bipush (-2), 2) := by decide +kernel
theorem dX8_orderBad_9 : decode cX8_orderBad 9 = .ok (.ireturn, 1) := by decide +kernel
theorem dX8_orderBad_10 : decode cX8_orderBad 10 = .ok (.aload_n 0, 1) := by decide +kernel
theorem dX8_orderBad_11 : decode cX8_orderBad 11 = .ok (.getfield 83, 3) := by decide +kernel
theorem dX8_orderBad_14 : decode cX8_orderBad 14 = .ok (.iload_n 1, 1) := by decide +kernel
theorem dX8_orderBad_15 : decode cX8_orderBad 15 = .ok (.baload, 1) := by decide +kernel
theorem dX8_orderBad_16 : decode cX8_orderBad 16 = .ok (.ifCond .ne 6, 3) := by decide +kernel
theorem dX8_orderBad_19 : decode cX8_orderBad 19 = .ok (.bipush (-11), 2) := by decide +kernel
theorem dX8_orderBad_21 : decode cX8_orderBad 21 = .ok (.ireturn, 1) := by decide +kernel
theorem dX8_orderBad_22 : decode cX8_orderBad 22 = .ok (.aload_n 0, 1) := by decide +kernel
theorem dX8_orderBad_23 : decode cX8_orderBad 23 = .ok (.getfield 90, 3) := by decide +kernel
theorem dX8_orderBad_26 : decode cX8_orderBad 26 = .ok (.iload_n 1, 1) := by decide +kernel
theorem dX8_orderBad_27 : decode cX8_orderBad 27 = .ok (.iaload, 1) := by decide +kernel
theorem dX8_orderBad_28 : decode cX8_orderBad 28 = .ok (.aload_n 0, 1) := by decide +kernel
theorem dX8_orderBad_29 : decode cX8_orderBad 29 = .ok (.getfield 103, 3) := by decide +kernel
theorem dX8_orderBad_32 : decode cX8_orderBad 32 = .ok (.if_icmp .eq 6, 3) := by decide +kernel
theorem dX8_orderBad_35 : decode cX8_orderBad 35 = .ok (.bipush (-2), 2) := by decide +kernel
theorem dX8_orderBad_37 : decode cX8_orderBad 37 = .ok (.ireturn, 1) := by decide +kernel
theorem dX8_orderBad_38 : decode cX8_orderBad 38 = .ok (.iconst 0, 1) := by decide +kernel
theorem dX8_orderBad_39 : decode cX8_orderBad 39 = .ok (.istore_n 2, 1) := by decide +kernel
theorem dX8_orderBad_40 : decode cX8_orderBad 40 = .ok (.iconst 0, 1) := by decide +kernel
theorem dX8_orderBad_41 : decode cX8_orderBad 41 = .ok (.istore_n 3, 1) := by decide +kernel
theorem dX8_orderBad_42 : decode cX8_orderBad 42 = .ok (.iload_n 3, 1) := by decide +kernel
theorem dX8_orderBad_43 : decode cX8_orderBad 43 = .ok (.aload_n 0, 1) := by decide +kernel
theorem dX8_orderBad_44 : decode cX8_orderBad 44 = .ok (.getfield 103, 3) := by decide +kernel
theorem dX8_orderBad_47 : decode cX8_orderBad 47 = .ok (.if_icmp .ge 51, 3) := by decide +kernel
theorem dX8_orderBad_50 : decode cX8_orderBad 50 = .ok (.aload_n 0, 1) := by decide +kernel
theorem dX8_orderBad_51 : decode cX8_orderBad 51 = .ok (.getfield 93, 3) := by decide +kernel
theorem dX8_orderBad_54 : decode cX8_orderBad 54 = .ok (.bipush 40, 2) := by decide +kernel
theorem dX8_orderBad_56 : decode cX8_orderBad 56 = .ok (.iload_n 1, 1) := by decide +kernel
theorem dX8_orderBad_57 : decode cX8_orderBad 57 = .ok (.imul, 1) := by decide +kernel
theorem dX8_orderBad_58 : decode cX8_orderBad 58 = .ok (.iload_n 3, 1) := by decide +kernel
theorem dX8_orderBad_59 : decode cX8_orderBad 59 = .ok (.iadd, 1) := by decide +kernel
theorem dX8_orderBad_60 : decode cX8_orderBad 60 = .ok (.iaload, 1) := by decide +kernel
theorem dX8_orderBad_61 : decode cX8_orderBad 61 = .ok (.istore 4, 2) := by decide +kernel
theorem dX8_orderBad_63 : decode cX8_orderBad 63 = .ok (.aload_n 0, 1) := by decide +kernel
theorem dX8_orderBad_64 : decode cX8_orderBad 64 = .ok (.iload 4, 2) := by decide +kernel
theorem dX8_orderBad_66 : decode cX8_orderBad 66 = .ok (.invokevirtual 119, 3) := by decide +kernel
theorem dX8_orderBad_69 : decode cX8_orderBad 69 = .ok (.ifCond .eq 13, 3) := by decide +kernel
theorem dX8_orderBad_72 : decode cX8_orderBad 72 = .ok (.iload_n 2, 1) := by decide +kernel
theorem dX8_orderBad_73 : decode cX8_orderBad 73 = .ok (.iload 4, 2) := by decide +kernel
theorem dX8_orderBad_75 : decode cX8_orderBad 75 = .ok (.ishr, 1) := by decide +kernel
theorem dX8_orderBad_76 : decode cX8_orderBad 76 = .ok (.iconst 1, 1) := by decide +kernel
theorem dX8_orderBad_77 : decode cX8_orderBad 77 = .ok (.iand, 1) := by decide +kernel
theorem dX8_orderBad_78 : decode cX8_orderBad 78 = .ok (.iconst 1, 1) := by decide +kernel
theorem dX8_orderBad_79 : decode cX8_orderBad 79 = .ok (.if_icmp .ne 6, 3) := by decide +kernel
theorem dX8_orderBad_82 : decode cX8_orderBad 82 = .ok (.bipush (-2), 2) := by decide +kernel
theorem dX8_orderBad_84 : decode cX8_orderBad 84 = .ok (.ireturn, 1) := by decide +kernel
theorem dX8_orderBad_85 : decode cX8_orderBad 85 = .ok (.iload_n 2, 1) := by decide +kernel
theorem dX8_orderBad_86 : decode cX8_orderBad 86 = .ok (.iconst 1, 1) := by decide +kernel
theorem dX8_orderBad_87 : decode cX8_orderBad 87 = .ok (.iload 4, 2) := by decide +kernel
theorem dX8_orderBad_89 : decode cX8_orderBad 89 = .ok (.ishl, 1) := by decide +kernel
theorem dX8_orderBad_90 : decode cX8_orderBad 90 = .ok (.ior, 1) := by decide +kernel
theorem dX8_orderBad_91 : decode cX8_orderBad 91 = .ok (.istore_n 2, 1) := by decide +kernel
theorem dX8_orderBad_92 : decode cX8_orderBad 92 = .ok (.iinc 3 1, 3) := by decide +kernel
theorem dX8_orderBad_95 : decode cX8_orderBad 95 = .ok (.goto (-53), 3) := by decide +kernel
theorem dX8_orderBad_98 : decode cX8_orderBad 98 = .ok (.iconst 0, 1) := by decide +kernel
theorem dX8_orderBad_99 : decode cX8_orderBad 99 = .ok (.ireturn, 1) := by decide +kernel
theorem dX8_swaps_0 : decode cX8_swaps 0 = .ok (.aload_n 0, 1) := by decide +kernel
theorem dX8_swaps_1 : decode cX8_swaps 1 = .ok (.iload_n 1, 1) := by decide +kernel
theorem dX8_swaps_2 : decode cX8_swaps 2 = .ok (.invokevirtual 303, 3) := by decide +kernel
theorem dX8_swaps_5 : decode cX8_swaps 5 = .ok (.istore_n 2, 1) := by decide +kernel
theorem dX8_swaps_6 : decode cX8_swaps 6 = .ok (.iload_n 2, 1) := by decide +kernel
theorem dX8_swaps_7 : decode cX8_swaps 7 = .ok (.ifCond .eq 5, 3) := by decide +kernel
theorem dX8_swaps_10 : decode cX8_swaps 10 = .ok (.iload_n 2, 1) := by decide +kernel
theorem dX8_swaps_11 : decode cX8_swaps 11 = .ok (.ireturn, 1) := by decide +kernel
theorem dX8_swaps_12 : decode cX8_swaps 12 = .ok (.iconst 0, 1) := by decide +kernel
theorem dX8_swaps_13 : decode cX8_swaps 13 = .ok (.istore_n 3, 1) := by decide +kernel
theorem dX8_swaps_14 : decode cX8_swaps 14 = .ok (.iconst 0, 1) := by decide +kernel
theorem dX8_swaps_15 : decode cX8_swaps 15 = .ok (.istore 4, 2) := by decide +kernel
theorem dX8_swaps_17 : decode cX8_swaps 17 = .ok (.iload 4, 2) := by decide +kernel
theorem dX8_swaps_19 : decode cX8_swaps 19 = .ok (.aload_n 0, 1) := by decide +kernel
theorem dX8_swaps_20 : decode cX8_swaps 20 = .ok (.getfield 103, 3) := by decide +kernel
theorem dX8_swaps_23 : decode cX8_swaps 23 = .ok (.if_icmp .ge 73, 3) := by decide +kernel
theorem dX8_swaps_26 : decode cX8_swaps 26 = .ok (.iload 4, 2) := by decide +kernel
theorem dX8_swaps_28 : decode cX8_swaps 28 = .ok (.iconst 1, 1) := by decide +kernel
theorem dX8_swaps_29 : decode cX8_swaps 29 = .ok (.iadd, 1) := by decide +kernel
theorem dX8_swaps_30 : decode cX8_swaps 30 = .ok (.istore 5, 2) := by decide +kernel
theorem dX8_swaps_32 : decode cX8_swaps 32 = .ok (.iload 5, 2) := by decide +kernel
theorem dX8_swaps_34 : decode cX8_swaps 34 = .ok (.aload_n 0, 1) := by decide +kernel
theorem dX8_swaps_35 : decode cX8_swaps 35 = .ok (.getfield 103, 3) := by decide +kernel
theorem dX8_swaps_38 : decode cX8_swaps 38 = .ok (.if_icmp .ge 52, 3) := by decide +kernel
theorem dX8_swaps_41 : decode cX8_swaps 41 = .ok (.iload_n 3, 1) := by decide +kernel
theorem dX8_swaps_42 : decode cX8_swaps 42 = .ok (.aload_n 0, 1) := by decide +kernel
theorem dX8_swaps_43 : decode cX8_swaps 43 = .ok (.aload_n 0, 1) := by decide +kernel
theorem dX8_swaps_44 : decode cX8_swaps 44 = .ok (.getfield 93, 3) := by decide +kernel
theorem dX8_swaps_47 : decode cX8_swaps 47 = .ok (.bipush 40, 2) := by decide +kernel
theorem dX8_swaps_49 : decode cX8_swaps 49 = .ok (.iload_n 1, 1) := by decide +kernel
theorem dX8_swaps_50 : decode cX8_swaps 50 = .ok (.imul, 1) := by decide +kernel
theorem dX8_swaps_51 : decode cX8_swaps 51 = .ok (.iload 4, 2) := by decide +kernel
theorem dX8_swaps_53 : decode cX8_swaps 53 = .ok (.iadd, 1) := by decide +kernel
theorem dX8_swaps_54 : decode cX8_swaps 54 = .ok (.iaload, 1) := by decide +kernel
theorem dX8_swaps_55 : decode cX8_swaps 55 = .ok (.invokevirtual 127, 3) := by decide +kernel
theorem dX8_swaps_58 : decode cX8_swaps 58 = .ok (.aload_n 0, 1) := by decide +kernel
theorem dX8_swaps_59 : decode cX8_swaps 59 = .ok (.aload_n 0, 1) := by decide +kernel
theorem dX8_swaps_60 : decode cX8_swaps 60 = .ok (.getfield 93, 3) := by decide +kernel
theorem dX8_swaps_63 : decode cX8_swaps 63 = .ok (.bipush 40, 2) := by decide +kernel
theorem dX8_swaps_65 : decode cX8_swaps 65 = .ok (.iload_n 1, 1) := by decide +kernel
theorem dX8_swaps_66 : decode cX8_swaps 66 = .ok (.imul, 1) := by decide +kernel
theorem dX8_swaps_67 : decode cX8_swaps 67 = .ok (.iload 5, 2) := by decide +kernel
theorem dX8_swaps_69 : decode cX8_swaps 69 = .ok (.iadd, 1) := by decide +kernel
theorem dX8_swaps_70 : decode cX8_swaps 70 = .ok (.iaload, 1) := by decide +kernel
theorem dX8_swaps_71 : decode cX8_swaps 71 = .ok (.invokevirtual 127, 3) := by decide +kernel
theorem dX8_swaps_74 : decode cX8_swaps 74 = .ok (.if_icmp .le 7, 3) := by decide +kernel
theorem dX8_swaps_77 : decode cX8_swaps 77 = .ok (.iconst 1, 1) := by decide +kernel
theorem dX8_swaps_78 : decode cX8_swaps 78 = .ok (.goto 4, 3) := by decide +kernel
theorem dX8_swaps_81 : decode cX8_swaps 81 = .ok (.iconst 0, 1) := by decide +kernel
theorem dX8_swaps_82 : decode cX8_swaps 82 = .ok (.iadd, 1) := by decide +kernel
theorem dX8_swaps_83 : decode cX8_swaps 83 = .ok (.istore_n 3, 1) := by decide +kernel
theorem dX8_swaps_84 : decode cX8_swaps 84 = .ok (.iinc 5 1, 3) := by decide +kernel
theorem dX8_swaps_87 : decode cX8_swaps 87 = .ok (.goto (-55), 3) := by decide +kernel
theorem dX8_swaps_90 : decode cX8_swaps 90 = .ok (.iinc 4 1, 3) := by decide +kernel
theorem dX8_swaps_93 : decode cX8_swaps 93 = .ok (.goto (-76), 3) := by decide +kernel
theorem dX8_swaps_96 : decode cX8_swaps 96 = .ok (.iload_n 3, 1) := by decide +kernel
theorem dX8_swaps_97 : decode cX8_swaps 97 = .ok (.ireturn, 1) := by decide +kernel
theorem dX8_rightOf_0 : decode cX8_rightOf 0 = .ok (.iconst 0, 1) := by decide +kernel
theorem dX8_rightOf_1 : decode cX8_rightOf 1 = .ok (.istore_n 2, 1) := by decide +kernel
theorem dX8_rightOf_2 : decode cX8_rightOf 2 = .ok (.iconst 0, 1) := by decide +kernel
theorem dX8_rightOf_3 : decode cX8_rightOf 3 = .ok (.istore_n 3, 1) := by decide +kernel
theorem dX8_rightOf_4 : decode cX8_rightOf 4 = .ok (.iload_n 3, 1) := by decide +kernel
theorem dX8_rightOf_5 : decode cX8_rightOf 5 = .ok (.aload_n 0, 1) := by decide +kernel
theorem dX8_rightOf_6 : decode cX8_rightOf 6 = .ok (.getfield 103, 3) := by decide +kernel
theorem dX8_rightOf_9 : decode cX8_rightOf 9 = .ok (.if_icmp .ge 39, 3) := by decide +kernel
theorem dX8_rightOf_12 : decode cX8_rightOf 12 = .ok (.iload_n 2, 1) := by decide +kernel
theorem dX8_rightOf_13 : decode cX8_rightOf 13 = .ok (.aload_n 0, 1) := by decide +kernel
theorem dX8_rightOf_14 : decode cX8_rightOf 14 = .ok (.aload_n 0, 1) := by decide +kernel
theorem dX8_rightOf_15 : decode cX8_rightOf 15 = .ok (.getfield 35, 3) := by decide +kernel
theorem dX8_rightOf_18 : decode cX8_rightOf 18 = .ok (.iload_n 3, 1) := by decide +kernel
theorem dX8_rightOf_19 : decode cX8_rightOf 19 = .ok (.iaload, 1) := by decide +kernel
theorem dX8_rightOf_20 : decode cX8_rightOf 20 = .ok (.iload_n 3, 1) := by decide +kernel
theorem dX8_rightOf_21 : decode cX8_rightOf 21 = .ok (.iload_n 1, 1) := by decide +kernel
theorem dX8_rightOf_22 : decode cX8_rightOf 22 = .ok (.invokevirtual 306, 3) := by decide +kernel
theorem dX8_rightOf_25 : decode cX8_rightOf 25 = .ok (.ifCond .eq 7, 3) := by decide +kernel
theorem dX8_rightOf_28 : decode cX8_rightOf 28 = .ok (.iconst 1, 1) := by decide +kernel
theorem dX8_rightOf_29 : decode cX8_rightOf 29 = .ok (.goto 4, 3) := by decide +kernel
theorem dX8_rightOf_32 : decode cX8_rightOf 32 = .ok (.iconst 0, 1) := by decide +kernel
theorem dX8_rightOf_33 : decode cX8_rightOf 33 = .ok (.aload_n 0, 1) := by decide +kernel
theorem dX8_rightOf_34 : decode cX8_rightOf 34 = .ok (.getfield 35, 3) := by decide +kernel
theorem dX8_rightOf_37 : decode cX8_rightOf 37 = .ok (.iload_n 3, 1) := by decide +kernel
theorem dX8_rightOf_38 : decode cX8_rightOf 38 = .ok (.iaload, 1) := by decide +kernel
theorem dX8_rightOf_39 : decode cX8_rightOf 39 = .ok (.ishl, 1) := by decide +kernel
theorem dX8_rightOf_40 : decode cX8_rightOf 40 = .ok (.ior, 1) := by decide +kernel
theorem dX8_rightOf_41 : decode cX8_rightOf 41 = .ok (.istore_n 2, 1) := by decide +kernel
theorem dX8_rightOf_42 : decode cX8_rightOf 42 = .ok (.iinc 3 1, 3) := by decide +kernel
theorem dX8_rightOf_45 : decode cX8_rightOf 45 = .ok (.goto (-41), 3) := by decide +kernel
theorem dX8_rightOf_48 : decode cX8_rightOf 48 = .ok (.iload_n 2, 1) := by decide +kernel
theorem dX8_rightOf_49 : decode cX8_rightOf 49 = .ok (.ireturn, 1) := by decide +kernel
theorem dX8_wound_0 : decode cX8_wound 0 = .ok (.iconst 0, 1) := by decide +kernel
theorem dX8_wound_1 : decode cX8_wound 1 = .ok (.istore_n 2, 1) := by decide +kernel
theorem dX8_wound_2 : decode cX8_wound 2 = .ok (.iconst 0, 1) := by decide +kernel
theorem dX8_wound_3 : decode cX8_wound 3 = .ok (.istore_n 3, 1) := by decide +kernel
theorem dX8_wound_4 : decode cX8_wound 4 = .ok (.iload_n 3, 1) := by decide +kernel
theorem dX8_wound_5 : decode cX8_wound 5 = .ok (.aload_n 0, 1) := by decide +kernel
theorem dX8_wound_6 : decode cX8_wound 6 = .ok (.getfield 103, 3) := by decide +kernel
theorem dX8_wound_9 : decode cX8_wound 9 = .ok (.if_icmp .ge 69, 3) := by decide +kernel
theorem dX8_wound_12 : decode cX8_wound 12 = .ok (.iload_n 3, 1) := by decide +kernel
theorem dX8_wound_13 : decode cX8_wound 13 = .ok (.iconst 1, 1) := by decide +kernel
theorem dX8_wound_14 : decode cX8_wound 14 = .ok (.iadd, 1) := by decide +kernel
theorem dX8_wound_15 : decode cX8_wound 15 = .ok (.istore 4, 2) := by decide +kernel
theorem dX8_wound_17 : decode cX8_wound 17 = .ok (.iload 4, 2) := by decide +kernel
theorem dX8_wound_19 : decode cX8_wound 19 = .ok (.aload_n 0, 1) := by decide +kernel
theorem dX8_wound_20 : decode cX8_wound 20 = .ok (.getfield 103, 3) := by decide +kernel
theorem dX8_wound_23 : decode cX8_wound 23 = .ok (.if_icmp .ge 49, 3) := by decide +kernel
theorem dX8_wound_26 : decode cX8_wound 26 = .ok (.iload_n 2, 1) := by decide +kernel
theorem dX8_wound_27 : decode cX8_wound 27 = .ok (.aload_n 0, 1) := by decide +kernel
theorem dX8_wound_28 : decode cX8_wound 28 = .ok (.aload_n 0, 1) := by decide +kernel
theorem dX8_wound_29 : decode cX8_wound 29 = .ok (.getfield 35, 3) := by decide +kernel
theorem dX8_wound_32 : decode cX8_wound 32 = .ok (.iload_n 3, 1) := by decide +kernel
theorem dX8_wound_33 : decode cX8_wound 33 = .ok (.iaload, 1) := by decide +kernel
theorem dX8_wound_34 : decode cX8_wound 34 = .ok (.iload_n 3, 1) := by decide +kernel
theorem dX8_wound_35 : decode cX8_wound 35 = .ok (.iload_n 1, 1) := by decide +kernel
theorem dX8_wound_36 : decode cX8_wound 36 = .ok (.invokevirtual 306, 3) := by decide +kernel
theorem dX8_wound_39 : decode cX8_wound 39 = .ok (.ifCond .eq 24, 3) := by decide +kernel
theorem dX8_wound_42 : decode cX8_wound 42 = .ok (.aload_n 0, 1) := by decide +kernel
theorem dX8_wound_43 : decode cX8_wound 43 = .ok (.aload_n 0, 1) := by decide +kernel
theorem dX8_wound_44 : decode cX8_wound 44 = .ok (.getfield 35, 3) := by decide +kernel
theorem dX8_wound_47 : decode cX8_wound 47 = .ok (.iload 4, 2) := by decide +kernel
theorem dX8_wound_49 : decode cX8_wound 49 = .ok (.iaload, 1) := by decide +kernel
theorem dX8_wound_50 : decode cX8_wound 50 = .ok (.iload 4, 2) := by decide +kernel
theorem dX8_wound_52 : decode cX8_wound 52 = .ok (.iload_n 1, 1) := by decide +kernel
theorem dX8_wound_53 : decode cX8_wound 53 = .ok (.invokevirtual 306, 3) := by decide +kernel
theorem dX8_wound_56 : decode cX8_wound 56 = .ok (.ifCond .ne 7, 3) := by decide +kernel
theorem dX8_wound_59 : decode cX8_wound 59 = .ok (.iconst 1, 1) := by decide +kernel
theorem dX8_wound_60 : decode cX8_wound 60 = .ok (.goto 4, 3) := by decide +kernel
theorem dX8_wound_63 : decode cX8_wound 63 = .ok (.iconst 0, 1) := by decide +kernel
theorem dX8_wound_64 : decode cX8_wound 64 = .ok (.iadd, 1) := by decide +kernel
theorem dX8_wound_65 : decode cX8_wound 65 = .ok (.istore_n 2, 1) := by decide +kernel
theorem dX8_wound_66 : decode cX8_wound 66 = .ok (.iinc 4 1, 3) := by decide +kernel
theorem dX8_wound_69 : decode cX8_wound 69 = .ok (.goto (-52), 3) := by decide +kernel
theorem dX8_wound_72 : decode cX8_wound 72 = .ok (.iinc 3 1, 3) := by decide +kernel
theorem dX8_wound_75 : decode cX8_wound 75 = .ok (.goto (-71), 3) := by decide +kernel
theorem dX8_wound_78 : decode cX8_wound 78 = .ok (.iload_n 2, 1) := by decide +kernel
theorem dX8_wound_79 : decode cX8_wound 79 = .ok (.ireturn, 1) := by decide +kernel
theorem dX8_post_0 : decode cX8_post 0 = .ok (.iload_n 1, 1) := by decide +kernel
theorem dX8_post_1 : decode cX8_post 1 = .ok (.i2l, 1) := by decide +kernel
theorem dX8_post_2 : decode cX8_post 2 = .ok (.lconst 0, 1) := by decide +kernel
theorem dX8_post_3 : decode cX8_post 3 = .ok (.aload_n 0, 1) := by decide +kernel
theorem dX8_post_4 : decode cX8_post 4 = .ok (.getfield 103, 3) := by decide +kernel
theorem dX8_post_7 : decode cX8_post 7 = .ok (.i2l, 1) := by decide +kernel
theorem dX8_post_8 : decode cX8_post 8 = .ok (.invokestatic 106, 3) := by decide +kernel
theorem dX8_post_11 : decode cX8_post 11 = .ok (.ifCond .eq 15, 3) := by decide +kernel
theorem dX8_post_14 : decode cX8_post 14 = .ok (.iload_n 2, 1) := by decide +kernel
theorem dX8_post_15 : decode cX8_post 15 = .ok (.i2l, 1) := by decide +kernel
theorem dX8_post_16 : decode cX8_post 16 = .ok (.lconst 0, 1) := by decide +kernel
theorem dX8_post_17 : decode cX8_post 17 = .ok (.ldc2_w 123, 3) := by decide +kernel
theorem dX8_post_20 : decode cX8_post 20 = .ok (.invokestatic 106, 3) := by decide +kernel
theorem dX8_post_23 : decode cX8_post 23 = .ok (.ifCond .ne 7, 3) := by decide +kernel
theorem dX8_post_26 : decode cX8_post 26 = .ok (.ldc_w 269, 3) := by decide +kernel
theorem dX8_post_29 : decode cX8_post 29 = .ok (.ireturn, 1) := by decide +kernel
theorem dX8_post_30 : decode cX8_post 30 = .ok (.iload_n 2, 1) := by decide +kernel
theorem dX8_post_31 : decode cX8_post 31 = .ok (.iconst 2, 1) := by decide +kernel
theorem dX8_post_32 : decode cX8_post 32 = .ok (.if_icmp .ge 21, 3) := by decide +kernel
theorem dX8_post_35 : decode cX8_post 35 = .ok (.iload_n 2, 1) := by decide +kernel
theorem dX8_post_36 : decode cX8_post 36 = .ok (.ifCond .ne 11, 3) := by decide +kernel
theorem dX8_post_39 : decode cX8_post 39 = .ok (.aload_n 0, 1) := by decide +kernel
theorem dX8_post_40 : decode cX8_post 40 = .ok (.iload_n 1, 1) := by decide +kernel
theorem dX8_post_41 : decode cX8_post 41 = .ok (.invokevirtual 310, 3) := by decide +kernel
theorem dX8_post_44 : decode cX8_post 44 = .ok (.goto 8, 3) := by decide +kernel
theorem dX8_post_47 : decode cX8_post 47 = .ok (.aload_n 0, 1) := by decide +kernel
theorem dX8_post_48 : decode cX8_post 48 = .ok (.iload_n 1, 1) := by decide +kernel
theorem dX8_post_49 : decode cX8_post 49 = .ok (.invokevirtual 313, 3) := by decide +kernel
theorem dX8_post_52 : decode cX8_post 52 = .ok (.ireturn, 1) := by decide +kernel
theorem dX8_post_53 : decode cX8_post 53 = .ok (.iconst 0, 1) := by decide +kernel
theorem dX8_post_54 : decode cX8_post 54 = .ok (.istore_n 3, 1) := by decide +kernel
theorem dX8_post_55 : decode cX8_post 55 = .ok (.iconst 0, 1) := by decide +kernel
theorem dX8_post_56 : decode cX8_post 56 = .ok (.istore 4, 2) := by decide +kernel
theorem dX8_post_58 : decode cX8_post 58 = .ok (.iload 4, 2) := by decide +kernel
theorem dX8_post_60 : decode cX8_post 60 = .ok (.aload_n 0, 1) := by decide +kernel
theorem dX8_post_61 : decode cX8_post 61 = .ok (.getfield 103, 3) := by decide +kernel
theorem dX8_post_64 : decode cX8_post 64 = .ok (.if_icmp .ge 59, 3) := by decide +kernel
theorem dX8_post_67 : decode cX8_post 67 = .ok (.iload_n 3, 1) := by decide +kernel
theorem dX8_post_68 : decode cX8_post 68 = .ok (.aload_n 0, 1) := by decide +kernel
theorem dX8_post_69 : decode cX8_post 69 = .ok (.aload_n 0, 1) := by decide +kernel
theorem dX8_post_70 : decode cX8_post 70 = .ok (.getfield 35, 3) := by decide +kernel
theorem dX8_post_73 : decode cX8_post 73 = .ok (.iload 4, 2) := by decide +kernel
theorem dX8_post_75 : decode cX8_post 75 = .ok (.iaload, 1) := by decide +kernel
theorem dX8_post_76 : decode cX8_post 76 = .ok (.iload 4, 2) := by decide +kernel
theorem dX8_post_78 : decode cX8_post 78 = .ok (.iload_n 1, 1) := by decide +kernel
theorem dX8_post_79 : decode cX8_post 79 = .ok (.invokevirtual 306, 3) := by decide +kernel
theorem dX8_post_82 : decode cX8_post 82 = .ok (.ifCond .eq 19, 3) := by decide +kernel
theorem dX8_post_85 : decode cX8_post 85 = .ok (.aload_n 0, 1) := by decide +kernel
theorem dX8_post_86 : decode cX8_post 86 = .ok (.aload_n 0, 1) := by decide +kernel
theorem dX8_post_87 : decode cX8_post 87 = .ok (.getfield 35, 3) := by decide +kernel
theorem dX8_post_90 : decode cX8_post 90 = .ok (.iload 4, 2) := by decide +kernel
theorem dX8_post_92 : decode cX8_post 92 = .ok (.iaload, 1) := by decide +kernel
theorem dX8_post_93 : decode cX8_post 93 = .ok (.iload 4, 2) := by decide +kernel
theorem dX8_post_95 : decode cX8_post 95 = .ok (.invokevirtual 131, 3) := by decide +kernel
theorem dX8_post_98 : decode cX8_post 98 = .ok (.goto 17, 3) := by decide +kernel
theorem dX8_post_101 : decode cX8_post 101 = .ok (.aload_n 0, 1) := by decide +kernel
theorem dX8_post_102 : decode cX8_post 102 = .ok (.aload_n 0, 1) := by decide +kernel
theorem dX8_post_103 : decode cX8_post 103 = .ok (.getfield 35, 3) := by decide +kernel
theorem dX8_post_106 : decode cX8_post 106 = .ok (.iload 4, 2) := by decide +kernel
theorem dX8_post_108 : decode cX8_post 108 = .ok (.iaload, 1) := by decide +kernel
theorem dX8_post_109 : decode cX8_post 109 = .ok (.iload 4, 2) := by decide +kernel
theorem dX8_post_111 : decode cX8_post 111 = .ok (.invokevirtual 131, 3) := by decide +kernel
theorem dX8_post_114 : decode cX8_post 114 = .ok (.ineg, 1) := by decide +kernel
theorem dX8_post_115 : decode cX8_post 115 = .ok (.iadd, 1) := by decide +kernel
theorem dX8_post_116 : decode cX8_post 116 = .ok (.istore_n 3, 1) := by decide +kernel
theorem dX8_post_117 : decode cX8_post 117 = .ok (.iinc 4 1, 3) := by decide +kernel
theorem dX8_post_120 : decode cX8_post 120 = .ok (.goto (-62), 3) := by decide +kernel
theorem dX8_post_123 : decode cX8_post 123 = .ok (.iload_n 3, 1) := by decide +kernel
theorem dX8_post_124 : decode cX8_post 124 = .ok (.ireturn, 1) := by decide +kernel
theorem dX8_bestPost_0 : decode cX8_bestPost 0 = .ok (.iload_n 1, 1) := by decide +kernel
theorem dX8_bestPost_1 : decode cX8_bestPost 1 = .ok (.i2l, 1) := by decide +kernel
theorem dX8_bestPost_2 : decode cX8_bestPost 2 = .ok (.lconst 0, 1) := by decide +kernel
theorem dX8_bestPost_3 : decode cX8_bestPost 3 = .ok (.lconst 1, 1) := by decide +kernel
theorem dX8_bestPost_4 : decode cX8_bestPost 4 = .ok (.invokestatic 106, 3) := by decide +kernel
theorem dX8_bestPost_7 : decode cX8_bestPost 7 = .ok (.ifCond .ne 6, 3) := by decide +kernel
theorem dX8_bestPost_10 : decode cX8_bestPost 10 = .ok (.bipush (-2), 2) := by decide +kernel
theorem dX8_bestPost_12 : decode cX8_bestPost 12 = .ok (.ireturn, 1) := by decide +kernel
theorem dX8_bestPost_13 : decode cX8_bestPost 13 = .ok (.iconst 0, 1) := by decide +kernel
theorem dX8_bestPost_14 : decode cX8_bestPost 14 = .ok (.istore_n 2, 1) := by decide +kernel
theorem dX8_bestPost_15 : decode cX8_bestPost 15 = .ok (.iconst 1, 1) := by decide +kernel
theorem dX8_bestPost_16 : decode cX8_bestPost 16 = .ok (.istore_n 3, 1) := by decide +kernel
theorem dX8_bestPost_17 : decode cX8_bestPost 17 = .ok (.iload_n 3, 1) := by decide +kernel
theorem dX8_bestPost_18 : decode cX8_bestPost 18 = .ok (.aload_n 0, 1) := by decide +kernel
theorem dX8_bestPost_19 : decode cX8_bestPost 19 = .ok (.getfield 103, 3) := by decide +kernel
theorem dX8_bestPost_22 : decode cX8_bestPost 22 = .ok (.if_icmp .gt 24, 3) := by decide +kernel
theorem dX8_bestPost_25 : decode cX8_bestPost 25 = .ok (.aload_n 0, 1) := by decide +kernel
theorem dX8_bestPost_26 : decode cX8_bestPost 26 = .ok (.iload_n 3, 1) := by decide +kernel
theorem dX8_bestPost_27 : decode cX8_bestPost 27 = .ok (.invokevirtual 313, 3) := by decide +kernel
theorem dX8_bestPost_30 : decode cX8_bestPost 30 = .ok (.aload_n 0, 1) := by decide +kernel
theorem dX8_bestPost_31 : decode cX8_bestPost 31 = .ok (.iload_n 2, 1) := by decide +kernel
theorem dX8_bestPost_32 : decode cX8_bestPost 32 = .ok (.invokevirtual 313, 3) := by decide +kernel
theorem dX8_bestPost_35 : decode cX8_bestPost 35 = .ok (.if_icmp .ge 5, 3) := by decide +kernel
theorem dX8_bestPost_38 : decode cX8_bestPost 38 = .ok (.iload_n 3, 1) := by decide +kernel
theorem dX8_bestPost_39 : decode cX8_bestPost 39 = .ok (.istore_n 2, 1) := by decide +kernel
theorem dX8_bestPost_40 : decode cX8_bestPost 40 = .ok (.iinc 3 1, 3) := by decide +kernel
theorem dX8_bestPost_43 : decode cX8_bestPost 43 = .ok (.goto (-26), 3) := by decide +kernel
theorem dX8_bestPost_46 : decode cX8_bestPost 46 = .ok (.iload_n 1, 1) := by decide +kernel
theorem dX8_bestPost_47 : decode cX8_bestPost 47 = .ok (.ifCond .ne 7, 3) := by decide +kernel
theorem dX8_bestPost_50 : decode cX8_bestPost 50 = .ok (.iload_n 2, 1) := by decide +kernel
theorem dX8_bestPost_51 : decode cX8_bestPost 51 = .ok (.goto 8, 3) := by decide +kernel
theorem dX8_bestPost_54 : decode cX8_bestPost 54 = .ok (.aload_n 0, 1) := by decide +kernel
theorem dX8_bestPost_55 : decode cX8_bestPost 55 = .ok (.iload_n 2, 1) := by decide +kernel
theorem dX8_bestPost_56 : decode cX8_bestPost 56 = .ok (.invokevirtual 313, 3) := by decide +kernel
theorem dX8_bestPost_59 : decode cX8_bestPost 59 = .ok (.ireturn, 1) := by decide +kernel
theorem dX8_rowsOf_0 : decode cX8_rowsOf 0 = .ok (.iload_n 3, 1) := by decide +kernel
theorem dX8_rowsOf_1 : decode cX8_rowsOf 1 = .ok (.iload_n 2, 1) := by decide +kernel
theorem dX8_rowsOf_2 : decode cX8_rowsOf 2 = .ok (.if_icmp .ne 116, 3) := by decide +kernel
theorem dX8_rowsOf_5 : decode cX8_rowsOf 5 = .ok (.iconst 0, 1) := by decide +kernel
theorem dX8_rowsOf_6 : decode cX8_rowsOf 6 = .ok (.istore 4, 2) := by decide +kernel
theorem dX8_rowsOf_8 : decode cX8_rowsOf 8 = .ok (.iload 4, 2) := by decide +kernel
theorem dX8_rowsOf_10 : decode cX8_rowsOf 10 = .ok (.aload_n 0, 1) := by decide +kernel
theorem dX8_rowsOf_11 : decode cX8_rowsOf 11 = .ok (.getfield 103, 3) := by decide +kernel
theorem dX8_rowsOf_14 : decode cX8_rowsOf 14 = .ok (.if_icmp .ge 32, 3) := by decide +kernel
theorem dX8_rowsOf_17 : decode cX8_rowsOf 17 = .ok (.aload_n 0, 1) := by decide +kernel
theorem dX8_rowsOf_18 : decode cX8_rowsOf 18 = .ok (.getfield 35, 3) := by decide +kernel
theorem dX8_rowsOf_21 : decode cX8_rowsOf 21 = .ok (.iload 4, 2) := by decide +kernel
theorem dX8_rowsOf_23 : decode cX8_rowsOf 23 = .ok (.iaload, 1) := by decide +kernel
theorem dX8_rowsOf_24 : decode cX8_rowsOf 24 = .ok (.aload_n 0, 1) := by decide +kernel
theorem dX8_rowsOf_25 : decode cX8_rowsOf 25 = .ok (.getfield 93, 3) := by decide +kernel
theorem dX8_rowsOf_28 : decode cX8_rowsOf 28 = .ok (.bipush 40, 2) := by decide +kernel
theorem dX8_rowsOf_30 : decode cX8_rowsOf 30 = .ok (.iload_n 1, 1) := by decide +kernel
theorem dX8_rowsOf_31 : decode cX8_rowsOf 31 = .ok (.imul, 1) := by decide +kernel
theorem dX8_rowsOf_32 : decode cX8_rowsOf 32 = .ok (.iload 4, 2) := by decide +kernel
theorem dX8_rowsOf_34 : decode cX8_rowsOf 34 = .ok (.iadd, 1) := by decide +kernel
theorem dX8_rowsOf_35 : decode cX8_rowsOf 35 = .ok (.iaload, 1) := by decide +kernel
theorem dX8_rowsOf_36 : decode cX8_rowsOf 36 = .ok (.if_icmp .eq 4, 3) := by decide +kernel
theorem dX8_rowsOf_39 : decode cX8_rowsOf 39 = .ok (.return_, 1) := by decide +kernel
theorem dX8_rowsOf_40 : decode cX8_rowsOf 40 = .ok (.iinc 4 1, 3) := by decide +kernel
theorem dX8_rowsOf_43 : decode cX8_rowsOf 43 = .ok (.goto (-35), 3) := by decide +kernel
theorem dX8_rowsOf_46 : decode cX8_rowsOf 46 = .ok (.aload_n 0, 1) := by decide +kernel
theorem dX8_rowsOf_47 : decode cX8_rowsOf 47 = .ok (.iconst 0, 1) := by decide +kernel
theorem dX8_rowsOf_48 : decode cX8_rowsOf 48 = .ok (.putfield 274, 3) := by decide +kernel
theorem dX8_rowsOf_51 : decode cX8_rowsOf 51 = .ok (.iconst 0, 1) := by decide +kernel
theorem dX8_rowsOf_52 : decode cX8_rowsOf 52 = .ok (.istore 4, 2) := by decide +kernel
theorem dX8_rowsOf_54 : decode cX8_rowsOf 54 = .ok (.iload 4, 2) := by decide +kernel
theorem dX8_rowsOf_56 : decode cX8_rowsOf 56 = .ok (.iload_n 2, 1) := by decide +kernel
theorem dX8_rowsOf_57 : decode cX8_rowsOf 57 = .ok (.if_icmp .ge 28, 3) := by decide +kernel
theorem dX8_rowsOf_60 : decode cX8_rowsOf 60 = .ok (.aload_n 0, 1) := by decide +kernel
theorem dX8_rowsOf_61 : decode cX8_rowsOf 61 = .ok (.aload_n 0, 1) := by decide +kernel
theorem dX8_rowsOf_62 : decode cX8_rowsOf 62 = .ok (.getfield 59, 3) := by decide +kernel
theorem dX8_rowsOf_65 : decode cX8_rowsOf 65 = .ok (.iload 4, 2) := by decide +kernel
theorem dX8_rowsOf_67 : decode cX8_rowsOf 67 = .ok (.iaload, 1) := by decide +kernel
theorem dX8_rowsOf_68 : decode cX8_rowsOf 68 = .ok (.aload_n 0, 1) := by decide +kernel
theorem dX8_rowsOf_69 : decode cX8_rowsOf 69 = .ok (.getfield 62, 3) := by decide +kernel
theorem dX8_rowsOf_72 : decode cX8_rowsOf 72 = .ok (.iload 4, 2) := by decide +kernel
theorem dX8_rowsOf_74 : decode cX8_rowsOf 74 = .ok (.iaload, 1) := by decide +kernel
theorem dX8_rowsOf_75 : decode cX8_rowsOf 75 = .ok (.iconst 0, 1) := by decide +kernel
theorem dX8_rowsOf_76 : decode cX8_rowsOf 76 = .ok (.invokevirtual 277, 3) := by decide +kernel
theorem dX8_rowsOf_79 : decode cX8_rowsOf 79 = .ok (.iinc 4 1, 3) := by decide +kernel
theorem dX8_rowsOf_82 : decode cX8_rowsOf 82 = .ok (.goto (-28), 3) := by decide +kernel
theorem dX8_rowsOf_85 : decode cX8_rowsOf 85 = .ok (.aload_n 0, 1) := by decide +kernel
theorem dX8_rowsOf_86 : decode cX8_rowsOf 86 = .ok (.dup, 1) := by decide +kernel
theorem dX8_rowsOf_87 : decode cX8_rowsOf 87 = .ok (.getfield 316, 3) := by decide +kernel
theorem dX8_rowsOf_90 : decode cX8_rowsOf 90 = .ok (.iconst 1, 1) := by decide +kernel
theorem dX8_rowsOf_91 : decode cX8_rowsOf 91 = .ok (.iadd, 1) := by decide +kernel
theorem dX8_rowsOf_92 : decode cX8_rowsOf 92 = .ok (.putfield 316, 3) := by decide +kernel
theorem dX8_rowsOf_95 : decode cX8_rowsOf 95 = .ok (.aload_n 0, 1) := by decide +kernel
theorem dX8_rowsOf_96 : decode cX8_rowsOf 96 = .ok (.dup, 1) := by decide +kernel
theorem dX8_rowsOf_97 : decode cX8_rowsOf 97 = .ok (.getfield 319, 3) := by decide +kernel
theorem dX8_rowsOf_100 : decode cX8_rowsOf 100 = .ok (.aload_n 0, 1) := by decide +kernel
theorem dX8_rowsOf_101 : decode cX8_rowsOf 101 = .ok (.getfield 274, 3) := by decide +kernel
theorem dX8_rowsOf_104 : decode cX8_rowsOf 104 = .ok (.iload_n 2, 1) := by decide +kernel
theorem dX8_rowsOf_105 : decode cX8_rowsOf 105 = .ok (.if_icmp .ne 7, 3) := by decide +kernel
theorem dX8_rowsOf_108 : decode cX8_rowsOf 108 = .ok (.iconst 1, 1) := by decide +kernel
theorem dX8_rowsOf_109 : decode cX8_rowsOf 109 = .ok (.goto 4, 3) := by decide +kernel
theorem dX8_rowsOf_112 : decode cX8_rowsOf 112 = .ok (.iconst 0, 1) := by decide +kernel
theorem dX8_rowsOf_113 : decode cX8_rowsOf 113 = .ok (.iadd, 1) := by decide +kernel
theorem dX8_rowsOf_114 : decode cX8_rowsOf 114 = .ok (.putfield 319, 3) := by decide +kernel
theorem dX8_rowsOf_117 : decode cX8_rowsOf 117 = .ok (.return_, 1) := by decide +kernel
theorem dX8_rowsOf_118 : decode cX8_rowsOf 118 = .ok (.iconst 0, 1) := by decide +kernel
theorem dX8_rowsOf_119 : decode cX8_rowsOf 119 = .ok (.istore 4, 2) := by decide +kernel
theorem dX8_rowsOf_121 : decode cX8_rowsOf 121 = .ok (.iload 4, 2) := by decide +kernel
theorem dX8_rowsOf_123 : decode cX8_rowsOf 123 = .ok (.iconst 1, 1) := by decide +kernel
theorem dX8_rowsOf_124 : decode cX8_rowsOf 124 = .ok (.iadd, 1) := by decide +kernel
theorem dX8_rowsOf_125 : decode cX8_rowsOf 125 = .ok (.aload_n 0, 1) := by decide +kernel
theorem dX8_rowsOf_126 : decode cX8_rowsOf 126 = .ok (.getfield 103, 3) := by decide +kernel
theorem dX8_rowsOf_129 : decode cX8_rowsOf 129 = .ok (.if_icmp .ge 61, 3) := by decide +kernel
theorem dX8_rowsOf_132 : decode cX8_rowsOf 132 = .ok (.aload_n 0, 1) := by decide +kernel
theorem dX8_rowsOf_133 : decode cX8_rowsOf 133 = .ok (.iload 4, 2) := by decide +kernel
theorem dX8_rowsOf_135 : decode cX8_rowsOf 135 = .ok (.invokevirtual 270, 3) := by decide +kernel
theorem dX8_rowsOf_138 : decode cX8_rowsOf 138 = .ok (.iconst 0, 1) := by decide +kernel
theorem dX8_rowsOf_139 : decode cX8_rowsOf 139 = .ok (.istore 5, 2) := by decide +kernel
theorem dX8_rowsOf_141 : decode cX8_rowsOf 141 = .ok (.iload 5, 2) := by decide +kernel
theorem dX8_rowsOf_143 : decode cX8_rowsOf 143 = .ok (.iconst 2, 1) := by decide +kernel
theorem dX8_rowsOf_144 : decode cX8_rowsOf 144 = .ok (.if_icmp .ge 34, 3) := by decide +kernel
theorem dX8_rowsOf_147 : decode cX8_rowsOf 147 = .ok (.aload_n 0, 1) := by decide +kernel
theorem dX8_rowsOf_148 : decode cX8_rowsOf 148 = .ok (.getfield 59, 3) := by decide +kernel
theorem dX8_rowsOf_151 : decode cX8_rowsOf 151 = .ok (.iload_n 3, 1) := by decide +kernel
theorem dX8_rowsOf_152 : decode cX8_rowsOf 152 = .ok (.iload 4, 2) := by decide +kernel
theorem dX8_rowsOf_154 : decode cX8_rowsOf 154 = .ok (.iastore, 1) := by decide +kernel
theorem dX8_rowsOf_155 : decode cX8_rowsOf 155 = .ok (.aload_n 0, 1) := by decide +kernel
theorem dX8_rowsOf_156 : decode cX8_rowsOf 156 = .ok (.getfield 62, 3) := by decide +kernel
theorem dX8_rowsOf_159 : decode cX8_rowsOf 159 = .ok (.iload_n 3, 1) := by decide +kernel
theorem dX8_rowsOf_160 : decode cX8_rowsOf 160 = .ok (.iload 5, 2) := by decide +kernel
theorem dX8_rowsOf_162 : decode cX8_rowsOf 162 = .ok (.iastore, 1) := by decide +kernel
theorem dX8_rowsOf_163 : decode cX8_rowsOf 163 = .ok (.aload_n 0, 1) := by decide +kernel
theorem dX8_rowsOf_164 : decode cX8_rowsOf 164 = .ok (.iload_n 1, 1) := by decide +kernel
theorem dX8_rowsOf_165 : decode cX8_rowsOf 165 = .ok (.iload_n 2, 1) := by decide +kernel
theorem dX8_rowsOf_166 : decode cX8_rowsOf 166 = .ok (.iload_n 3, 1) := by decide +kernel
theorem dX8_rowsOf_167 : decode cX8_rowsOf 167 = .ok (.iconst 1, 1) := by decide +kernel
theorem dX8_rowsOf_168 : decode cX8_rowsOf 168 = .ok (.iadd, 1) := by decide +kernel
theorem dX8_rowsOf_169 : decode cX8_rowsOf 169 = .ok (.invokevirtual 322, 3) := by decide +kernel
theorem dX8_rowsOf_172 : decode cX8_rowsOf 172 = .ok (.iinc 5 1, 3) := by decide +kernel
theorem dX8_rowsOf_175 : decode cX8_rowsOf 175 = .ok (.goto (-34), 3) := by decide +kernel
theorem dX8_rowsOf_178 : decode cX8_rowsOf 178 = .ok (.aload_n 0, 1) := by decide +kernel
theorem dX8_rowsOf_179 : decode cX8_rowsOf 179 = .ok (.iload 4, 2) := by decide +kernel
theorem dX8_rowsOf_181 : decode cX8_rowsOf 181 = .ok (.invokevirtual 270, 3) := by decide +kernel
theorem dX8_rowsOf_184 : decode cX8_rowsOf 184 = .ok (.iinc 4 1, 3) := by decide +kernel
theorem dX8_rowsOf_187 : decode cX8_rowsOf 187 = .ok (.goto (-66), 3) := by decide +kernel
theorem dX8_rowsOf_190 : decode cX8_rowsOf 190 = .ok (.return_, 1) := by decide +kernel
theorem dX8_seen_0 : decode cX8_seen 0 = .ok (.aload_n 0, 1) := by decide +kernel
theorem dX8_seen_1 : decode cX8_seen 1 = .ok (.iload_n 1, 1) := by decide +kernel
theorem dX8_seen_2 : decode cX8_seen 2 = .ok (.invokevirtual 303, 3) := by decide +kernel
theorem dX8_seen_5 : decode cX8_seen 5 = .ok (.istore 4, 2) := by decide +kernel
theorem dX8_seen_7 : decode cX8_seen 7 = .ok (.iload 4, 2) := by decide +kernel
theorem dX8_seen_9 : decode cX8_seen 9 = .ok (.ifCond .eq 6, 3) := by decide +kernel
theorem dX8_seen_12 : decode cX8_seen 12 = .ok (.iload 4, 2) := by decide +kernel
theorem dX8_seen_14 : decode cX8_seen 14 = .ok (.ireturn, 1) := by decide +kernel
theorem dX8_seen_15 : decode cX8_seen 15 = .ok (.iload_n 2, 1) := by decide +kernel
theorem dX8_seen_16 : decode cX8_seen 16 = .ok (.i2l, 1) := by decide +kernel
theorem dX8_seen_17 : decode cX8_seen 17 = .ok (.lconst 0, 1) := by decide +kernel
theorem dX8_seen_18 : decode cX8_seen 18 = .ok (.ldc2_w 325, 3) := by decide +kernel
theorem dX8_seen_21 : decode cX8_seen 21 = .ok (.invokestatic 106, 3) := by decide +kernel
theorem dX8_seen_24 : decode cX8_seen 24 = .ok (.ifCond .eq 13, 3) := by decide +kernel
theorem dX8_seen_27 : decode cX8_seen 27 = .ok (.iload_n 3, 1) := by decide +kernel
theorem dX8_seen_28 : decode cX8_seen 28 = .ok (.i2l, 1) := by decide +kernel
theorem dX8_seen_29 : decode cX8_seen 29 = .ok (.lconst 0, 1) := by decide +kernel
theorem dX8_seen_30 : decode cX8_seen 30 = .ok (.lconst 1, 1) := by decide +kernel
theorem dX8_seen_31 : decode cX8_seen 31 = .ok (.invokestatic 106, 3) := by decide +kernel
theorem dX8_seen_34 : decode cX8_seen 34 = .ok (.ifCond .ne 6, 3) := by decide +kernel
theorem dX8_seen_37 : decode cX8_seen 37 = .ok (.bipush (-2), 2) := by decide +kernel
theorem dX8_seen_39 : decode cX8_seen 39 = .ok (.ireturn, 1) := by decide +kernel
theorem dX8_seen_40 : decode cX8_seen 40 = .ok (.aload_n 0, 1) := by decide +kernel
theorem dX8_seen_41 : decode cX8_seen 41 = .ok (.iconst 0, 1) := by decide +kernel
theorem dX8_seen_42 : decode cX8_seen 42 = .ok (.putfield 316, 3) := by decide +kernel
theorem dX8_seen_45 : decode cX8_seen 45 = .ok (.aload_n 0, 1) := by decide +kernel
theorem dX8_seen_46 : decode cX8_seen 46 = .ok (.iconst 0, 1) := by decide +kernel
theorem dX8_seen_47 : decode cX8_seen 47 = .ok (.putfield 319, 3) := by decide +kernel
theorem dX8_seen_50 : decode cX8_seen 50 = .ok (.aload_n 0, 1) := by decide +kernel
theorem dX8_seen_51 : decode cX8_seen 51 = .ok (.iload_n 1, 1) := by decide +kernel
theorem dX8_seen_52 : decode cX8_seen 52 = .ok (.iload_n 2, 1) := by decide +kernel
theorem dX8_seen_53 : decode cX8_seen 53 = .ok (.iconst 0, 1) := by decide +kernel
theorem dX8_seen_54 : decode cX8_seen 54 = .ok (.invokevirtual 322, 3) := by decide +kernel
theorem dX8_seen_57 : decode cX8_seen 57 = .ok (.iload_n 3, 1) := by decide +kernel
theorem dX8_seen_58 : decode cX8_seen 58 = .ok (.ifCond .ne 10, 3) := by decide +kernel
theorem dX8_seen_61 : decode cX8_seen 61 = .ok (.aload_n 0, 1) := by decide +kernel
theorem dX8_seen_62 : decode cX8_seen 62 = .ok (.getfield 316, 3) := by decide +kernel
theorem dX8_seen_65 : decode cX8_seen 65 = .ok (.goto 7, 3) := by decide +kernel
theorem dX8_seen_68 : decode cX8_seen 68 = .ok (.aload_n 0, 1) := by decide +kernel
theorem dX8_seen_69 : decode cX8_seen 69 = .ok (.getfield 319, 3) := by decide +kernel
theorem dX8_seen_72 : decode cX8_seen 72 = .ok (.ireturn, 1) := by decide +kernel
theorem dX8_fetches_0 : decode cX8_fetches 0 = .ok (.iload_n 1, 1) := by decide +kernel
theorem dX8_fetches_1 : decode cX8_fetches 1 = .ok (.aload_n 0, 1) := by decide +kernel
theorem dX8_fetches_2 : decode cX8_fetches 2 = .ok (.getfield 103, 3) := by decide +kernel
theorem dX8_fetches_5 : decode cX8_fetches 5 = .ok (.if_icmp .ne 120, 3) := by decide +kernel
theorem dX8_fetches_8 : decode cX8_fetches 8 = .ok (.aload_n 0, 1) := by decide +kernel
theorem dX8_fetches_9 : decode cX8_fetches 9 = .ok (.getfield 103, 3) := by decide +kernel
theorem dX8_fetches_12 : decode cX8_fetches 12 = .ok (.ifCond .ne 7, 3) := by decide +kernel
theorem dX8_fetches_15 : decode cX8_fetches 15 = .ok (.iconst 0, 1) := by decide +kernel
theorem dX8_fetches_16 : decode cX8_fetches 16 = .ok (.goto 21, 3) := by decide +kernel
theorem dX8_fetches_19 : decode cX8_fetches 19 = .ok (.iload_n 3, 1) := by decide +kernel
theorem dX8_fetches_20 : decode cX8_fetches 20 = .ok (.aload_n 0, 1) := by decide +kernel
theorem dX8_fetches_21 : decode cX8_fetches 21 = .ok (.getfield 32, 3) := by decide +kernel
theorem dX8_fetches_24 : decode cX8_fetches 24 = .ok (.aload_n 0, 1) := by decide +kernel
theorem dX8_fetches_25 : decode cX8_fetches 25 = .ok (.getfield 65, 3) := by decide +kernel
theorem dX8_fetches_28 : decode cX8_fetches 28 = .ok (.aload_n 0, 1) := by decide +kernel
theorem dX8_fetches_29 : decode cX8_fetches 29 = .ok (.getfield 103, 3) := by decide +kernel
theorem dX8_fetches_32 : decode cX8_fetches 32 = .ok (.iconst 1, 1) := by decide +kernel
theorem dX8_fetches_33 : decode cX8_fetches 33 = .ok (.isub, 1) := by decide +kernel
theorem dX8_fetches_34 : decode cX8_fetches 34 = .ok (.iaload, 1) := by decide +kernel
theorem dX8_fetches_35 : decode cX8_fetches 35 = .ok (.iaload, 1) := by decide +kernel
theorem dX8_fetches_36 : decode cX8_fetches 36 = .ok (.iadd, 1) := by decide +kernel
theorem dX8_fetches_37 : decode cX8_fetches 37 = .ok (.istore 5, 2) := by decide +kernel
theorem dX8_fetches_39 : decode cX8_fetches 39 = .ok (.aload_n 0, 1) := by decide +kernel
theorem dX8_fetches_40 : decode cX8_fetches 40 = .ok (.getfield 327, 3) := by decide +kernel
theorem dX8_fetches_43 : decode cX8_fetches 43 = .ok (.iconst (-1), 1) := by decide +kernel
theorem dX8_fetches_44 : decode cX8_fetches 44 = .ok (.if_icmp .eq 12, 3) := by decide +kernel
theorem dX8_fetches_47 : decode cX8_fetches 47 = .ok (.iload 5, 2) := by decide +kernel
theorem dX8_fetches_49 : decode cX8_fetches 49 = .ok (.aload_n 0, 1) := by decide +kernel
theorem dX8_fetches_50 : decode cX8_fetches 50 = .ok (.getfield 327, 3) := by decide +kernel
theorem dX8_fetches_53 : decode cX8_fetches 53 = .ok (.if_icmp .ge 41, 3) := by decide +kernel
theorem dX8_fetches_56 : decode cX8_fetches 56 = .ok (.aload_n 0, 1) := by decide +kernel
theorem dX8_fetches_57 : decode cX8_fetches 57 = .ok (.iload 5, 2) := by decide +kernel
theorem dX8_fetches_59 : decode cX8_fetches 59 = .ok (.putfield 327, 3) := by decide +kernel
theorem dX8_fetches_62 : decode cX8_fetches 62 = .ok (.iconst 0, 1) := by decide +kernel
theorem dX8_fetches_63 : decode cX8_fetches 63 = .ok (.istore 6, 2) := by decide +kernel
theorem dX8_fetches_65 : decode cX8_fetches 65 = .ok (.iload 6, 2) := by decide +kernel
theorem dX8_fetches_67 : decode cX8_fetches 67 = .ok (.aload_n 0, 1) := by decide +kernel
theorem dX8_fetches_68 : decode cX8_fetches 68 = .ok (.getfield 103, 3) := by decide +kernel
theorem dX8_fetches_71 : decode cX8_fetches 71 = .ok (.if_icmp .ge 23, 3) := by decide +kernel
theorem dX8_fetches_74 : decode cX8_fetches 74 = .ok (.aload_n 0, 1) := by decide +kernel
theorem dX8_fetches_75 : decode cX8_fetches 75 = .ok (.getfield 68, 3) := by decide +kernel
theorem dX8_fetches_78 : decode cX8_fetches 78 = .ok (.iload 6, 2) := by decide +kernel
theorem dX8_fetches_80 : decode cX8_fetches 80 = .ok (.aload_n 0, 1) := by decide +kernel
theorem dX8_fetches_81 : decode cX8_fetches 81 = .ok (.getfield 65, 3) := by decide +kernel
theorem dX8_fetches_84 : decode cX8_fetches 84 = .ok (.iload 6, 2) := by decide +kernel
theorem dX8_fetches_86 : decode cX8_fetches 86 = .ok (.iaload, 1) := by decide +kernel
theorem dX8_fetches_87 : decode cX8_fetches 87 = .ok (.iastore, 1) := by decide +kernel
theorem dX8_fetches_88 : decode cX8_fetches 88 = .ok (.iinc 6 1, 3) := by decide +kernel
theorem dX8_fetches_91 : decode cX8_fetches 91 = .ok (.goto (-26), 3) := by decide +kernel
theorem dX8_fetches_94 : decode cX8_fetches 94 = .ok (.aload_n 0, 1) := by decide +kernel
theorem dX8_fetches_95 : decode cX8_fetches 95 = .ok (.aload_n 0, 1) := by decide +kernel
theorem dX8_fetches_96 : decode cX8_fetches 96 = .ok (.getfield 330, 3) := by decide +kernel
theorem dX8_fetches_99 : decode cX8_fetches 99 = .ok (.iconst (-1), 1) := by decide +kernel
theorem dX8_fetches_100 : decode cX8_fetches 100 = .ok (.if_icmp .eq 12, 3) := by decide +kernel
theorem dX8_fetches_103 : decode cX8_fetches 103 = .ok (.iload 4, 2) := by decide +kernel
theorem dX8_fetches_105 : decode cX8_fetches 105 = .ok (.aload_n 0, 1) := by decide +kernel
theorem dX8_fetches_106 : decode cX8_fetches 106 = .ok (.getfield 330, 3) := by decide +kernel
theorem dX8_fetches_109 : decode cX8_fetches 109 = .ok (.if_icmp .ge 8, 3) := by decide +kernel
theorem dX8_fetches_112 : decode cX8_fetches 112 = .ok (.iload 4, 2) := by decide +kernel
theorem dX8_fetches_114 : decode cX8_fetches 114 = .ok (.goto 7, 3) := by decide +kernel
theorem dX8_fetches_117 : decode cX8_fetches 117 = .ok (.aload_n 0, 1) := by decide +kernel
theorem dX8_fetches_118 : decode cX8_fetches 118 = .ok (.getfield 330, 3) := by decide +kernel
theorem dX8_fetches_121 : decode cX8_fetches 121 = .ok (.putfield 330, 3) := by decide +kernel
theorem dX8_fetches_124 : decode cX8_fetches 124 = .ok (.return_, 1) := by decide +kernel
theorem dX8_fetches_125 : decode cX8_fetches 125 = .ok (.iconst 0, 1) := by decide +kernel
theorem dX8_fetches_126 : decode cX8_fetches 126 = .ok (.istore 5, 2) := by decide +kernel
theorem dX8_fetches_128 : decode cX8_fetches 128 = .ok (.iload 5, 2) := by decide +kernel
theorem dX8_fetches_130 : decode cX8_fetches 130 = .ok (.aload_n 0, 1) := by decide +kernel
theorem dX8_fetches_131 : decode cX8_fetches 131 = .ok (.getfield 103, 3) := by decide +kernel
theorem dX8_fetches_134 : decode cX8_fetches 134 = .ok (.if_icmp .ge 116, 3) := by decide +kernel
theorem dX8_fetches_137 : decode cX8_fetches 137 = .ok (.iload_n 2, 1) := by decide +kernel
theorem dX8_fetches_138 : decode cX8_fetches 138 = .ok (.iload 5, 2) := by decide +kernel
theorem dX8_fetches_140 : decode cX8_fetches 140 = .ok (.ishr, 1) := by decide +kernel
theorem dX8_fetches_141 : decode cX8_fetches 141 = .ok (.iconst 1, 1) := by decide +kernel
theorem dX8_fetches_142 : decode cX8_fetches 142 = .ok (.iand, 1) := by decide +kernel
theorem dX8_fetches_143 : decode cX8_fetches 143 = .ok (.ifCond .ne 101, 3) := by decide +kernel
theorem dX8_fetches_146 : decode cX8_fetches 146 = .ok (.aload_n 0, 1) := by decide +kernel
theorem dX8_fetches_147 : decode cX8_fetches 147 = .ok (.getfield 65, 3) := by decide +kernel
theorem dX8_fetches_150 : decode cX8_fetches 150 = .ok (.iload_n 1, 1) := by decide +kernel
theorem dX8_fetches_151 : decode cX8_fetches 151 = .ok (.iload 5, 2) := by decide +kernel
theorem dX8_fetches_153 : decode cX8_fetches 153 = .ok (.iastore, 1) := by decide +kernel
theorem dX8_fetches_154 : decode cX8_fetches 154 = .ok (.iload_n 1, 1) := by decide +kernel
theorem dX8_fetches_155 : decode cX8_fetches 155 = .ok (.ifCond .ne 13, 3) := by decide +kernel
theorem dX8_fetches_158 : decode cX8_fetches 158 = .ok (.aload_n 0, 1) := by decide +kernel
theorem dX8_fetches_159 : decode cX8_fetches 159 = .ok (.getfield 32, 3) := by decide +kernel
theorem dX8_fetches_162 : decode cX8_fetches 162 = .ok (.iload 5, 2) := by decide +kernel
theorem dX8_fetches_164 : decode cX8_fetches 164 = .ok (.iaload, 1) := by decide +kernel
theorem dX8_fetches_165 : decode cX8_fetches 165 = .ok (.goto 26, 3) := by decide +kernel
theorem dX8_fetches_168 : decode cX8_fetches 168 = .ok (.aload_n 0, 1) := by decide +kernel
theorem dX8_fetches_169 : decode cX8_fetches 169 = .ok (.getfield 32, 3) := by decide +kernel
theorem dX8_fetches_172 : decode cX8_fetches 172 = .ok (.iload 5, 2) := by decide +kernel
theorem dX8_fetches_174 : decode cX8_fetches 174 = .ok (.iaload, 1) := by decide +kernel
theorem dX8_fetches_175 : decode cX8_fetches 175 = .ok (.aload_n 0, 1) := by decide +kernel
theorem dX8_fetches_176 : decode cX8_fetches 176 = .ok (.getfield 32, 3) := by decide +kernel
theorem dX8_fetches_179 : decode cX8_fetches 179 = .ok (.aload_n 0, 1) := by decide +kernel
theorem dX8_fetches_180 : decode cX8_fetches 180 = .ok (.getfield 65, 3) := by decide +kernel
theorem dX8_fetches_183 : decode cX8_fetches 183 = .ok (.iload_n 1, 1) := by decide +kernel
theorem dX8_fetches_184 : decode cX8_fetches 184 = .ok (.iconst 1, 1) := by decide +kernel
theorem dX8_fetches_185 : decode cX8_fetches 185 = .ok (.isub, 1) := by decide +kernel
theorem dX8_fetches_186 : decode cX8_fetches 186 = .ok (.iaload, 1) := by decide +kernel
theorem dX8_fetches_187 : decode cX8_fetches 187 = .ok (.iaload, 1) := by decide +kernel
theorem dX8_fetches_188 : decode cX8_fetches 188 = .ok (.invokestatic 255, 3) := by decide +kernel
theorem dX8_fetches_191 : decode cX8_fetches 191 = .ok (.istore 6, 2) := by decide +kernel
theorem dX8_fetches_193 : decode cX8_fetches 193 = .ok (.iload_n 1, 1) := by decide +kernel
theorem dX8_fetches_194 : decode cX8_fetches 194 = .ok (.ifCond .ne 7, 3) := by decide +kernel
theorem dX8_fetches_197 : decode cX8_fetches 197 = .ok (.iconst 0, 1) := by decide +kernel
theorem dX8_fetches_198 : decode cX8_fetches 198 = .ok (.goto 22, 3) := by decide +kernel
theorem dX8_fetches_201 : decode cX8_fetches 201 = .ok (.aload_n 0, 1) := by decide +kernel
theorem dX8_fetches_202 : decode cX8_fetches 202 = .ok (.getfield 71, 3) := by decide +kernel
theorem dX8_fetches_205 : decode cX8_fetches 205 = .ok (.bipush 6, 2) := by decide +kernel
theorem dX8_fetches_207 : decode cX8_fetches 207 = .ok (.aload_n 0, 1) := by decide +kernel
theorem dX8_fetches_208 : decode cX8_fetches 208 = .ok (.getfield 65, 3) := by decide +kernel
theorem dX8_fetches_211 : decode cX8_fetches 211 = .ok (.iload_n 1, 1) := by decide +kernel
theorem dX8_fetches_212 : decode cX8_fetches 212 = .ok (.iconst 1, 1) := by decide +kernel
theorem dX8_fetches_213 : decode cX8_fetches 213 = .ok (.isub, 1) := by decide +kernel
theorem dX8_fetches_214 : decode cX8_fetches 214 = .ok (.iaload, 1) := by decide +kernel
theorem dX8_fetches_215 : decode cX8_fetches 215 = .ok (.imul, 1) := by decide +kernel
theorem dX8_fetches_216 : decode cX8_fetches 216 = .ok (.iload 5, 2) := by decide +kernel
theorem dX8_fetches_218 : decode cX8_fetches 218 = .ok (.iadd, 1) := by decide +kernel
theorem dX8_fetches_219 : decode cX8_fetches 219 = .ok (.iaload, 1) := by decide +kernel
theorem dX8_fetches_220 : decode cX8_fetches 220 = .ok (.istore 7, 2) := by decide +kernel
theorem dX8_fetches_222 : decode cX8_fetches 222 = .ok (.aload_n 0, 1) := by decide +kernel
theorem dX8_fetches_223 : decode cX8_fetches 223 = .ok (.iload_n 1, 1) := by decide +kernel
theorem dX8_fetches_224 : decode cX8_fetches 224 = .ok (.iconst 1, 1) := by decide +kernel
theorem dX8_fetches_225 : decode cX8_fetches 225 = .ok (.iadd, 1) := by decide +kernel
theorem dX8_fetches_226 : decode cX8_fetches 226 = .ok (.iload_n 2, 1) := by decide +kernel
theorem dX8_fetches_227 : decode cX8_fetches 227 = .ok (.iconst 1, 1) := by decide +kernel
theorem dX8_fetches_228 : decode cX8_fetches 228 = .ok (.iload 5, 2) := by decide +kernel
theorem dX8_fetches_230 : decode cX8_fetches 230 = .ok (.ishl, 1) := by decide +kernel
theorem dX8_fetches_231 : decode cX8_fetches 231 = .ok (.ior, 1) := by decide +kernel
theorem dX8_fetches_232 : decode cX8_fetches 232 = .ok (.iload_n 3, 1) := by decide +kernel
theorem dX8_fetches_233 : decode cX8_fetches 233 = .ok (.iload 6, 2) := by decide +kernel
theorem dX8_fetches_235 : decode cX8_fetches 235 = .ok (.iadd, 1) := by decide +kernel
theorem dX8_fetches_236 : decode cX8_fetches 236 = .ok (.iload 4, 2) := by decide +kernel
theorem dX8_fetches_238 : decode cX8_fetches 238 = .ok (.iload 7, 2) := by decide +kernel
theorem dX8_fetches_240 : decode cX8_fetches 240 = .ok (.iadd, 1) := by decide +kernel
theorem dX8_fetches_241 : decode cX8_fetches 241 = .ok (.invokevirtual 333, 3) := by decide +kernel
theorem dX8_fetches_244 : decode cX8_fetches 244 = .ok (.iinc 5 1, 3) := by decide +kernel
theorem dX8_fetches_247 : decode cX8_fetches 247 = .ok (.goto (-119), 3) := by decide +kernel
theorem dX8_fetches_250 : decode cX8_fetches 250 = .ok (.return_, 1) := by decide +kernel
theorem dX8_fetching_0 : decode cX8_fetching 0 = .ok (.iconst 0, 1) := by decide +kernel
theorem dX8_fetching_1 : decode cX8_fetching 1 = .ok (.istore_n 1, 1) := by decide +kernel
theorem dX8_fetching_2 : decode cX8_fetching 2 = .ok (.iload_n 1, 1) := by decide +kernel
theorem dX8_fetching_3 : decode cX8_fetching 3 = .ok (.aload_n 0, 1) := by decide +kernel
theorem dX8_fetching_4 : decode cX8_fetching 4 = .ok (.getfield 103, 3) := by decide +kernel
theorem dX8_fetching_7 : decode cX8_fetching 7 = .ok (.if_icmp .ge 53, 3) := by decide +kernel
theorem dX8_fetching_10 : decode cX8_fetching 10 = .ok (.iconst 0, 1) := by decide +kernel
theorem dX8_fetching_11 : decode cX8_fetching 11 = .ok (.istore_n 2, 1) := by decide +kernel
theorem dX8_fetching_12 : decode cX8_fetching 12 = .ok (.iload_n 2, 1) := by decide +kernel
theorem dX8_fetching_13 : decode cX8_fetching 13 = .ok (.aload_n 0, 1) := by decide +kernel
theorem dX8_fetching_14 : decode cX8_fetching 14 = .ok (.getfield 103, 3) := by decide +kernel
theorem dX8_fetching_17 : decode cX8_fetching 17 = .ok (.if_icmp .ge 37, 3) := by decide +kernel
theorem dX8_fetching_20 : decode cX8_fetching 20 = .ok (.aload_n 0, 1) := by decide +kernel
theorem dX8_fetching_21 : decode cX8_fetching 21 = .ok (.getfield 71, 3) := by decide +kernel
theorem dX8_fetching_24 : decode cX8_fetching 24 = .ok (.bipush 6, 2) := by decide +kernel
theorem dX8_fetching_26 : decode cX8_fetching 26 = .ok (.iload_n 1, 1) := by decide +kernel
theorem dX8_fetching_27 : decode cX8_fetching 27 = .ok (.imul, 1) := by decide +kernel
theorem dX8_fetching_28 : decode cX8_fetching 28 = .ok (.iload_n 2, 1) := by decide +kernel
theorem dX8_fetching_29 : decode cX8_fetching 29 = .ok (.iadd, 1) := by decide +kernel
theorem dX8_fetching_30 : decode cX8_fetching 30 = .ok (.iload_n 1, 1) := by decide +kernel
theorem dX8_fetching_31 : decode cX8_fetching 31 = .ok (.iload_n 2, 1) := by decide +kernel
theorem dX8_fetching_32 : decode cX8_fetching 32 = .ok (.if_icmp .ne 7, 3) := by decide +kernel
theorem dX8_fetching_35 : decode cX8_fetching 35 = .ok (.iconst 0, 1) := by decide +kernel
theorem dX8_fetching_36 : decode cX8_fetching 36 = .ok (.goto 11, 3) := by decide +kernel
theorem dX8_fetching_39 : decode cX8_fetching 39 = .ok (.aload_n 0, 1) := by decide +kernel
theorem dX8_fetching_40 : decode cX8_fetching 40 = .ok (.iconst 0, 1) := by decide +kernel
theorem dX8_fetching_41 : decode cX8_fetching 41 = .ok (.iload_n 1, 1) := by decide +kernel
theorem dX8_fetching_42 : decode cX8_fetching 42 = .ok (.iload_n 2, 1) := by decide +kernel
theorem dX8_fetching_43 : decode cX8_fetching 43 = .ok (.iconst 1, 1) := by decide +kernel
theorem dX8_fetching_44 : decode cX8_fetching 44 = .ok (.invokevirtual 262, 3) := by decide +kernel
theorem dX8_fetching_47 : decode cX8_fetching 47 = .ok (.iastore, 1) := by decide +kernel
theorem dX8_fetching_48 : decode cX8_fetching 48 = .ok (.iinc 2 1, 3) := by decide +kernel
theorem dX8_fetching_51 : decode cX8_fetching 51 = .ok (.goto (-39), 3) := by decide +kernel
theorem dX8_fetching_54 : decode cX8_fetching 54 = .ok (.iinc 1 1, 3) := by decide +kernel
theorem dX8_fetching_57 : decode cX8_fetching 57 = .ok (.goto (-55), 3) := by decide +kernel
theorem dX8_fetching_60 : decode cX8_fetching 60 = .ok (.aload_n 0, 1) := by decide +kernel
theorem dX8_fetching_61 : decode cX8_fetching 61 = .ok (.iconst (-1), 1) := by decide +kernel
theorem dX8_fetching_62 : decode cX8_fetching 62 = .ok (.putfield 327, 3) := by decide +kernel
theorem dX8_fetching_65 : decode cX8_fetching 65 = .ok (.aload_n 0, 1) := by decide +kernel
theorem dX8_fetching_66 : decode cX8_fetching 66 = .ok (.iconst (-1), 1) := by decide +kernel
theorem dX8_fetching_67 : decode cX8_fetching 67 = .ok (.putfield 330, 3) := by decide +kernel
theorem dX8_fetching_70 : decode cX8_fetching 70 = .ok (.aload_n 0, 1) := by decide +kernel
theorem dX8_fetching_71 : decode cX8_fetching 71 = .ok (.iconst 0, 1) := by decide +kernel
theorem dX8_fetching_72 : decode cX8_fetching 72 = .ok (.iconst 0, 1) := by decide +kernel
theorem dX8_fetching_73 : decode cX8_fetching 73 = .ok (.iconst 0, 1) := by decide +kernel
theorem dX8_fetching_74 : decode cX8_fetching 74 = .ok (.iconst 0, 1) := by decide +kernel
theorem dX8_fetching_75 : decode cX8_fetching 75 = .ok (.invokevirtual 333, 3) := by decide +kernel
theorem dX8_fetching_78 : decode cX8_fetching 78 = .ok (.return_, 1) := by decide +kernel
theorem dX8_fetch_0 : decode cX8_fetch 0 = .ok (.aload_n 0, 1) := by decide +kernel
theorem dX8_fetch_1 : decode cX8_fetch 1 = .ok (.invokevirtual 337, 3) := by decide +kernel
theorem dX8_fetch_4 : decode cX8_fetch 4 = .ok (.aload_n 0, 1) := by decide +kernel
theorem dX8_fetch_5 : decode cX8_fetch 5 = .ok (.getfield 327, 3) := by decide +kernel
theorem dX8_fetch_8 : decode cX8_fetch 8 = .ok (.ireturn, 1) := by decide +kernel
theorem dX8_fetched_0 : decode cX8_fetched 0 = .ok (.aload_n 0, 1) := by decide +kernel
theorem dX8_fetched_1 : decode cX8_fetched 1 = .ok (.iload_n 1, 1) := by decide +kernel
theorem dX8_fetched_2 : decode cX8_fetched 2 = .ok (.invokevirtual 119, 3) := by decide +kernel
theorem dX8_fetched_5 : decode cX8_fetched 5 = .ok (.ifCond .ne 6, 3) := by decide +kernel
theorem dX8_fetched_8 : decode cX8_fetched 8 = .ok (.bipush (-2), 2) := by decide +kernel
theorem dX8_fetched_10 : decode cX8_fetched 10 = .ok (.ireturn, 1) := by decide +kernel
theorem dX8_fetched_11 : decode cX8_fetched 11 = .ok (.aload_n 0, 1) := by decide +kernel
theorem dX8_fetched_12 : decode cX8_fetched 12 = .ok (.invokevirtual 337, 3) := by decide +kernel
theorem dX8_fetched_15 : decode cX8_fetched 15 = .ok (.aload_n 0, 1) := by decide +kernel
theorem dX8_fetched_16 : decode cX8_fetched 16 = .ok (.getfield 68, 3) := by decide +kernel
theorem dX8_fetched_19 : decode cX8_fetched 19 = .ok (.iload_n 1, 1) := by decide +kernel
theorem dX8_fetched_20 : decode cX8_fetched 20 = .ok (.iaload, 1) := by decide +kernel
theorem dX8_fetched_21 : decode cX8_fetched 21 = .ok (.ireturn, 1) := by decide +kernel
theorem dX8_walk_0 : decode cX8_walk 0 = .ok (.aload_n 0, 1) := by decide +kernel
theorem dX8_walk_1 : decode cX8_walk 1 = .ok (.invokevirtual 337, 3) := by decide +kernel
theorem dX8_walk_4 : decode cX8_walk 4 = .ok (.aload_n 0, 1) := by decide +kernel
theorem dX8_walk_5 : decode cX8_walk 5 = .ok (.getfield 330, 3) := by decide +kernel
theorem dX8_walk_8 : decode cX8_walk 8 = .ok (.ireturn, 1) := by decide +kernel
theorem dX8_take_0 : decode cX8_take 0 = .ok (.iload_n 1, 1) := by decide +kernel
theorem dX8_take_1 : decode cX8_take 1 = .ok (.i2l, 1) := by decide +kernel
theorem dX8_take_2 : decode cX8_take 2 = .ok (.lconst 0, 1) := by decide +kernel
theorem dX8_take_3 : decode cX8_take 3 = .ok (.lconst 1, 1) := by decide +kernel
theorem dX8_take_4 : decode cX8_take 4 = .ok (.invokestatic 106, 3) := by decide +kernel
theorem dX8_take_7 : decode cX8_take 7 = .ok (.ifCond .ne 7, 3) := by decide +kernel
theorem dX8_take_10 : decode cX8_take 10 = .ok (.ldc_w 269, 3) := by decide +kernel
theorem dX8_take_13 : decode cX8_take 13 = .ok (.ireturn, 1) := by decide +kernel
theorem dX8_take_14 : decode cX8_take 14 = .ok (.iconst 0, 1) := by decide +kernel
theorem dX8_take_15 : decode cX8_take 15 = .ok (.istore_n 2, 1) := by decide +kernel
theorem dX8_take_16 : decode cX8_take 16 = .ok (.iload_n 2, 1) := by decide +kernel
theorem dX8_take_17 : decode cX8_take 17 = .ok (.aload_n 0, 1) := by decide +kernel
theorem dX8_take_18 : decode cX8_take 18 = .ok (.getfield 103, 3) := by decide +kernel
theorem dX8_take_21 : decode cX8_take 21 = .ok (.if_icmp .ge 52, 3) := by decide +kernel
theorem dX8_take_24 : decode cX8_take 24 = .ok (.iconst 0, 1) := by decide +kernel
theorem dX8_take_25 : decode cX8_take 25 = .ok (.istore_n 3, 1) := by decide +kernel
theorem dX8_take_26 : decode cX8_take 26 = .ok (.iload_n 3, 1) := by decide +kernel
theorem dX8_take_27 : decode cX8_take 27 = .ok (.aload_n 0, 1) := by decide +kernel
theorem dX8_take_28 : decode cX8_take 28 = .ok (.getfield 103, 3) := by decide +kernel
theorem dX8_take_31 : decode cX8_take 31 = .ok (.if_icmp .ge 36, 3) := by decide +kernel
theorem dX8_take_34 : decode cX8_take 34 = .ok (.aload_n 0, 1) := by decide +kernel
theorem dX8_take_35 : decode cX8_take 35 = .ok (.getfield 71, 3) := by decide +kernel
theorem dX8_take_38 : decode cX8_take 38 = .ok (.bipush 6, 2) := by decide +kernel
theorem dX8_take_40 : decode cX8_take 40 = .ok (.iload_n 2, 1) := by decide +kernel
theorem dX8_take_41 : decode cX8_take 41 = .ok (.imul, 1) := by decide +kernel
theorem dX8_take_42 : decode cX8_take 42 = .ok (.iload_n 3, 1) := by decide +kernel
theorem dX8_take_43 : decode cX8_take 43 = .ok (.iadd, 1) := by decide +kernel
theorem dX8_take_44 : decode cX8_take 44 = .ok (.iload_n 2, 1) := by decide +kernel
theorem dX8_take_45 : decode cX8_take 45 = .ok (.iload_n 3, 1) := by decide +kernel
theorem dX8_take_46 : decode cX8_take 46 = .ok (.if_icmp .ne 7, 3) := by decide +kernel
theorem dX8_take_49 : decode cX8_take 49 = .ok (.iconst 0, 1) := by decide +kernel
theorem dX8_take_50 : decode cX8_take 50 = .ok (.goto 10, 3) := by decide +kernel
theorem dX8_take_53 : decode cX8_take 53 = .ok (.aload_n 0, 1) := by decide +kernel
theorem dX8_take_54 : decode cX8_take 54 = .ok (.iconst 1, 1) := by decide +kernel
theorem dX8_take_55 : decode cX8_take 55 = .ok (.iload_n 2, 1) := by decide +kernel
theorem dX8_take_56 : decode cX8_take 56 = .ok (.iload_n 3, 1) := by decide +kernel
theorem dX8_take_57 : decode cX8_take 57 = .ok (.invokevirtual 266, 3) := by decide +kernel
theorem dX8_take_60 : decode cX8_take 60 = .ok (.iastore, 1) := by decide +kernel
theorem dX8_take_61 : decode cX8_take 61 = .ok (.iinc 3 1, 3) := by decide +kernel
theorem dX8_take_64 : decode cX8_take 64 = .ok (.goto (-38), 3) := by decide +kernel
theorem dX8_take_67 : decode cX8_take 67 = .ok (.iinc 2 1, 3) := by decide +kernel
theorem dX8_take_70 : decode cX8_take 70 = .ok (.goto (-54), 3) := by decide +kernel
theorem dX8_take_73 : decode cX8_take 73 = .ok (.iconst 0, 1) := by decide +kernel
theorem dX8_take_74 : decode cX8_take 74 = .ok (.istore_n 2, 1) := by decide +kernel
theorem dX8_take_75 : decode cX8_take 75 = .ok (.iconst 0, 1) := by decide +kernel
theorem dX8_take_76 : decode cX8_take 76 = .ok (.istore_n 3, 1) := by decide +kernel
theorem dX8_take_77 : decode cX8_take 77 = .ok (.iconst 1, 1) := by decide +kernel
theorem dX8_take_78 : decode cX8_take 78 = .ok (.istore 4, 2) := by decide +kernel
theorem dX8_take_80 : decode cX8_take 80 = .ok (.iload 4, 2) := by decide +kernel
theorem dX8_take_82 : decode cX8_take 82 = .ok (.iconst 1, 1) := by decide +kernel
theorem dX8_take_83 : decode cX8_take 83 = .ok (.aload_n 0, 1) := by decide +kernel
theorem dX8_take_84 : decode cX8_take 84 = .ok (.getfield 103, 3) := by decide +kernel
theorem dX8_take_87 : decode cX8_take 87 = .ok (.ishl, 1) := by decide +kernel
theorem dX8_take_88 : decode cX8_take 88 = .ok (.if_icmp .ge 121, 3) := by decide +kernel
theorem dX8_take_91 : decode cX8_take 91 = .ok (.iconst 0, 1) := by decide +kernel
theorem dX8_take_92 : decode cX8_take 92 = .ok (.istore 5, 2) := by decide +kernel
theorem dX8_take_94 : decode cX8_take 94 = .ok (.iconst 0, 1) := by decide +kernel
theorem dX8_take_95 : decode cX8_take 95 = .ok (.istore 6, 2) := by decide +kernel
theorem dX8_take_97 : decode cX8_take 97 = .ok (.iload 6, 2) := by decide +kernel
theorem dX8_take_99 : decode cX8_take 99 = .ok (.aload_n 0, 1) := by decide +kernel
theorem dX8_take_100 : decode cX8_take 100 = .ok (.getfield 103, 3) := by decide +kernel
theorem dX8_take_103 : decode cX8_take 103 = .ok (.if_icmp .ge 88, 3) := by decide +kernel
theorem dX8_take_106 : decode cX8_take 106 = .ok (.iload 4, 2) := by decide +kernel
theorem dX8_take_108 : decode cX8_take 108 = .ok (.iload 6, 2) := by decide +kernel
theorem dX8_take_110 : decode cX8_take 110 = .ok (.ishr, 1) := by decide +kernel
theorem dX8_take_111 : decode cX8_take 111 = .ok (.iconst 1, 1) := by decide +kernel
theorem dX8_take_112 : decode cX8_take 112 = .ok (.iand, 1) := by decide +kernel
theorem dX8_take_113 : decode cX8_take 113 = .ok (.iconst 1, 1) := by decide +kernel
theorem dX8_take_114 : decode cX8_take 114 = .ok (.if_icmp .ne 71, 3) := by decide +kernel
theorem dX8_take_117 : decode cX8_take 117 = .ok (.iload 5, 2) := by decide +kernel
theorem dX8_take_119 : decode cX8_take 119 = .ok (.iconst 3, 1) := by decide +kernel
theorem dX8_take_120 : decode cX8_take 120 = .ok (.aload_n 0, 1) := by decide +kernel
theorem dX8_take_121 : decode cX8_take 121 = .ok (.getfield 26, 3) := by decide +kernel
theorem dX8_take_124 : decode cX8_take 124 = .ok (.iload 6, 2) := by decide +kernel
theorem dX8_take_126 : decode cX8_take 126 = .ok (.iaload, 1) := by decide +kernel
theorem dX8_take_127 : decode cX8_take 127 = .ok (.imul, 1) := by decide +kernel
theorem dX8_take_128 : decode cX8_take 128 = .ok (.isub, 1) := by decide +kernel
theorem dX8_take_129 : decode cX8_take 129 = .ok (.istore 5, 2) := by decide +kernel
theorem dX8_take_131 : decode cX8_take 131 = .ok (.iload 6, 2) := by decide +kernel
theorem dX8_take_133 : decode cX8_take 133 = .ok (.iconst 1, 1) := by decide +kernel
theorem dX8_take_134 : decode cX8_take 134 = .ok (.iadd, 1) := by decide +kernel
theorem dX8_take_135 : decode cX8_take 135 = .ok (.istore 7, 2) := by decide +kernel
theorem dX8_take_137 : decode cX8_take 137 = .ok (.iload 7, 2) := by decide +kernel
theorem dX8_take_139 : decode cX8_take 139 = .ok (.aload_n 0, 1) := by decide +kernel
theorem dX8_take_140 : decode cX8_take 140 = .ok (.getfield 103, 3) := by decide +kernel
theorem dX8_take_143 : decode cX8_take 143 = .ok (.if_icmp .ge 42, 3) := by decide +kernel
theorem dX8_take_146 : decode cX8_take 146 = .ok (.iload 5, 2) := by decide +kernel
theorem dX8_take_148 : decode cX8_take 148 = .ok (.iload 4, 2) := by decide +kernel
theorem dX8_take_150 : decode cX8_take 150 = .ok (.iload 7, 2) := by decide +kernel
theorem dX8_take_152 : decode cX8_take 152 = .ok (.ishr, 1) := by decide +kernel
theorem dX8_take_153 : decode cX8_take 153 = .ok (.iconst 1, 1) := by decide +kernel
theorem dX8_take_154 : decode cX8_take 154 = .ok (.iand, 1) := by decide +kernel
theorem dX8_take_155 : decode cX8_take 155 = .ok (.iconst 1, 1) := by decide +kernel
theorem dX8_take_156 : decode cX8_take 156 = .ok (.if_icmp .ne 19, 3) := by decide +kernel
theorem dX8_take_159 : decode cX8_take 159 = .ok (.aload_n 0, 1) := by decide +kernel
theorem dX8_take_160 : decode cX8_take 160 = .ok (.getfield 71, 3) := by decide +kernel
theorem dX8_take_163 : decode cX8_take 163 = .ok (.bipush 6, 2) := by decide +kernel
theorem dX8_take_165 : decode cX8_take 165 = .ok (.iload 6, 2) := by decide +kernel
theorem dX8_take_167 : decode cX8_take 167 = .ok (.imul, 1) := by decide +kernel
theorem dX8_take_168 : decode cX8_take 168 = .ok (.iload 7, 2) := by decide +kernel
theorem dX8_take_170 : decode cX8_take 170 = .ok (.iadd, 1) := by decide +kernel
theorem dX8_take_171 : decode cX8_take 171 = .ok (.iaload, 1) := by decide +kernel
theorem dX8_take_172 : decode cX8_take 172 = .ok (.goto 4, 3) := by decide +kernel
theorem dX8_take_175 : decode cX8_take 175 = .ok (.iconst 0, 1) := by decide +kernel
theorem dX8_take_176 : decode cX8_take 176 = .ok (.iadd, 1) := by decide +kernel
theorem dX8_take_177 : decode cX8_take 177 = .ok (.istore 5, 2) := by decide +kernel
theorem dX8_take_179 : decode cX8_take 179 = .ok (.iinc 7 1, 3) := by decide +kernel
theorem dX8_take_182 : decode cX8_take 182 = .ok (.goto (-45), 3) := by decide +kernel
theorem dX8_take_185 : decode cX8_take 185 = .ok (.iinc 6 1, 3) := by decide +kernel
theorem dX8_take_188 : decode cX8_take 188 = .ok (.goto (-91), 3) := by decide +kernel
theorem dX8_take_191 : decode cX8_take 191 = .ok (.iload 5, 2) := by decide +kernel
theorem dX8_take_193 : decode cX8_take 193 = .ok (.iload_n 3, 1) := by decide +kernel
theorem dX8_take_194 : decode cX8_take 194 = .ok (.if_icmp .le 9, 3) := by decide +kernel
theorem dX8_take_197 : decode cX8_take 197 = .ok (.iload 4, 2) := by decide +kernel
theorem dX8_take_199 : decode cX8_take 199 = .ok (.istore_n 2, 1) := by decide +kernel
theorem dX8_take_200 : decode cX8_take 200 = .ok (.iload 5, 2) := by decide +kernel
theorem dX8_take_202 : decode cX8_take 202 = .ok (.istore_n 3, 1) := by decide +kernel
theorem dX8_take_203 : decode cX8_take 203 = .ok (.iinc 4 1, 3) := by decide +kernel
theorem dX8_take_206 : decode cX8_take 206 = .ok (.goto (-126), 3) := by decide +kernel
theorem dX8_take_209 : decode cX8_take 209 = .ok (.iload_n 1, 1) := by decide +kernel
theorem dX8_take_210 : decode cX8_take 210 = .ok (.ifCond .ne 7, 3) := by decide +kernel
theorem dX8_take_213 : decode cX8_take 213 = .ok (.iload_n 2, 1) := by decide +kernel
theorem dX8_take_214 : decode cX8_take 214 = .ok (.goto 4, 3) := by decide +kernel
theorem dX8_take_217 : decode cX8_take 217 = .ok (.iload_n 3, 1) := by decide +kernel
theorem dX8_take_218 : decode cX8_take 218 = .ok (.ireturn, 1) := by decide +kernel
theorem dX8_drawn_0 : decode cX8_drawn 0 = .ok (.iload_n 2, 1) := by decide +kernel
theorem dX8_drawn_1 : decode cX8_drawn 1 = .ok (.i2l, 1) := by decide +kernel
theorem dX8_drawn_2 : decode cX8_drawn 2 = .ok (.lconst 0, 1) := by decide +kernel
theorem dX8_drawn_3 : decode cX8_drawn 3 = .ok (.ldc2_w 340, 3) := by decide +kernel
theorem dX8_drawn_6 : decode cX8_drawn 6 = .ok (.invokestatic 106, 3) := by decide +kernel
theorem dX8_drawn_9 : decode cX8_drawn 9 = .ok (.ifCond .ne 6, 3) := by decide +kernel
theorem dX8_drawn_12 : decode cX8_drawn 12 = .ok (.bipush (-2), 2) := by decide +kernel
theorem dX8_drawn_14 : decode cX8_drawn 14 = .ok (.ireturn, 1) := by decide +kernel
theorem dX8_drawn_15 : decode cX8_drawn 15 = .ok (.aload_n 0, 1) := by decide +kernel
theorem dX8_drawn_16 : decode cX8_drawn 16 = .ok (.getfield 103, 3) := by decide +kernel
theorem dX8_drawn_19 : decode cX8_drawn 19 = .ok (.iconst 2, 1) := by decide +kernel
theorem dX8_drawn_20 : decode cX8_drawn 20 = .ok (.if_icmp .ge 5, 3) := by decide +kernel
theorem dX8_drawn_23 : decode cX8_drawn 23 = .ok (.iconst 0, 1) := by decide +kernel
theorem dX8_drawn_24 : decode cX8_drawn 24 = .ok (.ireturn, 1) := by decide +kernel
theorem dX8_drawn_25 : decode cX8_drawn 25 = .ok (.iload_n 1, 1) := by decide +kernel
theorem dX8_drawn_26 : decode cX8_drawn 26 = .ok (.istore_n 3, 1) := by decide +kernel
theorem dX8_drawn_27 : decode cX8_drawn 27 = .ok (.aload_n 0, 1) := by decide +kernel
theorem dX8_drawn_28 : decode cX8_drawn 28 = .ok (.iconst 0, 1) := by decide +kernel
theorem dX8_drawn_29 : decode cX8_drawn 29 = .ok (.putfield 274, 3) := by decide +kernel
theorem dX8_drawn_32 : decode cX8_drawn 32 = .ok (.iconst 0, 1) := by decide +kernel
theorem dX8_drawn_33 : decode cX8_drawn 33 = .ok (.istore 4, 2) := by decide +kernel
theorem dX8_drawn_35 : decode cX8_drawn 35 = .ok (.iload 4, 2) := by decide +kernel
theorem dX8_drawn_37 : decode cX8_drawn 37 = .ok (.iload_n 2, 1) := by decide +kernel
theorem dX8_drawn_38 : decode cX8_drawn 38 = .ok (.if_icmp .ge 41, 3) := by decide +kernel
theorem dX8_drawn_41 : decode cX8_drawn 41 = .ok (.iload_n 3, 1) := by decide +kernel
theorem dX8_drawn_42 : decode cX8_drawn 42 = .ok (.ldc_w 342, 3) := by decide +kernel
theorem dX8_drawn_45 : decode cX8_drawn 45 = .ok (.imul, 1) := by decide +kernel
theorem dX8_drawn_46 : decode cX8_drawn 46 = .ok (.sipush 12345, 3) := by decide +kernel
theorem dX8_drawn_49 : decode cX8_drawn 49 = .ok (.iadd, 1) := by decide +kernel
theorem dX8_drawn_50 : decode cX8_drawn 50 = .ok (.istore_n 3, 1) := by decide +kernel
theorem dX8_drawn_51 : decode cX8_drawn 51 = .ok (.aload_n 0, 1) := by decide +kernel
theorem dX8_drawn_52 : decode cX8_drawn 52 = .ok (.iload_n 3, 1) := by decide +kernel
theorem dX8_drawn_53 : decode cX8_drawn 53 = .ok (.bipush 8, 2) := by decide +kernel
theorem dX8_drawn_55 : decode cX8_drawn 55 = .ok (.iushr, 1) := by decide +kernel
theorem dX8_drawn_56 : decode cX8_drawn 56 = .ok (.aload_n 0, 1) := by decide +kernel
theorem dX8_drawn_57 : decode cX8_drawn 57 = .ok (.getfield 103, 3) := by decide +kernel
theorem dX8_drawn_60 : decode cX8_drawn 60 = .ok (.iconst 1, 1) := by decide +kernel
theorem dX8_drawn_61 : decode cX8_drawn 61 = .ok (.isub, 1) := by decide +kernel
theorem dX8_drawn_62 : decode cX8_drawn 62 = .ok (.irem, 1) := by decide +kernel
theorem dX8_drawn_63 : decode cX8_drawn 63 = .ok (.iload_n 3, 1) := by decide +kernel
theorem dX8_drawn_64 : decode cX8_drawn 64 = .ok (.bipush 16, 2) := by decide +kernel
theorem dX8_drawn_66 : decode cX8_drawn 66 = .ok (.iushr, 1) := by decide +kernel
theorem dX8_drawn_67 : decode cX8_drawn 67 = .ok (.iconst 2, 1) := by decide +kernel
theorem dX8_drawn_68 : decode cX8_drawn 68 = .ok (.irem, 1) := by decide +kernel
theorem dX8_drawn_69 : decode cX8_drawn 69 = .ok (.iconst 0, 1) := by decide +kernel
theorem dX8_drawn_70 : decode cX8_drawn 70 = .ok (.invokevirtual 277, 3) := by decide +kernel
theorem dX8_drawn_73 : decode cX8_drawn 73 = .ok (.iinc 4 1, 3) := by decide +kernel
theorem dX8_drawn_76 : decode cX8_drawn 76 = .ok (.goto (-41), 3) := by decide +kernel
theorem dX8_drawn_79 : decode cX8_drawn 79 = .ok (.aload_n 0, 1) := by decide +kernel
theorem dX8_drawn_80 : decode cX8_drawn 80 = .ok (.getfield 274, 3) := by decide +kernel
theorem dX8_drawn_83 : decode cX8_drawn 83 = .ok (.ireturn, 1) := by decide +kernel
theorem dX8_chance_0 : decode cX8_chance 0 = .ok (.iload_n 2, 1) := by decide +kernel
theorem dX8_chance_1 : decode cX8_chance 1 = .ok (.i2l, 1) := by decide +kernel
theorem dX8_chance_2 : decode cX8_chance 2 = .ok (.lconst 1, 1) := by decide +kernel
theorem dX8_chance_3 : decode cX8_chance 3 = .ok (.ldc2_w 343, 3) := by decide +kernel
theorem dX8_chance_6 : decode cX8_chance 6 = .ok (.invokestatic 106, 3) := by decide +kernel
theorem dX8_chance_9 : decode cX8_chance 9 = .ok (.ifCond .eq 39, 3) := by decide +kernel
theorem dX8_chance_12 : decode cX8_chance 12 = .ok (.iload_n 3, 1) := by decide +kernel
theorem dX8_chance_13 : decode cX8_chance 13 = .ok (.i2l, 1) := by decide +kernel
theorem dX8_chance_14 : decode cX8_chance 14 = .ok (.lconst 0, 1) := by decide +kernel
theorem dX8_chance_15 : decode cX8_chance 15 = .ok (.ldc2_w 340, 3) := by decide +kernel
theorem dX8_chance_18 : decode cX8_chance 18 = .ok (.invokestatic 106, 3) := by decide +kernel
theorem dX8_chance_21 : decode cX8_chance 21 = .ok (.ifCond .eq 27, 3) := by decide +kernel
theorem dX8_chance_24 : decode cX8_chance 24 = .ok (.iload 4, 2) := by decide +kernel
theorem dX8_chance_26 : decode cX8_chance 26 = .ok (.i2l, 1) := by decide +kernel
theorem dX8_chance_27 : decode cX8_chance 27 = .ok (.lconst 0, 1) := by decide +kernel
theorem dX8_chance_28 : decode cX8_chance 28 = .ok (.ldc2_w 340, 3) := by decide +kernel
theorem dX8_chance_31 : decode cX8_chance 31 = .ok (.invokestatic 106, 3) := by decide +kernel
theorem dX8_chance_34 : decode cX8_chance 34 = .ok (.ifCond .eq 14, 3) := by decide +kernel
theorem dX8_chance_37 : decode cX8_chance 37 = .ok (.iload 5, 2) := by decide +kernel
theorem dX8_chance_39 : decode cX8_chance 39 = .ok (.i2l, 1) := by decide +kernel
theorem dX8_chance_40 : decode cX8_chance 40 = .ok (.lconst 0, 1) := by decide +kernel
theorem dX8_chance_41 : decode cX8_chance 41 = .ok (.lconst 1, 1) := by decide +kernel
theorem dX8_chance_42 : decode cX8_chance 42 = .ok (.invokestatic 106, 3) := by decide +kernel
theorem dX8_chance_45 : decode cX8_chance 45 = .ok (.ifCond .ne 7, 3) := by decide +kernel
theorem dX8_chance_48 : decode cX8_chance 48 = .ok (.ldc2_w 345, 3) := by decide +kernel
theorem dX8_chance_51 : decode cX8_chance 51 = .ok (.lreturn, 1) := by decide +kernel
theorem dX8_chance_52 : decode cX8_chance 52 = .ok (.lconst 0, 1) := by decide +kernel
theorem dX8_chance_53 : decode cX8_chance 53 = .ok (.lstore 6, 2) := by decide +kernel
theorem dX8_chance_55 : decode cX8_chance 55 = .ok (.iconst 0, 1) := by decide +kernel
theorem dX8_chance_56 : decode cX8_chance 56 = .ok (.istore 8, 2) := by decide +kernel
theorem dX8_chance_58 : decode cX8_chance 58 = .ok (.iload 8, 2) := by decide +kernel
theorem dX8_chance_60 : decode cX8_chance 60 = .ok (.iload_n 2, 1) := by decide +kernel
theorem dX8_chance_61 : decode cX8_chance 61 = .ok (.if_icmp .ge 33, 3) := by decide +kernel
theorem dX8_chance_64 : decode cX8_chance 64 = .ok (.lload 6, 2) := by decide +kernel
theorem dX8_chance_66 : decode cX8_chance 66 = .ok (.aload_n 0, 1) := by decide +kernel
theorem dX8_chance_67 : decode cX8_chance 67 = .ok (.iload_n 1, 1) := by decide +kernel
theorem dX8_chance_68 : decode cX8_chance 68 = .ok (.iload 8, 2) := by decide +kernel
theorem dX8_chance_70 : decode cX8_chance 70 = .ok (.iadd, 1) := by decide +kernel
theorem dX8_chance_71 : decode cX8_chance 71 = .ok (.iload_n 3, 1) := by decide +kernel
theorem dX8_chance_72 : decode cX8_chance 72 = .ok (.invokevirtual 347, 3) := by decide +kernel
theorem dX8_chance_75 : decode cX8_chance 75 = .ok (.iload 4, 2) := by decide +kernel
theorem dX8_chance_77 : decode cX8_chance 77 = .ok (.if_icmp .gt 7, 3) := by decide +kernel
theorem dX8_chance_80 : decode cX8_chance 80 = .ok (.lconst 1, 1) := by decide +kernel
theorem dX8_chance_81 : decode cX8_chance 81 = .ok (.goto 4, 3) := by decide +kernel
theorem dX8_chance_84 : decode cX8_chance 84 = .ok (.lconst 0, 1) := by decide +kernel
theorem dX8_chance_85 : decode cX8_chance 85 = .ok (.ladd, 1) := by decide +kernel
theorem dX8_chance_86 : decode cX8_chance 86 = .ok (.lstore 6, 2) := by decide +kernel
theorem dX8_chance_88 : decode cX8_chance 88 = .ok (.iinc 8 1, 3) := by decide +kernel
theorem dX8_chance_91 : decode cX8_chance 91 = .ok (.goto (-33), 3) := by decide +kernel
theorem dX8_chance_94 : decode cX8_chance 94 = .ok (.lload 6, 2) := by decide +kernel
theorem dX8_chance_96 : decode cX8_chance 96 = .ok (.lstore 8, 2) := by decide +kernel
theorem dX8_chance_98 : decode cX8_chance 98 = .ok (.iload_n 2, 1) := by decide +kernel
theorem dX8_chance_99 : decode cX8_chance 99 = .ok (.i2l, 1) := by decide +kernel
theorem dX8_chance_100 : decode cX8_chance 100 = .ok (.lstore 10, 2) := by decide +kernel
theorem dX8_chance_102 : decode cX8_chance 102 = .ok (.lload 10, 2) := by decide +kernel
theorem dX8_chance_104 : decode cX8_chance 104 = .ok (.lconst 0, 1) := by decide +kernel
theorem dX8_chance_105 : decode cX8_chance 105 = .ok (.lcmp, 1) := by decide +kernel
theorem dX8_chance_106 : decode cX8_chance 106 = .ok (.ifCond .eq 21, 3) := by decide +kernel
theorem dX8_chance_109 : decode cX8_chance 109 = .ok (.lload 8, 2) := by decide +kernel
theorem dX8_chance_111 : decode cX8_chance 111 = .ok (.lload 10, 2) := by decide +kernel
theorem dX8_chance_113 : decode cX8_chance 113 = .ok (.lrem, 1) := by decide +kernel
theorem dX8_chance_114 : decode cX8_chance 114 = .ok (.lstore 12, 2) := by decide +kernel
theorem dX8_chance_116 : decode cX8_chance 116 = .ok (.lload 10, 2) := by decide +kernel
theorem dX8_chance_118 : decode cX8_chance 118 = .ok (.lstore 8, 2) := by decide +kernel
theorem dX8_chance_120 : decode cX8_chance 120 = .ok (.lload 12, 2) := by decide +kernel
theorem dX8_chance_122 : decode cX8_chance 122 = .ok (.lstore 10, 2) := by decide +kernel
theorem dX8_chance_124 : decode cX8_chance 124 = .ok (.goto (-22), 3) := by decide +kernel
theorem dX8_chance_127 : decode cX8_chance 127 = .ok (.iload 5, 2) := by decide +kernel
theorem dX8_chance_129 : decode cX8_chance 129 = .ok (.ifCond .ne 11, 3) := by decide +kernel
theorem dX8_chance_132 : decode cX8_chance 132 = .ok (.lload 6, 2) := by decide +kernel
theorem dX8_chance_134 : decode cX8_chance 134 = .ok (.lload 8, 2) := by decide +kernel
theorem dX8_chance_136 : decode cX8_chance 136 = .ok (.ldiv, 1) := by decide +kernel
theorem dX8_chance_137 : decode cX8_chance 137 = .ok (.goto 8, 3) := by decide +kernel
theorem dX8_chance_140 : decode cX8_chance 140 = .ok (.iload_n 2, 1) := by decide +kernel
theorem dX8_chance_141 : decode cX8_chance 141 = .ok (.i2l, 1) := by decide +kernel
theorem dX8_chance_142 : decode cX8_chance 142 = .ok (.lload 8, 2) := by decide +kernel
theorem dX8_chance_144 : decode cX8_chance 144 = .ok (.ldiv, 1) := by decide +kernel
theorem dX8_chance_145 : decode cX8_chance 145 = .ok (.lreturn, 1) := by decide +kernel
theorem dX8_image_0 : decode cX8_image 0 = .ok (.iconst 0, 1) := by decide +kernel
theorem dX8_image_1 : decode cX8_image 1 = .ok (.istore_n 1, 1) := by decide +kernel
theorem dX8_image_2 : decode cX8_image 2 = .ok (.iload_n 1, 1) := by decide +kernel
theorem dX8_image_3 : decode cX8_image 3 = .ok (.bipush 6, 2) := by decide +kernel
theorem dX8_image_5 : decode cX8_image 5 = .ok (.if_icmp .ge 66, 3) := by decide +kernel
theorem dX8_image_8 : decode cX8_image 8 = .ok (.aload_n 0, 1) := by decide +kernel
theorem dX8_image_9 : decode cX8_image 9 = .ok (.getfield 74, 3) := by decide +kernel
theorem dX8_image_12 : decode cX8_image 12 = .ok (.iload_n 1, 1) := by decide +kernel
theorem dX8_image_13 : decode cX8_image 13 = .ok (.aload_n 0, 1) := by decide +kernel
theorem dX8_image_14 : decode cX8_image 14 = .ok (.getfield 35, 3) := by decide +kernel
theorem dX8_image_17 : decode cX8_image 17 = .ok (.iload_n 1, 1) := by decide +kernel
theorem dX8_image_18 : decode cX8_image 18 = .ok (.iaload, 1) := by decide +kernel
theorem dX8_image_19 : decode cX8_image 19 = .ok (.iastore, 1) := by decide +kernel
theorem dX8_image_20 : decode cX8_image 20 = .ok (.aload_n 0, 1) := by decide +kernel
theorem dX8_image_21 : decode cX8_image 21 = .ok (.getfield 74, 3) := by decide +kernel
theorem dX8_image_24 : decode cX8_image 24 = .ok (.bipush 6, 2) := by decide +kernel
theorem dX8_image_26 : decode cX8_image 26 = .ok (.iload_n 1, 1) := by decide +kernel
theorem dX8_image_27 : decode cX8_image 27 = .ok (.iadd, 1) := by decide +kernel
theorem dX8_image_28 : decode cX8_image 28 = .ok (.aload_n 0, 1) := by decide +kernel
theorem dX8_image_29 : decode cX8_image 29 = .ok (.getfield 26, 3) := by decide +kernel
theorem dX8_image_32 : decode cX8_image 32 = .ok (.iload_n 1, 1) := by decide +kernel
theorem dX8_image_33 : decode cX8_image 33 = .ok (.iaload, 1) := by decide +kernel
theorem dX8_image_34 : decode cX8_image 34 = .ok (.iastore, 1) := by decide +kernel
theorem dX8_image_35 : decode cX8_image 35 = .ok (.aload_n 0, 1) := by decide +kernel
theorem dX8_image_36 : decode cX8_image 36 = .ok (.getfield 74, 3) := by decide +kernel
theorem dX8_image_39 : decode cX8_image 39 = .ok (.bipush 12, 2) := by decide +kernel
theorem dX8_image_41 : decode cX8_image 41 = .ok (.iload_n 1, 1) := by decide +kernel
theorem dX8_image_42 : decode cX8_image 42 = .ok (.iadd, 1) := by decide +kernel
theorem dX8_image_43 : decode cX8_image 43 = .ok (.aload_n 0, 1) := by decide +kernel
theorem dX8_image_44 : decode cX8_image 44 = .ok (.getfield 29, 3) := by decide +kernel
theorem dX8_image_47 : decode cX8_image 47 = .ok (.iload_n 1, 1) := by decide +kernel
theorem dX8_image_48 : decode cX8_image 48 = .ok (.iaload, 1) := by decide +kernel
theorem dX8_image_49 : decode cX8_image 49 = .ok (.iastore, 1) := by decide +kernel
theorem dX8_image_50 : decode cX8_image 50 = .ok (.aload_n 0, 1) := by decide +kernel
theorem dX8_image_51 : decode cX8_image 51 = .ok (.getfield 74, 3) := by decide +kernel
theorem dX8_image_54 : decode cX8_image 54 = .ok (.bipush 18, 2) := by decide +kernel
theorem dX8_image_56 : decode cX8_image 56 = .ok (.iload_n 1, 1) := by decide +kernel
theorem dX8_image_57 : decode cX8_image 57 = .ok (.iadd, 1) := by decide +kernel
theorem dX8_image_58 : decode cX8_image 58 = .ok (.aload_n 0, 1) := by decide +kernel
theorem dX8_image_59 : decode cX8_image 59 = .ok (.getfield 32, 3) := by decide +kernel
theorem dX8_image_62 : decode cX8_image 62 = .ok (.iload_n 1, 1) := by decide +kernel
theorem dX8_image_63 : decode cX8_image 63 = .ok (.iaload, 1) := by decide +kernel
theorem dX8_image_64 : decode cX8_image 64 = .ok (.iastore, 1) := by decide +kernel
theorem dX8_image_65 : decode cX8_image 65 = .ok (.iinc 1 1, 3) := by decide +kernel
theorem dX8_image_68 : decode cX8_image 68 = .ok (.goto (-66), 3) := by decide +kernel
theorem dX8_image_71 : decode cX8_image 71 = .ok (.iconst 0, 1) := by decide +kernel
theorem dX8_image_72 : decode cX8_image 72 = .ok (.istore_n 1, 1) := by decide +kernel
theorem dX8_image_73 : decode cX8_image 73 = .ok (.iload_n 1, 1) := by decide +kernel
theorem dX8_image_74 : decode cX8_image 74 = .ok (.bipush 40, 2) := by decide +kernel
theorem dX8_image_76 : decode cX8_image 76 = .ok (.if_icmp .ge 36, 3) := by decide +kernel
theorem dX8_image_79 : decode cX8_image 79 = .ok (.aload_n 0, 1) := by decide +kernel
theorem dX8_image_80 : decode cX8_image 80 = .ok (.getfield 77, 3) := by decide +kernel
theorem dX8_image_83 : decode cX8_image 83 = .ok (.iload_n 1, 1) := by decide +kernel
theorem dX8_image_84 : decode cX8_image 84 = .ok (.aload_n 0, 1) := by decide +kernel
theorem dX8_image_85 : decode cX8_image 85 = .ok (.getfield 38, 3) := by decide +kernel
theorem dX8_image_88 : decode cX8_image 88 = .ok (.iload_n 1, 1) := by decide +kernel
theorem dX8_image_89 : decode cX8_image 89 = .ok (.iaload, 1) := by decide +kernel
theorem dX8_image_90 : decode cX8_image 90 = .ok (.iastore, 1) := by decide +kernel
theorem dX8_image_91 : decode cX8_image 91 = .ok (.aload_n 0, 1) := by decide +kernel
theorem dX8_image_92 : decode cX8_image 92 = .ok (.getfield 77, 3) := by decide +kernel
theorem dX8_image_95 : decode cX8_image 95 = .ok (.bipush 40, 2) := by decide +kernel
theorem dX8_image_97 : decode cX8_image 97 = .ok (.iload_n 1, 1) := by decide +kernel
theorem dX8_image_98 : decode cX8_image 98 = .ok (.iadd, 1) := by decide +kernel
theorem dX8_image_99 : decode cX8_image 99 = .ok (.aload_n 0, 1) := by decide +kernel
theorem dX8_image_100 : decode cX8_image 100 = .ok (.getfield 41, 3) := by decide +kernel
theorem dX8_image_103 : decode cX8_image 103 = .ok (.iload_n 1, 1) := by decide +kernel
theorem dX8_image_104 : decode cX8_image 104 = .ok (.iaload, 1) := by decide +kernel
theorem dX8_image_105 : decode cX8_image 105 = .ok (.iastore, 1) := by decide +kernel
theorem dX8_image_106 : decode cX8_image 106 = .ok (.iinc 1 1, 3) := by decide +kernel
theorem dX8_image_109 : decode cX8_image 109 = .ok (.goto (-36), 3) := by decide +kernel
theorem dX8_image_112 : decode cX8_image 112 = .ok (.aload_n 0, 1) := by decide +kernel
theorem dX8_image_113 : decode cX8_image 113 = .ok (.aload_n 0, 1) := by decide +kernel
theorem dX8_image_114 : decode cX8_image 114 = .ok (.getfield 103, 3) := by decide +kernel
theorem dX8_image_117 : decode cX8_image 117 = .ok (.putfield 80, 3) := by decide +kernel
theorem dX8_image_120 : decode cX8_image 120 = .ok (.aload_n 0, 1) := by decide +kernel
theorem dX8_image_121 : decode cX8_image 121 = .ok (.aload_n 0, 1) := by decide +kernel
theorem dX8_image_122 : decode cX8_image 122 = .ok (.getfield 116, 3) := by decide +kernel
theorem dX8_image_125 : decode cX8_image 125 = .ok (.putfield 350, 3) := by decide +kernel
theorem dX8_image_128 : decode cX8_image 128 = .ok (.aload_n 0, 1) := by decide +kernel
theorem dX8_image_129 : decode cX8_image 129 = .ok (.aload_n 0, 1) := by decide +kernel
theorem dX8_image_130 : decode cX8_image 130 = .ok (.getfield 252, 3) := by decide +kernel
theorem dX8_image_133 : decode cX8_image 133 = .ok (.putfield 353, 3) := by decide +kernel
theorem dX8_image_136 : decode cX8_image 136 = .ok (.aload_n 0, 1) := by decide +kernel
theorem dX8_image_137 : decode cX8_image 137 = .ok (.getfield 103, 3) := by decide +kernel
theorem dX8_image_140 : decode cX8_image 140 = .ok (.ireturn, 1) := by decide +kernel
theorem dX8_back_0 : decode cX8_back 0 = .ok (.aload_n 0, 1) := by decide +kernel
theorem dX8_back_1 : decode cX8_back 1 = .ok (.getfield 80, 3) := by decide +kernel
theorem dX8_back_4 : decode cX8_back 4 = .ok (.iconst (-1), 1) := by decide +kernel
theorem dX8_back_5 : decode cX8_back 5 = .ok (.if_icmp .ne 6, 3) := by decide +kernel
theorem dX8_back_8 : decode cX8_back 8 = .ok (.bipush (-3), 2) := by decide +kernel
theorem dX8_back_10 : decode cX8_back 10 = .ok (.ireturn, 1) := by decide +kernel
theorem dX8_back_11 : decode cX8_back 11 = .ok (.aload_n 0, 1) := by decide +kernel
theorem dX8_back_12 : decode cX8_back 12 = .ok (.aload_n 0, 1) := by decide +kernel
theorem dX8_back_13 : decode cX8_back 13 = .ok (.getfield 80, 3) := by decide +kernel
theorem dX8_back_16 : decode cX8_back 16 = .ok (.putfield 103, 3) := by decide +kernel
theorem dX8_back_19 : decode cX8_back 19 = .ok (.iconst 0, 1) := by decide +kernel
theorem dX8_back_20 : decode cX8_back 20 = .ok (.istore_n 1, 1) := by decide +kernel
theorem dX8_back_21 : decode cX8_back 21 = .ok (.iload_n 1, 1) := by decide +kernel
theorem dX8_back_22 : decode cX8_back 22 = .ok (.aload_n 0, 1) := by decide +kernel
theorem dX8_back_23 : decode cX8_back 23 = .ok (.getfield 103, 3) := by decide +kernel
theorem dX8_back_26 : decode cX8_back 26 = .ok (.if_icmp .ge 66, 3) := by decide +kernel
theorem dX8_back_29 : decode cX8_back 29 = .ok (.aload_n 0, 1) := by decide +kernel
theorem dX8_back_30 : decode cX8_back 30 = .ok (.getfield 35, 3) := by decide +kernel
theorem dX8_back_33 : decode cX8_back 33 = .ok (.iload_n 1, 1) := by decide +kernel
theorem dX8_back_34 : decode cX8_back 34 = .ok (.aload_n 0, 1) := by decide +kernel
theorem dX8_back_35 : decode cX8_back 35 = .ok (.getfield 74, 3) := by decide +kernel
theorem dX8_back_38 : decode cX8_back 38 = .ok (.iload_n 1, 1) := by decide +kernel
theorem dX8_back_39 : decode cX8_back 39 = .ok (.iaload, 1) := by decide +kernel
theorem dX8_back_40 : decode cX8_back 40 = .ok (.iastore, 1) := by decide +kernel
theorem dX8_back_41 : decode cX8_back 41 = .ok (.aload_n 0, 1) := by decide +kernel
theorem dX8_back_42 : decode cX8_back 42 = .ok (.getfield 26, 3) := by decide +kernel
theorem dX8_back_45 : decode cX8_back 45 = .ok (.iload_n 1, 1) := by decide +kernel
theorem dX8_back_46 : decode cX8_back 46 = .ok (.aload_n 0, 1) := by decide +kernel
theorem dX8_back_47 : decode cX8_back 47 = .ok (.getfield 74, 3) := by decide +kernel
theorem dX8_back_50 : decode cX8_back 50 = .ok (.bipush 6, 2) := by decide +kernel
theorem dX8_back_52 : decode cX8_back 52 = .ok (.iload_n 1, 1) := by decide +kernel
theorem dX8_back_53 : decode cX8_back 53 = .ok (.iadd, 1) := by decide +kernel
theorem dX8_back_54 : decode cX8_back 54 = .ok (.iaload, 1) := by decide +kernel
theorem dX8_back_55 : decode cX8_back 55 = .ok (.iastore, 1) := by decide +kernel
theorem dX8_back_56 : decode cX8_back 56 = .ok (.aload_n 0, 1) := by decide +kernel
theorem dX8_back_57 : decode cX8_back 57 = .ok (.getfield 29, 3) := by decide +kernel
theorem dX8_back_60 : decode cX8_back 60 = .ok (.iload_n 1, 1) := by decide +kernel
theorem dX8_back_61 : decode cX8_back 61 = .ok (.aload_n 0, 1) := by decide +kernel
theorem dX8_back_62 : decode cX8_back 62 = .ok (.getfield 74, 3) := by decide +kernel
theorem dX8_back_65 : decode cX8_back 65 = .ok (.bipush 12, 2) := by decide +kernel
theorem dX8_back_67 : decode cX8_back 67 = .ok (.iload_n 1, 1) := by decide +kernel
theorem dX8_back_68 : decode cX8_back 68 = .ok (.iadd, 1) := by decide +kernel
theorem dX8_back_69 : decode cX8_back 69 = .ok (.iaload, 1) := by decide +kernel
theorem dX8_back_70 : decode cX8_back 70 = .ok (.iastore, 1) := by decide +kernel
theorem dX8_back_71 : decode cX8_back 71 = .ok (.aload_n 0, 1) := by decide +kernel
theorem dX8_back_72 : decode cX8_back 72 = .ok (.getfield 32, 3) := by decide +kernel
theorem dX8_back_75 : decode cX8_back 75 = .ok (.iload_n 1, 1) := by decide +kernel
theorem dX8_back_76 : decode cX8_back 76 = .ok (.aload_n 0, 1) := by decide +kernel
theorem dX8_back_77 : decode cX8_back 77 = .ok (.getfield 74, 3) := by decide +kernel
theorem dX8_back_80 : decode cX8_back 80 = .ok (.bipush 18, 2) := by decide +kernel
theorem dX8_back_82 : decode cX8_back 82 = .ok (.iload_n 1, 1) := by decide +kernel
theorem dX8_back_83 : decode cX8_back 83 = .ok (.iadd, 1) := by decide +kernel
theorem dX8_back_84 : decode cX8_back 84 = .ok (.iaload, 1) := by decide +kernel
theorem dX8_back_85 : decode cX8_back 85 = .ok (.iastore, 1) := by decide +kernel
theorem dX8_back_86 : decode cX8_back 86 = .ok (.iinc 1 1, 3) := by decide +kernel
theorem dX8_back_89 : decode cX8_back 89 = .ok (.goto (-68), 3) := by decide +kernel
theorem dX8_back_92 : decode cX8_back 92 = .ok (.iconst 0, 1) := by decide +kernel
theorem dX8_back_93 : decode cX8_back 93 = .ok (.istore_n 1, 1) := by decide +kernel
theorem dX8_back_94 : decode cX8_back 94 = .ok (.iload_n 1, 1) := by decide +kernel
theorem dX8_back_95 : decode cX8_back 95 = .ok (.bipush 40, 2) := by decide +kernel
theorem dX8_back_97 : decode cX8_back 97 = .ok (.if_icmp .ge 36, 3) := by decide +kernel
theorem dX8_back_100 : decode cX8_back 100 = .ok (.aload_n 0, 1) := by decide +kernel
theorem dX8_back_101 : decode cX8_back 101 = .ok (.getfield 38, 3) := by decide +kernel
theorem dX8_back_104 : decode cX8_back 104 = .ok (.iload_n 1, 1) := by decide +kernel
theorem dX8_back_105 : decode cX8_back 105 = .ok (.aload_n 0, 1) := by decide +kernel
theorem dX8_back_106 : decode cX8_back 106 = .ok (.getfield 77, 3) := by decide +kernel
theorem dX8_back_109 : decode cX8_back 109 = .ok (.iload_n 1, 1) := by decide +kernel
theorem dX8_back_110 : decode cX8_back 110 = .ok (.iaload, 1) := by decide +kernel
theorem dX8_back_111 : decode cX8_back 111 = .ok (.iastore, 1) := by decide +kernel
theorem dX8_back_112 : decode cX8_back 112 = .ok (.aload_n 0, 1) := by decide +kernel
theorem dX8_back_113 : decode cX8_back 113 = .ok (.getfield 41, 3) := by decide +kernel
theorem dX8_back_116 : decode cX8_back 116 = .ok (.iload_n 1, 1) := by decide +kernel
theorem dX8_back_117 : decode cX8_back 117 = .ok (.aload_n 0, 1) := by decide +kernel
theorem dX8_back_118 : decode cX8_back 118 = .ok (.getfield 77, 3) := by decide +kernel
theorem dX8_back_121 : decode cX8_back 121 = .ok (.bipush 40, 2) := by decide +kernel
theorem dX8_back_123 : decode cX8_back 123 = .ok (.iload_n 1, 1) := by decide +kernel
theorem dX8_back_124 : decode cX8_back 124 = .ok (.iadd, 1) := by decide +kernel
theorem dX8_back_125 : decode cX8_back 125 = .ok (.iaload, 1) := by decide +kernel
theorem dX8_back_126 : decode cX8_back 126 = .ok (.iastore, 1) := by decide +kernel
theorem dX8_back_127 : decode cX8_back 127 = .ok (.iinc 1 1, 3) := by decide +kernel
theorem dX8_back_130 : decode cX8_back 130 = .ok (.goto (-36), 3) := by decide +kernel
theorem dX8_back_133 : decode cX8_back 133 = .ok (.aload_n 0, 1) := by decide +kernel
theorem dX8_back_134 : decode cX8_back 134 = .ok (.aload_n 0, 1) := by decide +kernel
theorem dX8_back_135 : decode cX8_back 135 = .ok (.getfield 350, 3) := by decide +kernel
theorem dX8_back_138 : decode cX8_back 138 = .ok (.putfield 116, 3) := by decide +kernel
theorem dX8_back_141 : decode cX8_back 141 = .ok (.aload_n 0, 1) := by decide +kernel
theorem dX8_back_142 : decode cX8_back 142 = .ok (.aload_n 0, 1) := by decide +kernel
theorem dX8_back_143 : decode cX8_back 143 = .ok (.getfield 353, 3) := by decide +kernel
theorem dX8_back_146 : decode cX8_back 146 = .ok (.putfield 252, 3) := by decide +kernel
theorem dX8_back_149 : decode cX8_back 149 = .ok (.aload_n 0, 1) := by decide +kernel
theorem dX8_back_150 : decode cX8_back 150 = .ok (.getfield 103, 3) := by decide +kernel
theorem dX8_back_153 : decode cX8_back 153 = .ok (.ireturn, 1) := by decide +kernel
theorem dX8_count_0 : decode cX8_count 0 = .ok (.iload_n 1, 1) := by decide +kernel
theorem dX8_count_1 : decode cX8_count 1 = .ok (.i2l, 1) := by decide +kernel
theorem dX8_count_2 : decode cX8_count 2 = .ok (.lconst 0, 1) := by decide +kernel
theorem dX8_count_3 : decode cX8_count 3 = .ok (.ldc2_w 110, 3) := by decide +kernel
theorem dX8_count_6 : decode cX8_count 6 = .ok (.invokestatic 106, 3) := by decide +kernel
theorem dX8_count_9 : decode cX8_count 9 = .ok (.ifCond .ne 6, 3) := by decide +kernel
theorem dX8_count_12 : decode cX8_count 12 = .ok (.bipush (-2), 2) := by decide +kernel
theorem dX8_count_14 : decode cX8_count 14 = .ok (.ireturn, 1) := by decide +kernel
theorem dX8_count_15 : decode cX8_count 15 = .ok (.iload_n 1, 1) := by decide +kernel
theorem dX8_count_16 : decode cX8_count 16 = .ok (.iconst 2, 1) := by decide +kernel
theorem dX8_count_17 : decode cX8_count 17 = .ok (.if_icmp .ne 13, 3) := by decide +kernel
theorem dX8_count_20 : decode cX8_count 20 = .ok (.aload_n 0, 1) := by decide +kernel
theorem dX8_count_21 : decode cX8_count 21 = .ok (.iconst 0, 1) := by decide +kernel
theorem dX8_count_22 : decode cX8_count 22 = .ok (.invokevirtual 281, 3) := by decide +kernel
theorem dX8_count_25 : decode cX8_count 25 = .ok (.aload_n 0, 1) := by decide +kernel
theorem dX8_count_26 : decode cX8_count 26 = .ok (.getfield 274, 3) := by decide +kernel
theorem dX8_count_29 : decode cX8_count 29 = .ok (.ireturn, 1) := by decide +kernel
theorem dX8_count_30 : decode cX8_count 30 = .ok (.iload_n 1, 1) := by decide +kernel
theorem dX8_count_31 : decode cX8_count 31 = .ok (.ifCond .ne 10, 3) := by decide +kernel
theorem dX8_count_34 : decode cX8_count 34 = .ok (.aload_n 0, 1) := by decide +kernel
theorem dX8_count_35 : decode cX8_count 35 = .ok (.getfield 103, 3) := by decide +kernel
theorem dX8_count_38 : decode cX8_count 38 = .ok (.goto 43, 3) := by decide +kernel
theorem dX8_count_41 : decode cX8_count 41 = .ok (.iload_n 1, 1) := by decide +kernel
theorem dX8_count_42 : decode cX8_count 42 = .ok (.iconst 1, 1) := by decide +kernel
theorem dX8_count_43 : decode cX8_count 43 = .ok (.if_icmp .ne 10, 3) := by decide +kernel
theorem dX8_count_46 : decode cX8_count 46 = .ok (.aload_n 0, 1) := by decide +kernel
theorem dX8_count_47 : decode cX8_count 47 = .ok (.getfield 116, 3) := by decide +kernel
theorem dX8_count_50 : decode cX8_count 50 = .ok (.goto 31, 3) := by decide +kernel
theorem dX8_count_53 : decode cX8_count 53 = .ok (.iload_n 1, 1) := by decide +kernel
theorem dX8_count_54 : decode cX8_count 54 = .ok (.iconst 3, 1) := by decide +kernel
theorem dX8_count_55 : decode cX8_count 55 = .ok (.if_icmp .ne 10, 3) := by decide +kernel
theorem dX8_count_58 : decode cX8_count 58 = .ok (.aload_n 0, 1) := by decide +kernel
theorem dX8_count_59 : decode cX8_count 59 = .ok (.getfield 100, 3) := by decide +kernel
theorem dX8_count_62 : decode cX8_count 62 = .ok (.goto 19, 3) := by decide +kernel
theorem dX8_count_65 : decode cX8_count 65 = .ok (.iload_n 1, 1) := by decide +kernel
theorem dX8_count_66 : decode cX8_count 66 = .ok (.iconst 4, 1) := by decide +kernel
theorem dX8_count_67 : decode cX8_count 67 = .ok (.if_icmp .ne 10, 3) := by decide +kernel
theorem dX8_count_70 : decode cX8_count 70 = .ok (.aload_n 0, 1) := by decide +kernel
theorem dX8_count_71 : decode cX8_count 71 = .ok (.getfield 137, 3) := by decide +kernel
theorem dX8_count_74 : decode cX8_count 74 = .ok (.goto 7, 3) := by decide +kernel
theorem dX8_count_77 : decode cX8_count 77 = .ok (.aload_n 0, 1) := by decide +kernel
theorem dX8_count_78 : decode cX8_count 78 = .ok (.getfield 252, 3) := by decide +kernel
theorem dX8_count_81 : decode cX8_count 81 = .ok (.ireturn, 1) := by decide +kernel
theorem dX8_isSheet_0 : decode cX8_isSheet 0 = .ok (.iload_n 0, 1) := by decide +kernel
theorem dX8_isSheet_1 : decode cX8_isSheet 1 = .ok (.i2l, 1) := by decide +kernel
theorem dX8_isSheet_2 : decode cX8_isSheet 2 = .ok (.lconst 0, 1) := by decide +kernel
theorem dX8_isSheet_3 : decode cX8_isSheet 3 = .ok (.ldc2_w 356, 3) := by decide +kernel
theorem dX8_isSheet_6 : decode cX8_isSheet 6 = .ok (.invokestatic 106, 3) := by decide +kernel
theorem dX8_isSheet_9 : decode cX8_isSheet 9 = .ok (.ireturn, 1) := by decide +kernel
theorem dX8_sheet_0 : decode cX8_sheet 0 = .ok (.iload_n 1, 1) := by decide +kernel
theorem dX8_sheet_1 : decode cX8_sheet 1 = .ok (.invokestatic 300, 3) := by decide +kernel
theorem dX8_sheet_4 : decode cX8_sheet 4 = .ok (.ifCond .eq 27, 3) := by decide +kernel
theorem dX8_sheet_7 : decode cX8_sheet 7 = .ok (.iload_n 2, 1) := by decide +kernel
theorem dX8_sheet_8 : decode cX8_sheet 8 = .ok (.i2l, 1) := by decide +kernel
theorem dX8_sheet_9 : decode cX8_sheet 9 = .ok (.ldc2_w 358, 3) := by decide +kernel
theorem dX8_sheet_12 : decode cX8_sheet 12 = .ok (.ldc2_w 123, 3) := by decide +kernel
theorem dX8_sheet_15 : decode cX8_sheet 15 = .ok (.invokestatic 106, 3) := by decide +kernel
theorem dX8_sheet_18 : decode cX8_sheet 18 = .ok (.ifCond .eq 13, 3) := by decide +kernel
theorem dX8_sheet_21 : decode cX8_sheet 21 = .ok (.iload_n 2, 1) := by decide +kernel
theorem dX8_sheet_22 : decode cX8_sheet 22 = .ok (.ifCond .lt 12, 3) := by decide +kernel
theorem dX8_sheet_25 : decode cX8_sheet 25 = .ok (.iload_n 3, 1) := by decide +kernel
theorem dX8_sheet_26 : decode cX8_sheet 26 = .ok (.bipush 40, 2) := by decide +kernel
theorem dX8_sheet_28 : decode cX8_sheet 28 = .ok (.if_icmp .le 6, 3) := by decide +kernel
theorem dX8_sheet_31 : decode cX8_sheet 31 = .ok (.bipush (-2), 2) := by decide +kernel
theorem dX8_sheet_33 : decode cX8_sheet 33 = .ok (.ireturn, 1) := by decide +kernel
theorem dX8_sheet_34 : decode cX8_sheet 34 = .ok (.iload_n 2, 1) := by decide +kernel
theorem dX8_sheet_35 : decode cX8_sheet 35 = .ok (.ifCond .lt 10, 3) := by decide +kernel
theorem dX8_sheet_38 : decode cX8_sheet 38 = .ok (.iload_n 3, 1) := by decide +kernel
theorem dX8_sheet_39 : decode cX8_sheet 39 = .ok (.ifCond .ge 6, 3) := by decide +kernel
theorem dX8_sheet_42 : decode cX8_sheet 42 = .ok (.bipush (-14), 2) := by decide +kernel
theorem dX8_sheet_44 : decode cX8_sheet 44 = .ok (.ireturn, 1) := by decide +kernel
theorem dX8_sheet_45 : decode cX8_sheet 45 = .ok (.aload_n 0, 1) := by decide +kernel
theorem dX8_sheet_46 : decode cX8_sheet 46 = .ok (.getfield 83, 3) := by decide +kernel
theorem dX8_sheet_49 : decode cX8_sheet 49 = .ok (.iload_n 1, 1) := by decide +kernel
theorem dX8_sheet_50 : decode cX8_sheet 50 = .ok (.iload_n 2, 1) := by decide +kernel
theorem dX8_sheet_51 : decode cX8_sheet 51 = .ok (.ifCond .lt 7, 3) := by decide +kernel
theorem dX8_sheet_54 : decode cX8_sheet 54 = .ok (.iconst 1, 1) := by decide +kernel
theorem dX8_sheet_55 : decode cX8_sheet 55 = .ok (.goto 4, 3) := by decide +kernel
theorem dX8_sheet_58 : decode cX8_sheet 58 = .ok (.iconst 0, 1) := by decide +kernel
theorem dX8_sheet_59 : decode cX8_sheet 59 = .ok (.bastore, 1) := by decide +kernel
theorem dX8_sheet_60 : decode cX8_sheet 60 = .ok (.aload_n 0, 1) := by decide +kernel
theorem dX8_sheet_61 : decode cX8_sheet 61 = .ok (.getfield 87, 3) := by decide +kernel
theorem dX8_sheet_64 : decode cX8_sheet 64 = .ok (.iload_n 1, 1) := by decide +kernel
theorem dX8_sheet_65 : decode cX8_sheet 65 = .ok (.iload_n 2, 1) := by decide +kernel
theorem dX8_sheet_66 : decode cX8_sheet 66 = .ok (.iastore, 1) := by decide +kernel
theorem dX8_sheet_67 : decode cX8_sheet 67 = .ok (.aload_n 0, 1) := by decide +kernel
theorem dX8_sheet_68 : decode cX8_sheet 68 = .ok (.getfield 90, 3) := by decide +kernel
theorem dX8_sheet_71 : decode cX8_sheet 71 = .ok (.iload_n 1, 1) := by decide +kernel
theorem dX8_sheet_72 : decode cX8_sheet 72 = .ok (.iload_n 3, 1) := by decide +kernel
theorem dX8_sheet_73 : decode cX8_sheet 73 = .ok (.iastore, 1) := by decide +kernel
theorem dX8_sheet_74 : decode cX8_sheet 74 = .ok (.iconst 0, 1) := by decide +kernel
theorem dX8_sheet_75 : decode cX8_sheet 75 = .ok (.istore 4, 2) := by decide +kernel
theorem dX8_sheet_77 : decode cX8_sheet 77 = .ok (.iload 4, 2) := by decide +kernel
theorem dX8_sheet_79 : decode cX8_sheet 79 = .ok (.iload_n 3, 1) := by decide +kernel
theorem dX8_sheet_80 : decode cX8_sheet 80 = .ok (.if_icmp .ge 26, 3) := by decide +kernel
theorem dX8_sheet_83 : decode cX8_sheet 83 = .ok (.iload_n 2, 1) := by decide +kernel
theorem dX8_sheet_84 : decode cX8_sheet 84 = .ok (.ifCond .lt 22, 3) := by decide +kernel
theorem dX8_sheet_87 : decode cX8_sheet 87 = .ok (.aload_n 0, 1) := by decide +kernel
theorem dX8_sheet_88 : decode cX8_sheet 88 = .ok (.getfield 93, 3) := by decide +kernel
theorem dX8_sheet_91 : decode cX8_sheet 91 = .ok (.bipush 40, 2) := by decide +kernel
theorem dX8_sheet_93 : decode cX8_sheet 93 = .ok (.iload_n 1, 1) := by decide +kernel
theorem dX8_sheet_94 : decode cX8_sheet 94 = .ok (.imul, 1) := by decide +kernel
theorem dX8_sheet_95 : decode cX8_sheet 95 = .ok (.iload 4, 2) := by decide +kernel
theorem dX8_sheet_97 : decode cX8_sheet 97 = .ok (.iadd, 1) := by decide +kernel
theorem dX8_sheet_98 : decode cX8_sheet 98 = .ok (.iconst 0, 1) := by decide +kernel
theorem dX8_sheet_99 : decode cX8_sheet 99 = .ok (.iastore, 1) := by decide +kernel
theorem dX8_sheet_100 : decode cX8_sheet 100 = .ok (.iinc 4 1, 3) := by decide +kernel
theorem dX8_sheet_103 : decode cX8_sheet 103 = .ok (.goto (-26), 3) := by decide +kernel
theorem dX8_sheet_106 : decode cX8_sheet 106 = .ok (.iconst 1, 1) := by decide +kernel
theorem dX8_sheet_107 : decode cX8_sheet 107 = .ok (.ireturn, 1) := by decide +kernel
theorem dX8_cell_0 : decode cX8_cell 0 = .ok (.iload_n 1, 1) := by decide +kernel
theorem dX8_cell_1 : decode cX8_cell 1 = .ok (.invokestatic 300, 3) := by decide +kernel
theorem dX8_cell_4 : decode cX8_cell 4 = .ok (.ifCond .ne 6, 3) := by decide +kernel
theorem dX8_cell_7 : decode cX8_cell 7 = .ok (.bipush (-2), 2) := by decide +kernel
theorem dX8_cell_9 : decode cX8_cell 9 = .ok (.ireturn, 1) := by decide +kernel
theorem dX8_cell_10 : decode cX8_cell 10 = .ok (.aload_n 0, 1) := by decide +kernel
theorem dX8_cell_11 : decode cX8_cell 11 = .ok (.getfield 83, 3) := by decide +kernel
theorem dX8_cell_14 : decode cX8_cell 14 = .ok (.iload_n 1, 1) := by decide +kernel
theorem dX8_cell_15 : decode cX8_cell 15 = .ok (.baload, 1) := by decide +kernel
theorem dX8_cell_16 : decode cX8_cell 16 = .ok (.ifCond .ne 6, 3) := by decide +kernel
theorem dX8_cell_19 : decode cX8_cell 19 = .ok (.bipush (-11), 2) := by decide +kernel
theorem dX8_cell_21 : decode cX8_cell 21 = .ok (.ireturn, 1) := by decide +kernel
theorem dX8_cell_22 : decode cX8_cell 22 = .ok (.iload_n 2, 1) := by decide +kernel
theorem dX8_cell_23 : decode cX8_cell 23 = .ok (.i2l, 1) := by decide +kernel
theorem dX8_cell_24 : decode cX8_cell 24 = .ok (.lconst 0, 1) := by decide +kernel
theorem dX8_cell_25 : decode cX8_cell 25 = .ok (.aload_n 0, 1) := by decide +kernel
theorem dX8_cell_26 : decode cX8_cell 26 = .ok (.getfield 90, 3) := by decide +kernel
theorem dX8_cell_29 : decode cX8_cell 29 = .ok (.iload_n 1, 1) := by decide +kernel
theorem dX8_cell_30 : decode cX8_cell 30 = .ok (.iaload, 1) := by decide +kernel
theorem dX8_cell_31 : decode cX8_cell 31 = .ok (.iconst 1, 1) := by decide +kernel
theorem dX8_cell_32 : decode cX8_cell 32 = .ok (.isub, 1) := by decide +kernel
theorem dX8_cell_33 : decode cX8_cell 33 = .ok (.i2l, 1) := by decide +kernel
theorem dX8_cell_34 : decode cX8_cell 34 = .ok (.invokestatic 106, 3) := by decide +kernel
theorem dX8_cell_37 : decode cX8_cell 37 = .ok (.ifCond .ne 6, 3) := by decide +kernel
theorem dX8_cell_40 : decode cX8_cell 40 = .ok (.bipush (-12), 2) := by decide +kernel
theorem dX8_cell_42 : decode cX8_cell 42 = .ok (.ireturn, 1) := by decide +kernel
theorem dX8_cell_43 : decode cX8_cell 43 = .ok (.aload_n 0, 1) := by decide +kernel
theorem dX8_cell_44 : decode cX8_cell 44 = .ok (.getfield 93, 3) := by decide +kernel
theorem dX8_cell_47 : decode cX8_cell 47 = .ok (.bipush 40, 2) := by decide +kernel
theorem dX8_cell_49 : decode cX8_cell 49 = .ok (.iload_n 1, 1) := by decide +kernel
theorem dX8_cell_50 : decode cX8_cell 50 = .ok (.imul, 1) := by decide +kernel
theorem dX8_cell_51 : decode cX8_cell 51 = .ok (.iload_n 2, 1) := by decide +kernel
theorem dX8_cell_52 : decode cX8_cell 52 = .ok (.iadd, 1) := by decide +kernel
theorem dX8_cell_53 : decode cX8_cell 53 = .ok (.aload_n 0, 1) := by decide +kernel
theorem dX8_cell_54 : decode cX8_cell 54 = .ok (.getfield 87, 3) := by decide +kernel
theorem dX8_cell_57 : decode cX8_cell 57 = .ok (.iload_n 1, 1) := by decide +kernel
theorem dX8_cell_58 : decode cX8_cell 58 = .ok (.iaload, 1) := by decide +kernel
theorem dX8_cell_59 : decode cX8_cell 59 = .ok (.ifCond .ne 8, 3) := by decide +kernel
theorem dX8_cell_62 : decode cX8_cell 62 = .ok (.iload_n 3, 1) := by decide +kernel
theorem dX8_cell_63 : decode cX8_cell 63 = .ok (.i2b, 1) := by decide +kernel
theorem dX8_cell_64 : decode cX8_cell 64 = .ok (.goto 19, 3) := by decide +kernel
theorem dX8_cell_67 : decode cX8_cell 67 = .ok (.aload_n 0, 1) := by decide +kernel
theorem dX8_cell_68 : decode cX8_cell 68 = .ok (.getfield 87, 3) := by decide +kernel
theorem dX8_cell_71 : decode cX8_cell 71 = .ok (.iload_n 1, 1) := by decide +kernel
theorem dX8_cell_72 : decode cX8_cell 72 = .ok (.iaload, 1) := by decide +kernel
theorem dX8_cell_73 : decode cX8_cell 73 = .ok (.iconst 1, 1) := by decide +kernel
theorem dX8_cell_74 : decode cX8_cell 74 = .ok (.if_icmp .ne 8, 3) := by decide +kernel
theorem dX8_cell_77 : decode cX8_cell 77 = .ok (.iload_n 3, 1) := by decide +kernel
theorem dX8_cell_78 : decode cX8_cell 78 = .ok (.i2s, 1) := by decide +kernel
theorem dX8_cell_79 : decode cX8_cell 79 = .ok (.goto 4, 3) := by decide +kernel
theorem dX8_cell_82 : decode cX8_cell 82 = .ok (.iload_n 3, 1) := by decide +kernel
theorem dX8_cell_83 : decode cX8_cell 83 = .ok (.iastore, 1) := by decide +kernel
theorem dX8_cell_84 : decode cX8_cell 84 = .ok (.iconst 1, 1) := by decide +kernel
theorem dX8_cell_85 : decode cX8_cell 85 = .ok (.ireturn, 1) := by decide +kernel
theorem dX8_copy_0 : decode cX8_copy 0 = .ok (.iload_n 1, 1) := by decide +kernel
theorem dX8_copy_1 : decode cX8_copy 1 = .ok (.invokestatic 300, 3) := by decide +kernel
theorem dX8_copy_4 : decode cX8_copy 4 = .ok (.ifCond .eq 10, 3) := by decide +kernel
theorem dX8_copy_7 : decode cX8_copy 7 = .ok (.iload_n 3, 1) := by decide +kernel
theorem dX8_copy_8 : decode cX8_copy 8 = .ok (.invokestatic 300, 3) := by decide +kernel
theorem dX8_copy_11 : decode cX8_copy 11 = .ok (.ifCond .ne 6, 3) := by decide +kernel
theorem dX8_copy_14 : decode cX8_copy 14 = .ok (.bipush (-2), 2) := by decide +kernel
theorem dX8_copy_16 : decode cX8_copy 16 = .ok (.ireturn, 1) := by decide +kernel
theorem dX8_copy_17 : decode cX8_copy 17 = .ok (.aload_n 0, 1) := by decide +kernel
theorem dX8_copy_18 : decode cX8_copy 18 = .ok (.getfield 83, 3) := by decide +kernel
theorem dX8_copy_21 : decode cX8_copy 21 = .ok (.iload_n 1, 1) := by decide +kernel
theorem dX8_copy_22 : decode cX8_copy 22 = .ok (.baload, 1) := by decide +kernel
theorem dX8_copy_23 : decode cX8_copy 23 = .ok (.ifCond .eq 12, 3) := by decide +kernel
theorem dX8_copy_26 : decode cX8_copy 26 = .ok (.aload_n 0, 1) := by decide +kernel
theorem dX8_copy_27 : decode cX8_copy 27 = .ok (.getfield 83, 3) := by decide +kernel
theorem dX8_copy_30 : decode cX8_copy 30 = .ok (.iload_n 3, 1) := by decide +kernel
theorem dX8_copy_31 : decode cX8_copy 31 = .ok (.baload, 1) := by decide +kernel
theorem dX8_copy_32 : decode cX8_copy 32 = .ok (.ifCond .ne 6, 3) := by decide +kernel
theorem dX8_copy_35 : decode cX8_copy 35 = .ok (.bipush (-11), 2) := by decide +kernel
theorem dX8_copy_37 : decode cX8_copy 37 = .ok (.ireturn, 1) := by decide +kernel
theorem dX8_copy_38 : decode cX8_copy 38 = .ok (.aload_n 0, 1) := by decide +kernel
theorem dX8_copy_39 : decode cX8_copy 39 = .ok (.getfield 87, 3) := by decide +kernel
theorem dX8_copy_42 : decode cX8_copy 42 = .ok (.iload_n 1, 1) := by decide +kernel
theorem dX8_copy_43 : decode cX8_copy 43 = .ok (.iaload, 1) := by decide +kernel
theorem dX8_copy_44 : decode cX8_copy 44 = .ok (.aload_n 0, 1) := by decide +kernel
theorem dX8_copy_45 : decode cX8_copy 45 = .ok (.getfield 87, 3) := by decide +kernel
theorem dX8_copy_48 : decode cX8_copy 48 = .ok (.iload_n 3, 1) := by decide +kernel
theorem dX8_copy_49 : decode cX8_copy 49 = .ok (.iaload, 1) := by decide +kernel
theorem dX8_copy_50 : decode cX8_copy 50 = .ok (.if_icmp .eq 6, 3) := by decide +kernel
theorem dX8_copy_53 : decode cX8_copy 53 = .ok (.bipush (-13), 2) := by decide +kernel
theorem dX8_copy_55 : decode cX8_copy 55 = .ok (.ireturn, 1) := by decide +kernel
theorem dX8_copy_56 : decode cX8_copy 56 = .ok (.iload 5, 2) := by decide +kernel
theorem dX8_copy_58 : decode cX8_copy 58 = .ok (.ifCond .lt 39, 3) := by decide +kernel
theorem dX8_copy_61 : decode cX8_copy 61 = .ok (.iload_n 2, 1) := by decide +kernel
theorem dX8_copy_62 : decode cX8_copy 62 = .ok (.ifCond .lt 35, 3) := by decide +kernel
theorem dX8_copy_65 : decode cX8_copy 65 = .ok (.iload 4, 2) := by decide +kernel
theorem dX8_copy_67 : decode cX8_copy 67 = .ok (.ifCond .lt 30, 3) := by decide +kernel
theorem dX8_copy_70 : decode cX8_copy 70 = .ok (.iload_n 2, 1) := by decide +kernel
theorem dX8_copy_71 : decode cX8_copy 71 = .ok (.aload_n 0, 1) := by decide +kernel
theorem dX8_copy_72 : decode cX8_copy 72 = .ok (.getfield 90, 3) := by decide +kernel
theorem dX8_copy_75 : decode cX8_copy 75 = .ok (.iload_n 1, 1) := by decide +kernel
theorem dX8_copy_76 : decode cX8_copy 76 = .ok (.iaload, 1) := by decide +kernel
theorem dX8_copy_77 : decode cX8_copy 77 = .ok (.iload 5, 2) := by decide +kernel
theorem dX8_copy_79 : decode cX8_copy 79 = .ok (.isub, 1) := by decide +kernel
theorem dX8_copy_80 : decode cX8_copy 80 = .ok (.if_icmp .gt 17, 3) := by decide +kernel
theorem dX8_copy_83 : decode cX8_copy 83 = .ok (.iload 4, 2) := by decide +kernel
theorem dX8_copy_85 : decode cX8_copy 85 = .ok (.aload_n 0, 1) := by decide +kernel
theorem dX8_copy_86 : decode cX8_copy 86 = .ok (.getfield 90, 3) := by decide +kernel
theorem dX8_copy_89 : decode cX8_copy 89 = .ok (.iload_n 3, 1) := by decide +kernel
theorem dX8_copy_90 : decode cX8_copy 90 = .ok (.iaload, 1) := by decide +kernel
theorem dX8_copy_91 : decode cX8_copy 91 = .ok (.iload 5, 2) := by decide +kernel
theorem dX8_copy_93 : decode cX8_copy 93 = .ok (.isub, 1) := by decide +kernel
theorem dX8_copy_94 : decode cX8_copy 94 = .ok (.if_icmp .le 6, 3) := by decide +kernel
theorem dX8_copy_97 : decode cX8_copy 97 = .ok (.bipush (-12), 2) := by decide +kernel
theorem dX8_copy_99 : decode cX8_copy 99 = .ok (.ireturn, 1) := by decide +kernel
theorem dX8_copy_100 : decode cX8_copy 100 = .ok (.iload_n 1, 1) := by decide +kernel
theorem dX8_copy_101 : decode cX8_copy 101 = .ok (.iload_n 3, 1) := by decide +kernel
theorem dX8_copy_102 : decode cX8_copy 102 = .ok (.if_icmp .ne 13, 3) := by decide +kernel
theorem dX8_copy_105 : decode cX8_copy 105 = .ok (.iload_n 2, 1) := by decide +kernel
theorem dX8_copy_106 : decode cX8_copy 106 = .ok (.iload 4, 2) := by decide +kernel
theorem dX8_copy_108 : decode cX8_copy 108 = .ok (.if_icmp .ge 7, 3) := by decide +kernel
theorem dX8_copy_111 : decode cX8_copy 111 = .ok (.iconst 1, 1) := by decide +kernel
theorem dX8_copy_112 : decode cX8_copy 112 = .ok (.goto 4, 3) := by decide +kernel
theorem dX8_copy_115 : decode cX8_copy 115 = .ok (.iconst 0, 1) := by decide +kernel
theorem dX8_copy_116 : decode cX8_copy 116 = .ok (.istore 6, 2) := by decide +kernel
theorem dX8_copy_118 : decode cX8_copy 118 = .ok (.iconst 0, 1) := by decide +kernel
theorem dX8_copy_119 : decode cX8_copy 119 = .ok (.istore 7, 2) := by decide +kernel
theorem dX8_copy_121 : decode cX8_copy 121 = .ok (.iload 7, 2) := by decide +kernel
theorem dX8_copy_123 : decode cX8_copy 123 = .ok (.iload 5, 2) := by decide +kernel
theorem dX8_copy_125 : decode cX8_copy 125 = .ok (.if_icmp .ge 57, 3) := by decide +kernel
theorem dX8_copy_128 : decode cX8_copy 128 = .ok (.iload 6, 2) := by decide +kernel
theorem dX8_copy_130 : decode cX8_copy 130 = .ok (.ifCond .eq 13, 3) := by decide +kernel
theorem dX8_copy_133 : decode cX8_copy 133 = .ok (.iload 5, 2) := by decide +kernel
theorem dX8_copy_135 : decode cX8_copy 135 = .ok (.iconst 1, 1) := by decide +kernel
theorem dX8_copy_136 : decode cX8_copy 136 = .ok (.isub, 1) := by decide +kernel
theorem dX8_copy_137 : decode cX8_copy 137 = .ok (.iload 7, 2) := by decide +kernel
theorem dX8_copy_139 : decode cX8_copy 139 = .ok (.isub, 1) := by decide +kernel
theorem dX8_copy_140 : decode cX8_copy 140 = .ok (.goto 5, 3) := by decide +kernel
theorem dX8_copy_143 : decode cX8_copy 143 = .ok (.iload 7, 2) := by decide +kernel
theorem dX8_copy_145 : decode cX8_copy 145 = .ok (.istore 8, 2) := by decide +kernel
theorem dX8_copy_147 : decode cX8_copy 147 = .ok (.aload_n 0, 1) := by decide +kernel
theorem dX8_copy_148 : decode cX8_copy 148 = .ok (.getfield 93, 3) := by decide +kernel
theorem dX8_copy_151 : decode cX8_copy 151 = .ok (.bipush 40, 2) := by decide +kernel
theorem dX8_copy_153 : decode cX8_copy 153 = .ok (.iload_n 3, 1) := by decide +kernel
theorem dX8_copy_154 : decode cX8_copy 154 = .ok (.imul, 1) := by decide +kernel
theorem dX8_copy_155 : decode cX8_copy 155 = .ok (.iload 4, 2) := by decide +kernel
theorem dX8_copy_157 : decode cX8_copy 157 = .ok (.iadd, 1) := by decide +kernel
theorem dX8_copy_158 : decode cX8_copy 158 = .ok (.iload 8, 2) := by decide +kernel
theorem dX8_copy_160 : decode cX8_copy 160 = .ok (.iadd, 1) := by decide +kernel
theorem dX8_copy_161 : decode cX8_copy 161 = .ok (.aload_n 0, 1) := by decide +kernel
theorem dX8_copy_162 : decode cX8_copy 162 = .ok (.getfield 93, 3) := by decide +kernel
theorem dX8_copy_165 : decode cX8_copy 165 = .ok (.bipush 40, 2) := by decide +kernel
theorem dX8_copy_167 : decode cX8_copy 167 = .ok (.iload_n 1, 1) := by decide +kernel
theorem dX8_copy_168 : decode cX8_copy 168 = .ok (.imul, 1) := by decide +kernel
theorem dX8_copy_169 : decode cX8_copy 169 = .ok (.iload_n 2, 1) := by decide +kernel
theorem dX8_copy_170 : decode cX8_copy 170 = .ok (.iadd, 1) := by decide +kernel
theorem dX8_copy_171 : decode cX8_copy 171 = .ok (.iload 8, 2) := by decide +kernel
theorem dX8_copy_173 : decode cX8_copy 173 = .ok (.iadd, 1) := by decide +kernel
theorem dX8_copy_174 : decode cX8_copy 174 = .ok (.iaload, 1) := by decide +kernel
theorem dX8_copy_175 : decode cX8_copy 175 = .ok (.iastore, 1) := by decide +kernel
theorem dX8_copy_176 : decode cX8_copy 176 = .ok (.iinc 7 1, 3) := by decide +kernel
theorem dX8_copy_179 : decode cX8_copy 179 = .ok (.goto (-58), 3) := by decide +kernel
theorem dX8_copy_182 : decode cX8_copy 182 = .ok (.iload 5, 2) := by decide +kernel
theorem dX8_copy_184 : decode cX8_copy 184 = .ok (.ireturn, 1) := by decide +kernel
theorem dX8_crossings_0 : decode cX8_crossings 0 = .ok (.iload_n 1, 1) := by decide +kernel
theorem dX8_crossings_1 : decode cX8_crossings 1 = .ok (.invokestatic 300, 3) := by decide +kernel
theorem dX8_crossings_4 : decode cX8_crossings 4 = .ok (.ifCond .eq 28, 3) := by decide +kernel
theorem dX8_crossings_7 : decode cX8_crossings 7 = .ok (.iload_n 2, 1) := by decide +kernel
theorem dX8_crossings_8 : decode cX8_crossings 8 = .ok (.i2l, 1) := by decide +kernel
theorem dX8_crossings_9 : decode cX8_crossings 9 = .ok (.lconst 0, 1) := by decide +kernel
theorem dX8_crossings_10 : decode cX8_crossings 10 = .ok (.ldc2_w 123, 3) := by decide +kernel
theorem dX8_crossings_13 : decode cX8_crossings 13 = .ok (.invokestatic 106, 3) := by decide +kernel
theorem dX8_crossings_16 : decode cX8_crossings 16 = .ok (.ifCond .eq 16, 3) := by decide +kernel
theorem dX8_crossings_19 : decode cX8_crossings 19 = .ok (.iload 4, 2) := by decide +kernel
theorem dX8_crossings_21 : decode cX8_crossings 21 = .ok (.i2l, 1) := by decide +kernel
theorem dX8_crossings_22 : decode cX8_crossings 22 = .ok (.lconst 0, 1) := by decide +kernel
theorem dX8_crossings_23 : decode cX8_crossings 23 = .ok (.ldc2_w 343, 3) := by decide +kernel
theorem dX8_crossings_26 : decode cX8_crossings 26 = .ok (.invokestatic 106, 3) := by decide +kernel
theorem dX8_crossings_29 : decode cX8_crossings 29 = .ok (.ifCond .ne 6, 3) := by decide +kernel
theorem dX8_crossings_32 : decode cX8_crossings 32 = .ok (.bipush (-2), 2) := by decide +kernel
theorem dX8_crossings_34 : decode cX8_crossings 34 = .ok (.ireturn, 1) := by decide +kernel
theorem dX8_crossings_35 : decode cX8_crossings 35 = .ok (.aload_n 0, 1) := by decide +kernel
theorem dX8_crossings_36 : decode cX8_crossings 36 = .ok (.getfield 83, 3) := by decide +kernel
theorem dX8_crossings_39 : decode cX8_crossings 39 = .ok (.iload_n 1, 1) := by decide +kernel
theorem dX8_crossings_40 : decode cX8_crossings 40 = .ok (.baload, 1) := by decide +kernel
theorem dX8_crossings_41 : decode cX8_crossings 41 = .ok (.ifCond .eq 16, 3) := by decide +kernel
theorem dX8_crossings_44 : decode cX8_crossings 44 = .ok (.aload_n 0, 1) := by decide +kernel
theorem dX8_crossings_45 : decode cX8_crossings 45 = .ok (.getfield 87, 3) := by decide +kernel
theorem dX8_crossings_48 : decode cX8_crossings 48 = .ok (.iload_n 1, 1) := by decide +kernel
theorem dX8_crossings_49 : decode cX8_crossings 49 = .ok (.iaload, 1) := by decide +kernel
theorem dX8_crossings_50 : decode cX8_crossings 50 = .ok (.iload_n 2, 1) := by decide +kernel
theorem dX8_crossings_51 : decode cX8_crossings 51 = .ok (.if_icmp .eq 6, 3) := by decide +kernel
theorem dX8_crossings_54 : decode cX8_crossings 54 = .ok (.bipush (-13), 2) := by decide +kernel
theorem dX8_crossings_56 : decode cX8_crossings 56 = .ok (.ireturn, 1) := by decide +kernel
theorem dX8_crossings_57 : decode cX8_crossings 57 = .ok (.aload_n 0, 1) := by decide +kernel
theorem dX8_crossings_58 : decode cX8_crossings 58 = .ok (.getfield 83, 3) := by decide +kernel
theorem dX8_crossings_61 : decode cX8_crossings 61 = .ok (.iload_n 1, 1) := by decide +kernel
theorem dX8_crossings_62 : decode cX8_crossings 62 = .ok (.baload, 1) := by decide +kernel
theorem dX8_crossings_63 : decode cX8_crossings 63 = .ok (.ifCond .ne 6, 3) := by decide +kernel
theorem dX8_crossings_66 : decode cX8_crossings 66 = .ok (.bipush (-11), 2) := by decide +kernel
theorem dX8_crossings_68 : decode cX8_crossings 68 = .ok (.ireturn, 1) := by decide +kernel
theorem dX8_crossings_69 : decode cX8_crossings 69 = .ok (.iconst 0, 1) := by decide +kernel
theorem dX8_crossings_70 : decode cX8_crossings 70 = .ok (.istore 5, 2) := by decide +kernel
theorem dX8_crossings_72 : decode cX8_crossings 72 = .ok (.iconst 0, 1) := by decide +kernel
theorem dX8_crossings_73 : decode cX8_crossings 73 = .ok (.istore 6, 2) := by decide +kernel
theorem dX8_crossings_75 : decode cX8_crossings 75 = .ok (.iload 6, 2) := by decide +kernel
theorem dX8_crossings_77 : decode cX8_crossings 77 = .ok (.iload 4, 2) := by decide +kernel
theorem dX8_crossings_79 : decode cX8_crossings 79 = .ok (.if_icmp .ge 79, 3) := by decide +kernel
theorem dX8_crossings_82 : decode cX8_crossings 82 = .ok (.iload_n 3, 1) := by decide +kernel
theorem dX8_crossings_83 : decode cX8_crossings 83 = .ok (.ifCond .lt 20, 3) := by decide +kernel
theorem dX8_crossings_86 : decode cX8_crossings 86 = .ok (.iload_n 3, 1) := by decide +kernel
theorem dX8_crossings_87 : decode cX8_crossings 87 = .ok (.aload_n 0, 1) := by decide +kernel
theorem dX8_crossings_88 : decode cX8_crossings 88 = .ok (.getfield 90, 3) := by decide +kernel
theorem dX8_crossings_91 : decode cX8_crossings 91 = .ok (.iload_n 1, 1) := by decide +kernel
theorem dX8_crossings_92 : decode cX8_crossings 92 = .ok (.iaload, 1) := by decide +kernel
theorem dX8_crossings_93 : decode cX8_crossings 93 = .ok (.iconst 2, 1) := by decide +kernel
theorem dX8_crossings_94 : decode cX8_crossings 94 = .ok (.iload 6, 2) := by decide +kernel
theorem dX8_crossings_96 : decode cX8_crossings 96 = .ok (.imul, 1) := by decide +kernel
theorem dX8_crossings_97 : decode cX8_crossings 97 = .ok (.isub, 1) := by decide +kernel
theorem dX8_crossings_98 : decode cX8_crossings 98 = .ok (.iconst 2, 1) := by decide +kernel
theorem dX8_crossings_99 : decode cX8_crossings 99 = .ok (.isub, 1) := by decide +kernel
theorem dX8_crossings_100 : decode cX8_crossings 100 = .ok (.if_icmp .le 6, 3) := by decide +kernel
theorem dX8_crossings_103 : decode cX8_crossings 103 = .ok (.bipush (-12), 2) := by decide +kernel
theorem dX8_crossings_105 : decode cX8_crossings 105 = .ok (.ireturn, 1) := by decide +kernel
theorem dX8_crossings_106 : decode cX8_crossings 106 = .ok (.bipush 40, 2) := by decide +kernel
theorem dX8_crossings_108 : decode cX8_crossings 108 = .ok (.iload_n 1, 1) := by decide +kernel
theorem dX8_crossings_109 : decode cX8_crossings 109 = .ok (.imul, 1) := by decide +kernel
theorem dX8_crossings_110 : decode cX8_crossings 110 = .ok (.iload_n 3, 1) := by decide +kernel
theorem dX8_crossings_111 : decode cX8_crossings 111 = .ok (.iadd, 1) := by decide +kernel
theorem dX8_crossings_112 : decode cX8_crossings 112 = .ok (.iconst 2, 1) := by decide +kernel
theorem dX8_crossings_113 : decode cX8_crossings 113 = .ok (.iload 6, 2) := by decide +kernel
theorem dX8_crossings_115 : decode cX8_crossings 115 = .ok (.imul, 1) := by decide +kernel
theorem dX8_crossings_116 : decode cX8_crossings 116 = .ok (.iadd, 1) := by decide +kernel
theorem dX8_crossings_117 : decode cX8_crossings 117 = .ok (.istore 7, 2) := by decide +kernel
theorem dX8_crossings_119 : decode cX8_crossings 119 = .ok (.iload 5, 2) := by decide +kernel
theorem dX8_crossings_121 : decode cX8_crossings 121 = .ok (.aload_n 0, 1) := by decide +kernel
theorem dX8_crossings_122 : decode cX8_crossings 122 = .ok (.aload_n 0, 1) := by decide +kernel
theorem dX8_crossings_123 : decode cX8_crossings 123 = .ok (.getfield 93, 3) := by decide +kernel
theorem dX8_crossings_126 : decode cX8_crossings 126 = .ok (.iload 7, 2) := by decide +kernel
theorem dX8_crossings_128 : decode cX8_crossings 128 = .ok (.iaload, 1) := by decide +kernel
theorem dX8_crossings_129 : decode cX8_crossings 129 = .ok (.aload_n 0, 1) := by decide +kernel
theorem dX8_crossings_130 : decode cX8_crossings 130 = .ok (.getfield 93, 3) := by decide +kernel
theorem dX8_crossings_133 : decode cX8_crossings 133 = .ok (.iload 7, 2) := by decide +kernel
theorem dX8_crossings_135 : decode cX8_crossings 135 = .ok (.iconst 1, 1) := by decide +kernel
theorem dX8_crossings_136 : decode cX8_crossings 136 = .ok (.iadd, 1) := by decide +kernel
theorem dX8_crossings_137 : decode cX8_crossings 137 = .ok (.iaload, 1) := by decide +kernel
theorem dX8_crossings_138 : decode cX8_crossings 138 = .ok (.invokevirtual 360, 3) := by decide +kernel
theorem dX8_crossings_141 : decode cX8_crossings 141 = .ok (.ifCond .lt 7, 3) := by decide +kernel
theorem dX8_crossings_144 : decode cX8_crossings 144 = .ok (.iconst 1, 1) := by decide +kernel
theorem dX8_crossings_145 : decode cX8_crossings 145 = .ok (.goto 4, 3) := by decide +kernel
theorem dX8_crossings_148 : decode cX8_crossings 148 = .ok (.iconst 0, 1) := by decide +kernel
theorem dX8_crossings_149 : decode cX8_crossings 149 = .ok (.iadd, 1) := by decide +kernel
theorem dX8_crossings_150 : decode cX8_crossings 150 = .ok (.istore 5, 2) := by decide +kernel
theorem dX8_crossings_152 : decode cX8_crossings 152 = .ok (.iinc 6 1, 3) := by decide +kernel
theorem dX8_crossings_155 : decode cX8_crossings 155 = .ok (.goto (-80), 3) := by decide +kernel
theorem dX8_crossings_158 : decode cX8_crossings 158 = .ok (.iload 5, 2) := by decide +kernel
theorem dX8_crossings_160 : decode cX8_crossings 160 = .ok (.ireturn, 1) := by decide +kernel
theorem dX8_over_0 : decode cX8_over 0 = .ok (.iload_n 0, 1) := by decide +kernel
theorem dX8_over_1 : decode cX8_over 1 = .ok (.ifCond .ne 7, 3) := by decide +kernel
theorem dX8_over_4 : decode cX8_over 4 = .ok (.iconst (-1), 1) := by decide +kernel
theorem dX8_over_5 : decode cX8_over 5 = .ok (.goto 27, 3) := by decide +kernel
theorem dX8_over_8 : decode cX8_over 8 = .ok (.iload_n 0, 1) := by decide +kernel
theorem dX8_over_9 : decode cX8_over 9 = .ok (.iconst 1, 1) := by decide +kernel
theorem dX8_over_10 : decode cX8_over 10 = .ok (.if_icmp .eq 8, 3) := by decide +kernel
theorem dX8_over_13 : decode cX8_over 13 = .ok (.iload_n 0, 1) := by decide +kernel
theorem dX8_over_14 : decode cX8_over 14 = .ok (.iconst 2, 1) := by decide +kernel
theorem dX8_over_15 : decode cX8_over 15 = .ok (.if_icmp .ne 7, 3) := by decide +kernel
theorem dX8_over_18 : decode cX8_over 18 = .ok (.iconst 0, 1) := by decide +kernel
theorem dX8_over_19 : decode cX8_over 19 = .ok (.goto 13, 3) := by decide +kernel
theorem dX8_over_22 : decode cX8_over 22 = .ok (.iload_n 0, 1) := by decide +kernel
theorem dX8_over_23 : decode cX8_over 23 = .ok (.iconst 4, 1) := by decide +kernel
theorem dX8_over_24 : decode cX8_over 24 = .ok (.if_icmp .ne 7, 3) := by decide +kernel
theorem dX8_over_27 : decode cX8_over 27 = .ok (.iconst 2, 1) := by decide +kernel
theorem dX8_over_28 : decode cX8_over 28 = .ok (.goto 4, 3) := by decide +kernel
theorem dX8_over_31 : decode cX8_over 31 = .ok (.iconst 1, 1) := by decide +kernel
theorem dX8_over_32 : decode cX8_over 32 = .ok (.ireturn, 1) := by decide +kernel
theorem dX8_taken_0 : decode cX8_taken 0 = .ok (.iload_n 2, 1) := by decide +kernel
theorem dX8_taken_1 : decode cX8_taken 1 = .ok (.i2l, 1) := by decide +kernel
theorem dX8_taken_2 : decode cX8_taken 2 = .ok (.lconst 0, 1) := by decide +kernel
theorem dX8_taken_3 : decode cX8_taken 3 = .ok (.ldc2_w 110, 3) := by decide +kernel
theorem dX8_taken_6 : decode cX8_taken 6 = .ok (.invokestatic 106, 3) := by decide +kernel
theorem dX8_taken_9 : decode cX8_taken 9 = .ok (.ifCond .ne 6, 3) := by decide +kernel
theorem dX8_taken_12 : decode cX8_taken 12 = .ok (.bipush (-2), 2) := by decide +kernel
theorem dX8_taken_14 : decode cX8_taken 14 = .ok (.ireturn, 1) := by decide +kernel
theorem dX8_taken_15 : decode cX8_taken 15 = .ok (.aload_n 0, 1) := by decide +kernel
theorem dX8_taken_16 : decode cX8_taken 16 = .ok (.iload_n 1, 1) := by decide +kernel
theorem dX8_taken_17 : decode cX8_taken 17 = .ok (.invokevirtual 119, 3) := by decide +kernel
theorem dX8_taken_20 : decode cX8_taken 20 = .ok (.ifCond .ne 6, 3) := by decide +kernel
theorem dX8_taken_23 : decode cX8_taken 23 = .ok (.bipush (-11), 2) := by decide +kernel
theorem dX8_taken_25 : decode cX8_taken 25 = .ok (.ireturn, 1) := by decide +kernel
theorem dX8_taken_26 : decode cX8_taken 26 = .ok (.aload_n 0, 1) := by decide +kernel
theorem dX8_taken_27 : decode cX8_taken 27 = .ok (.getfield 23, 3) := by decide +kernel
theorem dX8_taken_30 : decode cX8_taken 30 = .ok (.iload_n 1, 1) := by decide +kernel
theorem dX8_taken_31 : decode cX8_taken 31 = .ok (.iaload, 1) := by decide +kernel
theorem dX8_taken_32 : decode cX8_taken 32 = .ok (.istore_n 3, 1) := by decide +kernel
theorem dX8_taken_33 : decode cX8_taken 33 = .ok (.iload_n 3, 1) := by decide +kernel
theorem dX8_taken_34 : decode cX8_taken 34 = .ok (.iconst (-1), 1) := by decide +kernel
theorem dX8_taken_35 : decode cX8_taken 35 = .ok (.if_icmp .eq 16, 3) := by decide +kernel
theorem dX8_taken_38 : decode cX8_taken 38 = .ok (.iload_n 3, 1) := by decide +kernel
theorem dX8_taken_39 : decode cX8_taken 39 = .ok (.iload_n 2, 1) := by decide +kernel
theorem dX8_taken_40 : decode cX8_taken 40 = .ok (.if_icmp .eq 11, 3) := by decide +kernel
theorem dX8_taken_43 : decode cX8_taken 43 = .ok (.iload_n 3, 1) := by decide +kernel
theorem dX8_taken_44 : decode cX8_taken 44 = .ok (.invokestatic 363, 3) := by decide +kernel
theorem dX8_taken_47 : decode cX8_taken 47 = .ok (.istore_n 3, 1) := by decide +kernel
theorem dX8_taken_48 : decode cX8_taken 48 = .ok (.goto (-15), 3) := by decide +kernel
theorem dX8_taken_51 : decode cX8_taken 51 = .ok (.iload_n 3, 1) := by decide +kernel
theorem dX8_taken_52 : decode cX8_taken 52 = .ok (.iload_n 2, 1) := by decide +kernel
theorem dX8_taken_53 : decode cX8_taken 53 = .ok (.if_icmp .ne 12, 3) := by decide +kernel
theorem dX8_taken_56 : decode cX8_taken 56 = .ok (.aload_n 0, 1) := by decide +kernel
theorem dX8_taken_57 : decode cX8_taken 57 = .ok (.getfield 29, 3) := by decide +kernel
theorem dX8_taken_60 : decode cX8_taken 60 = .ok (.iload_n 1, 1) := by decide +kernel
theorem dX8_taken_61 : decode cX8_taken 61 = .ok (.iaload, 1) := by decide +kernel
theorem dX8_taken_62 : decode cX8_taken 62 = .ok (.goto 5, 3) := by decide +kernel
theorem dX8_taken_65 : decode cX8_taken 65 = .ok (.bipush (-13), 2) := by decide +kernel
theorem dX8_taken_67 : decode cX8_taken 67 = .ok (.ireturn, 1) := by decide +kernel
