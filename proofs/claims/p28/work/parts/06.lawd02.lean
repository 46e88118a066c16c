theorem dL_isWhole_365 : decode cL_isWhole 365 = .ok (.iconst 0, 1) := by decide +kernel
theorem dL_isWhole_366 : decode cL_isWhole 366 = .ok (.invokevirtual 56, 3) := by decide +kernel
theorem dL_isWhole_369 : decode cL_isWhole 369 = .ok (.bipush 120, 2) := by decide +kernel
theorem dL_isWhole_371 : decode cL_isWhole 371 = .ok (.if_icmp .gt 25, 3) := by decide +kernel
theorem dL_isWhole_374 : decode cL_isWhole 374 = .ok (.aload_n 0, 1) := by decide +kernel
theorem dL_isWhole_375 : decode cL_isWhole 375 = .ok (.invokevirtual 80, 3) := by decide +kernel
theorem dL_isWhole_378 : decode cL_isWhole 378 = .ok (.dconst 0, 1) := by decide +kernel
theorem dL_isWhole_379 : decode cL_isWhole 379 = .ok (.dcmp .l, 1) := by decide +kernel
theorem dL_isWhole_380 : decode cL_isWhole 380 = .ok (.ifCond .lt 16, 3) := by decide +kernel
theorem dL_isWhole_383 : decode cL_isWhole 383 = .ok (.aload_n 0, 1) := by decide +kernel
theorem dL_isWhole_384 : decode cL_isWhole 384 = .ok (.invokevirtual 80, 3) := by decide +kernel
theorem dL_isWhole_387 : decode cL_isWhole 387 = .ok (.dconst 1, 1) := by decide +kernel
theorem dL_isWhole_388 : decode cL_isWhole 388 = .ok (.dcmp .g, 1) := by decide +kernel
theorem dL_isWhole_389 : decode cL_isWhole 389 = .ok (.ifCond .gt 7, 3) := by decide +kernel
theorem dL_isWhole_392 : decode cL_isWhole 392 = .ok (.iconst 1, 1) := by decide +kernel
theorem dL_isWhole_393 : decode cL_isWhole 393 = .ok (.goto 4, 3) := by decide +kernel
theorem dL_isWhole_396 : decode cL_isWhole 396 = .ok (.iconst 0, 1) := by decide +kernel
theorem dL_isWhole_397 : decode cL_isWhole 397 = .ok (.ireturn, 1) := by decide +kernel
theorem dL_refusesAny_0 : decode cL_refusesAny 0 = .ok (.iload_n 1, 1) := by decide +kernel
theorem dL_refusesAny_1 : decode cL_refusesAny 1 = .ok (.iconst 2, 1) := by decide +kernel
theorem dL_refusesAny_2 : decode cL_refusesAny 2 = .ok (.irem, 1) := by decide +kernel
theorem dL_refusesAny_3 : decode cL_refusesAny 3 = .ok (.ifCond .ne 12, 3) := by decide +kernel
theorem dL_refusesAny_6 : decode cL_refusesAny 6 = .ok (.iconst (-1), 1) := by decide +kernel
theorem dL_refusesAny_7 : decode cL_refusesAny 7 = .ok (.iload_n 1, 1) := by decide +kernel
theorem dL_refusesAny_8 : decode cL_refusesAny 8 = .ok (.bipush 99, 2) := by decide +kernel
theorem dL_refusesAny_10 : decode cL_refusesAny 10 = .ok (.irem, 1) := by decide +kernel
theorem dL_refusesAny_11 : decode cL_refusesAny 11 = .ok (.isub, 1) := by decide +kernel
theorem dL_refusesAny_12 : decode cL_refusesAny 12 = .ok (.goto 10, 3) := by decide +kernel
theorem dL_refusesAny_15 : decode cL_refusesAny 15 = .ok (.bipush 8, 2) := by decide +kernel
theorem dL_refusesAny_17 : decode cL_refusesAny 17 = .ok (.iload_n 1, 1) := by decide +kernel
theorem dL_refusesAny_18 : decode cL_refusesAny 18 = .ok (.bipush 99, 2) := by decide +kernel
theorem dL_refusesAny_20 : decode cL_refusesAny 20 = .ok (.irem, 1) := by decide +kernel
theorem dL_refusesAny_21 : decode cL_refusesAny 21 = .ok (.iadd, 1) := by decide +kernel
theorem dL_refusesAny_22 : decode cL_refusesAny 22 = .ok (.istore_n 2, 1) := by decide +kernel
theorem dL_refusesAny_23 : decode cL_refusesAny 23 = .ok (.iload_n 1, 1) := by decide +kernel
theorem dL_refusesAny_24 : decode cL_refusesAny 24 = .ok (.iconst 2, 1) := by decide +kernel
theorem dL_refusesAny_25 : decode cL_refusesAny 25 = .ok (.irem, 1) := by decide +kernel
theorem dL_refusesAny_26 : decode cL_refusesAny 26 = .ok (.ifCond .ne 12, 3) := by decide +kernel
theorem dL_refusesAny_29 : decode cL_refusesAny 29 = .ok (.iconst (-1), 1) := by decide +kernel
theorem dL_refusesAny_30 : decode cL_refusesAny 30 = .ok (.iload_n 1, 1) := by decide +kernel
theorem dL_refusesAny_31 : decode cL_refusesAny 31 = .ok (.bipush 99, 2) := by decide +kernel
theorem dL_refusesAny_33 : decode cL_refusesAny 33 = .ok (.irem, 1) := by decide +kernel
theorem dL_refusesAny_34 : decode cL_refusesAny 34 = .ok (.isub, 1) := by decide +kernel
theorem dL_refusesAny_35 : decode cL_refusesAny 35 = .ok (.goto 11, 3) := by decide +kernel
theorem dL_refusesAny_38 : decode cL_refusesAny 38 = .ok (.sipush 4096, 3) := by decide +kernel
theorem dL_refusesAny_41 : decode cL_refusesAny 41 = .ok (.iload_n 1, 1) := by decide +kernel
theorem dL_refusesAny_42 : decode cL_refusesAny 42 = .ok (.bipush 99, 2) := by decide +kernel
theorem dL_refusesAny_44 : decode cL_refusesAny 44 = .ok (.irem, 1) := by decide +kernel
theorem dL_refusesAny_45 : decode cL_refusesAny 45 = .ok (.iadd, 1) := by decide +kernel
theorem dL_refusesAny_46 : decode cL_refusesAny 46 = .ok (.istore_n 3, 1) := by decide +kernel
theorem dL_refusesAny_47 : decode cL_refusesAny 47 = .ok (.aload_n 0, 1) := by decide +kernel
theorem dL_refusesAny_48 : decode cL_refusesAny 48 = .ok (.iconst 0, 1) := by decide +kernel
theorem dL_refusesAny_49 : decode cL_refusesAny 49 = .ok (.iload_n 2, 1) := by decide +kernel
theorem dL_refusesAny_50 : decode cL_refusesAny 50 = .ok (.bipush 9, 2) := by decide +kernel
theorem dL_refusesAny_52 : decode cL_refusesAny 52 = .ok (.invokestatic 84, 3) := by decide +kernel
theorem dL_refusesAny_55 : decode cL_refusesAny 55 = .ok (.bipush (-10), 2) := by decide +kernel
theorem dL_refusesAny_57 : decode cL_refusesAny 57 = .ok (.if_icmp .ne 276, 3) := by decide +kernel
theorem dL_refusesAny_60 : decode cL_refusesAny 60 = .ok (.aload_n 0, 1) := by decide +kernel
theorem dL_refusesAny_61 : decode cL_refusesAny 61 = .ok (.iconst 0, 1) := by decide +kernel
theorem dL_refusesAny_62 : decode cL_refusesAny 62 = .ok (.iconst 0, 1) := by decide +kernel
theorem dL_refusesAny_63 : decode cL_refusesAny 63 = .ok (.iload_n 1, 1) := by decide +kernel
theorem dL_refusesAny_64 : decode cL_refusesAny 64 = .ok (.iconst 2, 1) := by decide +kernel
theorem dL_refusesAny_65 : decode cL_refusesAny 65 = .ok (.irem, 1) := by decide +kernel
theorem dL_refusesAny_66 : decode cL_refusesAny 66 = .ok (.ifCond .ne 7, 3) := by decide +kernel
theorem dL_refusesAny_69 : decode cL_refusesAny 69 = .ok (.iconst (-1), 1) := by decide +kernel
theorem dL_refusesAny_70 : decode cL_refusesAny 70 = .ok (.goto 4, 3) := by decide +kernel
theorem dL_refusesAny_73 : decode cL_refusesAny 73 = .ok (.iconst 4, 1) := by decide +kernel
theorem dL_refusesAny_74 : decode cL_refusesAny 74 = .ok (.invokestatic 84, 3) := by decide +kernel
theorem dL_refusesAny_77 : decode cL_refusesAny 77 = .ok (.bipush (-11), 2) := by decide +kernel
theorem dL_refusesAny_79 : decode cL_refusesAny 79 = .ok (.if_icmp .ne 254, 3) := by decide +kernel
theorem dL_refusesAny_82 : decode cL_refusesAny 82 = .ok (.aload_n 0, 1) := by decide +kernel
theorem dL_refusesAny_83 : decode cL_refusesAny 83 = .ok (.iconst 1, 1) := by decide +kernel
theorem dL_refusesAny_84 : decode cL_refusesAny 84 = .ok (.iload_n 2, 1) := by decide +kernel
theorem dL_refusesAny_85 : decode cL_refusesAny 85 = .ok (.bipush 9, 2) := by decide +kernel
theorem dL_refusesAny_87 : decode cL_refusesAny 87 = .ok (.invokestatic 84, 3) := by decide +kernel
theorem dL_refusesAny_90 : decode cL_refusesAny 90 = .ok (.bipush (-10), 2) := by decide +kernel
theorem dL_refusesAny_92 : decode cL_refusesAny 92 = .ok (.if_icmp .ne 241, 3) := by decide +kernel
theorem dL_refusesAny_95 : decode cL_refusesAny 95 = .ok (.aload_n 0, 1) := by decide +kernel
theorem dL_refusesAny_96 : decode cL_refusesAny 96 = .ok (.iconst 1, 1) := by decide +kernel
theorem dL_refusesAny_97 : decode cL_refusesAny 97 = .ok (.iconst 0, 1) := by decide +kernel
theorem dL_refusesAny_98 : decode cL_refusesAny 98 = .ok (.iload_n 1, 1) := by decide +kernel
theorem dL_refusesAny_99 : decode cL_refusesAny 99 = .ok (.iconst 2, 1) := by decide +kernel
theorem dL_refusesAny_100 : decode cL_refusesAny 100 = .ok (.irem, 1) := by decide +kernel
theorem dL_refusesAny_101 : decode cL_refusesAny 101 = .ok (.ifCond .ne 7, 3) := by decide +kernel
theorem dL_refusesAny_104 : decode cL_refusesAny 104 = .ok (.iconst (-1), 1) := by decide +kernel
theorem dL_refusesAny_105 : decode cL_refusesAny 105 = .ok (.goto 5, 3) := by decide +kernel
theorem dL_refusesAny_108 : decode cL_refusesAny 108 = .ok (.bipush 7, 2) := by decide +kernel
theorem dL_refusesAny_110 : decode cL_refusesAny 110 = .ok (.invokestatic 84, 3) := by decide +kernel
theorem dL_refusesAny_113 : decode cL_refusesAny 113 = .ok (.bipush (-11), 2) := by decide +kernel
theorem dL_refusesAny_115 : decode cL_refusesAny 115 = .ok (.if_icmp .ne 218, 3) := by decide +kernel
theorem dL_refusesAny_118 : decode cL_refusesAny 118 = .ok (.aload_n 0, 1) := by decide +kernel
theorem dL_refusesAny_119 : decode cL_refusesAny 119 = .ok (.iconst 2, 1) := by decide +kernel
theorem dL_refusesAny_120 : decode cL_refusesAny 120 = .ok (.iload_n 1, 1) := by decide +kernel
theorem dL_refusesAny_121 : decode cL_refusesAny 121 = .ok (.iconst 2, 1) := by decide +kernel
theorem dL_refusesAny_122 : decode cL_refusesAny 122 = .ok (.irem, 1) := by decide +kernel
theorem dL_refusesAny_123 : decode cL_refusesAny 123 = .ok (.ifCond .ne 7, 3) := by decide +kernel
theorem dL_refusesAny_126 : decode cL_refusesAny 126 = .ok (.iconst (-1), 1) := by decide +kernel
theorem dL_refusesAny_127 : decode cL_refusesAny 127 = .ok (.goto 4, 3) := by decide +kernel
theorem dL_refusesAny_130 : decode cL_refusesAny 130 = .ok (.iconst 3, 1) := by decide +kernel
theorem dL_refusesAny_131 : decode cL_refusesAny 131 = .ok (.sipush 999, 3) := by decide +kernel
theorem dL_refusesAny_134 : decode cL_refusesAny 134 = .ok (.invokestatic 84, 3) := by decide +kernel
theorem dL_refusesAny_137 : decode cL_refusesAny 137 = .ok (.bipush (-10), 2) := by decide +kernel
theorem dL_refusesAny_139 : decode cL_refusesAny 139 = .ok (.if_icmp .ne 194, 3) := by decide +kernel
theorem dL_refusesAny_142 : decode cL_refusesAny 142 = .ok (.aload_n 0, 1) := by decide +kernel
theorem dL_refusesAny_143 : decode cL_refusesAny 143 = .ok (.iconst 2, 1) := by decide +kernel
theorem dL_refusesAny_144 : decode cL_refusesAny 144 = .ok (.iconst 0, 1) := by decide +kernel
theorem dL_refusesAny_145 : decode cL_refusesAny 145 = .ok (.iload_n 1, 1) := by decide +kernel
theorem dL_refusesAny_146 : decode cL_refusesAny 146 = .ok (.iconst 2, 1) := by decide +kernel
theorem dL_refusesAny_147 : decode cL_refusesAny 147 = .ok (.irem, 1) := by decide +kernel
theorem dL_refusesAny_148 : decode cL_refusesAny 148 = .ok (.ifCond .ne 7, 3) := by decide +kernel
theorem dL_refusesAny_151 : decode cL_refusesAny 151 = .ok (.iconst 1, 1) := by decide +kernel
theorem dL_refusesAny_152 : decode cL_refusesAny 152 = .ok (.goto 5, 3) := by decide +kernel
theorem dL_refusesAny_155 : decode cL_refusesAny 155 = .ok (.bipush 13, 2) := by decide +kernel
theorem dL_refusesAny_157 : decode cL_refusesAny 157 = .ok (.invokestatic 84, 3) := by decide +kernel
theorem dL_refusesAny_160 : decode cL_refusesAny 160 = .ok (.bipush (-11), 2) := by decide +kernel
theorem dL_refusesAny_162 : decode cL_refusesAny 162 = .ok (.if_icmp .ne 171, 3) := by decide +kernel
theorem dL_refusesAny_165 : decode cL_refusesAny 165 = .ok (.aload_n 0, 1) := by decide +kernel
theorem dL_refusesAny_166 : decode cL_refusesAny 166 = .ok (.iconst 2, 1) := by decide +kernel
theorem dL_refusesAny_167 : decode cL_refusesAny 167 = .ok (.iconst 1, 1) := by decide +kernel
theorem dL_refusesAny_168 : decode cL_refusesAny 168 = .ok (.iload_n 1, 1) := by decide +kernel
theorem dL_refusesAny_169 : decode cL_refusesAny 169 = .ok (.iconst 2, 1) := by decide +kernel
theorem dL_refusesAny_170 : decode cL_refusesAny 170 = .ok (.irem, 1) := by decide +kernel
theorem dL_refusesAny_171 : decode cL_refusesAny 171 = .ok (.ifCond .ne 7, 3) := by decide +kernel
theorem dL_refusesAny_174 : decode cL_refusesAny 174 = .ok (.iconst (-1), 1) := by decide +kernel
theorem dL_refusesAny_175 : decode cL_refusesAny 175 = .ok (.goto 4, 3) := by decide +kernel
theorem dL_refusesAny_178 : decode cL_refusesAny 178 = .ok (.iconst 2, 1) := by decide +kernel
theorem dL_refusesAny_179 : decode cL_refusesAny 179 = .ok (.invokestatic 84, 3) := by decide +kernel
theorem dL_refusesAny_182 : decode cL_refusesAny 182 = .ok (.bipush (-11), 2) := by decide +kernel
theorem dL_refusesAny_184 : decode cL_refusesAny 184 = .ok (.if_icmp .ne 149, 3) := by decide +kernel
theorem dL_refusesAny_187 : decode cL_refusesAny 187 = .ok (.aload_n 0, 1) := by decide +kernel
theorem dL_refusesAny_188 : decode cL_refusesAny 188 = .ok (.iconst 2, 1) := by decide +kernel
theorem dL_refusesAny_189 : decode cL_refusesAny 189 = .ok (.iconst 2, 1) := by decide +kernel
theorem dL_refusesAny_190 : decode cL_refusesAny 190 = .ok (.iload_n 1, 1) := by decide +kernel
theorem dL_refusesAny_191 : decode cL_refusesAny 191 = .ok (.iconst 2, 1) := by decide +kernel
theorem dL_refusesAny_192 : decode cL_refusesAny 192 = .ok (.irem, 1) := by decide +kernel
theorem dL_refusesAny_193 : decode cL_refusesAny 193 = .ok (.ifCond .ne 7, 3) := by decide +kernel
theorem dL_refusesAny_196 : decode cL_refusesAny 196 = .ok (.iconst (-1), 1) := by decide +kernel
theorem dL_refusesAny_197 : decode cL_refusesAny 197 = .ok (.goto 6, 3) := by decide +kernel
theorem dL_refusesAny_200 : decode cL_refusesAny 200 = .ok (.sipush 361, 3) := by decide +kernel
theorem dL_refusesAny_203 : decode cL_refusesAny 203 = .ok (.invokestatic 84, 3) := by decide +kernel
theorem dL_refusesAny_206 : decode cL_refusesAny 206 = .ok (.bipush (-11), 2) := by decide +kernel
theorem dL_refusesAny_208 : decode cL_refusesAny 208 = .ok (.if_icmp .ne 125, 3) := by decide +kernel
theorem dL_refusesAny_211 : decode cL_refusesAny 211 = .ok (.aload_n 0, 1) := by decide +kernel
theorem dL_refusesAny_212 : decode cL_refusesAny 212 = .ok (.iconst 3, 1) := by decide +kernel
theorem dL_refusesAny_213 : decode cL_refusesAny 213 = .ok (.iload_n 1, 1) := by decide +kernel
theorem dL_refusesAny_214 : decode cL_refusesAny 214 = .ok (.iconst 2, 1) := by decide +kernel
theorem dL_refusesAny_215 : decode cL_refusesAny 215 = .ok (.irem, 1) := by decide +kernel
theorem dL_refusesAny_216 : decode cL_refusesAny 216 = .ok (.ifCond .ne 7, 3) := by decide +kernel
theorem dL_refusesAny_219 : decode cL_refusesAny 219 = .ok (.iconst 0, 1) := by decide +kernel
theorem dL_refusesAny_220 : decode cL_refusesAny 220 = .ok (.goto 5, 3) := by decide +kernel
theorem dL_refusesAny_223 : decode cL_refusesAny 223 = .ok (.bipush 21, 2) := by decide +kernel
theorem dL_refusesAny_225 : decode cL_refusesAny 225 = .ok (.iconst 0, 1) := by decide +kernel
theorem dL_refusesAny_226 : decode cL_refusesAny 226 = .ok (.invokestatic 84, 3) := by decide +kernel
theorem dL_refusesAny_229 : decode cL_refusesAny 229 = .ok (.bipush (-11), 2) := by decide +kernel
theorem dL_refusesAny_231 : decode cL_refusesAny 231 = .ok (.if_icmp .ne 102, 3) := by decide +kernel
theorem dL_refusesAny_234 : decode cL_refusesAny 234 = .ok (.aload_n 0, 1) := by decide +kernel
theorem dL_refusesAny_235 : decode cL_refusesAny 235 = .ok (.iconst 4, 1) := by decide +kernel
theorem dL_refusesAny_236 : decode cL_refusesAny 236 = .ok (.iload_n 3, 1) := by decide +kernel
theorem dL_refusesAny_237 : decode cL_refusesAny 237 = .ok (.iconst 0, 1) := by decide +kernel
theorem dL_refusesAny_238 : decode cL_refusesAny 238 = .ok (.invokestatic 84, 3) := by decide +kernel
theorem dL_refusesAny_241 : decode cL_refusesAny 241 = .ok (.bipush (-11), 2) := by decide +kernel
theorem dL_refusesAny_243 : decode cL_refusesAny 243 = .ok (.if_icmp .ne 90, 3) := by decide +kernel
theorem dL_refusesAny_246 : decode cL_refusesAny 246 = .ok (.aload_n 0, 1) := by decide +kernel
theorem dL_refusesAny_247 : decode cL_refusesAny 247 = .ok (.iconst 5, 1) := by decide +kernel
theorem dL_refusesAny_248 : decode cL_refusesAny 248 = .ok (.iload_n 1, 1) := by decide +kernel
theorem dL_refusesAny_249 : decode cL_refusesAny 249 = .ok (.iconst 2, 1) := by decide +kernel
theorem dL_refusesAny_250 : decode cL_refusesAny 250 = .ok (.irem, 1) := by decide +kernel
theorem dL_refusesAny_251 : decode cL_refusesAny 251 = .ok (.ifCond .ne 8, 3) := by decide +kernel
theorem dL_refusesAny_254 : decode cL_refusesAny 254 = .ok (.bipush 32, 2) := by decide +kernel
theorem dL_refusesAny_256 : decode cL_refusesAny 256 = .ok (.goto 5, 3) := by decide +kernel
theorem dL_refusesAny_259 : decode cL_refusesAny 259 = .ok (.bipush 127, 2) := by decide +kernel
theorem dL_refusesAny_261 : decode cL_refusesAny 261 = .ok (.iconst 0, 1) := by decide +kernel
theorem dL_refusesAny_262 : decode cL_refusesAny 262 = .ok (.invokestatic 84, 3) := by decide +kernel
theorem dL_refusesAny_265 : decode cL_refusesAny 265 = .ok (.bipush (-11), 2) := by decide +kernel
theorem dL_refusesAny_267 : decode cL_refusesAny 267 = .ok (.if_icmp .ne 66, 3) := by decide +kernel
theorem dL_refusesAny_270 : decode cL_refusesAny 270 = .ok (.aload_n 0, 1) := by decide +kernel
theorem dL_refusesAny_271 : decode cL_refusesAny 271 = .ok (.bipush 6, 2) := by decide +kernel
theorem dL_refusesAny_273 : decode cL_refusesAny 273 = .ok (.iconst 0, 1) := by decide +kernel
theorem dL_refusesAny_274 : decode cL_refusesAny 274 = .ok (.iconst 0, 1) := by decide +kernel
theorem dL_refusesAny_275 : decode cL_refusesAny 275 = .ok (.invokestatic 84, 3) := by decide +kernel
theorem dL_refusesAny_278 : decode cL_refusesAny 278 = .ok (.bipush (-11), 2) := by decide +kernel
theorem dL_refusesAny_280 : decode cL_refusesAny 280 = .ok (.if_icmp .ne 53, 3) := by decide +kernel
theorem dL_refusesAny_283 : decode cL_refusesAny 283 = .ok (.aload_n 0, 1) := by decide +kernel
theorem dL_refusesAny_284 : decode cL_refusesAny 284 = .ok (.bipush 7, 2) := by decide +kernel
theorem dL_refusesAny_286 : decode cL_refusesAny 286 = .ok (.iload_n 1, 1) := by decide +kernel
theorem dL_refusesAny_287 : decode cL_refusesAny 287 = .ok (.iconst 2, 1) := by decide +kernel
theorem dL_refusesAny_288 : decode cL_refusesAny 288 = .ok (.irem, 1) := by decide +kernel
theorem dL_refusesAny_289 : decode cL_refusesAny 289 = .ok (.ifCond .ne 7, 3) := by decide +kernel
theorem dL_refusesAny_292 : decode cL_refusesAny 292 = .ok (.iconst (-1), 1) := by decide +kernel
theorem dL_refusesAny_293 : decode cL_refusesAny 293 = .ok (.goto 4, 3) := by decide +kernel
theorem dL_refusesAny_296 : decode cL_refusesAny 296 = .ok (.iconst 2, 1) := by decide +kernel
theorem dL_refusesAny_297 : decode cL_refusesAny 297 = .ok (.iconst 0, 1) := by decide +kernel
theorem dL_refusesAny_298 : decode cL_refusesAny 298 = .ok (.invokestatic 84, 3) := by decide +kernel
theorem dL_refusesAny_301 : decode cL_refusesAny 301 = .ok (.bipush (-11), 2) := by decide +kernel
theorem dL_refusesAny_303 : decode cL_refusesAny 303 = .ok (.if_icmp .ne 30, 3) := by decide +kernel
theorem dL_refusesAny_306 : decode cL_refusesAny 306 = .ok (.aload_n 0, 1) := by decide +kernel
theorem dL_refusesAny_307 : decode cL_refusesAny 307 = .ok (.bipush 8, 2) := by decide +kernel
theorem dL_refusesAny_309 : decode cL_refusesAny 309 = .ok (.iload_n 1, 1) := by decide +kernel
theorem dL_refusesAny_310 : decode cL_refusesAny 310 = .ok (.iconst 2, 1) := by decide +kernel
theorem dL_refusesAny_311 : decode cL_refusesAny 311 = .ok (.irem, 1) := by decide +kernel
theorem dL_refusesAny_312 : decode cL_refusesAny 312 = .ok (.ifCond .ne 7, 3) := by decide +kernel
theorem dL_refusesAny_315 : decode cL_refusesAny 315 = .ok (.iconst (-1), 1) := by decide +kernel
theorem dL_refusesAny_316 : decode cL_refusesAny 316 = .ok (.goto 4, 3) := by decide +kernel
theorem dL_refusesAny_319 : decode cL_refusesAny 319 = .ok (.iconst 2, 1) := by decide +kernel
theorem dL_refusesAny_320 : decode cL_refusesAny 320 = .ok (.iconst 0, 1) := by decide +kernel
theorem dL_refusesAny_321 : decode cL_refusesAny 321 = .ok (.invokestatic 84, 3) := by decide +kernel
theorem dL_refusesAny_324 : decode cL_refusesAny 324 = .ok (.bipush (-11), 2) := by decide +kernel
theorem dL_refusesAny_326 : decode cL_refusesAny 326 = .ok (.if_icmp .ne 7, 3) := by decide +kernel
theorem dL_refusesAny_329 : decode cL_refusesAny 329 = .ok (.iconst 1, 1) := by decide +kernel
theorem dL_refusesAny_330 : decode cL_refusesAny 330 = .ok (.goto 4, 3) := by decide +kernel
theorem dL_refusesAny_333 : decode cL_refusesAny 333 = .ok (.iconst 0, 1) := by decide +kernel
theorem dL_refusesAny_334 : decode cL_refusesAny 334 = .ok (.istore 4, 2) := by decide +kernel
theorem dL_refusesAny_336 : decode cL_refusesAny 336 = .ok (.iload 4, 2) := by decide +kernel
theorem dL_refusesAny_338 : decode cL_refusesAny 338 = .ok (.ifCond .eq 178, 3) := by decide +kernel
theorem dL_refusesAny_341 : decode cL_refusesAny 341 = .ok (.aload_n 0, 1) := by decide +kernel
theorem dL_refusesAny_342 : decode cL_refusesAny 342 = .ok (.iconst 0, 1) := by decide +kernel
theorem dL_refusesAny_343 : decode cL_refusesAny 343 = .ok (.iload_n 2, 1) := by decide +kernel
theorem dL_refusesAny_344 : decode cL_refusesAny 344 = .ok (.bipush 9, 2) := by decide +kernel
theorem dL_refusesAny_346 : decode cL_refusesAny 346 = .ok (.invokestatic 88, 3) := by decide +kernel
theorem dL_refusesAny_349 : decode cL_refusesAny 349 = .ok (.bipush (-10), 2) := by decide +kernel
theorem dL_refusesAny_351 : decode cL_refusesAny 351 = .ok (.if_icmp .ne 165, 3) := by decide +kernel
theorem dL_refusesAny_354 : decode cL_refusesAny 354 = .ok (.aload_n 0, 1) := by decide +kernel
theorem dL_refusesAny_355 : decode cL_refusesAny 355 = .ok (.iconst 0, 1) := by decide +kernel
theorem dL_refusesAny_356 : decode cL_refusesAny 356 = .ok (.iconst 0, 1) := by decide +kernel
theorem dL_refusesAny_357 : decode cL_refusesAny 357 = .ok (.iload_n 1, 1) := by decide +kernel
theorem dL_refusesAny_358 : decode cL_refusesAny 358 = .ok (.iconst 2, 1) := by decide +kernel
theorem dL_refusesAny_359 : decode cL_refusesAny 359 = .ok (.irem, 1) := by decide +kernel
theorem dL_refusesAny_360 : decode cL_refusesAny 360 = .ok (.ifCond .ne 7, 3) := by decide +kernel
theorem dL_refusesAny_363 : decode cL_refusesAny 363 = .ok (.iconst (-1), 1) := by decide +kernel
theorem dL_refusesAny_364 : decode cL_refusesAny 364 = .ok (.goto 5, 3) := by decide +kernel
theorem dL_refusesAny_367 : decode cL_refusesAny 367 = .ok (.bipush 8, 2) := by decide +kernel
theorem dL_refusesAny_369 : decode cL_refusesAny 369 = .ok (.invokestatic 88, 3) := by decide +kernel
theorem dL_refusesAny_372 : decode cL_refusesAny 372 = .ok (.bipush (-11), 2) := by decide +kernel
theorem dL_refusesAny_374 : decode cL_refusesAny 374 = .ok (.if_icmp .ne 142, 3) := by decide +kernel
