/-! printed rows -/
theorem dL_cell_0 : decode cL_cell 0 = .ok (.iload_n 1, 1) := by decide +kernel
theorem dL_cell_1 : decode cL_cell 1 = .ok (.aload_n 0, 1) := by decide +kernel
theorem dL_cell_2 : decode cL_cell 2 = .ok (.arraylength, 1) := by decide +kernel
theorem dL_cell_3 : decode cL_cell 3 = .ok (.if_icmp .ge 9, 3) := by decide +kernel
theorem dL_cell_6 : decode cL_cell 6 = .ok (.aload_n 0, 1) := by decide +kernel
theorem dL_cell_7 : decode cL_cell 7 = .ok (.iload_n 1, 1) := by decide +kernel
theorem dL_cell_8 : decode cL_cell 8 = .ok (.iaload, 1) := by decide +kernel
theorem dL_cell_9 : decode cL_cell 9 = .ok (.goto 15, 3) := by decide +kernel
theorem dL_cell_12 : decode cL_cell 12 = .ok (.sipush 7919, 3) := by decide +kernel
theorem dL_cell_15 : decode cL_cell 15 = .ok (.iload_n 1, 1) := by decide +kernel
theorem dL_cell_16 : decode cL_cell 16 = .ok (.iconst 3, 1) := by decide +kernel
theorem dL_cell_17 : decode cL_cell 17 = .ok (.iadd, 1) := by decide +kernel
theorem dL_cell_18 : decode cL_cell 18 = .ok (.imul, 1) := by decide +kernel
theorem dL_cell_19 : decode cL_cell 19 = .ok (.iload_n 1, 1) := by decide +kernel
theorem dL_cell_20 : decode cL_cell 20 = .ok (.bipush 11, 2) := by decide +kernel
theorem dL_cell_22 : decode cL_cell 22 = .ok (.iadd, 1) := by decide +kernel
theorem dL_cell_23 : decode cL_cell 23 = .ok (.imul, 1) := by decide +kernel
theorem dL_cell_24 : decode cL_cell 24 = .ok (.ireturn, 1) := by decide +kernel
theorem dL_low_0 : decode cL_low 0 = .ok (.iload_n 0, 1) := by decide +kernel
theorem dL_low_1 : decode cL_low 1 = .ok (.ldc 7, 2) := by decide +kernel
theorem dL_low_3 : decode cL_low 3 = .ok (.iand, 1) := by decide +kernel
theorem dL_low_4 : decode cL_low 4 = .ok (.iload_n 1, 1) := by decide +kernel
theorem dL_low_5 : decode cL_low 5 = .ok (.irem, 1) := by decide +kernel
theorem dL_low_6 : decode cL_low 6 = .ok (.ireturn, 1) := by decide +kernel
theorem dL_does_0 : decode cL_does 0 = .ok (.iload_n 1, 1) := by decide +kernel
theorem dL_does_1 : decode cL_does 1 = .ok (.bipush 15, 2) := by decide +kernel
theorem dL_does_3 : decode cL_does 3 = .ok (.iand, 1) := by decide +kernel
theorem dL_does_4 : decode cL_does 4 = .ok (.tableswitch 330 0 11 #[64, 64, 97, 139, 139, 161, 189, 269, 269, 269, 269, 301], 64) := by decide +kernel
theorem dL_does_68 : decode cL_does 68 = .ok (.aload_n 0, 1) := by decide +kernel
theorem dL_does_69 : decode cL_does 69 = .ok (.iload_n 1, 1) := by decide +kernel
theorem dL_does_70 : decode cL_does 70 = .ok (.iconst 4, 1) := by decide +kernel
theorem dL_does_71 : decode cL_does 71 = .ok (.ishr, 1) := by decide +kernel
theorem dL_does_72 : decode cL_does 72 = .ok (.bipush 12, 2) := by decide +kernel
theorem dL_does_74 : decode cL_does 74 = .ok (.invokestatic 8, 3) := by decide +kernel
theorem dL_does_77 : decode cL_does 77 = .ok (.iload_n 1, 1) := by decide +kernel
theorem dL_does_78 : decode cL_does 78 = .ok (.bipush 8, 2) := by decide +kernel
theorem dL_does_80 : decode cL_does 80 = .ok (.ishr, 1) := by decide +kernel
theorem dL_does_81 : decode cL_does 81 = .ok (.bipush 12, 2) := by decide +kernel
theorem dL_does_83 : decode cL_does 83 = .ok (.invokestatic 8, 3) := by decide +kernel
theorem dL_does_86 : decode cL_does 86 = .ok (.iconst 1, 1) := by decide +kernel
theorem dL_does_87 : decode cL_does 87 = .ok (.iload_n 1, 1) := by decide +kernel
theorem dL_does_88 : decode cL_does 88 = .ok (.bipush 12, 2) := by decide +kernel
theorem dL_does_90 : decode cL_does 90 = .ok (.ishr, 1) := by decide +kernel
theorem dL_does_91 : decode cL_does 91 = .ok (.bipush 60, 2) := by decide +kernel
theorem dL_does_93 : decode cL_does 93 = .ok (.invokestatic 8, 3) := by decide +kernel
theorem dL_does_96 : decode cL_does 96 = .ok (.iadd, 1) := by decide +kernel
theorem dL_does_97 : decode cL_does 97 = .ok (.invokevirtual 14, 3) := by decide +kernel
theorem dL_does_100 : decode cL_does 100 = .ok (.ireturn, 1) := by decide +kernel
theorem dL_does_101 : decode cL_does 101 = .ok (.iload_n 1, 1) := by decide +kernel
theorem dL_does_102 : decode cL_does 102 = .ok (.iconst 4, 1) := by decide +kernel
theorem dL_does_103 : decode cL_does 103 = .ok (.ishr, 1) := by decide +kernel
theorem dL_does_104 : decode cL_does 104 = .ok (.bipush 7, 2) := by decide +kernel
theorem dL_does_106 : decode cL_does 106 = .ok (.iand, 1) := by decide +kernel
theorem dL_does_107 : decode cL_does 107 = .ok (.ifCond .ne 19, 3) := by decide +kernel
theorem dL_does_110 : decode cL_does 110 = .ok (.aload_n 0, 1) := by decide +kernel
theorem dL_does_111 : decode cL_does 111 = .ok (.iload_n 1, 1) := by decide +kernel
theorem dL_does_112 : decode cL_does 112 = .ok (.bipush 7, 2) := by decide +kernel
theorem dL_does_114 : decode cL_does 114 = .ok (.ishr, 1) := by decide +kernel
theorem dL_does_115 : decode cL_does 115 = .ok (.bipush 12, 2) := by decide +kernel
theorem dL_does_117 : decode cL_does 117 = .ok (.invokestatic 8, 3) := by decide +kernel
theorem dL_does_120 : decode cL_does 120 = .ok (.invokevirtual 20, 3) := by decide +kernel
theorem dL_does_123 : decode cL_does 123 = .ok (.goto 19, 3) := by decide +kernel
theorem dL_does_126 : decode cL_does 126 = .ok (.aload_n 0, 1) := by decide +kernel
theorem dL_does_127 : decode cL_does 127 = .ok (.iconst 0, 1) := by decide +kernel
theorem dL_does_128 : decode cL_does 128 = .ok (.iload_n 1, 1) := by decide +kernel
theorem dL_does_129 : decode cL_does 129 = .ok (.bipush 7, 2) := by decide +kernel
theorem dL_does_131 : decode cL_does 131 = .ok (.ishr, 1) := by decide +kernel
theorem dL_does_132 : decode cL_does 132 = .ok (.bipush 12, 2) := by decide +kernel
theorem dL_does_134 : decode cL_does 134 = .ok (.invokestatic 8, 3) := by decide +kernel
theorem dL_does_137 : decode cL_does 137 = .ok (.bipush 9, 2) := by decide +kernel
theorem dL_does_139 : decode cL_does 139 = .ok (.invokevirtual 14, 3) := by decide +kernel
theorem dL_does_142 : decode cL_does 142 = .ok (.ireturn, 1) := by decide +kernel
theorem dL_does_143 : decode cL_does 143 = .ok (.aload_n 0, 1) := by decide +kernel
theorem dL_does_144 : decode cL_does 144 = .ok (.iload_n 1, 1) := by decide +kernel
theorem dL_does_145 : decode cL_does 145 = .ok (.iconst 4, 1) := by decide +kernel
theorem dL_does_146 : decode cL_does 146 = .ok (.ishr, 1) := by decide +kernel
theorem dL_does_147 : decode cL_does 147 = .ok (.bipush 12, 2) := by decide +kernel
theorem dL_does_149 : decode cL_does 149 = .ok (.invokestatic 8, 3) := by decide +kernel
theorem dL_does_152 : decode cL_does 152 = .ok (.iload_n 1, 1) := by decide +kernel
theorem dL_does_153 : decode cL_does 153 = .ok (.bipush 8, 2) := by decide +kernel
theorem dL_does_155 : decode cL_does 155 = .ok (.ishr, 1) := by decide +kernel
theorem dL_does_156 : decode cL_does 156 = .ok (.bipush 12, 2) := by decide +kernel
theorem dL_does_158 : decode cL_does 158 = .ok (.invokestatic 8, 3) := by decide +kernel
theorem dL_does_161 : decode cL_does 161 = .ok (.invokevirtual 24, 3) := by decide +kernel
theorem dL_does_164 : decode cL_does 164 = .ok (.ireturn, 1) := by decide +kernel
theorem dL_does_165 : decode cL_does 165 = .ok (.aload_n 0, 1) := by decide +kernel
theorem dL_does_166 : decode cL_does 166 = .ok (.iconst 4, 1) := by decide +kernel
theorem dL_does_167 : decode cL_does 167 = .ok (.invokevirtual 27, 3) := by decide +kernel
theorem dL_does_170 : decode cL_does 170 = .ok (.ifCond .ne 7, 3) := by decide +kernel
theorem dL_does_173 : decode cL_does 173 = .ok (.iconst 0, 1) := by decide +kernel
theorem dL_does_174 : decode cL_does 174 = .ok (.goto 18, 3) := by decide +kernel
theorem dL_does_177 : decode cL_does 177 = .ok (.aload_n 0, 1) := by decide +kernel
theorem dL_does_178 : decode cL_does 178 = .ok (.iload_n 1, 1) := by decide +kernel
theorem dL_does_179 : decode cL_does 179 = .ok (.iconst 4, 1) := by decide +kernel
theorem dL_does_180 : decode cL_does 180 = .ok (.ishr, 1) := by decide +kernel
theorem dL_does_181 : decode cL_does 181 = .ok (.aload_n 0, 1) := by decide +kernel
theorem dL_does_182 : decode cL_does 182 = .ok (.iconst 4, 1) := by decide +kernel
theorem dL_does_183 : decode cL_does 183 = .ok (.invokevirtual 27, 3) := by decide +kernel
theorem dL_does_186 : decode cL_does 186 = .ok (.invokestatic 8, 3) := by decide +kernel
theorem dL_does_189 : decode cL_does 189 = .ok (.invokevirtual 30, 3) := by decide +kernel
theorem dL_does_192 : decode cL_does 192 = .ok (.ireturn, 1) := by decide +kernel
theorem dL_does_193 : decode cL_does 193 = .ok (.iload_n 1, 1) := by decide +kernel
theorem dL_does_194 : decode cL_does 194 = .ok (.iconst 4, 1) := by decide +kernel
theorem dL_does_195 : decode cL_does 195 = .ok (.ishr, 1) := by decide +kernel
theorem dL_does_196 : decode cL_does 196 = .ok (.iconst 4, 1) := by decide +kernel
theorem dL_does_197 : decode cL_does 197 = .ok (.invokestatic 8, 3) := by decide +kernel
theorem dL_does_200 : decode cL_does 200 = .ok (.istore_n 2, 1) := by decide +kernel
theorem dL_does_201 : decode cL_does 201 = .ok (.aload_n 0, 1) := by decide +kernel
theorem dL_does_202 : decode cL_does 202 = .ok (.iload_n 2, 1) := by decide +kernel
theorem dL_does_203 : decode cL_does 203 = .ok (.iload_n 2, 1) := by decide +kernel
theorem dL_does_204 : decode cL_does 204 = .ok (.ifCond .ne 15, 3) := by decide +kernel
theorem dL_does_207 : decode cL_does 207 = .ok (.iload_n 1, 1) := by decide +kernel
theorem dL_does_208 : decode cL_does 208 = .ok (.bipush 6, 2) := by decide +kernel
theorem dL_does_210 : decode cL_does 210 = .ok (.ishr, 1) := by decide +kernel
theorem dL_does_211 : decode cL_does 211 = .ok (.bipush 61, 2) := by decide +kernel
theorem dL_does_213 : decode cL_does 213 = .ok (.invokestatic 8, 3) := by decide +kernel
theorem dL_does_216 : decode cL_does 216 = .ok (.goto 53, 3) := by decide +kernel
theorem dL_does_219 : decode cL_does 219 = .ok (.iload_n 2, 1) := by decide +kernel
theorem dL_does_220 : decode cL_does 220 = .ok (.iconst 1, 1) := by decide +kernel
theorem dL_does_221 : decode cL_does 221 = .ok (.if_icmp .ne 18, 3) := by decide +kernel
theorem dL_does_224 : decode cL_does 224 = .ok (.iconst 1, 1) := by decide +kernel
theorem dL_does_225 : decode cL_does 225 = .ok (.iload_n 1, 1) := by decide +kernel
theorem dL_does_226 : decode cL_does 226 = .ok (.bipush 6, 2) := by decide +kernel
theorem dL_does_228 : decode cL_does 228 = .ok (.ishr, 1) := by decide +kernel
theorem dL_does_229 : decode cL_does 229 = .ok (.sipush 150, 3) := by decide +kernel
theorem dL_does_232 : decode cL_does 232 = .ok (.invokestatic 8, 3) := by decide +kernel
theorem dL_does_235 : decode cL_does 235 = .ok (.iadd, 1) := by decide +kernel
theorem dL_does_236 : decode cL_does 236 = .ok (.goto 33, 3) := by decide +kernel
theorem dL_does_239 : decode cL_does 239 = .ok (.iload_n 2, 1) := by decide +kernel
theorem dL_does_240 : decode cL_does 240 = .ok (.iconst 2, 1) := by decide +kernel
theorem dL_does_241 : decode cL_does 241 = .ok (.if_icmp .ne 15, 3) := by decide +kernel
theorem dL_does_244 : decode cL_does 244 = .ok (.iload_n 1, 1) := by decide +kernel
theorem dL_does_245 : decode cL_does 245 = .ok (.bipush 6, 2) := by decide +kernel
theorem dL_does_247 : decode cL_does 247 = .ok (.ishr, 1) := by decide +kernel
theorem dL_does_248 : decode cL_does 248 = .ok (.bipush 61, 2) := by decide +kernel
theorem dL_does_250 : decode cL_does 250 = .ok (.invokestatic 8, 3) := by decide +kernel
theorem dL_does_253 : decode cL_does 253 = .ok (.goto 16, 3) := by decide +kernel
theorem dL_does_256 : decode cL_does 256 = .ok (.bipush 50, 2) := by decide +kernel
theorem dL_does_258 : decode cL_does 258 = .ok (.iload_n 1, 1) := by decide +kernel
theorem dL_does_259 : decode cL_does 259 = .ok (.bipush 6, 2) := by decide +kernel
theorem dL_does_261 : decode cL_does 261 = .ok (.ishr, 1) := by decide +kernel
theorem dL_does_262 : decode cL_does 262 = .ok (.sipush 152, 3) := by decide +kernel
theorem dL_does_265 : decode cL_does 265 = .ok (.invokestatic 8, 3) := by decide +kernel
theorem dL_does_268 : decode cL_does 268 = .ok (.iadd, 1) := by decide +kernel
theorem dL_does_269 : decode cL_does 269 = .ok (.invokevirtual 33, 3) := by decide +kernel
theorem dL_does_272 : decode cL_does 272 = .ok (.ireturn, 1) := by decide +kernel
theorem dL_does_273 : decode cL_does 273 = .ok (.aload_n 0, 1) := by decide +kernel
theorem dL_does_274 : decode cL_does 274 = .ok (.iload_n 1, 1) := by decide +kernel
theorem dL_does_275 : decode cL_does 275 = .ok (.iconst 4, 1) := by decide +kernel
theorem dL_does_276 : decode cL_does 276 = .ok (.ishr, 1) := by decide +kernel
theorem dL_does_277 : decode cL_does 277 = .ok (.iconst 4, 1) := by decide +kernel
theorem dL_does_278 : decode cL_does 278 = .ok (.invokestatic 8, 3) := by decide +kernel
theorem dL_does_281 : decode cL_does 281 = .ok (.iload_n 1, 1) := by decide +kernel
theorem dL_does_282 : decode cL_does 282 = .ok (.bipush 6, 2) := by decide +kernel
theorem dL_does_284 : decode cL_does 284 = .ok (.ishr, 1) := by decide +kernel
theorem dL_does_285 : decode cL_does 285 = .ok (.bipush 12, 2) := by decide +kernel
theorem dL_does_287 : decode cL_does 287 = .ok (.invokestatic 8, 3) := by decide +kernel
theorem dL_does_290 : decode cL_does 290 = .ok (.iconst 1, 1) := by decide +kernel
theorem dL_does_291 : decode cL_does 291 = .ok (.iload_n 1, 1) := by decide +kernel
theorem dL_does_292 : decode cL_does 292 = .ok (.bipush 10, 2) := by decide +kernel
theorem dL_does_294 : decode cL_does 294 = .ok (.ishr, 1) := by decide +kernel
theorem dL_does_295 : decode cL_does 295 = .ok (.bipush 6, 2) := by decide +kernel
theorem dL_does_297 : decode cL_does 297 = .ok (.invokestatic 8, 3) := by decide +kernel
theorem dL_does_300 : decode cL_does 300 = .ok (.iadd, 1) := by decide +kernel
theorem dL_does_301 : decode cL_does 301 = .ok (.invokevirtual 36, 3) := by decide +kernel
theorem dL_does_304 : decode cL_does 304 = .ok (.ireturn, 1) := by decide +kernel
theorem dL_does_305 : decode cL_does 305 = .ok (.iload_n 1, 1) := by decide +kernel
theorem dL_does_306 : decode cL_does 306 = .ok (.iconst 4, 1) := by decide +kernel
theorem dL_does_307 : decode cL_does 307 = .ok (.ishr, 1) := by decide +kernel
theorem dL_does_308 : decode cL_does 308 = .ok (.iconst 3, 1) := by decide +kernel
theorem dL_does_309 : decode cL_does 309 = .ok (.iand, 1) := by decide +kernel
theorem dL_does_310 : decode cL_does 310 = .ok (.ifCond .ne 18, 3) := by decide +kernel
theorem dL_does_313 : decode cL_does 313 = .ok (.aload_n 0, 1) := by decide +kernel
theorem dL_does_314 : decode cL_does 314 = .ok (.iload_n 1, 1) := by decide +kernel
theorem dL_does_315 : decode cL_does 315 = .ok (.bipush 6, 2) := by decide +kernel
theorem dL_does_317 : decode cL_does 317 = .ok (.ishr, 1) := by decide +kernel
theorem dL_does_318 : decode cL_does 318 = .ok (.iconst 4, 1) := by decide +kernel
theorem dL_does_319 : decode cL_does 319 = .ok (.invokestatic 8, 3) := by decide +kernel
theorem dL_does_322 : decode cL_does 322 = .ok (.invokevirtual 39, 3) := by decide +kernel
theorem dL_does_325 : decode cL_does 325 = .ok (.goto 8, 3) := by decide +kernel
theorem dL_does_328 : decode cL_does 328 = .ok (.aload_n 0, 1) := by decide +kernel
theorem dL_does_329 : decode cL_does 329 = .ok (.iconst 1, 1) := by decide +kernel
theorem dL_does_330 : decode cL_does 330 = .ok (.invokevirtual 42, 3) := by decide +kernel
theorem dL_does_333 : decode cL_does 333 = .ok (.ireturn, 1) := by decide +kernel
theorem dL_does_334 : decode cL_does 334 = .ok (.aload_n 0, 1) := by decide +kernel
theorem dL_does_335 : decode cL_does 335 = .ok (.iconst 1, 1) := by decide +kernel
theorem dL_does_336 : decode cL_does 336 = .ok (.iload_n 1, 1) := by decide +kernel
theorem dL_does_337 : decode cL_does 337 = .ok (.iconst 4, 1) := by decide +kernel
theorem dL_does_338 : decode cL_does 338 = .ok (.ishr, 1) := by decide +kernel
theorem dL_does_339 : decode cL_does 339 = .ok (.iconst 4, 1) := by decide +kernel
theorem dL_does_340 : decode cL_does 340 = .ok (.invokestatic 8, 3) := by decide +kernel
theorem dL_does_343 : decode cL_does 343 = .ok (.iadd, 1) := by decide +kernel
theorem dL_does_344 : decode cL_does 344 = .ok (.invokevirtual 42, 3) := by decide +kernel
theorem dL_does_347 : decode cL_does 347 = .ok (.ireturn, 1) := by decide +kernel
theorem dL_isSandSo_0 : decode cL_isSandSo 0 = .ok (.iconst 0, 1) := by decide +kernel
theorem dL_isSandSo_1 : decode cL_isSandSo 1 = .ok (.istore_n 1, 1) := by decide +kernel
theorem dL_isSandSo_2 : decode cL_isSandSo 2 = .ok (.iconst 0, 1) := by decide +kernel
theorem dL_isSandSo_3 : decode cL_isSandSo 3 = .ok (.istore_n 2, 1) := by decide +kernel
theorem dL_isSandSo_4 : decode cL_isSandSo 4 = .ok (.iconst 0, 1) := by decide +kernel
theorem dL_isSandSo_5 : decode cL_isSandSo 5 = .ok (.istore_n 3, 1) := by decide +kernel
theorem dL_isSandSo_6 : decode cL_isSandSo 6 = .ok (.iconst 1, 1) := by decide +kernel
theorem dL_isSandSo_7 : decode cL_isSandSo 7 = .ok (.istore 4, 2) := by decide +kernel
theorem dL_isSandSo_9 : decode cL_isSandSo 9 = .ok (.iconst 0, 1) := by decide +kernel
theorem dL_isSandSo_10 : decode cL_isSandSo 10 = .ok (.istore 5, 2) := by decide +kernel
theorem dL_isSandSo_12 : decode cL_isSandSo 12 = .ok (.iload 5, 2) := by decide +kernel
theorem dL_isSandSo_14 : decode cL_isSandSo 14 = .ok (.bipush 12, 2) := by decide +kernel
theorem dL_isSandSo_16 : decode cL_isSandSo 16 = .ok (.if_icmp .ge 120, 3) := by decide +kernel
theorem dL_isSandSo_19 : decode cL_isSandSo 19 = .ok (.iconst 0, 1) := by decide +kernel
theorem dL_isSandSo_20 : decode cL_isSandSo 20 = .ok (.istore 6, 2) := by decide +kernel
theorem dL_isSandSo_22 : decode cL_isSandSo 22 = .ok (.iconst 0, 1) := by decide +kernel
theorem dL_isSandSo_23 : decode cL_isSandSo 23 = .ok (.istore 7, 2) := by decide +kernel
theorem dL_isSandSo_25 : decode cL_isSandSo 25 = .ok (.iload 7, 2) := by decide +kernel
theorem dL_isSandSo_27 : decode cL_isSandSo 27 = .ok (.bipush 12, 2) := by decide +kernel
theorem dL_isSandSo_29 : decode cL_isSandSo 29 = .ok (.if_icmp .ge 57, 3) := by decide +kernel
theorem dL_isSandSo_32 : decode cL_isSandSo 32 = .ok (.aload_n 0, 1) := by decide +kernel
theorem dL_isSandSo_33 : decode cL_isSandSo 33 = .ok (.iload 7, 2) := by decide +kernel
theorem dL_isSandSo_35 : decode cL_isSandSo 35 = .ok (.iload 5, 2) := by decide +kernel
theorem dL_isSandSo_37 : decode cL_isSandSo 37 = .ok (.iconst 0, 1) := by decide +kernel
theorem dL_isSandSo_38 : decode cL_isSandSo 38 = .ok (.invokevirtual 45, 3) := by decide +kernel
theorem dL_isSandSo_41 : decode cL_isSandSo 41 = .ok (.istore 8, 2) := by decide +kernel
theorem dL_isSandSo_43 : decode cL_isSandSo 43 = .ok (.iload 6, 2) := by decide +kernel
theorem dL_isSandSo_45 : decode cL_isSandSo 45 = .ok (.iload 8, 2) := by decide +kernel
theorem dL_isSandSo_47 : decode cL_isSandSo 47 = .ok (.iadd, 1) := by decide +kernel
theorem dL_isSandSo_48 : decode cL_isSandSo 48 = .ok (.istore 6, 2) := by decide +kernel
theorem dL_isSandSo_50 : decode cL_isSandSo 50 = .ok (.iload 8, 2) := by decide +kernel
theorem dL_isSandSo_52 : decode cL_isSandSo 52 = .ok (.iload_n 3, 1) := by decide +kernel
theorem dL_isSandSo_53 : decode cL_isSandSo 53 = .ok (.if_icmp .le 8, 3) := by decide +kernel
theorem dL_isSandSo_56 : decode cL_isSandSo 56 = .ok (.iload 8, 2) := by decide +kernel
theorem dL_isSandSo_58 : decode cL_isSandSo 58 = .ok (.goto 4, 3) := by decide +kernel
theorem dL_isSandSo_61 : decode cL_isSandSo 61 = .ok (.iload_n 3, 1) := by decide +kernel
theorem dL_isSandSo_62 : decode cL_isSandSo 62 = .ok (.istore_n 3, 1) := by decide +kernel
theorem dL_isSandSo_63 : decode cL_isSandSo 63 = .ok (.iload 4, 2) := by decide +kernel
theorem dL_isSandSo_65 : decode cL_isSandSo 65 = .ok (.ifCond .eq 12, 3) := by decide +kernel
theorem dL_isSandSo_68 : decode cL_isSandSo 68 = .ok (.iload 8, 2) := by decide +kernel
theorem dL_isSandSo_70 : decode cL_isSandSo 70 = .ok (.ifCond .lt 7, 3) := by decide +kernel
theorem dL_isSandSo_73 : decode cL_isSandSo 73 = .ok (.iconst 1, 1) := by decide +kernel
theorem dL_isSandSo_74 : decode cL_isSandSo 74 = .ok (.goto 4, 3) := by decide +kernel
theorem dL_isSandSo_77 : decode cL_isSandSo 77 = .ok (.iconst 0, 1) := by decide +kernel
theorem dL_isSandSo_78 : decode cL_isSandSo 78 = .ok (.istore 4, 2) := by decide +kernel
theorem dL_isSandSo_80 : decode cL_isSandSo 80 = .ok (.iinc 7 1, 3) := by decide +kernel
theorem dL_isSandSo_83 : decode cL_isSandSo 83 = .ok (.goto (-58), 3) := by decide +kernel
theorem dL_isSandSo_86 : decode cL_isSandSo 86 = .ok (.iload_n 1, 1) := by decide +kernel
theorem dL_isSandSo_87 : decode cL_isSandSo 87 = .ok (.aload_n 0, 1) := by decide +kernel
theorem dL_isSandSo_88 : decode cL_isSandSo 88 = .ok (.iconst 1, 1) := by decide +kernel
theorem dL_isSandSo_89 : decode cL_isSandSo 89 = .ok (.iload 5, 2) := by decide +kernel
theorem dL_isSandSo_91 : decode cL_isSandSo 91 = .ok (.invokevirtual 48, 3) := by decide +kernel
theorem dL_isSandSo_94 : decode cL_isSandSo 94 = .ok (.iadd, 1) := by decide +kernel
theorem dL_isSandSo_95 : decode cL_isSandSo 95 = .ok (.istore_n 1, 1) := by decide +kernel
theorem dL_isSandSo_96 : decode cL_isSandSo 96 = .ok (.iload_n 2, 1) := by decide +kernel
theorem dL_isSandSo_97 : decode cL_isSandSo 97 = .ok (.aload_n 0, 1) := by decide +kernel
theorem dL_isSandSo_98 : decode cL_isSandSo 98 = .ok (.iconst 0, 1) := by decide +kernel
theorem dL_isSandSo_99 : decode cL_isSandSo 99 = .ok (.iload 5, 2) := by decide +kernel
theorem dL_isSandSo_101 : decode cL_isSandSo 101 = .ok (.invokevirtual 48, 3) := by decide +kernel
theorem dL_isSandSo_104 : decode cL_isSandSo 104 = .ok (.iadd, 1) := by decide +kernel
theorem dL_isSandSo_105 : decode cL_isSandSo 105 = .ok (.istore_n 2, 1) := by decide +kernel
theorem dL_isSandSo_106 : decode cL_isSandSo 106 = .ok (.iload 4, 2) := by decide +kernel
theorem dL_isSandSo_108 : decode cL_isSandSo 108 = .ok (.ifCond .eq 19, 3) := by decide +kernel
theorem dL_isSandSo_111 : decode cL_isSandSo 111 = .ok (.iload 6, 2) := by decide +kernel
theorem dL_isSandSo_113 : decode cL_isSandSo 113 = .ok (.aload_n 0, 1) := by decide +kernel
theorem dL_isSandSo_114 : decode cL_isSandSo 114 = .ok (.iconst 1, 1) := by decide +kernel
theorem dL_isSandSo_115 : decode cL_isSandSo 115 = .ok (.iload 5, 2) := by decide +kernel
theorem dL_isSandSo_117 : decode cL_isSandSo 117 = .ok (.invokevirtual 48, 3) := by decide +kernel
theorem dL_isSandSo_120 : decode cL_isSandSo 120 = .ok (.if_icmp .ne 7, 3) := by decide +kernel
theorem dL_isSandSo_123 : decode cL_isSandSo 123 = .ok (.iconst 1, 1) := by decide +kernel
theorem dL_isSandSo_124 : decode cL_isSandSo 124 = .ok (.goto 4, 3) := by decide +kernel
theorem dL_isSandSo_127 : decode cL_isSandSo 127 = .ok (.iconst 0, 1) := by decide +kernel
theorem dL_isSandSo_128 : decode cL_isSandSo 128 = .ok (.istore 4, 2) := by decide +kernel
theorem dL_isSandSo_130 : decode cL_isSandSo 130 = .ok (.iinc 5 1, 3) := by decide +kernel
theorem dL_isSandSo_133 : decode cL_isSandSo 133 = .ok (.goto (-121), 3) := by decide +kernel
theorem dL_isSandSo_136 : decode cL_isSandSo 136 = .ok (.iconst 0, 1) := by decide +kernel
theorem dL_isSandSo_137 : decode cL_isSandSo 137 = .ok (.istore 5, 2) := by decide +kernel
theorem dL_isSandSo_139 : decode cL_isSandSo 139 = .ok (.iload 5, 2) := by decide +kernel
theorem dL_isSandSo_141 : decode cL_isSandSo 141 = .ok (.aload_n 0, 1) := by decide +kernel
theorem dL_isSandSo_142 : decode cL_isSandSo 142 = .ok (.iconst 4, 1) := by decide +kernel
theorem dL_isSandSo_143 : decode cL_isSandSo 143 = .ok (.invokevirtual 27, 3) := by decide +kernel
theorem dL_isSandSo_146 : decode cL_isSandSo 146 = .ok (.if_icmp .ge 45, 3) := by decide +kernel
theorem dL_isSandSo_149 : decode cL_isSandSo 149 = .ok (.iload 4, 2) := by decide +kernel
theorem dL_isSandSo_151 : decode cL_isSandSo 151 = .ok (.ifCond .eq 31, 3) := by decide +kernel
theorem dL_isSandSo_154 : decode cL_isSandSo 154 = .ok (.aload_n 0, 1) := by decide +kernel
theorem dL_isSandSo_155 : decode cL_isSandSo 155 = .ok (.aload_n 0, 1) := by decide +kernel
theorem dL_isSandSo_156 : decode cL_isSandSo 156 = .ok (.iload 5, 2) := by decide +kernel
theorem dL_isSandSo_158 : decode cL_isSandSo 158 = .ok (.iconst 0, 1) := by decide +kernel
theorem dL_isSandSo_159 : decode cL_isSandSo 159 = .ok (.invokevirtual 52, 3) := by decide +kernel
theorem dL_isSandSo_162 : decode cL_isSandSo 162 = .ok (.aload_n 0, 1) := by decide +kernel
theorem dL_isSandSo_163 : decode cL_isSandSo 163 = .ok (.iload 5, 2) := by decide +kernel
theorem dL_isSandSo_165 : decode cL_isSandSo 165 = .ok (.iconst 1, 1) := by decide +kernel
theorem dL_isSandSo_166 : decode cL_isSandSo 166 = .ok (.invokevirtual 52, 3) := by decide +kernel
theorem dL_isSandSo_169 : decode cL_isSandSo 169 = .ok (.iconst 3, 1) := by decide +kernel
theorem dL_isSandSo_170 : decode cL_isSandSo 170 = .ok (.invokevirtual 45, 3) := by decide +kernel
theorem dL_isSandSo_173 : decode cL_isSandSo 173 = .ok (.iload 5, 2) := by decide +kernel
theorem dL_isSandSo_175 : decode cL_isSandSo 175 = .ok (.if_icmp .ne 7, 3) := by decide +kernel
theorem dL_isSandSo_178 : decode cL_isSandSo 178 = .ok (.iconst 1, 1) := by decide +kernel
theorem dL_isSandSo_179 : decode cL_isSandSo 179 = .ok (.goto 4, 3) := by decide +kernel
theorem dL_isSandSo_182 : decode cL_isSandSo 182 = .ok (.iconst 0, 1) := by decide +kernel
theorem dL_isSandSo_183 : decode cL_isSandSo 183 = .ok (.istore 4, 2) := by decide +kernel
theorem dL_isSandSo_185 : decode cL_isSandSo 185 = .ok (.iinc 5 1, 3) := by decide +kernel
