/-! printed rows -/
theorem dL_isPlaySo_160 : decode cL_isPlaySo 160 = .ok (.iload_n 1, 1) := by decide +kernel
theorem dL_isPlaySo_161 : decode cL_isPlaySo 161 = .ok (.ifCond .ge 8, 3) := by decide +kernel
theorem dL_isPlaySo_164 : decode cL_isPlaySo 164 = .ok (.iload 7, 2) := by decide +kernel
theorem dL_isPlaySo_166 : decode cL_isPlaySo 166 = .ok (.goto 4, 3) := by decide +kernel
theorem dL_isPlaySo_169 : decode cL_isPlaySo 169 = .ok (.iload_n 1, 1) := by decide +kernel
theorem dL_isPlaySo_170 : decode cL_isPlaySo 170 = .ok (.if_icmp .ne 44, 3) := by decide +kernel
theorem dL_isPlaySo_173 : decode cL_isPlaySo 173 = .ok (.aload_n 0, 1) := by decide +kernel
theorem dL_isPlaySo_174 : decode cL_isPlaySo 174 = .ok (.bipush 7, 2) := by decide +kernel
theorem dL_isPlaySo_176 : decode cL_isPlaySo 176 = .ok (.invokevirtual 27, 3) := by decide +kernel
theorem dL_isPlaySo_179 : decode cL_isPlaySo 179 = .ok (.iload 5, 2) := by decide +kernel
theorem dL_isPlaySo_181 : decode cL_isPlaySo 181 = .ok (.iconst 1, 1) := by decide +kernel
theorem dL_isPlaySo_182 : decode cL_isPlaySo 182 = .ok (.iadd, 1) := by decide +kernel
theorem dL_isPlaySo_183 : decode cL_isPlaySo 183 = .ok (.iload 11, 2) := by decide +kernel
theorem dL_isPlaySo_185 : decode cL_isPlaySo 185 = .ok (.isub, 1) := by decide +kernel
theorem dL_isPlaySo_186 : decode cL_isPlaySo 186 = .ok (.if_icmp .ne 28, 3) := by decide +kernel
theorem dL_isPlaySo_189 : decode cL_isPlaySo 189 = .ok (.aload_n 0, 1) := by decide +kernel
theorem dL_isPlaySo_190 : decode cL_isPlaySo 190 = .ok (.bipush 6, 2) := by decide +kernel
theorem dL_isPlaySo_192 : decode cL_isPlaySo 192 = .ok (.invokevirtual 27, 3) := by decide +kernel
theorem dL_isPlaySo_195 : decode cL_isPlaySo 195 = .ok (.iload 8, 2) := by decide +kernel
theorem dL_isPlaySo_197 : decode cL_isPlaySo 197 = .ok (.iload_n 1, 1) := by decide +kernel
theorem dL_isPlaySo_198 : decode cL_isPlaySo 198 = .ok (.ifCond .ge 7, 3) := by decide +kernel
theorem dL_isPlaySo_201 : decode cL_isPlaySo 201 = .ok (.iconst 0, 1) := by decide +kernel
theorem dL_isPlaySo_202 : decode cL_isPlaySo 202 = .ok (.goto 4, 3) := by decide +kernel
theorem dL_isPlaySo_205 : decode cL_isPlaySo 205 = .ok (.iload_n 2, 1) := by decide +kernel
theorem dL_isPlaySo_206 : decode cL_isPlaySo 206 = .ok (.iadd, 1) := by decide +kernel
theorem dL_isPlaySo_207 : decode cL_isPlaySo 207 = .ok (.if_icmp .ne 7, 3) := by decide +kernel
theorem dL_isPlaySo_210 : decode cL_isPlaySo 210 = .ok (.iconst 1, 1) := by decide +kernel
theorem dL_isPlaySo_211 : decode cL_isPlaySo 211 = .ok (.goto 4, 3) := by decide +kernel
theorem dL_isPlaySo_214 : decode cL_isPlaySo 214 = .ok (.iconst 0, 1) := by decide +kernel
theorem dL_isPlaySo_215 : decode cL_isPlaySo 215 = .ok (.istore 12, 2) := by decide +kernel
theorem dL_isPlaySo_217 : decode cL_isPlaySo 217 = .ok (.iload 12, 2) := by decide +kernel
theorem dL_isPlaySo_219 : decode cL_isPlaySo 219 = .ok (.ifCond .eq 53, 3) := by decide +kernel
theorem dL_isPlaySo_222 : decode cL_isPlaySo 222 = .ok (.iload_n 1, 1) := by decide +kernel
theorem dL_isPlaySo_223 : decode cL_isPlaySo 223 = .ok (.ifCond .ge 15, 3) := by decide +kernel
theorem dL_isPlaySo_226 : decode cL_isPlaySo 226 = .ok (.aload_n 0, 1) := by decide +kernel
theorem dL_isPlaySo_227 : decode cL_isPlaySo 227 = .ok (.iconst 0, 1) := by decide +kernel
theorem dL_isPlaySo_228 : decode cL_isPlaySo 228 = .ok (.invokevirtual 27, 3) := by decide +kernel
theorem dL_isPlaySo_231 : decode cL_isPlaySo 231 = .ok (.iload_n 3, 1) := by decide +kernel
theorem dL_isPlaySo_232 : decode cL_isPlaySo 232 = .ok (.if_icmp .ne 40, 3) := by decide +kernel
theorem dL_isPlaySo_235 : decode cL_isPlaySo 235 = .ok (.goto 33, 3) := by decide +kernel
theorem dL_isPlaySo_238 : decode cL_isPlaySo 238 = .ok (.aload_n 0, 1) := by decide +kernel
theorem dL_isPlaySo_239 : decode cL_isPlaySo 239 = .ok (.iload_n 1, 1) := by decide +kernel
theorem dL_isPlaySo_240 : decode cL_isPlaySo 240 = .ok (.bipush 6, 2) := by decide +kernel
theorem dL_isPlaySo_242 : decode cL_isPlaySo 242 = .ok (.invokevirtual 68, 3) := by decide +kernel
theorem dL_isPlaySo_245 : decode cL_isPlaySo 245 = .ok (.iload 9, 2) := by decide +kernel
theorem dL_isPlaySo_247 : decode cL_isPlaySo 247 = .ok (.if_icmp .lt 25, 3) := by decide +kernel
theorem dL_isPlaySo_250 : decode cL_isPlaySo 250 = .ok (.aload_n 0, 1) := by decide +kernel
theorem dL_isPlaySo_251 : decode cL_isPlaySo 251 = .ok (.iconst 0, 1) := by decide +kernel
theorem dL_isPlaySo_252 : decode cL_isPlaySo 252 = .ok (.invokevirtual 27, 3) := by decide +kernel
theorem dL_isPlaySo_255 : decode cL_isPlaySo 255 = .ok (.aload_n 0, 1) := by decide +kernel
theorem dL_isPlaySo_256 : decode cL_isPlaySo 256 = .ok (.iconst 3, 1) := by decide +kernel
theorem dL_isPlaySo_257 : decode cL_isPlaySo 257 = .ok (.invokevirtual 27, 3) := by decide +kernel
theorem dL_isPlaySo_260 : decode cL_isPlaySo 260 = .ok (.iadd, 1) := by decide +kernel
theorem dL_isPlaySo_261 : decode cL_isPlaySo 261 = .ok (.iload_n 3, 1) := by decide +kernel
theorem dL_isPlaySo_262 : decode cL_isPlaySo 262 = .ok (.iload 4, 2) := by decide +kernel
theorem dL_isPlaySo_264 : decode cL_isPlaySo 264 = .ok (.iadd, 1) := by decide +kernel
theorem dL_isPlaySo_265 : decode cL_isPlaySo 265 = .ok (.if_icmp .ne 7, 3) := by decide +kernel
theorem dL_isPlaySo_268 : decode cL_isPlaySo 268 = .ok (.iconst 1, 1) := by decide +kernel
theorem dL_isPlaySo_269 : decode cL_isPlaySo 269 = .ok (.goto 4, 3) := by decide +kernel
theorem dL_isPlaySo_272 : decode cL_isPlaySo 272 = .ok (.iconst 0, 1) := by decide +kernel
theorem dL_isPlaySo_273 : decode cL_isPlaySo 273 = .ok (.istore 12, 2) := by decide +kernel
theorem dL_isPlaySo_275 : decode cL_isPlaySo 275 = .ok (.aload_n 0, 1) := by decide +kernel
theorem dL_isPlaySo_276 : decode cL_isPlaySo 276 = .ok (.invokevirtual 74, 3) := by decide +kernel
theorem dL_isPlaySo_279 : decode cL_isPlaySo 279 = .ok (.istore 13, 2) := by decide +kernel
theorem dL_isPlaySo_281 : decode cL_isPlaySo 281 = .ok (.iload 12, 2) := by decide +kernel
theorem dL_isPlaySo_283 : decode cL_isPlaySo 283 = .ok (.ifCond .eq 31, 3) := by decide +kernel
theorem dL_isPlaySo_286 : decode cL_isPlaySo 286 = .ok (.iload 13, 2) := by decide +kernel
theorem dL_isPlaySo_288 : decode cL_isPlaySo 288 = .ok (.ifCond .lt 26, 3) := by decide +kernel
theorem dL_isPlaySo_291 : decode cL_isPlaySo 291 = .ok (.aload_n 0, 1) := by decide +kernel
theorem dL_isPlaySo_292 : decode cL_isPlaySo 292 = .ok (.iconst 0, 1) := by decide +kernel
theorem dL_isPlaySo_293 : decode cL_isPlaySo 293 = .ok (.invokevirtual 27, 3) := by decide +kernel
theorem dL_isPlaySo_296 : decode cL_isPlaySo 296 = .ok (.iload_n 3, 1) := by decide +kernel
theorem dL_isPlaySo_297 : decode cL_isPlaySo 297 = .ok (.if_icmp .ne 17, 3) := by decide +kernel
theorem dL_isPlaySo_300 : decode cL_isPlaySo 300 = .ok (.aload_n 0, 1) := by decide +kernel
theorem dL_isPlaySo_301 : decode cL_isPlaySo 301 = .ok (.iconst 5, 1) := by decide +kernel
theorem dL_isPlaySo_302 : decode cL_isPlaySo 302 = .ok (.invokevirtual 27, 3) := by decide +kernel
theorem dL_isPlaySo_305 : decode cL_isPlaySo 305 = .ok (.iload 6, 2) := by decide +kernel
theorem dL_isPlaySo_307 : decode cL_isPlaySo 307 = .ok (.if_icmp .ne 7, 3) := by decide +kernel
theorem dL_isPlaySo_310 : decode cL_isPlaySo 310 = .ok (.iconst 1, 1) := by decide +kernel
theorem dL_isPlaySo_311 : decode cL_isPlaySo 311 = .ok (.goto 4, 3) := by decide +kernel
theorem dL_isPlaySo_314 : decode cL_isPlaySo 314 = .ok (.iconst 0, 1) := by decide +kernel
theorem dL_isPlaySo_315 : decode cL_isPlaySo 315 = .ok (.ireturn, 1) := by decide +kernel
theorem dL_areWaysSo_0 : decode cL_areWaysSo 0 = .ok (.iconst 0, 1) := by decide +kernel
theorem dL_areWaysSo_1 : decode cL_areWaysSo 1 = .ok (.istore_n 1, 1) := by decide +kernel
theorem dL_areWaysSo_2 : decode cL_areWaysSo 2 = .ok (.iconst 0, 1) := by decide +kernel
theorem dL_areWaysSo_3 : decode cL_areWaysSo 3 = .ok (.istore_n 2, 1) := by decide +kernel
theorem dL_areWaysSo_4 : decode cL_areWaysSo 4 = .ok (.aload_n 0, 1) := by decide +kernel
theorem dL_areWaysSo_5 : decode cL_areWaysSo 5 = .ok (.bipush 48, 2) := by decide +kernel
theorem dL_areWaysSo_7 : decode cL_areWaysSo 7 = .ok (.iconst 0, 1) := by decide +kernel
theorem dL_areWaysSo_8 : decode cL_areWaysSo 8 = .ok (.invokevirtual 68, 3) := by decide +kernel
theorem dL_areWaysSo_11 : decode cL_areWaysSo 11 = .ok (.iconst (-1), 1) := by decide +kernel
theorem dL_areWaysSo_12 : decode cL_areWaysSo 12 = .ok (.if_icmp .ne 7, 3) := by decide +kernel
theorem dL_areWaysSo_15 : decode cL_areWaysSo 15 = .ok (.iconst 1, 1) := by decide +kernel
theorem dL_areWaysSo_16 : decode cL_areWaysSo 16 = .ok (.goto 4, 3) := by decide +kernel
theorem dL_areWaysSo_19 : decode cL_areWaysSo 19 = .ok (.iconst 0, 1) := by decide +kernel
theorem dL_areWaysSo_20 : decode cL_areWaysSo 20 = .ok (.istore_n 3, 1) := by decide +kernel
theorem dL_areWaysSo_21 : decode cL_areWaysSo 21 = .ok (.iconst 0, 1) := by decide +kernel
theorem dL_areWaysSo_22 : decode cL_areWaysSo 22 = .ok (.istore 4, 2) := by decide +kernel
theorem dL_areWaysSo_24 : decode cL_areWaysSo 24 = .ok (.iload 4, 2) := by decide +kernel
theorem dL_areWaysSo_26 : decode cL_areWaysSo 26 = .ok (.bipush 48, 2) := by decide +kernel
theorem dL_areWaysSo_28 : decode cL_areWaysSo 28 = .ok (.if_icmp .ge 214, 3) := by decide +kernel
theorem dL_areWaysSo_31 : decode cL_areWaysSo 31 = .ok (.aload_n 0, 1) := by decide +kernel
theorem dL_areWaysSo_32 : decode cL_areWaysSo 32 = .ok (.iload 4, 2) := by decide +kernel
theorem dL_areWaysSo_34 : decode cL_areWaysSo 34 = .ok (.iconst 0, 1) := by decide +kernel
theorem dL_areWaysSo_35 : decode cL_areWaysSo 35 = .ok (.invokevirtual 68, 3) := by decide +kernel
theorem dL_areWaysSo_38 : decode cL_areWaysSo 38 = .ok (.istore 5, 2) := by decide +kernel
theorem dL_areWaysSo_40 : decode cL_areWaysSo 40 = .ok (.aload_n 0, 1) := by decide +kernel
theorem dL_areWaysSo_41 : decode cL_areWaysSo 41 = .ok (.iload 4, 2) := by decide +kernel
theorem dL_areWaysSo_43 : decode cL_areWaysSo 43 = .ok (.iconst 1, 1) := by decide +kernel
theorem dL_areWaysSo_44 : decode cL_areWaysSo 44 = .ok (.invokevirtual 68, 3) := by decide +kernel
theorem dL_areWaysSo_47 : decode cL_areWaysSo 47 = .ok (.istore 6, 2) := by decide +kernel
theorem dL_areWaysSo_49 : decode cL_areWaysSo 49 = .ok (.bipush 10, 2) := by decide +kernel
theorem dL_areWaysSo_51 : decode cL_areWaysSo 51 = .ok (.aload_n 0, 1) := by decide +kernel
theorem dL_areWaysSo_52 : decode cL_areWaysSo 52 = .ok (.iload 4, 2) := by decide +kernel
theorem dL_areWaysSo_54 : decode cL_areWaysSo 54 = .ok (.iconst 3, 1) := by decide +kernel
theorem dL_areWaysSo_55 : decode cL_areWaysSo 55 = .ok (.invokevirtual 68, 3) := by decide +kernel
theorem dL_areWaysSo_58 : decode cL_areWaysSo 58 = .ok (.imul, 1) := by decide +kernel
theorem dL_areWaysSo_59 : decode cL_areWaysSo 59 = .ok (.iload 5, 2) := by decide +kernel
theorem dL_areWaysSo_61 : decode cL_areWaysSo 61 = .ok (.iadd, 1) := by decide +kernel
theorem dL_areWaysSo_62 : decode cL_areWaysSo 62 = .ok (.istore 7, 2) := by decide +kernel
theorem dL_areWaysSo_64 : decode cL_areWaysSo 64 = .ok (.aload_n 0, 1) := by decide +kernel
theorem dL_areWaysSo_65 : decode cL_areWaysSo 65 = .ok (.iload_n 2, 1) := by decide +kernel
theorem dL_areWaysSo_66 : decode cL_areWaysSo 66 = .ok (.invokevirtual 78, 3) := by decide +kernel
theorem dL_areWaysSo_69 : decode cL_areWaysSo 69 = .ok (.iload 4, 2) := by decide +kernel
theorem dL_areWaysSo_71 : decode cL_areWaysSo 71 = .ok (.if_icmp .ne 7, 3) := by decide +kernel
theorem dL_areWaysSo_74 : decode cL_areWaysSo 74 = .ok (.iconst 1, 1) := by decide +kernel
theorem dL_areWaysSo_75 : decode cL_areWaysSo 75 = .ok (.goto 4, 3) := by decide +kernel
theorem dL_areWaysSo_78 : decode cL_areWaysSo 78 = .ok (.iconst 0, 1) := by decide +kernel
theorem dL_areWaysSo_79 : decode cL_areWaysSo 79 = .ok (.istore 8, 2) := by decide +kernel
theorem dL_areWaysSo_81 : decode cL_areWaysSo 81 = .ok (.iload_n 3, 1) := by decide +kernel
theorem dL_areWaysSo_82 : decode cL_areWaysSo 82 = .ok (.ifCond .eq 136, 3) := by decide +kernel
theorem dL_areWaysSo_85 : decode cL_areWaysSo 85 = .ok (.aload_n 0, 1) := by decide +kernel
theorem dL_areWaysSo_86 : decode cL_areWaysSo 86 = .ok (.iload 4, 2) := by decide +kernel
theorem dL_areWaysSo_88 : decode cL_areWaysSo 88 = .ok (.iconst 3, 1) := by decide +kernel
theorem dL_areWaysSo_89 : decode cL_areWaysSo 89 = .ok (.invokevirtual 68, 3) := by decide +kernel
theorem dL_areWaysSo_92 : decode cL_areWaysSo 92 = .ok (.bipush 10, 2) := by decide +kernel
theorem dL_areWaysSo_94 : decode cL_areWaysSo 94 = .ok (.iload 5, 2) := by decide +kernel
theorem dL_areWaysSo_96 : decode cL_areWaysSo 96 = .ok (.iload 5, 2) := by decide +kernel
theorem dL_areWaysSo_98 : decode cL_areWaysSo 98 = .ok (.imul, 1) := by decide +kernel
theorem dL_areWaysSo_99 : decode cL_areWaysSo 99 = .ok (.iload 6, 2) := by decide +kernel
theorem dL_areWaysSo_101 : decode cL_areWaysSo 101 = .ok (.iload 6, 2) := by decide +kernel
theorem dL_areWaysSo_103 : decode cL_areWaysSo 103 = .ok (.imul, 1) := by decide +kernel
theorem dL_areWaysSo_104 : decode cL_areWaysSo 104 = .ok (.iadd, 1) := by decide +kernel
theorem dL_areWaysSo_105 : decode cL_areWaysSo 105 = .ok (.imul, 1) := by decide +kernel
theorem dL_areWaysSo_106 : decode cL_areWaysSo 106 = .ok (.aload_n 0, 1) := by decide +kernel
theorem dL_areWaysSo_107 : decode cL_areWaysSo 107 = .ok (.iload 4, 2) := by decide +kernel
theorem dL_areWaysSo_109 : decode cL_areWaysSo 109 = .ok (.iconst 2, 1) := by decide +kernel
theorem dL_areWaysSo_110 : decode cL_areWaysSo 110 = .ok (.invokevirtual 68, 3) := by decide +kernel
theorem dL_areWaysSo_113 : decode cL_areWaysSo 113 = .ok (.iadd, 1) := by decide +kernel
theorem dL_areWaysSo_114 : decode cL_areWaysSo 114 = .ok (.if_icmp .ne 104, 3) := by decide +kernel
theorem dL_areWaysSo_117 : decode cL_areWaysSo 117 = .ok (.iload 7, 2) := by decide +kernel
theorem dL_areWaysSo_119 : decode cL_areWaysSo 119 = .ok (.iload_n 1, 1) := by decide +kernel
theorem dL_areWaysSo_120 : decode cL_areWaysSo 120 = .ok (.if_icmp .le 98, 3) := by decide +kernel
theorem dL_areWaysSo_123 : decode cL_areWaysSo 123 = .ok (.iload 5, 2) := by decide +kernel
theorem dL_areWaysSo_125 : decode cL_areWaysSo 125 = .ok (.iload 6, 2) := by decide +kernel
theorem dL_areWaysSo_127 : decode cL_areWaysSo 127 = .ok (.if_icmp .gt 91, 3) := by decide +kernel
theorem dL_areWaysSo_130 : decode cL_areWaysSo 130 = .ok (.iload 5, 2) := by decide +kernel
theorem dL_areWaysSo_132 : decode cL_areWaysSo 132 = .ok (.iload 6, 2) := by decide +kernel
theorem dL_areWaysSo_134 : decode cL_areWaysSo 134 = .ok (.if_icmp .lt 13, 3) := by decide +kernel
theorem dL_areWaysSo_137 : decode cL_areWaysSo 137 = .ok (.aload_n 0, 1) := by decide +kernel
theorem dL_areWaysSo_138 : decode cL_areWaysSo 138 = .ok (.iload 4, 2) := by decide +kernel
theorem dL_areWaysSo_140 : decode cL_areWaysSo 140 = .ok (.iconst 2, 1) := by decide +kernel
theorem dL_areWaysSo_141 : decode cL_areWaysSo 141 = .ok (.invokevirtual 68, 3) := by decide +kernel
theorem dL_areWaysSo_144 : decode cL_areWaysSo 144 = .ok (.ifCond .ne 74, 3) := by decide +kernel
theorem dL_areWaysSo_147 : decode cL_areWaysSo 147 = .ok (.aload_n 0, 1) := by decide +kernel
theorem dL_areWaysSo_148 : decode cL_areWaysSo 148 = .ok (.iload 4, 2) := by decide +kernel
theorem dL_areWaysSo_150 : decode cL_areWaysSo 150 = .ok (.iconst 5, 1) := by decide +kernel
theorem dL_areWaysSo_151 : decode cL_areWaysSo 151 = .ok (.invokevirtual 68, 3) := by decide +kernel
theorem dL_areWaysSo_154 : decode cL_areWaysSo 154 = .ok (.aload_n 0, 1) := by decide +kernel
theorem dL_areWaysSo_155 : decode cL_areWaysSo 155 = .ok (.iload 4, 2) := by decide +kernel
theorem dL_areWaysSo_157 : decode cL_areWaysSo 157 = .ok (.iconst 4, 1) := by decide +kernel
theorem dL_areWaysSo_158 : decode cL_areWaysSo 158 = .ok (.invokevirtual 68, 3) := by decide +kernel
theorem dL_areWaysSo_161 : decode cL_areWaysSo 161 = .ok (.if_icmp .gt 57, 3) := by decide +kernel
theorem dL_areWaysSo_164 : decode cL_areWaysSo 164 = .ok (.aload_n 0, 1) := by decide +kernel
theorem dL_areWaysSo_165 : decode cL_areWaysSo 165 = .ok (.iload 4, 2) := by decide +kernel
theorem dL_areWaysSo_167 : decode cL_areWaysSo 167 = .ok (.iconst 5, 1) := by decide +kernel
theorem dL_areWaysSo_168 : decode cL_areWaysSo 168 = .ok (.invokevirtual 68, 3) := by decide +kernel
theorem dL_areWaysSo_171 : decode cL_areWaysSo 171 = .ok (.ifCond .ne 7, 3) := by decide +kernel
theorem dL_areWaysSo_174 : decode cL_areWaysSo 174 = .ok (.iconst 1, 1) := by decide +kernel
theorem dL_areWaysSo_175 : decode cL_areWaysSo 175 = .ok (.goto 4, 3) := by decide +kernel
theorem dL_areWaysSo_178 : decode cL_areWaysSo 178 = .ok (.iconst 0, 1) := by decide +kernel
theorem dL_areWaysSo_179 : decode cL_areWaysSo 179 = .ok (.aload_n 0, 1) := by decide +kernel
theorem dL_areWaysSo_180 : decode cL_areWaysSo 180 = .ok (.iload 4, 2) := by decide +kernel
theorem dL_areWaysSo_182 : decode cL_areWaysSo 182 = .ok (.iconst 4, 1) := by decide +kernel
theorem dL_areWaysSo_183 : decode cL_areWaysSo 183 = .ok (.invokevirtual 68, 3) := by decide +kernel
theorem dL_areWaysSo_186 : decode cL_areWaysSo 186 = .ok (.ifCond .ne 7, 3) := by decide +kernel
theorem dL_areWaysSo_189 : decode cL_areWaysSo 189 = .ok (.iconst 1, 1) := by decide +kernel
theorem dL_areWaysSo_190 : decode cL_areWaysSo 190 = .ok (.goto 4, 3) := by decide +kernel
theorem dL_areWaysSo_193 : decode cL_areWaysSo 193 = .ok (.iconst 0, 1) := by decide +kernel
theorem dL_areWaysSo_194 : decode cL_areWaysSo 194 = .ok (.if_icmp .ne 24, 3) := by decide +kernel
theorem dL_areWaysSo_197 : decode cL_areWaysSo 197 = .ok (.iload 8, 2) := by decide +kernel
theorem dL_areWaysSo_199 : decode cL_areWaysSo 199 = .ok (.ifCond .eq 15, 3) := by decide +kernel
theorem dL_areWaysSo_202 : decode cL_areWaysSo 202 = .ok (.aload_n 0, 1) := by decide +kernel
theorem dL_areWaysSo_203 : decode cL_areWaysSo 203 = .ok (.iload 4, 2) := by decide +kernel
theorem dL_areWaysSo_205 : decode cL_areWaysSo 205 = .ok (.bipush 7, 2) := by decide +kernel
theorem dL_areWaysSo_207 : decode cL_areWaysSo 207 = .ok (.invokevirtual 68, 3) := by decide +kernel
theorem dL_areWaysSo_210 : decode cL_areWaysSo 210 = .ok (.iconst 1, 1) := by decide +kernel
theorem dL_areWaysSo_211 : decode cL_areWaysSo 211 = .ok (.if_icmp .ne 7, 3) := by decide +kernel
theorem dL_areWaysSo_214 : decode cL_areWaysSo 214 = .ok (.iconst 1, 1) := by decide +kernel
theorem dL_areWaysSo_215 : decode cL_areWaysSo 215 = .ok (.goto 4, 3) := by decide +kernel
theorem dL_areWaysSo_218 : decode cL_areWaysSo 218 = .ok (.iconst 0, 1) := by decide +kernel
theorem dL_areWaysSo_219 : decode cL_areWaysSo 219 = .ok (.istore_n 3, 1) := by decide +kernel
theorem dL_areWaysSo_220 : decode cL_areWaysSo 220 = .ok (.iload_n 2, 1) := by decide +kernel
theorem dL_areWaysSo_221 : decode cL_areWaysSo 221 = .ok (.iload 8, 2) := by decide +kernel
theorem dL_areWaysSo_223 : decode cL_areWaysSo 223 = .ok (.ifCond .eq 7, 3) := by decide +kernel
theorem dL_areWaysSo_226 : decode cL_areWaysSo 226 = .ok (.iconst 1, 1) := by decide +kernel
theorem dL_areWaysSo_227 : decode cL_areWaysSo 227 = .ok (.goto 4, 3) := by decide +kernel
theorem dL_areWaysSo_230 : decode cL_areWaysSo 230 = .ok (.iconst 0, 1) := by decide +kernel
theorem dL_areWaysSo_231 : decode cL_areWaysSo 231 = .ok (.iadd, 1) := by decide +kernel
theorem dL_areWaysSo_232 : decode cL_areWaysSo 232 = .ok (.istore_n 2, 1) := by decide +kernel
theorem dL_areWaysSo_233 : decode cL_areWaysSo 233 = .ok (.iload 7, 2) := by decide +kernel
theorem dL_areWaysSo_235 : decode cL_areWaysSo 235 = .ok (.istore_n 1, 1) := by decide +kernel
theorem dL_areWaysSo_236 : decode cL_areWaysSo 236 = .ok (.iinc 4 1, 3) := by decide +kernel
theorem dL_areWaysSo_239 : decode cL_areWaysSo 239 = .ok (.goto (-215), 3) := by decide +kernel
theorem dL_areWaysSo_242 : decode cL_areWaysSo 242 = .ok (.iload_n 3, 1) := by decide +kernel
theorem dL_areWaysSo_243 : decode cL_areWaysSo 243 = .ok (.ifCond .eq 27, 3) := by decide +kernel
theorem dL_areWaysSo_246 : decode cL_areWaysSo 246 = .ok (.iload_n 2, 1) := by decide +kernel
theorem dL_areWaysSo_247 : decode cL_areWaysSo 247 = .ok (.aload_n 0, 1) := by decide +kernel
theorem dL_areWaysSo_248 : decode cL_areWaysSo 248 = .ok (.bipush 9, 2) := by decide +kernel
theorem dL_areWaysSo_250 : decode cL_areWaysSo 250 = .ok (.invokevirtual 27, 3) := by decide +kernel
theorem dL_areWaysSo_253 : decode cL_areWaysSo 253 = .ok (.if_icmp .ne 17, 3) := by decide +kernel
theorem dL_areWaysSo_256 : decode cL_areWaysSo 256 = .ok (.aload_n 0, 1) := by decide +kernel
theorem dL_areWaysSo_257 : decode cL_areWaysSo 257 = .ok (.iload_n 2, 1) := by decide +kernel
theorem dL_areWaysSo_258 : decode cL_areWaysSo 258 = .ok (.invokevirtual 78, 3) := by decide +kernel
theorem dL_areWaysSo_261 : decode cL_areWaysSo 261 = .ok (.bipush (-5), 2) := by decide +kernel
theorem dL_areWaysSo_263 : decode cL_areWaysSo 263 = .ok (.if_icmp .ne 7, 3) := by decide +kernel
theorem dL_areWaysSo_266 : decode cL_areWaysSo 266 = .ok (.iconst 1, 1) := by decide +kernel
theorem dL_areWaysSo_267 : decode cL_areWaysSo 267 = .ok (.goto 4, 3) := by decide +kernel
theorem dL_areWaysSo_270 : decode cL_areWaysSo 270 = .ok (.iconst 0, 1) := by decide +kernel
theorem dL_areWaysSo_271 : decode cL_areWaysSo 271 = .ok (.ireturn, 1) := by decide +kernel
theorem dL_law_0 : decode cL_law 0 = .ok (.new 15, 3) := by decide +kernel
theorem dL_law_3 : decode cL_law 3 = .ok (.dup, 1) := by decide +kernel
theorem dL_law_4 : decode cL_law 4 = .ok (.invokespecial 81, 3) := by decide +kernel
theorem dL_law_7 : decode cL_law 7 = .ok (.astore_n 1, 1) := by decide +kernel
theorem dL_law_8 : decode cL_law 8 = .ok (.iconst 0, 1) := by decide +kernel
theorem dL_law_9 : decode cL_law 9 = .ok (.istore_n 2, 1) := by decide +kernel
theorem dL_law_10 : decode cL_law 10 = .ok (.iload_n 2, 1) := by decide +kernel
theorem dL_law_11 : decode cL_law 11 = .ok (.bipush 50, 2) := by decide +kernel
theorem dL_law_13 : decode cL_law 13 = .ok (.if_icmp .ge 98, 3) := by decide +kernel
theorem dL_law_16 : decode cL_law 16 = .ok (.aload_n 0, 1) := by decide +kernel
theorem dL_law_17 : decode cL_law 17 = .ok (.iload_n 2, 1) := by decide +kernel
theorem dL_law_18 : decode cL_law 18 = .ok (.invokestatic 82, 3) := by decide +kernel
theorem dL_law_21 : decode cL_law 21 = .ok (.istore_n 3, 1) := by decide +kernel
theorem dL_law_22 : decode cL_law 22 = .ok (.aload_n 1, 1) := by decide +kernel
theorem dL_law_23 : decode cL_law 23 = .ok (.iload_n 3, 1) := by decide +kernel
theorem dL_law_24 : decode cL_law 24 = .ok (.invokestatic 86, 3) := by decide +kernel
theorem dL_law_27 : decode cL_law 27 = .ok (.istore 4, 2) := by decide +kernel
theorem dL_law_29 : decode cL_law 29 = .ok (.iload 4, 2) := by decide +kernel
theorem dL_law_31 : decode cL_law 31 = .ok (.bipush (-5), 2) := by decide +kernel
theorem dL_law_33 : decode cL_law 33 = .ok (.if_icmp .lt 70, 3) := by decide +kernel
theorem dL_law_36 : decode cL_law 36 = .ok (.aload_n 1, 1) := by decide +kernel
theorem dL_law_37 : decode cL_law 37 = .ok (.invokestatic 90, 3) := by decide +kernel
theorem dL_law_40 : decode cL_law 40 = .ok (.ifCond .eq 63, 3) := by decide +kernel
theorem dL_law_43 : decode cL_law 43 = .ok (.iload_n 2, 1) := by decide +kernel
theorem dL_law_44 : decode cL_law 44 = .ok (.iconst 3, 1) := by decide +kernel
theorem dL_law_45 : decode cL_law 45 = .ok (.irem, 1) := by decide +kernel
theorem dL_law_46 : decode cL_law 46 = .ok (.iconst 1, 1) := by decide +kernel
theorem dL_law_47 : decode cL_law 47 = .ok (.if_icmp .ne 26, 3) := by decide +kernel
theorem dL_law_50 : decode cL_law 50 = .ok (.aload_n 1, 1) := by decide +kernel
theorem dL_law_51 : decode cL_law 51 = .ok (.iload_n 3, 1) := by decide +kernel
theorem dL_law_52 : decode cL_law 52 = .ok (.iconst 5, 1) := by decide +kernel
theorem dL_law_53 : decode cL_law 53 = .ok (.ishr, 1) := by decide +kernel
theorem dL_law_54 : decode cL_law 54 = .ok (.iconst 4, 1) := by decide +kernel
theorem dL_law_55 : decode cL_law 55 = .ok (.invokestatic 8, 3) := by decide +kernel
theorem dL_law_58 : decode cL_law 58 = .ok (.iload_n 3, 1) := by decide +kernel
theorem dL_law_59 : decode cL_law 59 = .ok (.bipush 7, 2) := by decide +kernel
theorem dL_law_61 : decode cL_law 61 = .ok (.ishr, 1) := by decide +kernel
theorem dL_law_62 : decode cL_law 62 = .ok (.bipush 12, 2) := by decide +kernel
theorem dL_law_64 : decode cL_law 64 = .ok (.invokestatic 8, 3) := by decide +kernel
theorem dL_law_67 : decode cL_law 67 = .ok (.invokestatic 94, 3) := by decide +kernel
theorem dL_law_70 : decode cL_law 70 = .ok (.ifCond .eq 33, 3) := by decide +kernel
theorem dL_law_73 : decode cL_law 73 = .ok (.iload_n 2, 1) := by decide +kernel
theorem dL_law_74 : decode cL_law 74 = .ok (.iconst 2, 1) := by decide +kernel
theorem dL_law_75 : decode cL_law 75 = .ok (.irem, 1) := by decide +kernel
theorem dL_law_76 : decode cL_law 76 = .ok (.iconst 1, 1) := by decide +kernel
theorem dL_law_77 : decode cL_law 77 = .ok (.if_icmp .ne 10, 3) := by decide +kernel
theorem dL_law_80 : decode cL_law 80 = .ok (.aload_n 1, 1) := by decide +kernel
theorem dL_law_81 : decode cL_law 81 = .ok (.invokestatic 98, 3) := by decide +kernel
theorem dL_law_84 : decode cL_law 84 = .ok (.ifCond .eq 19, 3) := by decide +kernel
theorem dL_law_87 : decode cL_law 87 = .ok (.iload_n 2, 1) := by decide +kernel
theorem dL_law_88 : decode cL_law 88 = .ok (.bipush 24, 2) := by decide +kernel
theorem dL_law_90 : decode cL_law 90 = .ok (.irem, 1) := by decide +kernel
theorem dL_law_91 : decode cL_law 91 = .ok (.bipush 11, 2) := by decide +kernel
theorem dL_law_93 : decode cL_law 93 = .ok (.if_icmp .ne 12, 3) := by decide +kernel
theorem dL_law_96 : decode cL_law 96 = .ok (.aload_n 1, 1) := by decide +kernel
theorem dL_law_97 : decode cL_law 97 = .ok (.invokestatic 101, 3) := by decide +kernel
theorem dL_law_100 : decode cL_law 100 = .ok (.ifCond .ne 5, 3) := by decide +kernel
theorem dL_law_103 : decode cL_law 103 = .ok (.iconst 0, 1) := by decide +kernel
theorem dL_law_104 : decode cL_law 104 = .ok (.ireturn, 1) := by decide +kernel
theorem dL_law_105 : decode cL_law 105 = .ok (.iinc 2 1, 3) := by decide +kernel
theorem dL_law_108 : decode cL_law 108 = .ok (.goto (-98), 3) := by decide +kernel
theorem dL_law_111 : decode cL_law 111 = .ok (.iconst 1, 1) := by decide +kernel
theorem dL_law_112 : decode cL_law 112 = .ok (.ireturn, 1) := by decide +kernel
