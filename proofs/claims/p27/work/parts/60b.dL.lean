/-! printed rows -/
theorem dL_isSandSo_188 : decode cL_isSandSo 188 = .ok (.goto (-49), 3) := by decide +kernel
theorem dL_isSandSo_191 : decode cL_isSandSo 191 = .ok (.iload 4, 2) := by decide +kernel
theorem dL_isSandSo_193 : decode cL_isSandSo 193 = .ok (.ifCond .eq 79, 3) := by decide +kernel
theorem dL_isSandSo_196 : decode cL_isSandSo 196 = .ok (.iload_n 1, 1) := by decide +kernel
theorem dL_isSandSo_197 : decode cL_isSandSo 197 = .ok (.aload_n 0, 1) := by decide +kernel
theorem dL_isSandSo_198 : decode cL_isSandSo 198 = .ok (.iconst 0, 1) := by decide +kernel
theorem dL_isSandSo_199 : decode cL_isSandSo 199 = .ok (.invokevirtual 27, 3) := by decide +kernel
theorem dL_isSandSo_202 : decode cL_isSandSo 202 = .ok (.if_icmp .ne 70, 3) := by decide +kernel
theorem dL_isSandSo_205 : decode cL_isSandSo 205 = .ok (.iload_n 2, 1) := by decide +kernel
theorem dL_isSandSo_206 : decode cL_isSandSo 206 = .ok (.iload_n 1, 1) := by decide +kernel
theorem dL_isSandSo_207 : decode cL_isSandSo 207 = .ok (.if_icmp .ne 65, 3) := by decide +kernel
theorem dL_isSandSo_210 : decode cL_isSandSo 210 = .ok (.iload_n 3, 1) := by decide +kernel
theorem dL_isSandSo_211 : decode cL_isSandSo 211 = .ok (.aload_n 0, 1) := by decide +kernel
theorem dL_isSandSo_212 : decode cL_isSandSo 212 = .ok (.bipush 10, 2) := by decide +kernel
theorem dL_isSandSo_214 : decode cL_isSandSo 214 = .ok (.invokevirtual 27, 3) := by decide +kernel
theorem dL_isSandSo_217 : decode cL_isSandSo 217 = .ok (.if_icmp .ne 55, 3) := by decide +kernel
theorem dL_isSandSo_220 : decode cL_isSandSo 220 = .ok (.aload_n 0, 1) := by decide +kernel
theorem dL_isSandSo_221 : decode cL_isSandSo 221 = .ok (.iconst 0, 1) := by decide +kernel
theorem dL_isSandSo_222 : decode cL_isSandSo 222 = .ok (.invokevirtual 27, 3) := by decide +kernel
theorem dL_isSandSo_225 : decode cL_isSandSo 225 = .ok (.aload_n 0, 1) := by decide +kernel
theorem dL_isSandSo_226 : decode cL_isSandSo 226 = .ok (.iconst 1, 1) := by decide +kernel
theorem dL_isSandSo_227 : decode cL_isSandSo 227 = .ok (.invokevirtual 27, 3) := by decide +kernel
theorem dL_isSandSo_230 : decode cL_isSandSo 230 = .ok (.aload_n 0, 1) := by decide +kernel
theorem dL_isSandSo_231 : decode cL_isSandSo 231 = .ok (.iconst 2, 1) := by decide +kernel
theorem dL_isSandSo_232 : decode cL_isSandSo 232 = .ok (.invokevirtual 27, 3) := by decide +kernel
theorem dL_isSandSo_235 : decode cL_isSandSo 235 = .ok (.isub, 1) := by decide +kernel
theorem dL_isSandSo_236 : decode cL_isSandSo 236 = .ok (.aload_n 0, 1) := by decide +kernel
theorem dL_isSandSo_237 : decode cL_isSandSo 237 = .ok (.iconst 3, 1) := by decide +kernel
theorem dL_isSandSo_238 : decode cL_isSandSo 238 = .ok (.invokevirtual 27, 3) := by decide +kernel
theorem dL_isSandSo_241 : decode cL_isSandSo 241 = .ok (.isub, 1) := by decide +kernel
theorem dL_isSandSo_242 : decode cL_isSandSo 242 = .ok (.if_icmp .ne 30, 3) := by decide +kernel
theorem dL_isSandSo_245 : decode cL_isSandSo 245 = .ok (.aload_n 0, 1) := by decide +kernel
theorem dL_isSandSo_246 : decode cL_isSandSo 246 = .ok (.iconst 4, 1) := by decide +kernel
theorem dL_isSandSo_247 : decode cL_isSandSo 247 = .ok (.invokevirtual 27, 3) := by decide +kernel
theorem dL_isSandSo_250 : decode cL_isSandSo 250 = .ok (.iconst 4, 1) := by decide +kernel
theorem dL_isSandSo_251 : decode cL_isSandSo 251 = .ok (.if_icmp .gt 21, 3) := by decide +kernel
theorem dL_isSandSo_254 : decode cL_isSandSo 254 = .ok (.aload_n 0, 1) := by decide +kernel
theorem dL_isSandSo_255 : decode cL_isSandSo 255 = .ok (.aload_n 0, 1) := by decide +kernel
theorem dL_isSandSo_256 : decode cL_isSandSo 256 = .ok (.iconst 4, 1) := by decide +kernel
theorem dL_isSandSo_257 : decode cL_isSandSo 257 = .ok (.invokevirtual 27, 3) := by decide +kernel
theorem dL_isSandSo_260 : decode cL_isSandSo 260 = .ok (.iconst 1, 1) := by decide +kernel
theorem dL_isSandSo_261 : decode cL_isSandSo 261 = .ok (.invokevirtual 52, 3) := by decide +kernel
theorem dL_isSandSo_264 : decode cL_isSandSo 264 = .ok (.iconst (-1), 1) := by decide +kernel
theorem dL_isSandSo_265 : decode cL_isSandSo 265 = .ok (.if_icmp .ne 7, 3) := by decide +kernel
theorem dL_isSandSo_268 : decode cL_isSandSo 268 = .ok (.iconst 1, 1) := by decide +kernel
theorem dL_isSandSo_269 : decode cL_isSandSo 269 = .ok (.goto 4, 3) := by decide +kernel
theorem dL_isSandSo_272 : decode cL_isSandSo 272 = .ok (.iconst 0, 1) := by decide +kernel
theorem dL_isSandSo_273 : decode cL_isSandSo 273 = .ok (.ireturn, 1) := by decide +kernel
theorem dL_placeOf_0 : decode cL_placeOf 0 = .ok (.iload_n 0, 1) := by decide +kernel
theorem dL_placeOf_1 : decode cL_placeOf 1 = .ok (.ifCond .ne 7, 3) := by decide +kernel
theorem dL_placeOf_4 : decode cL_placeOf 4 = .ok (.iload_n 1, 1) := by decide +kernel
theorem dL_placeOf_5 : decode cL_placeOf 5 = .ok (.goto 35, 3) := by decide +kernel
theorem dL_placeOf_8 : decode cL_placeOf 8 = .ok (.iload_n 0, 1) := by decide +kernel
theorem dL_placeOf_9 : decode cL_placeOf 9 = .ok (.iconst 1, 1) := by decide +kernel
theorem dL_placeOf_10 : decode cL_placeOf 10 = .ok (.if_icmp .ne 13, 3) := by decide +kernel
theorem dL_placeOf_13 : decode cL_placeOf 13 = .ok (.bipush 12, 2) := by decide +kernel
theorem dL_placeOf_15 : decode cL_placeOf 15 = .ok (.iload_n 1, 1) := by decide +kernel
theorem dL_placeOf_16 : decode cL_placeOf 16 = .ok (.imul, 1) := by decide +kernel
theorem dL_placeOf_17 : decode cL_placeOf 17 = .ok (.bipush 11, 2) := by decide +kernel
theorem dL_placeOf_19 : decode cL_placeOf 19 = .ok (.iadd, 1) := by decide +kernel
theorem dL_placeOf_20 : decode cL_placeOf 20 = .ok (.goto 20, 3) := by decide +kernel
theorem dL_placeOf_23 : decode cL_placeOf 23 = .ok (.iload_n 0, 1) := by decide +kernel
theorem dL_placeOf_24 : decode cL_placeOf 24 = .ok (.iconst 2, 1) := by decide +kernel
theorem dL_placeOf_25 : decode cL_placeOf 25 = .ok (.if_icmp .ne 11, 3) := by decide +kernel
theorem dL_placeOf_28 : decode cL_placeOf 28 = .ok (.sipush 132, 3) := by decide +kernel
theorem dL_placeOf_31 : decode cL_placeOf 31 = .ok (.iload_n 1, 1) := by decide +kernel
theorem dL_placeOf_32 : decode cL_placeOf 32 = .ok (.iadd, 1) := by decide +kernel
theorem dL_placeOf_33 : decode cL_placeOf 33 = .ok (.goto 7, 3) := by decide +kernel
theorem dL_placeOf_36 : decode cL_placeOf 36 = .ok (.bipush 12, 2) := by decide +kernel
theorem dL_placeOf_38 : decode cL_placeOf 38 = .ok (.iload_n 1, 1) := by decide +kernel
theorem dL_placeOf_39 : decode cL_placeOf 39 = .ok (.imul, 1) := by decide +kernel
theorem dL_placeOf_40 : decode cL_placeOf 40 = .ok (.ireturn, 1) := by decide +kernel
theorem dL_isBowSo_0 : decode cL_isBowSo 0 = .ok (.aload_n 0, 1) := by decide +kernel
theorem dL_isBowSo_1 : decode cL_isBowSo 1 = .ok (.iload_n 1, 1) := by decide +kernel
theorem dL_isBowSo_2 : decode cL_isBowSo 2 = .ok (.iload_n 2, 1) := by decide +kernel
theorem dL_isBowSo_3 : decode cL_isBowSo 3 = .ok (.invokevirtual 56, 3) := by decide +kernel
theorem dL_isBowSo_6 : decode cL_isBowSo 6 = .ok (.istore_n 3, 1) := by decide +kernel
theorem dL_isBowSo_7 : decode cL_isBowSo 7 = .ok (.iload_n 1, 1) := by decide +kernel
theorem dL_isBowSo_8 : decode cL_isBowSo 8 = .ok (.iload_n 2, 1) := by decide +kernel
theorem dL_isBowSo_9 : decode cL_isBowSo 9 = .ok (.invokestatic 59, 3) := by decide +kernel
theorem dL_isBowSo_12 : decode cL_isBowSo 12 = .ok (.istore 4, 2) := by decide +kernel
theorem dL_isBowSo_14 : decode cL_isBowSo 14 = .ok (.iconst 1, 1) := by decide +kernel
theorem dL_isBowSo_15 : decode cL_isBowSo 15 = .ok (.istore 5, 2) := by decide +kernel
theorem dL_isBowSo_17 : decode cL_isBowSo 17 = .ok (.bipush (-5), 2) := by decide +kernel
theorem dL_isBowSo_19 : decode cL_isBowSo 19 = .ok (.istore 6, 2) := by decide +kernel
theorem dL_isBowSo_21 : decode cL_isBowSo 21 = .ok (.iconst 0, 1) := by decide +kernel
theorem dL_isBowSo_22 : decode cL_isBowSo 22 = .ok (.istore 7, 2) := by decide +kernel
theorem dL_isBowSo_24 : decode cL_isBowSo 24 = .ok (.iload 7, 2) := by decide +kernel
theorem dL_isBowSo_26 : decode cL_isBowSo 26 = .ok (.bipush 48, 2) := by decide +kernel
theorem dL_isBowSo_28 : decode cL_isBowSo 28 = .ok (.if_icmp .ge 227, 3) := by decide +kernel
theorem dL_isBowSo_31 : decode cL_isBowSo 31 = .ok (.iconst 0, 1) := by decide +kernel
theorem dL_isBowSo_32 : decode cL_isBowSo 32 = .ok (.istore 8, 2) := by decide +kernel
theorem dL_isBowSo_34 : decode cL_isBowSo 34 = .ok (.iconst 0, 1) := by decide +kernel
theorem dL_isBowSo_35 : decode cL_isBowSo 35 = .ok (.istore 9, 2) := by decide +kernel
theorem dL_isBowSo_37 : decode cL_isBowSo 37 = .ok (.iload 9, 2) := by decide +kernel
theorem dL_isBowSo_39 : decode cL_isBowSo 39 = .ok (.aload_n 0, 1) := by decide +kernel
theorem dL_isBowSo_40 : decode cL_isBowSo 40 = .ok (.iconst 4, 1) := by decide +kernel
theorem dL_isBowSo_41 : decode cL_isBowSo 41 = .ok (.invokevirtual 27, 3) := by decide +kernel
theorem dL_isBowSo_44 : decode cL_isBowSo 44 = .ok (.if_icmp .ge 50, 3) := by decide +kernel
theorem dL_isBowSo_47 : decode cL_isBowSo 47 = .ok (.iload 8, 2) := by decide +kernel
theorem dL_isBowSo_49 : decode cL_isBowSo 49 = .ok (.ifCond .ne 32, 3) := by decide +kernel
theorem dL_isBowSo_52 : decode cL_isBowSo 52 = .ok (.aload_n 0, 1) := by decide +kernel
theorem dL_isBowSo_53 : decode cL_isBowSo 53 = .ok (.iload 7, 2) := by decide +kernel
theorem dL_isBowSo_55 : decode cL_isBowSo 55 = .ok (.aload_n 0, 1) := by decide +kernel
theorem dL_isBowSo_56 : decode cL_isBowSo 56 = .ok (.iload 9, 2) := by decide +kernel
theorem dL_isBowSo_58 : decode cL_isBowSo 58 = .ok (.iconst 0, 1) := by decide +kernel
theorem dL_isBowSo_59 : decode cL_isBowSo 59 = .ok (.invokevirtual 52, 3) := by decide +kernel
theorem dL_isBowSo_62 : decode cL_isBowSo 62 = .ok (.aload_n 0, 1) := by decide +kernel
theorem dL_isBowSo_63 : decode cL_isBowSo 63 = .ok (.iload 9, 2) := by decide +kernel
theorem dL_isBowSo_65 : decode cL_isBowSo 65 = .ok (.iconst 1, 1) := by decide +kernel
theorem dL_isBowSo_66 : decode cL_isBowSo 66 = .ok (.invokevirtual 52, 3) := by decide +kernel
theorem dL_isBowSo_69 : decode cL_isBowSo 69 = .ok (.invokevirtual 62, 3) := by decide +kernel
theorem dL_isBowSo_72 : decode cL_isBowSo 72 = .ok (.aload_n 0, 1) := by decide +kernel
theorem dL_isBowSo_73 : decode cL_isBowSo 73 = .ok (.bipush 11, 2) := by decide +kernel
theorem dL_isBowSo_75 : decode cL_isBowSo 75 = .ok (.invokevirtual 27, 3) := by decide +kernel
theorem dL_isBowSo_78 : decode cL_isBowSo 78 = .ok (.if_icmp .le 7, 3) := by decide +kernel
theorem dL_isBowSo_81 : decode cL_isBowSo 81 = .ok (.iconst 1, 1) := by decide +kernel
theorem dL_isBowSo_82 : decode cL_isBowSo 82 = .ok (.goto 4, 3) := by decide +kernel
theorem dL_isBowSo_85 : decode cL_isBowSo 85 = .ok (.iconst 0, 1) := by decide +kernel
theorem dL_isBowSo_86 : decode cL_isBowSo 86 = .ok (.istore 8, 2) := by decide +kernel
theorem dL_isBowSo_88 : decode cL_isBowSo 88 = .ok (.iinc 9 1, 3) := by decide +kernel
theorem dL_isBowSo_91 : decode cL_isBowSo 91 = .ok (.goto (-54), 3) := by decide +kernel
theorem dL_isBowSo_94 : decode cL_isBowSo 94 = .ok (.aload_n 0, 1) := by decide +kernel
theorem dL_isBowSo_95 : decode cL_isBowSo 95 = .ok (.iload 7, 2) := by decide +kernel
theorem dL_isBowSo_97 : decode cL_isBowSo 97 = .ok (.iload 4, 2) := by decide +kernel
theorem dL_isBowSo_99 : decode cL_isBowSo 99 = .ok (.bipush 12, 2) := by decide +kernel
theorem dL_isBowSo_101 : decode cL_isBowSo 101 = .ok (.irem, 1) := by decide +kernel
theorem dL_isBowSo_102 : decode cL_isBowSo 102 = .ok (.iload 4, 2) := by decide +kernel
theorem dL_isBowSo_104 : decode cL_isBowSo 104 = .ok (.bipush 12, 2) := by decide +kernel
theorem dL_isBowSo_106 : decode cL_isBowSo 106 = .ok (.idiv, 1) := by decide +kernel
theorem dL_isBowSo_107 : decode cL_isBowSo 107 = .ok (.invokevirtual 62, 3) := by decide +kernel
theorem dL_isBowSo_110 : decode cL_isBowSo 110 = .ok (.istore 9, 2) := by decide +kernel
theorem dL_isBowSo_112 : decode cL_isBowSo 112 = .ok (.iload 8, 2) := by decide +kernel
theorem dL_isBowSo_114 : decode cL_isBowSo 114 = .ok (.ifCond .eq 7, 3) := by decide +kernel
theorem dL_isBowSo_117 : decode cL_isBowSo 117 = .ok (.iconst 1, 1) := by decide +kernel
theorem dL_isBowSo_118 : decode cL_isBowSo 118 = .ok (.goto 28, 3) := by decide +kernel
theorem dL_isBowSo_121 : decode cL_isBowSo 121 = .ok (.iload 9, 2) := by decide +kernel
theorem dL_isBowSo_123 : decode cL_isBowSo 123 = .ok (.aload_n 0, 1) := by decide +kernel
theorem dL_isBowSo_124 : decode cL_isBowSo 124 = .ok (.bipush 12, 2) := by decide +kernel
theorem dL_isBowSo_126 : decode cL_isBowSo 126 = .ok (.invokevirtual 27, 3) := by decide +kernel
theorem dL_isBowSo_129 : decode cL_isBowSo 129 = .ok (.if_icmp .ge 7, 3) := by decide +kernel
theorem dL_isBowSo_132 : decode cL_isBowSo 132 = .ok (.iconst 2, 1) := by decide +kernel
theorem dL_isBowSo_133 : decode cL_isBowSo 133 = .ok (.goto 13, 3) := by decide +kernel
theorem dL_isBowSo_136 : decode cL_isBowSo 136 = .ok (.iload 5, 2) := by decide +kernel
theorem dL_isBowSo_138 : decode cL_isBowSo 138 = .ok (.ifCond .eq 7, 3) := by decide +kernel
theorem dL_isBowSo_141 : decode cL_isBowSo 141 = .ok (.iconst 0, 1) := by decide +kernel
theorem dL_isBowSo_142 : decode cL_isBowSo 142 = .ok (.goto 4, 3) := by decide +kernel
theorem dL_isBowSo_145 : decode cL_isBowSo 145 = .ok (.iconst 3, 1) := by decide +kernel
theorem dL_isBowSo_146 : decode cL_isBowSo 146 = .ok (.istore 10, 2) := by decide +kernel
theorem dL_isBowSo_148 : decode cL_isBowSo 148 = .ok (.iload 10, 2) := by decide +kernel
theorem dL_isBowSo_150 : decode cL_isBowSo 150 = .ok (.ifCond .ne 8, 3) := by decide +kernel
theorem dL_isBowSo_153 : decode cL_isBowSo 153 = .ok (.iload 7, 2) := by decide +kernel
theorem dL_isBowSo_155 : decode cL_isBowSo 155 = .ok (.goto 5, 3) := by decide +kernel
theorem dL_isBowSo_158 : decode cL_isBowSo 158 = .ok (.iload 6, 2) := by decide +kernel
theorem dL_isBowSo_160 : decode cL_isBowSo 160 = .ok (.istore 6, 2) := by decide +kernel
theorem dL_isBowSo_162 : decode cL_isBowSo 162 = .ok (.iload 5, 2) := by decide +kernel
theorem dL_isBowSo_164 : decode cL_isBowSo 164 = .ok (.ifCond .eq 12, 3) := by decide +kernel
theorem dL_isBowSo_167 : decode cL_isBowSo 167 = .ok (.iload 10, 2) := by decide +kernel
theorem dL_isBowSo_169 : decode cL_isBowSo 169 = .ok (.ifCond .eq 7, 3) := by decide +kernel
theorem dL_isBowSo_172 : decode cL_isBowSo 172 = .ok (.iconst 1, 1) := by decide +kernel
theorem dL_isBowSo_173 : decode cL_isBowSo 173 = .ok (.goto 4, 3) := by decide +kernel
theorem dL_isBowSo_176 : decode cL_isBowSo 176 = .ok (.iconst 0, 1) := by decide +kernel
theorem dL_isBowSo_177 : decode cL_isBowSo 177 = .ok (.istore 5, 2) := by decide +kernel
theorem dL_isBowSo_179 : decode cL_isBowSo 179 = .ok (.aload_n 0, 1) := by decide +kernel
theorem dL_isBowSo_180 : decode cL_isBowSo 180 = .ok (.iload 7, 2) := by decide +kernel
theorem dL_isBowSo_182 : decode cL_isBowSo 182 = .ok (.iload_n 1, 1) := by decide +kernel
theorem dL_isBowSo_183 : decode cL_isBowSo 183 = .ok (.iload_n 2, 1) := by decide +kernel
theorem dL_isBowSo_184 : decode cL_isBowSo 184 = .ok (.invokevirtual 65, 3) := by decide +kernel
theorem dL_isBowSo_187 : decode cL_isBowSo 187 = .ok (.iload 10, 2) := by decide +kernel
theorem dL_isBowSo_189 : decode cL_isBowSo 189 = .ok (.if_icmp .ne 58, 3) := by decide +kernel
theorem dL_isBowSo_192 : decode cL_isBowSo 192 = .ok (.aload_n 0, 1) := by decide +kernel
theorem dL_isBowSo_193 : decode cL_isBowSo 193 = .ok (.iload 7, 2) := by decide +kernel
theorem dL_isBowSo_195 : decode cL_isBowSo 195 = .ok (.bipush 7, 2) := by decide +kernel
theorem dL_isBowSo_197 : decode cL_isBowSo 197 = .ok (.invokevirtual 68, 3) := by decide +kernel
theorem dL_isBowSo_200 : decode cL_isBowSo 200 = .ok (.iload 8, 2) := by decide +kernel
theorem dL_isBowSo_202 : decode cL_isBowSo 202 = .ok (.ifCond .eq 7, 3) := by decide +kernel
theorem dL_isBowSo_205 : decode cL_isBowSo 205 = .ok (.iconst 0, 1) := by decide +kernel
theorem dL_isBowSo_206 : decode cL_isBowSo 206 = .ok (.goto 4, 3) := by decide +kernel
theorem dL_isBowSo_209 : decode cL_isBowSo 209 = .ok (.iconst 1, 1) := by decide +kernel
theorem dL_isBowSo_210 : decode cL_isBowSo 210 = .ok (.if_icmp .ne 37, 3) := by decide +kernel
theorem dL_isBowSo_213 : decode cL_isBowSo 213 = .ok (.iload 9, 2) := by decide +kernel
theorem dL_isBowSo_215 : decode cL_isBowSo 215 = .ok (.aload_n 0, 1) := by decide +kernel
theorem dL_isBowSo_216 : decode cL_isBowSo 216 = .ok (.iload 7, 2) := by decide +kernel
theorem dL_isBowSo_218 : decode cL_isBowSo 218 = .ok (.iload 4, 2) := by decide +kernel
theorem dL_isBowSo_220 : decode cL_isBowSo 220 = .ok (.bipush 12, 2) := by decide +kernel
theorem dL_isBowSo_222 : decode cL_isBowSo 222 = .ok (.idiv, 1) := by decide +kernel
theorem dL_isBowSo_223 : decode cL_isBowSo 223 = .ok (.iload 4, 2) := by decide +kernel
theorem dL_isBowSo_225 : decode cL_isBowSo 225 = .ok (.bipush 12, 2) := by decide +kernel
theorem dL_isBowSo_227 : decode cL_isBowSo 227 = .ok (.irem, 1) := by decide +kernel
theorem dL_isBowSo_228 : decode cL_isBowSo 228 = .ok (.invokevirtual 62, 3) := by decide +kernel
theorem dL_isBowSo_231 : decode cL_isBowSo 231 = .ok (.if_icmp .ne 16, 3) := by decide +kernel
theorem dL_isBowSo_234 : decode cL_isBowSo 234 = .ok (.iload 9, 2) := by decide +kernel
theorem dL_isBowSo_236 : decode cL_isBowSo 236 = .ok (.ifCond .lt 11, 3) := by decide +kernel
theorem dL_isBowSo_239 : decode cL_isBowSo 239 = .ok (.iload 9, 2) := by decide +kernel
theorem dL_isBowSo_241 : decode cL_isBowSo 241 = .ok (.sipush 200, 3) := by decide +kernel
theorem dL_isBowSo_244 : decode cL_isBowSo 244 = .ok (.if_icmp .le 5, 3) := by decide +kernel
theorem dL_isBowSo_247 : decode cL_isBowSo 247 = .ok (.iconst 0, 1) := by decide +kernel
theorem dL_isBowSo_248 : decode cL_isBowSo 248 = .ok (.ireturn, 1) := by decide +kernel
theorem dL_isBowSo_249 : decode cL_isBowSo 249 = .ok (.iinc 7 1, 3) := by decide +kernel
theorem dL_isBowSo_252 : decode cL_isBowSo 252 = .ok (.goto (-228), 3) := by decide +kernel
theorem dL_isBowSo_255 : decode cL_isBowSo 255 = .ok (.iload 6, 2) := by decide +kernel
theorem dL_isBowSo_257 : decode cL_isBowSo 257 = .ok (.iload_n 3, 1) := by decide +kernel
theorem dL_isBowSo_258 : decode cL_isBowSo 258 = .ok (.if_icmp .ne 7, 3) := by decide +kernel
theorem dL_isBowSo_261 : decode cL_isBowSo 261 = .ok (.iconst 1, 1) := by decide +kernel
theorem dL_isBowSo_262 : decode cL_isBowSo 262 = .ok (.goto 4, 3) := by decide +kernel
theorem dL_isBowSo_265 : decode cL_isBowSo 265 = .ok (.iconst 0, 1) := by decide +kernel
theorem dL_isBowSo_266 : decode cL_isBowSo 266 = .ok (.ireturn, 1) := by decide +kernel
theorem dL_isPlaySo_0 : decode cL_isPlaySo 0 = .ok (.aload_n 0, 1) := by decide +kernel
theorem dL_isPlaySo_1 : decode cL_isPlaySo 1 = .ok (.iconst 0, 1) := by decide +kernel
theorem dL_isPlaySo_2 : decode cL_isPlaySo 2 = .ok (.iconst 3, 1) := by decide +kernel
theorem dL_isPlaySo_3 : decode cL_isPlaySo 3 = .ok (.invokevirtual 71, 3) := by decide +kernel
theorem dL_isPlaySo_6 : decode cL_isPlaySo 6 = .ok (.istore_n 1, 1) := by decide +kernel
theorem dL_isPlaySo_7 : decode cL_isPlaySo 7 = .ok (.aload_n 0, 1) := by decide +kernel
theorem dL_isPlaySo_8 : decode cL_isPlaySo 8 = .ok (.iconst 0, 1) := by decide +kernel
theorem dL_isPlaySo_9 : decode cL_isPlaySo 9 = .ok (.iconst 2, 1) := by decide +kernel
theorem dL_isPlaySo_10 : decode cL_isPlaySo 10 = .ok (.invokevirtual 71, 3) := by decide +kernel
theorem dL_isPlaySo_13 : decode cL_isPlaySo 13 = .ok (.istore_n 2, 1) := by decide +kernel
theorem dL_isPlaySo_14 : decode cL_isPlaySo 14 = .ok (.aload_n 0, 1) := by decide +kernel
theorem dL_isPlaySo_15 : decode cL_isPlaySo 15 = .ok (.iconst 0, 1) := by decide +kernel
theorem dL_isPlaySo_16 : decode cL_isPlaySo 16 = .ok (.invokevirtual 27, 3) := by decide +kernel
theorem dL_isPlaySo_19 : decode cL_isPlaySo 19 = .ok (.istore_n 3, 1) := by decide +kernel
theorem dL_isPlaySo_20 : decode cL_isPlaySo 20 = .ok (.aload_n 0, 1) := by decide +kernel
theorem dL_isPlaySo_21 : decode cL_isPlaySo 21 = .ok (.iconst 3, 1) := by decide +kernel
theorem dL_isPlaySo_22 : decode cL_isPlaySo 22 = .ok (.invokevirtual 27, 3) := by decide +kernel
theorem dL_isPlaySo_25 : decode cL_isPlaySo 25 = .ok (.istore 4, 2) := by decide +kernel
theorem dL_isPlaySo_27 : decode cL_isPlaySo 27 = .ok (.aload_n 0, 1) := by decide +kernel
theorem dL_isPlaySo_28 : decode cL_isPlaySo 28 = .ok (.bipush 7, 2) := by decide +kernel
theorem dL_isPlaySo_30 : decode cL_isPlaySo 30 = .ok (.invokevirtual 27, 3) := by decide +kernel
theorem dL_isPlaySo_33 : decode cL_isPlaySo 33 = .ok (.istore 5, 2) := by decide +kernel
theorem dL_isPlaySo_35 : decode cL_isPlaySo 35 = .ok (.aload_n 0, 1) := by decide +kernel
theorem dL_isPlaySo_36 : decode cL_isPlaySo 36 = .ok (.iconst 5, 1) := by decide +kernel
theorem dL_isPlaySo_37 : decode cL_isPlaySo 37 = .ok (.invokevirtual 27, 3) := by decide +kernel
theorem dL_isPlaySo_40 : decode cL_isPlaySo 40 = .ok (.istore 6, 2) := by decide +kernel
theorem dL_isPlaySo_42 : decode cL_isPlaySo 42 = .ok (.aload_n 0, 1) := by decide +kernel
theorem dL_isPlaySo_43 : decode cL_isPlaySo 43 = .ok (.bipush 8, 2) := by decide +kernel
theorem dL_isPlaySo_45 : decode cL_isPlaySo 45 = .ok (.invokevirtual 27, 3) := by decide +kernel
theorem dL_isPlaySo_48 : decode cL_isPlaySo 48 = .ok (.istore 7, 2) := by decide +kernel
theorem dL_isPlaySo_50 : decode cL_isPlaySo 50 = .ok (.aload_n 0, 1) := by decide +kernel
theorem dL_isPlaySo_51 : decode cL_isPlaySo 51 = .ok (.bipush 6, 2) := by decide +kernel
theorem dL_isPlaySo_53 : decode cL_isPlaySo 53 = .ok (.invokevirtual 27, 3) := by decide +kernel
theorem dL_isPlaySo_56 : decode cL_isPlaySo 56 = .ok (.istore 8, 2) := by decide +kernel
theorem dL_isPlaySo_58 : decode cL_isPlaySo 58 = .ok (.iload 6, 2) := by decide +kernel
theorem dL_isPlaySo_60 : decode cL_isPlaySo 60 = .ok (.ifCond .ne 25, 3) := by decide +kernel
theorem dL_isPlaySo_63 : decode cL_isPlaySo 63 = .ok (.aload_n 0, 1) := by decide +kernel
theorem dL_isPlaySo_64 : decode cL_isPlaySo 64 = .ok (.iconst 3, 1) := by decide +kernel
theorem dL_isPlaySo_65 : decode cL_isPlaySo 65 = .ok (.invokevirtual 42, 3) := by decide +kernel
theorem dL_isPlaySo_68 : decode cL_isPlaySo 68 = .ok (.bipush (-5), 2) := by decide +kernel
theorem dL_isPlaySo_70 : decode cL_isPlaySo 70 = .ok (.if_icmp .ne 13, 3) := by decide +kernel
theorem dL_isPlaySo_73 : decode cL_isPlaySo 73 = .ok (.iload_n 1, 1) := by decide +kernel
theorem dL_isPlaySo_74 : decode cL_isPlaySo 74 = .ok (.bipush (-5), 2) := by decide +kernel
theorem dL_isPlaySo_76 : decode cL_isPlaySo 76 = .ok (.if_icmp .ne 7, 3) := by decide +kernel
theorem dL_isPlaySo_79 : decode cL_isPlaySo 79 = .ok (.iconst 1, 1) := by decide +kernel
theorem dL_isPlaySo_80 : decode cL_isPlaySo 80 = .ok (.goto 4, 3) := by decide +kernel
theorem dL_isPlaySo_83 : decode cL_isPlaySo 83 = .ok (.iconst 0, 1) := by decide +kernel
theorem dL_isPlaySo_84 : decode cL_isPlaySo 84 = .ok (.ireturn, 1) := by decide +kernel
theorem dL_isPlaySo_85 : decode cL_isPlaySo 85 = .ok (.iload_n 1, 1) := by decide +kernel
theorem dL_isPlaySo_86 : decode cL_isPlaySo 86 = .ok (.ifCond .ge 7, 3) := by decide +kernel
theorem dL_isPlaySo_89 : decode cL_isPlaySo 89 = .ok (.iconst 0, 1) := by decide +kernel
theorem dL_isPlaySo_90 : decode cL_isPlaySo 90 = .ok (.goto 10, 3) := by decide +kernel
theorem dL_isPlaySo_93 : decode cL_isPlaySo 93 = .ok (.aload_n 0, 1) := by decide +kernel
theorem dL_isPlaySo_94 : decode cL_isPlaySo 94 = .ok (.iload_n 1, 1) := by decide +kernel
theorem dL_isPlaySo_95 : decode cL_isPlaySo 95 = .ok (.bipush 6, 2) := by decide +kernel
theorem dL_isPlaySo_97 : decode cL_isPlaySo 97 = .ok (.invokevirtual 68, 3) := by decide +kernel
theorem dL_isPlaySo_100 : decode cL_isPlaySo 100 = .ok (.istore 9, 2) := by decide +kernel
theorem dL_isPlaySo_102 : decode cL_isPlaySo 102 = .ok (.aload_n 0, 1) := by decide +kernel
theorem dL_isPlaySo_103 : decode cL_isPlaySo 103 = .ok (.iconst 1, 1) := by decide +kernel
theorem dL_isPlaySo_104 : decode cL_isPlaySo 104 = .ok (.iconst 1, 1) := by decide +kernel
theorem dL_isPlaySo_105 : decode cL_isPlaySo 105 = .ok (.invokevirtual 71, 3) := by decide +kernel
theorem dL_isPlaySo_108 : decode cL_isPlaySo 108 = .ok (.istore 10, 2) := by decide +kernel
theorem dL_isPlaySo_110 : decode cL_isPlaySo 110 = .ok (.aload_n 0, 1) := by decide +kernel
theorem dL_isPlaySo_111 : decode cL_isPlaySo 111 = .ok (.iconst 1, 1) := by decide +kernel
theorem dL_isPlaySo_112 : decode cL_isPlaySo 112 = .ok (.invokevirtual 42, 3) := by decide +kernel
theorem dL_isPlaySo_115 : decode cL_isPlaySo 115 = .ok (.istore 11, 2) := by decide +kernel
theorem dL_isPlaySo_117 : decode cL_isPlaySo 117 = .ok (.aload_n 0, 1) := by decide +kernel
theorem dL_isPlaySo_118 : decode cL_isPlaySo 118 = .ok (.iconst 5, 1) := by decide +kernel
theorem dL_isPlaySo_119 : decode cL_isPlaySo 119 = .ok (.invokevirtual 27, 3) := by decide +kernel
theorem dL_isPlaySo_122 : decode cL_isPlaySo 122 = .ok (.iload 6, 2) := by decide +kernel
theorem dL_isPlaySo_124 : decode cL_isPlaySo 124 = .ok (.iconst 1, 1) := by decide +kernel
theorem dL_isPlaySo_125 : decode cL_isPlaySo 125 = .ok (.isub, 1) := by decide +kernel
theorem dL_isPlaySo_126 : decode cL_isPlaySo 126 = .ok (.if_icmp .ne 88, 3) := by decide +kernel
theorem dL_isPlaySo_129 : decode cL_isPlaySo 129 = .ok (.aload_n 0, 1) := by decide +kernel
theorem dL_isPlaySo_130 : decode cL_isPlaySo 130 = .ok (.iconst 0, 1) := by decide +kernel
theorem dL_isPlaySo_131 : decode cL_isPlaySo 131 = .ok (.iconst 1, 1) := by decide +kernel
theorem dL_isPlaySo_132 : decode cL_isPlaySo 132 = .ok (.invokevirtual 71, 3) := by decide +kernel
theorem dL_isPlaySo_135 : decode cL_isPlaySo 135 = .ok (.iload 10, 2) := by decide +kernel
theorem dL_isPlaySo_137 : decode cL_isPlaySo 137 = .ok (.if_icmp .ne 77, 3) := by decide +kernel
theorem dL_isPlaySo_140 : decode cL_isPlaySo 140 = .ok (.iload 11, 2) := by decide +kernel
theorem dL_isPlaySo_142 : decode cL_isPlaySo 142 = .ok (.iload_n 1, 1) := by decide +kernel
theorem dL_isPlaySo_143 : decode cL_isPlaySo 143 = .ok (.ifCond .ge 7, 3) := by decide +kernel
theorem dL_isPlaySo_146 : decode cL_isPlaySo 146 = .ok (.iconst 0, 1) := by decide +kernel
theorem dL_isPlaySo_147 : decode cL_isPlaySo 147 = .ok (.goto 4, 3) := by decide +kernel
theorem dL_isPlaySo_150 : decode cL_isPlaySo 150 = .ok (.iconst 1, 1) := by decide +kernel
theorem dL_isPlaySo_151 : decode cL_isPlaySo 151 = .ok (.if_icmp .ne 63, 3) := by decide +kernel
theorem dL_isPlaySo_154 : decode cL_isPlaySo 154 = .ok (.aload_n 0, 1) := by decide +kernel
theorem dL_isPlaySo_155 : decode cL_isPlaySo 155 = .ok (.bipush 8, 2) := by decide +kernel
theorem dL_isPlaySo_157 : decode cL_isPlaySo 157 = .ok (.invokevirtual 27, 3) := by decide +kernel
