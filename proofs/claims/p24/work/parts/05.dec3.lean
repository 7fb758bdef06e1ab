theorem dL_does_174 : decode cL_does 174 = .ok (.bipush 6, 2) := by decide +kernel
theorem dL_does_176 : decode cL_does 176 = .ok (.ishr, 1) := by decide +kernel
theorem dL_does_177 : decode cL_does 177 = .ok (.bipush 8, 2) := by decide +kernel
theorem dL_does_179 : decode cL_does 179 = .ok (.invokestatic 34, 3) := by decide +kernel
theorem dL_does_182 : decode cL_does 182 = .ok (.iload_n 1, 1) := by decide +kernel
theorem dL_does_183 : decode cL_does 183 = .ok (.bipush 9, 2) := by decide +kernel
theorem dL_does_185 : decode cL_does 185 = .ok (.ishr, 1) := by decide +kernel
theorem dL_does_186 : decode cL_does 186 = .ok (.bipush 60, 2) := by decide +kernel
theorem dL_does_188 : decode cL_does 188 = .ok (.invokestatic 34, 3) := by decide +kernel
theorem dL_does_191 : decode cL_does 191 = .ok (.invokevirtual 50, 3) := by decide +kernel
theorem dL_does_194 : decode cL_does 194 = .ok (.ireturn, 1) := by decide +kernel
theorem dL_does_195 : decode cL_does 195 = .ok (.aload_n 0, 1) := by decide +kernel
theorem dL_does_196 : decode cL_does 196 = .ok (.iload_n 2, 1) := by decide +kernel
theorem dL_does_197 : decode cL_does 197 = .ok (.iload_n 1, 1) := by decide +kernel
theorem dL_does_198 : decode cL_does 198 = .ok (.bipush 6, 2) := by decide +kernel
theorem dL_does_200 : decode cL_does 200 = .ok (.ishr, 1) := by decide +kernel
theorem dL_does_201 : decode cL_does 201 = .ok (.ldc 53, 2) := by decide +kernel
theorem dL_does_203 : decode cL_does 203 = .ok (.invokestatic 34, 3) := by decide +kernel
theorem dL_does_206 : decode cL_does 206 = .ok (.sipush 20000, 3) := by decide +kernel
theorem dL_does_209 : decode cL_does 209 = .ok (.isub, 1) := by decide +kernel
theorem dL_does_210 : decode cL_does 210 = .ok (.invokevirtual 54, 3) := by decide +kernel
theorem dL_does_213 : decode cL_does 213 = .ok (.ireturn, 1) := by decide +kernel
theorem dL_does_214 : decode cL_does 214 = .ok (.aload_n 0, 1) := by decide +kernel
theorem dL_does_215 : decode cL_does 215 = .ok (.iload_n 2, 1) := by decide +kernel
theorem dL_does_216 : decode cL_does 216 = .ok (.invokevirtual 57, 3) := by decide +kernel
theorem dL_does_219 : decode cL_does 219 = .ok (.ireturn, 1) := by decide +kernel
theorem dL_does_220 : decode cL_does 220 = .ok (.aload_n 0, 1) := by decide +kernel
theorem dL_does_221 : decode cL_does 221 = .ok (.iload_n 2, 1) := by decide +kernel
theorem dL_does_222 : decode cL_does 222 = .ok (.invokevirtual 60, 3) := by decide +kernel
theorem dL_does_225 : decode cL_does 225 = .ok (.ireturn, 1) := by decide +kernel
theorem dL_does_226 : decode cL_does 226 = .ok (.aload_n 0, 1) := by decide +kernel
theorem dL_does_227 : decode cL_does 227 = .ok (.iload_n 1, 1) := by decide +kernel
theorem dL_does_228 : decode cL_does 228 = .ok (.bipush 6, 2) := by decide +kernel
theorem dL_does_230 : decode cL_does 230 = .ok (.ishr, 1) := by decide +kernel
theorem dL_does_231 : decode cL_does 231 = .ok (.bipush 40, 2) := by decide +kernel
theorem dL_does_233 : decode cL_does 233 = .ok (.invokestatic 34, 3) := by decide +kernel
theorem dL_does_236 : decode cL_does 236 = .ok (.invokevirtual 63, 3) := by decide +kernel
theorem dL_does_239 : decode cL_does 239 = .ok (.ireturn, 1) := by decide +kernel
theorem dL_law_0 : decode cL_law 0 = .ok (.new 13, 3) := by decide +kernel
theorem dL_law_3 : decode cL_law 3 = .ok (.dup, 1) := by decide +kernel
theorem dL_law_4 : decode cL_law 4 = .ok (.invokespecial 66, 3) := by decide +kernel
theorem dL_law_7 : decode cL_law 7 = .ok (.astore_n 1, 1) := by decide +kernel
theorem dL_law_8 : decode cL_law 8 = .ok (.iconst 0, 1) := by decide +kernel
theorem dL_law_9 : decode cL_law 9 = .ok (.istore_n 2, 1) := by decide +kernel
theorem dL_law_10 : decode cL_law 10 = .ok (.iconst 0, 1) := by decide +kernel
theorem dL_law_11 : decode cL_law 11 = .ok (.istore_n 3, 1) := by decide +kernel
theorem dL_law_12 : decode cL_law 12 = .ok (.iload_n 3, 1) := by decide +kernel
theorem dL_law_13 : decode cL_law 13 = .ok (.bipush 40, 2) := by decide +kernel
theorem dL_law_15 : decode cL_law 15 = .ok (.if_icmp .ge 438, 3) := by decide +kernel
theorem dL_law_18 : decode cL_law 18 = .ok (.aload_n 0, 1) := by decide +kernel
theorem dL_law_19 : decode cL_law 19 = .ok (.iload_n 3, 1) := by decide +kernel
theorem dL_law_20 : decode cL_law 20 = .ok (.invokestatic 67, 3) := by decide +kernel
theorem dL_law_23 : decode cL_law 23 = .ok (.istore 4, 2) := by decide +kernel
theorem dL_law_25 : decode cL_law 25 = .ok (.aload_n 1, 1) := by decide +kernel
theorem dL_law_26 : decode cL_law 26 = .ok (.invokestatic 71, 3) := by decide +kernel
theorem dL_law_29 : decode cL_law 29 = .ok (.lstore 5, 2) := by decide +kernel
theorem dL_law_31 : decode cL_law 31 = .ok (.aload_n 1, 1) := by decide +kernel
theorem dL_law_32 : decode cL_law 32 = .ok (.iload 4, 2) := by decide +kernel
theorem dL_law_34 : decode cL_law 34 = .ok (.invokestatic 75, 3) := by decide +kernel
theorem dL_law_37 : decode cL_law 37 = .ok (.istore 7, 2) := by decide +kernel
theorem dL_law_39 : decode cL_law 39 = .ok (.iload 7, 2) := by decide +kernel
theorem dL_law_41 : decode cL_law 41 = .ok (.ldc 79, 2) := by decide +kernel
theorem dL_law_43 : decode cL_law 43 = .ok (.if_icmp .le 7, 3) := by decide +kernel
theorem dL_law_46 : decode cL_law 46 = .ok (.iconst 1, 1) := by decide +kernel
theorem dL_law_47 : decode cL_law 47 = .ok (.goto 4, 3) := by decide +kernel
theorem dL_law_50 : decode cL_law 50 = .ok (.iconst 0, 1) := by decide +kernel
theorem dL_law_51 : decode cL_law 51 = .ok (.istore 8, 2) := by decide +kernel
theorem dL_law_53 : decode cL_law 53 = .ok (.iload 8, 2) := by decide +kernel
theorem dL_law_55 : decode cL_law 55 = .ok (.ifCond .ne 15, 3) := by decide +kernel
theorem dL_law_58 : decode cL_law 58 = .ok (.aload_n 1, 1) := by decide +kernel
theorem dL_law_59 : decode cL_law 59 = .ok (.invokestatic 71, 3) := by decide +kernel
theorem dL_law_62 : decode cL_law 62 = .ok (.lload 5, 2) := by decide +kernel
theorem dL_law_64 : decode cL_law 64 = .ok (.lcmp, 1) := by decide +kernel
theorem dL_law_65 : decode cL_law 65 = .ok (.ifCond .eq 5, 3) := by decide +kernel
theorem dL_law_68 : decode cL_law 68 = .ok (.iconst 0, 1) := by decide +kernel
theorem dL_law_69 : decode cL_law 69 = .ok (.ireturn, 1) := by decide +kernel
theorem dL_law_70 : decode cL_law 70 = .ok (.iload 8, 2) := by decide +kernel
theorem dL_law_72 : decode cL_law 72 = .ok (.ifCond .ne 7, 3) := by decide +kernel
theorem dL_law_75 : decode cL_law 75 = .ok (.iload_n 2, 1) := by decide +kernel
theorem dL_law_76 : decode cL_law 76 = .ok (.goto 17, 3) := by decide +kernel
theorem dL_law_79 : decode cL_law 79 = .ok (.iload_n 2, 1) := by decide +kernel
theorem dL_law_80 : decode cL_law 80 = .ok (.bipush 6, 2) := by decide +kernel
theorem dL_law_82 : decode cL_law 82 = .ok (.if_icmp .ge 9, 3) := by decide +kernel
theorem dL_law_85 : decode cL_law 85 = .ok (.iload_n 2, 1) := by decide +kernel
theorem dL_law_86 : decode cL_law 86 = .ok (.iconst 1, 1) := by decide +kernel
theorem dL_law_87 : decode cL_law 87 = .ok (.iadd, 1) := by decide +kernel
theorem dL_law_88 : decode cL_law 88 = .ok (.goto 5, 3) := by decide +kernel
theorem dL_law_91 : decode cL_law 91 = .ok (.bipush 6, 2) := by decide +kernel
theorem dL_law_93 : decode cL_law 93 = .ok (.istore_n 2, 1) := by decide +kernel
theorem dL_law_94 : decode cL_law 94 = .ok (.iload 8, 2) := by decide +kernel
theorem dL_law_96 : decode cL_law 96 = .ok (.ifCond .eq 38, 3) := by decide +kernel
theorem dL_law_99 : decode cL_law 99 = .ok (.iload 4, 2) := by decide +kernel
theorem dL_law_101 : decode cL_law 101 = .ok (.bipush 28, 2) := by decide +kernel
theorem dL_law_103 : decode cL_law 103 = .ok (.ishr, 1) := by decide +kernel
theorem dL_law_104 : decode cL_law 104 = .ok (.iconst 3, 1) := by decide +kernel
theorem dL_law_105 : decode cL_law 105 = .ok (.iand, 1) := by decide +kernel
theorem dL_law_106 : decode cL_law 106 = .ok (.ifCond .ne 28, 3) := by decide +kernel
theorem dL_law_109 : decode cL_law 109 = .ok (.aload_n 1, 1) := by decide +kernel
theorem dL_law_110 : decode cL_law 110 = .ok (.invokevirtual 80, 3) := by decide +kernel
theorem dL_law_113 : decode cL_law 113 = .ok (.iload_n 2, 1) := by decide +kernel
theorem dL_law_114 : decode cL_law 114 = .ok (.iconst 1, 1) := by decide +kernel
theorem dL_law_115 : decode cL_law 115 = .ok (.isub, 1) := by decide +kernel
theorem dL_law_116 : decode cL_law 116 = .ok (.if_icmp .ne 13, 3) := by decide +kernel
theorem dL_law_119 : decode cL_law 119 = .ok (.aload_n 1, 1) := by decide +kernel
theorem dL_law_120 : decode cL_law 120 = .ok (.invokestatic 71, 3) := by decide +kernel
theorem dL_law_123 : decode cL_law 123 = .ok (.lload 5, 2) := by decide +kernel
theorem dL_law_125 : decode cL_law 125 = .ok (.lcmp, 1) := by decide +kernel
theorem dL_law_126 : decode cL_law 126 = .ok (.ifCond .eq 5, 3) := by decide +kernel
theorem dL_law_129 : decode cL_law 129 = .ok (.iconst 0, 1) := by decide +kernel
theorem dL_law_130 : decode cL_law 130 = .ok (.ireturn, 1) := by decide +kernel
theorem dL_law_131 : decode cL_law 131 = .ok (.iinc 2 (-1), 3) := by decide +kernel
theorem dL_law_134 : decode cL_law 134 = .ok (.aload_n 1, 1) := by decide +kernel
theorem dL_law_135 : decode cL_law 135 = .ok (.bipush 13, 2) := by decide +kernel
theorem dL_law_137 : decode cL_law 137 = .ok (.invokevirtual 12, 3) := by decide +kernel
theorem dL_law_140 : decode cL_law 140 = .ok (.iload_n 2, 1) := by decide +kernel
theorem dL_law_141 : decode cL_law 141 = .ok (.if_icmp .eq 5, 3) := by decide +kernel
theorem dL_law_144 : decode cL_law 144 = .ok (.iconst 0, 1) := by decide +kernel
theorem dL_law_145 : decode cL_law 145 = .ok (.ireturn, 1) := by decide +kernel
theorem dL_law_146 : decode cL_law 146 = .ok (.iload 8, 2) := by decide +kernel
theorem dL_law_148 : decode cL_law 148 = .ok (.ifCond .eq 27, 3) := by decide +kernel
theorem dL_law_151 : decode cL_law 151 = .ok (.iload 4, 2) := by decide +kernel
theorem dL_law_153 : decode cL_law 153 = .ok (.bipush 15, 2) := by decide +kernel
theorem dL_law_155 : decode cL_law 155 = .ok (.iand, 1) := by decide +kernel
theorem dL_law_156 : decode cL_law 156 = .ok (.bipush 8, 2) := by decide +kernel
theorem dL_law_158 : decode cL_law 158 = .ok (.if_icmp .le 17, 3) := by decide +kernel
theorem dL_law_161 : decode cL_law 161 = .ok (.iload 4, 2) := by decide +kernel
theorem dL_law_163 : decode cL_law 163 = .ok (.bipush 28, 2) := by decide +kernel
theorem dL_law_165 : decode cL_law 165 = .ok (.ishr, 1) := by decide +kernel
theorem dL_law_166 : decode cL_law 166 = .ok (.iconst 3, 1) := by decide +kernel
theorem dL_law_167 : decode cL_law 167 = .ok (.iand, 1) := by decide +kernel
theorem dL_law_168 : decode cL_law 168 = .ok (.ifCond .eq 7, 3) := by decide +kernel
theorem dL_law_171 : decode cL_law 171 = .ok (.iconst 1, 1) := by decide +kernel
theorem dL_law_172 : decode cL_law 172 = .ok (.goto 4, 3) := by decide +kernel
theorem dL_law_175 : decode cL_law 175 = .ok (.iconst 0, 1) := by decide +kernel
theorem dL_law_176 : decode cL_law 176 = .ok (.istore 9, 2) := by decide +kernel
theorem dL_law_178 : decode cL_law 178 = .ok (.iconst 0, 1) := by decide +kernel
theorem dL_law_179 : decode cL_law 179 = .ok (.istore 10, 2) := by decide +kernel
theorem dL_law_181 : decode cL_law 181 = .ok (.iconst 0, 1) := by decide +kernel
theorem dL_law_182 : decode cL_law 182 = .ok (.istore 11, 2) := by decide +kernel
theorem dL_law_184 : decode cL_law 184 = .ok (.iconst 0, 1) := by decide +kernel
theorem dL_law_185 : decode cL_law 185 = .ok (.istore 12, 2) := by decide +kernel
theorem dL_law_187 : decode cL_law 187 = .ok (.iconst 0, 1) := by decide +kernel
theorem dL_law_188 : decode cL_law 188 = .ok (.istore 13, 2) := by decide +kernel
theorem dL_law_190 : decode cL_law 190 = .ok (.iload 13, 2) := by decide +kernel
theorem dL_law_192 : decode cL_law 192 = .ok (.aload_n 1, 1) := by decide +kernel
theorem dL_law_193 : decode cL_law 193 = .ok (.bipush 7, 2) := by decide +kernel
theorem dL_law_195 : decode cL_law 195 = .ok (.invokevirtual 12, 3) := by decide +kernel
theorem dL_law_198 : decode cL_law 198 = .ok (.if_icmp .ge 174, 3) := by decide +kernel
theorem dL_law_201 : decode cL_law 201 = .ok (.iload 10, 2) := by decide +kernel
theorem dL_law_203 : decode cL_law 203 = .ok (.aload_n 1, 1) := by decide +kernel
theorem dL_law_204 : decode cL_law 204 = .ok (.iload 13, 2) := by decide +kernel
theorem dL_law_206 : decode cL_law 206 = .ok (.iconst 3, 1) := by decide +kernel
theorem dL_law_207 : decode cL_law 207 = .ok (.invokevirtual 26, 3) := by decide +kernel
theorem dL_law_210 : decode cL_law 210 = .ok (.iadd, 1) := by decide +kernel
theorem dL_law_211 : decode cL_law 211 = .ok (.istore 10, 2) := by decide +kernel
theorem dL_law_213 : decode cL_law 213 = .ok (.iload 12, 2) := by decide +kernel
theorem dL_law_215 : decode cL_law 215 = .ok (.aload_n 1, 1) := by decide +kernel
theorem dL_law_216 : decode cL_law 216 = .ok (.iload 13, 2) := by decide +kernel
theorem dL_law_218 : decode cL_law 218 = .ok (.bipush 8, 2) := by decide +kernel
theorem dL_law_220 : decode cL_law 220 = .ok (.invokevirtual 20, 3) := by decide +kernel
theorem dL_law_223 : decode cL_law 223 = .ok (.iadd, 1) := by decide +kernel
theorem dL_law_224 : decode cL_law 224 = .ok (.istore 12, 2) := by decide +kernel
theorem dL_law_226 : decode cL_law 226 = .ok (.iload 11, 2) := by decide +kernel
theorem dL_law_228 : decode cL_law 228 = .ok (.aload_n 1, 1) := by decide +kernel
theorem dL_law_229 : decode cL_law 229 = .ok (.iload 13, 2) := by decide +kernel
theorem dL_law_231 : decode cL_law 231 = .ok (.bipush 9, 2) := by decide +kernel
theorem dL_law_233 : decode cL_law 233 = .ok (.invokevirtual 20, 3) := by decide +kernel
theorem dL_law_236 : decode cL_law 236 = .ok (.aload_n 1, 1) := by decide +kernel
theorem dL_law_237 : decode cL_law 237 = .ok (.bipush 6, 2) := by decide +kernel
theorem dL_law_239 : decode cL_law 239 = .ok (.invokevirtual 12, 3) := by decide +kernel
theorem dL_law_242 : decode cL_law 242 = .ok (.if_icmp .lt 7, 3) := by decide +kernel
theorem dL_law_245 : decode cL_law 245 = .ok (.iconst 1, 1) := by decide +kernel
theorem dL_law_246 : decode cL_law 246 = .ok (.goto 4, 3) := by decide +kernel
theorem dL_law_249 : decode cL_law 249 = .ok (.iconst 0, 1) := by decide +kernel
theorem dL_law_250 : decode cL_law 250 = .ok (.iadd, 1) := by decide +kernel
theorem dL_law_251 : decode cL_law 251 = .ok (.istore 11, 2) := by decide +kernel
theorem dL_law_253 : decode cL_law 253 = .ok (.aload_n 1, 1) := by decide +kernel
theorem dL_law_254 : decode cL_law 254 = .ok (.iload 13, 2) := by decide +kernel
theorem dL_law_256 : decode cL_law 256 = .ok (.iconst 1, 1) := by decide +kernel
theorem dL_law_257 : decode cL_law 257 = .ok (.invokevirtual 20, 3) := by decide +kernel
theorem dL_law_260 : decode cL_law 260 = .ok (.aload_n 1, 1) := by decide +kernel
theorem dL_law_261 : decode cL_law 261 = .ok (.iload 13, 2) := by decide +kernel
theorem dL_law_263 : decode cL_law 263 = .ok (.iconst 0, 1) := by decide +kernel
theorem dL_law_264 : decode cL_law 264 = .ok (.invokevirtual 26, 3) := by decide +kernel
theorem dL_law_267 : decode cL_law 267 = .ok (.aload_n 1, 1) := by decide +kernel
theorem dL_law_268 : decode cL_law 268 = .ok (.iload 13, 2) := by decide +kernel
theorem dL_law_270 : decode cL_law 270 = .ok (.iconst 1, 1) := by decide +kernel
theorem dL_law_271 : decode cL_law 271 = .ok (.invokevirtual 26, 3) := by decide +kernel
theorem dL_law_274 : decode cL_law 274 = .ok (.iadd, 1) := by decide +kernel
theorem dL_law_275 : decode cL_law 275 = .ok (.aload_n 1, 1) := by decide +kernel
theorem dL_law_276 : decode cL_law 276 = .ok (.iload 13, 2) := by decide +kernel
theorem dL_law_278 : decode cL_law 278 = .ok (.iconst 2, 1) := by decide +kernel
theorem dL_law_279 : decode cL_law 279 = .ok (.invokevirtual 26, 3) := by decide +kernel
theorem dL_law_282 : decode cL_law 282 = .ok (.isub, 1) := by decide +kernel
theorem dL_law_283 : decode cL_law 283 = .ok (.aload_n 1, 1) := by decide +kernel
theorem dL_law_284 : decode cL_law 284 = .ok (.iload 13, 2) := by decide +kernel
theorem dL_law_286 : decode cL_law 286 = .ok (.iconst 3, 1) := by decide +kernel
theorem dL_law_287 : decode cL_law 287 = .ok (.invokevirtual 26, 3) := by decide +kernel
theorem dL_law_290 : decode cL_law 290 = .ok (.isub, 1) := by decide +kernel
theorem dL_law_291 : decode cL_law 291 = .ok (.aload_n 1, 1) := by decide +kernel
theorem dL_law_292 : decode cL_law 292 = .ok (.iload 13, 2) := by decide +kernel
theorem dL_law_294 : decode cL_law 294 = .ok (.iconst 4, 1) := by decide +kernel
theorem dL_law_295 : decode cL_law 295 = .ok (.invokevirtual 26, 3) := by decide +kernel
theorem dL_law_298 : decode cL_law 298 = .ok (.iadd, 1) := by decide +kernel
theorem dL_law_299 : decode cL_law 299 = .ok (.if_icmp .eq 5, 3) := by decide +kernel
theorem dL_law_302 : decode cL_law 302 = .ok (.iconst 0, 1) := by decide +kernel
theorem dL_law_303 : decode cL_law 303 = .ok (.ireturn, 1) := by decide +kernel
theorem dL_law_304 : decode cL_law 304 = .ok (.aload_n 1, 1) := by decide +kernel
theorem dL_law_305 : decode cL_law 305 = .ok (.iload 13, 2) := by decide +kernel
theorem dL_law_307 : decode cL_law 307 = .ok (.iconst 4, 1) := by decide +kernel
theorem dL_law_308 : decode cL_law 308 = .ok (.invokevirtual 20, 3) := by decide +kernel
theorem dL_law_311 : decode cL_law 311 = .ok (.iconst 1, 1) := by decide +kernel
theorem dL_law_312 : decode cL_law 312 = .ok (.if_icmp .ne 13, 3) := by decide +kernel
theorem dL_law_315 : decode cL_law 315 = .ok (.aload_n 1, 1) := by decide +kernel
theorem dL_law_316 : decode cL_law 316 = .ok (.iload 13, 2) := by decide +kernel
theorem dL_law_318 : decode cL_law 318 = .ok (.iconst 3, 1) := by decide +kernel
theorem dL_law_319 : decode cL_law 319 = .ok (.invokevirtual 20, 3) := by decide +kernel
theorem dL_law_322 : decode cL_law 322 = .ok (.ifCond .eq 42, 3) := by decide +kernel
theorem dL_law_325 : decode cL_law 325 = .ok (.iload 9, 2) := by decide +kernel
theorem dL_law_327 : decode cL_law 327 = .ok (.ifCond .eq 24, 3) := by decide +kernel
theorem dL_law_330 : decode cL_law 330 = .ok (.aload_n 1, 1) := by decide +kernel
theorem dL_law_331 : decode cL_law 331 = .ok (.iload 13, 2) := by decide +kernel
theorem dL_law_333 : decode cL_law 333 = .ok (.bipush 9, 2) := by decide +kernel
theorem dL_law_335 : decode cL_law 335 = .ok (.invokevirtual 20, 3) := by decide +kernel
theorem dL_law_338 : decode cL_law 338 = .ok (.ifCond .le 13, 3) := by decide +kernel
theorem dL_law_341 : decode cL_law 341 = .ok (.aload_n 1, 1) := by decide +kernel
theorem dL_law_342 : decode cL_law 342 = .ok (.iload 13, 2) := by decide +kernel
theorem dL_law_344 : decode cL_law 344 = .ok (.iconst 3, 1) := by decide +kernel
theorem dL_law_345 : decode cL_law 345 = .ok (.invokevirtual 20, 3) := by decide +kernel
theorem dL_law_348 : decode cL_law 348 = .ok (.ifCond .eq 16, 3) := by decide +kernel
theorem dL_law_351 : decode cL_law 351 = .ok (.aload_n 1, 1) := by decide +kernel
theorem dL_law_352 : decode cL_law 352 = .ok (.iload 13, 2) := by decide +kernel
theorem dL_law_354 : decode cL_law 354 = .ok (.bipush 6, 2) := by decide +kernel
theorem dL_law_356 : decode cL_law 356 = .ok (.invokevirtual 20, 3) := by decide +kernel
theorem dL_law_359 : decode cL_law 359 = .ok (.bipush 50, 2) := by decide +kernel
theorem dL_law_361 : decode cL_law 361 = .ok (.if_icmp .lt 5, 3) := by decide +kernel
theorem dL_law_364 : decode cL_law 364 = .ok (.iconst 0, 1) := by decide +kernel
theorem dL_law_365 : decode cL_law 365 = .ok (.ireturn, 1) := by decide +kernel
theorem dL_law_366 : decode cL_law 366 = .ok (.iinc 13 1, 3) := by decide +kernel
theorem dL_law_369 : decode cL_law 369 = .ok (.goto (-179), 3) := by decide +kernel
theorem dL_law_372 : decode cL_law 372 = .ok (.iload 10, 2) := by decide +kernel
theorem dL_law_374 : decode cL_law 374 = .ok (.ifCond .ne 25, 3) := by decide +kernel
theorem dL_law_377 : decode cL_law 377 = .ok (.iload 11, 2) := by decide +kernel
theorem dL_law_379 : decode cL_law 379 = .ok (.aload_n 1, 1) := by decide +kernel
theorem dL_law_380 : decode cL_law 380 = .ok (.bipush 10, 2) := by decide +kernel
theorem dL_law_382 : decode cL_law 382 = .ok (.invokevirtual 12, 3) := by decide +kernel
theorem dL_law_385 : decode cL_law 385 = .ok (.if_icmp .ne 14, 3) := by decide +kernel
theorem dL_law_388 : decode cL_law 388 = .ok (.iload 12, 2) := by decide +kernel
theorem dL_law_390 : decode cL_law 390 = .ok (.aload_n 1, 1) := by decide +kernel
theorem dL_law_391 : decode cL_law 391 = .ok (.bipush 11, 2) := by decide +kernel
theorem dL_law_393 : decode cL_law 393 = .ok (.invokevirtual 12, 3) := by decide +kernel
theorem dL_law_396 : decode cL_law 396 = .ok (.if_icmp .eq 5, 3) := by decide +kernel
theorem dL_law_399 : decode cL_law 399 = .ok (.iconst 0, 1) := by decide +kernel
theorem dL_law_400 : decode cL_law 400 = .ok (.ireturn, 1) := by decide +kernel
theorem dL_law_401 : decode cL_law 401 = .ok (.aload_n 1, 1) := by decide +kernel
theorem dL_law_402 : decode cL_law 402 = .ok (.invokestatic 71, 3) := by decide +kernel
theorem dL_law_405 : decode cL_law 405 = .ok (.lstore 13, 2) := by decide +kernel
theorem dL_law_407 : decode cL_law 407 = .ok (.aload_n 1, 1) := by decide +kernel
theorem dL_law_408 : decode cL_law 408 = .ok (.bipush 20, 2) := by decide +kernel
theorem dL_law_410 : decode cL_law 410 = .ok (.invokevirtual 84, 3) := by decide +kernel
theorem dL_law_413 : decode cL_law 413 = .ok (.istore 15, 2) := by decide +kernel
theorem dL_law_415 : decode cL_law 415 = .ok (.aload_n 1, 1) := by decide +kernel
theorem dL_law_416 : decode cL_law 416 = .ok (.iconst 0, 1) := by decide +kernel
theorem dL_law_417 : decode cL_law 417 = .ok (.invokevirtual 87, 3) := by decide +kernel
theorem dL_law_420 : decode cL_law 420 = .ok (.istore 16, 2) := by decide +kernel
theorem dL_law_422 : decode cL_law 422 = .ok (.iload 15, 2) := by decide +kernel
theorem dL_law_424 : decode cL_law 424 = .ok (.ifCond .lt 21, 3) := by decide +kernel
theorem dL_law_427 : decode cL_law 427 = .ok (.iload 16, 2) := by decide +kernel
theorem dL_law_429 : decode cL_law 429 = .ok (.sipush 1000, 3) := by decide +kernel
theorem dL_law_432 : decode cL_law 432 = .ok (.if_icmp .gt 13, 3) := by decide +kernel
theorem dL_law_435 : decode cL_law 435 = .ok (.aload_n 1, 1) := by decide +kernel
theorem dL_law_436 : decode cL_law 436 = .ok (.invokestatic 71, 3) := by decide +kernel
theorem dL_law_439 : decode cL_law 439 = .ok (.lload 13, 2) := by decide +kernel
theorem dL_law_441 : decode cL_law 441 = .ok (.lcmp, 1) := by decide +kernel
theorem dL_law_442 : decode cL_law 442 = .ok (.ifCond .eq 5, 3) := by decide +kernel
theorem dL_law_445 : decode cL_law 445 = .ok (.iconst 0, 1) := by decide +kernel
theorem dL_law_446 : decode cL_law 446 = .ok (.ireturn, 1) := by decide +kernel
theorem dL_law_447 : decode cL_law 447 = .ok (.iinc 3 1, 3) := by decide +kernel
theorem dL_law_450 : decode cL_law 450 = .ok (.goto (-438), 3) := by decide +kernel
theorem dL_law_453 : decode cL_law 453 = .ok (.aload_n 1, 1) := by decide +kernel
theorem dL_law_454 : decode cL_law 454 = .ok (.invokevirtual 80, 3) := by decide +kernel
theorem dL_law_457 : decode cL_law 457 = .ok (.iload_n 2, 1) := by decide +kernel
theorem dL_law_458 : decode cL_law 458 = .ok (.ifCond .ne 8, 3) := by decide +kernel
theorem dL_law_461 : decode cL_law 461 = .ok (.ldc 90, 2) := by decide +kernel
theorem dL_law_463 : decode cL_law 463 = .ok (.goto 6, 3) := by decide +kernel
theorem dL_law_466 : decode cL_law 466 = .ok (.iload_n 2, 1) := by decide +kernel
theorem dL_law_467 : decode cL_law 467 = .ok (.iconst 1, 1) := by decide +kernel
theorem dL_law_468 : decode cL_law 468 = .ok (.isub, 1) := by decide +kernel
theorem dL_law_469 : decode cL_law 469 = .ok (.if_icmp .ne 7, 3) := by decide +kernel
theorem dL_law_472 : decode cL_law 472 = .ok (.iconst 1, 1) := by decide +kernel
theorem dL_law_473 : decode cL_law 473 = .ok (.goto 4, 3) := by decide +kernel
theorem dL_law_476 : decode cL_law 476 = .ok (.iconst 0, 1) := by decide +kernel
theorem dL_law_477 : decode cL_law 477 = .ok (.ireturn, 1) := by decide +kernel
