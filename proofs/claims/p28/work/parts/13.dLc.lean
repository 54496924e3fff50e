theorem dL_isRight_73 : decode cL_isRight 73 = .ok (.iconst 0, 1) := by decide +kernel
theorem dL_isRight_74 : decode cL_isRight 74 = .ok (.iadd, 1) := by decide +kernel
theorem dL_isRight_75 : decode cL_isRight 75 = .ok (.istore_n 2, 1) := by decide +kernel
theorem dL_isRight_76 : decode cL_isRight 76 = .ok (.iload 6, 2) := by decide +kernel
theorem dL_isRight_78 : decode cL_isRight 78 = .ok (.ifCond .lt 70, 3) := by decide +kernel
theorem dL_isRight_81 : decode cL_isRight 81 = .ok (.iload 6, 2) := by decide +kernel
theorem dL_isRight_83 : decode cL_isRight 83 = .ok (.aload_n 0, 1) := by decide +kernel
theorem dL_isRight_84 : decode cL_isRight 84 = .ok (.iload 5, 2) := by decide +kernel
theorem dL_isRight_86 : decode cL_isRight 86 = .ok (.iconst 1, 1) := by decide +kernel
theorem dL_isRight_87 : decode cL_isRight 87 = .ok (.invokevirtual 33, 3) := by decide +kernel
theorem dL_isRight_90 : decode cL_isRight 90 = .ok (.if_icmp .gt 58, 3) := by decide +kernel
theorem dL_isRight_93 : decode cL_isRight 93 = .ok (.aload_n 0, 1) := by decide +kernel
theorem dL_isRight_94 : decode cL_isRight 94 = .ok (.iload 5, 2) := by decide +kernel
theorem dL_isRight_96 : decode cL_isRight 96 = .ok (.iconst 3, 1) := by decide +kernel
theorem dL_isRight_97 : decode cL_isRight 97 = .ok (.invokevirtual 33, 3) := by decide +kernel
theorem dL_isRight_100 : decode cL_isRight 100 = .ok (.iconst 1, 1) := by decide +kernel
theorem dL_isRight_101 : decode cL_isRight 101 = .ok (.if_icmp .lt 47, 3) := by decide +kernel
theorem dL_isRight_104 : decode cL_isRight 104 = .ok (.iload 7, 2) := by decide +kernel
theorem dL_isRight_106 : decode cL_isRight 106 = .ok (.ifCond .lt 7, 3) := by decide +kernel
theorem dL_isRight_109 : decode cL_isRight 109 = .ok (.iconst 1, 1) := by decide +kernel
theorem dL_isRight_110 : decode cL_isRight 110 = .ok (.goto 4, 3) := by decide +kernel
theorem dL_isRight_113 : decode cL_isRight 113 = .ok (.iconst 0, 1) := by decide +kernel
theorem dL_isRight_114 : decode cL_isRight 114 = .ok (.aload_n 0, 1) := by decide +kernel
theorem dL_isRight_115 : decode cL_isRight 115 = .ok (.iload 5, 2) := by decide +kernel
theorem dL_isRight_117 : decode cL_isRight 117 = .ok (.iconst 5, 1) := by decide +kernel
theorem dL_isRight_118 : decode cL_isRight 118 = .ok (.invokevirtual 33, 3) := by decide +kernel
theorem dL_isRight_121 : decode cL_isRight 121 = .ok (.ifCond .lt 7, 3) := by decide +kernel
theorem dL_isRight_124 : decode cL_isRight 124 = .ok (.iconst 1, 1) := by decide +kernel
theorem dL_isRight_125 : decode cL_isRight 125 = .ok (.goto 4, 3) := by decide +kernel
theorem dL_isRight_128 : decode cL_isRight 128 = .ok (.iconst 0, 1) := by decide +kernel
theorem dL_isRight_129 : decode cL_isRight 129 = .ok (.if_icmp .ne 19, 3) := by decide +kernel
theorem dL_isRight_132 : decode cL_isRight 132 = .ok (.iload 7, 2) := by decide +kernel
theorem dL_isRight_134 : decode cL_isRight 134 = .ok (.ifCond .lt 16, 3) := by decide +kernel
theorem dL_isRight_137 : decode cL_isRight 137 = .ok (.aload_n 0, 1) := by decide +kernel
theorem dL_isRight_138 : decode cL_isRight 138 = .ok (.iload 7, 2) := by decide +kernel
theorem dL_isRight_140 : decode cL_isRight 140 = .ok (.invokevirtual 61, 3) := by decide +kernel
theorem dL_isRight_143 : decode cL_isRight 143 = .ok (.iload 5, 2) := by decide +kernel
theorem dL_isRight_145 : decode cL_isRight 145 = .ok (.if_icmp .eq 5, 3) := by decide +kernel
theorem dL_isRight_148 : decode cL_isRight 148 = .ok (.iconst 0, 1) := by decide +kernel
theorem dL_isRight_149 : decode cL_isRight 149 = .ok (.ireturn, 1) := by decide +kernel
theorem dL_isRight_150 : decode cL_isRight 150 = .ok (.aload_n 0, 1) := by decide +kernel
theorem dL_isRight_151 : decode cL_isRight 151 = .ok (.iload 5, 2) := by decide +kernel
theorem dL_isRight_153 : decode cL_isRight 153 = .ok (.bipush 7, 2) := by decide +kernel
theorem dL_isRight_155 : decode cL_isRight 155 = .ok (.invokevirtual 33, 3) := by decide +kernel
theorem dL_isRight_158 : decode cL_isRight 158 = .ok (.istore 8, 2) := by decide +kernel
theorem dL_isRight_160 : decode cL_isRight 160 = .ok (.iload 8, 2) := by decide +kernel
theorem dL_isRight_162 : decode cL_isRight 162 = .ok (.ifCond .lt 27, 3) := by decide +kernel
theorem dL_isRight_165 : decode cL_isRight 165 = .ok (.aload_n 0, 1) := by decide +kernel
theorem dL_isRight_166 : decode cL_isRight 166 = .ok (.iload 8, 2) := by decide +kernel
theorem dL_isRight_168 : decode cL_isRight 168 = .ok (.iconst 2, 1) := by decide +kernel
theorem dL_isRight_169 : decode cL_isRight 169 = .ok (.invokevirtual 64, 3) := by decide +kernel
theorem dL_isRight_172 : decode cL_isRight 172 = .ok (.iload 5, 2) := by decide +kernel
theorem dL_isRight_174 : decode cL_isRight 174 = .ok (.if_icmp .ne 36, 3) := by decide +kernel
theorem dL_isRight_177 : decode cL_isRight 177 = .ok (.aload_n 0, 1) := by decide +kernel
theorem dL_isRight_178 : decode cL_isRight 178 = .ok (.iload 8, 2) := by decide +kernel
theorem dL_isRight_180 : decode cL_isRight 180 = .ok (.bipush 6, 2) := by decide +kernel
theorem dL_isRight_182 : decode cL_isRight 182 = .ok (.invokevirtual 64, 3) := by decide +kernel
theorem dL_isRight_185 : decode cL_isRight 185 = .ok (.iconst 1, 1) := by decide +kernel
theorem dL_isRight_186 : decode cL_isRight 186 = .ok (.if_icmp .ne 24, 3) := by decide +kernel
theorem dL_isRight_189 : decode cL_isRight 189 = .ok (.iload 6, 2) := by decide +kernel
theorem dL_isRight_191 : decode cL_isRight 191 = .ok (.ifCond .ne 21, 3) := by decide +kernel
theorem dL_isRight_194 : decode cL_isRight 194 = .ok (.aload_n 0, 1) := by decide +kernel
theorem dL_isRight_195 : decode cL_isRight 195 = .ok (.iload 5, 2) := by decide +kernel
theorem dL_isRight_197 : decode cL_isRight 197 = .ok (.bipush 8, 2) := by decide +kernel
theorem dL_isRight_199 : decode cL_isRight 199 = .ok (.invokevirtual 33, 3) := by decide +kernel
theorem dL_isRight_202 : decode cL_isRight 202 = .ok (.ifCond .ne 8, 3) := by decide +kernel
theorem dL_isRight_205 : decode cL_isRight 205 = .ok (.iload 8, 2) := by decide +kernel
theorem dL_isRight_207 : decode cL_isRight 207 = .ok (.ifCond .lt 5, 3) := by decide +kernel
theorem dL_isRight_210 : decode cL_isRight 210 = .ok (.iconst 0, 1) := by decide +kernel
theorem dL_isRight_211 : decode cL_isRight 211 = .ok (.ireturn, 1) := by decide +kernel
theorem dL_isRight_212 : decode cL_isRight 212 = .ok (.aload_n 0, 1) := by decide +kernel
theorem dL_isRight_213 : decode cL_isRight 213 = .ok (.iload 5, 2) := by decide +kernel
theorem dL_isRight_215 : decode cL_isRight 215 = .ok (.iconst 0, 1) := by decide +kernel
theorem dL_isRight_216 : decode cL_isRight 216 = .ok (.invokevirtual 33, 3) := by decide +kernel
theorem dL_isRight_219 : decode cL_isRight 219 = .ok (.istore 9, 2) := by decide +kernel
theorem dL_isRight_221 : decode cL_isRight 221 = .ok (.iconst 0, 1) := by decide +kernel
theorem dL_isRight_222 : decode cL_isRight 222 = .ok (.istore 10, 2) := by decide +kernel
theorem dL_isRight_224 : decode cL_isRight 224 = .ok (.iconst 0, 1) := by decide +kernel
theorem dL_isRight_225 : decode cL_isRight 225 = .ok (.istore 11, 2) := by decide +kernel
theorem dL_isRight_227 : decode cL_isRight 227 = .ok (.iconst 0, 1) := by decide +kernel
theorem dL_isRight_228 : decode cL_isRight 228 = .ok (.istore 12, 2) := by decide +kernel
theorem dL_isRight_230 : decode cL_isRight 230 = .ok (.iload 12, 2) := by decide +kernel
theorem dL_isRight_232 : decode cL_isRight 232 = .ok (.aload_n 0, 1) := by decide +kernel
theorem dL_isRight_233 : decode cL_isRight 233 = .ok (.iconst 2, 1) := by decide +kernel
theorem dL_isRight_234 : decode cL_isRight 234 = .ok (.invokevirtual 8, 3) := by decide +kernel
theorem dL_isRight_237 : decode cL_isRight 237 = .ok (.if_icmp .ge 170, 3) := by decide +kernel
theorem dL_isRight_240 : decode cL_isRight 240 = .ok (.iload 10, 2) := by decide +kernel
theorem dL_isRight_242 : decode cL_isRight 242 = .ok (.aload_n 0, 1) := by decide +kernel
theorem dL_isRight_243 : decode cL_isRight 243 = .ok (.iload 12, 2) := by decide +kernel
theorem dL_isRight_245 : decode cL_isRight 245 = .ok (.iconst 3, 1) := by decide +kernel
theorem dL_isRight_246 : decode cL_isRight 246 = .ok (.invokevirtual 64, 3) := by decide +kernel
theorem dL_isRight_249 : decode cL_isRight 249 = .ok (.iload 5, 2) := by decide +kernel
theorem dL_isRight_251 : decode cL_isRight 251 = .ok (.if_icmp .ne 7, 3) := by decide +kernel
theorem dL_isRight_254 : decode cL_isRight 254 = .ok (.iconst 1, 1) := by decide +kernel
theorem dL_isRight_255 : decode cL_isRight 255 = .ok (.goto 4, 3) := by decide +kernel
theorem dL_isRight_258 : decode cL_isRight 258 = .ok (.iconst 0, 1) := by decide +kernel
theorem dL_isRight_259 : decode cL_isRight 259 = .ok (.iadd, 1) := by decide +kernel
theorem dL_isRight_260 : decode cL_isRight 260 = .ok (.istore 10, 2) := by decide +kernel
theorem dL_isRight_262 : decode cL_isRight 262 = .ok (.iload 11, 2) := by decide +kernel
theorem dL_isRight_264 : decode cL_isRight 264 = .ok (.aload_n 0, 1) := by decide +kernel
theorem dL_isRight_265 : decode cL_isRight 265 = .ok (.iload 12, 2) := by decide +kernel
theorem dL_isRight_267 : decode cL_isRight 267 = .ok (.iconst 2, 1) := by decide +kernel
theorem dL_isRight_268 : decode cL_isRight 268 = .ok (.invokevirtual 64, 3) := by decide +kernel
theorem dL_isRight_271 : decode cL_isRight 271 = .ok (.iload 5, 2) := by decide +kernel
theorem dL_isRight_273 : decode cL_isRight 273 = .ok (.if_icmp .ne 19, 3) := by decide +kernel
theorem dL_isRight_276 : decode cL_isRight 276 = .ok (.aload_n 0, 1) := by decide +kernel
theorem dL_isRight_277 : decode cL_isRight 277 = .ok (.iload 12, 2) := by decide +kernel
theorem dL_isRight_279 : decode cL_isRight 279 = .ok (.bipush 6, 2) := by decide +kernel
theorem dL_isRight_281 : decode cL_isRight 281 = .ok (.invokevirtual 64, 3) := by decide +kernel
theorem dL_isRight_284 : decode cL_isRight 284 = .ok (.iconst 1, 1) := by decide +kernel
theorem dL_isRight_285 : decode cL_isRight 285 = .ok (.if_icmp .ne 7, 3) := by decide +kernel
theorem dL_isRight_288 : decode cL_isRight 288 = .ok (.iconst 1, 1) := by decide +kernel
theorem dL_isRight_289 : decode cL_isRight 289 = .ok (.goto 4, 3) := by decide +kernel
theorem dL_isRight_292 : decode cL_isRight 292 = .ok (.iconst 0, 1) := by decide +kernel
theorem dL_isRight_293 : decode cL_isRight 293 = .ok (.iadd, 1) := by decide +kernel
theorem dL_isRight_294 : decode cL_isRight 294 = .ok (.istore 11, 2) := by decide +kernel
theorem dL_isRight_296 : decode cL_isRight 296 = .ok (.iload 9, 2) := by decide +kernel
theorem dL_isRight_298 : decode cL_isRight 298 = .ok (.aload_n 0, 1) := by decide +kernel
theorem dL_isRight_299 : decode cL_isRight 299 = .ok (.iload 12, 2) := by decide +kernel
theorem dL_isRight_301 : decode cL_isRight 301 = .ok (.iconst 3, 1) := by decide +kernel
theorem dL_isRight_302 : decode cL_isRight 302 = .ok (.invokevirtual 64, 3) := by decide +kernel
theorem dL_isRight_305 : decode cL_isRight 305 = .ok (.iload 5, 2) := by decide +kernel
theorem dL_isRight_307 : decode cL_isRight 307 = .ok (.if_icmp .ne 50, 3) := by decide +kernel
theorem dL_isRight_310 : decode cL_isRight 310 = .ok (.aload_n 0, 1) := by decide +kernel
theorem dL_isRight_311 : decode cL_isRight 311 = .ok (.iload 12, 2) := by decide +kernel
theorem dL_isRight_313 : decode cL_isRight 313 = .ok (.iconst 0, 1) := by decide +kernel
theorem dL_isRight_314 : decode cL_isRight 314 = .ok (.invokevirtual 64, 3) := by decide +kernel
theorem dL_isRight_317 : decode cL_isRight 317 = .ok (.iconst 1, 1) := by decide +kernel
theorem dL_isRight_318 : decode cL_isRight 318 = .ok (.if_icmp .ne 13, 3) := by decide +kernel
theorem dL_isRight_321 : decode cL_isRight 321 = .ok (.aload_n 0, 1) := by decide +kernel
theorem dL_isRight_322 : decode cL_isRight 322 = .ok (.iload 12, 2) := by decide +kernel
theorem dL_isRight_324 : decode cL_isRight 324 = .ok (.iconst 1, 1) := by decide +kernel
theorem dL_isRight_325 : decode cL_isRight 325 = .ok (.invokevirtual 64, 3) := by decide +kernel
theorem dL_isRight_328 : decode cL_isRight 328 = .ok (.goto 30, 3) := by decide +kernel
theorem dL_isRight_331 : decode cL_isRight 331 = .ok (.aload_n 0, 1) := by decide +kernel
theorem dL_isRight_332 : decode cL_isRight 332 = .ok (.iload 12, 2) := by decide +kernel
theorem dL_isRight_334 : decode cL_isRight 334 = .ok (.iconst 0, 1) := by decide +kernel
theorem dL_isRight_335 : decode cL_isRight 335 = .ok (.invokevirtual 64, 3) := by decide +kernel
theorem dL_isRight_338 : decode cL_isRight 338 = .ok (.iconst 2, 1) := by decide +kernel
theorem dL_isRight_339 : decode cL_isRight 339 = .ok (.if_icmp .ne 14, 3) := by decide +kernel
theorem dL_isRight_342 : decode cL_isRight 342 = .ok (.aload_n 0, 1) := by decide +kernel
theorem dL_isRight_343 : decode cL_isRight 343 = .ok (.iload 12, 2) := by decide +kernel
theorem dL_isRight_345 : decode cL_isRight 345 = .ok (.iconst 1, 1) := by decide +kernel
theorem dL_isRight_346 : decode cL_isRight 346 = .ok (.invokevirtual 64, 3) := by decide +kernel
theorem dL_isRight_349 : decode cL_isRight 349 = .ok (.ineg, 1) := by decide +kernel
theorem dL_isRight_350 : decode cL_isRight 350 = .ok (.goto 8, 3) := by decide +kernel
theorem dL_isRight_353 : decode cL_isRight 353 = .ok (.iconst 0, 1) := by decide +kernel
theorem dL_isRight_354 : decode cL_isRight 354 = .ok (.goto 4, 3) := by decide +kernel
theorem dL_isRight_357 : decode cL_isRight 357 = .ok (.iconst 0, 1) := by decide +kernel
theorem dL_isRight_358 : decode cL_isRight 358 = .ok (.iadd, 1) := by decide +kernel
