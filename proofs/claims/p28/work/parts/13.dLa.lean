theorem dL_low_0 : decode cL_low 0 = .ok (.iload_n 0, 1) := by decide +kernel
theorem dL_low_1 : decode cL_low 1 = .ok (.ldc 7, 2) := by decide +kernel
theorem dL_low_3 : decode cL_low 3 = .ok (.iand, 1) := by decide +kernel
theorem dL_low_4 : decode cL_low 4 = .ok (.iload_n 1, 1) := by decide +kernel
theorem dL_low_5 : decode cL_low 5 = .ok (.irem, 1) := by decide +kernel
theorem dL_low_6 : decode cL_low 6 = .ok (.ireturn, 1) := by decide +kernel
theorem dL_comes_0 : decode cL_comes 0 = .ok (.aload_n 0, 1) := by decide +kernel
theorem dL_comes_1 : decode cL_comes 1 = .ok (.iconst 4, 1) := by decide +kernel
theorem dL_comes_2 : decode cL_comes 2 = .ok (.invokevirtual 8, 3) := by decide +kernel
theorem dL_comes_5 : decode cL_comes 5 = .ok (.iconst (-1), 1) := by decide +kernel
theorem dL_comes_6 : decode cL_comes 6 = .ok (.if_icmp .ne 26, 3) := by decide +kernel
theorem dL_comes_9 : decode cL_comes 9 = .ok (.aload_n 0, 1) := by decide +kernel
theorem dL_comes_10 : decode cL_comes 10 = .ok (.iload_n 1, 1) := by decide +kernel
theorem dL_comes_11 : decode cL_comes 11 = .ok (.iconst 5, 1) := by decide +kernel
theorem dL_comes_12 : decode cL_comes 12 = .ok (.invokevirtual 33, 3) := by decide +kernel
theorem dL_comes_15 : decode cL_comes 15 = .ok (.iconst 2, 1) := by decide +kernel
theorem dL_comes_16 : decode cL_comes 16 = .ok (.if_icmp .ne 16, 3) := by decide +kernel
theorem dL_comes_19 : decode cL_comes 19 = .ok (.aload_n 0, 1) := by decide +kernel
theorem dL_comes_20 : decode cL_comes 20 = .ok (.iload_n 1, 1) := by decide +kernel
theorem dL_comes_21 : decode cL_comes 21 = .ok (.iconst 2, 1) := by decide +kernel
theorem dL_comes_22 : decode cL_comes 22 = .ok (.invokevirtual 33, 3) := by decide +kernel
theorem dL_comes_25 : decode cL_comes 25 = .ok (.ifCond .le 7, 3) := by decide +kernel
theorem dL_comes_28 : decode cL_comes 28 = .ok (.iconst 1, 1) := by decide +kernel
theorem dL_comes_29 : decode cL_comes 29 = .ok (.goto 4, 3) := by decide +kernel
theorem dL_comes_32 : decode cL_comes 32 = .ok (.iconst 0, 1) := by decide +kernel
theorem dL_comes_33 : decode cL_comes 33 = .ok (.istore_n 2, 1) := by decide +kernel
theorem dL_comes_34 : decode cL_comes 34 = .ok (.iload_n 2, 1) := by decide +kernel
theorem dL_comes_35 : decode cL_comes 35 = .ok (.ifCond .eq 11, 3) := by decide +kernel
theorem dL_comes_38 : decode cL_comes 38 = .ok (.aload_n 0, 1) := by decide +kernel
theorem dL_comes_39 : decode cL_comes 39 = .ok (.iload_n 1, 1) := by decide +kernel
theorem dL_comes_40 : decode cL_comes 40 = .ok (.invokevirtual 58, 3) := by decide +kernel
theorem dL_comes_43 : decode cL_comes 43 = .ok (.goto 6, 3) := by decide +kernel
theorem dL_comes_46 : decode cL_comes 46 = .ok (.sipush (-200), 3) := by decide +kernel
theorem dL_comes_49 : decode cL_comes 49 = .ok (.ireturn, 1) := by decide +kernel
theorem dL_act_0 : decode cL_act 0 = .ok (.iload_n 1, 1) := by decide +kernel
theorem dL_act_1 : decode cL_act 1 = .ok (.iconst 4, 1) := by decide +kernel
theorem dL_act_2 : decode cL_act 2 = .ok (.ishr, 1) := by decide +kernel
theorem dL_act_3 : decode cL_act 3 = .ok (.istore_n 2, 1) := by decide +kernel
theorem dL_act_4 : decode cL_act 4 = .ok (.aload_n 0, 1) := by decide +kernel
theorem dL_act_5 : decode cL_act 5 = .ok (.iconst 0, 1) := by decide +kernel
theorem dL_act_6 : decode cL_act 6 = .ok (.invokevirtual 8, 3) := by decide +kernel
theorem dL_act_9 : decode cL_act 9 = .ok (.istore_n 3, 1) := by decide +kernel
theorem dL_act_10 : decode cL_act 10 = .ok (.aload_n 0, 1) := by decide +kernel
theorem dL_act_11 : decode cL_act 11 = .ok (.iconst 4, 1) := by decide +kernel
theorem dL_act_12 : decode cL_act 12 = .ok (.invokevirtual 8, 3) := by decide +kernel
theorem dL_act_15 : decode cL_act 15 = .ok (.istore 4, 2) := by decide +kernel
theorem dL_act_17 : decode cL_act 17 = .ok (.iload_n 2, 1) := by decide +kernel
theorem dL_act_18 : decode cL_act 18 = .ok (.iload_n 3, 1) := by decide +kernel
theorem dL_act_19 : decode cL_act 19 = .ok (.invokestatic 14, 3) := by decide +kernel
theorem dL_act_22 : decode cL_act 22 = .ok (.istore 5, 2) := by decide +kernel
theorem dL_act_24 : decode cL_act 24 = .ok (.iload_n 1, 1) := by decide +kernel
theorem dL_act_25 : decode cL_act 25 = .ok (.bipush 7, 2) := by decide +kernel
theorem dL_act_27 : decode cL_act 27 = .ok (.ishr, 1) := by decide +kernel
theorem dL_act_28 : decode cL_act 28 = .ok (.iload_n 3, 1) := by decide +kernel
theorem dL_act_29 : decode cL_act 29 = .ok (.invokestatic 14, 3) := by decide +kernel
theorem dL_act_32 : decode cL_act 32 = .ok (.istore 6, 2) := by decide +kernel
theorem dL_act_34 : decode cL_act 34 = .ok (.aload_n 0, 1) := by decide +kernel
theorem dL_act_35 : decode cL_act 35 = .ok (.iconst 5, 1) := by decide +kernel
theorem dL_act_36 : decode cL_act 36 = .ok (.invokevirtual 8, 3) := by decide +kernel
theorem dL_act_39 : decode cL_act 39 = .ok (.ifCond .ne 7, 3) := by decide +kernel
theorem dL_act_42 : decode cL_act 42 = .ok (.iconst 1, 1) := by decide +kernel
theorem dL_act_43 : decode cL_act 43 = .ok (.goto 4, 3) := by decide +kernel
theorem dL_act_46 : decode cL_act 46 = .ok (.iconst 0, 1) := by decide +kernel
theorem dL_act_47 : decode cL_act 47 = .ok (.istore 7, 2) := by decide +kernel
theorem dL_act_49 : decode cL_act 49 = .ok (.iload 7, 2) := by decide +kernel
theorem dL_act_51 : decode cL_act 51 = .ok (.ifCond .eq 18, 3) := by decide +kernel
theorem dL_act_54 : decode cL_act 54 = .ok (.iload 4, 2) := by decide +kernel
theorem dL_act_56 : decode cL_act 56 = .ok (.iload 5, 2) := by decide +kernel
theorem dL_act_58 : decode cL_act 58 = .ok (.if_icmp .ne 7, 3) := by decide +kernel
theorem dL_act_61 : decode cL_act 61 = .ok (.iconst 1, 1) := by decide +kernel
theorem dL_act_62 : decode cL_act 62 = .ok (.goto 13, 3) := by decide +kernel
theorem dL_act_65 : decode cL_act 65 = .ok (.iconst 0, 1) := by decide +kernel
theorem dL_act_66 : decode cL_act 66 = .ok (.goto 9, 3) := by decide +kernel
theorem dL_act_69 : decode cL_act 69 = .ok (.aload_n 0, 1) := by decide +kernel
theorem dL_act_70 : decode cL_act 70 = .ok (.iload 5, 2) := by decide +kernel
theorem dL_act_72 : decode cL_act 72 = .ok (.invokevirtual 20, 3) := by decide +kernel
theorem dL_act_75 : decode cL_act 75 = .ok (.istore 8, 2) := by decide +kernel
theorem dL_act_77 : decode cL_act 77 = .ok (.iload_n 1, 1) := by decide +kernel
theorem dL_act_78 : decode cL_act 78 = .ok (.bipush 15, 2) := by decide +kernel
theorem dL_act_80 : decode cL_act 80 = .ok (.iand, 1) := by decide +kernel
theorem dL_act_81 : decode cL_act 81 = .ok (.tableswitch 346 0 11 #[63, 98, 116, 129, 171, 171, 206, 206, 235, 235, 235, 315], 63) := by decide +kernel
theorem dL_act_144 : decode cL_act 144 = .ok (.iload_n 3, 1) := by decide +kernel
theorem dL_act_145 : decode cL_act 145 = .ok (.bipush 6, 2) := by decide +kernel
theorem dL_act_147 : decode cL_act 147 = .ok (.if_icmp .ge 28, 3) := by decide +kernel
theorem dL_act_150 : decode cL_act 150 = .ok (.aload_n 0, 1) := by decide +kernel
theorem dL_act_151 : decode cL_act 151 = .ok (.iconst 1, 1) := by decide +kernel
theorem dL_act_152 : decode cL_act 152 = .ok (.iload_n 2, 1) := by decide +kernel
theorem dL_act_153 : decode cL_act 153 = .ok (.bipush 30, 2) := by decide +kernel
theorem dL_act_155 : decode cL_act 155 = .ok (.invokestatic 14, 3) := by decide +kernel
theorem dL_act_158 : decode cL_act 158 = .ok (.iadd, 1) := by decide +kernel
theorem dL_act_159 : decode cL_act 159 = .ok (.iconst 1, 1) := by decide +kernel
theorem dL_act_160 : decode cL_act 160 = .ok (.iload_n 1, 1) := by decide +kernel
theorem dL_act_161 : decode cL_act 161 = .ok (.iconst 5, 1) := by decide +kernel
theorem dL_act_162 : decode cL_act 162 = .ok (.ishr, 1) := by decide +kernel
theorem dL_act_163 : decode cL_act 163 = .ok (.bipush 60, 2) := by decide +kernel
theorem dL_act_165 : decode cL_act 165 = .ok (.invokestatic 14, 3) := by decide +kernel
theorem dL_act_168 : decode cL_act 168 = .ok (.iadd, 1) := by decide +kernel
theorem dL_act_169 : decode cL_act 169 = .ok (.invokevirtual 24, 3) := by decide +kernel
theorem dL_act_172 : decode cL_act 172 = .ok (.goto 6, 3) := by decide +kernel
theorem dL_act_175 : decode cL_act 175 = .ok (.sipush (-200), 3) := by decide +kernel
theorem dL_act_178 : decode cL_act 178 = .ok (.ireturn, 1) := by decide +kernel
theorem dL_act_179 : decode cL_act 179 = .ok (.aload_n 0, 1) := by decide +kernel
theorem dL_act_180 : decode cL_act 180 = .ok (.iload 5, 2) := by decide +kernel
theorem dL_act_182 : decode cL_act 182 = .ok (.iconst 1, 1) := by decide +kernel
theorem dL_act_183 : decode cL_act 183 = .ok (.iload_n 1, 1) := by decide +kernel
theorem dL_act_184 : decode cL_act 184 = .ok (.bipush 6, 2) := by decide +kernel
theorem dL_act_186 : decode cL_act 186 = .ok (.ishr, 1) := by decide +kernel
theorem dL_act_187 : decode cL_act 187 = .ok (.bipush 30, 2) := by decide +kernel
theorem dL_act_189 : decode cL_act 189 = .ok (.invokestatic 14, 3) := by decide +kernel
theorem dL_act_192 : decode cL_act 192 = .ok (.iadd, 1) := by decide +kernel
theorem dL_act_193 : decode cL_act 193 = .ok (.invokevirtual 27, 3) := by decide +kernel
theorem dL_act_196 : decode cL_act 196 = .ok (.ireturn, 1) := by decide +kernel
theorem dL_act_197 : decode cL_act 197 = .ok (.aload_n 0, 1) := by decide +kernel
theorem dL_act_198 : decode cL_act 198 = .ok (.iconst 1, 1) := by decide +kernel
theorem dL_act_199 : decode cL_act 199 = .ok (.iload_n 2, 1) := by decide +kernel
theorem dL_act_200 : decode cL_act 200 = .ok (.bipush 30, 2) := by decide +kernel
theorem dL_act_202 : decode cL_act 202 = .ok (.invokestatic 14, 3) := by decide +kernel
theorem dL_act_205 : decode cL_act 205 = .ok (.iadd, 1) := by decide +kernel
theorem dL_act_206 : decode cL_act 206 = .ok (.invokevirtual 30, 3) := by decide +kernel
theorem dL_act_209 : decode cL_act 209 = .ok (.ireturn, 1) := by decide +kernel
theorem dL_act_210 : decode cL_act 210 = .ok (.iload 4, 2) := by decide +kernel
theorem dL_act_212 : decode cL_act 212 = .ok (.ifCond .lt 33, 3) := by decide +kernel
theorem dL_act_215 : decode cL_act 215 = .ok (.aload_n 0, 1) := by decide +kernel
theorem dL_act_216 : decode cL_act 216 = .ok (.iload 4, 2) := by decide +kernel
theorem dL_act_218 : decode cL_act 218 = .ok (.iconst 4, 1) := by decide +kernel
theorem dL_act_219 : decode cL_act 219 = .ok (.invokevirtual 33, 3) := by decide +kernel
theorem dL_act_222 : decode cL_act 222 = .ok (.iconst 1, 1) := by decide +kernel
theorem dL_act_223 : decode cL_act 223 = .ok (.if_icmp .ne 22, 3) := by decide +kernel
theorem dL_act_226 : decode cL_act 226 = .ok (.iload 7, 2) := by decide +kernel
theorem dL_act_228 : decode cL_act 228 = .ok (.ifCond .eq 17, 3) := by decide +kernel
theorem dL_act_231 : decode cL_act 231 = .ok (.iload_n 1, 1) := by decide +kernel
theorem dL_act_232 : decode cL_act 232 = .ok (.sipush 256, 3) := by decide +kernel
theorem dL_act_235 : decode cL_act 235 = .ok (.iand, 1) := by decide +kernel
theorem dL_act_236 : decode cL_act 236 = .ok (.ifCond .eq 9, 3) := by decide +kernel
theorem dL_act_239 : decode cL_act 239 = .ok (.sipush (-200), 3) := by decide +kernel
theorem dL_act_242 : decode cL_act 242 = .ok (.goto 9, 3) := by decide +kernel
theorem dL_act_245 : decode cL_act 245 = .ok (.aload_n 0, 1) := by decide +kernel
theorem dL_act_246 : decode cL_act 246 = .ok (.iload 5, 2) := by decide +kernel
theorem dL_act_248 : decode cL_act 248 = .ok (.invokestatic 36, 3) := by decide +kernel
theorem dL_act_251 : decode cL_act 251 = .ok (.ireturn, 1) := by decide +kernel
theorem dL_act_252 : decode cL_act 252 = .ok (.iload 7, 2) := by decide +kernel
theorem dL_act_254 : decode cL_act 254 = .ok (.ifCond .eq 16, 3) := by decide +kernel
theorem dL_act_257 : decode cL_act 257 = .ok (.iload 4, 2) := by decide +kernel
theorem dL_act_259 : decode cL_act 259 = .ok (.iconst (-1), 1) := by decide +kernel
theorem dL_act_260 : decode cL_act 260 = .ok (.if_icmp .ne 10, 3) := by decide +kernel
theorem dL_act_263 : decode cL_act 263 = .ok (.aload_n 0, 1) := by decide +kernel
theorem dL_act_264 : decode cL_act 264 = .ok (.invokevirtual 40, 3) := by decide +kernel
theorem dL_act_267 : decode cL_act 267 = .ok (.goto 19, 3) := by decide +kernel
theorem dL_act_270 : decode cL_act 270 = .ok (.iload 7, 2) := by decide +kernel
theorem dL_act_272 : decode cL_act 272 = .ok (.ifCond .eq 10, 3) := by decide +kernel
