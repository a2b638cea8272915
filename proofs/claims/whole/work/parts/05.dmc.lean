theorem dX10_serve_183 : decode cX10_serve 183 = .ok (.getfield 53, 3) := by decide +kernel
theorem dX10_serve_186 : decode cX10_serve 186 = .ok (.iload_n 2, 1) := by decide +kernel
theorem dX10_serve_187 : decode cX10_serve 187 = .ok (.iaload, 1) := by decide +kernel
theorem dX10_serve_188 : decode cX10_serve 188 = .ok (.istore 5, 2) := by decide +kernel
theorem dX10_serve_190 : decode cX10_serve 190 = .ok (.aload_n 0, 1) := by decide +kernel
theorem dX10_serve_191 : decode cX10_serve 191 = .ok (.iload_n 3, 1) := by decide +kernel
theorem dX10_serve_192 : decode cX10_serve 192 = .ok (.invokevirtual 94, 3) := by decide +kernel
theorem dX10_serve_195 : decode cX10_serve 195 = .ok (.ifCond .eq 17, 3) := by decide +kernel
theorem dX10_serve_198 : decode cX10_serve 198 = .ok (.aload_n 0, 1) := by decide +kernel
theorem dX10_serve_199 : decode cX10_serve 199 = .ok (.getfield 26, 3) := by decide +kernel
theorem dX10_serve_202 : decode cX10_serve 202 = .ok (.iconst 3, 1) := by decide +kernel
theorem dX10_serve_203 : decode cX10_serve 203 = .ok (.iload_n 3, 1) := by decide +kernel
theorem dX10_serve_204 : decode cX10_serve 204 = .ok (.imul, 1) := by decide +kernel
theorem dX10_serve_205 : decode cX10_serve 205 = .ok (.iload 5, 2) := by decide +kernel
theorem dX10_serve_207 : decode cX10_serve 207 = .ok (.iadd, 1) := by decide +kernel
theorem dX10_serve_208 : decode cX10_serve 208 = .ok (.iaload, 1) := by decide +kernel
theorem dX10_serve_209 : decode cX10_serve 209 = .ok (.goto 4, 3) := by decide +kernel
theorem dX10_serve_212 : decode cX10_serve 212 = .ok (.iconst 0, 1) := by decide +kernel
theorem dX10_serve_213 : decode cX10_serve 213 = .ok (.istore 6, 2) := by decide +kernel
theorem dX10_serve_215 : decode cX10_serve 215 = .ok (.iload 6, 2) := by decide +kernel
theorem dX10_serve_217 : decode cX10_serve 217 = .ok (.aload_n 0, 1) := by decide +kernel
theorem dX10_serve_218 : decode cX10_serve 218 = .ok (.getfield 50, 3) := by decide +kernel
theorem dX10_serve_221 : decode cX10_serve 221 = .ok (.iload_n 2, 1) := by decide +kernel
theorem dX10_serve_222 : decode cX10_serve 222 = .ok (.iaload, 1) := by decide +kernel
theorem dX10_serve_223 : decode cX10_serve 223 = .ok (.iand, 1) := by decide +kernel
theorem dX10_serve_224 : decode cX10_serve 224 = .ok (.aload_n 0, 1) := by decide +kernel
theorem dX10_serve_225 : decode cX10_serve 225 = .ok (.getfield 50, 3) := by decide +kernel
theorem dX10_serve_228 : decode cX10_serve 228 = .ok (.iload_n 2, 1) := by decide +kernel
theorem dX10_serve_229 : decode cX10_serve 229 = .ok (.iaload, 1) := by decide +kernel
theorem dX10_serve_230 : decode cX10_serve 230 = .ok (.if_icmp .eq 6, 3) := by decide +kernel
theorem dX10_serve_233 : decode cX10_serve 233 = .ok (.bipush (-6), 2) := by decide +kernel
theorem dX10_serve_235 : decode cX10_serve 235 = .ok (.ireturn, 1) := by decide +kernel
theorem dX10_serve_236 : decode cX10_serve 236 = .ok (.aload_n 0, 1) := by decide +kernel
theorem dX10_serve_237 : decode cX10_serve 237 = .ok (.getfield 147, 3) := by decide +kernel
theorem dX10_serve_240 : decode cX10_serve 240 = .ok (.bipush 12, 2) := by decide +kernel
theorem dX10_serve_242 : decode cX10_serve 242 = .ok (.if_icmp .ne 6, 3) := by decide +kernel
theorem dX10_serve_245 : decode cX10_serve 245 = .ok (.bipush (-7), 2) := by decide +kernel
theorem dX10_serve_247 : decode cX10_serve 247 = .ok (.ireturn, 1) := by decide +kernel
theorem dX10_serve_248 : decode cX10_serve 248 = .ok (.aload_n 0, 1) := by decide +kernel
theorem dX10_serve_249 : decode cX10_serve 249 = .ok (.getfield 80, 3) := by decide +kernel
theorem dX10_serve_252 : decode cX10_serve 252 = .ok (.aload_n 0, 1) := by decide +kernel
theorem dX10_serve_253 : decode cX10_serve 253 = .ok (.getfield 147, 3) := by decide +kernel
theorem dX10_serve_256 : decode cX10_serve 256 = .ok (.iload_n 2, 1) := by decide +kernel
theorem dX10_serve_257 : decode cX10_serve 257 = .ok (.iastore, 1) := by decide +kernel
theorem dX10_serve_258 : decode cX10_serve 258 = .ok (.aload_n 0, 1) := by decide +kernel
theorem dX10_serve_259 : decode cX10_serve 259 = .ok (.dup, 1) := by decide +kernel
theorem dX10_serve_260 : decode cX10_serve 260 = .ok (.getfield 147, 3) := by decide +kernel
theorem dX10_serve_263 : decode cX10_serve 263 = .ok (.iconst 1, 1) := by decide +kernel
theorem dX10_serve_264 : decode cX10_serve 264 = .ok (.iadd, 1) := by decide +kernel
theorem dX10_serve_265 : decode cX10_serve 265 = .ok (.putfield 147, 3) := by decide +kernel
theorem dX10_serve_268 : decode cX10_serve 268 = .ok (.aload_n 0, 1) := by decide +kernel
theorem dX10_serve_269 : decode cX10_serve 269 = .ok (.getfield 77, 3) := by decide +kernel
theorem dX10_serve_272 : decode cX10_serve 272 = .ok (.iload 5, 2) := by decide +kernel
theorem dX10_serve_274 : decode cX10_serve 274 = .ok (.aload_n 0, 1) := by decide +kernel
theorem dX10_serve_275 : decode cX10_serve 275 = .ok (.getfield 50, 3) := by decide +kernel
theorem dX10_serve_278 : decode cX10_serve 278 = .ok (.iload_n 2, 1) := by decide +kernel
theorem dX10_serve_279 : decode cX10_serve 279 = .ok (.iaload, 1) := by decide +kernel
theorem dX10_serve_280 : decode cX10_serve 280 = .ok (.iconst 2, 1) := by decide +kernel
theorem dX10_serve_281 : decode cX10_serve 281 = .ok (.if_icmp .ne 12, 3) := by decide +kernel
theorem dX10_serve_284 : decode cX10_serve 284 = .ok (.aload_n 0, 1) := by decide +kernel
theorem dX10_serve_285 : decode cX10_serve 285 = .ok (.getfield 56, 3) := by decide +kernel
theorem dX10_serve_288 : decode cX10_serve 288 = .ok (.iload_n 2, 1) := by decide +kernel
theorem dX10_serve_289 : decode cX10_serve 289 = .ok (.iaload, 1) := by decide +kernel
theorem dX10_serve_290 : decode cX10_serve 290 = .ok (.goto 37, 3) := by decide +kernel
theorem dX10_serve_293 : decode cX10_serve 293 = .ok (.aload_n 0, 1) := by decide +kernel
theorem dX10_serve_294 : decode cX10_serve 294 = .ok (.getfield 50, 3) := by decide +kernel
theorem dX10_serve_297 : decode cX10_serve 297 = .ok (.iload_n 2, 1) := by decide +kernel
theorem dX10_serve_298 : decode cX10_serve 298 = .ok (.iaload, 1) := by decide +kernel
theorem dX10_serve_299 : decode cX10_serve 299 = .ok (.iconst 3, 1) := by decide +kernel
theorem dX10_serve_300 : decode cX10_serve 300 = .ok (.if_icmp .ne 20, 3) := by decide +kernel
theorem dX10_serve_303 : decode cX10_serve 303 = .ok (.aload_n 0, 1) := by decide +kernel
theorem dX10_serve_304 : decode cX10_serve 304 = .ok (.getfield 77, 3) := by decide +kernel
theorem dX10_serve_307 : decode cX10_serve 307 = .ok (.iload 5, 2) := by decide +kernel
theorem dX10_serve_309 : decode cX10_serve 309 = .ok (.iaload, 1) := by decide +kernel
theorem dX10_serve_310 : decode cX10_serve 310 = .ok (.aload_n 0, 1) := by decide +kernel
theorem dX10_serve_311 : decode cX10_serve 311 = .ok (.getfield 56, 3) := by decide +kernel
theorem dX10_serve_314 : decode cX10_serve 314 = .ok (.iload_n 2, 1) := by decide +kernel
theorem dX10_serve_315 : decode cX10_serve 315 = .ok (.iaload, 1) := by decide +kernel
theorem dX10_serve_316 : decode cX10_serve 316 = .ok (.iadd, 1) := by decide +kernel
theorem dX10_serve_317 : decode cX10_serve 317 = .ok (.goto 10, 3) := by decide +kernel
theorem dX10_serve_320 : decode cX10_serve 320 = .ok (.aload_n 0, 1) := by decide +kernel
theorem dX10_serve_321 : decode cX10_serve 321 = .ok (.getfield 77, 3) := by decide +kernel
theorem dX10_serve_324 : decode cX10_serve 324 = .ok (.iload 5, 2) := by decide +kernel
theorem dX10_serve_326 : decode cX10_serve 326 = .ok (.iaload, 1) := by decide +kernel
theorem dX10_serve_327 : decode cX10_serve 327 = .ok (.iastore, 1) := by decide +kernel
theorem dX10_serve_328 : decode cX10_serve 328 = .ok (.aload_n 0, 1) := by decide +kernel
theorem dX10_serve_329 : decode cX10_serve 329 = .ok (.aload_n 0, 1) := by decide +kernel
theorem dX10_serve_330 : decode cX10_serve 330 = .ok (.getfield 77, 3) := by decide +kernel
theorem dX10_serve_333 : decode cX10_serve 333 = .ok (.iload 5, 2) := by decide +kernel
theorem dX10_serve_335 : decode cX10_serve 335 = .ok (.iaload, 1) := by decide +kernel
theorem dX10_serve_336 : decode cX10_serve 336 = .ok (.putfield 156, 3) := by decide +kernel
theorem dX10_serve_339 : decode cX10_serve 339 = .ok (.iconst 0, 1) := by decide +kernel
theorem dX10_serve_340 : decode cX10_serve 340 = .ok (.ireturn, 1) := by decide +kernel
theorem dX10_answer_0 : decode cX10_answer 0 = .ok (.aload_n 0, 1) := by decide +kernel
theorem dX10_answer_1 : decode cX10_answer 1 = .ok (.getfield 156, 3) := by decide +kernel
theorem dX10_answer_4 : decode cX10_answer 4 = .ok (.ireturn, 1) := by decide +kernel
theorem dX10_steal_0 : decode cX10_steal 0 = .ok (.iload_n 1, 1) := by decide +kernel
theorem dX10_steal_1 : decode cX10_steal 1 = .ok (.iconst 0, 1) := by decide +kernel
theorem dX10_steal_2 : decode cX10_steal 2 = .ok (.iconst 5, 1) := by decide +kernel
theorem dX10_steal_3 : decode cX10_steal 3 = .ok (.invokestatic 87, 3) := by decide +kernel
theorem dX10_steal_6 : decode cX10_steal 6 = .ok (.ifCond .eq 12, 3) := by decide +kernel
theorem dX10_steal_9 : decode cX10_steal 9 = .ok (.aload_n 0, 1) := by decide +kernel
theorem dX10_steal_10 : decode cX10_steal 10 = .ok (.getfield 13, 3) := by decide +kernel
theorem dX10_steal_13 : decode cX10_steal 13 = .ok (.iload_n 1, 1) := by decide +kernel
theorem dX10_steal_14 : decode cX10_steal 14 = .ok (.iaload, 1) := by decide +kernel
theorem dX10_steal_15 : decode cX10_steal 15 = .ok (.ifCond .ge 5, 3) := by decide +kernel
theorem dX10_steal_18 : decode cX10_steal 18 = .ok (.iconst (-1), 1) := by decide +kernel
theorem dX10_steal_19 : decode cX10_steal 19 = .ok (.ireturn, 1) := by decide +kernel
theorem dX10_steal_20 : decode cX10_steal 20 = .ok (.aload_n 0, 1) := by decide +kernel
theorem dX10_steal_21 : decode cX10_steal 21 = .ok (.getfield 16, 3) := by decide +kernel
theorem dX10_steal_24 : decode cX10_steal 24 = .ok (.aload_n 0, 1) := by decide +kernel
theorem dX10_steal_25 : decode cX10_steal 25 = .ok (.getfield 13, 3) := by decide +kernel
theorem dX10_steal_28 : decode cX10_steal 28 = .ok (.iload_n 1, 1) := by decide +kernel
theorem dX10_steal_29 : decode cX10_steal 29 = .ok (.iaload, 1) := by decide +kernel
theorem dX10_steal_30 : decode cX10_steal 30 = .ok (.iconst 1, 1) := by decide +kernel
theorem dX10_steal_31 : decode cX10_steal 31 = .ok (.bastore, 1) := by decide +kernel
theorem dX10_steal_32 : decode cX10_steal 32 = .ok (.aload_n 0, 1) := by decide +kernel
theorem dX10_steal_33 : decode cX10_steal 33 = .ok (.getfield 13, 3) := by decide +kernel
theorem dX10_steal_36 : decode cX10_steal 36 = .ok (.iload_n 1, 1) := by decide +kernel
theorem dX10_steal_37 : decode cX10_steal 37 = .ok (.iaload, 1) := by decide +kernel
theorem dX10_steal_38 : decode cX10_steal 38 = .ok (.ireturn, 1) := by decide +kernel
theorem dX10_learn_0 : decode cX10_learn 0 = .ok (.iload_n 1, 1) := by decide +kernel
theorem dX10_learn_1 : decode cX10_learn 1 = .ok (.iconst 0, 1) := by decide +kernel
theorem dX10_learn_2 : decode cX10_learn 2 = .ok (.aload_n 0, 1) := by decide +kernel
theorem dX10_learn_3 : decode cX10_learn 3 = .ok (.getfield 102, 3) := by decide +kernel
theorem dX10_learn_6 : decode cX10_learn 6 = .ok (.iconst 1, 1) := by decide +kernel
theorem dX10_learn_7 : decode cX10_learn 7 = .ok (.isub, 1) := by decide +kernel
theorem dX10_learn_8 : decode cX10_learn 8 = .ok (.invokestatic 87, 3) := by decide +kernel
theorem dX10_learn_11 : decode cX10_learn 11 = .ok (.ifCond .ne 5, 3) := by decide +kernel
theorem dX10_learn_14 : decode cX10_learn 14 = .ok (.iconst (-1), 1) := by decide +kernel
theorem dX10_learn_15 : decode cX10_learn 15 = .ok (.ireturn, 1) := by decide +kernel
theorem dX10_learn_16 : decode cX10_learn 16 = .ok (.aload_n 0, 1) := by decide +kernel
theorem dX10_learn_17 : decode cX10_learn 17 = .ok (.getfield 16, 3) := by decide +kernel
theorem dX10_learn_20 : decode cX10_learn 20 = .ok (.aload_n 0, 1) := by decide +kernel
theorem dX10_learn_21 : decode cX10_learn 21 = .ok (.getfield 32, 3) := by decide +kernel
theorem dX10_learn_24 : decode cX10_learn 24 = .ok (.iload_n 1, 1) := by decide +kernel
theorem dX10_learn_25 : decode cX10_learn 25 = .ok (.iaload, 1) := by decide +kernel
theorem dX10_learn_26 : decode cX10_learn 26 = .ok (.baload, 1) := by decide +kernel
theorem dX10_learn_27 : decode cX10_learn 27 = .ok (.ifCond .ne 6, 3) := by decide +kernel
theorem dX10_learn_30 : decode cX10_learn 30 = .ok (.bipush (-2), 2) := by decide +kernel
theorem dX10_learn_32 : decode cX10_learn 32 = .ok (.ireturn, 1) := by decide +kernel
theorem dX10_learn_33 : decode cX10_learn 33 = .ok (.aload_n 0, 1) := by decide +kernel
theorem dX10_learn_34 : decode cX10_learn 34 = .ok (.getfield 29, 3) := by decide +kernel
theorem dX10_learn_37 : decode cX10_learn 37 = .ok (.iload_n 1, 1) := by decide +kernel
theorem dX10_learn_38 : decode cX10_learn 38 = .ok (.iaload, 1) := by decide +kernel
theorem dX10_learn_39 : decode cX10_learn 39 = .ok (.iconst 2, 1) := by decide +kernel
theorem dX10_learn_40 : decode cX10_learn 40 = .ok (.if_icmp .eq 15, 3) := by decide +kernel
theorem dX10_learn_43 : decode cX10_learn 43 = .ok (.aload_n 0, 1) := by decide +kernel
theorem dX10_learn_44 : decode cX10_learn 44 = .ok (.getfield 29, 3) := by decide +kernel
theorem dX10_learn_47 : decode cX10_learn 47 = .ok (.iload_n 1, 1) := by decide +kernel
theorem dX10_learn_48 : decode cX10_learn 48 = .ok (.iaload, 1) := by decide +kernel
theorem dX10_learn_49 : decode cX10_learn 49 = .ok (.iconst 3, 1) := by decide +kernel
theorem dX10_learn_50 : decode cX10_learn 50 = .ok (.if_icmp .eq 5, 3) := by decide +kernel
theorem dX10_learn_53 : decode cX10_learn 53 = .ok (.iconst 0, 1) := by decide +kernel
theorem dX10_learn_54 : decode cX10_learn 54 = .ok (.ireturn, 1) := by decide +kernel
theorem dX10_learn_55 : decode cX10_learn 55 = .ok (.aload_n 0, 1) := by decide +kernel
theorem dX10_learn_56 : decode cX10_learn 56 = .ok (.getfield 16, 3) := by decide +kernel
theorem dX10_learn_59 : decode cX10_learn 59 = .ok (.aload_n 0, 1) := by decide +kernel
theorem dX10_learn_60 : decode cX10_learn 60 = .ok (.getfield 38, 3) := by decide +kernel
theorem dX10_learn_63 : decode cX10_learn 63 = .ok (.iload_n 1, 1) := by decide +kernel
theorem dX10_learn_64 : decode cX10_learn 64 = .ok (.iaload, 1) := by decide +kernel
theorem dX10_learn_65 : decode cX10_learn 65 = .ok (.iconst 1, 1) := by decide +kernel
theorem dX10_learn_66 : decode cX10_learn 66 = .ok (.bastore, 1) := by decide +kernel
theorem dX10_learn_67 : decode cX10_learn 67 = .ok (.aload_n 0, 1) := by decide +kernel
theorem dX10_learn_68 : decode cX10_learn 68 = .ok (.getfield 38, 3) := by decide +kernel
theorem dX10_learn_71 : decode cX10_learn 71 = .ok (.iload_n 1, 1) := by decide +kernel
theorem dX10_learn_72 : decode cX10_learn 72 = .ok (.iaload, 1) := by decide +kernel
theorem dX10_learn_73 : decode cX10_learn 73 = .ok (.ireturn, 1) := by decide +kernel
theorem dX10_isStolen_0 : decode cX10_isStolen 0 = .ok (.iload_n 1, 1) := by decide +kernel
theorem dX10_isStolen_1 : decode cX10_isStolen 1 = .ok (.iconst 0, 1) := by decide +kernel
theorem dX10_isStolen_2 : decode cX10_isStolen 2 = .ok (.aload_n 0, 1) := by decide +kernel
theorem dX10_isStolen_3 : decode cX10_isStolen 3 = .ok (.getfield 91, 3) := by decide +kernel
theorem dX10_isStolen_6 : decode cX10_isStolen 6 = .ok (.iconst 1, 1) := by decide +kernel
theorem dX10_isStolen_7 : decode cX10_isStolen 7 = .ok (.isub, 1) := by decide +kernel
theorem dX10_isStolen_8 : decode cX10_isStolen 8 = .ok (.invokestatic 87, 3) := by decide +kernel
theorem dX10_isStolen_11 : decode cX10_isStolen 11 = .ok (.ifCond .eq 16, 3) := by decide +kernel
theorem dX10_isStolen_14 : decode cX10_isStolen 14 = .ok (.aload_n 0, 1) := by decide +kernel
theorem dX10_isStolen_15 : decode cX10_isStolen 15 = .ok (.getfield 16, 3) := by decide +kernel
theorem dX10_isStolen_18 : decode cX10_isStolen 18 = .ok (.iload_n 1, 1) := by decide +kernel
theorem dX10_isStolen_19 : decode cX10_isStolen 19 = .ok (.baload, 1) := by decide +kernel
theorem dX10_isStolen_20 : decode cX10_isStolen 20 = .ok (.ifCond .eq 7, 3) := by decide +kernel
theorem dX10_isStolen_23 : decode cX10_isStolen 23 = .ok (.iconst 1, 1) := by decide +kernel
theorem dX10_isStolen_24 : decode cX10_isStolen 24 = .ok (.goto 4, 3) := by decide +kernel
theorem dX10_isStolen_27 : decode cX10_isStolen 27 = .ok (.iconst 0, 1) := by decide +kernel
theorem dX10_isStolen_28 : decode cX10_isStolen 28 = .ok (.ireturn, 1) := by decide +kernel
theorem dX10_forge_0 : decode cX10_forge 0 = .ok (.iload_n 2, 1) := by decide +kernel
theorem dX10_forge_1 : decode cX10_forge 1 = .ok (.iconst 1, 1) := by decide +kernel
theorem dX10_forge_2 : decode cX10_forge 2 = .ok (.iconst 4, 1) := by decide +kernel
theorem dX10_forge_3 : decode cX10_forge 3 = .ok (.invokestatic 87, 3) := by decide +kernel
theorem dX10_forge_6 : decode cX10_forge 6 = .ok (.ifCond .eq 17, 3) := by decide +kernel
theorem dX10_forge_9 : decode cX10_forge 9 = .ok (.iload_n 2, 1) := by decide +kernel
theorem dX10_forge_10 : decode cX10_forge 10 = .ok (.iconst 3, 1) := by decide +kernel
theorem dX10_forge_11 : decode cX10_forge 11 = .ok (.if_icmp .eq 14, 3) := by decide +kernel
theorem dX10_forge_14 : decode cX10_forge 14 = .ok (.iload_n 3, 1) := by decide +kernel
theorem dX10_forge_15 : decode cX10_forge 15 = .ok (.iconst 0, 1) := by decide +kernel
theorem dX10_forge_16 : decode cX10_forge 16 = .ok (.iconst 5, 1) := by decide +kernel
theorem dX10_forge_17 : decode cX10_forge 17 = .ok (.invokestatic 87, 3) := by decide +kernel
theorem dX10_forge_20 : decode cX10_forge 20 = .ok (.ifCond .ne 5, 3) := by decide +kernel
theorem dX10_forge_23 : decode cX10_forge 23 = .ok (.iconst (-1), 1) := by decide +kernel
theorem dX10_forge_24 : decode cX10_forge 24 = .ok (.ireturn, 1) := by decide +kernel
theorem dX10_forge_25 : decode cX10_forge 25 = .ok (.aload_n 0, 1) := by decide +kernel
theorem dX10_forge_26 : decode cX10_forge 26 = .ok (.iload_n 1, 1) := by decide +kernel
theorem dX10_forge_27 : decode cX10_forge 27 = .ok (.invokevirtual 159, 3) := by decide +kernel
theorem dX10_forge_30 : decode cX10_forge 30 = .ok (.ifCond .eq 22, 3) := by decide +kernel
theorem dX10_forge_33 : decode cX10_forge 33 = .ok (.iload_n 2, 1) := by decide +kernel
theorem dX10_forge_34 : decode cX10_forge 34 = .ok (.iconst 2, 1) := by decide +kernel
theorem dX10_forge_35 : decode cX10_forge 35 = .ok (.if_icmp .eq 8, 3) := by decide +kernel
theorem dX10_forge_38 : decode cX10_forge 38 = .ok (.iload_n 2, 1) := by decide +kernel
theorem dX10_forge_39 : decode cX10_forge 39 = .ok (.iconst 3, 1) := by decide +kernel
theorem dX10_forge_40 : decode cX10_forge 40 = .ok (.if_icmp .ne 15, 3) := by decide +kernel
theorem dX10_forge_43 : decode cX10_forge 43 = .ok (.aload_n 0, 1) := by decide +kernel
theorem dX10_forge_44 : decode cX10_forge 44 = .ok (.iload 4, 2) := by decide +kernel
theorem dX10_forge_46 : decode cX10_forge 46 = .ok (.invokevirtual 159, 3) := by decide +kernel
theorem dX10_forge_49 : decode cX10_forge 49 = .ok (.ifCond .ne 6, 3) := by decide +kernel
theorem dX10_forge_52 : decode cX10_forge 52 = .ok (.bipush (-2), 2) := by decide +kernel
theorem dX10_forge_54 : decode cX10_forge 54 = .ok (.ireturn, 1) := by decide +kernel
theorem dX10_forge_55 : decode cX10_forge 55 = .ok (.aload_n 0, 1) := by decide +kernel
theorem dX10_forge_56 : decode cX10_forge 56 = .ok (.getfield 102, 3) := by decide +kernel
theorem dX10_forge_59 : decode cX10_forge 59 = .ok (.sipush 150, 3) := by decide +kernel
theorem dX10_forge_62 : decode cX10_forge 62 = .ok (.if_icmp .lt 6, 3) := by decide +kernel
theorem dX10_forge_65 : decode cX10_forge 65 = .ok (.bipush (-7), 2) := by decide +kernel
theorem dX10_forge_67 : decode cX10_forge 67 = .ok (.ireturn, 1) := by decide +kernel
theorem dX10_forge_68 : decode cX10_forge 68 = .ok (.iload_n 2, 1) := by decide +kernel
theorem dX10_forge_69 : decode cX10_forge 69 = .ok (.iconst 1, 1) := by decide +kernel
theorem dX10_forge_70 : decode cX10_forge 70 = .ok (.if_icmp .ne 12, 3) := by decide +kernel
theorem dX10_forge_73 : decode cX10_forge 73 = .ok (.aload_n 0, 1) := by decide +kernel
theorem dX10_forge_74 : decode cX10_forge 74 = .ok (.iload_n 1, 1) := by decide +kernel
theorem dX10_forge_75 : decode cX10_forge 75 = .ok (.iload_n 3, 1) := by decide +kernel
theorem dX10_forge_76 : decode cX10_forge 76 = .ok (.iload 5, 2) := by decide +kernel
theorem dX10_forge_78 : decode cX10_forge 78 = .ok (.invokevirtual 119, 3) := by decide +kernel
theorem dX10_forge_81 : decode cX10_forge 81 = .ok (.ireturn, 1) := by decide +kernel
theorem dX10_forge_82 : decode cX10_forge 82 = .ok (.iload_n 2, 1) := by decide +kernel
theorem dX10_forge_83 : decode cX10_forge 83 = .ok (.iconst 2, 1) := by decide +kernel
theorem dX10_forge_84 : decode cX10_forge 84 = .ok (.if_icmp .ne 17, 3) := by decide +kernel
theorem dX10_forge_87 : decode cX10_forge 87 = .ok (.aload_n 0, 1) := by decide +kernel
theorem dX10_forge_88 : decode cX10_forge 88 = .ok (.iload_n 1, 1) := by decide +kernel
theorem dX10_forge_89 : decode cX10_forge 89 = .ok (.iload_n 3, 1) := by decide +kernel
theorem dX10_forge_90 : decode cX10_forge 90 = .ok (.iload 4, 2) := by decide +kernel
theorem dX10_forge_92 : decode cX10_forge 92 = .ok (.iconst 0, 1) := by decide +kernel
theorem dX10_forge_93 : decode cX10_forge 93 = .ok (.iload 5, 2) := by decide +kernel
theorem dX10_forge_95 : decode cX10_forge 95 = .ok (.iload 5, 2) := by decide +kernel
theorem dX10_forge_97 : decode cX10_forge 97 = .ok (.invokevirtual 129, 3) := by decide +kernel
theorem dX10_forge_100 : decode cX10_forge 100 = .ok (.ireturn, 1) := by decide +kernel
theorem dX10_forge_101 : decode cX10_forge 101 = .ok (.iload_n 2, 1) := by decide +kernel
theorem dX10_forge_102 : decode cX10_forge 102 = .ok (.iconst 3, 1) := by decide +kernel
theorem dX10_forge_103 : decode cX10_forge 103 = .ok (.if_icmp .ne 16, 3) := by decide +kernel
theorem dX10_forge_106 : decode cX10_forge 106 = .ok (.aload_n 0, 1) := by decide +kernel
theorem dX10_forge_107 : decode cX10_forge 107 = .ok (.iload_n 1, 1) := by decide +kernel
theorem dX10_forge_108 : decode cX10_forge 108 = .ok (.iload 4, 2) := by decide +kernel
theorem dX10_forge_110 : decode cX10_forge 110 = .ok (.iload 5, 2) := by decide +kernel
theorem dX10_forge_112 : decode cX10_forge 112 = .ok (.iconst 1, 1) := by decide +kernel
theorem dX10_forge_113 : decode cX10_forge 113 = .ok (.ldc 162, 2) := by decide +kernel
theorem dX10_forge_115 : decode cX10_forge 115 = .ok (.invokevirtual 133, 3) := by decide +kernel
theorem dX10_forge_118 : decode cX10_forge 118 = .ok (.ireturn, 1) := by decide +kernel
theorem dX10_forge_119 : decode cX10_forge 119 = .ok (.aload_n 0, 1) := by decide +kernel
theorem dX10_forge_120 : decode cX10_forge 120 = .ok (.iload_n 1, 1) := by decide +kernel
theorem dX10_forge_121 : decode cX10_forge 121 = .ok (.iload_n 3, 1) := by decide +kernel
theorem dX10_forge_122 : decode cX10_forge 122 = .ok (.iload 5, 2) := by decide +kernel
theorem dX10_forge_124 : decode cX10_forge 124 = .ok (.iconst 0, 1) := by decide +kernel
theorem dX10_forge_125 : decode cX10_forge 125 = .ok (.invokevirtual 123, 3) := by decide +kernel
theorem dX10_forge_128 : decode cX10_forge 128 = .ok (.istore 6, 2) := by decide +kernel
theorem dX10_forge_130 : decode cX10_forge 130 = .ok (.aload_n 0, 1) := by decide +kernel
theorem dX10_forge_131 : decode cX10_forge 131 = .ok (.getfield 50, 3) := by decide +kernel
theorem dX10_forge_134 : decode cX10_forge 134 = .ok (.iload 6, 2) := by decide +kernel
theorem dX10_forge_136 : decode cX10_forge 136 = .ok (.iload 4, 2) := by decide +kernel
theorem dX10_forge_138 : decode cX10_forge 138 = .ok (.iconst 3, 1) := by decide +kernel
theorem dX10_forge_139 : decode cX10_forge 139 = .ok (.iand, 1) := by decide +kernel
theorem dX10_forge_140 : decode cX10_forge 140 = .ok (.iastore, 1) := by decide +kernel
theorem dX10_forge_141 : decode cX10_forge 141 = .ok (.aload_n 0, 1) := by decide +kernel
theorem dX10_forge_142 : decode cX10_forge 142 = .ok (.getfield 53, 3) := by decide +kernel
theorem dX10_forge_145 : decode cX10_forge 145 = .ok (.iload 6, 2) := by decide +kernel
theorem dX10_forge_147 : decode cX10_forge 147 = .ok (.iload 4, 2) := by decide +kernel
theorem dX10_forge_149 : decode cX10_forge 149 = .ok (.iconst 2, 1) := by decide +kernel
theorem dX10_forge_150 : decode cX10_forge 150 = .ok (.ishr, 1) := by decide +kernel
theorem dX10_forge_151 : decode cX10_forge 151 = .ok (.iconst 3, 1) := by decide +kernel
theorem dX10_forge_152 : decode cX10_forge 152 = .ok (.iand, 1) := by decide +kernel
theorem dX10_forge_153 : decode cX10_forge 153 = .ok (.iconst 3, 1) := by decide +kernel
theorem dX10_forge_154 : decode cX10_forge 154 = .ok (.irem, 1) := by decide +kernel
theorem dX10_forge_155 : decode cX10_forge 155 = .ok (.iastore, 1) := by decide +kernel
theorem dX10_forge_156 : decode cX10_forge 156 = .ok (.aload_n 0, 1) := by decide +kernel
theorem dX10_forge_157 : decode cX10_forge 157 = .ok (.getfield 56, 3) := by decide +kernel
theorem dX10_forge_160 : decode cX10_forge 160 = .ok (.iload 6, 2) := by decide +kernel
theorem dX10_forge_162 : decode cX10_forge 162 = .ok (.iload 4, 2) := by decide +kernel
theorem dX10_forge_164 : decode cX10_forge 164 = .ok (.iconst 4, 1) := by decide +kernel
theorem dX10_forge_165 : decode cX10_forge 165 = .ok (.ishr, 1) := by decide +kernel
theorem dX10_forge_166 : decode cX10_forge 166 = .ok (.iastore, 1) := by decide +kernel
theorem dX10_forge_167 : decode cX10_forge 167 = .ok (.iload 6, 2) := by decide +kernel
theorem dX10_forge_169 : decode cX10_forge 169 = .ok (.ireturn, 1) := by decide +kernel
theorem dX10_seal_0 : decode cX10_seal 0 = .ok (.iload_n 1, 1) := by decide +kernel
theorem dX10_seal_1 : decode cX10_seal 1 = .ok (.iconst 0, 1) := by decide +kernel
theorem dX10_seal_2 : decode cX10_seal 2 = .ok (.aload_n 0, 1) := by decide +kernel
theorem dX10_seal_3 : decode cX10_seal 3 = .ok (.getfield 102, 3) := by decide +kernel
theorem dX10_seal_6 : decode cX10_seal 6 = .ok (.iconst 1, 1) := by decide +kernel
theorem dX10_seal_7 : decode cX10_seal 7 = .ok (.isub, 1) := by decide +kernel
theorem dX10_seal_8 : decode cX10_seal 8 = .ok (.invokestatic 87, 3) := by decide +kernel
theorem dX10_seal_11 : decode cX10_seal 11 = .ok (.ifCond .eq 12, 3) := by decide +kernel
theorem dX10_seal_14 : decode cX10_seal 14 = .ok (.iload_n 2, 1) := by decide +kernel
theorem dX10_seal_15 : decode cX10_seal 15 = .ok (.iconst 0, 1) := by decide +kernel
theorem dX10_seal_16 : decode cX10_seal 16 = .ok (.iconst 2, 1) := by decide +kernel
theorem dX10_seal_17 : decode cX10_seal 17 = .ok (.invokestatic 87, 3) := by decide +kernel
theorem dX10_seal_20 : decode cX10_seal 20 = .ok (.ifCond .ne 5, 3) := by decide +kernel
theorem dX10_seal_23 : decode cX10_seal 23 = .ok (.iconst (-1), 1) := by decide +kernel
theorem dX10_seal_24 : decode cX10_seal 24 = .ok (.ireturn, 1) := by decide +kernel
theorem dX10_seal_25 : decode cX10_seal 25 = .ok (.aload_n 0, 1) := by decide +kernel
theorem dX10_seal_26 : decode cX10_seal 26 = .ok (.getfield 29, 3) := by decide +kernel
theorem dX10_seal_29 : decode cX10_seal 29 = .ok (.iload_n 1, 1) := by decide +kernel
theorem dX10_seal_30 : decode cX10_seal 30 = .ok (.iaload, 1) := by decide +kernel
theorem dX10_seal_31 : decode cX10_seal 31 = .ok (.istore_n 3, 1) := by decide +kernel
theorem dX10_seal_32 : decode cX10_seal 32 = .ok (.iload_n 2, 1) := by decide +kernel
theorem dX10_seal_33 : decode cX10_seal 33 = .ok (.ifCond .ne 5, 3) := by decide +kernel
theorem dX10_seal_36 : decode cX10_seal 36 = .ok (.iload_n 3, 1) := by decide +kernel
theorem dX10_seal_37 : decode cX10_seal 37 = .ok (.ireturn, 1) := by decide +kernel
theorem dX10_seal_38 : decode cX10_seal 38 = .ok (.iload_n 2, 1) := by decide +kernel
theorem dX10_seal_39 : decode cX10_seal 39 = .ok (.iconst 1, 1) := by decide +kernel
theorem dX10_seal_40 : decode cX10_seal 40 = .ok (.if_icmp .ne 33, 3) := by decide +kernel
theorem dX10_seal_43 : decode cX10_seal 43 = .ok (.iload_n 3, 1) := by decide +kernel
theorem dX10_seal_44 : decode cX10_seal 44 = .ok (.iconst 2, 1) := by decide +kernel
theorem dX10_seal_45 : decode cX10_seal 45 = .ok (.if_icmp .ne 12, 3) := by decide +kernel
theorem dX10_seal_48 : decode cX10_seal 48 = .ok (.aload_n 0, 1) := by decide +kernel
theorem dX10_seal_49 : decode cX10_seal 49 = .ok (.getfield 44, 3) := by decide +kernel
theorem dX10_seal_52 : decode cX10_seal 52 = .ok (.iload_n 1, 1) := by decide +kernel
theorem dX10_seal_53 : decode cX10_seal 53 = .ok (.iaload, 1) := by decide +kernel
theorem dX10_seal_54 : decode cX10_seal 54 = .ok (.goto 18, 3) := by decide +kernel
theorem dX10_seal_57 : decode cX10_seal 57 = .ok (.iload_n 3, 1) := by decide +kernel
theorem dX10_seal_58 : decode cX10_seal 58 = .ok (.iconst 3, 1) := by decide +kernel
theorem dX10_seal_59 : decode cX10_seal 59 = .ok (.if_icmp .ne 12, 3) := by decide +kernel
theorem dX10_seal_62 : decode cX10_seal 62 = .ok (.aload_n 0, 1) := by decide +kernel
theorem dX10_seal_63 : decode cX10_seal 63 = .ok (.getfield 47, 3) := by decide +kernel
theorem dX10_seal_66 : decode cX10_seal 66 = .ok (.iload_n 1, 1) := by decide +kernel
theorem dX10_seal_67 : decode cX10_seal 67 = .ok (.iaload, 1) := by decide +kernel
theorem dX10_seal_68 : decode cX10_seal 68 = .ok (.goto 4, 3) := by decide +kernel
theorem dX10_seal_71 : decode cX10_seal 71 = .ok (.iconst 0, 1) := by decide +kernel
theorem dX10_seal_72 : decode cX10_seal 72 = .ok (.ireturn, 1) := by decide +kernel
theorem dX10_seal_73 : decode cX10_seal 73 = .ok (.iload_n 3, 1) := by decide +kernel
theorem dX10_seal_74 : decode cX10_seal 74 = .ok (.iconst 1, 1) := by decide +kernel
theorem dX10_seal_75 : decode cX10_seal 75 = .ok (.if_icmp .eq 8, 3) := by decide +kernel
theorem dX10_seal_78 : decode cX10_seal 78 = .ok (.iload_n 3, 1) := by decide +kernel
theorem dX10_seal_79 : decode cX10_seal 79 = .ok (.iconst 4, 1) := by decide +kernel
theorem dX10_seal_80 : decode cX10_seal 80 = .ok (.if_icmp .ne 12, 3) := by decide +kernel
theorem dX10_seal_83 : decode cX10_seal 83 = .ok (.aload_n 0, 1) := by decide +kernel
theorem dX10_seal_84 : decode cX10_seal 84 = .ok (.getfield 41, 3) := by decide +kernel
theorem dX10_seal_87 : decode cX10_seal 87 = .ok (.iload_n 1, 1) := by decide +kernel
theorem dX10_seal_88 : decode cX10_seal 88 = .ok (.iaload, 1) := by decide +kernel
theorem dX10_seal_89 : decode cX10_seal 89 = .ok (.goto 4, 3) := by decide +kernel
theorem dX10_seal_92 : decode cX10_seal 92 = .ok (.iconst 0, 1) := by decide +kernel
theorem dX10_seal_93 : decode cX10_seal 93 = .ok (.ireturn, 1) := by decide +kernel
theorem dX10_look_0 : decode cX10_look 0 = .ok (.iload_n 1, 1) := by decide +kernel
theorem dX10_look_1 : decode cX10_look 1 = .ok (.tableswitch 165 0 7 #[47, 67, 87, 92, 111, 132, 155, 160], 47) := by decide +kernel
theorem dX10_look_48 : decode cX10_look 48 = .ok (.iload_n 2, 1) := by decide +kernel
theorem dX10_look_49 : decode cX10_look 49 = .ok (.iconst 0, 1) := by decide +kernel
theorem dX10_look_50 : decode cX10_look 50 = .ok (.iconst 2, 1) := by decide +kernel
theorem dX10_look_51 : decode cX10_look 51 = .ok (.invokestatic 87, 3) := by decide +kernel
theorem dX10_look_54 : decode cX10_look 54 = .ok (.ifCond .eq 12, 3) := by decide +kernel
theorem dX10_look_57 : decode cX10_look 57 = .ok (.aload_n 0, 1) := by decide +kernel
theorem dX10_look_58 : decode cX10_look 58 = .ok (.getfield 77, 3) := by decide +kernel
theorem dX10_look_61 : decode cX10_look 61 = .ok (.iload_n 2, 1) := by decide +kernel
theorem dX10_look_62 : decode cX10_look 62 = .ok (.iaload, 1) := by decide +kernel
theorem dX10_look_63 : decode cX10_look 63 = .ok (.goto 4, 3) := by decide +kernel
theorem dX10_look_66 : decode cX10_look 66 = .ok (.iconst (-1), 1) := by decide +kernel
theorem dX10_look_67 : decode cX10_look 67 = .ok (.ireturn, 1) := by decide +kernel
theorem dX10_look_68 : decode cX10_look 68 = .ok (.iload_n 2, 1) := by decide +kernel
theorem dX10_look_69 : decode cX10_look 69 = .ok (.iconst 0, 1) := by decide +kernel
theorem dX10_look_70 : decode cX10_look 70 = .ok (.iconst 5, 1) := by decide +kernel
theorem dX10_look_71 : decode cX10_look 71 = .ok (.invokestatic 87, 3) := by decide +kernel
theorem dX10_look_74 : decode cX10_look 74 = .ok (.ifCond .eq 12, 3) := by decide +kernel
theorem dX10_look_77 : decode cX10_look 77 = .ok (.aload_n 0, 1) := by decide +kernel
theorem dX10_look_78 : decode cX10_look 78 = .ok (.getfield 7, 3) := by decide +kernel
theorem dX10_look_81 : decode cX10_look 81 = .ok (.iload_n 2, 1) := by decide +kernel
theorem dX10_look_82 : decode cX10_look 82 = .ok (.iaload, 1) := by decide +kernel
theorem dX10_look_83 : decode cX10_look 83 = .ok (.goto 4, 3) := by decide +kernel
theorem dX10_look_86 : decode cX10_look 86 = .ok (.iconst (-1), 1) := by decide +kernel
theorem dX10_look_87 : decode cX10_look 87 = .ok (.ireturn, 1) := by decide +kernel
theorem dX10_look_88 : decode cX10_look 88 = .ok (.aload_n 0, 1) := by decide +kernel
theorem dX10_look_89 : decode cX10_look 89 = .ok (.getfield 147, 3) := by decide +kernel
theorem dX10_look_92 : decode cX10_look 92 = .ok (.ireturn, 1) := by decide +kernel
theorem dX10_look_93 : decode cX10_look 93 = .ok (.aload_n 0, 1) := by decide +kernel
theorem dX10_look_94 : decode cX10_look 94 = .ok (.iload_n 2, 1) := by decide +kernel
theorem dX10_look_95 : decode cX10_look 95 = .ok (.invokevirtual 112, 3) := by decide +kernel
theorem dX10_look_98 : decode cX10_look 98 = .ok (.ifCond .eq 12, 3) := by decide +kernel
theorem dX10_look_101 : decode cX10_look 101 = .ok (.aload_n 0, 1) := by decide +kernel
theorem dX10_look_102 : decode cX10_look 102 = .ok (.getfield 59, 3) := by decide +kernel
theorem dX10_look_105 : decode cX10_look 105 = .ok (.iload_n 2, 1) := by decide +kernel
theorem dX10_look_106 : decode cX10_look 106 = .ok (.iaload, 1) := by decide +kernel
theorem dX10_look_107 : decode cX10_look 107 = .ok (.goto 4, 3) := by decide +kernel
theorem dX10_look_110 : decode cX10_look 110 = .ok (.iconst (-1), 1) := by decide +kernel
theorem dX10_look_111 : decode cX10_look 111 = .ok (.ireturn, 1) := by decide +kernel
theorem dX10_look_112 : decode cX10_look 112 = .ok (.aload_n 0, 1) := by decide +kernel
theorem dX10_look_113 : decode cX10_look 113 = .ok (.iload_n 2, 1) := by decide +kernel
theorem dX10_look_114 : decode cX10_look 114 = .ok (.invokevirtual 112, 3) := by decide +kernel
theorem dX10_look_117 : decode cX10_look 117 = .ok (.ifCond .eq 14, 3) := by decide +kernel
theorem dX10_look_120 : decode cX10_look 120 = .ok (.aload_n 0, 1) := by decide +kernel
theorem dX10_look_121 : decode cX10_look 121 = .ok (.getfield 68, 3) := by decide +kernel
theorem dX10_look_124 : decode cX10_look 124 = .ok (.iconst 2, 1) := by decide +kernel
theorem dX10_look_125 : decode cX10_look 125 = .ok (.iload_n 2, 1) := by decide +kernel
theorem dX10_look_126 : decode cX10_look 126 = .ok (.imul, 1) := by decide +kernel
theorem dX10_look_127 : decode cX10_look 127 = .ok (.iaload, 1) := by decide +kernel
theorem dX10_look_128 : decode cX10_look 128 = .ok (.goto 4, 3) := by decide +kernel
theorem dX10_look_131 : decode cX10_look 131 = .ok (.iconst (-1), 1) := by decide +kernel
theorem dX10_look_132 : decode cX10_look 132 = .ok (.ireturn, 1) := by decide +kernel
theorem dX10_look_133 : decode cX10_look 133 = .ok (.aload_n 0, 1) := by decide +kernel
theorem dX10_look_134 : decode cX10_look 134 = .ok (.iload_n 2, 1) := by decide +kernel
theorem dX10_look_135 : decode cX10_look 135 = .ok (.invokevirtual 112, 3) := by decide +kernel
theorem dX10_look_138 : decode cX10_look 138 = .ok (.ifCond .eq 16, 3) := by decide +kernel
theorem dX10_look_141 : decode cX10_look 141 = .ok (.aload_n 0, 1) := by decide +kernel
theorem dX10_look_142 : decode cX10_look 142 = .ok (.getfield 68, 3) := by decide +kernel
theorem dX10_look_145 : decode cX10_look 145 = .ok (.iconst 2, 1) := by decide +kernel
theorem dX10_look_146 : decode cX10_look 146 = .ok (.iload_n 2, 1) := by decide +kernel
theorem dX10_look_147 : decode cX10_look 147 = .ok (.imul, 1) := by decide +kernel
theorem dX10_look_148 : decode cX10_look 148 = .ok (.iconst 1, 1) := by decide +kernel
theorem dX10_look_149 : decode cX10_look 149 = .ok (.iadd, 1) := by decide +kernel
theorem dX10_look_150 : decode cX10_look 150 = .ok (.iaload, 1) := by decide +kernel
theorem dX10_look_151 : decode cX10_look 151 = .ok (.goto 4, 3) := by decide +kernel
theorem dX10_look_154 : decode cX10_look 154 = .ok (.iconst (-1), 1) := by decide +kernel
theorem dX10_look_155 : decode cX10_look 155 = .ok (.ireturn, 1) := by decide +kernel
theorem dX10_look_156 : decode cX10_look 156 = .ok (.aload_n 0, 1) := by decide +kernel
theorem dX10_look_157 : decode cX10_look 157 = .ok (.getfield 102, 3) := by decide +kernel
theorem dX10_look_160 : decode cX10_look 160 = .ok (.ireturn, 1) := by decide +kernel
theorem dX10_look_161 : decode cX10_look 161 = .ok (.aload_n 0, 1) := by decide +kernel
theorem dX10_look_162 : decode cX10_look 162 = .ok (.getfield 91, 3) := by decide +kernel
theorem dX10_look_165 : decode cX10_look 165 = .ok (.ireturn, 1) := by decide +kernel
theorem dX10_look_166 : decode cX10_look 166 = .ok (.iconst (-1), 1) := by decide +kernel
theorem dX10_look_167 : decode cX10_look 167 = .ok (.ireturn, 1) := by decide +kernel
