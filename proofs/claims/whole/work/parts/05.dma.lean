theorem dX10_init_0 : decode cX10_init 0 = .ok (.aload_n 0, 1) := by decide +kernel
theorem dX10_init_1 : decode cX10_init 1 = .ok (.invokespecial 1, 3) := by decide +kernel
theorem dX10_init_4 : decode cX10_init 4 = .ok (.aload_n 0, 1) := by decide +kernel
theorem dX10_init_5 : decode cX10_init 5 = .ok (.bipush 6, 2) := by decide +kernel
theorem dX10_init_7 : decode cX10_init 7 = .ok (.newarray .int, 2) := by decide +kernel
theorem dX10_init_9 : decode cX10_init 9 = .ok (.putfield 7, 3) := by decide +kernel
theorem dX10_init_12 : decode cX10_init 12 = .ok (.aload_n 0, 1) := by decide +kernel
theorem dX10_init_13 : decode cX10_init 13 = .ok (.bipush 6, 2) := by decide +kernel
theorem dX10_init_15 : decode cX10_init 15 = .ok (.newarray .int, 2) := by decide +kernel
theorem dX10_init_17 : decode cX10_init 17 = .ok (.putfield 13, 3) := by decide +kernel
theorem dX10_init_20 : decode cX10_init 20 = .ok (.aload_n 0, 1) := by decide +kernel
theorem dX10_init_21 : decode cX10_init 21 = .ok (.sipush 200, 3) := by decide +kernel
theorem dX10_init_24 : decode cX10_init 24 = .ok (.newarray .boolean, 2) := by decide +kernel
theorem dX10_init_26 : decode cX10_init 26 = .ok (.putfield 16, 3) := by decide +kernel
theorem dX10_init_29 : decode cX10_init 29 = .ok (.aload_n 0, 1) := by decide +kernel
theorem dX10_init_30 : decode cX10_init 30 = .ok (.bipush 12, 2) := by decide +kernel
theorem dX10_init_32 : decode cX10_init 32 = .ok (.newarray .int, 2) := by decide +kernel
theorem dX10_init_34 : decode cX10_init 34 = .ok (.putfield 20, 3) := by decide +kernel
theorem dX10_init_37 : decode cX10_init 37 = .ok (.aload_n 0, 1) := by decide +kernel
theorem dX10_init_38 : decode cX10_init 38 = .ok (.bipush 12, 2) := by decide +kernel
theorem dX10_init_40 : decode cX10_init 40 = .ok (.newarray .int, 2) := by decide +kernel
theorem dX10_init_42 : decode cX10_init 42 = .ok (.putfield 23, 3) := by decide +kernel
theorem dX10_init_45 : decode cX10_init 45 = .ok (.aload_n 0, 1) := by decide +kernel
theorem dX10_init_46 : decode cX10_init 46 = .ok (.bipush 36, 2) := by decide +kernel
theorem dX10_init_48 : decode cX10_init 48 = .ok (.newarray .int, 2) := by decide +kernel
theorem dX10_init_50 : decode cX10_init 50 = .ok (.putfield 26, 3) := by decide +kernel
theorem dX10_init_53 : decode cX10_init 53 = .ok (.aload_n 0, 1) := by decide +kernel
theorem dX10_init_54 : decode cX10_init 54 = .ok (.sipush 150, 3) := by decide +kernel
theorem dX10_init_57 : decode cX10_init 57 = .ok (.newarray .int, 2) := by decide +kernel
theorem dX10_init_59 : decode cX10_init 59 = .ok (.putfield 29, 3) := by decide +kernel
theorem dX10_init_62 : decode cX10_init 62 = .ok (.aload_n 0, 1) := by decide +kernel
theorem dX10_init_63 : decode cX10_init 63 = .ok (.sipush 150, 3) := by decide +kernel
theorem dX10_init_66 : decode cX10_init 66 = .ok (.newarray .int, 2) := by decide +kernel
theorem dX10_init_68 : decode cX10_init 68 = .ok (.putfield 32, 3) := by decide +kernel
theorem dX10_init_71 : decode cX10_init 71 = .ok (.aload_n 0, 1) := by decide +kernel
theorem dX10_init_72 : decode cX10_init 72 = .ok (.sipush 150, 3) := by decide +kernel
theorem dX10_init_75 : decode cX10_init 75 = .ok (.newarray .int, 2) := by decide +kernel
theorem dX10_init_77 : decode cX10_init 77 = .ok (.putfield 35, 3) := by decide +kernel
theorem dX10_init_80 : decode cX10_init 80 = .ok (.aload_n 0, 1) := by decide +kernel
theorem dX10_init_81 : decode cX10_init 81 = .ok (.sipush 150, 3) := by decide +kernel
theorem dX10_init_84 : decode cX10_init 84 = .ok (.newarray .int, 2) := by decide +kernel
theorem dX10_init_86 : decode cX10_init 86 = .ok (.putfield 38, 3) := by decide +kernel
theorem dX10_init_89 : decode cX10_init 89 = .ok (.aload_n 0, 1) := by decide +kernel
theorem dX10_init_90 : decode cX10_init 90 = .ok (.sipush 150, 3) := by decide +kernel
theorem dX10_init_93 : decode cX10_init 93 = .ok (.newarray .int, 2) := by decide +kernel
theorem dX10_init_95 : decode cX10_init 95 = .ok (.putfield 41, 3) := by decide +kernel
theorem dX10_init_98 : decode cX10_init 98 = .ok (.aload_n 0, 1) := by decide +kernel
theorem dX10_init_99 : decode cX10_init 99 = .ok (.sipush 150, 3) := by decide +kernel
theorem dX10_init_102 : decode cX10_init 102 = .ok (.newarray .int, 2) := by decide +kernel
theorem dX10_init_104 : decode cX10_init 104 = .ok (.putfield 44, 3) := by decide +kernel
theorem dX10_init_107 : decode cX10_init 107 = .ok (.aload_n 0, 1) := by decide +kernel
theorem dX10_init_108 : decode cX10_init 108 = .ok (.sipush 150, 3) := by decide +kernel
theorem dX10_init_111 : decode cX10_init 111 = .ok (.newarray .int, 2) := by decide +kernel
theorem dX10_init_113 : decode cX10_init 113 = .ok (.putfield 47, 3) := by decide +kernel
theorem dX10_init_116 : decode cX10_init 116 = .ok (.aload_n 0, 1) := by decide +kernel
theorem dX10_init_117 : decode cX10_init 117 = .ok (.sipush 150, 3) := by decide +kernel
theorem dX10_init_120 : decode cX10_init 120 = .ok (.newarray .int, 2) := by decide +kernel
theorem dX10_init_122 : decode cX10_init 122 = .ok (.putfield 50, 3) := by decide +kernel
theorem dX10_init_125 : decode cX10_init 125 = .ok (.aload_n 0, 1) := by decide +kernel
theorem dX10_init_126 : decode cX10_init 126 = .ok (.sipush 150, 3) := by decide +kernel
theorem dX10_init_129 : decode cX10_init 129 = .ok (.newarray .int, 2) := by decide +kernel
theorem dX10_init_131 : decode cX10_init 131 = .ok (.putfield 53, 3) := by decide +kernel
theorem dX10_init_134 : decode cX10_init 134 = .ok (.aload_n 0, 1) := by decide +kernel
theorem dX10_init_135 : decode cX10_init 135 = .ok (.sipush 150, 3) := by decide +kernel
theorem dX10_init_138 : decode cX10_init 138 = .ok (.newarray .int, 2) := by decide +kernel
theorem dX10_init_140 : decode cX10_init 140 = .ok (.putfield 56, 3) := by decide +kernel
theorem dX10_init_143 : decode cX10_init 143 = .ok (.aload_n 0, 1) := by decide +kernel
theorem dX10_init_144 : decode cX10_init 144 = .ok (.bipush 6, 2) := by decide +kernel
theorem dX10_init_146 : decode cX10_init 146 = .ok (.newarray .int, 2) := by decide +kernel
theorem dX10_init_148 : decode cX10_init 148 = .ok (.putfield 59, 3) := by decide +kernel
theorem dX10_init_151 : decode cX10_init 151 = .ok (.aload_n 0, 1) := by decide +kernel
theorem dX10_init_152 : decode cX10_init 152 = .ok (.bipush 6, 2) := by decide +kernel
theorem dX10_init_154 : decode cX10_init 154 = .ok (.newarray .int, 2) := by decide +kernel
theorem dX10_init_156 : decode cX10_init 156 = .ok (.putfield 62, 3) := by decide +kernel
theorem dX10_init_159 : decode cX10_init 159 = .ok (.aload_n 0, 1) := by decide +kernel
theorem dX10_init_160 : decode cX10_init 160 = .ok (.bipush 6, 2) := by decide +kernel
theorem dX10_init_162 : decode cX10_init 162 = .ok (.newarray .int, 2) := by decide +kernel
theorem dX10_init_164 : decode cX10_init 164 = .ok (.putfield 65, 3) := by decide +kernel
theorem dX10_init_167 : decode cX10_init 167 = .ok (.aload_n 0, 1) := by decide +kernel
theorem dX10_init_168 : decode cX10_init 168 = .ok (.bipush 12, 2) := by decide +kernel
theorem dX10_init_170 : decode cX10_init 170 = .ok (.newarray .int, 2) := by decide +kernel
theorem dX10_init_172 : decode cX10_init 172 = .ok (.putfield 68, 3) := by decide +kernel
theorem dX10_init_175 : decode cX10_init 175 = .ok (.aload_n 0, 1) := by decide +kernel
theorem dX10_init_176 : decode cX10_init 176 = .ok (.bipush 12, 2) := by decide +kernel
theorem dX10_init_178 : decode cX10_init 178 = .ok (.newarray .int, 2) := by decide +kernel
theorem dX10_init_180 : decode cX10_init 180 = .ok (.putfield 71, 3) := by decide +kernel
theorem dX10_init_183 : decode cX10_init 183 = .ok (.aload_n 0, 1) := by decide +kernel
theorem dX10_init_184 : decode cX10_init 184 = .ok (.bipush 6, 2) := by decide +kernel
theorem dX10_init_186 : decode cX10_init 186 = .ok (.newarray .int, 2) := by decide +kernel
theorem dX10_init_188 : decode cX10_init 188 = .ok (.putfield 74, 3) := by decide +kernel
theorem dX10_init_191 : decode cX10_init 191 = .ok (.aload_n 0, 1) := by decide +kernel
theorem dX10_init_192 : decode cX10_init 192 = .ok (.iconst 3, 1) := by decide +kernel
theorem dX10_init_193 : decode cX10_init 193 = .ok (.newarray .int, 2) := by decide +kernel
theorem dX10_init_195 : decode cX10_init 195 = .ok (.putfield 77, 3) := by decide +kernel
theorem dX10_init_198 : decode cX10_init 198 = .ok (.aload_n 0, 1) := by decide +kernel
theorem dX10_init_199 : decode cX10_init 199 = .ok (.bipush 12, 2) := by decide +kernel
theorem dX10_init_201 : decode cX10_init 201 = .ok (.newarray .int, 2) := by decide +kernel
theorem dX10_init_203 : decode cX10_init 203 = .ok (.putfield 80, 3) := by decide +kernel
theorem dX10_init_206 : decode cX10_init 206 = .ok (.aload_n 0, 1) := by decide +kernel
theorem dX10_init_207 : decode cX10_init 207 = .ok (.iload_n 1, 1) := by decide +kernel
theorem dX10_init_208 : decode cX10_init 208 = .ok (.ifCond .ge 7, 3) := by decide +kernel
theorem dX10_init_211 : decode cX10_init 211 = .ok (.iconst 0, 1) := by decide +kernel
theorem dX10_init_212 : decode cX10_init 212 = .ok (.goto 15, 3) := by decide +kernel
theorem dX10_init_215 : decode cX10_init 215 = .ok (.iload_n 1, 1) := by decide +kernel
theorem dX10_init_216 : decode cX10_init 216 = .ok (.bipush 100, 2) := by decide +kernel
theorem dX10_init_218 : decode cX10_init 218 = .ok (.if_icmp .le 8, 3) := by decide +kernel
theorem dX10_init_221 : decode cX10_init 221 = .ok (.bipush 100, 2) := by decide +kernel
theorem dX10_init_223 : decode cX10_init 223 = .ok (.goto 4, 3) := by decide +kernel
theorem dX10_init_226 : decode cX10_init 226 = .ok (.iload_n 1, 1) := by decide +kernel
theorem dX10_init_227 : decode cX10_init 227 = .ok (.putfield 83, 3) := by decide +kernel
theorem dX10_init_230 : decode cX10_init 230 = .ok (.iconst 0, 1) := by decide +kernel
theorem dX10_init_231 : decode cX10_init 231 = .ok (.istore_n 2, 1) := by decide +kernel
theorem dX10_init_232 : decode cX10_init 232 = .ok (.iload_n 2, 1) := by decide +kernel
theorem dX10_init_233 : decode cX10_init 233 = .ok (.bipush 12, 2) := by decide +kernel
theorem dX10_init_235 : decode cX10_init 235 = .ok (.if_icmp .ge 23, 3) := by decide +kernel
theorem dX10_init_238 : decode cX10_init 238 = .ok (.aload_n 0, 1) := by decide +kernel
theorem dX10_init_239 : decode cX10_init 239 = .ok (.getfield 20, 3) := by decide +kernel
theorem dX10_init_242 : decode cX10_init 242 = .ok (.iload_n 2, 1) := by decide +kernel
theorem dX10_init_243 : decode cX10_init 243 = .ok (.iconst (-1), 1) := by decide +kernel
theorem dX10_init_244 : decode cX10_init 244 = .ok (.iastore, 1) := by decide +kernel
theorem dX10_init_245 : decode cX10_init 245 = .ok (.aload_n 0, 1) := by decide +kernel
theorem dX10_init_246 : decode cX10_init 246 = .ok (.getfield 68, 3) := by decide +kernel
theorem dX10_init_249 : decode cX10_init 249 = .ok (.iload_n 2, 1) := by decide +kernel
theorem dX10_init_250 : decode cX10_init 250 = .ok (.iconst (-1), 1) := by decide +kernel
theorem dX10_init_251 : decode cX10_init 251 = .ok (.iastore, 1) := by decide +kernel
theorem dX10_init_252 : decode cX10_init 252 = .ok (.iinc 2 1, 3) := by decide +kernel
theorem dX10_init_255 : decode cX10_init 255 = .ok (.goto (-23), 3) := by decide +kernel
theorem dX10_init_258 : decode cX10_init 258 = .ok (.iconst 0, 1) := by decide +kernel
theorem dX10_init_259 : decode cX10_init 259 = .ok (.istore_n 2, 1) := by decide +kernel
theorem dX10_init_260 : decode cX10_init 260 = .ok (.iload_n 2, 1) := by decide +kernel
theorem dX10_init_261 : decode cX10_init 261 = .ok (.bipush 6, 2) := by decide +kernel
theorem dX10_init_263 : decode cX10_init 263 = .ok (.if_icmp .ge 16, 3) := by decide +kernel
theorem dX10_init_266 : decode cX10_init 266 = .ok (.aload_n 0, 1) := by decide +kernel
theorem dX10_init_267 : decode cX10_init 267 = .ok (.getfield 13, 3) := by decide +kernel
theorem dX10_init_270 : decode cX10_init 270 = .ok (.iload_n 2, 1) := by decide +kernel
theorem dX10_init_271 : decode cX10_init 271 = .ok (.iconst (-1), 1) := by decide +kernel
theorem dX10_init_272 : decode cX10_init 272 = .ok (.iastore, 1) := by decide +kernel
theorem dX10_init_273 : decode cX10_init 273 = .ok (.iinc 2 1, 3) := by decide +kernel
theorem dX10_init_276 : decode cX10_init 276 = .ok (.goto (-16), 3) := by decide +kernel
theorem dX10_init_279 : decode cX10_init 279 = .ok (.return_, 1) := by decide +kernel
theorem dX10_in_0 : decode cX10_in 0 = .ok (.iload_n 0, 1) := by decide +kernel
theorem dX10_in_1 : decode cX10_in 1 = .ok (.iload_n 1, 1) := by decide +kernel
theorem dX10_in_2 : decode cX10_in 2 = .ok (.if_icmp .lt 12, 3) := by decide +kernel
theorem dX10_in_5 : decode cX10_in 5 = .ok (.iload_n 0, 1) := by decide +kernel
theorem dX10_in_6 : decode cX10_in 6 = .ok (.iload_n 2, 1) := by decide +kernel
theorem dX10_in_7 : decode cX10_in 7 = .ok (.if_icmp .gt 7, 3) := by decide +kernel
theorem dX10_in_10 : decode cX10_in 10 = .ok (.iconst 1, 1) := by decide +kernel
theorem dX10_in_11 : decode cX10_in 11 = .ok (.goto 4, 3) := by decide +kernel
theorem dX10_in_14 : decode cX10_in 14 = .ok (.iconst 0, 1) := by decide +kernel
theorem dX10_in_15 : decode cX10_in 15 = .ok (.ireturn, 1) := by decide +kernel
theorem dX10_booked_0 : decode cX10_booked 0 = .ok (.iload_n 1, 1) := by decide +kernel
theorem dX10_booked_1 : decode cX10_booked 1 = .ok (.iconst 0, 1) := by decide +kernel
theorem dX10_booked_2 : decode cX10_booked 2 = .ok (.iconst 5, 1) := by decide +kernel
theorem dX10_booked_3 : decode cX10_booked 3 = .ok (.invokestatic 87, 3) := by decide +kernel
theorem dX10_booked_6 : decode cX10_booked 6 = .ok (.ifCond .eq 16, 3) := by decide +kernel
theorem dX10_booked_9 : decode cX10_booked 9 = .ok (.aload_n 0, 1) := by decide +kernel
theorem dX10_booked_10 : decode cX10_booked 10 = .ok (.getfield 20, 3) := by decide +kernel
theorem dX10_booked_13 : decode cX10_booked 13 = .ok (.iload_n 1, 1) := by decide +kernel
theorem dX10_booked_14 : decode cX10_booked 14 = .ok (.iaload, 1) := by decide +kernel
theorem dX10_booked_15 : decode cX10_booked 15 = .ok (.ifCond .lt 7, 3) := by decide +kernel
theorem dX10_booked_18 : decode cX10_booked 18 = .ok (.iconst 1, 1) := by decide +kernel
theorem dX10_booked_19 : decode cX10_booked 19 = .ok (.goto 4, 3) := by decide +kernel
theorem dX10_booked_22 : decode cX10_booked 22 = .ok (.iconst 0, 1) := by decide +kernel
theorem dX10_booked_23 : decode cX10_booked 23 = .ok (.ireturn, 1) := by decide +kernel
theorem dX10_user_0 : decode cX10_user 0 = .ok (.iload_n 1, 1) := by decide +kernel
theorem dX10_user_1 : decode cX10_user 1 = .ok (.iconst 2, 1) := by decide +kernel
theorem dX10_user_2 : decode cX10_user 2 = .ok (.iconst 5, 1) := by decide +kernel
theorem dX10_user_3 : decode cX10_user 3 = .ok (.invokestatic 87, 3) := by decide +kernel
theorem dX10_user_6 : decode cX10_user 6 = .ok (.ireturn, 1) := by decide +kernel
theorem dX10_near_0 : decode cX10_near 0 = .ok (.iload_n 1, 1) := by decide +kernel
theorem dX10_near_1 : decode cX10_near 1 = .ok (.i2l, 1) := by decide +kernel
theorem dX10_near_2 : decode cX10_near 2 = .ok (.iload_n 2, 1) := by decide +kernel
theorem dX10_near_3 : decode cX10_near 3 = .ok (.i2l, 1) := by decide +kernel
theorem dX10_near_4 : decode cX10_near 4 = .ok (.lsub, 1) := by decide +kernel
theorem dX10_near_5 : decode cX10_near 5 = .ok (.lstore_n 3, 1) := by decide +kernel
theorem dX10_near_6 : decode cX10_near 6 = .ok (.lload_n 3, 1) := by decide +kernel
theorem dX10_near_7 : decode cX10_near 7 = .ok (.aload_n 0, 1) := by decide +kernel
theorem dX10_near_8 : decode cX10_near 8 = .ok (.getfield 83, 3) := by decide +kernel
theorem dX10_near_11 : decode cX10_near 11 = .ok (.i2l, 1) := by decide +kernel
theorem dX10_near_12 : decode cX10_near 12 = .ok (.lcmp, 1) := by decide +kernel
theorem dX10_near_13 : decode cX10_near 13 = .ok (.ifCond .gt 18, 3) := by decide +kernel
theorem dX10_near_16 : decode cX10_near 16 = .ok (.lload_n 3, 1) := by decide +kernel
theorem dX10_near_17 : decode cX10_near 17 = .ok (.aload_n 0, 1) := by decide +kernel
theorem dX10_near_18 : decode cX10_near 18 = .ok (.getfield 83, 3) := by decide +kernel
theorem dX10_near_21 : decode cX10_near 21 = .ok (.ineg, 1) := by decide +kernel
theorem dX10_near_22 : decode cX10_near 22 = .ok (.i2l, 1) := by decide +kernel
theorem dX10_near_23 : decode cX10_near 23 = .ok (.lcmp, 1) := by decide +kernel
theorem dX10_near_24 : decode cX10_near 24 = .ok (.ifCond .lt 7, 3) := by decide +kernel
theorem dX10_near_27 : decode cX10_near 27 = .ok (.iconst 1, 1) := by decide +kernel
theorem dX10_near_28 : decode cX10_near 28 = .ok (.goto 4, 3) := by decide +kernel
theorem dX10_near_31 : decode cX10_near 31 = .ok (.iconst 0, 1) := by decide +kernel
theorem dX10_near_32 : decode cX10_near 32 = .ok (.ireturn, 1) := by decide +kernel
theorem dX10_enrol_0 : decode cX10_enrol 0 = .ok (.iload_n 1, 1) := by decide +kernel
theorem dX10_enrol_1 : decode cX10_enrol 1 = .ok (.iconst 0, 1) := by decide +kernel
theorem dX10_enrol_2 : decode cX10_enrol 2 = .ok (.iconst 5, 1) := by decide +kernel
theorem dX10_enrol_3 : decode cX10_enrol 3 = .ok (.invokestatic 87, 3) := by decide +kernel
theorem dX10_enrol_6 : decode cX10_enrol 6 = .ok (.ifCond .ne 5, 3) := by decide +kernel
theorem dX10_enrol_9 : decode cX10_enrol 9 = .ok (.iconst (-1), 1) := by decide +kernel
theorem dX10_enrol_10 : decode cX10_enrol 10 = .ok (.ireturn, 1) := by decide +kernel
theorem dX10_enrol_11 : decode cX10_enrol 11 = .ok (.aload_n 0, 1) := by decide +kernel
theorem dX10_enrol_12 : decode cX10_enrol 12 = .ok (.getfield 91, 3) := by decide +kernel
theorem dX10_enrol_15 : decode cX10_enrol 15 = .ok (.sipush 200, 3) := by decide +kernel
theorem dX10_enrol_18 : decode cX10_enrol 18 = .ok (.if_icmp .ne 6, 3) := by decide +kernel
theorem dX10_enrol_21 : decode cX10_enrol 21 = .ok (.bipush (-7), 2) := by decide +kernel
theorem dX10_enrol_23 : decode cX10_enrol 23 = .ok (.ireturn, 1) := by decide +kernel
theorem dX10_enrol_24 : decode cX10_enrol 24 = .ok (.aload_n 0, 1) := by decide +kernel
theorem dX10_enrol_25 : decode cX10_enrol 25 = .ok (.getfield 20, 3) := by decide +kernel
theorem dX10_enrol_28 : decode cX10_enrol 28 = .ok (.iload_n 1, 1) := by decide +kernel
theorem dX10_enrol_29 : decode cX10_enrol 29 = .ok (.iaload, 1) := by decide +kernel
theorem dX10_enrol_30 : decode cX10_enrol 30 = .ok (.ifCond .ge 35, 3) := by decide +kernel
theorem dX10_enrol_33 : decode cX10_enrol 33 = .ok (.aload_n 0, 1) := by decide +kernel
theorem dX10_enrol_34 : decode cX10_enrol 34 = .ok (.getfield 23, 3) := by decide +kernel
theorem dX10_enrol_37 : decode cX10_enrol 37 = .ok (.iload_n 1, 1) := by decide +kernel
theorem dX10_enrol_38 : decode cX10_enrol 38 = .ok (.bipush 20, 2) := by decide +kernel
theorem dX10_enrol_40 : decode cX10_enrol 40 = .ok (.iastore, 1) := by decide +kernel
theorem dX10_enrol_41 : decode cX10_enrol 41 = .ok (.iconst 0, 1) := by decide +kernel
theorem dX10_enrol_42 : decode cX10_enrol 42 = .ok (.istore_n 2, 1) := by decide +kernel
theorem dX10_enrol_43 : decode cX10_enrol 43 = .ok (.iload_n 2, 1) := by decide +kernel
theorem dX10_enrol_44 : decode cX10_enrol 44 = .ok (.iconst 3, 1) := by decide +kernel
theorem dX10_enrol_45 : decode cX10_enrol 45 = .ok (.if_icmp .ge 20, 3) := by decide +kernel
theorem dX10_enrol_48 : decode cX10_enrol 48 = .ok (.aload_n 0, 1) := by decide +kernel
theorem dX10_enrol_49 : decode cX10_enrol 49 = .ok (.getfield 26, 3) := by decide +kernel
theorem dX10_enrol_52 : decode cX10_enrol 52 = .ok (.iconst 3, 1) := by decide +kernel
theorem dX10_enrol_53 : decode cX10_enrol 53 = .ok (.iload_n 1, 1) := by decide +kernel
theorem dX10_enrol_54 : decode cX10_enrol 54 = .ok (.imul, 1) := by decide +kernel
theorem dX10_enrol_55 : decode cX10_enrol 55 = .ok (.iload_n 2, 1) := by decide +kernel
theorem dX10_enrol_56 : decode cX10_enrol 56 = .ok (.iadd, 1) := by decide +kernel
theorem dX10_enrol_57 : decode cX10_enrol 57 = .ok (.iconst 0, 1) := by decide +kernel
theorem dX10_enrol_58 : decode cX10_enrol 58 = .ok (.iastore, 1) := by decide +kernel
theorem dX10_enrol_59 : decode cX10_enrol 59 = .ok (.iinc 2 1, 3) := by decide +kernel
theorem dX10_enrol_62 : decode cX10_enrol 62 = .ok (.goto (-19), 3) := by decide +kernel
theorem dX10_enrol_65 : decode cX10_enrol 65 = .ok (.aload_n 0, 1) := by decide +kernel
theorem dX10_enrol_66 : decode cX10_enrol 66 = .ok (.getfield 20, 3) := by decide +kernel
theorem dX10_enrol_69 : decode cX10_enrol 69 = .ok (.iload_n 1, 1) := by decide +kernel
theorem dX10_enrol_70 : decode cX10_enrol 70 = .ok (.aload_n 0, 1) := by decide +kernel
theorem dX10_enrol_71 : decode cX10_enrol 71 = .ok (.getfield 91, 3) := by decide +kernel
theorem dX10_enrol_74 : decode cX10_enrol 74 = .ok (.iastore, 1) := by decide +kernel
theorem dX10_enrol_75 : decode cX10_enrol 75 = .ok (.aload_n 0, 1) := by decide +kernel
theorem dX10_enrol_76 : decode cX10_enrol 76 = .ok (.getfield 13, 3) := by decide +kernel
theorem dX10_enrol_79 : decode cX10_enrol 79 = .ok (.iload_n 1, 1) := by decide +kernel
theorem dX10_enrol_80 : decode cX10_enrol 80 = .ok (.aload_n 0, 1) := by decide +kernel
theorem dX10_enrol_81 : decode cX10_enrol 81 = .ok (.getfield 91, 3) := by decide +kernel
theorem dX10_enrol_84 : decode cX10_enrol 84 = .ok (.iastore, 1) := by decide +kernel
theorem dX10_enrol_85 : decode cX10_enrol 85 = .ok (.aload_n 0, 1) := by decide +kernel
theorem dX10_enrol_86 : decode cX10_enrol 86 = .ok (.dup, 1) := by decide +kernel
theorem dX10_enrol_87 : decode cX10_enrol 87 = .ok (.getfield 91, 3) := by decide +kernel
theorem dX10_enrol_90 : decode cX10_enrol 90 = .ok (.iconst 1, 1) := by decide +kernel
theorem dX10_enrol_91 : decode cX10_enrol 91 = .ok (.iadd, 1) := by decide +kernel
theorem dX10_enrol_92 : decode cX10_enrol 92 = .ok (.putfield 91, 3) := by decide +kernel
theorem dX10_enrol_95 : decode cX10_enrol 95 = .ok (.aload_n 0, 1) := by decide +kernel
theorem dX10_enrol_96 : decode cX10_enrol 96 = .ok (.getfield 91, 3) := by decide +kernel
theorem dX10_enrol_99 : decode cX10_enrol 99 = .ok (.iconst 1, 1) := by decide +kernel
theorem dX10_enrol_100 : decode cX10_enrol 100 = .ok (.isub, 1) := by decide +kernel
theorem dX10_enrol_101 : decode cX10_enrol 101 = .ok (.ireturn, 1) := by decide +kernel
theorem dX10_remove_0 : decode cX10_remove 0 = .ok (.aload_n 0, 1) := by decide +kernel
theorem dX10_remove_1 : decode cX10_remove 1 = .ok (.iload_n 1, 1) := by decide +kernel
theorem dX10_remove_2 : decode cX10_remove 2 = .ok (.invokevirtual 94, 3) := by decide +kernel
theorem dX10_remove_5 : decode cX10_remove 5 = .ok (.istore_n 2, 1) := by decide +kernel
theorem dX10_remove_6 : decode cX10_remove 6 = .ok (.iload_n 2, 1) := by decide +kernel
theorem dX10_remove_7 : decode cX10_remove 7 = .ok (.ifCond .eq 10, 3) := by decide +kernel
theorem dX10_remove_10 : decode cX10_remove 10 = .ok (.aload_n 0, 1) := by decide +kernel
theorem dX10_remove_11 : decode cX10_remove 11 = .ok (.getfield 20, 3) := by decide +kernel
theorem dX10_remove_14 : decode cX10_remove 14 = .ok (.iload_n 1, 1) := by decide +kernel
theorem dX10_remove_15 : decode cX10_remove 15 = .ok (.iconst (-1), 1) := by decide +kernel
theorem dX10_remove_16 : decode cX10_remove 16 = .ok (.iastore, 1) := by decide +kernel
theorem dX10_remove_17 : decode cX10_remove 17 = .ok (.iload_n 2, 1) := by decide +kernel
theorem dX10_remove_18 : decode cX10_remove 18 = .ok (.ireturn, 1) := by decide +kernel
theorem dX10_limit_0 : decode cX10_limit 0 = .ok (.aload_n 0, 1) := by decide +kernel
theorem dX10_limit_1 : decode cX10_limit 1 = .ok (.iload_n 1, 1) := by decide +kernel
theorem dX10_limit_2 : decode cX10_limit 2 = .ok (.invokevirtual 94, 3) := by decide +kernel
theorem dX10_limit_5 : decode cX10_limit 5 = .ok (.ifCond .eq 14, 3) := by decide +kernel
theorem dX10_limit_8 : decode cX10_limit 8 = .ok (.iload_n 2, 1) := by decide +kernel
theorem dX10_limit_9 : decode cX10_limit 9 = .ok (.iconst 1, 1) := by decide +kernel
theorem dX10_limit_10 : decode cX10_limit 10 = .ok (.sipush 1000, 3) := by decide +kernel
theorem dX10_limit_13 : decode cX10_limit 13 = .ok (.invokestatic 87, 3) := by decide +kernel
theorem dX10_limit_16 : decode cX10_limit 16 = .ok (.ifCond .ne 5, 3) := by decide +kernel
theorem dX10_limit_19 : decode cX10_limit 19 = .ok (.iconst 0, 1) := by decide +kernel
theorem dX10_limit_20 : decode cX10_limit 20 = .ok (.ireturn, 1) := by decide +kernel
theorem dX10_limit_21 : decode cX10_limit 21 = .ok (.aload_n 0, 1) := by decide +kernel
theorem dX10_limit_22 : decode cX10_limit 22 = .ok (.getfield 23, 3) := by decide +kernel
theorem dX10_limit_25 : decode cX10_limit 25 = .ok (.iload_n 1, 1) := by decide +kernel
theorem dX10_limit_26 : decode cX10_limit 26 = .ok (.iload_n 2, 1) := by decide +kernel
theorem dX10_limit_27 : decode cX10_limit 27 = .ok (.iastore, 1) := by decide +kernel
theorem dX10_limit_28 : decode cX10_limit 28 = .ok (.iconst 1, 1) := by decide +kernel
theorem dX10_limit_29 : decode cX10_limit 29 = .ok (.ireturn, 1) := by decide +kernel
theorem dX10_allow_0 : decode cX10_allow 0 = .ok (.aload_n 0, 1) := by decide +kernel
theorem dX10_allow_1 : decode cX10_allow 1 = .ok (.iload_n 1, 1) := by decide +kernel
theorem dX10_allow_2 : decode cX10_allow 2 = .ok (.invokevirtual 94, 3) := by decide +kernel
theorem dX10_allow_5 : decode cX10_allow 5 = .ok (.ifCond .eq 21, 3) := by decide +kernel
theorem dX10_allow_8 : decode cX10_allow 8 = .ok (.iload_n 2, 1) := by decide +kernel
theorem dX10_allow_9 : decode cX10_allow 9 = .ok (.iconst 0, 1) := by decide +kernel
theorem dX10_allow_10 : decode cX10_allow 10 = .ok (.iconst 2, 1) := by decide +kernel
theorem dX10_allow_11 : decode cX10_allow 11 = .ok (.invokestatic 87, 3) := by decide +kernel
theorem dX10_allow_14 : decode cX10_allow 14 = .ok (.ifCond .eq 12, 3) := by decide +kernel
theorem dX10_allow_17 : decode cX10_allow 17 = .ok (.iload_n 3, 1) := by decide +kernel
theorem dX10_allow_18 : decode cX10_allow 18 = .ok (.iconst 0, 1) := by decide +kernel
theorem dX10_allow_19 : decode cX10_allow 19 = .ok (.iconst 3, 1) := by decide +kernel
theorem dX10_allow_20 : decode cX10_allow 20 = .ok (.invokestatic 87, 3) := by decide +kernel
theorem dX10_allow_23 : decode cX10_allow 23 = .ok (.ifCond .ne 5, 3) := by decide +kernel
theorem dX10_allow_26 : decode cX10_allow 26 = .ok (.iconst 0, 1) := by decide +kernel
theorem dX10_allow_27 : decode cX10_allow 27 = .ok (.ireturn, 1) := by decide +kernel
theorem dX10_allow_28 : decode cX10_allow 28 = .ok (.aload_n 0, 1) := by decide +kernel
theorem dX10_allow_29 : decode cX10_allow 29 = .ok (.getfield 26, 3) := by decide +kernel
theorem dX10_allow_32 : decode cX10_allow 32 = .ok (.iconst 3, 1) := by decide +kernel
theorem dX10_allow_33 : decode cX10_allow 33 = .ok (.iload_n 1, 1) := by decide +kernel
theorem dX10_allow_34 : decode cX10_allow 34 = .ok (.imul, 1) := by decide +kernel
theorem dX10_allow_35 : decode cX10_allow 35 = .ok (.iload_n 2, 1) := by decide +kernel
theorem dX10_allow_36 : decode cX10_allow 36 = .ok (.iadd, 1) := by decide +kernel
theorem dX10_allow_37 : decode cX10_allow 37 = .ok (.iload_n 3, 1) := by decide +kernel
theorem dX10_allow_38 : decode cX10_allow 38 = .ok (.iastore, 1) := by decide +kernel
theorem dX10_allow_39 : decode cX10_allow 39 = .ok (.iconst 1, 1) := by decide +kernel
theorem dX10_allow_40 : decode cX10_allow 40 = .ok (.ireturn, 1) := by decide +kernel
theorem dX10_copyBook_0 : decode cX10_copyBook 0 = .ok (.iconst 0, 1) := by decide +kernel
theorem dX10_copyBook_1 : decode cX10_copyBook 1 = .ok (.istore_n 3, 1) := by decide +kernel
theorem dX10_copyBook_2 : decode cX10_copyBook 2 = .ok (.iconst 0, 1) := by decide +kernel
theorem dX10_copyBook_3 : decode cX10_copyBook 3 = .ok (.istore 4, 2) := by decide +kernel
theorem dX10_copyBook_5 : decode cX10_copyBook 5 = .ok (.iload 4, 2) := by decide +kernel
theorem dX10_copyBook_7 : decode cX10_copyBook 7 = .ok (.bipush 6, 2) := by decide +kernel
theorem dX10_copyBook_9 : decode cX10_copyBook 9 = .ok (.if_icmp .ge 108, 3) := by decide +kernel
theorem dX10_copyBook_12 : decode cX10_copyBook 12 = .ok (.aload_n 0, 1) := by decide +kernel
theorem dX10_copyBook_13 : decode cX10_copyBook 13 = .ok (.getfield 20, 3) := by decide +kernel
theorem dX10_copyBook_16 : decode cX10_copyBook 16 = .ok (.iload_n 2, 1) := by decide +kernel
theorem dX10_copyBook_17 : decode cX10_copyBook 17 = .ok (.iload 4, 2) := by decide +kernel
theorem dX10_copyBook_19 : decode cX10_copyBook 19 = .ok (.iadd, 1) := by decide +kernel
theorem dX10_copyBook_20 : decode cX10_copyBook 20 = .ok (.aload_n 0, 1) := by decide +kernel
theorem dX10_copyBook_21 : decode cX10_copyBook 21 = .ok (.getfield 20, 3) := by decide +kernel
theorem dX10_copyBook_24 : decode cX10_copyBook 24 = .ok (.iload_n 1, 1) := by decide +kernel
theorem dX10_copyBook_25 : decode cX10_copyBook 25 = .ok (.iload 4, 2) := by decide +kernel
theorem dX10_copyBook_27 : decode cX10_copyBook 27 = .ok (.iadd, 1) := by decide +kernel
theorem dX10_copyBook_28 : decode cX10_copyBook 28 = .ok (.iaload, 1) := by decide +kernel
theorem dX10_copyBook_29 : decode cX10_copyBook 29 = .ok (.iastore, 1) := by decide +kernel
theorem dX10_copyBook_30 : decode cX10_copyBook 30 = .ok (.aload_n 0, 1) := by decide +kernel
theorem dX10_copyBook_31 : decode cX10_copyBook 31 = .ok (.getfield 23, 3) := by decide +kernel
theorem dX10_copyBook_34 : decode cX10_copyBook 34 = .ok (.iload_n 2, 1) := by decide +kernel
theorem dX10_copyBook_35 : decode cX10_copyBook 35 = .ok (.iload 4, 2) := by decide +kernel
theorem dX10_copyBook_37 : decode cX10_copyBook 37 = .ok (.iadd, 1) := by decide +kernel
theorem dX10_copyBook_38 : decode cX10_copyBook 38 = .ok (.aload_n 0, 1) := by decide +kernel
theorem dX10_copyBook_39 : decode cX10_copyBook 39 = .ok (.getfield 23, 3) := by decide +kernel
theorem dX10_copyBook_42 : decode cX10_copyBook 42 = .ok (.iload_n 1, 1) := by decide +kernel
theorem dX10_copyBook_43 : decode cX10_copyBook 43 = .ok (.iload 4, 2) := by decide +kernel
theorem dX10_copyBook_45 : decode cX10_copyBook 45 = .ok (.iadd, 1) := by decide +kernel
theorem dX10_copyBook_46 : decode cX10_copyBook 46 = .ok (.iaload, 1) := by decide +kernel
theorem dX10_copyBook_47 : decode cX10_copyBook 47 = .ok (.iastore, 1) := by decide +kernel
theorem dX10_copyBook_48 : decode cX10_copyBook 48 = .ok (.iconst 0, 1) := by decide +kernel
theorem dX10_copyBook_49 : decode cX10_copyBook 49 = .ok (.istore 5, 2) := by decide +kernel
theorem dX10_copyBook_51 : decode cX10_copyBook 51 = .ok (.iload 5, 2) := by decide +kernel
theorem dX10_copyBook_53 : decode cX10_copyBook 53 = .ok (.iconst 3, 1) := by decide +kernel
theorem dX10_copyBook_54 : decode cX10_copyBook 54 = .ok (.if_icmp .ge 37, 3) := by decide +kernel
theorem dX10_copyBook_57 : decode cX10_copyBook 57 = .ok (.aload_n 0, 1) := by decide +kernel
theorem dX10_copyBook_58 : decode cX10_copyBook 58 = .ok (.getfield 26, 3) := by decide +kernel
theorem dX10_copyBook_61 : decode cX10_copyBook 61 = .ok (.iconst 3, 1) := by decide +kernel
theorem dX10_copyBook_62 : decode cX10_copyBook 62 = .ok (.iload_n 2, 1) := by decide +kernel
theorem dX10_copyBook_63 : decode cX10_copyBook 63 = .ok (.iload 4, 2) := by decide +kernel
theorem dX10_copyBook_65 : decode cX10_copyBook 65 = .ok (.iadd, 1) := by decide +kernel
theorem dX10_copyBook_66 : decode cX10_copyBook 66 = .ok (.imul, 1) := by decide +kernel
theorem dX10_copyBook_67 : decode cX10_copyBook 67 = .ok (.iload 5, 2) := by decide +kernel
theorem dX10_copyBook_69 : decode cX10_copyBook 69 = .ok (.iadd, 1) := by decide +kernel
theorem dX10_copyBook_70 : decode cX10_copyBook 70 = .ok (.aload_n 0, 1) := by decide +kernel
theorem dX10_copyBook_71 : decode cX10_copyBook 71 = .ok (.getfield 26, 3) := by decide +kernel
theorem dX10_copyBook_74 : decode cX10_copyBook 74 = .ok (.iconst 3, 1) := by decide +kernel
theorem dX10_copyBook_75 : decode cX10_copyBook 75 = .ok (.iload_n 1, 1) := by decide +kernel
theorem dX10_copyBook_76 : decode cX10_copyBook 76 = .ok (.iload 4, 2) := by decide +kernel
theorem dX10_copyBook_78 : decode cX10_copyBook 78 = .ok (.iadd, 1) := by decide +kernel
theorem dX10_copyBook_79 : decode cX10_copyBook 79 = .ok (.imul, 1) := by decide +kernel
theorem dX10_copyBook_80 : decode cX10_copyBook 80 = .ok (.iload 5, 2) := by decide +kernel
theorem dX10_copyBook_82 : decode cX10_copyBook 82 = .ok (.iadd, 1) := by decide +kernel
theorem dX10_copyBook_83 : decode cX10_copyBook 83 = .ok (.iaload, 1) := by decide +kernel
theorem dX10_copyBook_84 : decode cX10_copyBook 84 = .ok (.iastore, 1) := by decide +kernel
theorem dX10_copyBook_85 : decode cX10_copyBook 85 = .ok (.iinc 5 1, 3) := by decide +kernel
theorem dX10_copyBook_88 : decode cX10_copyBook 88 = .ok (.goto (-37), 3) := by decide +kernel
theorem dX10_copyBook_91 : decode cX10_copyBook 91 = .ok (.aload_n 0, 1) := by decide +kernel
theorem dX10_copyBook_92 : decode cX10_copyBook 92 = .ok (.getfield 20, 3) := by decide +kernel
theorem dX10_copyBook_95 : decode cX10_copyBook 95 = .ok (.iload_n 1, 1) := by decide +kernel
theorem dX10_copyBook_96 : decode cX10_copyBook 96 = .ok (.iload 4, 2) := by decide +kernel
theorem dX10_copyBook_98 : decode cX10_copyBook 98 = .ok (.iadd, 1) := by decide +kernel
theorem dX10_copyBook_99 : decode cX10_copyBook 99 = .ok (.iaload, 1) := by decide +kernel
theorem dX10_copyBook_100 : decode cX10_copyBook 100 = .ok (.ifCond .lt 9, 3) := by decide +kernel
theorem dX10_copyBook_103 : decode cX10_copyBook 103 = .ok (.iload_n 3, 1) := by decide +kernel
theorem dX10_copyBook_104 : decode cX10_copyBook 104 = .ok (.iconst 1, 1) := by decide +kernel
theorem dX10_copyBook_105 : decode cX10_copyBook 105 = .ok (.iadd, 1) := by decide +kernel
theorem dX10_copyBook_106 : decode cX10_copyBook 106 = .ok (.goto 4, 3) := by decide +kernel
theorem dX10_copyBook_109 : decode cX10_copyBook 109 = .ok (.iload_n 3, 1) := by decide +kernel
theorem dX10_copyBook_110 : decode cX10_copyBook 110 = .ok (.istore_n 3, 1) := by decide +kernel
theorem dX10_copyBook_111 : decode cX10_copyBook 111 = .ok (.iinc 4 1, 3) := by decide +kernel
theorem dX10_copyBook_114 : decode cX10_copyBook 114 = .ok (.goto (-109), 3) := by decide +kernel
theorem dX10_copyBook_117 : decode cX10_copyBook 117 = .ok (.iload_n 3, 1) := by decide +kernel
theorem dX10_copyBook_118 : decode cX10_copyBook 118 = .ok (.ireturn, 1) := by decide +kernel
theorem dX10_save_0 : decode cX10_save 0 = .ok (.aload_n 0, 1) := by decide +kernel
theorem dX10_save_1 : decode cX10_save 1 = .ok (.iconst 0, 1) := by decide +kernel
theorem dX10_save_2 : decode cX10_save 2 = .ok (.bipush 6, 2) := by decide +kernel
theorem dX10_save_4 : decode cX10_save 4 = .ok (.invokevirtual 98, 3) := by decide +kernel
theorem dX10_save_7 : decode cX10_save 7 = .ok (.ireturn, 1) := by decide +kernel
theorem dX10_crash_0 : decode cX10_crash 0 = .ok (.aload_n 0, 1) := by decide +kernel
theorem dX10_crash_1 : decode cX10_crash 1 = .ok (.bipush 6, 2) := by decide +kernel
theorem dX10_crash_3 : decode cX10_crash 3 = .ok (.iconst 0, 1) := by decide +kernel
theorem dX10_crash_4 : decode cX10_crash 4 = .ok (.invokevirtual 98, 3) := by decide +kernel
theorem dX10_crash_7 : decode cX10_crash 7 = .ok (.ireturn, 1) := by decide +kernel
theorem dX10_tick_0 : decode cX10_tick 0 = .ok (.iload_n 1, 1) := by decide +kernel
theorem dX10_tick_1 : decode cX10_tick 1 = .ok (.iconst 0, 1) := by decide +kernel
theorem dX10_tick_2 : decode cX10_tick 2 = .ok (.iconst 5, 1) := by decide +kernel
theorem dX10_tick_3 : decode cX10_tick 3 = .ok (.invokestatic 87, 3) := by decide +kernel
theorem dX10_tick_6 : decode cX10_tick 6 = .ok (.ifCond .eq 14, 3) := by decide +kernel
theorem dX10_tick_9 : decode cX10_tick 9 = .ok (.iload_n 2, 1) := by decide +kernel
theorem dX10_tick_10 : decode cX10_tick 10 = .ok (.iconst 1, 1) := by decide +kernel
theorem dX10_tick_11 : decode cX10_tick 11 = .ok (.sipush 1000, 3) := by decide +kernel
theorem dX10_tick_14 : decode cX10_tick 14 = .ok (.invokestatic 87, 3) := by decide +kernel
theorem dX10_tick_17 : decode cX10_tick 17 = .ok (.ifCond .ne 5, 3) := by decide +kernel
theorem dX10_tick_20 : decode cX10_tick 20 = .ok (.iconst (-1), 1) := by decide +kernel
theorem dX10_tick_21 : decode cX10_tick 21 = .ok (.ireturn, 1) := by decide +kernel
theorem dX10_tick_22 : decode cX10_tick 22 = .ok (.aload_n 0, 1) := by decide +kernel
theorem dX10_tick_23 : decode cX10_tick 23 = .ok (.getfield 7, 3) := by decide +kernel
theorem dX10_tick_26 : decode cX10_tick 26 = .ok (.iload_n 1, 1) := by decide +kernel
theorem dX10_tick_27 : decode cX10_tick 27 = .ok (.dup2, 1) := by decide +kernel
theorem dX10_tick_28 : decode cX10_tick 28 = .ok (.iaload, 1) := by decide +kernel
theorem dX10_tick_29 : decode cX10_tick 29 = .ok (.iload_n 2, 1) := by decide +kernel
theorem dX10_tick_30 : decode cX10_tick 30 = .ok (.iadd, 1) := by decide +kernel
theorem dX10_tick_31 : decode cX10_tick 31 = .ok (.iastore, 1) := by decide +kernel
theorem dX10_tick_32 : decode cX10_tick 32 = .ok (.aload_n 0, 1) := by decide +kernel
theorem dX10_tick_33 : decode cX10_tick 33 = .ok (.getfield 7, 3) := by decide +kernel
theorem dX10_tick_36 : decode cX10_tick 36 = .ok (.iload_n 1, 1) := by decide +kernel
theorem dX10_tick_37 : decode cX10_tick 37 = .ok (.iaload, 1) := by decide +kernel
theorem dX10_tick_38 : decode cX10_tick 38 = .ok (.ireturn, 1) := by decide +kernel
theorem dX10_make_0 : decode cX10_make 0 = .ok (.aload_n 0, 1) := by decide +kernel
theorem dX10_make_1 : decode cX10_make 1 = .ok (.getfield 29, 3) := by decide +kernel
theorem dX10_make_4 : decode cX10_make 4 = .ok (.aload_n 0, 1) := by decide +kernel
theorem dX10_make_5 : decode cX10_make 5 = .ok (.getfield 102, 3) := by decide +kernel
theorem dX10_make_8 : decode cX10_make 8 = .ok (.iload_n 1, 1) := by decide +kernel
theorem dX10_make_9 : decode cX10_make 9 = .ok (.iastore, 1) := by decide +kernel
theorem dX10_make_10 : decode cX10_make 10 = .ok (.aload_n 0, 1) := by decide +kernel
theorem dX10_make_11 : decode cX10_make 11 = .ok (.getfield 32, 3) := by decide +kernel
theorem dX10_make_14 : decode cX10_make 14 = .ok (.aload_n 0, 1) := by decide +kernel
theorem dX10_make_15 : decode cX10_make 15 = .ok (.getfield 102, 3) := by decide +kernel
theorem dX10_make_18 : decode cX10_make 18 = .ok (.iload_n 2, 1) := by decide +kernel
theorem dX10_make_19 : decode cX10_make 19 = .ok (.iastore, 1) := by decide +kernel
theorem dX10_make_20 : decode cX10_make 20 = .ok (.aload_n 0, 1) := by decide +kernel
theorem dX10_make_21 : decode cX10_make 21 = .ok (.getfield 35, 3) := by decide +kernel
theorem dX10_make_24 : decode cX10_make 24 = .ok (.aload_n 0, 1) := by decide +kernel
theorem dX10_make_25 : decode cX10_make 25 = .ok (.getfield 102, 3) := by decide +kernel
theorem dX10_make_28 : decode cX10_make 28 = .ok (.iload_n 3, 1) := by decide +kernel
theorem dX10_make_29 : decode cX10_make 29 = .ok (.iastore, 1) := by decide +kernel
theorem dX10_make_30 : decode cX10_make 30 = .ok (.aload_n 0, 1) := by decide +kernel
theorem dX10_make_31 : decode cX10_make 31 = .ok (.getfield 38, 3) := by decide +kernel
theorem dX10_make_34 : decode cX10_make 34 = .ok (.aload_n 0, 1) := by decide +kernel
theorem dX10_make_35 : decode cX10_make 35 = .ok (.getfield 102, 3) := by decide +kernel
theorem dX10_make_38 : decode cX10_make 38 = .ok (.iload 4, 2) := by decide +kernel
theorem dX10_make_40 : decode cX10_make 40 = .ok (.iastore, 1) := by decide +kernel
theorem dX10_make_41 : decode cX10_make 41 = .ok (.aload_n 0, 1) := by decide +kernel
theorem dX10_make_42 : decode cX10_make 42 = .ok (.getfield 41, 3) := by decide +kernel
theorem dX10_make_45 : decode cX10_make 45 = .ok (.aload_n 0, 1) := by decide +kernel
theorem dX10_make_46 : decode cX10_make 46 = .ok (.getfield 102, 3) := by decide +kernel
theorem dX10_make_49 : decode cX10_make 49 = .ok (.iconst 0, 1) := by decide +kernel
theorem dX10_make_50 : decode cX10_make 50 = .ok (.iastore, 1) := by decide +kernel
theorem dX10_make_51 : decode cX10_make 51 = .ok (.aload_n 0, 1) := by decide +kernel
theorem dX10_make_52 : decode cX10_make 52 = .ok (.getfield 44, 3) := by decide +kernel
theorem dX10_make_55 : decode cX10_make 55 = .ok (.aload_n 0, 1) := by decide +kernel
theorem dX10_make_56 : decode cX10_make 56 = .ok (.getfield 102, 3) := by decide +kernel
theorem dX10_make_59 : decode cX10_make 59 = .ok (.iconst 0, 1) := by decide +kernel
theorem dX10_make_60 : decode cX10_make 60 = .ok (.iastore, 1) := by decide +kernel
theorem dX10_make_61 : decode cX10_make 61 = .ok (.aload_n 0, 1) := by decide +kernel
theorem dX10_make_62 : decode cX10_make 62 = .ok (.getfield 47, 3) := by decide +kernel
theorem dX10_make_65 : decode cX10_make 65 = .ok (.aload_n 0, 1) := by decide +kernel
theorem dX10_make_66 : decode cX10_make 66 = .ok (.getfield 102, 3) := by decide +kernel
theorem dX10_make_69 : decode cX10_make 69 = .ok (.iconst 0, 1) := by decide +kernel
theorem dX10_make_70 : decode cX10_make 70 = .ok (.iastore, 1) := by decide +kernel
theorem dX10_make_71 : decode cX10_make 71 = .ok (.aload_n 0, 1) := by decide +kernel
theorem dX10_make_72 : decode cX10_make 72 = .ok (.getfield 50, 3) := by decide +kernel
theorem dX10_make_75 : decode cX10_make 75 = .ok (.aload_n 0, 1) := by decide +kernel
theorem dX10_make_76 : decode cX10_make 76 = .ok (.getfield 102, 3) := by decide +kernel
theorem dX10_make_79 : decode cX10_make 79 = .ok (.iconst 0, 1) := by decide +kernel
theorem dX10_make_80 : decode cX10_make 80 = .ok (.iastore, 1) := by decide +kernel
theorem dX10_make_81 : decode cX10_make 81 = .ok (.aload_n 0, 1) := by decide +kernel
theorem dX10_make_82 : decode cX10_make 82 = .ok (.getfield 53, 3) := by decide +kernel
theorem dX10_make_85 : decode cX10_make 85 = .ok (.aload_n 0, 1) := by decide +kernel
theorem dX10_make_86 : decode cX10_make 86 = .ok (.getfield 102, 3) := by decide +kernel
theorem dX10_make_89 : decode cX10_make 89 = .ok (.iconst 0, 1) := by decide +kernel
theorem dX10_make_90 : decode cX10_make 90 = .ok (.iastore, 1) := by decide +kernel
theorem dX10_make_91 : decode cX10_make 91 = .ok (.aload_n 0, 1) := by decide +kernel
theorem dX10_make_92 : decode cX10_make 92 = .ok (.getfield 56, 3) := by decide +kernel
theorem dX10_make_95 : decode cX10_make 95 = .ok (.aload_n 0, 1) := by decide +kernel
theorem dX10_make_96 : decode cX10_make 96 = .ok (.getfield 102, 3) := by decide +kernel
theorem dX10_make_99 : decode cX10_make 99 = .ok (.iconst 0, 1) := by decide +kernel
theorem dX10_make_100 : decode cX10_make 100 = .ok (.iastore, 1) := by decide +kernel
theorem dX10_make_101 : decode cX10_make 101 = .ok (.aload_n 0, 1) := by decide +kernel
theorem dX10_make_102 : decode cX10_make 102 = .ok (.dup, 1) := by decide +kernel
theorem dX10_make_103 : decode cX10_make 103 = .ok (.getfield 102, 3) := by decide +kernel
theorem dX10_make_106 : decode cX10_make 106 = .ok (.iconst 1, 1) := by decide +kernel
theorem dX10_make_107 : decode cX10_make 107 = .ok (.iadd, 1) := by decide +kernel
theorem dX10_make_108 : decode cX10_make 108 = .ok (.putfield 102, 3) := by decide +kernel
theorem dX10_make_111 : decode cX10_make 111 = .ok (.aload_n 0, 1) := by decide +kernel
theorem dX10_make_112 : decode cX10_make 112 = .ok (.getfield 102, 3) := by decide +kernel
theorem dX10_make_115 : decode cX10_make 115 = .ok (.iconst 1, 1) := by decide +kernel
theorem dX10_make_116 : decode cX10_make 116 = .ok (.isub, 1) := by decide +kernel
theorem dX10_make_117 : decode cX10_make 117 = .ok (.ireturn, 1) := by decide +kernel
theorem dX10_makeProof_0 : decode cX10_makeProof 0 = .ok (.aload_n 0, 1) := by decide +kernel
theorem dX10_makeProof_1 : decode cX10_makeProof 1 = .ok (.iconst 1, 1) := by decide +kernel
theorem dX10_makeProof_2 : decode cX10_makeProof 2 = .ok (.iload_n 1, 1) := by decide +kernel
theorem dX10_makeProof_3 : decode cX10_makeProof 3 = .ok (.iload_n 2, 1) := by decide +kernel
theorem dX10_makeProof_4 : decode cX10_makeProof 4 = .ok (.iconst (-1), 1) := by decide +kernel
theorem dX10_makeProof_5 : decode cX10_makeProof 5 = .ok (.invokevirtual 105, 3) := by decide +kernel
theorem dX10_makeProof_8 : decode cX10_makeProof 8 = .ok (.istore 4, 2) := by decide +kernel
theorem dX10_makeProof_10 : decode cX10_makeProof 10 = .ok (.aload_n 0, 1) := by decide +kernel
theorem dX10_makeProof_11 : decode cX10_makeProof 11 = .ok (.getfield 41, 3) := by decide +kernel
theorem dX10_makeProof_14 : decode cX10_makeProof 14 = .ok (.iload 4, 2) := by decide +kernel
theorem dX10_makeProof_16 : decode cX10_makeProof 16 = .ok (.iload_n 3, 1) := by decide +kernel
theorem dX10_makeProof_17 : decode cX10_makeProof 17 = .ok (.iastore, 1) := by decide +kernel
theorem dX10_makeProof_18 : decode cX10_makeProof 18 = .ok (.iload 4, 2) := by decide +kernel
theorem dX10_makeProof_20 : decode cX10_makeProof 20 = .ok (.ireturn, 1) := by decide +kernel
theorem dX10_makeTicket_0 : decode cX10_makeTicket 0 = .ok (.aload_n 0, 1) := by decide +kernel
theorem dX10_makeTicket_1 : decode cX10_makeTicket 1 = .ok (.iconst 2, 1) := by decide +kernel
theorem dX10_makeTicket_2 : decode cX10_makeTicket 2 = .ok (.iload_n 1, 1) := by decide +kernel
theorem dX10_makeTicket_3 : decode cX10_makeTicket 3 = .ok (.iload_n 2, 1) := by decide +kernel
theorem dX10_makeTicket_4 : decode cX10_makeTicket 4 = .ok (.iload_n 3, 1) := by decide +kernel
theorem dX10_makeTicket_5 : decode cX10_makeTicket 5 = .ok (.invokevirtual 105, 3) := by decide +kernel
theorem dX10_makeTicket_8 : decode cX10_makeTicket 8 = .ok (.istore 7, 2) := by decide +kernel
theorem dX10_makeTicket_10 : decode cX10_makeTicket 10 = .ok (.aload_n 0, 1) := by decide +kernel
theorem dX10_makeTicket_11 : decode cX10_makeTicket 11 = .ok (.getfield 41, 3) := by decide +kernel
theorem dX10_makeTicket_14 : decode cX10_makeTicket 14 = .ok (.iload 7, 2) := by decide +kernel
theorem dX10_makeTicket_16 : decode cX10_makeTicket 16 = .ok (.iload 4, 2) := by decide +kernel
theorem dX10_makeTicket_18 : decode cX10_makeTicket 18 = .ok (.iastore, 1) := by decide +kernel
theorem dX10_makeTicket_19 : decode cX10_makeTicket 19 = .ok (.aload_n 0, 1) := by decide +kernel
theorem dX10_makeTicket_20 : decode cX10_makeTicket 20 = .ok (.getfield 44, 3) := by decide +kernel
theorem dX10_makeTicket_23 : decode cX10_makeTicket 23 = .ok (.iload 7, 2) := by decide +kernel
theorem dX10_makeTicket_25 : decode cX10_makeTicket 25 = .ok (.iload 5, 2) := by decide +kernel
theorem dX10_makeTicket_27 : decode cX10_makeTicket 27 = .ok (.iastore, 1) := by decide +kernel
theorem dX10_makeTicket_28 : decode cX10_makeTicket 28 = .ok (.aload_n 0, 1) := by decide +kernel
theorem dX10_makeTicket_29 : decode cX10_makeTicket 29 = .ok (.getfield 47, 3) := by decide +kernel
theorem dX10_makeTicket_32 : decode cX10_makeTicket 32 = .ok (.iload 7, 2) := by decide +kernel
theorem dX10_makeTicket_34 : decode cX10_makeTicket 34 = .ok (.iload 6, 2) := by decide +kernel
theorem dX10_makeTicket_36 : decode cX10_makeTicket 36 = .ok (.iastore, 1) := by decide +kernel
theorem dX10_makeTicket_37 : decode cX10_makeTicket 37 = .ok (.iload 7, 2) := by decide +kernel
theorem dX10_makeTicket_39 : decode cX10_makeTicket 39 = .ok (.ireturn, 1) := by decide +kernel
theorem dX10_makePart_0 : decode cX10_makePart 0 = .ok (.aload_n 0, 1) := by decide +kernel
theorem dX10_makePart_1 : decode cX10_makePart 1 = .ok (.iconst 3, 1) := by decide +kernel
theorem dX10_makePart_2 : decode cX10_makePart 2 = .ok (.iload_n 1, 1) := by decide +kernel
theorem dX10_makePart_3 : decode cX10_makePart 3 = .ok (.iconst (-1), 1) := by decide +kernel
theorem dX10_makePart_4 : decode cX10_makePart 4 = .ok (.iload_n 2, 1) := by decide +kernel
theorem dX10_makePart_5 : decode cX10_makePart 5 = .ok (.invokevirtual 105, 3) := by decide +kernel
theorem dX10_makePart_8 : decode cX10_makePart 8 = .ok (.istore 6, 2) := by decide +kernel
theorem dX10_makePart_10 : decode cX10_makePart 10 = .ok (.aload_n 0, 1) := by decide +kernel
theorem dX10_makePart_11 : decode cX10_makePart 11 = .ok (.getfield 41, 3) := by decide +kernel
theorem dX10_makePart_14 : decode cX10_makePart 14 = .ok (.iload 6, 2) := by decide +kernel
theorem dX10_makePart_16 : decode cX10_makePart 16 = .ok (.iload_n 3, 1) := by decide +kernel
theorem dX10_makePart_17 : decode cX10_makePart 17 = .ok (.iastore, 1) := by decide +kernel
theorem dX10_makePart_18 : decode cX10_makePart 18 = .ok (.aload_n 0, 1) := by decide +kernel
theorem dX10_makePart_19 : decode cX10_makePart 19 = .ok (.getfield 44, 3) := by decide +kernel
theorem dX10_makePart_22 : decode cX10_makePart 22 = .ok (.iload 6, 2) := by decide +kernel
theorem dX10_makePart_24 : decode cX10_makePart 24 = .ok (.iload 4, 2) := by decide +kernel
theorem dX10_makePart_26 : decode cX10_makePart 26 = .ok (.iastore, 1) := by decide +kernel
theorem dX10_makePart_27 : decode cX10_makePart 27 = .ok (.aload_n 0, 1) := by decide +kernel
theorem dX10_makePart_28 : decode cX10_makePart 28 = .ok (.getfield 47, 3) := by decide +kernel
theorem dX10_makePart_31 : decode cX10_makePart 31 = .ok (.iload 6, 2) := by decide +kernel
theorem dX10_makePart_33 : decode cX10_makePart 33 = .ok (.iload 5, 2) := by decide +kernel
theorem dX10_makePart_35 : decode cX10_makePart 35 = .ok (.iastore, 1) := by decide +kernel
theorem dX10_makePart_36 : decode cX10_makePart 36 = .ok (.iload 6, 2) := by decide +kernel
theorem dX10_makePart_38 : decode cX10_makePart 38 = .ok (.ireturn, 1) := by decide +kernel
theorem dX10_makeClaim_0 : decode cX10_makeClaim 0 = .ok (.aload_n 0, 1) := by decide +kernel
theorem dX10_makeClaim_1 : decode cX10_makeClaim 1 = .ok (.iconst 4, 1) := by decide +kernel
theorem dX10_makeClaim_2 : decode cX10_makeClaim 2 = .ok (.iload_n 1, 1) := by decide +kernel
theorem dX10_makeClaim_3 : decode cX10_makeClaim 3 = .ok (.iload_n 2, 1) := by decide +kernel
theorem dX10_makeClaim_4 : decode cX10_makeClaim 4 = .ok (.iconst (-1), 1) := by decide +kernel
theorem dX10_makeClaim_5 : decode cX10_makeClaim 5 = .ok (.invokevirtual 105, 3) := by decide +kernel
theorem dX10_makeClaim_8 : decode cX10_makeClaim 8 = .ok (.istore 5, 2) := by decide +kernel
theorem dX10_makeClaim_10 : decode cX10_makeClaim 10 = .ok (.aload_n 0, 1) := by decide +kernel
theorem dX10_makeClaim_11 : decode cX10_makeClaim 11 = .ok (.getfield 41, 3) := by decide +kernel
theorem dX10_makeClaim_14 : decode cX10_makeClaim 14 = .ok (.iload 5, 2) := by decide +kernel
theorem dX10_makeClaim_16 : decode cX10_makeClaim 16 = .ok (.iload_n 3, 1) := by decide +kernel
theorem dX10_makeClaim_17 : decode cX10_makeClaim 17 = .ok (.iastore, 1) := by decide +kernel
theorem dX10_makeClaim_18 : decode cX10_makeClaim 18 = .ok (.aload_n 0, 1) := by decide +kernel
theorem dX10_makeClaim_19 : decode cX10_makeClaim 19 = .ok (.getfield 44, 3) := by decide +kernel
theorem dX10_makeClaim_22 : decode cX10_makeClaim 22 = .ok (.iload 5, 2) := by decide +kernel
theorem dX10_makeClaim_24 : decode cX10_makeClaim 24 = .ok (.iload 4, 2) := by decide +kernel
theorem dX10_makeClaim_26 : decode cX10_makeClaim 26 = .ok (.iastore, 1) := by decide +kernel
theorem dX10_makeClaim_27 : decode cX10_makeClaim 27 = .ok (.iload 5, 2) := by decide +kernel
theorem dX10_makeClaim_29 : decode cX10_makeClaim 29 = .ok (.ireturn, 1) := by decide +kernel
theorem dX10_opens_0 : decode cX10_opens 0 = .ok (.iload_n 2, 1) := by decide +kernel
theorem dX10_opens_1 : decode cX10_opens 1 = .ok (.iconst 0, 1) := by decide +kernel
theorem dX10_opens_2 : decode cX10_opens 2 = .ok (.aload_n 0, 1) := by decide +kernel
theorem dX10_opens_3 : decode cX10_opens 3 = .ok (.getfield 102, 3) := by decide +kernel
theorem dX10_opens_6 : decode cX10_opens 6 = .ok (.iconst 1, 1) := by decide +kernel
theorem dX10_opens_7 : decode cX10_opens 7 = .ok (.isub, 1) := by decide +kernel
theorem dX10_opens_8 : decode cX10_opens 8 = .ok (.invokestatic 87, 3) := by decide +kernel
theorem dX10_opens_11 : decode cX10_opens 11 = .ok (.ifCond .eq 31, 3) := by decide +kernel
theorem dX10_opens_14 : decode cX10_opens 14 = .ok (.aload_n 0, 1) := by decide +kernel
theorem dX10_opens_15 : decode cX10_opens 15 = .ok (.getfield 29, 3) := by decide +kernel
theorem dX10_opens_18 : decode cX10_opens 18 = .ok (.iload_n 2, 1) := by decide +kernel
theorem dX10_opens_19 : decode cX10_opens 19 = .ok (.iaload, 1) := by decide +kernel
theorem dX10_opens_20 : decode cX10_opens 20 = .ok (.iload_n 3, 1) := by decide +kernel
theorem dX10_opens_21 : decode cX10_opens 21 = .ok (.if_icmp .ne 21, 3) := by decide +kernel
theorem dX10_opens_24 : decode cX10_opens 24 = .ok (.iload_n 1, 1) := by decide +kernel
theorem dX10_opens_25 : decode cX10_opens 25 = .ok (.ifCond .lt 17, 3) := by decide +kernel
theorem dX10_opens_28 : decode cX10_opens 28 = .ok (.aload_n 0, 1) := by decide +kernel
theorem dX10_opens_29 : decode cX10_opens 29 = .ok (.getfield 32, 3) := by decide +kernel
theorem dX10_opens_32 : decode cX10_opens 32 = .ok (.iload_n 2, 1) := by decide +kernel
theorem dX10_opens_33 : decode cX10_opens 33 = .ok (.iaload, 1) := by decide +kernel
theorem dX10_opens_34 : decode cX10_opens 34 = .ok (.iload_n 1, 1) := by decide +kernel
theorem dX10_opens_35 : decode cX10_opens 35 = .ok (.if_icmp .ne 7, 3) := by decide +kernel
theorem dX10_opens_38 : decode cX10_opens 38 = .ok (.iconst 1, 1) := by decide +kernel
theorem dX10_opens_39 : decode cX10_opens 39 = .ok (.goto 4, 3) := by decide +kernel
theorem dX10_opens_42 : decode cX10_opens 42 = .ok (.iconst 0, 1) := by decide +kernel
theorem dX10_opens_43 : decode cX10_opens 43 = .ok (.ireturn, 1) := by decide +kernel
theorem dX10_request_0 : decode cX10_request 0 = .ok (.aload_n 0, 1) := by decide +kernel
theorem dX10_request_1 : decode cX10_request 1 = .ok (.dup, 1) := by decide +kernel
theorem dX10_request_2 : decode cX10_request 2 = .ok (.getfield 109, 3) := by decide +kernel
theorem dX10_request_5 : decode cX10_request 5 = .ok (.iconst 1, 1) := by decide +kernel
theorem dX10_request_6 : decode cX10_request 6 = .ok (.iadd, 1) := by decide +kernel
theorem dX10_request_7 : decode cX10_request 7 = .ok (.putfield 109, 3) := by decide +kernel
theorem dX10_request_10 : decode cX10_request 10 = .ok (.aload_n 0, 1) := by decide +kernel
theorem dX10_request_11 : decode cX10_request 11 = .ok (.getfield 59, 3) := by decide +kernel
theorem dX10_request_14 : decode cX10_request 14 = .ok (.iload_n 1, 1) := by decide +kernel
theorem dX10_request_15 : decode cX10_request 15 = .ok (.aload_n 0, 1) := by decide +kernel
theorem dX10_request_16 : decode cX10_request 16 = .ok (.getfield 109, 3) := by decide +kernel
theorem dX10_request_19 : decode cX10_request 19 = .ok (.iastore, 1) := by decide +kernel
theorem dX10_request_20 : decode cX10_request 20 = .ok (.aload_n 0, 1) := by decide +kernel
theorem dX10_request_21 : decode cX10_request 21 = .ok (.getfield 62, 3) := by decide +kernel
theorem dX10_request_24 : decode cX10_request 24 = .ok (.iload_n 1, 1) := by decide +kernel
theorem dX10_request_25 : decode cX10_request 25 = .ok (.iload_n 2, 1) := by decide +kernel
theorem dX10_request_26 : decode cX10_request 26 = .ok (.iastore, 1) := by decide +kernel
theorem dX10_request_27 : decode cX10_request 27 = .ok (.aload_n 0, 1) := by decide +kernel
theorem dX10_request_28 : decode cX10_request 28 = .ok (.getfield 65, 3) := by decide +kernel
theorem dX10_request_31 : decode cX10_request 31 = .ok (.iload_n 1, 1) := by decide +kernel
theorem dX10_request_32 : decode cX10_request 32 = .ok (.iload_n 3, 1) := by decide +kernel
theorem dX10_request_33 : decode cX10_request 33 = .ok (.iastore, 1) := by decide +kernel
theorem dX10_request_34 : decode cX10_request 34 = .ok (.return_, 1) := by decide +kernel
theorem dX10_login_0 : decode cX10_login 0 = .ok (.aload_n 0, 1) := by decide +kernel
theorem dX10_login_1 : decode cX10_login 1 = .ok (.iload_n 1, 1) := by decide +kernel
theorem dX10_login_2 : decode cX10_login 2 = .ok (.invokevirtual 112, 3) := by decide +kernel
theorem dX10_login_5 : decode cX10_login 5 = .ok (.ifCond .eq 21, 3) := by decide +kernel
theorem dX10_login_8 : decode cX10_login 8 = .ok (.aload_n 0, 1) := by decide +kernel
theorem dX10_login_9 : decode cX10_login 9 = .ok (.getfield 13, 3) := by decide +kernel
theorem dX10_login_12 : decode cX10_login 12 = .ok (.iload_n 1, 1) := by decide +kernel
theorem dX10_login_13 : decode cX10_login 13 = .ok (.iaload, 1) := by decide +kernel
theorem dX10_login_14 : decode cX10_login 14 = .ok (.ifCond .lt 12, 3) := by decide +kernel
theorem dX10_login_17 : decode cX10_login 17 = .ok (.iload_n 2, 1) := by decide +kernel
theorem dX10_login_18 : decode cX10_login 18 = .ok (.iconst 0, 1) := by decide +kernel
theorem dX10_login_19 : decode cX10_login 19 = .ok (.iconst 1, 1) := by decide +kernel
theorem dX10_login_20 : decode cX10_login 20 = .ok (.invokestatic 87, 3) := by decide +kernel
theorem dX10_login_23 : decode cX10_login 23 = .ok (.ifCond .ne 5, 3) := by decide +kernel
theorem dX10_login_26 : decode cX10_login 26 = .ok (.iconst (-1), 1) := by decide +kernel
theorem dX10_login_27 : decode cX10_login 27 = .ok (.ireturn, 1) := by decide +kernel
theorem dX10_login_28 : decode cX10_login 28 = .ok (.aload_n 0, 1) := by decide +kernel
theorem dX10_login_29 : decode cX10_login 29 = .ok (.getfield 102, 3) := by decide +kernel
theorem dX10_login_32 : decode cX10_login 32 = .ok (.sipush 150, 3) := by decide +kernel
theorem dX10_login_35 : decode cX10_login 35 = .ok (.if_icmp .lt 6, 3) := by decide +kernel
theorem dX10_login_38 : decode cX10_login 38 = .ok (.bipush (-7), 2) := by decide +kernel
theorem dX10_login_40 : decode cX10_login 40 = .ok (.ireturn, 1) := by decide +kernel
theorem dX10_login_41 : decode cX10_login 41 = .ok (.aload_n 0, 1) := by decide +kernel
theorem dX10_login_42 : decode cX10_login 42 = .ok (.iload_n 1, 1) := by decide +kernel
theorem dX10_login_43 : decode cX10_login 43 = .ok (.iload_n 2, 1) := by decide +kernel
theorem dX10_login_44 : decode cX10_login 44 = .ok (.aload_n 0, 1) := by decide +kernel
theorem dX10_login_45 : decode cX10_login 45 = .ok (.getfield 13, 3) := by decide +kernel
theorem dX10_login_48 : decode cX10_login 48 = .ok (.iload_n 1, 1) := by decide +kernel
theorem dX10_login_49 : decode cX10_login 49 = .ok (.iaload, 1) := by decide +kernel
theorem dX10_login_50 : decode cX10_login 50 = .ok (.invokevirtual 115, 3) := by decide +kernel
theorem dX10_login_53 : decode cX10_login 53 = .ok (.aload_n 0, 1) := by decide +kernel
theorem dX10_login_54 : decode cX10_login 54 = .ok (.aload_n 0, 1) := by decide +kernel
theorem dX10_login_55 : decode cX10_login 55 = .ok (.getfield 13, 3) := by decide +kernel
theorem dX10_login_58 : decode cX10_login 58 = .ok (.iload_n 1, 1) := by decide +kernel
theorem dX10_login_59 : decode cX10_login 59 = .ok (.iaload, 1) := by decide +kernel
theorem dX10_login_60 : decode cX10_login 60 = .ok (.iload_n 1, 1) := by decide +kernel
theorem dX10_login_61 : decode cX10_login 61 = .ok (.aload_n 0, 1) := by decide +kernel
theorem dX10_login_62 : decode cX10_login 62 = .ok (.getfield 7, 3) := by decide +kernel
theorem dX10_login_65 : decode cX10_login 65 = .ok (.iload_n 1, 1) := by decide +kernel
theorem dX10_login_66 : decode cX10_login 66 = .ok (.iaload, 1) := by decide +kernel
theorem dX10_login_67 : decode cX10_login 67 = .ok (.invokevirtual 119, 3) := by decide +kernel
theorem dX10_login_70 : decode cX10_login 70 = .ok (.ireturn, 1) := by decide +kernel
theorem dX10_ask_0 : decode cX10_ask 0 = .ok (.aload_n 0, 1) := by decide +kernel
theorem dX10_ask_1 : decode cX10_ask 1 = .ok (.iload_n 1, 1) := by decide +kernel
theorem dX10_ask_2 : decode cX10_ask 2 = .ok (.invokevirtual 112, 3) := by decide +kernel
theorem dX10_ask_5 : decode cX10_ask 5 = .ok (.ifCond .eq 23, 3) := by decide +kernel
theorem dX10_ask_8 : decode cX10_ask 8 = .ok (.aload_n 0, 1) := by decide +kernel
theorem dX10_ask_9 : decode cX10_ask 9 = .ok (.getfield 68, 3) := by decide +kernel
theorem dX10_ask_12 : decode cX10_ask 12 = .ok (.iconst 2, 1) := by decide +kernel
theorem dX10_ask_13 : decode cX10_ask 13 = .ok (.iload_n 1, 1) := by decide +kernel
theorem dX10_ask_14 : decode cX10_ask 14 = .ok (.imul, 1) := by decide +kernel
theorem dX10_ask_15 : decode cX10_ask 15 = .ok (.iaload, 1) := by decide +kernel
theorem dX10_ask_16 : decode cX10_ask 16 = .ok (.ifCond .lt 12, 3) := by decide +kernel
theorem dX10_ask_19 : decode cX10_ask 19 = .ok (.iload_n 2, 1) := by decide +kernel
theorem dX10_ask_20 : decode cX10_ask 20 = .ok (.iconst 0, 1) := by decide +kernel
theorem dX10_ask_21 : decode cX10_ask 21 = .ok (.iconst 1, 1) := by decide +kernel
theorem dX10_ask_22 : decode cX10_ask 22 = .ok (.invokestatic 87, 3) := by decide +kernel
theorem dX10_ask_25 : decode cX10_ask 25 = .ok (.ifCond .ne 5, 3) := by decide +kernel
theorem dX10_ask_28 : decode cX10_ask 28 = .ok (.iconst (-1), 1) := by decide +kernel
theorem dX10_ask_29 : decode cX10_ask 29 = .ok (.ireturn, 1) := by decide +kernel
theorem dX10_ask_30 : decode cX10_ask 30 = .ok (.aload_n 0, 1) := by decide +kernel
theorem dX10_ask_31 : decode cX10_ask 31 = .ok (.getfield 102, 3) := by decide +kernel
theorem dX10_ask_34 : decode cX10_ask 34 = .ok (.sipush 150, 3) := by decide +kernel
theorem dX10_ask_37 : decode cX10_ask 37 = .ok (.if_icmp .lt 6, 3) := by decide +kernel
theorem dX10_ask_40 : decode cX10_ask 40 = .ok (.bipush (-7), 2) := by decide +kernel
theorem dX10_ask_42 : decode cX10_ask 42 = .ok (.ireturn, 1) := by decide +kernel
theorem dX10_ask_43 : decode cX10_ask 43 = .ok (.aload_n 0, 1) := by decide +kernel
theorem dX10_ask_44 : decode cX10_ask 44 = .ok (.iload_n 1, 1) := by decide +kernel
theorem dX10_ask_45 : decode cX10_ask 45 = .ok (.iload_n 2, 1) := by decide +kernel
theorem dX10_ask_46 : decode cX10_ask 46 = .ok (.aload_n 0, 1) := by decide +kernel
theorem dX10_ask_47 : decode cX10_ask 47 = .ok (.getfield 71, 3) := by decide +kernel
theorem dX10_ask_50 : decode cX10_ask 50 = .ok (.iconst 2, 1) := by decide +kernel
theorem dX10_ask_51 : decode cX10_ask 51 = .ok (.iload_n 1, 1) := by decide +kernel
theorem dX10_ask_52 : decode cX10_ask 52 = .ok (.imul, 1) := by decide +kernel
theorem dX10_ask_53 : decode cX10_ask 53 = .ok (.iaload, 1) := by decide +kernel
theorem dX10_ask_54 : decode cX10_ask 54 = .ok (.invokevirtual 115, 3) := by decide +kernel
theorem dX10_ask_57 : decode cX10_ask 57 = .ok (.aload_n 0, 1) := by decide +kernel
