theorem dX10_init_0 : decode cX10_init 0 = .ok (.aload_n 0, 1) := by decide +kernel
theorem dX10_init_1 : decode cX10_init 1 = .ok (.invokespecial 1, 3) := by decide +kernel
theorem dX10_init_4 : decode cX10_init 4 = .ok (.aload_n 0, 1) := by decide +kernel
theorem dX10_init_5 : decode cX10_init 5 = .ok (.bipush 12, 2) := by decide +kernel
theorem dX10_init_7 : decode cX10_init 7 = .ok (.newarray .int, 2) := by decide +kernel
theorem dX10_init_9 : decode cX10_init 9 = .ok (.putfield 7, 3) := by decide +kernel
theorem dX10_init_12 : decode cX10_init 12 = .ok (.aload_n 0, 1) := by decide +kernel
theorem dX10_init_13 : decode cX10_init 13 = .ok (.bipush 11, 2) := by decide +kernel
theorem dX10_init_15 : decode cX10_init 15 = .ok (.newarray .int, 2) := by decide +kernel
theorem dX10_init_17 : decode cX10_init 17 = .ok (.putfield 13, 3) := by decide +kernel
theorem dX10_init_20 : decode cX10_init 20 = .ok (.aload_n 0, 1) := by decide +kernel
theorem dX10_init_21 : decode cX10_init 21 = .ok (.sipush 1000, 3) := by decide +kernel
theorem dX10_init_24 : decode cX10_init 24 = .ok (.putfield 16, 3) := by decide +kernel
theorem dX10_init_27 : decode cX10_init 27 = .ok (.aload_n 0, 1) := by decide +kernel
theorem dX10_init_28 : decode cX10_init 28 = .ok (.iconst 4, 1) := by decide +kernel
theorem dX10_init_29 : decode cX10_init 29 = .ok (.newarray .int, 2) := by decide +kernel
theorem dX10_init_31 : decode cX10_init 31 = .ok (.putfield 20, 3) := by decide +kernel
theorem dX10_init_34 : decode cX10_init 34 = .ok (.aload_n 0, 1) := by decide +kernel
theorem dX10_init_35 : decode cX10_init 35 = .ok (.iconst 4, 1) := by decide +kernel
theorem dX10_init_36 : decode cX10_init 36 = .ok (.newarray .int, 2) := by decide +kernel
theorem dX10_init_38 : decode cX10_init 38 = .ok (.putfield 23, 3) := by decide +kernel
theorem dX10_init_41 : decode cX10_init 41 = .ok (.aload_n 0, 1) := by decide +kernel
theorem dX10_init_42 : decode cX10_init 42 = .ok (.iconst 4, 1) := by decide +kernel
theorem dX10_init_43 : decode cX10_init 43 = .ok (.newarray .int, 2) := by decide +kernel
theorem dX10_init_45 : decode cX10_init 45 = .ok (.putfield 26, 3) := by decide +kernel
theorem dX10_init_48 : decode cX10_init 48 = .ok (.aload_n 0, 1) := by decide +kernel
theorem dX10_init_49 : decode cX10_init 49 = .ok (.bipush 12, 2) := by decide +kernel
theorem dX10_init_51 : decode cX10_init 51 = .ok (.newarray .int, 2) := by decide +kernel
theorem dX10_init_53 : decode cX10_init 53 = .ok (.putfield 29, 3) := by decide +kernel
theorem dX10_init_56 : decode cX10_init 56 = .ok (.aload_n 0, 1) := by decide +kernel
theorem dX10_init_57 : decode cX10_init 57 = .ok (.bipush 12, 2) := by decide +kernel
theorem dX10_init_59 : decode cX10_init 59 = .ok (.newarray .int, 2) := by decide +kernel
theorem dX10_init_61 : decode cX10_init 61 = .ok (.putfield 32, 3) := by decide +kernel
theorem dX10_init_64 : decode cX10_init 64 = .ok (.aload_n 0, 1) := by decide +kernel
theorem dX10_init_65 : decode cX10_init 65 = .ok (.bipush 12, 2) := by decide +kernel
theorem dX10_init_67 : decode cX10_init 67 = .ok (.newarray .int, 2) := by decide +kernel
theorem dX10_init_69 : decode cX10_init 69 = .ok (.putfield 35, 3) := by decide +kernel
theorem dX10_init_72 : decode cX10_init 72 = .ok (.aload_n 0, 1) := by decide +kernel
theorem dX10_init_73 : decode cX10_init 73 = .ok (.bipush 12, 2) := by decide +kernel
theorem dX10_init_75 : decode cX10_init 75 = .ok (.newarray .int, 2) := by decide +kernel
theorem dX10_init_77 : decode cX10_init 77 = .ok (.putfield 38, 3) := by decide +kernel
theorem dX10_init_80 : decode cX10_init 80 = .ok (.aload_n 0, 1) := by decide +kernel
theorem dX10_init_81 : decode cX10_init 81 = .ok (.bipush 12, 2) := by decide +kernel
theorem dX10_init_83 : decode cX10_init 83 = .ok (.newarray .int, 2) := by decide +kernel
theorem dX10_init_85 : decode cX10_init 85 = .ok (.putfield 41, 3) := by decide +kernel
theorem dX10_init_88 : decode cX10_init 88 = .ok (.aload_n 0, 1) := by decide +kernel
theorem dX10_init_89 : decode cX10_init 89 = .ok (.bipush 12, 2) := by decide +kernel
theorem dX10_init_91 : decode cX10_init 91 = .ok (.newarray .int, 2) := by decide +kernel
theorem dX10_init_93 : decode cX10_init 93 = .ok (.putfield 44, 3) := by decide +kernel
theorem dX10_init_96 : decode cX10_init 96 = .ok (.aload_n 0, 1) := by decide +kernel
theorem dX10_init_97 : decode cX10_init 97 = .ok (.bipush 12, 2) := by decide +kernel
theorem dX10_init_99 : decode cX10_init 99 = .ok (.newarray .int, 2) := by decide +kernel
theorem dX10_init_101 : decode cX10_init 101 = .ok (.putfield 47, 3) := by decide +kernel
theorem dX10_init_104 : decode cX10_init 104 = .ok (.aload_n 0, 1) := by decide +kernel
theorem dX10_init_105 : decode cX10_init 105 = .ok (.bipush 12, 2) := by decide +kernel
theorem dX10_init_107 : decode cX10_init 107 = .ok (.newarray .int, 2) := by decide +kernel
theorem dX10_init_109 : decode cX10_init 109 = .ok (.putfield 50, 3) := by decide +kernel
theorem dX10_init_112 : decode cX10_init 112 = .ok (.aload_n 0, 1) := by decide +kernel
theorem dX10_init_113 : decode cX10_init 113 = .ok (.bipush 12, 2) := by decide +kernel
theorem dX10_init_115 : decode cX10_init 115 = .ok (.newarray .int, 2) := by decide +kernel
theorem dX10_init_117 : decode cX10_init 117 = .ok (.putfield 53, 3) := by decide +kernel
theorem dX10_init_120 : decode cX10_init 120 = .ok (.aload_n 0, 1) := by decide +kernel
theorem dX10_init_121 : decode cX10_init 121 = .ok (.bipush 12, 2) := by decide +kernel
theorem dX10_init_123 : decode cX10_init 123 = .ok (.newarray .boolean, 2) := by decide +kernel
theorem dX10_init_125 : decode cX10_init 125 = .ok (.putfield 56, 3) := by decide +kernel
theorem dX10_init_128 : decode cX10_init 128 = .ok (.aload_n 0, 1) := by decide +kernel
theorem dX10_init_129 : decode cX10_init 129 = .ok (.sipush 144, 3) := by decide +kernel
theorem dX10_init_132 : decode cX10_init 132 = .ok (.newarray .int, 2) := by decide +kernel
theorem dX10_init_134 : decode cX10_init 134 = .ok (.putfield 60, 3) := by decide +kernel
theorem dX10_init_137 : decode cX10_init 137 = .ok (.aload_n 0, 1) := by decide +kernel
theorem dX10_init_138 : decode cX10_init 138 = .ok (.bipush 60, 2) := by decide +kernel
theorem dX10_init_140 : decode cX10_init 140 = .ok (.newarray .int, 2) := by decide +kernel
theorem dX10_init_142 : decode cX10_init 142 = .ok (.putfield 63, 3) := by decide +kernel
theorem dX10_init_145 : decode cX10_init 145 = .ok (.aload_n 0, 1) := by decide +kernel
theorem dX10_init_146 : decode cX10_init 146 = .ok (.bipush 6, 2) := by decide +kernel
theorem dX10_init_148 : decode cX10_init 148 = .ok (.newarray .int, 2) := by decide +kernel
theorem dX10_init_150 : decode cX10_init 150 = .ok (.putfield 66, 3) := by decide +kernel
theorem dX10_init_153 : decode cX10_init 153 = .ok (.aload_n 0, 1) := by decide +kernel
theorem dX10_init_154 : decode cX10_init 154 = .ok (.bipush 6, 2) := by decide +kernel
theorem dX10_init_156 : decode cX10_init 156 = .ok (.newarray .int, 2) := by decide +kernel
theorem dX10_init_158 : decode cX10_init 158 = .ok (.putfield 69, 3) := by decide +kernel
theorem dX10_init_161 : decode cX10_init 161 = .ok (.aload_n 0, 1) := by decide +kernel
theorem dX10_init_162 : decode cX10_init 162 = .ok (.bipush 6, 2) := by decide +kernel
theorem dX10_init_164 : decode cX10_init 164 = .ok (.newarray .int, 2) := by decide +kernel
theorem dX10_init_166 : decode cX10_init 166 = .ok (.putfield 72, 3) := by decide +kernel
theorem dX10_init_169 : decode cX10_init 169 = .ok (.aload_n 0, 1) := by decide +kernel
theorem dX10_init_170 : decode cX10_init 170 = .ok (.sipush 400, 3) := by decide +kernel
theorem dX10_init_173 : decode cX10_init 173 = .ok (.newarray .byte, 2) := by decide +kernel
theorem dX10_init_175 : decode cX10_init 175 = .ok (.putfield 75, 3) := by decide +kernel
theorem dX10_init_178 : decode cX10_init 178 = .ok (.aload_n 0, 1) := by decide +kernel
theorem dX10_init_179 : decode cX10_init 179 = .ok (.sipush 400, 3) := by decide +kernel
theorem dX10_init_182 : decode cX10_init 182 = .ok (.newarray .byte, 2) := by decide +kernel
theorem dX10_init_184 : decode cX10_init 184 = .ok (.putfield 79, 3) := by decide +kernel
theorem dX10_init_187 : decode cX10_init 187 = .ok (.aload_n 0, 1) := by decide +kernel
theorem dX10_init_188 : decode cX10_init 188 = .ok (.iconst (-1), 1) := by decide +kernel
theorem dX10_init_189 : decode cX10_init 189 = .ok (.putfield 82, 3) := by decide +kernel
theorem dX10_init_192 : decode cX10_init 192 = .ok (.aload_n 0, 1) := by decide +kernel
theorem dX10_init_193 : decode cX10_init 193 = .ok (.bipush 11, 2) := by decide +kernel
theorem dX10_init_195 : decode cX10_init 195 = .ok (.newarray .int, 2) := by decide +kernel
theorem dX10_init_197 : decode cX10_init 197 = .ok (.putfield 85, 3) := by decide +kernel
theorem dX10_init_200 : decode cX10_init 200 = .ok (.aload_n 0, 1) := by decide +kernel
theorem dX10_init_201 : decode cX10_init 201 = .ok (.bipush 11, 2) := by decide +kernel
theorem dX10_init_203 : decode cX10_init 203 = .ok (.newarray .int, 2) := by decide +kernel
theorem dX10_init_205 : decode cX10_init 205 = .ok (.putfield 88, 3) := by decide +kernel
theorem dX10_init_208 : decode cX10_init 208 = .ok (.aload_n 0, 1) := by decide +kernel
theorem dX10_init_209 : decode cX10_init 209 = .ok (.sipush 176, 3) := by decide +kernel
theorem dX10_init_212 : decode cX10_init 212 = .ok (.newarray .int, 2) := by decide +kernel
theorem dX10_init_214 : decode cX10_init 214 = .ok (.putfield 91, 3) := by decide +kernel
theorem dX10_init_217 : decode cX10_init 217 = .ok (.aload_n 0, 1) := by decide +kernel
theorem dX10_init_218 : decode cX10_init 218 = .ok (.sipush 176, 3) := by decide +kernel
theorem dX10_init_221 : decode cX10_init 221 = .ok (.newarray .int, 2) := by decide +kernel
theorem dX10_init_223 : decode cX10_init 223 = .ok (.putfield 94, 3) := by decide +kernel
theorem dX10_init_226 : decode cX10_init 226 = .ok (.aload_n 0, 1) := by decide +kernel
theorem dX10_init_227 : decode cX10_init 227 = .ok (.sipush 176, 3) := by decide +kernel
theorem dX10_init_230 : decode cX10_init 230 = .ok (.newarray .int, 2) := by decide +kernel
theorem dX10_init_232 : decode cX10_init 232 = .ok (.putfield 97, 3) := by decide +kernel
theorem dX10_init_235 : decode cX10_init 235 = .ok (.aload_n 0, 1) := by decide +kernel
theorem dX10_init_236 : decode cX10_init 236 = .ok (.bipush 12, 2) := by decide +kernel
theorem dX10_init_238 : decode cX10_init 238 = .ok (.newarray .boolean, 2) := by decide +kernel
theorem dX10_init_240 : decode cX10_init 240 = .ok (.putfield 100, 3) := by decide +kernel
theorem dX10_init_243 : decode cX10_init 243 = .ok (.aload_n 0, 1) := by decide +kernel
theorem dX10_init_244 : decode cX10_init 244 = .ok (.bipush 6, 2) := by decide +kernel
theorem dX10_init_246 : decode cX10_init 246 = .ok (.newarray .int, 2) := by decide +kernel
theorem dX10_init_248 : decode cX10_init 248 = .ok (.putfield 103, 3) := by decide +kernel
theorem dX10_init_251 : decode cX10_init 251 = .ok (.aload_n 0, 1) := by decide +kernel
theorem dX10_init_252 : decode cX10_init 252 = .ok (.bipush 6, 2) := by decide +kernel
theorem dX10_init_254 : decode cX10_init 254 = .ok (.newarray .int, 2) := by decide +kernel
theorem dX10_init_256 : decode cX10_init 256 = .ok (.putfield 106, 3) := by decide +kernel
theorem dX10_init_259 : decode cX10_init 259 = .ok (.aload_n 0, 1) := by decide +kernel
theorem dX10_init_260 : decode cX10_init 260 = .ok (.bipush 6, 2) := by decide +kernel
theorem dX10_init_262 : decode cX10_init 262 = .ok (.newarray .int, 2) := by decide +kernel
theorem dX10_init_264 : decode cX10_init 264 = .ok (.putfield 109, 3) := by decide +kernel
theorem dX10_init_267 : decode cX10_init 267 = .ok (.aload_n 0, 1) := by decide +kernel
theorem dX10_init_268 : decode cX10_init 268 = .ok (.iconst 3, 1) := by decide +kernel
theorem dX10_init_269 : decode cX10_init 269 = .ok (.bipush 12, 2) := by decide +kernel
theorem dX10_init_271 : decode cX10_init 271 = .ok (.iload_n 1, 1) := by decide +kernel
theorem dX10_init_272 : decode cX10_init 272 = .ok (.invokestatic 112, 3) := by decide +kernel
theorem dX10_init_275 : decode cX10_init 275 = .ok (.invokestatic 118, 3) := by decide +kernel
theorem dX10_init_278 : decode cX10_init 278 = .ok (.putfield 121, 3) := by decide +kernel
theorem dX10_init_281 : decode cX10_init 281 = .ok (.iconst 0, 1) := by decide +kernel
theorem dX10_init_282 : decode cX10_init 282 = .ok (.istore_n 2, 1) := by decide +kernel
theorem dX10_init_283 : decode cX10_init 283 = .ok (.iload_n 2, 1) := by decide +kernel
theorem dX10_init_284 : decode cX10_init 284 = .ok (.bipush 12, 2) := by decide +kernel
theorem dX10_init_286 : decode cX10_init 286 = .ok (.if_icmp .ge 17, 3) := by decide +kernel
theorem dX10_init_289 : decode cX10_init 289 = .ok (.aload_n 0, 1) := by decide +kernel
theorem dX10_init_290 : decode cX10_init 290 = .ok (.getfield 7, 3) := by decide +kernel
theorem dX10_init_293 : decode cX10_init 293 = .ok (.iload_n 2, 1) := by decide +kernel
theorem dX10_init_294 : decode cX10_init 294 = .ok (.bipush 100, 2) := by decide +kernel
theorem dX10_init_296 : decode cX10_init 296 = .ok (.iastore, 1) := by decide +kernel
theorem dX10_init_297 : decode cX10_init 297 = .ok (.iinc 2 1, 3) := by decide +kernel
theorem dX10_init_300 : decode cX10_init 300 = .ok (.goto (-17), 3) := by decide +kernel
theorem dX10_init_303 : decode cX10_init 303 = .ok (.iconst 0, 1) := by decide +kernel
theorem dX10_init_304 : decode cX10_init 304 = .ok (.istore_n 2, 1) := by decide +kernel
theorem dX10_init_305 : decode cX10_init 305 = .ok (.iload_n 2, 1) := by decide +kernel
theorem dX10_init_306 : decode cX10_init 306 = .ok (.bipush 11, 2) := by decide +kernel
theorem dX10_init_308 : decode cX10_init 308 = .ok (.if_icmp .ge 17, 3) := by decide +kernel
theorem dX10_init_311 : decode cX10_init 311 = .ok (.aload_n 0, 1) := by decide +kernel
theorem dX10_init_312 : decode cX10_init 312 = .ok (.getfield 13, 3) := by decide +kernel
theorem dX10_init_315 : decode cX10_init 315 = .ok (.iload_n 2, 1) := by decide +kernel
theorem dX10_init_316 : decode cX10_init 316 = .ok (.bipush 20, 2) := by decide +kernel
theorem dX10_init_318 : decode cX10_init 318 = .ok (.iastore, 1) := by decide +kernel
theorem dX10_init_319 : decode cX10_init 319 = .ok (.iinc 2 1, 3) := by decide +kernel
theorem dX10_init_322 : decode cX10_init 322 = .ok (.goto (-17), 3) := by decide +kernel
theorem dX10_init_325 : decode cX10_init 325 = .ok (.return_, 1) := by decide +kernel
theorem dX10_isIn_0 : decode cX10_isIn 0 = .ok (.iload_n 0, 1) := by decide +kernel
theorem dX10_isIn_1 : decode cX10_isIn 1 = .ok (.iload_n 1, 1) := by decide +kernel
theorem dX10_isIn_2 : decode cX10_isIn 2 = .ok (.if_icmp .lt 12, 3) := by decide +kernel
theorem dX10_isIn_5 : decode cX10_isIn 5 = .ok (.iload_n 0, 1) := by decide +kernel
theorem dX10_isIn_6 : decode cX10_isIn 6 = .ok (.iload_n 2, 1) := by decide +kernel
theorem dX10_isIn_7 : decode cX10_isIn 7 = .ok (.if_icmp .gt 7, 3) := by decide +kernel
theorem dX10_isIn_10 : decode cX10_isIn 10 = .ok (.iconst 1, 1) := by decide +kernel
theorem dX10_isIn_11 : decode cX10_isIn 11 = .ok (.goto 4, 3) := by decide +kernel
theorem dX10_isIn_14 : decode cX10_isIn 14 = .ok (.iconst 0, 1) := by decide +kernel
theorem dX10_isIn_15 : decode cX10_isIn 15 = .ok (.ireturn, 1) := by decide +kernel
theorem dX10_one_0 : decode cX10_one 0 = .ok (.iload_n 0, 1) := by decide +kernel
theorem dX10_one_1 : decode cX10_one 1 = .ok (.ifCond .eq 7, 3) := by decide +kernel
theorem dX10_one_4 : decode cX10_one 4 = .ok (.iconst 1, 1) := by decide +kernel
theorem dX10_one_5 : decode cX10_one 5 = .ok (.goto 4, 3) := by decide +kernel
theorem dX10_one_8 : decode cX10_one 8 = .ok (.iconst 0, 1) := by decide +kernel
theorem dX10_one_9 : decode cX10_one 9 = .ok (.ireturn, 1) := by decide +kernel
set_option maxRecDepth 20000 in
theorem ggX10_isReach_X10_isIn : GoodIn wsX10_isReach wsX10_isIn := goodIn_r _ [5] (by decide +kernel) (by decide +kernel)
set_option maxRecDepth 20000 in
theorem gX10_isReach_X10_isIn : GoodIn wsX10_isReach (va_wsS RX10 124 yX10_isIn wsX10_isIn) := goodIn_app (goodIn_of _ (by decide +kernel)) ggX10_isReach_X10_isIn
theorem dX10_isReach_0 : decode cX10_isReach 0 = .ok (.iload_n 1, 1) := by decide +kernel
theorem dX10_isReach_1 : decode cX10_isReach 1 = .ok (.iconst 0, 1) := by decide +kernel
theorem dX10_isReach_2 : decode cX10_isReach 2 = .ok (.aload_n 0, 1) := by decide +kernel
theorem dX10_isReach_3 : decode cX10_isReach 3 = .ok (.getfield 121, 3) := by decide +kernel
theorem dX10_isReach_6 : decode cX10_isReach 6 = .ok (.iconst 1, 1) := by decide +kernel
theorem dX10_isReach_7 : decode cX10_isReach 7 = .ok (.isub, 1) := by decide +kernel
theorem dX10_isReach_8 : decode cX10_isReach 8 = .ok (.invokestatic 124, 3) := by decide +kernel
theorem dX10_isReach_11 : decode cX10_isReach 11 = .ok (.ireturn, 1) := by decide +kernel
set_option maxRecDepth 20000 in
theorem ggX10_isLock_X10_isIn : GoodIn wsX10_isLock wsX10_isIn := goodIn_r _ [5] (by decide +kernel) (by decide +kernel)
set_option maxRecDepth 20000 in
theorem gX10_isLock_X10_isIn : GoodIn wsX10_isLock (va_wsS RX10 124 yX10_isIn wsX10_isIn) := goodIn_app (goodIn_of _ (by decide +kernel)) ggX10_isLock_X10_isIn
theorem dX10_isLock_0 : decode cX10_isLock 0 = .ok (.iload_n 1, 1) := by decide +kernel
theorem dX10_isLock_1 : decode cX10_isLock 1 = .ok (.iconst 0, 1) := by decide +kernel
theorem dX10_isLock_2 : decode cX10_isLock 2 = .ok (.aload_n 0, 1) := by decide +kernel
theorem dX10_isLock_3 : decode cX10_isLock 3 = .ok (.getfield 121, 3) := by decide +kernel
theorem dX10_isLock_6 : decode cX10_isLock 6 = .ok (.iconst 2, 1) := by decide +kernel
theorem dX10_isLock_7 : decode cX10_isLock 7 = .ok (.isub, 1) := by decide +kernel
theorem dX10_isLock_8 : decode cX10_isLock 8 = .ok (.invokestatic 124, 3) := by decide +kernel
theorem dX10_isLock_11 : decode cX10_isLock 11 = .ok (.ireturn, 1) := by decide +kernel
set_option maxRecDepth 20000 in
theorem ggX10_isSquadron_X10_isIn : GoodIn wsX10_isSquadron wsX10_isIn := goodIn_r _ [5] (by decide +kernel) (by decide +kernel)
set_option maxRecDepth 20000 in
theorem gX10_isSquadron_X10_isIn : GoodIn wsX10_isSquadron (va_wsS RX10 124 yX10_isIn wsX10_isIn) := goodIn_app (goodIn_of _ (by decide +kernel)) ggX10_isSquadron_X10_isIn
theorem dX10_isSquadron_0 : decode cX10_isSquadron 0 = .ok (.iload_n 1, 1) := by decide +kernel
theorem dX10_isSquadron_1 : decode cX10_isSquadron 1 = .ok (.iconst 0, 1) := by decide +kernel
theorem dX10_isSquadron_2 : decode cX10_isSquadron 2 = .ok (.aload_n 0, 1) := by decide +kernel
theorem dX10_isSquadron_3 : decode cX10_isSquadron 3 = .ok (.getfield 128, 3) := by decide +kernel
theorem dX10_isSquadron_6 : decode cX10_isSquadron 6 = .ok (.iconst 1, 1) := by decide +kernel
theorem dX10_isSquadron_7 : decode cX10_isSquadron 7 = .ok (.isub, 1) := by decide +kernel
theorem dX10_isSquadron_8 : decode cX10_isSquadron 8 = .ok (.invokestatic 124, 3) := by decide +kernel
theorem dX10_isSquadron_11 : decode cX10_isSquadron 11 = .ok (.ireturn, 1) := by decide +kernel
set_option maxRecDepth 20000 in
theorem ggX10_isCounty_X10_isIn : GoodIn wsX10_isCounty wsX10_isIn := goodIn_r _ [4] (by decide +kernel) (by decide +kernel)
set_option maxRecDepth 20000 in
theorem gX10_isCounty_X10_isIn : GoodIn wsX10_isCounty (va_wsS RX10 124 yX10_isIn wsX10_isIn) := goodIn_app (goodIn_of _ (by decide +kernel)) ggX10_isCounty_X10_isIn
theorem dX10_isCounty_0 : decode cX10_isCounty 0 = .ok (.iload_n 0, 1) := by decide +kernel
theorem dX10_isCounty_1 : decode cX10_isCounty 1 = .ok (.iconst 0, 1) := by decide +kernel
theorem dX10_isCounty_2 : decode cX10_isCounty 2 = .ok (.iconst 5, 1) := by decide +kernel
theorem dX10_isCounty_3 : decode cX10_isCounty 3 = .ok (.invokestatic 124, 3) := by decide +kernel
theorem dX10_isCounty_6 : decode cX10_isCounty 6 = .ok (.ireturn, 1) := by decide +kernel
set_option maxRecDepth 20000 in
theorem ggX10_water_X10_isReach : GoodIn wsX10_water wsX10_isReach := goodIn_r _ [6, 7, 8, 9, 5, 10, 11, 12, 13, 14, 15, 16, 17, 18, 19, 20, 21, 22, 23, 24, 25, 26, 27, 28, 29, 30, 31, 32, 33, 34, 35, 36, 37, 38, 39, 40, 41, 42, 43, 44, 45, 46, 47, 48, 49, 50, 51, 52, 53, 54, 55] (by decide +kernel) (by decide +kernel)
set_option maxRecDepth 20000 in
theorem gX10_water_X10_isReach : GoodIn wsX10_water (wsV RX10 131 RX10 yX10_isReach wsX10_isReach) := goodIn_app (goodIn_of _ (by decide +kernel)) ggX10_water_X10_isReach
set_option maxRecDepth 20000 in
theorem ggX10_water_X10_isIn : GoodIn wsX10_water wsX10_isIn := goodIn_r _ [10] (by decide +kernel) (by decide +kernel)
set_option maxRecDepth 20000 in
theorem gX10_water_X10_isIn : GoodIn wsX10_water (va_wsS RX10 124 yX10_isIn wsX10_isIn) := goodIn_app (goodIn_of _ (by decide +kernel)) ggX10_water_X10_isIn
theorem dX10_water_0 : decode cX10_water 0 = .ok (.aload_n 0, 1) := by decide +kernel
theorem dX10_water_1 : decode cX10_water 1 = .ok (.iload_n 1, 1) := by decide +kernel
theorem dX10_water_2 : decode cX10_water 2 = .ok (.invokevirtual 131, 3) := by decide +kernel
theorem dX10_water_5 : decode cX10_water 5 = .ok (.ifCond .eq 14, 3) := by decide +kernel
theorem dX10_water_8 : decode cX10_water 8 = .ok (.iload_n 2, 1) := by decide +kernel
theorem dX10_water_9 : decode cX10_water 9 = .ok (.iconst 0, 1) := by decide +kernel
theorem dX10_water_10 : decode cX10_water 10 = .ok (.sipush 1000, 3) := by decide +kernel
theorem dX10_water_13 : decode cX10_water 13 = .ok (.invokestatic 124, 3) := by decide +kernel
theorem dX10_water_16 : decode cX10_water 16 = .ok (.ifCond .ne 5, 3) := by decide +kernel
theorem dX10_water_19 : decode cX10_water 19 = .ok (.iconst 0, 1) := by decide +kernel
theorem dX10_water_20 : decode cX10_water 20 = .ok (.ireturn, 1) := by decide +kernel
theorem dX10_water_21 : decode cX10_water 21 = .ok (.aload_n 0, 1) := by decide +kernel
theorem dX10_water_22 : decode cX10_water 22 = .ok (.getfield 7, 3) := by decide +kernel
theorem dX10_water_25 : decode cX10_water 25 = .ok (.iload_n 1, 1) := by decide +kernel
theorem dX10_water_26 : decode cX10_water 26 = .ok (.iload_n 2, 1) := by decide +kernel
theorem dX10_water_27 : decode cX10_water 27 = .ok (.iastore, 1) := by decide +kernel
theorem dX10_water_28 : decode cX10_water 28 = .ok (.iconst 1, 1) := by decide +kernel
theorem dX10_water_29 : decode cX10_water 29 = .ok (.ireturn, 1) := by decide +kernel
set_option maxRecDepth 20000 in
theorem ggX10_lock_X10_isLock : GoodIn wsX10_lock wsX10_isLock := goodIn_r _ [6, 7, 8, 9, 5, 10, 11, 12, 13, 14, 15, 16, 17, 18, 19, 20, 21, 22, 23, 24, 25, 26, 27, 28, 29, 30, 31, 32, 33, 34, 35, 36, 37, 38, 39, 40, 41, 42, 43, 44, 45, 46, 47, 48, 49, 50, 51, 52, 53, 54, 55] (by decide +kernel) (by decide +kernel)
set_option maxRecDepth 20000 in
theorem gX10_lock_X10_isLock : GoodIn wsX10_lock (wsV RX10 135 RX10 yX10_isLock wsX10_isLock) := goodIn_app (goodIn_of _ (by decide +kernel)) ggX10_lock_X10_isLock
set_option maxRecDepth 20000 in
theorem ggX10_lock_X10_isIn : GoodIn wsX10_lock wsX10_isIn := goodIn_r _ [10] (by decide +kernel) (by decide +kernel)
set_option maxRecDepth 20000 in
theorem gX10_lock_X10_isIn : GoodIn wsX10_lock (va_wsS RX10 124 yX10_isIn wsX10_isIn) := goodIn_app (goodIn_of _ (by decide +kernel)) ggX10_lock_X10_isIn
theorem dX10_lock_0 : decode cX10_lock 0 = .ok (.aload_n 0, 1) := by decide +kernel
theorem dX10_lock_1 : decode cX10_lock 1 = .ok (.iload_n 1, 1) := by decide +kernel
theorem dX10_lock_2 : decode cX10_lock 2 = .ok (.invokevirtual 135, 3) := by decide +kernel
theorem dX10_lock_5 : decode cX10_lock 5 = .ok (.ifCond .eq 13, 3) := by decide +kernel
theorem dX10_lock_8 : decode cX10_lock 8 = .ok (.iload_n 2, 1) := by decide +kernel
theorem dX10_lock_9 : decode cX10_lock 9 = .ok (.iconst 1, 1) := by decide +kernel
theorem dX10_lock_10 : decode cX10_lock 10 = .ok (.bipush 60, 2) := by decide +kernel
theorem dX10_lock_12 : decode cX10_lock 12 = .ok (.invokestatic 124, 3) := by decide +kernel
theorem dX10_lock_15 : decode cX10_lock 15 = .ok (.ifCond .ne 5, 3) := by decide +kernel
theorem dX10_lock_18 : decode cX10_lock 18 = .ok (.iconst 0, 1) := by decide +kernel
theorem dX10_lock_19 : decode cX10_lock 19 = .ok (.ireturn, 1) := by decide +kernel
theorem dX10_lock_20 : decode cX10_lock 20 = .ok (.aload_n 0, 1) := by decide +kernel
theorem dX10_lock_21 : decode cX10_lock 21 = .ok (.getfield 13, 3) := by decide +kernel
theorem dX10_lock_24 : decode cX10_lock 24 = .ok (.iload_n 1, 1) := by decide +kernel
theorem dX10_lock_25 : decode cX10_lock 25 = .ok (.iload_n 2, 1) := by decide +kernel
theorem dX10_lock_26 : decode cX10_lock 26 = .ok (.iastore, 1) := by decide +kernel
theorem dX10_lock_27 : decode cX10_lock 27 = .ok (.iconst 1, 1) := by decide +kernel
theorem dX10_lock_28 : decode cX10_lock 28 = .ok (.ireturn, 1) := by decide +kernel
set_option maxRecDepth 20000 in
theorem ggX10_lake_X10_isReach : GoodIn wsX10_lake wsX10_isReach := goodIn_r _ [8, 9, 10, 11, 7, 12, 13, 14, 15, 16, 17, 18, 19, 20, 21, 22, 23, 24, 25, 26, 27, 28, 29, 30, 31, 32, 33, 34, 35, 36, 37, 38, 39, 40, 41, 42, 43, 44, 45, 46, 47, 48, 49, 50, 51, 52, 53, 54, 55, 56, 57] (by decide +kernel) (by decide +kernel)
set_option maxRecDepth 20000 in
theorem gX10_lake_X10_isReach : GoodIn wsX10_lake (wsV RX10 131 RX10 yX10_isReach wsX10_isReach) := goodIn_app (goodIn_of _ (by decide +kernel)) ggX10_lake_X10_isReach
set_option maxRecDepth 20000 in
theorem ggX10_lake_X10_isIn : GoodIn wsX10_lake wsX10_isIn := goodIn_r _ [12] (by decide +kernel) (by decide +kernel)
set_option maxRecDepth 20000 in
theorem gX10_lake_X10_isIn : GoodIn wsX10_lake (va_wsS RX10 124 yX10_isIn wsX10_isIn) := goodIn_app (goodIn_of _ (by decide +kernel)) ggX10_lake_X10_isIn
theorem dX10_lake_0 : decode cX10_lake 0 = .ok (.aload_n 0, 1) := by decide +kernel
theorem dX10_lake_1 : decode cX10_lake 1 = .ok (.iload_n 1, 1) := by decide +kernel
theorem dX10_lake_2 : decode cX10_lake 2 = .ok (.invokevirtual 131, 3) := by decide +kernel
theorem dX10_lake_5 : decode cX10_lake 5 = .ok (.ifCond .eq 22, 3) := by decide +kernel
theorem dX10_lake_8 : decode cX10_lake 8 = .ok (.iload_n 2, 1) := by decide +kernel
theorem dX10_lake_9 : decode cX10_lake 9 = .ok (.iconst 0, 1) := by decide +kernel
theorem dX10_lake_10 : decode cX10_lake 10 = .ok (.sipush 5000, 3) := by decide +kernel
theorem dX10_lake_13 : decode cX10_lake 13 = .ok (.invokestatic 124, 3) := by decide +kernel
theorem dX10_lake_16 : decode cX10_lake 16 = .ok (.ifCond .eq 11, 3) := by decide +kernel
theorem dX10_lake_19 : decode cX10_lake 19 = .ok (.aload_n 0, 1) := by decide +kernel
theorem dX10_lake_20 : decode cX10_lake 20 = .ok (.getfield 138, 3) := by decide +kernel
theorem dX10_lake_23 : decode cX10_lake 23 = .ok (.iconst 4, 1) := by decide +kernel
theorem dX10_lake_24 : decode cX10_lake 24 = .ok (.if_icmp .ne 5, 3) := by decide +kernel
theorem dX10_lake_27 : decode cX10_lake 27 = .ok (.iconst (-1), 1) := by decide +kernel
theorem dX10_lake_28 : decode cX10_lake 28 = .ok (.ireturn, 1) := by decide +kernel
theorem dX10_lake_29 : decode cX10_lake 29 = .ok (.aload_n 0, 1) := by decide +kernel
theorem dX10_lake_30 : decode cX10_lake 30 = .ok (.getfield 20, 3) := by decide +kernel
theorem dX10_lake_33 : decode cX10_lake 33 = .ok (.aload_n 0, 1) := by decide +kernel
theorem dX10_lake_34 : decode cX10_lake 34 = .ok (.getfield 138, 3) := by decide +kernel
theorem dX10_lake_37 : decode cX10_lake 37 = .ok (.iload_n 1, 1) := by decide +kernel
theorem dX10_lake_38 : decode cX10_lake 38 = .ok (.iastore, 1) := by decide +kernel
theorem dX10_lake_39 : decode cX10_lake 39 = .ok (.aload_n 0, 1) := by decide +kernel
theorem dX10_lake_40 : decode cX10_lake 40 = .ok (.getfield 23, 3) := by decide +kernel
theorem dX10_lake_43 : decode cX10_lake 43 = .ok (.aload_n 0, 1) := by decide +kernel
theorem dX10_lake_44 : decode cX10_lake 44 = .ok (.getfield 138, 3) := by decide +kernel
theorem dX10_lake_47 : decode cX10_lake 47 = .ok (.iload_n 2, 1) := by decide +kernel
theorem dX10_lake_48 : decode cX10_lake 48 = .ok (.iastore, 1) := by decide +kernel
theorem dX10_lake_49 : decode cX10_lake 49 = .ok (.aload_n 0, 1) := by decide +kernel
theorem dX10_lake_50 : decode cX10_lake 50 = .ok (.dup, 1) := by decide +kernel
theorem dX10_lake_51 : decode cX10_lake 51 = .ok (.getfield 138, 3) := by decide +kernel
theorem dX10_lake_54 : decode cX10_lake 54 = .ok (.iconst 1, 1) := by decide +kernel
theorem dX10_lake_55 : decode cX10_lake 55 = .ok (.iadd, 1) := by decide +kernel
theorem dX10_lake_56 : decode cX10_lake 56 = .ok (.putfield 138, 3) := by decide +kernel
theorem dX10_lake_59 : decode cX10_lake 59 = .ok (.aload_n 0, 1) := by decide +kernel
theorem dX10_lake_60 : decode cX10_lake 60 = .ok (.getfield 138, 3) := by decide +kernel
theorem dX10_lake_63 : decode cX10_lake 63 = .ok (.iconst 1, 1) := by decide +kernel
theorem dX10_lake_64 : decode cX10_lake 64 = .ok (.isub, 1) := by decide +kernel
theorem dX10_lake_65 : decode cX10_lake 65 = .ok (.ireturn, 1) := by decide +kernel
set_option maxRecDepth 20000 in
theorem ggX10_give_X10_isIn : GoodIn wsX10_give wsX10_isIn := goodIn_r _ [6] (by decide +kernel) (by decide +kernel)
set_option maxRecDepth 20000 in
theorem gX10_give_X10_isIn : GoodIn wsX10_give (va_wsS RX10 124 yX10_isIn wsX10_isIn) := goodIn_app (goodIn_of _ (by decide +kernel)) ggX10_give_X10_isIn
theorem dX10_give_0 : decode cX10_give 0 = .ok (.iload_n 1, 1) := by decide +kernel
theorem dX10_give_1 : decode cX10_give 1 = .ok (.iconst 0, 1) := by decide +kernel
theorem dX10_give_2 : decode cX10_give 2 = .ok (.aload_n 0, 1) := by decide +kernel
theorem dX10_give_3 : decode cX10_give 3 = .ok (.getfield 138, 3) := by decide +kernel
theorem dX10_give_6 : decode cX10_give 6 = .ok (.iconst 1, 1) := by decide +kernel
theorem dX10_give_7 : decode cX10_give 7 = .ok (.isub, 1) := by decide +kernel
theorem dX10_give_8 : decode cX10_give 8 = .ok (.invokestatic 124, 3) := by decide +kernel
theorem dX10_give_11 : decode cX10_give 11 = .ok (.ifCond .eq 13, 3) := by decide +kernel
theorem dX10_give_14 : decode cX10_give 14 = .ok (.iload_n 2, 1) := by decide +kernel
theorem dX10_give_15 : decode cX10_give 15 = .ok (.iconst 0, 1) := by decide +kernel
theorem dX10_give_16 : decode cX10_give 16 = .ok (.bipush 100, 2) := by decide +kernel
theorem dX10_give_18 : decode cX10_give 18 = .ok (.invokestatic 124, 3) := by decide +kernel
theorem dX10_give_21 : decode cX10_give 21 = .ok (.ifCond .ne 5, 3) := by decide +kernel
theorem dX10_give_24 : decode cX10_give 24 = .ok (.iconst 0, 1) := by decide +kernel
theorem dX10_give_25 : decode cX10_give 25 = .ok (.ireturn, 1) := by decide +kernel
theorem dX10_give_26 : decode cX10_give 26 = .ok (.aload_n 0, 1) := by decide +kernel
theorem dX10_give_27 : decode cX10_give 27 = .ok (.getfield 26, 3) := by decide +kernel
theorem dX10_give_30 : decode cX10_give 30 = .ok (.iload_n 1, 1) := by decide +kernel
theorem dX10_give_31 : decode cX10_give 31 = .ok (.iload_n 2, 1) := by decide +kernel
theorem dX10_give_32 : decode cX10_give 32 = .ok (.iastore, 1) := by decide +kernel
theorem dX10_give_33 : decode cX10_give 33 = .ok (.iconst 1, 1) := by decide +kernel
theorem dX10_give_34 : decode cX10_give 34 = .ok (.ireturn, 1) := by decide +kernel
set_option maxRecDepth 20000 in
theorem ggX10_ice_X10_isIn : GoodIn wsX10_ice wsX10_isIn := goodIn_r _ [6] (by decide +kernel) (by decide +kernel)
set_option maxRecDepth 20000 in
theorem gX10_ice_X10_isIn : GoodIn wsX10_ice (va_wsS RX10 124 yX10_isIn wsX10_isIn) := goodIn_app (goodIn_of _ (by decide +kernel)) ggX10_ice_X10_isIn
set_option maxRecDepth 20000 in
theorem ggX10_ice_X10_isReach : GoodIn wsX10_ice wsX10_isReach := goodIn_r _ [10, 11, 3, 4, 5, 6, 12, 13, 14, 15, 16, 17, 18, 19, 20, 21, 22, 23, 24, 25, 26, 27, 28, 29, 30, 31, 32, 33, 34, 35, 36, 37, 38, 39, 40, 41, 42, 43, 44, 45, 46, 47, 48, 49, 50, 51, 52, 53, 54, 55, 56] (by decide +kernel) (by decide +kernel)
set_option maxRecDepth 20000 in
theorem gX10_ice_X10_isReach : GoodIn wsX10_ice (wsV RX10 131 RX10 yX10_isReach wsX10_isReach) := goodIn_app (goodIn_of _ (by decide +kernel)) ggX10_ice_X10_isReach
theorem dX10_ice_0 : decode cX10_ice 0 = .ok (.iload_n 1, 1) := by decide +kernel
theorem dX10_ice_1 : decode cX10_ice 1 = .ok (.iconst 0, 1) := by decide +kernel
theorem dX10_ice_2 : decode cX10_ice 2 = .ok (.sipush 400, 3) := by decide +kernel
theorem dX10_ice_5 : decode cX10_ice 5 = .ok (.invokestatic 124, 3) := by decide +kernel
theorem dX10_ice_8 : decode cX10_ice 8 = .ok (.ifCond .eq 11, 3) := by decide +kernel
theorem dX10_ice_11 : decode cX10_ice 11 = .ok (.aload_n 0, 1) := by decide +kernel
theorem dX10_ice_12 : decode cX10_ice 12 = .ok (.iload_n 2, 1) := by decide +kernel
theorem dX10_ice_13 : decode cX10_ice 13 = .ok (.invokevirtual 131, 3) := by decide +kernel
theorem dX10_ice_16 : decode cX10_ice 16 = .ok (.ifCond .ne 5, 3) := by decide +kernel
theorem dX10_ice_19 : decode cX10_ice 19 = .ok (.iconst 0, 1) := by decide +kernel
theorem dX10_ice_20 : decode cX10_ice 20 = .ok (.ireturn, 1) := by decide +kernel
theorem dX10_ice_21 : decode cX10_ice 21 = .ok (.aload_n 0, 1) := by decide +kernel
theorem dX10_ice_22 : decode cX10_ice 22 = .ok (.iload_n 1, 1) := by decide +kernel
theorem dX10_ice_23 : decode cX10_ice 23 = .ok (.putfield 16, 3) := by decide +kernel
theorem dX10_ice_26 : decode cX10_ice 26 = .ok (.aload_n 0, 1) := by decide +kernel
theorem dX10_ice_27 : decode cX10_ice 27 = .ok (.iload_n 2, 1) := by decide +kernel
theorem dX10_ice_28 : decode cX10_ice 28 = .ok (.putfield 141, 3) := by decide +kernel
theorem dX10_ice_31 : decode cX10_ice 31 = .ok (.iconst 1, 1) := by decide +kernel
theorem dX10_ice_32 : decode cX10_ice 32 = .ok (.ireturn, 1) := by decide +kernel
theorem dX10_hasIce_0 : decode cX10_hasIce 0 = .ok (.aload_n 0, 1) := by decide +kernel
theorem dX10_hasIce_1 : decode cX10_hasIce 1 = .ok (.getfield 144, 3) := by decide +kernel
theorem dX10_hasIce_4 : decode cX10_hasIce 4 = .ok (.aload_n 0, 1) := by decide +kernel
theorem dX10_hasIce_5 : decode cX10_hasIce 5 = .ok (.getfield 16, 3) := by decide +kernel
theorem dX10_hasIce_8 : decode cX10_hasIce 8 = .ok (.if_icmp .lt 15, 3) := by decide +kernel
theorem dX10_hasIce_11 : decode cX10_hasIce 11 = .ok (.iload_n 1, 1) := by decide +kernel
theorem dX10_hasIce_12 : decode cX10_hasIce 12 = .ok (.aload_n 0, 1) := by decide +kernel
theorem dX10_hasIce_13 : decode cX10_hasIce 13 = .ok (.getfield 141, 3) := by decide +kernel
theorem dX10_hasIce_16 : decode cX10_hasIce 16 = .ok (.if_icmp .lt 7, 3) := by decide +kernel
theorem dX10_hasIce_19 : decode cX10_hasIce 19 = .ok (.iconst 1, 1) := by decide +kernel
theorem dX10_hasIce_20 : decode cX10_hasIce 20 = .ok (.goto 4, 3) := by decide +kernel
theorem dX10_hasIce_23 : decode cX10_hasIce 23 = .ok (.iconst 0, 1) := by decide +kernel
theorem dX10_hasIce_24 : decode cX10_hasIce 24 = .ok (.ireturn, 1) := by decide +kernel
set_option maxRecDepth 20000 in
theorem ggX10_squadron_X10_isCounty : GoodIn wsX10_squadron wsX10_isCounty := goodIn_r _ [11, 12, 13, 10, 14] (by decide +kernel) (by decide +kernel)
set_option maxRecDepth 20000 in
theorem gX10_squadron_X10_isCounty : GoodIn wsX10_squadron (va_wsS RX10 147 yX10_isCounty wsX10_isCounty) := goodIn_app (goodIn_of _ (by decide +kernel)) ggX10_squadron_X10_isCounty
set_option maxRecDepth 20000 in
theorem ggX10_squadron_X10_isIn : GoodIn wsX10_squadron wsX10_isIn := goodIn_r _ [14] (by decide +kernel) (by decide +kernel)
set_option maxRecDepth 20000 in
theorem gX10_squadron_X10_isIn : GoodIn wsX10_squadron (va_wsS RX10 124 yX10_isIn wsX10_isIn) := goodIn_app (goodIn_of _ (by decide +kernel)) ggX10_squadron_X10_isIn
theorem dX10_squadron_0 : decode cX10_squadron 0 = .ok (.iload_n 1, 1) := by decide +kernel
theorem dX10_squadron_1 : decode cX10_squadron 1 = .ok (.invokestatic 147, 3) := by decide +kernel
theorem dX10_squadron_4 : decode cX10_squadron 4 = .ok (.ifCond .eq 45, 3) := by decide +kernel
theorem dX10_squadron_7 : decode cX10_squadron 7 = .ok (.iload_n 2, 1) := by decide +kernel
theorem dX10_squadron_8 : decode cX10_squadron 8 = .ok (.iconst 1, 1) := by decide +kernel
theorem dX10_squadron_9 : decode cX10_squadron 9 = .ok (.bipush 50, 2) := by decide +kernel
theorem dX10_squadron_11 : decode cX10_squadron 11 = .ok (.invokestatic 124, 3) := by decide +kernel
theorem dX10_squadron_14 : decode cX10_squadron 14 = .ok (.ifCond .eq 35, 3) := by decide +kernel
theorem dX10_squadron_17 : decode cX10_squadron 17 = .ok (.iload_n 3, 1) := by decide +kernel
theorem dX10_squadron_18 : decode cX10_squadron 18 = .ok (.iconst 0, 1) := by decide +kernel
theorem dX10_squadron_19 : decode cX10_squadron 19 = .ok (.sipush 5000, 3) := by decide +kernel
theorem dX10_squadron_22 : decode cX10_squadron 22 = .ok (.invokestatic 124, 3) := by decide +kernel
theorem dX10_squadron_25 : decode cX10_squadron 25 = .ok (.ifCond .eq 24, 3) := by decide +kernel
theorem dX10_squadron_28 : decode cX10_squadron 28 = .ok (.iload 4, 2) := by decide +kernel
theorem dX10_squadron_30 : decode cX10_squadron 30 = .ok (.iconst 0, 1) := by decide +kernel
theorem dX10_squadron_31 : decode cX10_squadron 31 = .ok (.sipush 2000, 3) := by decide +kernel
theorem dX10_squadron_34 : decode cX10_squadron 34 = .ok (.invokestatic 124, 3) := by decide +kernel
theorem dX10_squadron_37 : decode cX10_squadron 37 = .ok (.ifCond .eq 12, 3) := by decide +kernel
theorem dX10_squadron_40 : decode cX10_squadron 40 = .ok (.aload_n 0, 1) := by decide +kernel
theorem dX10_squadron_41 : decode cX10_squadron 41 = .ok (.getfield 128, 3) := by decide +kernel
theorem dX10_squadron_44 : decode cX10_squadron 44 = .ok (.bipush 12, 2) := by decide +kernel
theorem dX10_squadron_46 : decode cX10_squadron 46 = .ok (.if_icmp .ne 5, 3) := by decide +kernel
theorem dX10_squadron_49 : decode cX10_squadron 49 = .ok (.iconst (-1), 1) := by decide +kernel
theorem dX10_squadron_50 : decode cX10_squadron 50 = .ok (.ireturn, 1) := by decide +kernel
theorem dX10_squadron_51 : decode cX10_squadron 51 = .ok (.aload_n 0, 1) := by decide +kernel
theorem dX10_squadron_52 : decode cX10_squadron 52 = .ok (.getfield 128, 3) := by decide +kernel
theorem dX10_squadron_55 : decode cX10_squadron 55 = .ok (.istore 5, 2) := by decide +kernel
theorem dX10_squadron_57 : decode cX10_squadron 57 = .ok (.aload_n 0, 1) := by decide +kernel
theorem dX10_squadron_58 : decode cX10_squadron 58 = .ok (.dup, 1) := by decide +kernel
theorem dX10_squadron_59 : decode cX10_squadron 59 = .ok (.getfield 128, 3) := by decide +kernel
theorem dX10_squadron_62 : decode cX10_squadron 62 = .ok (.iconst 1, 1) := by decide +kernel
theorem dX10_squadron_63 : decode cX10_squadron 63 = .ok (.iadd, 1) := by decide +kernel
theorem dX10_squadron_64 : decode cX10_squadron 64 = .ok (.putfield 128, 3) := by decide +kernel
theorem dX10_squadron_67 : decode cX10_squadron 67 = .ok (.aload_n 0, 1) := by decide +kernel
theorem dX10_squadron_68 : decode cX10_squadron 68 = .ok (.getfield 29, 3) := by decide +kernel
theorem dX10_squadron_71 : decode cX10_squadron 71 = .ok (.iload 5, 2) := by decide +kernel
theorem dX10_squadron_73 : decode cX10_squadron 73 = .ok (.iload_n 1, 1) := by decide +kernel
theorem dX10_squadron_74 : decode cX10_squadron 74 = .ok (.iastore, 1) := by decide +kernel
theorem dX10_squadron_75 : decode cX10_squadron 75 = .ok (.aload_n 0, 1) := by decide +kernel
theorem dX10_squadron_76 : decode cX10_squadron 76 = .ok (.getfield 32, 3) := by decide +kernel
theorem dX10_squadron_79 : decode cX10_squadron 79 = .ok (.iload 5, 2) := by decide +kernel
theorem dX10_squadron_81 : decode cX10_squadron 81 = .ok (.iload_n 2, 1) := by decide +kernel
theorem dX10_squadron_82 : decode cX10_squadron 82 = .ok (.iastore, 1) := by decide +kernel
theorem dX10_squadron_83 : decode cX10_squadron 83 = .ok (.aload_n 0, 1) := by decide +kernel
theorem dX10_squadron_84 : decode cX10_squadron 84 = .ok (.getfield 35, 3) := by decide +kernel
theorem dX10_squadron_87 : decode cX10_squadron 87 = .ok (.iload 5, 2) := by decide +kernel
theorem dX10_squadron_89 : decode cX10_squadron 89 = .ok (.iload_n 3, 1) := by decide +kernel
theorem dX10_squadron_90 : decode cX10_squadron 90 = .ok (.iastore, 1) := by decide +kernel
theorem dX10_squadron_91 : decode cX10_squadron 91 = .ok (.aload_n 0, 1) := by decide +kernel
theorem dX10_squadron_92 : decode cX10_squadron 92 = .ok (.getfield 41, 3) := by decide +kernel
theorem dX10_squadron_95 : decode cX10_squadron 95 = .ok (.iload 5, 2) := by decide +kernel
theorem dX10_squadron_97 : decode cX10_squadron 97 = .ok (.iload 4, 2) := by decide +kernel
theorem dX10_squadron_99 : decode cX10_squadron 99 = .ok (.iastore, 1) := by decide +kernel
theorem dX10_squadron_100 : decode cX10_squadron 100 = .ok (.aload_n 0, 1) := by decide +kernel
theorem dX10_squadron_101 : decode cX10_squadron 101 = .ok (.getfield 47, 3) := by decide +kernel
theorem dX10_squadron_104 : decode cX10_squadron 104 = .ok (.iload 5, 2) := by decide +kernel
theorem dX10_squadron_106 : decode cX10_squadron 106 = .ok (.iconst (-1), 1) := by decide +kernel
theorem dX10_squadron_107 : decode cX10_squadron 107 = .ok (.iastore, 1) := by decide +kernel
theorem dX10_squadron_108 : decode cX10_squadron 108 = .ok (.aload_n 0, 1) := by decide +kernel
theorem dX10_squadron_109 : decode cX10_squadron 109 = .ok (.getfield 53, 3) := by decide +kernel
theorem dX10_squadron_112 : decode cX10_squadron 112 = .ok (.iload 5, 2) := by decide +kernel
theorem dX10_squadron_114 : decode cX10_squadron 114 = .ok (.sipush 400, 3) := by decide +kernel
theorem dX10_squadron_117 : decode cX10_squadron 117 = .ok (.iastore, 1) := by decide +kernel
theorem dX10_squadron_118 : decode cX10_squadron 118 = .ok (.iload 5, 2) := by decide +kernel
theorem dX10_squadron_120 : decode cX10_squadron 120 = .ok (.ireturn, 1) := by decide +kernel
set_option maxRecDepth 20000 in
theorem ggX10_feed_X10_four : GoodIn wsX10_feed wsX10_four := goodIn_r _ [6, 7, 1, 8, 9, 10, 11, 12, 13, 14, 15, 16, 17, 18, 19, 20, 21, 22, 23, 24, 25, 26, 27, 28, 29, 30, 31, 32, 33, 34, 35, 36, 37, 38, 39, 40, 41, 42, 43, 44, 45, 46, 47, 48, 49, 50, 51, 52] (by decide +kernel) (by decide +kernel)
set_option maxRecDepth 20000 in
theorem gX10_feed_X10_four : GoodIn wsX10_feed (wsV RX10 153 RX10 yX10_four wsX10_four) := goodIn_app (goodIn_of _ (by decide +kernel)) ggX10_feed_X10_four
theorem dX10_feed_0 : decode cX10_feed 0 = .ok (.aload_n 0, 1) := by decide +kernel
theorem dX10_feed_1 : decode cX10_feed 1 = .ok (.getfield 150, 3) := by decide +kernel
theorem dX10_feed_4 : decode cX10_feed 4 = .ok (.bipush 20, 2) := by decide +kernel
theorem dX10_feed_6 : decode cX10_feed 6 = .ok (.iadd, 1) := by decide +kernel
theorem dX10_feed_7 : decode cX10_feed 7 = .ok (.sipush 400, 3) := by decide +kernel
theorem dX10_feed_10 : decode cX10_feed 10 = .ok (.if_icmp .le 5, 3) := by decide +kernel
theorem dX10_feed_13 : decode cX10_feed 13 = .ok (.iconst (-1), 1) := by decide +kernel
theorem dX10_feed_14 : decode cX10_feed 14 = .ok (.ireturn, 1) := by decide +kernel
theorem dX10_feed_15 : decode cX10_feed 15 = .ok (.aload_n 0, 1) := by decide +kernel
theorem dX10_feed_16 : decode cX10_feed 16 = .ok (.iload_n 1, 1) := by decide +kernel
theorem dX10_feed_17 : decode cX10_feed 17 = .ok (.invokevirtual 153, 3) := by decide +kernel
theorem dX10_feed_20 : decode cX10_feed 20 = .ok (.aload_n 0, 1) := by decide +kernel
theorem dX10_feed_21 : decode cX10_feed 21 = .ok (.iload_n 2, 1) := by decide +kernel
theorem dX10_feed_22 : decode cX10_feed 22 = .ok (.invokevirtual 153, 3) := by decide +kernel
theorem dX10_feed_25 : decode cX10_feed 25 = .ok (.aload_n 0, 1) := by decide +kernel
theorem dX10_feed_26 : decode cX10_feed 26 = .ok (.iload_n 3, 1) := by decide +kernel
theorem dX10_feed_27 : decode cX10_feed 27 = .ok (.invokevirtual 153, 3) := by decide +kernel
theorem dX10_feed_30 : decode cX10_feed 30 = .ok (.aload_n 0, 1) := by decide +kernel
theorem dX10_feed_31 : decode cX10_feed 31 = .ok (.iload 4, 2) := by decide +kernel
theorem dX10_feed_33 : decode cX10_feed 33 = .ok (.invokevirtual 153, 3) := by decide +kernel
theorem dX10_feed_36 : decode cX10_feed 36 = .ok (.aload_n 0, 1) := by decide +kernel
theorem dX10_feed_37 : decode cX10_feed 37 = .ok (.iload 5, 2) := by decide +kernel
theorem dX10_feed_39 : decode cX10_feed 39 = .ok (.invokevirtual 153, 3) := by decide +kernel
theorem dX10_feed_42 : decode cX10_feed 42 = .ok (.aload_n 0, 1) := by decide +kernel
theorem dX10_feed_43 : decode cX10_feed 43 = .ok (.getfield 150, 3) := by decide +kernel
theorem dX10_feed_46 : decode cX10_feed 46 = .ok (.ireturn, 1) := by decide +kernel
theorem dX10_four_0 : decode cX10_four 0 = .ok (.bipush 24, 2) := by decide +kernel
theorem dX10_four_2 : decode cX10_four 2 = .ok (.istore_n 2, 1) := by decide +kernel
theorem dX10_four_3 : decode cX10_four 3 = .ok (.iload_n 2, 1) := by decide +kernel
theorem dX10_four_4 : decode cX10_four 4 = .ok (.ifCond .lt 32, 3) := by decide +kernel
theorem dX10_four_7 : decode cX10_four 7 = .ok (.aload_n 0, 1) := by decide +kernel
theorem dX10_four_8 : decode cX10_four 8 = .ok (.getfield 75, 3) := by decide +kernel
theorem dX10_four_11 : decode cX10_four 11 = .ok (.aload_n 0, 1) := by decide +kernel
theorem dX10_four_12 : decode cX10_four 12 = .ok (.getfield 150, 3) := by decide +kernel
theorem dX10_four_15 : decode cX10_four 15 = .ok (.iload_n 1, 1) := by decide +kernel
theorem dX10_four_16 : decode cX10_four 16 = .ok (.iload_n 2, 1) := by decide +kernel
theorem dX10_four_17 : decode cX10_four 17 = .ok (.ishr, 1) := by decide +kernel
theorem dX10_four_18 : decode cX10_four 18 = .ok (.i2b, 1) := by decide +kernel
theorem dX10_four_19 : decode cX10_four 19 = .ok (.bastore, 1) := by decide +kernel
theorem dX10_four_20 : decode cX10_four 20 = .ok (.aload_n 0, 1) := by decide +kernel
theorem dX10_four_21 : decode cX10_four 21 = .ok (.dup, 1) := by decide +kernel
theorem dX10_four_22 : decode cX10_four 22 = .ok (.getfield 150, 3) := by decide +kernel
theorem dX10_four_25 : decode cX10_four 25 = .ok (.iconst 1, 1) := by decide +kernel
theorem dX10_four_26 : decode cX10_four 26 = .ok (.iadd, 1) := by decide +kernel
theorem dX10_four_27 : decode cX10_four 27 = .ok (.putfield 150, 3) := by decide +kernel
theorem dX10_four_30 : decode cX10_four 30 = .ok (.iinc 2 (-8), 3) := by decide +kernel
theorem dX10_four_33 : decode cX10_four 33 = .ok (.goto (-30), 3) := by decide +kernel
theorem dX10_four_36 : decode cX10_four 36 = .ok (.return_, 1) := by decide +kernel
theorem dX10_blanks_0 : decode cX10_blanks 0 = .ok (.aload_n 0, 1) := by decide +kernel
theorem dX10_blanks_1 : decode cX10_blanks 1 = .ok (.getfield 157, 3) := by decide +kernel
theorem dX10_blanks_4 : decode cX10_blanks 4 = .ok (.aload_n 0, 1) := by decide +kernel
theorem dX10_blanks_5 : decode cX10_blanks 5 = .ok (.getfield 160, 3) := by decide +kernel
theorem dX10_blanks_8 : decode cX10_blanks 8 = .ok (.if_icmp .ge 44, 3) := by decide +kernel
theorem dX10_blanks_11 : decode cX10_blanks 11 = .ok (.aload_n 0, 1) := by decide +kernel
theorem dX10_blanks_12 : decode cX10_blanks 12 = .ok (.getfield 79, 3) := by decide +kernel
theorem dX10_blanks_15 : decode cX10_blanks 15 = .ok (.aload_n 0, 1) := by decide +kernel
theorem dX10_blanks_16 : decode cX10_blanks 16 = .ok (.getfield 157, 3) := by decide +kernel
theorem dX10_blanks_19 : decode cX10_blanks 19 = .ok (.baload, 1) := by decide +kernel
theorem dX10_blanks_20 : decode cX10_blanks 20 = .ok (.bipush 32, 2) := by decide +kernel
theorem dX10_blanks_22 : decode cX10_blanks 22 = .ok (.if_icmp .eq 17, 3) := by decide +kernel
theorem dX10_blanks_25 : decode cX10_blanks 25 = .ok (.aload_n 0, 1) := by decide +kernel
theorem dX10_blanks_26 : decode cX10_blanks 26 = .ok (.getfield 79, 3) := by decide +kernel
theorem dX10_blanks_29 : decode cX10_blanks 29 = .ok (.aload_n 0, 1) := by decide +kernel
theorem dX10_blanks_30 : decode cX10_blanks 30 = .ok (.getfield 157, 3) := by decide +kernel
theorem dX10_blanks_33 : decode cX10_blanks 33 = .ok (.baload, 1) := by decide +kernel
theorem dX10_blanks_34 : decode cX10_blanks 34 = .ok (.bipush 10, 2) := by decide +kernel
theorem dX10_blanks_36 : decode cX10_blanks 36 = .ok (.if_icmp .ne 16, 3) := by decide +kernel
theorem dX10_blanks_39 : decode cX10_blanks 39 = .ok (.aload_n 0, 1) := by decide +kernel
theorem dX10_blanks_40 : decode cX10_blanks 40 = .ok (.dup, 1) := by decide +kernel
theorem dX10_blanks_41 : decode cX10_blanks 41 = .ok (.getfield 157, 3) := by decide +kernel
theorem dX10_blanks_44 : decode cX10_blanks 44 = .ok (.iconst 1, 1) := by decide +kernel
theorem dX10_blanks_45 : decode cX10_blanks 45 = .ok (.iadd, 1) := by decide +kernel
theorem dX10_blanks_46 : decode cX10_blanks 46 = .ok (.putfield 157, 3) := by decide +kernel
theorem dX10_blanks_49 : decode cX10_blanks 49 = .ok (.goto (-49), 3) := by decide +kernel
theorem dX10_blanks_52 : decode cX10_blanks 52 = .ok (.return_, 1) := by decide +kernel
set_option maxRecDepth 20000 in
theorem ggX10_word_X10_blanks : GoodIn wsX10_word wsX10_blanks := goodIn_r _ [9, 1, 3, 4, 10, 11, 12, 13, 14, 15, 16, 17, 18, 19, 20, 21, 22, 23, 24, 25, 26, 27, 28, 29, 30, 31, 32, 33, 34, 35, 36, 37, 38, 39, 40, 41, 42, 43, 44, 45, 46, 47, 48, 49, 50, 51, 52, 53, 54] (by decide +kernel) (by decide +kernel)
set_option maxRecDepth 20000 in
theorem gX10_word_X10_blanks : GoodIn wsX10_word (wsV RX10 163 RX10 yX10_blanks wsX10_blanks) := goodIn_app (goodIn_of _ (by decide +kernel)) ggX10_word_X10_blanks
theorem dX10_word_0 : decode cX10_word 0 = .ok (.aload_n 0, 1) := by decide +kernel
theorem dX10_word_1 : decode cX10_word 1 = .ok (.invokevirtual 163, 3) := by decide +kernel
theorem dX10_word_4 : decode cX10_word 4 = .ok (.aload_n 0, 1) := by decide +kernel
theorem dX10_word_5 : decode cX10_word 5 = .ok (.aload_n 0, 1) := by decide +kernel
theorem dX10_word_6 : decode cX10_word 6 = .ok (.getfield 157, 3) := by decide +kernel
theorem dX10_word_9 : decode cX10_word 9 = .ok (.putfield 166, 3) := by decide +kernel
theorem dX10_word_12 : decode cX10_word 12 = .ok (.lconst 0, 1) := by decide +kernel
theorem dX10_word_13 : decode cX10_word 13 = .ok (.lstore_n 1, 1) := by decide +kernel
theorem dX10_word_14 : decode cX10_word 14 = .ok (.aload_n 0, 1) := by decide +kernel
theorem dX10_word_15 : decode cX10_word 15 = .ok (.getfield 166, 3) := by decide +kernel
theorem dX10_word_18 : decode cX10_word 18 = .ok (.aload_n 0, 1) := by decide +kernel
theorem dX10_word_19 : decode cX10_word 19 = .ok (.getfield 160, 3) := by decide +kernel
theorem dX10_word_22 : decode cX10_word 22 = .ok (.if_icmp .ge 78, 3) := by decide +kernel
theorem dX10_word_25 : decode cX10_word 25 = .ok (.aload_n 0, 1) := by decide +kernel
theorem dX10_word_26 : decode cX10_word 26 = .ok (.getfield 79, 3) := by decide +kernel
theorem dX10_word_29 : decode cX10_word 29 = .ok (.aload_n 0, 1) := by decide +kernel
theorem dX10_word_30 : decode cX10_word 30 = .ok (.getfield 166, 3) := by decide +kernel
theorem dX10_word_33 : decode cX10_word 33 = .ok (.baload, 1) := by decide +kernel
theorem dX10_word_34 : decode cX10_word 34 = .ok (.bipush 97, 2) := by decide +kernel
theorem dX10_word_36 : decode cX10_word 36 = .ok (.if_icmp .lt 64, 3) := by decide +kernel
theorem dX10_word_39 : decode cX10_word 39 = .ok (.aload_n 0, 1) := by decide +kernel
theorem dX10_word_40 : decode cX10_word 40 = .ok (.getfield 79, 3) := by decide +kernel
theorem dX10_word_43 : decode cX10_word 43 = .ok (.aload_n 0, 1) := by decide +kernel
theorem dX10_word_44 : decode cX10_word 44 = .ok (.getfield 166, 3) := by decide +kernel
theorem dX10_word_47 : decode cX10_word 47 = .ok (.baload, 1) := by decide +kernel
theorem dX10_word_48 : decode cX10_word 48 = .ok (.bipush 122, 2) := by decide +kernel
theorem dX10_word_50 : decode cX10_word 50 = .ok (.if_icmp .gt 50, 3) := by decide +kernel
theorem dX10_word_53 : decode cX10_word 53 = .ok (.aload_n 0, 1) := by decide +kernel
theorem dX10_word_54 : decode cX10_word 54 = .ok (.getfield 166, 3) := by decide +kernel
theorem dX10_word_57 : decode cX10_word 57 = .ok (.aload_n 0, 1) := by decide +kernel
theorem dX10_word_58 : decode cX10_word 58 = .ok (.getfield 157, 3) := by decide +kernel
theorem dX10_word_61 : decode cX10_word 61 = .ok (.isub, 1) := by decide +kernel
theorem dX10_word_62 : decode cX10_word 62 = .ok (.bipush 7, 2) := by decide +kernel
theorem dX10_word_64 : decode cX10_word 64 = .ok (.if_icmp .ge 21, 3) := by decide +kernel
theorem dX10_word_67 : decode cX10_word 67 = .ok (.lload_n 1, 1) := by decide +kernel
theorem dX10_word_68 : decode cX10_word 68 = .ok (.bipush 8, 2) := by decide +kernel
theorem dX10_word_70 : decode cX10_word 70 = .ok (.lshl, 1) := by decide +kernel
theorem dX10_word_71 : decode cX10_word 71 = .ok (.aload_n 0, 1) := by decide +kernel
theorem dX10_word_72 : decode cX10_word 72 = .ok (.getfield 79, 3) := by decide +kernel
theorem dX10_word_75 : decode cX10_word 75 = .ok (.aload_n 0, 1) := by decide +kernel
theorem dX10_word_76 : decode cX10_word 76 = .ok (.getfield 166, 3) := by decide +kernel
theorem dX10_word_79 : decode cX10_word 79 = .ok (.baload, 1) := by decide +kernel
theorem dX10_word_80 : decode cX10_word 80 = .ok (.i2l, 1) := by decide +kernel
theorem dX10_word_81 : decode cX10_word 81 = .ok (.lor, 1) := by decide +kernel
theorem dX10_word_82 : decode cX10_word 82 = .ok (.goto 4, 3) := by decide +kernel
theorem dX10_word_85 : decode cX10_word 85 = .ok (.lconst 0, 1) := by decide +kernel
theorem dX10_word_86 : decode cX10_word 86 = .ok (.lstore_n 1, 1) := by decide +kernel
theorem dX10_word_87 : decode cX10_word 87 = .ok (.aload_n 0, 1) := by decide +kernel
theorem dX10_word_88 : decode cX10_word 88 = .ok (.dup, 1) := by decide +kernel
theorem dX10_word_89 : decode cX10_word 89 = .ok (.getfield 166, 3) := by decide +kernel
theorem dX10_word_92 : decode cX10_word 92 = .ok (.iconst 1, 1) := by decide +kernel
theorem dX10_word_93 : decode cX10_word 93 = .ok (.iadd, 1) := by decide +kernel
theorem dX10_word_94 : decode cX10_word 94 = .ok (.putfield 166, 3) := by decide +kernel
theorem dX10_word_97 : decode cX10_word 97 = .ok (.goto (-83), 3) := by decide +kernel
theorem dX10_word_100 : decode cX10_word 100 = .ok (.aload_n 0, 1) := by decide +kernel
theorem dX10_word_101 : decode cX10_word 101 = .ok (.getfield 166, 3) := by decide +kernel
theorem dX10_word_104 : decode cX10_word 104 = .ok (.aload_n 0, 1) := by decide +kernel
theorem dX10_word_105 : decode cX10_word 105 = .ok (.getfield 157, 3) := by decide +kernel
theorem dX10_word_108 : decode cX10_word 108 = .ok (.isub, 1) := by decide +kernel
theorem dX10_word_109 : decode cX10_word 109 = .ok (.bipush 7, 2) := by decide +kernel
theorem dX10_word_111 : decode cX10_word 111 = .ok (.if_icmp .le 7, 3) := by decide +kernel
theorem dX10_word_114 : decode cX10_word 114 = .ok (.lconst 0, 1) := by decide +kernel
theorem dX10_word_115 : decode cX10_word 115 = .ok (.goto 4, 3) := by decide +kernel
theorem dX10_word_118 : decode cX10_word 118 = .ok (.lload_n 1, 1) := by decide +kernel
theorem dX10_word_119 : decode cX10_word 119 = .ok (.lreturn, 1) := by decide +kernel
set_option maxRecDepth 20000 in
theorem ggX10_takes_X10_word : GoodIn wsX10_takes wsX10_word := goodIn_r _ [7, 2, 1, 8, 9, 10, 11, 12, 6, 13, 14, 15, 16, 17, 18, 19, 20, 21, 22, 23, 24, 25, 26, 27, 28, 29, 30, 31, 32, 33, 34, 35, 36, 37, 38, 39, 40, 41, 42, 43, 44, 45, 46, 47, 48, 49, 50, 51, 52, 53, 54, 55, 56, 57, 58] (by decide +kernel) (by decide +kernel)
set_option maxRecDepth 20000 in
theorem gX10_takes_X10_word : GoodIn wsX10_takes (wsV RX10 169 RX10 yX10_word wsX10_word) := goodIn_app (goodIn_of _ (by decide +kernel)) ggX10_takes_X10_word
theorem dX10_takes_0 : decode cX10_takes 0 = .ok (.aload_n 0, 1) := by decide +kernel
theorem dX10_takes_1 : decode cX10_takes 1 = .ok (.invokevirtual 169, 3) := by decide +kernel
theorem dX10_takes_4 : decode cX10_takes 4 = .ok (.lload_n 1, 1) := by decide +kernel
theorem dX10_takes_5 : decode cX10_takes 5 = .ok (.lcmp, 1) := by decide +kernel
theorem dX10_takes_6 : decode cX10_takes 6 = .ok (.ifCond .eq 5, 3) := by decide +kernel
theorem dX10_takes_9 : decode cX10_takes 9 = .ok (.iconst 0, 1) := by decide +kernel
theorem dX10_takes_10 : decode cX10_takes 10 = .ok (.ireturn, 1) := by decide +kernel
theorem dX10_takes_11 : decode cX10_takes 11 = .ok (.aload_n 0, 1) := by decide +kernel
theorem dX10_takes_12 : decode cX10_takes 12 = .ok (.aload_n 0, 1) := by decide +kernel
theorem dX10_takes_13 : decode cX10_takes 13 = .ok (.getfield 166, 3) := by decide +kernel
theorem dX10_takes_16 : decode cX10_takes 16 = .ok (.putfield 157, 3) := by decide +kernel
theorem dX10_takes_19 : decode cX10_takes 19 = .ok (.iconst 1, 1) := by decide +kernel
theorem dX10_takes_20 : decode cX10_takes 20 = .ok (.ireturn, 1) := by decide +kernel
set_option maxRecDepth 20000 in
theorem ggX10_takesNumber_X10_blanks : GoodIn wsX10_takesNumber wsX10_blanks := goodIn_r _ [9, 1, 3, 4, 10, 11, 12, 13, 14, 15, 16, 17, 18, 19, 20, 21, 22, 23, 24, 25, 26, 27, 28, 29, 30, 31, 32, 33, 34, 35, 36, 37, 38, 39, 40, 41, 42, 43, 44, 45, 46, 47, 48, 49, 50, 51, 52, 53, 54] (by decide +kernel) (by decide +kernel)
set_option maxRecDepth 20000 in
theorem gX10_takesNumber_X10_blanks : GoodIn wsX10_takesNumber (wsV RX10 163 RX10 yX10_blanks wsX10_blanks) := goodIn_app (goodIn_of _ (by decide +kernel)) ggX10_takesNumber_X10_blanks
theorem dX10_takesNumber_0 : decode cX10_takesNumber 0 = .ok (.aload_n 0, 1) := by decide +kernel
theorem dX10_takesNumber_1 : decode cX10_takesNumber 1 = .ok (.invokevirtual 163, 3) := by decide +kernel
theorem dX10_takesNumber_4 : decode cX10_takesNumber 4 = .ok (.aload_n 0, 1) := by decide +kernel
theorem dX10_takesNumber_5 : decode cX10_takesNumber 5 = .ok (.getfield 157, 3) := by decide +kernel
theorem dX10_takesNumber_8 : decode cX10_takesNumber 8 = .ok (.istore_n 1, 1) := by decide +kernel
theorem dX10_takesNumber_9 : decode cX10_takesNumber 9 = .ok (.aload_n 0, 1) := by decide +kernel
theorem dX10_takesNumber_10 : decode cX10_takesNumber 10 = .ok (.iconst 0, 1) := by decide +kernel
theorem dX10_takesNumber_11 : decode cX10_takesNumber 11 = .ok (.putfield 173, 3) := by decide +kernel
theorem dX10_takesNumber_14 : decode cX10_takesNumber 14 = .ok (.iload_n 1, 1) := by decide +kernel
theorem dX10_takesNumber_15 : decode cX10_takesNumber 15 = .ok (.aload_n 0, 1) := by decide +kernel
theorem dX10_takesNumber_16 : decode cX10_takesNumber 16 = .ok (.getfield 160, 3) := by decide +kernel
theorem dX10_takesNumber_19 : decode cX10_takesNumber 19 = .ok (.if_icmp .ge 62, 3) := by decide +kernel
theorem dX10_takesNumber_22 : decode cX10_takesNumber 22 = .ok (.aload_n 0, 1) := by decide +kernel
theorem dX10_takesNumber_23 : decode cX10_takesNumber 23 = .ok (.getfield 79, 3) := by decide +kernel
theorem dX10_takesNumber_26 : decode cX10_takesNumber 26 = .ok (.iload_n 1, 1) := by decide +kernel
theorem dX10_takesNumber_27 : decode cX10_takesNumber 27 = .ok (.baload, 1) := by decide +kernel
theorem dX10_takesNumber_28 : decode cX10_takesNumber 28 = .ok (.bipush 48, 2) := by decide +kernel
theorem dX10_takesNumber_30 : decode cX10_takesNumber 30 = .ok (.if_icmp .lt 51, 3) := by decide +kernel
theorem dX10_takesNumber_33 : decode cX10_takesNumber 33 = .ok (.aload_n 0, 1) := by decide +kernel
theorem dX10_takesNumber_34 : decode cX10_takesNumber 34 = .ok (.getfield 79, 3) := by decide +kernel
theorem dX10_takesNumber_37 : decode cX10_takesNumber 37 = .ok (.iload_n 1, 1) := by decide +kernel
theorem dX10_takesNumber_38 : decode cX10_takesNumber 38 = .ok (.baload, 1) := by decide +kernel
theorem dX10_takesNumber_39 : decode cX10_takesNumber 39 = .ok (.bipush 57, 2) := by decide +kernel
theorem dX10_takesNumber_41 : decode cX10_takesNumber 41 = .ok (.if_icmp .gt 40, 3) := by decide +kernel
theorem dX10_takesNumber_44 : decode cX10_takesNumber 44 = .ok (.iload_n 1, 1) := by decide +kernel
theorem dX10_takesNumber_45 : decode cX10_takesNumber 45 = .ok (.aload_n 0, 1) := by decide +kernel
theorem dX10_takesNumber_46 : decode cX10_takesNumber 46 = .ok (.getfield 157, 3) := by decide +kernel
theorem dX10_takesNumber_49 : decode cX10_takesNumber 49 = .ok (.isub, 1) := by decide +kernel
theorem dX10_takesNumber_50 : decode cX10_takesNumber 50 = .ok (.iconst 3, 1) := by decide +kernel
theorem dX10_takesNumber_51 : decode cX10_takesNumber 51 = .ok (.if_icmp .ge 24, 3) := by decide +kernel
theorem dX10_takesNumber_54 : decode cX10_takesNumber 54 = .ok (.aload_n 0, 1) := by decide +kernel
theorem dX10_takesNumber_55 : decode cX10_takesNumber 55 = .ok (.bipush 10, 2) := by decide +kernel
theorem dX10_takesNumber_57 : decode cX10_takesNumber 57 = .ok (.aload_n 0, 1) := by decide +kernel
theorem dX10_takesNumber_58 : decode cX10_takesNumber 58 = .ok (.getfield 173, 3) := by decide +kernel
theorem dX10_takesNumber_61 : decode cX10_takesNumber 61 = .ok (.imul, 1) := by decide +kernel
theorem dX10_takesNumber_62 : decode cX10_takesNumber 62 = .ok (.aload_n 0, 1) := by decide +kernel
theorem dX10_takesNumber_63 : decode cX10_takesNumber 63 = .ok (.getfield 79, 3) := by decide +kernel
theorem dX10_takesNumber_66 : decode cX10_takesNumber 66 = .ok (.iload_n 1, 1) := by decide +kernel
theorem dX10_takesNumber_67 : decode cX10_takesNumber 67 = .ok (.baload, 1) := by decide +kernel
theorem dX10_takesNumber_68 : decode cX10_takesNumber 68 = .ok (.iadd, 1) := by decide +kernel
theorem dX10_takesNumber_69 : decode cX10_takesNumber 69 = .ok (.bipush 48, 2) := by decide +kernel
theorem dX10_takesNumber_71 : decode cX10_takesNumber 71 = .ok (.isub, 1) := by decide +kernel
theorem dX10_takesNumber_72 : decode cX10_takesNumber 72 = .ok (.putfield 173, 3) := by decide +kernel
theorem dX10_takesNumber_75 : decode cX10_takesNumber 75 = .ok (.iinc 1 1, 3) := by decide +kernel
theorem dX10_takesNumber_78 : decode cX10_takesNumber 78 = .ok (.goto (-64), 3) := by decide +kernel
theorem dX10_takesNumber_81 : decode cX10_takesNumber 81 = .ok (.iload_n 1, 1) := by decide +kernel
theorem dX10_takesNumber_82 : decode cX10_takesNumber 82 = .ok (.aload_n 0, 1) := by decide +kernel
theorem dX10_takesNumber_83 : decode cX10_takesNumber 83 = .ok (.getfield 157, 3) := by decide +kernel
theorem dX10_takesNumber_86 : decode cX10_takesNumber 86 = .ok (.if_icmp .eq 13, 3) := by decide +kernel
theorem dX10_takesNumber_89 : decode cX10_takesNumber 89 = .ok (.iload_n 1, 1) := by decide +kernel
theorem dX10_takesNumber_90 : decode cX10_takesNumber 90 = .ok (.aload_n 0, 1) := by decide +kernel
theorem dX10_takesNumber_91 : decode cX10_takesNumber 91 = .ok (.getfield 157, 3) := by decide +kernel
theorem dX10_takesNumber_94 : decode cX10_takesNumber 94 = .ok (.isub, 1) := by decide +kernel
theorem dX10_takesNumber_95 : decode cX10_takesNumber 95 = .ok (.iconst 3, 1) := by decide +kernel
theorem dX10_takesNumber_96 : decode cX10_takesNumber 96 = .ok (.if_icmp .le 5, 3) := by decide +kernel
theorem dX10_takesNumber_99 : decode cX10_takesNumber 99 = .ok (.iconst 0, 1) := by decide +kernel
theorem dX10_takesNumber_100 : decode cX10_takesNumber 100 = .ok (.ireturn, 1) := by decide +kernel
theorem dX10_takesNumber_101 : decode cX10_takesNumber 101 = .ok (.aload_n 0, 1) := by decide +kernel
theorem dX10_takesNumber_102 : decode cX10_takesNumber 102 = .ok (.iload_n 1, 1) := by decide +kernel
theorem dX10_takesNumber_103 : decode cX10_takesNumber 103 = .ok (.putfield 157, 3) := by decide +kernel
theorem dX10_takesNumber_106 : decode cX10_takesNumber 106 = .ok (.iconst 1, 1) := by decide +kernel
theorem dX10_takesNumber_107 : decode cX10_takesNumber 107 = .ok (.ireturn, 1) := by decide +kernel
set_option maxRecDepth 20000 in
theorem ggX10_statement_X10_takes : GoodIn wsX10_statement wsX10_takes := goodIn_r _ [21, 22, 14, 23, 24, 25, 20, 26, 15, 16, 27, 28, 29, 30, 35, 36, 37, 38, 39, 40, 41, 42, 43, 44, 45, 46, 47, 48, 49, 50, 51, 52, 53, 54, 55, 56, 57, 58, 59, 60, 61, 62, 63, 64, 65, 66, 67, 68, 69, 70, 71, 72, 73, 74, 75, 76, 77, 78, 79] (by decide +kernel) (by decide +kernel)
set_option maxRecDepth 20000 in
theorem gX10_statement_X10_takes : GoodIn wsX10_statement (wsV RX10 178 RX10 yX10_takes wsX10_takes) := goodIn_app (goodIn_of _ (by decide +kernel)) ggX10_statement_X10_takes
set_option maxRecDepth 20000 in
theorem ggX10_statement_X10_takesNumber : GoodIn wsX10_statement wsX10_takesNumber := goodIn_r _ [34, 14, 12, 15, 16, 27, 28, 29, 20, 30, 35, 36, 37, 38, 39, 40, 41, 42, 43, 44, 45, 46, 47, 48, 49, 50, 51, 52, 53, 54, 55, 56, 57, 58, 59, 60, 61, 62, 63, 64, 65, 66, 67, 68, 69, 70, 71, 72, 73, 74, 75, 76, 77, 78, 79] (by decide +kernel) (by decide +kernel)
set_option maxRecDepth 20000 in
theorem gX10_statement_X10_takesNumber : GoodIn wsX10_statement (wsV RX10 196 RX10 yX10_takesNumber wsX10_takesNumber) := goodIn_app (goodIn_of _ (by decide +kernel)) ggX10_statement_X10_takesNumber
set_option maxRecDepth 20000 in
theorem ggX10_statement_X10_blanks : GoodIn wsX10_statement wsX10_blanks := goodIn_r _ [30, 14, 15, 16, 35, 36, 37, 38, 39, 40, 41, 42, 43, 44, 45, 46, 47, 48, 49, 50, 51, 52, 53, 54, 55, 56, 57, 58, 59, 60, 61, 62, 63, 64, 65, 66, 67, 68, 69, 70, 71, 72, 73, 74, 75, 76, 77, 78, 79] (by decide +kernel) (by decide +kernel)
set_option maxRecDepth 20000 in
theorem gX10_statement_X10_blanks : GoodIn wsX10_statement (wsV RX10 163 RX10 yX10_blanks wsX10_blanks) := goodIn_app (goodIn_of _ (by decide +kernel)) ggX10_statement_X10_blanks
theorem dX10_statement_0 : decode cX10_statement 0 = .ok (.aload_n 0, 1) := by decide +kernel
theorem dX10_statement_1 : decode cX10_statement 1 = .ok (.getfield 94, 3) := by decide +kernel
theorem dX10_statement_4 : decode cX10_statement 4 = .ok (.iload_n 1, 1) := by decide +kernel
theorem dX10_statement_5 : decode cX10_statement 5 = .ok (.iconst 0, 1) := by decide +kernel
theorem dX10_statement_6 : decode cX10_statement 6 = .ok (.iastore, 1) := by decide +kernel
theorem dX10_statement_7 : decode cX10_statement 7 = .ok (.aload_n 0, 1) := by decide +kernel
theorem dX10_statement_8 : decode cX10_statement 8 = .ok (.ldc2_w 176, 3) := by decide +kernel
theorem dX10_statement_11 : decode cX10_statement 11 = .ok (.invokevirtual 178, 3) := by decide +kernel
theorem dX10_statement_14 : decode cX10_statement 14 = .ok (.ifCond .eq 71, 3) := by decide +kernel
theorem dX10_statement_17 : decode cX10_statement 17 = .ok (.aload_n 0, 1) := by decide +kernel
theorem dX10_statement_18 : decode cX10_statement 18 = .ok (.getfield 91, 3) := by decide +kernel
theorem dX10_statement_21 : decode cX10_statement 21 = .ok (.iload_n 1, 1) := by decide +kernel
theorem dX10_statement_22 : decode cX10_statement 22 = .ok (.iconst 0, 1) := by decide +kernel
theorem dX10_statement_23 : decode cX10_statement 23 = .ok (.iastore, 1) := by decide +kernel
theorem dX10_statement_24 : decode cX10_statement 24 = .ok (.aload_n 0, 1) := by decide +kernel
theorem dX10_statement_25 : decode cX10_statement 25 = .ok (.getfield 97, 3) := by decide +kernel
theorem dX10_statement_28 : decode cX10_statement 28 = .ok (.iload_n 1, 1) := by decide +kernel
theorem dX10_statement_29 : decode cX10_statement 29 = .ok (.aload_n 0, 1) := by decide +kernel
theorem dX10_statement_30 : decode cX10_statement 30 = .ok (.ldc2_w 182, 3) := by decide +kernel
theorem dX10_statement_33 : decode cX10_statement 33 = .ok (.invokevirtual 178, 3) := by decide +kernel
theorem dX10_statement_36 : decode cX10_statement 36 = .ok (.ifCond .eq 7, 3) := by decide +kernel
theorem dX10_statement_39 : decode cX10_statement 39 = .ok (.iconst 0, 1) := by decide +kernel
theorem dX10_statement_40 : decode cX10_statement 40 = .ok (.goto 32, 3) := by decide +kernel
theorem dX10_statement_43 : decode cX10_statement 43 = .ok (.aload_n 0, 1) := by decide +kernel
theorem dX10_statement_44 : decode cX10_statement 44 = .ok (.ldc2_w 184, 3) := by decide +kernel
theorem dX10_statement_47 : decode cX10_statement 47 = .ok (.invokevirtual 178, 3) := by decide +kernel
theorem dX10_statement_50 : decode cX10_statement 50 = .ok (.ifCond .eq 7, 3) := by decide +kernel
theorem dX10_statement_53 : decode cX10_statement 53 = .ok (.iconst 1, 1) := by decide +kernel
theorem dX10_statement_54 : decode cX10_statement 54 = .ok (.goto 18, 3) := by decide +kernel
theorem dX10_statement_57 : decode cX10_statement 57 = .ok (.aload_n 0, 1) := by decide +kernel
theorem dX10_statement_58 : decode cX10_statement 58 = .ok (.ldc2_w 186, 3) := by decide +kernel
theorem dX10_statement_61 : decode cX10_statement 61 = .ok (.invokevirtual 178, 3) := by decide +kernel
theorem dX10_statement_64 : decode cX10_statement 64 = .ok (.ifCond .eq 7, 3) := by decide +kernel
theorem dX10_statement_67 : decode cX10_statement 67 = .ok (.iconst 2, 1) := by decide +kernel
theorem dX10_statement_68 : decode cX10_statement 68 = .ok (.goto 4, 3) := by decide +kernel
theorem dX10_statement_71 : decode cX10_statement 71 = .ok (.iconst (-1), 1) := by decide +kernel
theorem dX10_statement_72 : decode cX10_statement 72 = .ok (.iastore, 1) := by decide +kernel
theorem dX10_statement_73 : decode cX10_statement 73 = .ok (.aload_n 0, 1) := by decide +kernel
theorem dX10_statement_74 : decode cX10_statement 74 = .ok (.getfield 97, 3) := by decide +kernel
theorem dX10_statement_77 : decode cX10_statement 77 = .ok (.iload_n 1, 1) := by decide +kernel
theorem dX10_statement_78 : decode cX10_statement 78 = .ok (.iaload, 1) := by decide +kernel
theorem dX10_statement_79 : decode cX10_statement 79 = .ok (.iconst (-1), 1) := by decide +kernel
theorem dX10_statement_80 : decode cX10_statement 80 = .ok (.if_icmp .ne 150, 3) := by decide +kernel
theorem dX10_statement_83 : decode cX10_statement 83 = .ok (.iconst 0, 1) := by decide +kernel
theorem dX10_statement_84 : decode cX10_statement 84 = .ok (.ireturn, 1) := by decide +kernel
theorem dX10_statement_85 : decode cX10_statement 85 = .ok (.aload_n 0, 1) := by decide +kernel
theorem dX10_statement_86 : decode cX10_statement 86 = .ok (.getfield 91, 3) := by decide +kernel
theorem dX10_statement_89 : decode cX10_statement 89 = .ok (.iload_n 1, 1) := by decide +kernel
theorem dX10_statement_90 : decode cX10_statement 90 = .ok (.aload_n 0, 1) := by decide +kernel
theorem dX10_statement_91 : decode cX10_statement 91 = .ok (.ldc2_w 188, 3) := by decide +kernel
theorem dX10_statement_94 : decode cX10_statement 94 = .ok (.invokevirtual 178, 3) := by decide +kernel
theorem dX10_statement_97 : decode cX10_statement 97 = .ok (.ifCond .eq 7, 3) := by decide +kernel
theorem dX10_statement_100 : decode cX10_statement 100 = .ok (.iconst 1, 1) := by decide +kernel
theorem dX10_statement_101 : decode cX10_statement 101 = .ok (.goto 46, 3) := by decide +kernel
theorem dX10_statement_104 : decode cX10_statement 104 = .ok (.aload_n 0, 1) := by decide +kernel
theorem dX10_statement_105 : decode cX10_statement 105 = .ok (.ldc2_w 190, 3) := by decide +kernel
theorem dX10_statement_108 : decode cX10_statement 108 = .ok (.invokevirtual 178, 3) := by decide +kernel
theorem dX10_statement_111 : decode cX10_statement 111 = .ok (.ifCond .eq 7, 3) := by decide +kernel
theorem dX10_statement_114 : decode cX10_statement 114 = .ok (.iconst 2, 1) := by decide +kernel
theorem dX10_statement_115 : decode cX10_statement 115 = .ok (.goto 32, 3) := by decide +kernel
theorem dX10_statement_118 : decode cX10_statement 118 = .ok (.aload_n 0, 1) := by decide +kernel
theorem dX10_statement_119 : decode cX10_statement 119 = .ok (.ldc2_w 192, 3) := by decide +kernel
theorem dX10_statement_122 : decode cX10_statement 122 = .ok (.invokevirtual 178, 3) := by decide +kernel
theorem dX10_statement_125 : decode cX10_statement 125 = .ok (.ifCond .eq 7, 3) := by decide +kernel
theorem dX10_statement_128 : decode cX10_statement 128 = .ok (.iconst 3, 1) := by decide +kernel
theorem dX10_statement_129 : decode cX10_statement 129 = .ok (.goto 18, 3) := by decide +kernel
theorem dX10_statement_132 : decode cX10_statement 132 = .ok (.aload_n 0, 1) := by decide +kernel
theorem dX10_statement_133 : decode cX10_statement 133 = .ok (.ldc2_w 194, 3) := by decide +kernel
theorem dX10_statement_136 : decode cX10_statement 136 = .ok (.invokevirtual 178, 3) := by decide +kernel
theorem dX10_statement_139 : decode cX10_statement 139 = .ok (.ifCond .eq 7, 3) := by decide +kernel
theorem dX10_statement_142 : decode cX10_statement 142 = .ok (.iconst 4, 1) := by decide +kernel
theorem dX10_statement_143 : decode cX10_statement 143 = .ok (.goto 4, 3) := by decide +kernel
theorem dX10_statement_146 : decode cX10_statement 146 = .ok (.iconst (-1), 1) := by decide +kernel
theorem dX10_statement_147 : decode cX10_statement 147 = .ok (.iastore, 1) := by decide +kernel
theorem dX10_statement_148 : decode cX10_statement 148 = .ok (.aload_n 0, 1) := by decide +kernel
theorem dX10_statement_149 : decode cX10_statement 149 = .ok (.getfield 91, 3) := by decide +kernel
theorem dX10_statement_152 : decode cX10_statement 152 = .ok (.iload_n 1, 1) := by decide +kernel
theorem dX10_statement_153 : decode cX10_statement 153 = .ok (.iaload, 1) := by decide +kernel
theorem dX10_statement_154 : decode cX10_statement 154 = .ok (.iconst (-1), 1) := by decide +kernel
theorem dX10_statement_155 : decode cX10_statement 155 = .ok (.if_icmp .eq 10, 3) := by decide +kernel
theorem dX10_statement_158 : decode cX10_statement 158 = .ok (.aload_n 0, 1) := by decide +kernel
theorem dX10_statement_159 : decode cX10_statement 159 = .ok (.invokevirtual 196, 3) := by decide +kernel
theorem dX10_statement_162 : decode cX10_statement 162 = .ok (.ifCond .ne 5, 3) := by decide +kernel
theorem dX10_statement_165 : decode cX10_statement 165 = .ok (.iconst 0, 1) := by decide +kernel
theorem dX10_statement_166 : decode cX10_statement 166 = .ok (.ireturn, 1) := by decide +kernel
theorem dX10_statement_167 : decode cX10_statement 167 = .ok (.aload_n 0, 1) := by decide +kernel
theorem dX10_statement_168 : decode cX10_statement 168 = .ok (.getfield 94, 3) := by decide +kernel
theorem dX10_statement_171 : decode cX10_statement 171 = .ok (.iload_n 1, 1) := by decide +kernel
theorem dX10_statement_172 : decode cX10_statement 172 = .ok (.aload_n 0, 1) := by decide +kernel
theorem dX10_statement_173 : decode cX10_statement 173 = .ok (.getfield 91, 3) := by decide +kernel
theorem dX10_statement_176 : decode cX10_statement 176 = .ok (.iload_n 1, 1) := by decide +kernel
theorem dX10_statement_177 : decode cX10_statement 177 = .ok (.iaload, 1) := by decide +kernel
theorem dX10_statement_178 : decode cX10_statement 178 = .ok (.iconst 1, 1) := by decide +kernel
theorem dX10_statement_179 : decode cX10_statement 179 = .ok (.if_icmp .ne 10, 3) := by decide +kernel
theorem dX10_statement_182 : decode cX10_statement 182 = .ok (.aload_n 0, 1) := by decide +kernel
theorem dX10_statement_183 : decode cX10_statement 183 = .ok (.getfield 173, 3) := by decide +kernel
theorem dX10_statement_186 : decode cX10_statement 186 = .ok (.goto 4, 3) := by decide +kernel
theorem dX10_statement_189 : decode cX10_statement 189 = .ok (.iconst 0, 1) := by decide +kernel
theorem dX10_statement_190 : decode cX10_statement 190 = .ok (.iastore, 1) := by decide +kernel
theorem dX10_statement_191 : decode cX10_statement 191 = .ok (.aload_n 0, 1) := by decide +kernel
theorem dX10_statement_192 : decode cX10_statement 192 = .ok (.getfield 91, 3) := by decide +kernel
theorem dX10_statement_195 : decode cX10_statement 195 = .ok (.iload_n 1, 1) := by decide +kernel
theorem dX10_statement_196 : decode cX10_statement 196 = .ok (.iaload, 1) := by decide +kernel
theorem dX10_statement_197 : decode cX10_statement 197 = .ok (.iconst 1, 1) := by decide +kernel
theorem dX10_statement_198 : decode cX10_statement 198 = .ok (.if_icmp .ne 22, 3) := by decide +kernel
theorem dX10_statement_201 : decode cX10_statement 201 = .ok (.aload_n 0, 1) := by decide +kernel
theorem dX10_statement_202 : decode cX10_statement 202 = .ok (.ldc2_w 200, 3) := by decide +kernel
theorem dX10_statement_205 : decode cX10_statement 205 = .ok (.invokevirtual 178, 3) := by decide +kernel
theorem dX10_statement_208 : decode cX10_statement 208 = .ok (.ifCond .eq 10, 3) := by decide +kernel
theorem dX10_statement_211 : decode cX10_statement 211 = .ok (.aload_n 0, 1) := by decide +kernel
theorem dX10_statement_212 : decode cX10_statement 212 = .ok (.invokevirtual 196, 3) := by decide +kernel
theorem dX10_statement_215 : decode cX10_statement 215 = .ok (.ifCond .ne 5, 3) := by decide +kernel
theorem dX10_statement_218 : decode cX10_statement 218 = .ok (.iconst 0, 1) := by decide +kernel
theorem dX10_statement_219 : decode cX10_statement 219 = .ok (.ireturn, 1) := by decide +kernel
theorem dX10_statement_220 : decode cX10_statement 220 = .ok (.aload_n 0, 1) := by decide +kernel
theorem dX10_statement_221 : decode cX10_statement 221 = .ok (.getfield 97, 3) := by decide +kernel
theorem dX10_statement_224 : decode cX10_statement 224 = .ok (.iload_n 1, 1) := by decide +kernel
theorem dX10_statement_225 : decode cX10_statement 225 = .ok (.aload_n 0, 1) := by decide +kernel
theorem dX10_statement_226 : decode cX10_statement 226 = .ok (.getfield 173, 3) := by decide +kernel
theorem dX10_statement_229 : decode cX10_statement 229 = .ok (.iastore, 1) := by decide +kernel
theorem dX10_statement_230 : decode cX10_statement 230 = .ok (.aload_n 0, 1) := by decide +kernel
theorem dX10_statement_231 : decode cX10_statement 231 = .ok (.invokevirtual 163, 3) := by decide +kernel
theorem dX10_statement_234 : decode cX10_statement 234 = .ok (.aload_n 0, 1) := by decide +kernel
theorem dX10_statement_235 : decode cX10_statement 235 = .ok (.getfield 157, 3) := by decide +kernel
theorem dX10_statement_238 : decode cX10_statement 238 = .ok (.aload_n 0, 1) := by decide +kernel
theorem dX10_statement_239 : decode cX10_statement 239 = .ok (.getfield 160, 3) := by decide +kernel
theorem dX10_statement_242 : decode cX10_statement 242 = .ok (.if_icmp .eq 17, 3) := by decide +kernel
theorem dX10_statement_245 : decode cX10_statement 245 = .ok (.aload_n 0, 1) := by decide +kernel
theorem dX10_statement_246 : decode cX10_statement 246 = .ok (.getfield 79, 3) := by decide +kernel
theorem dX10_statement_249 : decode cX10_statement 249 = .ok (.aload_n 0, 1) := by decide +kernel
theorem dX10_statement_250 : decode cX10_statement 250 = .ok (.getfield 157, 3) := by decide +kernel
theorem dX10_statement_253 : decode cX10_statement 253 = .ok (.baload, 1) := by decide +kernel
theorem dX10_statement_254 : decode cX10_statement 254 = .ok (.bipush 59, 2) := by decide +kernel
theorem dX10_statement_256 : decode cX10_statement 256 = .ok (.if_icmp .eq 5, 3) := by decide +kernel
theorem dX10_statement_259 : decode cX10_statement 259 = .ok (.iconst 0, 1) := by decide +kernel
theorem dX10_statement_260 : decode cX10_statement 260 = .ok (.ireturn, 1) := by decide +kernel
theorem dX10_statement_261 : decode cX10_statement 261 = .ok (.aload_n 0, 1) := by decide +kernel
theorem dX10_statement_262 : decode cX10_statement 262 = .ok (.dup, 1) := by decide +kernel
theorem dX10_statement_263 : decode cX10_statement 263 = .ok (.getfield 157, 3) := by decide +kernel
theorem dX10_statement_266 : decode cX10_statement 266 = .ok (.iconst 1, 1) := by decide +kernel
theorem dX10_statement_267 : decode cX10_statement 267 = .ok (.iadd, 1) := by decide +kernel
theorem dX10_statement_268 : decode cX10_statement 268 = .ok (.putfield 157, 3) := by decide +kernel
theorem dX10_statement_271 : decode cX10_statement 271 = .ok (.iconst 1, 1) := by decide +kernel
theorem dX10_statement_272 : decode cX10_statement 272 = .ok (.ireturn, 1) := by decide +kernel
set_option maxRecDepth 20000 in
theorem ggX10_statute_X10_isIn : GoodIn wsX10_statute wsX10_isIn := goodIn_r _ [14] (by decide +kernel) (by decide +kernel)
set_option maxRecDepth 20000 in
theorem gX10_statute_X10_isIn : GoodIn wsX10_statute (va_wsS RX10 124 yX10_isIn wsX10_isIn) := goodIn_app (goodIn_of _ (by decide +kernel)) ggX10_statute_X10_isIn
set_option maxRecDepth 20000 in
theorem ggX10_statute_X10_blanks : GoodIn wsX10_statute wsX10_blanks := goodIn_r _ [18, 6, 5, 3, 49, 50, 51, 52, 53, 54, 55, 56, 57, 58, 59, 60, 61, 62, 63, 64, 65, 66, 67, 68, 69, 70, 71, 72, 73, 74, 75, 76, 77, 78, 79, 80, 81, 82, 83, 84, 85, 86, 87, 88, 89, 90, 91, 92, 93] (by decide +kernel) (by decide +kernel)
set_option maxRecDepth 20000 in
theorem gX10_statute_X10_blanks : GoodIn wsX10_statute (wsV RX10 163 RX10 yX10_blanks wsX10_blanks) := goodIn_app (goodIn_of _ (by decide +kernel)) ggX10_statute_X10_blanks
set_option maxRecDepth 20000 in
theorem ggX10_statute_X10_statement : GoodIn wsX10_statute wsX10_statement := goodIn_r _ [22, 23, 24, 25, 26, 27, 28, 29, 30, 31, 32, 33, 34, 35, 6, 5, 3, 36, 37, 38, 13, 39, 40, 41, 42, 43, 44, 15, 16, 17, 18, 45, 46, 47, 48, 49, 50, 51, 52, 53, 54, 55, 56, 57, 58, 59, 60, 61, 62, 63, 64, 65, 66, 67, 68, 69, 70, 71, 72, 73, 74, 75, 76, 77, 78, 79, 80, 81, 82, 83, 84, 85, 86, 87, 88, 89, 90, 91, 92, 93] (by decide +kernel) (by decide +kernel)
set_option maxRecDepth 20000 in
theorem gX10_statute_X10_statement : GoodIn wsX10_statute (wsV RX10 205 RX10 yX10_statement wsX10_statement) := goodIn_app (goodIn_of _ (by decide +kernel)) ggX10_statute_X10_statement
theorem dX10_statute_0 : decode cX10_statute 0 = .ok (.iload_n 1, 1) := by decide +kernel
theorem dX10_statute_1 : decode cX10_statute 1 = .ok (.iconst 0, 1) := by decide +kernel
theorem dX10_statute_2 : decode cX10_statute 2 = .ok (.aload_n 0, 1) := by decide +kernel
theorem dX10_statute_3 : decode cX10_statute 3 = .ok (.getfield 150, 3) := by decide +kernel
theorem dX10_statute_6 : decode cX10_statute 6 = .ok (.invokestatic 124, 3) := by decide +kernel
theorem dX10_statute_9 : decode cX10_statute 9 = .ok (.ifCond .ne 6, 3) := by decide +kernel
theorem dX10_statute_12 : decode cX10_statute 12 = .ok (.bipush (-2), 2) := by decide +kernel
theorem dX10_statute_14 : decode cX10_statute 14 = .ok (.ireturn, 1) := by decide +kernel
theorem dX10_statute_15 : decode cX10_statute 15 = .ok (.aload_n 0, 1) := by decide +kernel
theorem dX10_statute_16 : decode cX10_statute 16 = .ok (.getfield 202, 3) := by decide +kernel
theorem dX10_statute_19 : decode cX10_statute 19 = .ok (.bipush 10, 2) := by decide +kernel
theorem dX10_statute_21 : decode cX10_statute 21 = .ok (.if_icmp .ne 6, 3) := by decide +kernel
theorem dX10_statute_24 : decode cX10_statute 24 = .ok (.bipush (-3), 2) := by decide +kernel
theorem dX10_statute_26 : decode cX10_statute 26 = .ok (.ireturn, 1) := by decide +kernel
theorem dX10_statute_27 : decode cX10_statute 27 = .ok (.iconst 0, 1) := by decide +kernel
theorem dX10_statute_28 : decode cX10_statute 28 = .ok (.istore_n 2, 1) := by decide +kernel
theorem dX10_statute_29 : decode cX10_statute 29 = .ok (.iload_n 2, 1) := by decide +kernel
theorem dX10_statute_30 : decode cX10_statute 30 = .ok (.iload_n 1, 1) := by decide +kernel
theorem dX10_statute_31 : decode cX10_statute 31 = .ok (.if_icmp .ge 21, 3) := by decide +kernel
theorem dX10_statute_34 : decode cX10_statute 34 = .ok (.aload_n 0, 1) := by decide +kernel
theorem dX10_statute_35 : decode cX10_statute 35 = .ok (.getfield 79, 3) := by decide +kernel
theorem dX10_statute_38 : decode cX10_statute 38 = .ok (.iload_n 2, 1) := by decide +kernel
theorem dX10_statute_39 : decode cX10_statute 39 = .ok (.aload_n 0, 1) := by decide +kernel
theorem dX10_statute_40 : decode cX10_statute 40 = .ok (.getfield 75, 3) := by decide +kernel
theorem dX10_statute_43 : decode cX10_statute 43 = .ok (.iload_n 2, 1) := by decide +kernel
theorem dX10_statute_44 : decode cX10_statute 44 = .ok (.baload, 1) := by decide +kernel
theorem dX10_statute_45 : decode cX10_statute 45 = .ok (.bastore, 1) := by decide +kernel
theorem dX10_statute_46 : decode cX10_statute 46 = .ok (.iinc 2 1, 3) := by decide +kernel
theorem dX10_statute_49 : decode cX10_statute 49 = .ok (.goto (-20), 3) := by decide +kernel
theorem dX10_statute_52 : decode cX10_statute 52 = .ok (.aload_n 0, 1) := by decide +kernel
theorem dX10_statute_53 : decode cX10_statute 53 = .ok (.iload_n 1, 1) := by decide +kernel
theorem dX10_statute_54 : decode cX10_statute 54 = .ok (.putfield 160, 3) := by decide +kernel
theorem dX10_statute_57 : decode cX10_statute 57 = .ok (.aload_n 0, 1) := by decide +kernel
theorem dX10_statute_58 : decode cX10_statute 58 = .ok (.iconst 0, 1) := by decide +kernel
theorem dX10_statute_59 : decode cX10_statute 59 = .ok (.putfield 150, 3) := by decide +kernel
theorem dX10_statute_62 : decode cX10_statute 62 = .ok (.aload_n 0, 1) := by decide +kernel
theorem dX10_statute_63 : decode cX10_statute 63 = .ok (.iconst 0, 1) := by decide +kernel
theorem dX10_statute_64 : decode cX10_statute 64 = .ok (.putfield 157, 3) := by decide +kernel
theorem dX10_statute_67 : decode cX10_statute 67 = .ok (.aload_n 0, 1) := by decide +kernel
theorem dX10_statute_68 : decode cX10_statute 68 = .ok (.getfield 85, 3) := by decide +kernel
theorem dX10_statute_71 : decode cX10_statute 71 = .ok (.aload_n 0, 1) := by decide +kernel
theorem dX10_statute_72 : decode cX10_statute 72 = .ok (.getfield 202, 3) := by decide +kernel
theorem dX10_statute_75 : decode cX10_statute 75 = .ok (.iconst 0, 1) := by decide +kernel
theorem dX10_statute_76 : decode cX10_statute 76 = .ok (.iastore, 1) := by decide +kernel
theorem dX10_statute_77 : decode cX10_statute 77 = .ok (.iconst 1, 1) := by decide +kernel
theorem dX10_statute_78 : decode cX10_statute 78 = .ok (.istore_n 2, 1) := by decide +kernel
theorem dX10_statute_79 : decode cX10_statute 79 = .ok (.aload_n 0, 1) := by decide +kernel
theorem dX10_statute_80 : decode cX10_statute 80 = .ok (.invokevirtual 163, 3) := by decide +kernel
theorem dX10_statute_83 : decode cX10_statute 83 = .ok (.iload_n 2, 1) := by decide +kernel
theorem dX10_statute_84 : decode cX10_statute 84 = .ok (.ifCond .eq 85, 3) := by decide +kernel
theorem dX10_statute_87 : decode cX10_statute 87 = .ok (.aload_n 0, 1) := by decide +kernel
theorem dX10_statute_88 : decode cX10_statute 88 = .ok (.getfield 157, 3) := by decide +kernel
theorem dX10_statute_91 : decode cX10_statute 91 = .ok (.aload_n 0, 1) := by decide +kernel
theorem dX10_statute_92 : decode cX10_statute 92 = .ok (.getfield 160, 3) := by decide +kernel
theorem dX10_statute_95 : decode cX10_statute 95 = .ok (.if_icmp .ge 74, 3) := by decide +kernel
theorem dX10_statute_98 : decode cX10_statute 98 = .ok (.aload_n 0, 1) := by decide +kernel
theorem dX10_statute_99 : decode cX10_statute 99 = .ok (.getfield 85, 3) := by decide +kernel
theorem dX10_statute_102 : decode cX10_statute 102 = .ok (.aload_n 0, 1) := by decide +kernel
theorem dX10_statute_103 : decode cX10_statute 103 = .ok (.getfield 202, 3) := by decide +kernel
theorem dX10_statute_106 : decode cX10_statute 106 = .ok (.iaload, 1) := by decide +kernel
theorem dX10_statute_107 : decode cX10_statute 107 = .ok (.bipush 16, 2) := by decide +kernel
theorem dX10_statute_109 : decode cX10_statute 109 = .ok (.if_icmp .ge 31, 3) := by decide +kernel
theorem dX10_statute_112 : decode cX10_statute 112 = .ok (.aload_n 0, 1) := by decide +kernel
theorem dX10_statute_113 : decode cX10_statute 113 = .ok (.bipush 16, 2) := by decide +kernel
theorem dX10_statute_115 : decode cX10_statute 115 = .ok (.aload_n 0, 1) := by decide +kernel
theorem dX10_statute_116 : decode cX10_statute 116 = .ok (.getfield 202, 3) := by decide +kernel
theorem dX10_statute_119 : decode cX10_statute 119 = .ok (.imul, 1) := by decide +kernel
theorem dX10_statute_120 : decode cX10_statute 120 = .ok (.aload_n 0, 1) := by decide +kernel
theorem dX10_statute_121 : decode cX10_statute 121 = .ok (.getfield 85, 3) := by decide +kernel
theorem dX10_statute_124 : decode cX10_statute 124 = .ok (.aload_n 0, 1) := by decide +kernel
theorem dX10_statute_125 : decode cX10_statute 125 = .ok (.getfield 202, 3) := by decide +kernel
theorem dX10_statute_128 : decode cX10_statute 128 = .ok (.iaload, 1) := by decide +kernel
theorem dX10_statute_129 : decode cX10_statute 129 = .ok (.iadd, 1) := by decide +kernel
theorem dX10_statute_130 : decode cX10_statute 130 = .ok (.invokevirtual 205, 3) := by decide +kernel
theorem dX10_statute_133 : decode cX10_statute 133 = .ok (.ifCond .eq 7, 3) := by decide +kernel
theorem dX10_statute_136 : decode cX10_statute 136 = .ok (.iconst 1, 1) := by decide +kernel
theorem dX10_statute_137 : decode cX10_statute 137 = .ok (.goto 4, 3) := by decide +kernel
theorem dX10_statute_140 : decode cX10_statute 140 = .ok (.iconst 0, 1) := by decide +kernel
theorem dX10_statute_141 : decode cX10_statute 141 = .ok (.istore_n 2, 1) := by decide +kernel
theorem dX10_statute_142 : decode cX10_statute 142 = .ok (.iload_n 2, 1) := by decide +kernel
theorem dX10_statute_143 : decode cX10_statute 143 = .ok (.ifCond .ne 6, 3) := by decide +kernel
theorem dX10_statute_146 : decode cX10_statute 146 = .ok (.goto (-63), 3) := by decide +kernel
theorem dX10_statute_149 : decode cX10_statute 149 = .ok (.aload_n 0, 1) := by decide +kernel
theorem dX10_statute_150 : decode cX10_statute 150 = .ok (.getfield 85, 3) := by decide +kernel
theorem dX10_statute_153 : decode cX10_statute 153 = .ok (.aload_n 0, 1) := by decide +kernel
theorem dX10_statute_154 : decode cX10_statute 154 = .ok (.getfield 202, 3) := by decide +kernel
theorem dX10_statute_157 : decode cX10_statute 157 = .ok (.dup2, 1) := by decide +kernel
theorem dX10_statute_158 : decode cX10_statute 158 = .ok (.iaload, 1) := by decide +kernel
theorem dX10_statute_159 : decode cX10_statute 159 = .ok (.iconst 1, 1) := by decide +kernel
theorem dX10_statute_160 : decode cX10_statute 160 = .ok (.iadd, 1) := by decide +kernel
theorem dX10_statute_161 : decode cX10_statute 161 = .ok (.iastore, 1) := by decide +kernel
theorem dX10_statute_162 : decode cX10_statute 162 = .ok (.aload_n 0, 1) := by decide +kernel
theorem dX10_statute_163 : decode cX10_statute 163 = .ok (.invokevirtual 163, 3) := by decide +kernel
theorem dX10_statute_166 : decode cX10_statute 166 = .ok (.goto (-83), 3) := by decide +kernel
theorem dX10_statute_169 : decode cX10_statute 169 = .ok (.aload_n 0, 1) := by decide +kernel
theorem dX10_statute_170 : decode cX10_statute 170 = .ok (.iload_n 2, 1) := by decide +kernel
theorem dX10_statute_171 : decode cX10_statute 171 = .ok (.ifCond .eq 7, 3) := by decide +kernel
theorem dX10_statute_174 : decode cX10_statute 174 = .ok (.iconst (-1), 1) := by decide +kernel
theorem dX10_statute_175 : decode cX10_statute 175 = .ok (.goto 7, 3) := by decide +kernel
theorem dX10_statute_178 : decode cX10_statute 178 = .ok (.aload_n 0, 1) := by decide +kernel
theorem dX10_statute_179 : decode cX10_statute 179 = .ok (.getfield 157, 3) := by decide +kernel
theorem dX10_statute_182 : decode cX10_statute 182 = .ok (.putfield 82, 3) := by decide +kernel
theorem dX10_statute_185 : decode cX10_statute 185 = .ok (.iload_n 2, 1) := by decide +kernel
theorem dX10_statute_186 : decode cX10_statute 186 = .ok (.ifCond .ne 5, 3) := by decide +kernel
theorem dX10_statute_189 : decode cX10_statute 189 = .ok (.iconst (-1), 1) := by decide +kernel
theorem dX10_statute_190 : decode cX10_statute 190 = .ok (.ireturn, 1) := by decide +kernel
theorem dX10_statute_191 : decode cX10_statute 191 = .ok (.aload_n 0, 1) := by decide +kernel
theorem dX10_statute_192 : decode cX10_statute 192 = .ok (.getfield 88, 3) := by decide +kernel
theorem dX10_statute_195 : decode cX10_statute 195 = .ok (.aload_n 0, 1) := by decide +kernel
theorem dX10_statute_196 : decode cX10_statute 196 = .ok (.getfield 202, 3) := by decide +kernel
theorem dX10_statute_199 : decode cX10_statute 199 = .ok (.aload_n 0, 1) := by decide +kernel
theorem dX10_statute_200 : decode cX10_statute 200 = .ok (.getfield 144, 3) := by decide +kernel
theorem dX10_statute_203 : decode cX10_statute 203 = .ok (.iastore, 1) := by decide +kernel
theorem dX10_statute_204 : decode cX10_statute 204 = .ok (.aload_n 0, 1) := by decide +kernel
theorem dX10_statute_205 : decode cX10_statute 205 = .ok (.dup, 1) := by decide +kernel
theorem dX10_statute_206 : decode cX10_statute 206 = .ok (.getfield 202, 3) := by decide +kernel
theorem dX10_statute_209 : decode cX10_statute 209 = .ok (.iconst 1, 1) := by decide +kernel
theorem dX10_statute_210 : decode cX10_statute 210 = .ok (.iadd, 1) := by decide +kernel
theorem dX10_statute_211 : decode cX10_statute 211 = .ok (.putfield 202, 3) := by decide +kernel
theorem dX10_statute_214 : decode cX10_statute 214 = .ok (.aload_n 0, 1) := by decide +kernel
theorem dX10_statute_215 : decode cX10_statute 215 = .ok (.getfield 202, 3) := by decide +kernel
theorem dX10_statute_218 : decode cX10_statute 218 = .ok (.iconst 1, 1) := by decide +kernel
theorem dX10_statute_219 : decode cX10_statute 219 = .ok (.isub, 1) := by decide +kernel
theorem dX10_statute_220 : decode cX10_statute 220 = .ok (.ireturn, 1) := by decide +kernel
theorem dX10_fault_0 : decode cX10_fault 0 = .ok (.aload_n 0, 1) := by decide +kernel
theorem dX10_fault_1 : decode cX10_fault 1 = .ok (.getfield 82, 3) := by decide +kernel
theorem dX10_fault_4 : decode cX10_fault 4 = .ok (.ireturn, 1) := by decide +kernel
theorem dX10_inForce_0 : decode cX10_inForce 0 = .ok (.iconst (-1), 1) := by decide +kernel
theorem dX10_inForce_1 : decode cX10_inForce 1 = .ok (.istore_n 2, 1) := by decide +kernel
theorem dX10_inForce_2 : decode cX10_inForce 2 = .ok (.iconst 0, 1) := by decide +kernel
theorem dX10_inForce_3 : decode cX10_inForce 3 = .ok (.istore_n 3, 1) := by decide +kernel
theorem dX10_inForce_4 : decode cX10_inForce 4 = .ok (.iload_n 3, 1) := by decide +kernel
theorem dX10_inForce_5 : decode cX10_inForce 5 = .ok (.aload_n 0, 1) := by decide +kernel
theorem dX10_inForce_6 : decode cX10_inForce 6 = .ok (.getfield 202, 3) := by decide +kernel
theorem dX10_inForce_9 : decode cX10_inForce 9 = .ok (.if_icmp .ge 21, 3) := by decide +kernel
theorem dX10_inForce_12 : decode cX10_inForce 12 = .ok (.aload_n 0, 1) := by decide +kernel
theorem dX10_inForce_13 : decode cX10_inForce 13 = .ok (.getfield 88, 3) := by decide +kernel
theorem dX10_inForce_16 : decode cX10_inForce 16 = .ok (.iload_n 3, 1) := by decide +kernel
theorem dX10_inForce_17 : decode cX10_inForce 17 = .ok (.iaload, 1) := by decide +kernel
theorem dX10_inForce_18 : decode cX10_inForce 18 = .ok (.iload_n 1, 1) := by decide +kernel
theorem dX10_inForce_19 : decode cX10_inForce 19 = .ok (.if_icmp .gt 5, 3) := by decide +kernel
theorem dX10_inForce_22 : decode cX10_inForce 22 = .ok (.iload_n 3, 1) := by decide +kernel
theorem dX10_inForce_23 : decode cX10_inForce 23 = .ok (.istore_n 2, 1) := by decide +kernel
theorem dX10_inForce_24 : decode cX10_inForce 24 = .ok (.iinc 3 1, 3) := by decide +kernel
theorem dX10_inForce_27 : decode cX10_inForce 27 = .ok (.goto (-23), 3) := by decide +kernel
theorem dX10_inForce_30 : decode cX10_inForce 30 = .ok (.iload_n 2, 1) := by decide +kernel
theorem dX10_inForce_31 : decode cX10_inForce 31 = .ok (.ireturn, 1) := by decide +kernel
set_option maxRecDepth 20000 in
theorem ggX10_tells_X10_inForce : GoodIn wsX10_tells wsX10_inForce := goodIn_r _ [9, 10, 11, 12, 13, 14, 15, 16, 17, 18, 19, 20, 21, 22, 23, 24, 25, 26, 27, 28, 29, 30, 31, 32, 33, 34, 35, 36, 37, 38, 39, 40, 41, 42, 43, 44, 45, 46, 47, 48, 49, 50, 51, 52, 53, 54, 55, 56] (by decide +kernel) (by decide +kernel)
set_option maxRecDepth 20000 in
theorem gX10_tells_X10_inForce : GoodIn wsX10_tells (wsV RX10 208 RX10 yX10_inForce wsX10_inForce) := goodIn_app (goodIn_of _ (by decide +kernel)) ggX10_tells_X10_inForce
theorem dX10_tells_0 : decode cX10_tells 0 = .ok (.aload_n 0, 1) := by decide +kernel
theorem dX10_tells_1 : decode cX10_tells 1 = .ok (.iload_n 1, 1) := by decide +kernel
theorem dX10_tells_2 : decode cX10_tells 2 = .ok (.invokevirtual 208, 3) := by decide +kernel
theorem dX10_tells_5 : decode cX10_tells 5 = .ok (.istore 5, 2) := by decide +kernel
theorem dX10_tells_7 : decode cX10_tells 7 = .ok (.iload 4, 2) := by decide +kernel
theorem dX10_tells_9 : decode cX10_tells 9 = .ok (.istore 6, 2) := by decide +kernel
theorem dX10_tells_11 : decode cX10_tells 11 = .ok (.bipush 16, 2) := by decide +kernel
theorem dX10_tells_13 : decode cX10_tells 13 = .ok (.iload 5, 2) := by decide +kernel
theorem dX10_tells_15 : decode cX10_tells 15 = .ok (.imul, 1) := by decide +kernel
theorem dX10_tells_16 : decode cX10_tells 16 = .ok (.istore 7, 2) := by decide +kernel
theorem dX10_tells_18 : decode cX10_tells 18 = .ok (.iload 5, 2) := by decide +kernel
theorem dX10_tells_20 : decode cX10_tells 20 = .ok (.iconst (-1), 1) := by decide +kernel
theorem dX10_tells_21 : decode cX10_tells 21 = .ok (.if_icmp .eq 58, 3) := by decide +kernel
theorem dX10_tells_24 : decode cX10_tells 24 = .ok (.iload 7, 2) := by decide +kernel
theorem dX10_tells_26 : decode cX10_tells 26 = .ok (.bipush 16, 2) := by decide +kernel
theorem dX10_tells_28 : decode cX10_tells 28 = .ok (.iload 5, 2) := by decide +kernel
theorem dX10_tells_30 : decode cX10_tells 30 = .ok (.imul, 1) := by decide +kernel
theorem dX10_tells_31 : decode cX10_tells 31 = .ok (.aload_n 0, 1) := by decide +kernel
theorem dX10_tells_32 : decode cX10_tells 32 = .ok (.getfield 85, 3) := by decide +kernel
theorem dX10_tells_35 : decode cX10_tells 35 = .ok (.iload 5, 2) := by decide +kernel
theorem dX10_tells_37 : decode cX10_tells 37 = .ok (.iaload, 1) := by decide +kernel
theorem dX10_tells_38 : decode cX10_tells 38 = .ok (.iadd, 1) := by decide +kernel
theorem dX10_tells_39 : decode cX10_tells 39 = .ok (.if_icmp .ge 40, 3) := by decide +kernel
theorem dX10_tells_42 : decode cX10_tells 42 = .ok (.aload_n 0, 1) := by decide +kernel
theorem dX10_tells_43 : decode cX10_tells 43 = .ok (.getfield 91, 3) := by decide +kernel
theorem dX10_tells_46 : decode cX10_tells 46 = .ok (.iload 7, 2) := by decide +kernel
theorem dX10_tells_48 : decode cX10_tells 48 = .ok (.iaload, 1) := by decide +kernel
theorem dX10_tells_49 : decode cX10_tells 49 = .ok (.iload_n 2, 1) := by decide +kernel
theorem dX10_tells_50 : decode cX10_tells 50 = .ok (.if_icmp .ne 23, 3) := by decide +kernel
theorem dX10_tells_53 : decode cX10_tells 53 = .ok (.aload_n 0, 1) := by decide +kernel
theorem dX10_tells_54 : decode cX10_tells 54 = .ok (.getfield 94, 3) := by decide +kernel
theorem dX10_tells_57 : decode cX10_tells 57 = .ok (.iload 7, 2) := by decide +kernel
theorem dX10_tells_59 : decode cX10_tells 59 = .ok (.iaload, 1) := by decide +kernel
theorem dX10_tells_60 : decode cX10_tells 60 = .ok (.iload_n 3, 1) := by decide +kernel
theorem dX10_tells_61 : decode cX10_tells 61 = .ok (.if_icmp .ne 12, 3) := by decide +kernel
theorem dX10_tells_64 : decode cX10_tells 64 = .ok (.aload_n 0, 1) := by decide +kernel
theorem dX10_tells_65 : decode cX10_tells 65 = .ok (.getfield 97, 3) := by decide +kernel
theorem dX10_tells_68 : decode cX10_tells 68 = .ok (.iload 7, 2) := by decide +kernel
theorem dX10_tells_70 : decode cX10_tells 70 = .ok (.iaload, 1) := by decide +kernel
theorem dX10_tells_71 : decode cX10_tells 71 = .ok (.istore 6, 2) := by decide +kernel
theorem dX10_tells_73 : decode cX10_tells 73 = .ok (.iinc 7 1, 3) := by decide +kernel
theorem dX10_tells_76 : decode cX10_tells 76 = .ok (.goto (-58), 3) := by decide +kernel
theorem dX10_tells_79 : decode cX10_tells 79 = .ok (.iload 6, 2) := by decide +kernel
theorem dX10_tells_81 : decode cX10_tells 81 = .ok (.ireturn, 1) := by decide +kernel
set_option maxRecDepth 20000 in
theorem ggX10_allowed_X10_tells : GoodIn wsX10_allowed wsX10_tells := goodIn_r _ [5, 6, 7, 8, 9, 10, 11, 12, 4, 13, 14, 15, 16, 17, 18, 19, 20, 21, 22, 23, 24, 25, 26, 27, 28, 29, 30, 31, 32, 33, 34, 35, 36, 37, 38, 39, 40, 41, 42, 43, 44, 45, 46, 47, 48, 49, 50, 51, 52, 53, 54, 55, 56, 57, 58, 59, 60] (by decide +kernel) (by decide +kernel)
set_option maxRecDepth 20000 in
theorem gX10_allowed_X10_tells : GoodIn wsX10_allowed (wsV RX10 212 RX10 yX10_tells wsX10_tells) := goodIn_app (goodIn_of _ (by decide +kernel)) ggX10_allowed_X10_tells
theorem dX10_allowed_0 : decode cX10_allowed 0 = .ok (.aload_n 0, 1) := by decide +kernel
theorem dX10_allowed_1 : decode cX10_allowed 1 = .ok (.iload_n 1, 1) := by decide +kernel
theorem dX10_allowed_2 : decode cX10_allowed 2 = .ok (.iconst 1, 1) := by decide +kernel
theorem dX10_allowed_3 : decode cX10_allowed 3 = .ok (.iload_n 2, 1) := by decide +kernel
theorem dX10_allowed_4 : decode cX10_allowed 4 = .ok (.iconst 3, 1) := by decide +kernel
theorem dX10_allowed_5 : decode cX10_allowed 5 = .ok (.invokevirtual 212, 3) := by decide +kernel
theorem dX10_allowed_8 : decode cX10_allowed 8 = .ok (.ireturn, 1) := by decide +kernel
set_option maxRecDepth 20000 in
theorem ggX10_law_X10_isIn : GoodIn wsX10_law wsX10_isIn := goodIn_r _ [4] (by decide +kernel) (by decide +kernel)
set_option maxRecDepth 20000 in
theorem gX10_law_X10_isIn : GoodIn wsX10_law (va_wsS RX10 124 yX10_isIn wsX10_isIn) := goodIn_app (goodIn_of _ (by decide +kernel)) ggX10_law_X10_isIn
set_option maxRecDepth 20000 in
theorem ggX10_law_X10_tells : GoodIn wsX10_law wsX10_tells := goodIn_r _ [8, 9, 10, 11, 12, 13, 14, 15, 3, 16, 17, 18, 28, 29, 30, 31, 32, 33, 34, 35, 36, 37, 38, 39, 40, 41, 42, 43, 44, 45, 46, 47, 48, 49, 50, 51, 52, 53, 54, 55, 56, 57, 58, 59, 60, 61, 62, 63, 64, 65, 66, 67, 68, 69, 70, 71, 72] (by decide +kernel) (by decide +kernel)
set_option maxRecDepth 20000 in
theorem gX10_law_X10_tells : GoodIn wsX10_law (wsV RX10 212 RX10 yX10_tells wsX10_tells) := goodIn_app (goodIn_of _ (by decide +kernel)) ggX10_law_X10_tells
set_option maxRecDepth 20000 in
theorem ggX10_law_X10_inForce : GoodIn wsX10_law wsX10_inForce := goodIn_r _ [16, 17, 18, 28, 29, 30, 31, 32, 33, 34, 35, 36, 37, 38, 39, 40, 41, 42, 43, 44, 45, 46, 47, 48, 49, 50, 51, 52, 53, 54, 55, 56, 57, 58, 59, 60, 61, 62, 63, 64, 65, 66, 67, 68, 69, 70, 71, 72] (by decide +kernel) (by decide +kernel)
set_option maxRecDepth 20000 in
theorem gX10_law_X10_inForce : GoodIn wsX10_law (wsV RX10 208 RX10 yX10_inForce wsX10_inForce) := goodIn_app (goodIn_of _ (by decide +kernel)) ggX10_law_X10_inForce
set_option maxRecDepth 20000 in
theorem ggX10_law_X10_isReach : GoodIn wsX10_law wsX10_isReach := goodIn_r _ [22, 23, 1, 2, 3, 4, 28, 29, 30, 31, 32, 33, 34, 35, 36, 37, 38, 39, 40, 41, 42, 43, 44, 45, 46, 47, 48, 49, 50, 51, 52, 53, 54, 55, 56, 57, 58, 59, 60, 61, 62, 63, 64, 65, 66, 67, 68, 69, 70, 71, 72] (by decide +kernel) (by decide +kernel)
set_option maxRecDepth 20000 in
theorem gX10_law_X10_isReach : GoodIn wsX10_law (wsV RX10 131 RX10 yX10_isReach wsX10_isReach) := goodIn_app (goodIn_of _ (by decide +kernel)) ggX10_law_X10_isReach
set_option maxRecDepth 20000 in
theorem ggX10_law_X10_allowed : GoodIn wsX10_law wsX10_allowed := goodIn_r _ [27, 5, 6, 7, 3, 8, 9, 10, 11, 12, 13, 14, 15, 16, 17, 18, 28, 29, 30, 31, 32, 33, 34, 35, 36, 37, 38, 39, 40, 41, 42, 43, 44, 45, 46, 47, 48, 49, 50, 51, 52, 53, 54, 55, 56, 57, 58, 59, 60, 61, 62, 63, 64, 65, 66, 67, 68, 69, 70, 71, 72] (by decide +kernel) (by decide +kernel)
set_option maxRecDepth 20000 in
theorem gX10_law_X10_allowed : GoodIn wsX10_law (wsV RX10 216 RX10 yX10_allowed wsX10_allowed) := goodIn_app (goodIn_of _ (by decide +kernel)) ggX10_law_X10_allowed
theorem dX10_law_0 : decode cX10_law 0 = .ok (.iload_n 1, 1) := by decide +kernel
theorem dX10_law_1 : decode cX10_law 1 = .ok (.iconst 0, 1) := by decide +kernel
theorem dX10_law_2 : decode cX10_law 2 = .ok (.sipush 400, 3) := by decide +kernel
theorem dX10_law_5 : decode cX10_law 5 = .ok (.invokestatic 124, 3) := by decide +kernel
theorem dX10_law_8 : decode cX10_law 8 = .ok (.ifCond .ne 5, 3) := by decide +kernel
theorem dX10_law_11 : decode cX10_law 11 = .ok (.iconst (-1), 1) := by decide +kernel
theorem dX10_law_12 : decode cX10_law 12 = .ok (.ireturn, 1) := by decide +kernel
theorem dX10_law_13 : decode cX10_law 13 = .ok (.iload_n 2, 1) := by decide +kernel
theorem dX10_law_14 : decode cX10_law 14 = .ok (.tableswitch 77 0 4 #[34, 43, 53, 62, 71], 34) := by decide +kernel
theorem dX10_law_48 : decode cX10_law 48 = .ok (.aload_n 0, 1) := by decide +kernel
theorem dX10_law_49 : decode cX10_law 49 = .ok (.iload_n 1, 1) := by decide +kernel
theorem dX10_law_50 : decode cX10_law 50 = .ok (.iconst 0, 1) := by decide +kernel
theorem dX10_law_51 : decode cX10_law 51 = .ok (.iconst 0, 1) := by decide +kernel
theorem dX10_law_52 : decode cX10_law 52 = .ok (.iconst 2, 1) := by decide +kernel
theorem dX10_law_53 : decode cX10_law 53 = .ok (.invokevirtual 212, 3) := by decide +kernel
theorem dX10_law_56 : decode cX10_law 56 = .ok (.ireturn, 1) := by decide +kernel
theorem dX10_law_57 : decode cX10_law 57 = .ok (.aload_n 0, 1) := by decide +kernel
theorem dX10_law_58 : decode cX10_law 58 = .ok (.iload_n 1, 1) := by decide +kernel
theorem dX10_law_59 : decode cX10_law 59 = .ok (.iconst 2, 1) := by decide +kernel
theorem dX10_law_60 : decode cX10_law 60 = .ok (.iconst 0, 1) := by decide +kernel
theorem dX10_law_61 : decode cX10_law 61 = .ok (.bipush 20, 2) := by decide +kernel
theorem dX10_law_63 : decode cX10_law 63 = .ok (.invokevirtual 212, 3) := by decide +kernel
theorem dX10_law_66 : decode cX10_law 66 = .ok (.ireturn, 1) := by decide +kernel
theorem dX10_law_67 : decode cX10_law 67 = .ok (.aload_n 0, 1) := by decide +kernel
theorem dX10_law_68 : decode cX10_law 68 = .ok (.iload_n 1, 1) := by decide +kernel
theorem dX10_law_69 : decode cX10_law 69 = .ok (.iconst 3, 1) := by decide +kernel
theorem dX10_law_70 : decode cX10_law 70 = .ok (.iconst 0, 1) := by decide +kernel
theorem dX10_law_71 : decode cX10_law 71 = .ok (.iconst 2, 1) := by decide +kernel
theorem dX10_law_72 : decode cX10_law 72 = .ok (.invokevirtual 212, 3) := by decide +kernel
theorem dX10_law_75 : decode cX10_law 75 = .ok (.ireturn, 1) := by decide +kernel
theorem dX10_law_76 : decode cX10_law 76 = .ok (.aload_n 0, 1) := by decide +kernel
theorem dX10_law_77 : decode cX10_law 77 = .ok (.iload_n 1, 1) := by decide +kernel
theorem dX10_law_78 : decode cX10_law 78 = .ok (.iconst 4, 1) := by decide +kernel
theorem dX10_law_79 : decode cX10_law 79 = .ok (.iconst 0, 1) := by decide +kernel
theorem dX10_law_80 : decode cX10_law 80 = .ok (.iconst 1, 1) := by decide +kernel
theorem dX10_law_81 : decode cX10_law 81 = .ok (.invokevirtual 212, 3) := by decide +kernel
theorem dX10_law_84 : decode cX10_law 84 = .ok (.ireturn, 1) := by decide +kernel
theorem dX10_law_85 : decode cX10_law 85 = .ok (.aload_n 0, 1) := by decide +kernel
theorem dX10_law_86 : decode cX10_law 86 = .ok (.iload_n 1, 1) := by decide +kernel
theorem dX10_law_87 : decode cX10_law 87 = .ok (.invokevirtual 208, 3) := by decide +kernel
theorem dX10_law_90 : decode cX10_law 90 = .ok (.ireturn, 1) := by decide +kernel
theorem dX10_law_91 : decode cX10_law 91 = .ok (.aload_n 0, 1) := by decide +kernel
theorem dX10_law_92 : decode cX10_law 92 = .ok (.iload_n 2, 1) := by decide +kernel
theorem dX10_law_93 : decode cX10_law 93 = .ok (.bipush 10, 2) := by decide +kernel
theorem dX10_law_95 : decode cX10_law 95 = .ok (.isub, 1) := by decide +kernel
theorem dX10_law_96 : decode cX10_law 96 = .ok (.invokevirtual 131, 3) := by decide +kernel
theorem dX10_law_99 : decode cX10_law 99 = .ok (.ifCond .eq 15, 3) := by decide +kernel
theorem dX10_law_102 : decode cX10_law 102 = .ok (.aload_n 0, 1) := by decide +kernel
theorem dX10_law_103 : decode cX10_law 103 = .ok (.iload_n 1, 1) := by decide +kernel
theorem dX10_law_104 : decode cX10_law 104 = .ok (.iload_n 2, 1) := by decide +kernel
theorem dX10_law_105 : decode cX10_law 105 = .ok (.bipush 10, 2) := by decide +kernel
theorem dX10_law_107 : decode cX10_law 107 = .ok (.isub, 1) := by decide +kernel
theorem dX10_law_108 : decode cX10_law 108 = .ok (.invokevirtual 216, 3) := by decide +kernel
theorem dX10_law_111 : decode cX10_law 111 = .ok (.goto 4, 3) := by decide +kernel
theorem dX10_law_114 : decode cX10_law 114 = .ok (.iconst (-1), 1) := by decide +kernel
theorem dX10_law_115 : decode cX10_law 115 = .ok (.ireturn, 1) := by decide +kernel
set_option maxRecDepth 20000 in
theorem ggX10_leave_X10_isSquadron : GoodIn wsX10_leave wsX10_isSquadron := goodIn_r _ [6, 7, 8, 9, 5, 10, 11, 12, 13, 14, 15, 16, 17, 18, 19, 20, 21, 22, 23, 24, 25, 26, 27, 28, 29, 30, 31, 32, 33, 34, 35, 36, 37, 38, 39, 40, 41, 42, 43, 44, 45, 46, 47, 48, 49, 50, 51, 52, 53, 54, 55] (by decide +kernel) (by decide +kernel)
set_option maxRecDepth 20000 in
theorem gX10_leave_X10_isSquadron : GoodIn wsX10_leave (wsV RX10 219 RX10 yX10_isSquadron wsX10_isSquadron) := goodIn_app (goodIn_of _ (by decide +kernel)) ggX10_leave_X10_isSquadron
theorem dX10_leave_0 : decode cX10_leave 0 = .ok (.aload_n 0, 1) := by decide +kernel
theorem dX10_leave_1 : decode cX10_leave 1 = .ok (.iload_n 1, 1) := by decide +kernel
theorem dX10_leave_2 : decode cX10_leave 2 = .ok (.invokevirtual 219, 3) := by decide +kernel
theorem dX10_leave_5 : decode cX10_leave 5 = .ok (.ifCond .eq 13, 3) := by decide +kernel
theorem dX10_leave_8 : decode cX10_leave 8 = .ok (.aload_n 0, 1) := by decide +kernel
theorem dX10_leave_9 : decode cX10_leave 9 = .ok (.getfield 56, 3) := by decide +kernel
theorem dX10_leave_12 : decode cX10_leave 12 = .ok (.iload_n 1, 1) := by decide +kernel
theorem dX10_leave_13 : decode cX10_leave 13 = .ok (.baload, 1) := by decide +kernel
theorem dX10_leave_14 : decode cX10_leave 14 = .ok (.iload_n 2, 1) := by decide +kernel
theorem dX10_leave_15 : decode cX10_leave 15 = .ok (.if_icmp .ne 5, 3) := by decide +kernel
theorem dX10_leave_18 : decode cX10_leave 18 = .ok (.iconst 0, 1) := by decide +kernel
theorem dX10_leave_19 : decode cX10_leave 19 = .ok (.ireturn, 1) := by decide +kernel
theorem dX10_leave_20 : decode cX10_leave 20 = .ok (.aload_n 0, 1) := by decide +kernel
theorem dX10_leave_21 : decode cX10_leave 21 = .ok (.getfield 56, 3) := by decide +kernel
theorem dX10_leave_24 : decode cX10_leave 24 = .ok (.iload_n 1, 1) := by decide +kernel
theorem dX10_leave_25 : decode cX10_leave 25 = .ok (.iload_n 2, 1) := by decide +kernel
theorem dX10_leave_26 : decode cX10_leave 26 = .ok (.bastore, 1) := by decide +kernel
theorem dX10_leave_27 : decode cX10_leave 27 = .ok (.iconst 1, 1) := by decide +kernel
theorem dX10_leave_28 : decode cX10_leave 28 = .ok (.ireturn, 1) := by decide +kernel
set_option maxRecDepth 20000 in
theorem ggX10_lose_X10_isSquadron : GoodIn wsX10_lose wsX10_isSquadron := goodIn_r _ [8, 9, 10, 11, 7, 12, 13, 14, 15, 16, 17, 18, 19, 20, 21, 22, 23, 24, 25, 26, 27, 28, 29, 30, 31, 32, 33, 34, 35, 36, 37, 38, 39, 40, 41, 42, 43, 44, 45, 46, 47, 48, 49, 50, 51, 52, 53, 54, 55, 56, 57] (by decide +kernel) (by decide +kernel)
set_option maxRecDepth 20000 in
theorem gX10_lose_X10_isSquadron : GoodIn wsX10_lose (wsV RX10 219 RX10 yX10_isSquadron wsX10_isSquadron) := goodIn_app (goodIn_of _ (by decide +kernel)) ggX10_lose_X10_isSquadron
set_option maxRecDepth 20000 in
theorem ggX10_lose_X10_isIn : GoodIn wsX10_lose wsX10_isIn := goodIn_r _ [12] (by decide +kernel) (by decide +kernel)
set_option maxRecDepth 20000 in
theorem gX10_lose_X10_isIn : GoodIn wsX10_lose (va_wsS RX10 124 yX10_isIn wsX10_isIn) := goodIn_app (goodIn_of _ (by decide +kernel)) ggX10_lose_X10_isIn
theorem dX10_lose_0 : decode cX10_lose 0 = .ok (.aload_n 0, 1) := by decide +kernel
theorem dX10_lose_1 : decode cX10_lose 1 = .ok (.iload_n 1, 1) := by decide +kernel
theorem dX10_lose_2 : decode cX10_lose 2 = .ok (.invokevirtual 219, 3) := by decide +kernel
theorem dX10_lose_5 : decode cX10_lose 5 = .ok (.ifCond .eq 34, 3) := by decide +kernel
theorem dX10_lose_8 : decode cX10_lose 8 = .ok (.aload_n 0, 1) := by decide +kernel
theorem dX10_lose_9 : decode cX10_lose 9 = .ok (.getfield 47, 3) := by decide +kernel
theorem dX10_lose_12 : decode cX10_lose 12 = .ok (.iload_n 1, 1) := by decide +kernel
theorem dX10_lose_13 : decode cX10_lose 13 = .ok (.iaload, 1) := by decide +kernel
theorem dX10_lose_14 : decode cX10_lose 14 = .ok (.iconst (-1), 1) := by decide +kernel
theorem dX10_lose_15 : decode cX10_lose 15 = .ok (.if_icmp .ne 24, 3) := by decide +kernel
theorem dX10_lose_18 : decode cX10_lose 18 = .ok (.iload_n 2, 1) := by decide +kernel
theorem dX10_lose_19 : decode cX10_lose 19 = .ok (.iconst 1, 1) := by decide +kernel
theorem dX10_lose_20 : decode cX10_lose 20 = .ok (.aload_n 0, 1) := by decide +kernel
theorem dX10_lose_21 : decode cX10_lose 21 = .ok (.getfield 35, 3) := by decide +kernel
theorem dX10_lose_24 : decode cX10_lose 24 = .ok (.iload_n 1, 1) := by decide +kernel
theorem dX10_lose_25 : decode cX10_lose 25 = .ok (.iaload, 1) := by decide +kernel
theorem dX10_lose_26 : decode cX10_lose 26 = .ok (.aload_n 0, 1) := by decide +kernel
theorem dX10_lose_27 : decode cX10_lose 27 = .ok (.getfield 38, 3) := by decide +kernel
theorem dX10_lose_30 : decode cX10_lose 30 = .ok (.iload_n 1, 1) := by decide +kernel
theorem dX10_lose_31 : decode cX10_lose 31 = .ok (.iaload, 1) := by decide +kernel
theorem dX10_lose_32 : decode cX10_lose 32 = .ok (.isub, 1) := by decide +kernel
theorem dX10_lose_33 : decode cX10_lose 33 = .ok (.invokestatic 124, 3) := by decide +kernel
theorem dX10_lose_36 : decode cX10_lose 36 = .ok (.ifCond .ne 5, 3) := by decide +kernel
theorem dX10_lose_39 : decode cX10_lose 39 = .ok (.iconst (-1), 1) := by decide +kernel
theorem dX10_lose_40 : decode cX10_lose 40 = .ok (.ireturn, 1) := by decide +kernel
theorem dX10_lose_41 : decode cX10_lose 41 = .ok (.aload_n 0, 1) := by decide +kernel
theorem dX10_lose_42 : decode cX10_lose 42 = .ok (.getfield 38, 3) := by decide +kernel
theorem dX10_lose_45 : decode cX10_lose 45 = .ok (.iload_n 1, 1) := by decide +kernel
theorem dX10_lose_46 : decode cX10_lose 46 = .ok (.dup2, 1) := by decide +kernel
theorem dX10_lose_47 : decode cX10_lose 47 = .ok (.iaload, 1) := by decide +kernel
theorem dX10_lose_48 : decode cX10_lose 48 = .ok (.iload_n 2, 1) := by decide +kernel
theorem dX10_lose_49 : decode cX10_lose 49 = .ok (.iadd, 1) := by decide +kernel
theorem dX10_lose_50 : decode cX10_lose 50 = .ok (.iastore, 1) := by decide +kernel
theorem dX10_lose_51 : decode cX10_lose 51 = .ok (.aload_n 0, 1) := by decide +kernel
theorem dX10_lose_52 : decode cX10_lose 52 = .ok (.getfield 35, 3) := by decide +kernel
theorem dX10_lose_55 : decode cX10_lose 55 = .ok (.iload_n 1, 1) := by decide +kernel
theorem dX10_lose_56 : decode cX10_lose 56 = .ok (.iaload, 1) := by decide +kernel
theorem dX10_lose_57 : decode cX10_lose 57 = .ok (.aload_n 0, 1) := by decide +kernel
theorem dX10_lose_58 : decode cX10_lose 58 = .ok (.getfield 38, 3) := by decide +kernel
theorem dX10_lose_61 : decode cX10_lose 61 = .ok (.iload_n 1, 1) := by decide +kernel
theorem dX10_lose_62 : decode cX10_lose 62 = .ok (.iaload, 1) := by decide +kernel
theorem dX10_lose_63 : decode cX10_lose 63 = .ok (.isub, 1) := by decide +kernel
theorem dX10_lose_64 : decode cX10_lose 64 = .ok (.ireturn, 1) := by decide +kernel
theorem dX10_isAhead_0 : decode cX10_isAhead 0 = .ok (.iload_n 3, 1) := by decide +kernel
theorem dX10_isAhead_1 : decode cX10_isAhead 1 = .ok (.ifCond .ne 19, 3) := by decide +kernel
theorem dX10_isAhead_4 : decode cX10_isAhead 4 = .ok (.aload_n 0, 1) := by decide +kernel
theorem dX10_isAhead_5 : decode cX10_isAhead 5 = .ok (.getfield 29, 3) := by decide +kernel
theorem dX10_isAhead_8 : decode cX10_isAhead 8 = .ok (.iload_n 2, 1) := by decide +kernel
theorem dX10_isAhead_9 : decode cX10_isAhead 9 = .ok (.iaload, 1) := by decide +kernel
theorem dX10_isAhead_10 : decode cX10_isAhead 10 = .ok (.aload_n 0, 1) := by decide +kernel
theorem dX10_isAhead_11 : decode cX10_isAhead 11 = .ok (.getfield 29, 3) := by decide +kernel
theorem dX10_isAhead_14 : decode cX10_isAhead 14 = .ok (.iload_n 1, 1) := by decide +kernel
theorem dX10_isAhead_15 : decode cX10_isAhead 15 = .ok (.iaload, 1) := by decide +kernel
theorem dX10_isAhead_16 : decode cX10_isAhead 16 = .ok (.isub, 1) := by decide +kernel
theorem dX10_isAhead_17 : decode cX10_isAhead 17 = .ok (.goto 25, 3) := by decide +kernel
theorem dX10_isAhead_20 : decode cX10_isAhead 20 = .ok (.iload_n 3, 1) := by decide +kernel
theorem dX10_isAhead_21 : decode cX10_isAhead 21 = .ok (.iconst 1, 1) := by decide +kernel
theorem dX10_isAhead_22 : decode cX10_isAhead 22 = .ok (.if_icmp .ne 19, 3) := by decide +kernel
theorem dX10_isAhead_25 : decode cX10_isAhead 25 = .ok (.aload_n 0, 1) := by decide +kernel
theorem dX10_isAhead_26 : decode cX10_isAhead 26 = .ok (.getfield 32, 3) := by decide +kernel
theorem dX10_isAhead_29 : decode cX10_isAhead 29 = .ok (.iload_n 1, 1) := by decide +kernel
theorem dX10_isAhead_30 : decode cX10_isAhead 30 = .ok (.iaload, 1) := by decide +kernel
theorem dX10_isAhead_31 : decode cX10_isAhead 31 = .ok (.aload_n 0, 1) := by decide +kernel
theorem dX10_isAhead_32 : decode cX10_isAhead 32 = .ok (.getfield 32, 3) := by decide +kernel
theorem dX10_isAhead_35 : decode cX10_isAhead 35 = .ok (.iload_n 2, 1) := by decide +kernel
theorem dX10_isAhead_36 : decode cX10_isAhead 36 = .ok (.iaload, 1) := by decide +kernel
theorem dX10_isAhead_37 : decode cX10_isAhead 37 = .ok (.isub, 1) := by decide +kernel
theorem dX10_isAhead_38 : decode cX10_isAhead 38 = .ok (.goto 4, 3) := by decide +kernel
theorem dX10_isAhead_41 : decode cX10_isAhead 41 = .ok (.iconst 0, 1) := by decide +kernel
theorem dX10_isAhead_42 : decode cX10_isAhead 42 = .ok (.istore 4, 2) := by decide +kernel
theorem dX10_isAhead_44 : decode cX10_isAhead 44 = .ok (.iload 4, 2) := by decide +kernel
theorem dX10_isAhead_46 : decode cX10_isAhead 46 = .ok (.ifCond .eq 16, 3) := by decide +kernel
theorem dX10_isAhead_49 : decode cX10_isAhead 49 = .ok (.iload 4, 2) := by decide +kernel
theorem dX10_isAhead_51 : decode cX10_isAhead 51 = .ok (.ifCond .le 7, 3) := by decide +kernel
theorem dX10_isAhead_54 : decode cX10_isAhead 54 = .ok (.iconst 1, 1) := by decide +kernel
theorem dX10_isAhead_55 : decode cX10_isAhead 55 = .ok (.goto 17, 3) := by decide +kernel
theorem dX10_isAhead_58 : decode cX10_isAhead 58 = .ok (.iconst 0, 1) := by decide +kernel
theorem dX10_isAhead_59 : decode cX10_isAhead 59 = .ok (.goto 13, 3) := by decide +kernel
theorem dX10_isAhead_62 : decode cX10_isAhead 62 = .ok (.iload_n 1, 1) := by decide +kernel
theorem dX10_isAhead_63 : decode cX10_isAhead 63 = .ok (.iload_n 2, 1) := by decide +kernel
theorem dX10_isAhead_64 : decode cX10_isAhead 64 = .ok (.if_icmp .ge 7, 3) := by decide +kernel
theorem dX10_isAhead_67 : decode cX10_isAhead 67 = .ok (.iconst 1, 1) := by decide +kernel
theorem dX10_isAhead_68 : decode cX10_isAhead 68 = .ok (.goto 4, 3) := by decide +kernel
theorem dX10_isAhead_71 : decode cX10_isAhead 71 = .ok (.iconst 0, 1) := by decide +kernel
theorem dX10_isAhead_72 : decode cX10_isAhead 72 = .ok (.ireturn, 1) := by decide +kernel
set_option maxRecDepth 20000 in
theorem ggX10_day_X10_opens : GoodIn wsX10_day wsX10_opens := goodIn_r _ [20, 21, 1, 11, 22, 13, 12, 9, 23, 24, 25, 5, 6, 7, 8, 14, 26, 27, 28, 29, 19, 30, 31, 32, 33, 34, 35, 36, 37, 38, 39, 40, 41, 42, 43, 44, 45, 46, 47, 48, 49, 50, 51, 52, 53, 54, 55, 56, 57, 58, 59, 60, 61, 62, 63, 64, 65, 66, 67, 68, 69, 70, 71, 72, 73, 74, 75, 76, 77, 78, 79, 80, 81, 82, 83, 84, 85, 86, 87, 88, 89, 90, 91, 92, 93, 94, 95, 96, 97, 98, 99, 100] (by decide +kernel) (by decide +kernel)
set_option maxRecDepth 20000 in
theorem gX10_day_X10_opens : GoodIn wsX10_day (wsV RX10 222 RX10 yX10_opens wsX10_opens) := goodIn_app (goodIn_of _ (by decide +kernel)) ggX10_day_X10_opens
theorem dX10_day_0 : decode cX10_day 0 = .ok (.aload_n 0, 1) := by decide +kernel
theorem dX10_day_1 : decode cX10_day 1 = .ok (.getfield 144, 3) := by decide +kernel
theorem dX10_day_4 : decode cX10_day 4 = .ok (.sipush 400, 3) := by decide +kernel
theorem dX10_day_7 : decode cX10_day 7 = .ok (.if_icmp .ne 5, 3) := by decide +kernel
theorem dX10_day_10 : decode cX10_day 10 = .ok (.iconst (-1), 1) := by decide +kernel
theorem dX10_day_11 : decode cX10_day 11 = .ok (.ireturn, 1) := by decide +kernel
theorem dX10_day_12 : decode cX10_day 12 = .ok (.iconst 0, 1) := by decide +kernel
theorem dX10_day_13 : decode cX10_day 13 = .ok (.istore_n 1, 1) := by decide +kernel
theorem dX10_day_14 : decode cX10_day 14 = .ok (.iload_n 1, 1) := by decide +kernel
theorem dX10_day_15 : decode cX10_day 15 = .ok (.aload_n 0, 1) := by decide +kernel
theorem dX10_day_16 : decode cX10_day 16 = .ok (.getfield 138, 3) := by decide +kernel
theorem dX10_day_19 : decode cX10_day 19 = .ok (.if_icmp .ge 68, 3) := by decide +kernel
theorem dX10_day_22 : decode cX10_day 22 = .ok (.aload_n 0, 1) := by decide +kernel
theorem dX10_day_23 : decode cX10_day 23 = .ok (.getfield 26, 3) := by decide +kernel
theorem dX10_day_26 : decode cX10_day 26 = .ok (.iload_n 1, 1) := by decide +kernel
theorem dX10_day_27 : decode cX10_day 27 = .ok (.iaload, 1) := by decide +kernel
theorem dX10_day_28 : decode cX10_day 28 = .ok (.aload_n 0, 1) := by decide +kernel
theorem dX10_day_29 : decode cX10_day 29 = .ok (.getfield 23, 3) := by decide +kernel
theorem dX10_day_32 : decode cX10_day 32 = .ok (.iload_n 1, 1) := by decide +kernel
theorem dX10_day_33 : decode cX10_day 33 = .ok (.iaload, 1) := by decide +kernel
theorem dX10_day_34 : decode cX10_day 34 = .ok (.invokestatic 112, 3) := by decide +kernel
theorem dX10_day_37 : decode cX10_day 37 = .ok (.sipush 1000, 3) := by decide +kernel
theorem dX10_day_40 : decode cX10_day 40 = .ok (.aload_n 0, 1) := by decide +kernel
theorem dX10_day_41 : decode cX10_day 41 = .ok (.getfield 7, 3) := by decide +kernel
theorem dX10_day_44 : decode cX10_day 44 = .ok (.aload_n 0, 1) := by decide +kernel
theorem dX10_day_45 : decode cX10_day 45 = .ok (.getfield 20, 3) := by decide +kernel
theorem dX10_day_48 : decode cX10_day 48 = .ok (.iload_n 1, 1) := by decide +kernel
theorem dX10_day_49 : decode cX10_day 49 = .ok (.iaload, 1) := by decide +kernel
theorem dX10_day_50 : decode cX10_day 50 = .ok (.iaload, 1) := by decide +kernel
theorem dX10_day_51 : decode cX10_day 51 = .ok (.isub, 1) := by decide +kernel
theorem dX10_day_52 : decode cX10_day 52 = .ok (.invokestatic 112, 3) := by decide +kernel
theorem dX10_day_55 : decode cX10_day 55 = .ok (.istore_n 2, 1) := by decide +kernel
theorem dX10_day_56 : decode cX10_day 56 = .ok (.aload_n 0, 1) := by decide +kernel
theorem dX10_day_57 : decode cX10_day 57 = .ok (.getfield 23, 3) := by decide +kernel
theorem dX10_day_60 : decode cX10_day 60 = .ok (.iload_n 1, 1) := by decide +kernel
theorem dX10_day_61 : decode cX10_day 61 = .ok (.dup2, 1) := by decide +kernel
theorem dX10_day_62 : decode cX10_day 62 = .ok (.iaload, 1) := by decide +kernel
theorem dX10_day_63 : decode cX10_day 63 = .ok (.iload_n 2, 1) := by decide +kernel
theorem dX10_day_64 : decode cX10_day 64 = .ok (.isub, 1) := by decide +kernel
theorem dX10_day_65 : decode cX10_day 65 = .ok (.iastore, 1) := by decide +kernel
theorem dX10_day_66 : decode cX10_day 66 = .ok (.aload_n 0, 1) := by decide +kernel
theorem dX10_day_67 : decode cX10_day 67 = .ok (.getfield 7, 3) := by decide +kernel
theorem dX10_day_70 : decode cX10_day 70 = .ok (.aload_n 0, 1) := by decide +kernel
theorem dX10_day_71 : decode cX10_day 71 = .ok (.getfield 20, 3) := by decide +kernel
theorem dX10_day_74 : decode cX10_day 74 = .ok (.iload_n 1, 1) := by decide +kernel
theorem dX10_day_75 : decode cX10_day 75 = .ok (.iaload, 1) := by decide +kernel
theorem dX10_day_76 : decode cX10_day 76 = .ok (.dup2, 1) := by decide +kernel
theorem dX10_day_77 : decode cX10_day 77 = .ok (.iaload, 1) := by decide +kernel
theorem dX10_day_78 : decode cX10_day 78 = .ok (.iload_n 2, 1) := by decide +kernel
theorem dX10_day_79 : decode cX10_day 79 = .ok (.iadd, 1) := by decide +kernel
theorem dX10_day_80 : decode cX10_day 80 = .ok (.iastore, 1) := by decide +kernel
theorem dX10_day_81 : decode cX10_day 81 = .ok (.iinc 1 1, 3) := by decide +kernel
theorem dX10_day_84 : decode cX10_day 84 = .ok (.goto (-70), 3) := by decide +kernel
theorem dX10_day_87 : decode cX10_day 87 = .ok (.iconst 0, 1) := by decide +kernel
theorem dX10_day_88 : decode cX10_day 88 = .ok (.istore_n 1, 1) := by decide +kernel
theorem dX10_day_89 : decode cX10_day 89 = .ok (.iload_n 1, 1) := by decide +kernel
theorem dX10_day_90 : decode cX10_day 90 = .ok (.aload_n 0, 1) := by decide +kernel
theorem dX10_day_91 : decode cX10_day 91 = .ok (.getfield 128, 3) := by decide +kernel
theorem dX10_day_94 : decode cX10_day 94 = .ok (.if_icmp .ge 51, 3) := by decide +kernel
theorem dX10_day_97 : decode cX10_day 97 = .ok (.aload_n 0, 1) := by decide +kernel
theorem dX10_day_98 : decode cX10_day 98 = .ok (.getfield 50, 3) := by decide +kernel
theorem dX10_day_101 : decode cX10_day 101 = .ok (.iload_n 1, 1) := by decide +kernel
theorem dX10_day_102 : decode cX10_day 102 = .ok (.iconst 0, 1) := by decide +kernel
theorem dX10_day_103 : decode cX10_day 103 = .ok (.iastore, 1) := by decide +kernel
theorem dX10_day_104 : decode cX10_day 104 = .ok (.aload_n 0, 1) := by decide +kernel
theorem dX10_day_105 : decode cX10_day 105 = .ok (.getfield 44, 3) := by decide +kernel
theorem dX10_day_108 : decode cX10_day 108 = .ok (.iload_n 1, 1) := by decide +kernel
theorem dX10_day_109 : decode cX10_day 109 = .ok (.iaload, 1) := by decide +kernel
theorem dX10_day_110 : decode cX10_day 110 = .ok (.aload_n 0, 1) := by decide +kernel
theorem dX10_day_111 : decode cX10_day 111 = .ok (.getfield 121, 3) := by decide +kernel
theorem dX10_day_114 : decode cX10_day 114 = .ok (.iconst 1, 1) := by decide +kernel
theorem dX10_day_115 : decode cX10_day 115 = .ok (.isub, 1) := by decide +kernel
theorem dX10_day_116 : decode cX10_day 116 = .ok (.if_icmp .ge 23, 3) := by decide +kernel
theorem dX10_day_119 : decode cX10_day 119 = .ok (.aload_n 0, 1) := by decide +kernel
theorem dX10_day_120 : decode cX10_day 120 = .ok (.getfield 60, 3) := by decide +kernel
theorem dX10_day_123 : decode cX10_day 123 = .ok (.bipush 12, 2) := by decide +kernel
theorem dX10_day_125 : decode cX10_day 125 = .ok (.iload_n 1, 1) := by decide +kernel
theorem dX10_day_126 : decode cX10_day 126 = .ok (.imul, 1) := by decide +kernel
theorem dX10_day_127 : decode cX10_day 127 = .ok (.aload_n 0, 1) := by decide +kernel
theorem dX10_day_128 : decode cX10_day 128 = .ok (.getfield 44, 3) := by decide +kernel
theorem dX10_day_131 : decode cX10_day 131 = .ok (.iload_n 1, 1) := by decide +kernel
theorem dX10_day_132 : decode cX10_day 132 = .ok (.iaload, 1) := by decide +kernel
theorem dX10_day_133 : decode cX10_day 133 = .ok (.iadd, 1) := by decide +kernel
theorem dX10_day_134 : decode cX10_day 134 = .ok (.dup2, 1) := by decide +kernel
theorem dX10_day_135 : decode cX10_day 135 = .ok (.iaload, 1) := by decide +kernel
theorem dX10_day_136 : decode cX10_day 136 = .ok (.iconst 1, 1) := by decide +kernel
theorem dX10_day_137 : decode cX10_day 137 = .ok (.iadd, 1) := by decide +kernel
theorem dX10_day_138 : decode cX10_day 138 = .ok (.iastore, 1) := by decide +kernel
theorem dX10_day_139 : decode cX10_day 139 = .ok (.iinc 1 1, 3) := by decide +kernel
theorem dX10_day_142 : decode cX10_day 142 = .ok (.goto (-53), 3) := by decide +kernel
theorem dX10_day_145 : decode cX10_day 145 = .ok (.aload_n 0, 1) := by decide +kernel
theorem dX10_day_146 : decode cX10_day 146 = .ok (.getfield 121, 3) := by decide +kernel
theorem dX10_day_149 : decode cX10_day 149 = .ok (.iconst 2, 1) := by decide +kernel
theorem dX10_day_150 : decode cX10_day 150 = .ok (.isub, 1) := by decide +kernel
theorem dX10_day_151 : decode cX10_day 151 = .ok (.istore_n 1, 1) := by decide +kernel
theorem dX10_day_152 : decode cX10_day 152 = .ok (.iload_n 1, 1) := by decide +kernel
theorem dX10_day_153 : decode cX10_day 153 = .ok (.ifCond .lt 14, 3) := by decide +kernel
theorem dX10_day_156 : decode cX10_day 156 = .ok (.aload_n 0, 1) := by decide +kernel
theorem dX10_day_157 : decode cX10_day 157 = .ok (.iload_n 1, 1) := by decide +kernel
theorem dX10_day_158 : decode cX10_day 158 = .ok (.invokevirtual 222, 3) := by decide +kernel
theorem dX10_day_161 : decode cX10_day 161 = .ok (.iinc 1 (-1), 3) := by decide +kernel
theorem dX10_day_164 : decode cX10_day 164 = .ok (.goto (-12), 3) := by decide +kernel
theorem dX10_day_167 : decode cX10_day 167 = .ok (.aload_n 0, 1) := by decide +kernel
theorem dX10_day_168 : decode cX10_day 168 = .ok (.dup, 1) := by decide +kernel
theorem dX10_day_169 : decode cX10_day 169 = .ok (.getfield 144, 3) := by decide +kernel
theorem dX10_day_172 : decode cX10_day 172 = .ok (.iconst 1, 1) := by decide +kernel
theorem dX10_day_173 : decode cX10_day 173 = .ok (.iadd, 1) := by decide +kernel
theorem dX10_day_174 : decode cX10_day 174 = .ok (.putfield 144, 3) := by decide +kernel
theorem dX10_day_177 : decode cX10_day 177 = .ok (.aload_n 0, 1) := by decide +kernel
theorem dX10_day_178 : decode cX10_day 178 = .ok (.getfield 144, 3) := by decide +kernel
theorem dX10_day_181 : decode cX10_day 181 = .ok (.ireturn, 1) := by decide +kernel
set_option maxRecDepth 20000 in
theorem ggX10_opens_X10_tells : GoodIn wsX10_opens wsX10_tells := goodIn_r _ [21, 22, 23, 24, 25, 26, 27, 28, 20, 29, 30, 31, 47, 48, 49, 50, 51, 52, 53, 54, 55, 56, 57, 58, 59, 60, 61, 62, 63, 64, 65, 66, 67, 68, 69, 70, 71, 72, 73, 74, 75, 76, 77, 78, 79, 80, 81, 82, 83, 84, 85, 86, 87, 88, 89, 90, 91] (by decide +kernel) (by decide +kernel)
set_option maxRecDepth 20000 in
theorem gX10_opens_X10_tells : GoodIn wsX10_opens (wsV RX10 212 RX10 yX10_tells wsX10_tells) := goodIn_app (goodIn_of _ (by decide +kernel)) ggX10_opens_X10_tells
set_option maxRecDepth 20000 in
theorem ggX10_opens_X10_next : GoodIn wsX10_opens wsX10_next := goodIn_r _ [35, 3, 4, 36, 37, 38, 20, 39, 40, 8, 47, 48, 49, 50, 51, 52, 53, 54, 55, 56, 57, 58, 59, 60, 61, 62, 63, 64, 65, 66, 67, 68, 69, 70, 71, 72, 73, 74, 75, 76, 77, 78, 79, 80, 81, 82, 83, 84, 85, 86, 87, 88, 89, 90, 91] (by decide +kernel) (by decide +kernel)
set_option maxRecDepth 20000 in
theorem gX10_opens_X10_next : GoodIn wsX10_opens (wsV RX10 225 RX10 yX10_next wsX10_next) := goodIn_app (goodIn_of _ (by decide +kernel)) ggX10_opens_X10_next
set_option maxRecDepth 20000 in
theorem ggX10_opens_X10_hasIce : GoodIn wsX10_opens wsX10_hasIce := goodIn_r _ [44, 2, 45, 46, 47, 48, 49, 50, 51, 52, 53, 54, 55, 56, 57, 58, 59, 60, 61, 62, 63, 64, 65, 66, 67, 68, 69, 70, 71, 72, 73, 74, 75, 76, 77, 78, 79, 80, 81, 82, 83, 84, 85, 86, 87, 88, 89, 90, 91] (by decide +kernel) (by decide +kernel)
set_option maxRecDepth 20000 in
theorem gX10_opens_X10_hasIce : GoodIn wsX10_opens (wsV RX10 228 RX10 yX10_hasIce wsX10_hasIce) := goodIn_app (goodIn_of _ (by decide +kernel)) ggX10_opens_X10_hasIce
theorem dX10_opens_0 : decode cX10_opens 0 = .ok (.aload_n 0, 1) := by decide +kernel
theorem dX10_opens_1 : decode cX10_opens 1 = .ok (.getfield 13, 3) := by decide +kernel
theorem dX10_opens_4 : decode cX10_opens 4 = .ok (.iload_n 1, 1) := by decide +kernel
theorem dX10_opens_5 : decode cX10_opens 5 = .ok (.iaload, 1) := by decide +kernel
theorem dX10_opens_6 : decode cX10_opens 6 = .ok (.istore_n 2, 1) := by decide +kernel
theorem dX10_opens_7 : decode cX10_opens 7 = .ok (.iconst 0, 1) := by decide +kernel
theorem dX10_opens_8 : decode cX10_opens 8 = .ok (.istore_n 3, 1) := by decide +kernel
theorem dX10_opens_9 : decode cX10_opens 9 = .ok (.aload_n 0, 1) := by decide +kernel
theorem dX10_opens_10 : decode cX10_opens 10 = .ok (.aload_n 0, 1) := by decide +kernel
theorem dX10_opens_11 : decode cX10_opens 11 = .ok (.getfield 144, 3) := by decide +kernel
theorem dX10_opens_14 : decode cX10_opens 14 = .ok (.iconst 0, 1) := by decide +kernel
theorem dX10_opens_15 : decode cX10_opens 15 = .ok (.iconst 0, 1) := by decide +kernel
theorem dX10_opens_16 : decode cX10_opens 16 = .ok (.iconst 2, 1) := by decide +kernel
theorem dX10_opens_17 : decode cX10_opens 17 = .ok (.invokevirtual 212, 3) := by decide +kernel
theorem dX10_opens_20 : decode cX10_opens 20 = .ok (.istore 4, 2) := by decide +kernel
theorem dX10_opens_22 : decode cX10_opens 22 = .ok (.iconst 0, 1) := by decide +kernel
theorem dX10_opens_23 : decode cX10_opens 23 = .ok (.istore 5, 2) := by decide +kernel
theorem dX10_opens_25 : decode cX10_opens 25 = .ok (.iload 5, 2) := by decide +kernel
theorem dX10_opens_27 : decode cX10_opens 27 = .ok (.aload_n 0, 1) := by decide +kernel
theorem dX10_opens_28 : decode cX10_opens 28 = .ok (.getfield 128, 3) := by decide +kernel
theorem dX10_opens_31 : decode cX10_opens 31 = .ok (.if_icmp .ge 32, 3) := by decide +kernel
theorem dX10_opens_34 : decode cX10_opens 34 = .ok (.aload_n 0, 1) := by decide +kernel
theorem dX10_opens_35 : decode cX10_opens 35 = .ok (.getfield 100, 3) := by decide +kernel
theorem dX10_opens_38 : decode cX10_opens 38 = .ok (.iload 5, 2) := by decide +kernel
theorem dX10_opens_40 : decode cX10_opens 40 = .ok (.aload_n 0, 1) := by decide +kernel
theorem dX10_opens_41 : decode cX10_opens 41 = .ok (.getfield 44, 3) := by decide +kernel
theorem dX10_opens_44 : decode cX10_opens 44 = .ok (.iload 5, 2) := by decide +kernel
theorem dX10_opens_46 : decode cX10_opens 46 = .ok (.iaload, 1) := by decide +kernel
theorem dX10_opens_47 : decode cX10_opens 47 = .ok (.iload_n 1, 1) := by decide +kernel
theorem dX10_opens_48 : decode cX10_opens 48 = .ok (.if_icmp .eq 7, 3) := by decide +kernel
theorem dX10_opens_51 : decode cX10_opens 51 = .ok (.iconst 1, 1) := by decide +kernel
theorem dX10_opens_52 : decode cX10_opens 52 = .ok (.goto 4, 3) := by decide +kernel
theorem dX10_opens_55 : decode cX10_opens 55 = .ok (.iconst 0, 1) := by decide +kernel
theorem dX10_opens_56 : decode cX10_opens 56 = .ok (.bastore, 1) := by decide +kernel
theorem dX10_opens_57 : decode cX10_opens 57 = .ok (.iinc 5 1, 3) := by decide +kernel
theorem dX10_opens_60 : decode cX10_opens 60 = .ok (.goto (-35), 3) := by decide +kernel
theorem dX10_opens_63 : decode cX10_opens 63 = .ok (.aload_n 0, 1) := by decide +kernel
theorem dX10_opens_64 : decode cX10_opens 64 = .ok (.iload 4, 2) := by decide +kernel
theorem dX10_opens_66 : decode cX10_opens 66 = .ok (.invokevirtual 225, 3) := by decide +kernel
theorem dX10_opens_69 : decode cX10_opens 69 = .ok (.istore 5, 2) := by decide +kernel
theorem dX10_opens_71 : decode cX10_opens 71 = .ok (.iload 5, 2) := by decide +kernel
theorem dX10_opens_73 : decode cX10_opens 73 = .ok (.iconst (-1), 1) := by decide +kernel
theorem dX10_opens_74 : decode cX10_opens 74 = .ok (.if_icmp .eq 237, 3) := by decide +kernel
theorem dX10_opens_77 : decode cX10_opens 77 = .ok (.aload_n 0, 1) := by decide +kernel
theorem dX10_opens_78 : decode cX10_opens 78 = .ok (.getfield 100, 3) := by decide +kernel
theorem dX10_opens_81 : decode cX10_opens 81 = .ok (.iload 5, 2) := by decide +kernel
theorem dX10_opens_83 : decode cX10_opens 83 = .ok (.iconst 1, 1) := by decide +kernel
theorem dX10_opens_84 : decode cX10_opens 84 = .ok (.bastore, 1) := by decide +kernel
theorem dX10_opens_85 : decode cX10_opens 85 = .ok (.aload_n 0, 1) := by decide +kernel
theorem dX10_opens_86 : decode cX10_opens 86 = .ok (.getfield 50, 3) := by decide +kernel
theorem dX10_opens_89 : decode cX10_opens 89 = .ok (.iload 5, 2) := by decide +kernel
theorem dX10_opens_91 : decode cX10_opens 91 = .ok (.aload_n 0, 1) := by decide +kernel
theorem dX10_opens_92 : decode cX10_opens 92 = .ok (.iload_n 1, 1) := by decide +kernel
theorem dX10_opens_93 : decode cX10_opens 93 = .ok (.invokevirtual 228, 3) := by decide +kernel
theorem dX10_opens_96 : decode cX10_opens 96 = .ok (.ifCond .ne 13, 3) := by decide +kernel
theorem dX10_opens_99 : decode cX10_opens 99 = .ok (.aload_n 0, 1) := by decide +kernel
theorem dX10_opens_100 : decode cX10_opens 100 = .ok (.iload_n 1, 1) := by decide +kernel
theorem dX10_opens_101 : decode cX10_opens 101 = .ok (.iconst 1, 1) := by decide +kernel
theorem dX10_opens_102 : decode cX10_opens 102 = .ok (.iadd, 1) := by decide +kernel
theorem dX10_opens_103 : decode cX10_opens 103 = .ok (.invokevirtual 228, 3) := by decide +kernel
theorem dX10_opens_106 : decode cX10_opens 106 = .ok (.ifCond .eq 7, 3) := by decide +kernel
theorem dX10_opens_109 : decode cX10_opens 109 = .ok (.iconst 1, 1) := by decide +kernel
theorem dX10_opens_110 : decode cX10_opens 110 = .ok (.goto 62, 3) := by decide +kernel
theorem dX10_opens_113 : decode cX10_opens 113 = .ok (.aload_n 0, 1) := by decide +kernel
theorem dX10_opens_114 : decode cX10_opens 114 = .ok (.getfield 7, 3) := by decide +kernel
theorem dX10_opens_117 : decode cX10_opens 117 = .ok (.iload_n 1, 1) := by decide +kernel
theorem dX10_opens_118 : decode cX10_opens 118 = .ok (.iconst 1, 1) := by decide +kernel
theorem dX10_opens_119 : decode cX10_opens 119 = .ok (.iadd, 1) := by decide +kernel
theorem dX10_opens_120 : decode cX10_opens 120 = .ok (.iaload, 1) := by decide +kernel
theorem dX10_opens_121 : decode cX10_opens 121 = .ok (.bipush 20, 2) := by decide +kernel
theorem dX10_opens_123 : decode cX10_opens 123 = .ok (.aload_n 0, 1) := by decide +kernel
theorem dX10_opens_124 : decode cX10_opens 124 = .ok (.getfield 32, 3) := by decide +kernel
theorem dX10_opens_127 : decode cX10_opens 127 = .ok (.iload 5, 2) := by decide +kernel
theorem dX10_opens_129 : decode cX10_opens 129 = .ok (.iaload, 1) := by decide +kernel
theorem dX10_opens_130 : decode cX10_opens 130 = .ok (.iadd, 1) := by decide +kernel
theorem dX10_opens_131 : decode cX10_opens 131 = .ok (.if_icmp .ge 7, 3) := by decide +kernel
theorem dX10_opens_134 : decode cX10_opens 134 = .ok (.iconst 2, 1) := by decide +kernel
theorem dX10_opens_135 : decode cX10_opens 135 = .ok (.goto 37, 3) := by decide +kernel
theorem dX10_opens_138 : decode cX10_opens 138 = .ok (.iload_n 2, 1) := by decide +kernel
theorem dX10_opens_139 : decode cX10_opens 139 = .ok (.aload_n 0, 1) := by decide +kernel
theorem dX10_opens_140 : decode cX10_opens 140 = .ok (.getfield 32, 3) := by decide +kernel
theorem dX10_opens_143 : decode cX10_opens 143 = .ok (.iload 5, 2) := by decide +kernel
theorem dX10_opens_145 : decode cX10_opens 145 = .ok (.iaload, 1) := by decide +kernel
theorem dX10_opens_146 : decode cX10_opens 146 = .ok (.if_icmp .ge 7, 3) := by decide +kernel
theorem dX10_opens_149 : decode cX10_opens 149 = .ok (.iconst 3, 1) := by decide +kernel
theorem dX10_opens_150 : decode cX10_opens 150 = .ok (.goto 22, 3) := by decide +kernel
theorem dX10_opens_153 : decode cX10_opens 153 = .ok (.iload_n 3, 1) := by decide +kernel
theorem dX10_opens_154 : decode cX10_opens 154 = .ok (.ifCond .eq 17, 3) := by decide +kernel
theorem dX10_opens_157 : decode cX10_opens 157 = .ok (.aload_n 0, 1) := by decide +kernel
theorem dX10_opens_158 : decode cX10_opens 158 = .ok (.getfield 56, 3) := by decide +kernel
theorem dX10_opens_161 : decode cX10_opens 161 = .ok (.iload 5, 2) := by decide +kernel
theorem dX10_opens_163 : decode cX10_opens 163 = .ok (.baload, 1) := by decide +kernel
theorem dX10_opens_164 : decode cX10_opens 164 = .ok (.ifCond .ne 7, 3) := by decide +kernel
theorem dX10_opens_167 : decode cX10_opens 167 = .ok (.iconst 4, 1) := by decide +kernel
theorem dX10_opens_168 : decode cX10_opens 168 = .ok (.goto 4, 3) := by decide +kernel
theorem dX10_opens_171 : decode cX10_opens 171 = .ok (.iconst 0, 1) := by decide +kernel
theorem dX10_opens_172 : decode cX10_opens 172 = .ok (.iastore, 1) := by decide +kernel
theorem dX10_opens_173 : decode cX10_opens 173 = .ok (.aload_n 0, 1) := by decide +kernel
theorem dX10_opens_174 : decode cX10_opens 174 = .ok (.getfield 50, 3) := by decide +kernel
theorem dX10_opens_177 : decode cX10_opens 177 = .ok (.iload 5, 2) := by decide +kernel
theorem dX10_opens_179 : decode cX10_opens 179 = .ok (.iaload, 1) := by decide +kernel
theorem dX10_opens_180 : decode cX10_opens 180 = .ok (.ifCond .eq 29, 3) := by decide +kernel
theorem dX10_opens_183 : decode cX10_opens 183 = .ok (.iconst 1, 1) := by decide +kernel
theorem dX10_opens_184 : decode cX10_opens 184 = .ok (.istore_n 3, 1) := by decide +kernel
theorem dX10_opens_185 : decode cX10_opens 185 = .ok (.aload_n 0, 1) := by decide +kernel
theorem dX10_opens_186 : decode cX10_opens 186 = .ok (.getfield 63, 3) := by decide +kernel
theorem dX10_opens_189 : decode cX10_opens 189 = .ok (.iconst 5, 1) := by decide +kernel
theorem dX10_opens_190 : decode cX10_opens 190 = .ok (.iload 5, 2) := by decide +kernel
theorem dX10_opens_192 : decode cX10_opens 192 = .ok (.imul, 1) := by decide +kernel
theorem dX10_opens_193 : decode cX10_opens 193 = .ok (.aload_n 0, 1) := by decide +kernel
theorem dX10_opens_194 : decode cX10_opens 194 = .ok (.getfield 50, 3) := by decide +kernel
theorem dX10_opens_197 : decode cX10_opens 197 = .ok (.iload 5, 2) := by decide +kernel
theorem dX10_opens_199 : decode cX10_opens 199 = .ok (.iaload, 1) := by decide +kernel
theorem dX10_opens_200 : decode cX10_opens 200 = .ok (.iadd, 1) := by decide +kernel
theorem dX10_opens_201 : decode cX10_opens 201 = .ok (.dup2, 1) := by decide +kernel
theorem dX10_opens_202 : decode cX10_opens 202 = .ok (.iaload, 1) := by decide +kernel
theorem dX10_opens_203 : decode cX10_opens 203 = .ok (.iconst 1, 1) := by decide +kernel
theorem dX10_opens_204 : decode cX10_opens 204 = .ok (.iadd, 1) := by decide +kernel
theorem dX10_opens_205 : decode cX10_opens 205 = .ok (.iastore, 1) := by decide +kernel
theorem dX10_opens_206 : decode cX10_opens 206 = .ok (.goto 94, 3) := by decide +kernel
theorem dX10_opens_209 : decode cX10_opens 209 = .ok (.iload_n 2, 1) := by decide +kernel
theorem dX10_opens_210 : decode cX10_opens 210 = .ok (.aload_n 0, 1) := by decide +kernel
theorem dX10_opens_211 : decode cX10_opens 211 = .ok (.getfield 32, 3) := by decide +kernel
theorem dX10_opens_214 : decode cX10_opens 214 = .ok (.iload 5, 2) := by decide +kernel
theorem dX10_opens_216 : decode cX10_opens 216 = .ok (.iaload, 1) := by decide +kernel
theorem dX10_opens_217 : decode cX10_opens 217 = .ok (.isub, 1) := by decide +kernel
theorem dX10_opens_218 : decode cX10_opens 218 = .ok (.istore_n 2, 1) := by decide +kernel
theorem dX10_opens_219 : decode cX10_opens 219 = .ok (.aload_n 0, 1) := by decide +kernel
theorem dX10_opens_220 : decode cX10_opens 220 = .ok (.getfield 7, 3) := by decide +kernel
theorem dX10_opens_223 : decode cX10_opens 223 = .ok (.iload_n 1, 1) := by decide +kernel
theorem dX10_opens_224 : decode cX10_opens 224 = .ok (.iconst 1, 1) := by decide +kernel
theorem dX10_opens_225 : decode cX10_opens 225 = .ok (.iadd, 1) := by decide +kernel
theorem dX10_opens_226 : decode cX10_opens 226 = .ok (.dup2, 1) := by decide +kernel
theorem dX10_opens_227 : decode cX10_opens 227 = .ok (.iaload, 1) := by decide +kernel
theorem dX10_opens_228 : decode cX10_opens 228 = .ok (.aload_n 0, 1) := by decide +kernel
theorem dX10_opens_229 : decode cX10_opens 229 = .ok (.getfield 32, 3) := by decide +kernel
theorem dX10_opens_232 : decode cX10_opens 232 = .ok (.iload 5, 2) := by decide +kernel
theorem dX10_opens_234 : decode cX10_opens 234 = .ok (.iaload, 1) := by decide +kernel
theorem dX10_opens_235 : decode cX10_opens 235 = .ok (.isub, 1) := by decide +kernel
theorem dX10_opens_236 : decode cX10_opens 236 = .ok (.iastore, 1) := by decide +kernel
theorem dX10_opens_237 : decode cX10_opens 237 = .ok (.aload_n 0, 1) := by decide +kernel
theorem dX10_opens_238 : decode cX10_opens 238 = .ok (.getfield 7, 3) := by decide +kernel
theorem dX10_opens_241 : decode cX10_opens 241 = .ok (.iload_n 1, 1) := by decide +kernel
theorem dX10_opens_242 : decode cX10_opens 242 = .ok (.sipush 1000, 3) := by decide +kernel
theorem dX10_opens_245 : decode cX10_opens 245 = .ok (.aload_n 0, 1) := by decide +kernel
theorem dX10_opens_246 : decode cX10_opens 246 = .ok (.getfield 7, 3) := by decide +kernel
theorem dX10_opens_249 : decode cX10_opens 249 = .ok (.iload_n 1, 1) := by decide +kernel
theorem dX10_opens_250 : decode cX10_opens 250 = .ok (.iaload, 1) := by decide +kernel
theorem dX10_opens_251 : decode cX10_opens 251 = .ok (.aload_n 0, 1) := by decide +kernel
theorem dX10_opens_252 : decode cX10_opens 252 = .ok (.getfield 32, 3) := by decide +kernel
theorem dX10_opens_255 : decode cX10_opens 255 = .ok (.iload 5, 2) := by decide +kernel
theorem dX10_opens_257 : decode cX10_opens 257 = .ok (.iaload, 1) := by decide +kernel
theorem dX10_opens_258 : decode cX10_opens 258 = .ok (.iadd, 1) := by decide +kernel
theorem dX10_opens_259 : decode cX10_opens 259 = .ok (.invokestatic 112, 3) := by decide +kernel
theorem dX10_opens_262 : decode cX10_opens 262 = .ok (.iastore, 1) := by decide +kernel
theorem dX10_opens_263 : decode cX10_opens 263 = .ok (.aload_n 0, 1) := by decide +kernel
theorem dX10_opens_264 : decode cX10_opens 264 = .ok (.getfield 44, 3) := by decide +kernel
theorem dX10_opens_267 : decode cX10_opens 267 = .ok (.iload 5, 2) := by decide +kernel
theorem dX10_opens_269 : decode cX10_opens 269 = .ok (.iload_n 1, 1) := by decide +kernel
theorem dX10_opens_270 : decode cX10_opens 270 = .ok (.iconst 1, 1) := by decide +kernel
theorem dX10_opens_271 : decode cX10_opens 271 = .ok (.iadd, 1) := by decide +kernel
theorem dX10_opens_272 : decode cX10_opens 272 = .ok (.iastore, 1) := by decide +kernel
theorem dX10_opens_273 : decode cX10_opens 273 = .ok (.aload_n 0, 1) := by decide +kernel
theorem dX10_opens_274 : decode cX10_opens 274 = .ok (.getfield 44, 3) := by decide +kernel
theorem dX10_opens_277 : decode cX10_opens 277 = .ok (.iload 5, 2) := by decide +kernel
theorem dX10_opens_279 : decode cX10_opens 279 = .ok (.iaload, 1) := by decide +kernel
theorem dX10_opens_280 : decode cX10_opens 280 = .ok (.aload_n 0, 1) := by decide +kernel
theorem dX10_opens_281 : decode cX10_opens 281 = .ok (.getfield 121, 3) := by decide +kernel
theorem dX10_opens_284 : decode cX10_opens 284 = .ok (.iconst 1, 1) := by decide +kernel
theorem dX10_opens_285 : decode cX10_opens 285 = .ok (.isub, 1) := by decide +kernel
theorem dX10_opens_286 : decode cX10_opens 286 = .ok (.if_icmp .ne 14, 3) := by decide +kernel
theorem dX10_opens_289 : decode cX10_opens 289 = .ok (.aload_n 0, 1) := by decide +kernel
theorem dX10_opens_290 : decode cX10_opens 290 = .ok (.getfield 47, 3) := by decide +kernel
theorem dX10_opens_293 : decode cX10_opens 293 = .ok (.iload 5, 2) := by decide +kernel
theorem dX10_opens_295 : decode cX10_opens 295 = .ok (.aload_n 0, 1) := by decide +kernel
theorem dX10_opens_296 : decode cX10_opens 296 = .ok (.getfield 144, 3) := by decide +kernel
theorem dX10_opens_299 : decode cX10_opens 299 = .ok (.iastore, 1) := by decide +kernel
theorem dX10_opens_300 : decode cX10_opens 300 = .ok (.aload_n 0, 1) := by decide +kernel
theorem dX10_opens_301 : decode cX10_opens 301 = .ok (.iload 4, 2) := by decide +kernel
theorem dX10_opens_303 : decode cX10_opens 303 = .ok (.invokevirtual 225, 3) := by decide +kernel
theorem dX10_opens_306 : decode cX10_opens 306 = .ok (.istore 5, 2) := by decide +kernel
theorem dX10_opens_308 : decode cX10_opens 308 = .ok (.goto (-237), 3) := by decide +kernel
theorem dX10_opens_311 : decode cX10_opens 311 = .ok (.return_, 1) := by decide +kernel
set_option maxRecDepth 20000 in
theorem ggX10_next_X10_isAhead : GoodIn wsX10_next wsX10_isAhead := goodIn_r _ [7, 8, 9, 10, 11, 12, 13, 14, 15, 16, 17, 18, 19, 20, 21, 22, 23, 24, 25, 26, 27, 28, 29, 30, 31, 32, 33, 34, 35, 36, 37, 38, 39, 40, 41, 42, 43, 44, 45, 46, 47, 48, 49, 50, 51, 52, 53, 54] (by decide +kernel) (by decide +kernel)
set_option maxRecDepth 20000 in
theorem gX10_next_X10_isAhead : GoodIn wsX10_next (wsV RX10 231 RX10 yX10_isAhead wsX10_isAhead) := goodIn_app (goodIn_of _ (by decide +kernel)) ggX10_next_X10_isAhead
theorem dX10_next_0 : decode cX10_next 0 = .ok (.iconst (-1), 1) := by decide +kernel
theorem dX10_next_1 : decode cX10_next 1 = .ok (.istore_n 2, 1) := by decide +kernel
theorem dX10_next_2 : decode cX10_next 2 = .ok (.iconst 0, 1) := by decide +kernel
theorem dX10_next_3 : decode cX10_next 3 = .ok (.istore_n 3, 1) := by decide +kernel
theorem dX10_next_4 : decode cX10_next 4 = .ok (.iload_n 3, 1) := by decide +kernel
theorem dX10_next_5 : decode cX10_next 5 = .ok (.aload_n 0, 1) := by decide +kernel
theorem dX10_next_6 : decode cX10_next 6 = .ok (.getfield 128, 3) := by decide +kernel
theorem dX10_next_9 : decode cX10_next 9 = .ok (.if_icmp .ge 35, 3) := by decide +kernel
theorem dX10_next_12 : decode cX10_next 12 = .ok (.aload_n 0, 1) := by decide +kernel
theorem dX10_next_13 : decode cX10_next 13 = .ok (.getfield 100, 3) := by decide +kernel
theorem dX10_next_16 : decode cX10_next 16 = .ok (.iload_n 3, 1) := by decide +kernel
theorem dX10_next_17 : decode cX10_next 17 = .ok (.baload, 1) := by decide +kernel
theorem dX10_next_18 : decode cX10_next 18 = .ok (.ifCond .ne 20, 3) := by decide +kernel
theorem dX10_next_21 : decode cX10_next 21 = .ok (.iload_n 2, 1) := by decide +kernel
theorem dX10_next_22 : decode cX10_next 22 = .ok (.iconst (-1), 1) := by decide +kernel
theorem dX10_next_23 : decode cX10_next 23 = .ok (.if_icmp .eq 13, 3) := by decide +kernel
theorem dX10_next_26 : decode cX10_next 26 = .ok (.aload_n 0, 1) := by decide +kernel
theorem dX10_next_27 : decode cX10_next 27 = .ok (.iload_n 3, 1) := by decide +kernel
theorem dX10_next_28 : decode cX10_next 28 = .ok (.iload_n 2, 1) := by decide +kernel
theorem dX10_next_29 : decode cX10_next 29 = .ok (.iload_n 1, 1) := by decide +kernel
theorem dX10_next_30 : decode cX10_next 30 = .ok (.invokevirtual 231, 3) := by decide +kernel
theorem dX10_next_33 : decode cX10_next 33 = .ok (.ifCond .eq 5, 3) := by decide +kernel
theorem dX10_next_36 : decode cX10_next 36 = .ok (.iload_n 3, 1) := by decide +kernel
theorem dX10_next_37 : decode cX10_next 37 = .ok (.istore_n 2, 1) := by decide +kernel
theorem dX10_next_38 : decode cX10_next 38 = .ok (.iinc 3 1, 3) := by decide +kernel
theorem dX10_next_41 : decode cX10_next 41 = .ok (.goto (-37), 3) := by decide +kernel
theorem dX10_next_44 : decode cX10_next 44 = .ok (.iload_n 2, 1) := by decide +kernel
theorem dX10_next_45 : decode cX10_next 45 = .ok (.ireturn, 1) := by decide +kernel
set_option maxRecDepth 20000 in
theorem ggX10_told_X10_isSquadron : GoodIn wsX10_told wsX10_isSquadron := goodIn_r _ [13, 14, 15, 16, 12, 17, 26, 27, 28, 29, 30, 31, 32, 33, 34, 35, 36, 37, 38, 39, 40, 41, 42, 43, 44, 45, 46, 47, 48, 49, 50, 51, 52, 53, 54, 55, 56, 57, 58, 59, 60, 61, 62, 63, 64, 65, 66, 67, 68, 69, 70] (by decide +kernel) (by decide +kernel)
set_option maxRecDepth 20000 in
theorem gX10_told_X10_isSquadron : GoodIn wsX10_told (wsV RX10 219 RX10 yX10_isSquadron wsX10_isSquadron) := goodIn_app (goodIn_of _ (by decide +kernel)) ggX10_told_X10_isSquadron
set_option maxRecDepth 20000 in
theorem ggX10_told_X10_isReach : GoodIn wsX10_told wsX10_isReach := goodIn_r _ [21, 22, 15, 16, 12, 17, 26, 27, 28, 29, 30, 31, 32, 33, 34, 35, 36, 37, 38, 39, 40, 41, 42, 43, 44, 45, 46, 47, 48, 49, 50, 51, 52, 53, 54, 55, 56, 57, 58, 59, 60, 61, 62, 63, 64, 65, 66, 67, 68, 69, 70] (by decide +kernel) (by decide +kernel)
set_option maxRecDepth 20000 in
theorem gX10_told_X10_isReach : GoodIn wsX10_told (wsV RX10 131 RX10 yX10_isReach wsX10_isReach) := goodIn_app (goodIn_of _ (by decide +kernel)) ggX10_told_X10_isReach
set_option maxRecDepth 20000 in
theorem ggX10_told_X10_isIn : GoodIn wsX10_told wsX10_isIn := goodIn_r _ [17] (by decide +kernel) (by decide +kernel)
set_option maxRecDepth 20000 in
theorem gX10_told_X10_isIn : GoodIn wsX10_told (va_wsS RX10 124 yX10_isIn wsX10_isIn) := goodIn_app (goodIn_of _ (by decide +kernel)) ggX10_told_X10_isIn
set_option maxRecDepth 20000 in
theorem ggX10_told_X10_one : GoodIn wsX10_told wsX10_one := goodIn_r _ [25] (by decide +kernel) (by decide +kernel)
set_option maxRecDepth 20000 in
theorem gX10_told_X10_one : GoodIn wsX10_told (va_wsS RX10 234 yX10_one wsX10_one) := goodIn_app (goodIn_of _ (by decide +kernel)) ggX10_told_X10_one
theorem dX10_told_0 : decode cX10_told 0 = .ok (.aload_n 0, 1) := by decide +kernel
theorem dX10_told_1 : decode cX10_told 1 = .ok (.iload_n 1, 1) := by decide +kernel
theorem dX10_told_2 : decode cX10_told 2 = .ok (.invokevirtual 219, 3) := by decide +kernel
theorem dX10_told_5 : decode cX10_told 5 = .ok (.ifCond .ne 5, 3) := by decide +kernel
theorem dX10_told_8 : decode cX10_told 8 = .ok (.iconst (-1), 1) := by decide +kernel
theorem dX10_told_9 : decode cX10_told 9 = .ok (.ireturn, 1) := by decide +kernel
theorem dX10_told_10 : decode cX10_told 10 = .ok (.aload_n 0, 1) := by decide +kernel
theorem dX10_told_11 : decode cX10_told 11 = .ok (.iload_n 2, 1) := by decide +kernel
theorem dX10_told_12 : decode cX10_told 12 = .ok (.bipush 10, 2) := by decide +kernel
theorem dX10_told_14 : decode cX10_told 14 = .ok (.isub, 1) := by decide +kernel
theorem dX10_told_15 : decode cX10_told 15 = .ok (.invokevirtual 131, 3) := by decide +kernel
theorem dX10_told_18 : decode cX10_told 18 = .ok (.ifCond .eq 18, 3) := by decide +kernel
theorem dX10_told_21 : decode cX10_told 21 = .ok (.aload_n 0, 1) := by decide +kernel
theorem dX10_told_22 : decode cX10_told 22 = .ok (.getfield 60, 3) := by decide +kernel
theorem dX10_told_25 : decode cX10_told 25 = .ok (.bipush 12, 2) := by decide +kernel
theorem dX10_told_27 : decode cX10_told 27 = .ok (.iload_n 1, 1) := by decide +kernel
theorem dX10_told_28 : decode cX10_told 28 = .ok (.imul, 1) := by decide +kernel
theorem dX10_told_29 : decode cX10_told 29 = .ok (.iload_n 2, 1) := by decide +kernel
theorem dX10_told_30 : decode cX10_told 30 = .ok (.iadd, 1) := by decide +kernel
theorem dX10_told_31 : decode cX10_told 31 = .ok (.bipush 10, 2) := by decide +kernel
theorem dX10_told_33 : decode cX10_told 33 = .ok (.isub, 1) := by decide +kernel
theorem dX10_told_34 : decode cX10_told 34 = .ok (.iaload, 1) := by decide +kernel
theorem dX10_told_35 : decode cX10_told 35 = .ok (.ireturn, 1) := by decide +kernel
theorem dX10_told_36 : decode cX10_told 36 = .ok (.iload_n 2, 1) := by decide +kernel
theorem dX10_told_37 : decode cX10_told 37 = .ok (.bipush 31, 2) := by decide +kernel
theorem dX10_told_39 : decode cX10_told 39 = .ok (.bipush 34, 2) := by decide +kernel
theorem dX10_told_41 : decode cX10_told 41 = .ok (.invokestatic 124, 3) := by decide +kernel
theorem dX10_told_44 : decode cX10_told 44 = .ok (.ifCond .eq 17, 3) := by decide +kernel
theorem dX10_told_47 : decode cX10_told 47 = .ok (.aload_n 0, 1) := by decide +kernel
theorem dX10_told_48 : decode cX10_told 48 = .ok (.getfield 63, 3) := by decide +kernel
theorem dX10_told_51 : decode cX10_told 51 = .ok (.iconst 5, 1) := by decide +kernel
theorem dX10_told_52 : decode cX10_told 52 = .ok (.iload_n 1, 1) := by decide +kernel
theorem dX10_told_53 : decode cX10_told 53 = .ok (.imul, 1) := by decide +kernel
theorem dX10_told_54 : decode cX10_told 54 = .ok (.iload_n 2, 1) := by decide +kernel
theorem dX10_told_55 : decode cX10_told 55 = .ok (.iadd, 1) := by decide +kernel
theorem dX10_told_56 : decode cX10_told 56 = .ok (.bipush 30, 2) := by decide +kernel
theorem dX10_told_58 : decode cX10_told 58 = .ok (.isub, 1) := by decide +kernel
theorem dX10_told_59 : decode cX10_told 59 = .ok (.iaload, 1) := by decide +kernel
theorem dX10_told_60 : decode cX10_told 60 = .ok (.ireturn, 1) := by decide +kernel
theorem dX10_told_61 : decode cX10_told 61 = .ok (.iload_n 2, 1) := by decide +kernel
theorem dX10_told_62 : decode cX10_told 62 = .ok (.tableswitch 100 0 5 #[38, 45, 52, 66, 73, 90], 38) := by decide +kernel
theorem dX10_told_100 : decode cX10_told 100 = .ok (.aload_n 0, 1) := by decide +kernel
theorem dX10_told_101 : decode cX10_told 101 = .ok (.getfield 44, 3) := by decide +kernel
theorem dX10_told_104 : decode cX10_told 104 = .ok (.iload_n 1, 1) := by decide +kernel
theorem dX10_told_105 : decode cX10_told 105 = .ok (.iaload, 1) := by decide +kernel
theorem dX10_told_106 : decode cX10_told 106 = .ok (.ireturn, 1) := by decide +kernel
theorem dX10_told_107 : decode cX10_told 107 = .ok (.aload_n 0, 1) := by decide +kernel
theorem dX10_told_108 : decode cX10_told 108 = .ok (.getfield 47, 3) := by decide +kernel
theorem dX10_told_111 : decode cX10_told 111 = .ok (.iload_n 1, 1) := by decide +kernel
theorem dX10_told_112 : decode cX10_told 112 = .ok (.iaload, 1) := by decide +kernel
theorem dX10_told_113 : decode cX10_told 113 = .ok (.ireturn, 1) := by decide +kernel
theorem dX10_told_114 : decode cX10_told 114 = .ok (.aload_n 0, 1) := by decide +kernel
theorem dX10_told_115 : decode cX10_told 115 = .ok (.getfield 35, 3) := by decide +kernel
theorem dX10_told_118 : decode cX10_told 118 = .ok (.iload_n 1, 1) := by decide +kernel
theorem dX10_told_119 : decode cX10_told 119 = .ok (.iaload, 1) := by decide +kernel
theorem dX10_told_120 : decode cX10_told 120 = .ok (.aload_n 0, 1) := by decide +kernel
theorem dX10_told_121 : decode cX10_told 121 = .ok (.getfield 38, 3) := by decide +kernel
theorem dX10_told_124 : decode cX10_told 124 = .ok (.iload_n 1, 1) := by decide +kernel
theorem dX10_told_125 : decode cX10_told 125 = .ok (.iaload, 1) := by decide +kernel
theorem dX10_told_126 : decode cX10_told 126 = .ok (.isub, 1) := by decide +kernel
theorem dX10_told_127 : decode cX10_told 127 = .ok (.ireturn, 1) := by decide +kernel
theorem dX10_told_128 : decode cX10_told 128 = .ok (.aload_n 0, 1) := by decide +kernel
theorem dX10_told_129 : decode cX10_told 129 = .ok (.getfield 50, 3) := by decide +kernel
theorem dX10_told_132 : decode cX10_told 132 = .ok (.iload_n 1, 1) := by decide +kernel
theorem dX10_told_133 : decode cX10_told 133 = .ok (.iaload, 1) := by decide +kernel
theorem dX10_told_134 : decode cX10_told 134 = .ok (.ireturn, 1) := by decide +kernel
theorem dX10_told_135 : decode cX10_told 135 = .ok (.aload_n 0, 1) := by decide +kernel
theorem dX10_told_136 : decode cX10_told 136 = .ok (.getfield 60, 3) := by decide +kernel
theorem dX10_told_139 : decode cX10_told 139 = .ok (.bipush 12, 2) := by decide +kernel
theorem dX10_told_141 : decode cX10_told 141 = .ok (.iload_n 1, 1) := by decide +kernel
theorem dX10_told_142 : decode cX10_told 142 = .ok (.imul, 1) := by decide +kernel
theorem dX10_told_143 : decode cX10_told 143 = .ok (.aload_n 0, 1) := by decide +kernel
theorem dX10_told_144 : decode cX10_told 144 = .ok (.getfield 44, 3) := by decide +kernel
theorem dX10_told_147 : decode cX10_told 147 = .ok (.iload_n 1, 1) := by decide +kernel
theorem dX10_told_148 : decode cX10_told 148 = .ok (.iaload, 1) := by decide +kernel
theorem dX10_told_149 : decode cX10_told 149 = .ok (.iadd, 1) := by decide +kernel
theorem dX10_told_150 : decode cX10_told 150 = .ok (.iaload, 1) := by decide +kernel
theorem dX10_told_151 : decode cX10_told 151 = .ok (.ireturn, 1) := by decide +kernel
theorem dX10_told_152 : decode cX10_told 152 = .ok (.aload_n 0, 1) := by decide +kernel
theorem dX10_told_153 : decode cX10_told 153 = .ok (.getfield 56, 3) := by decide +kernel
theorem dX10_told_156 : decode cX10_told 156 = .ok (.iload_n 1, 1) := by decide +kernel
theorem dX10_told_157 : decode cX10_told 157 = .ok (.baload, 1) := by decide +kernel
theorem dX10_told_158 : decode cX10_told 158 = .ok (.invokestatic 234, 3) := by decide +kernel
theorem dX10_told_161 : decode cX10_told 161 = .ok (.ireturn, 1) := by decide +kernel
theorem dX10_told_162 : decode cX10_told 162 = .ok (.iconst (-1), 1) := by decide +kernel
theorem dX10_told_163 : decode cX10_told 163 = .ok (.ireturn, 1) := by decide +kernel
set_option maxRecDepth 20000 in
theorem ggX10_judge_X10_isSquadron : GoodIn wsX10_judge wsX10_isSquadron := goodIn_r _ [16, 17, 18, 19, 15, 20, 47, 48, 49, 50, 51, 52, 53, 54, 55, 56, 57, 58, 59, 60, 61, 62, 63, 64, 65, 66, 67, 68, 69, 70, 71, 72, 73, 74, 75, 76, 77, 78, 79, 80, 81, 82, 83, 84, 85, 86, 87, 88, 89, 90, 91] (by decide +kernel) (by decide +kernel)
set_option maxRecDepth 20000 in
theorem gX10_judge_X10_isSquadron : GoodIn wsX10_judge (wsV RX10 219 RX10 yX10_isSquadron wsX10_isSquadron) := goodIn_app (goodIn_of _ (by decide +kernel)) ggX10_judge_X10_isSquadron
set_option maxRecDepth 20000 in
theorem ggX10_judge_X10_isIn : GoodIn wsX10_judge wsX10_isIn := goodIn_r _ [20] (by decide +kernel) (by decide +kernel)
set_option maxRecDepth 20000 in
theorem gX10_judge_X10_isIn : GoodIn wsX10_judge (va_wsS RX10 124 yX10_isIn wsX10_isIn) := goodIn_app (goodIn_of _ (by decide +kernel)) ggX10_judge_X10_isIn
set_option maxRecDepth 20000 in
theorem ggX10_judge_X10_allowed : GoodIn wsX10_judge wsX10_allowed := goodIn_r _ [24, 25, 26, 27, 15, 28, 29, 30, 31, 32, 33, 34, 35, 36, 37, 38, 47, 48, 49, 50, 51, 52, 53, 54, 55, 56, 57, 58, 59, 60, 61, 62, 63, 64, 65, 66, 67, 68, 69, 70, 71, 72, 73, 74, 75, 76, 77, 78, 79, 80, 81, 82, 83, 84, 85, 86, 87, 88, 89, 90, 91] (by decide +kernel) (by decide +kernel)
set_option maxRecDepth 20000 in
theorem gX10_judge_X10_allowed : GoodIn wsX10_judge (wsV RX10 216 RX10 yX10_allowed wsX10_allowed) := goodIn_app (goodIn_of _ (by decide +kernel)) ggX10_judge_X10_allowed
set_option maxRecDepth 20000 in
theorem ggX10_judge_X10_law : GoodIn wsX10_judge wsX10_law := goodIn_r _ [42, 18, 19, 15, 20, 25, 26, 27, 28, 29, 30, 31, 32, 33, 34, 35, 36, 37, 38, 43, 44, 45, 46, 2, 21, 22, 23, 24, 47, 48, 49, 50, 51, 52, 53, 54, 55, 56, 57, 58, 59, 60, 61, 62, 63, 64, 65, 66, 67, 68, 69, 70, 71, 72, 73, 74, 75, 76, 77, 78, 79, 80, 81, 82, 83, 84, 85, 86, 87, 88, 89, 90, 91] (by decide +kernel) (by decide +kernel)
set_option maxRecDepth 20000 in
theorem gX10_judge_X10_law : GoodIn wsX10_judge (wsV RX10 238 RX10 yX10_law wsX10_law) := goodIn_app (goodIn_of _ (by decide +kernel)) ggX10_judge_X10_law
theorem dX10_judge_0 : decode cX10_judge 0 = .ok (.aload_n 0, 1) := by decide +kernel
theorem dX10_judge_1 : decode cX10_judge 1 = .ok (.iload_n 1, 1) := by decide +kernel
theorem dX10_judge_2 : decode cX10_judge 2 = .ok (.invokevirtual 219, 3) := by decide +kernel
theorem dX10_judge_5 : decode cX10_judge 5 = .ok (.ifCond .eq 22, 3) := by decide +kernel
theorem dX10_judge_8 : decode cX10_judge 8 = .ok (.aload_n 0, 1) := by decide +kernel
theorem dX10_judge_9 : decode cX10_judge 9 = .ok (.getfield 47, 3) := by decide +kernel
theorem dX10_judge_12 : decode cX10_judge 12 = .ok (.iload_n 1, 1) := by decide +kernel
theorem dX10_judge_13 : decode cX10_judge 13 = .ok (.iaload, 1) := by decide +kernel
theorem dX10_judge_14 : decode cX10_judge 14 = .ok (.iconst (-1), 1) := by decide +kernel
theorem dX10_judge_15 : decode cX10_judge 15 = .ok (.if_icmp .eq 12, 3) := by decide +kernel
theorem dX10_judge_18 : decode cX10_judge 18 = .ok (.iload_n 2, 1) := by decide +kernel
theorem dX10_judge_19 : decode cX10_judge 19 = .ok (.iconst 0, 1) := by decide +kernel
theorem dX10_judge_20 : decode cX10_judge 20 = .ok (.iconst 3, 1) := by decide +kernel
theorem dX10_judge_21 : decode cX10_judge 21 = .ok (.invokestatic 124, 3) := by decide +kernel
theorem dX10_judge_24 : decode cX10_judge 24 = .ok (.ifCond .ne 5, 3) := by decide +kernel
theorem dX10_judge_27 : decode cX10_judge 27 = .ok (.iconst (-1), 1) := by decide +kernel
theorem dX10_judge_28 : decode cX10_judge 28 = .ok (.ireturn, 1) := by decide +kernel
theorem dX10_judge_29 : decode cX10_judge 29 = .ok (.aload_n 0, 1) := by decide +kernel
theorem dX10_judge_30 : decode cX10_judge 30 = .ok (.getfield 47, 3) := by decide +kernel
theorem dX10_judge_33 : decode cX10_judge 33 = .ok (.iload_n 1, 1) := by decide +kernel
theorem dX10_judge_34 : decode cX10_judge 34 = .ok (.iaload, 1) := by decide +kernel
theorem dX10_judge_35 : decode cX10_judge 35 = .ok (.istore_n 3, 1) := by decide +kernel
theorem dX10_judge_36 : decode cX10_judge 36 = .ok (.iconst 0, 1) := by decide +kernel
theorem dX10_judge_37 : decode cX10_judge 37 = .ok (.istore 4, 2) := by decide +kernel
theorem dX10_judge_39 : decode cX10_judge 39 = .ok (.iconst 0, 1) := by decide +kernel
theorem dX10_judge_40 : decode cX10_judge 40 = .ok (.istore 5, 2) := by decide +kernel
theorem dX10_judge_42 : decode cX10_judge 42 = .ok (.iload 5, 2) := by decide +kernel
theorem dX10_judge_44 : decode cX10_judge 44 = .ok (.aload_n 0, 1) := by decide +kernel
theorem dX10_judge_45 : decode cX10_judge 45 = .ok (.getfield 121, 3) := by decide +kernel
theorem dX10_judge_48 : decode cX10_judge 48 = .ok (.iconst 1, 1) := by decide +kernel
theorem dX10_judge_49 : decode cX10_judge 49 = .ok (.isub, 1) := by decide +kernel
theorem dX10_judge_50 : decode cX10_judge 50 = .ok (.if_icmp .ge 38, 3) := by decide +kernel
theorem dX10_judge_53 : decode cX10_judge 53 = .ok (.iload 4, 2) := by decide +kernel
theorem dX10_judge_55 : decode cX10_judge 55 = .ok (.iconst 0, 1) := by decide +kernel
theorem dX10_judge_56 : decode cX10_judge 56 = .ok (.aload_n 0, 1) := by decide +kernel
theorem dX10_judge_57 : decode cX10_judge 57 = .ok (.getfield 60, 3) := by decide +kernel
theorem dX10_judge_60 : decode cX10_judge 60 = .ok (.bipush 12, 2) := by decide +kernel
theorem dX10_judge_62 : decode cX10_judge 62 = .ok (.iload_n 1, 1) := by decide +kernel
theorem dX10_judge_63 : decode cX10_judge 63 = .ok (.imul, 1) := by decide +kernel
theorem dX10_judge_64 : decode cX10_judge 64 = .ok (.iload 5, 2) := by decide +kernel
theorem dX10_judge_66 : decode cX10_judge 66 = .ok (.iadd, 1) := by decide +kernel
theorem dX10_judge_67 : decode cX10_judge 67 = .ok (.iaload, 1) := by decide +kernel
theorem dX10_judge_68 : decode cX10_judge 68 = .ok (.aload_n 0, 1) := by decide +kernel
theorem dX10_judge_69 : decode cX10_judge 69 = .ok (.iload_n 3, 1) := by decide +kernel
theorem dX10_judge_70 : decode cX10_judge 70 = .ok (.iload 5, 2) := by decide +kernel
theorem dX10_judge_72 : decode cX10_judge 72 = .ok (.invokevirtual 216, 3) := by decide +kernel
theorem dX10_judge_75 : decode cX10_judge 75 = .ok (.isub, 1) := by decide +kernel
theorem dX10_judge_76 : decode cX10_judge 76 = .ok (.invokestatic 118, 3) := by decide +kernel
theorem dX10_judge_79 : decode cX10_judge 79 = .ok (.iadd, 1) := by decide +kernel
theorem dX10_judge_80 : decode cX10_judge 80 = .ok (.istore 4, 2) := by decide +kernel
theorem dX10_judge_82 : decode cX10_judge 82 = .ok (.iinc 5 1, 3) := by decide +kernel
theorem dX10_judge_85 : decode cX10_judge 85 = .ok (.goto (-43), 3) := by decide +kernel
theorem dX10_judge_88 : decode cX10_judge 88 = .ok (.iconst 0, 1) := by decide +kernel
theorem dX10_judge_89 : decode cX10_judge 89 = .ok (.aload_n 0, 1) := by decide +kernel
theorem dX10_judge_90 : decode cX10_judge 90 = .ok (.getfield 38, 3) := by decide +kernel
theorem dX10_judge_93 : decode cX10_judge 93 = .ok (.iload_n 1, 1) := by decide +kernel
theorem dX10_judge_94 : decode cX10_judge 94 = .ok (.iaload, 1) := by decide +kernel
theorem dX10_judge_95 : decode cX10_judge 95 = .ok (.aload_n 0, 1) := by decide +kernel
theorem dX10_judge_96 : decode cX10_judge 96 = .ok (.getfield 35, 3) := by decide +kernel
theorem dX10_judge_99 : decode cX10_judge 99 = .ok (.iload_n 1, 1) := by decide +kernel
theorem dX10_judge_100 : decode cX10_judge 100 = .ok (.iaload, 1) := by decide +kernel
theorem dX10_judge_101 : decode cX10_judge 101 = .ok (.aload_n 0, 1) := by decide +kernel
theorem dX10_judge_102 : decode cX10_judge 102 = .ok (.iload_n 3, 1) := by decide +kernel
theorem dX10_judge_103 : decode cX10_judge 103 = .ok (.iconst 1, 1) := by decide +kernel
theorem dX10_judge_104 : decode cX10_judge 104 = .ok (.invokevirtual 238, 3) := by decide +kernel
theorem dX10_judge_107 : decode cX10_judge 107 = .ok (.imul, 1) := by decide +kernel
theorem dX10_judge_108 : decode cX10_judge 108 = .ok (.sipush 1000, 3) := by decide +kernel
theorem dX10_judge_111 : decode cX10_judge 111 = .ok (.idiv, 1) := by decide +kernel
theorem dX10_judge_112 : decode cX10_judge 112 = .ok (.isub, 1) := by decide +kernel
theorem dX10_judge_113 : decode cX10_judge 113 = .ok (.invokestatic 118, 3) := by decide +kernel
theorem dX10_judge_116 : decode cX10_judge 116 = .ok (.istore 5, 2) := by decide +kernel
theorem dX10_judge_118 : decode cX10_judge 118 = .ok (.iconst 0, 1) := by decide +kernel
theorem dX10_judge_119 : decode cX10_judge 119 = .ok (.aload_n 0, 1) := by decide +kernel
theorem dX10_judge_120 : decode cX10_judge 120 = .ok (.getfield 41, 3) := by decide +kernel
theorem dX10_judge_123 : decode cX10_judge 123 = .ok (.iload_n 1, 1) := by decide +kernel
theorem dX10_judge_124 : decode cX10_judge 124 = .ok (.iaload, 1) := by decide +kernel
theorem dX10_judge_125 : decode cX10_judge 125 = .ok (.aload_n 0, 1) := by decide +kernel
theorem dX10_judge_126 : decode cX10_judge 126 = .ok (.iload_n 3, 1) := by decide +kernel
theorem dX10_judge_127 : decode cX10_judge 127 = .ok (.iconst 2, 1) := by decide +kernel
theorem dX10_judge_128 : decode cX10_judge 128 = .ok (.invokevirtual 238, 3) := by decide +kernel
theorem dX10_judge_131 : decode cX10_judge 131 = .ok (.aload_n 0, 1) := by decide +kernel
theorem dX10_judge_132 : decode cX10_judge 132 = .ok (.getfield 32, 3) := by decide +kernel
theorem dX10_judge_135 : decode cX10_judge 135 = .ok (.iload_n 1, 1) := by decide +kernel
theorem dX10_judge_136 : decode cX10_judge 136 = .ok (.iaload, 1) := by decide +kernel
theorem dX10_judge_137 : decode cX10_judge 137 = .ok (.imul, 1) := by decide +kernel
theorem dX10_judge_138 : decode cX10_judge 138 = .ok (.isub, 1) := by decide +kernel
theorem dX10_judge_139 : decode cX10_judge 139 = .ok (.invokestatic 118, 3) := by decide +kernel
theorem dX10_judge_142 : decode cX10_judge 142 = .ok (.istore 6, 2) := by decide +kernel
theorem dX10_judge_144 : decode cX10_judge 144 = .ok (.iload_n 2, 1) := by decide +kernel
theorem dX10_judge_145 : decode cX10_judge 145 = .ok (.ifCond .ne 8, 3) := by decide +kernel
theorem dX10_judge_148 : decode cX10_judge 148 = .ok (.iload 4, 2) := by decide +kernel
theorem dX10_judge_150 : decode cX10_judge 150 = .ok (.goto 38, 3) := by decide +kernel
theorem dX10_judge_153 : decode cX10_judge 153 = .ok (.iload_n 2, 1) := by decide +kernel
theorem dX10_judge_154 : decode cX10_judge 154 = .ok (.iconst 1, 1) := by decide +kernel
theorem dX10_judge_155 : decode cX10_judge 155 = .ok (.if_icmp .ne 8, 3) := by decide +kernel
theorem dX10_judge_158 : decode cX10_judge 158 = .ok (.iload 5, 2) := by decide +kernel
theorem dX10_judge_160 : decode cX10_judge 160 = .ok (.goto 28, 3) := by decide +kernel
theorem dX10_judge_163 : decode cX10_judge 163 = .ok (.iload_n 2, 1) := by decide +kernel
theorem dX10_judge_164 : decode cX10_judge 164 = .ok (.iconst 2, 1) := by decide +kernel
theorem dX10_judge_165 : decode cX10_judge 165 = .ok (.if_icmp .ne 8, 3) := by decide +kernel
theorem dX10_judge_168 : decode cX10_judge 168 = .ok (.iload 6, 2) := by decide +kernel
theorem dX10_judge_170 : decode cX10_judge 170 = .ok (.goto 18, 3) := by decide +kernel
theorem dX10_judge_173 : decode cX10_judge 173 = .ok (.aload_n 0, 1) := by decide +kernel
theorem dX10_judge_174 : decode cX10_judge 174 = .ok (.iload_n 3, 1) := by decide +kernel
theorem dX10_judge_175 : decode cX10_judge 175 = .ok (.iconst 3, 1) := by decide +kernel
theorem dX10_judge_176 : decode cX10_judge 176 = .ok (.invokevirtual 238, 3) := by decide +kernel
theorem dX10_judge_179 : decode cX10_judge 179 = .ok (.iload 4, 2) := by decide +kernel
theorem dX10_judge_181 : decode cX10_judge 181 = .ok (.iload 5, 2) := by decide +kernel
theorem dX10_judge_183 : decode cX10_judge 183 = .ok (.iadd, 1) := by decide +kernel
theorem dX10_judge_184 : decode cX10_judge 184 = .ok (.iload 6, 2) := by decide +kernel
theorem dX10_judge_186 : decode cX10_judge 186 = .ok (.iadd, 1) := by decide +kernel
theorem dX10_judge_187 : decode cX10_judge 187 = .ok (.imul, 1) := by decide +kernel
theorem dX10_judge_188 : decode cX10_judge 188 = .ok (.ireturn, 1) := by decide +kernel
set_option maxRecDepth 20000 in
theorem ggX10_reach_X10_isReach : GoodIn wsX10_reach wsX10_isReach := goodIn_r _ [10, 11, 12, 13, 9, 14, 29, 30, 31, 32, 33, 34, 35, 36, 37, 38, 39, 40, 41, 42, 43, 44, 45, 46, 47, 48, 49, 50, 51, 52, 53, 54, 55, 56, 57, 58, 59, 60, 61, 62, 63, 64, 65, 66, 67, 68, 69, 70, 71, 72, 73] (by decide +kernel) (by decide +kernel)
set_option maxRecDepth 20000 in
theorem gX10_reach_X10_isReach : GoodIn wsX10_reach (wsV RX10 131 RX10 yX10_isReach wsX10_isReach) := goodIn_app (goodIn_of _ (by decide +kernel)) ggX10_reach_X10_isReach
set_option maxRecDepth 20000 in
theorem ggX10_reach_X10_hasIce : GoodIn wsX10_reach wsX10_hasIce := goodIn_r _ [18, 19, 20, 21, 29, 30, 31, 32, 33, 34, 35, 36, 37, 38, 39, 40, 41, 42, 43, 44, 45, 46, 47, 48, 49, 50, 51, 52, 53, 54, 55, 56, 57, 58, 59, 60, 61, 62, 63, 64, 65, 66, 67, 68, 69, 70, 71, 72, 73] (by decide +kernel) (by decide +kernel)
set_option maxRecDepth 20000 in
theorem gX10_reach_X10_hasIce : GoodIn wsX10_reach (wsV RX10 228 RX10 yX10_hasIce wsX10_hasIce) := goodIn_app (goodIn_of _ (by decide +kernel)) ggX10_reach_X10_hasIce
set_option maxRecDepth 20000 in
theorem ggX10_reach_X10_one : GoodIn wsX10_reach wsX10_one := goodIn_r _ [24] (by decide +kernel) (by decide +kernel)
set_option maxRecDepth 20000 in
theorem gX10_reach_X10_one : GoodIn wsX10_reach (va_wsS RX10 234 yX10_one wsX10_one) := goodIn_app (goodIn_of _ (by decide +kernel)) ggX10_reach_X10_one
set_option maxRecDepth 20000 in
theorem ggX10_reach_X10_isLock : GoodIn wsX10_reach wsX10_isLock := goodIn_r _ [28, 11, 12, 13, 9, 14, 29, 30, 31, 32, 33, 34, 35, 36, 37, 38, 39, 40, 41, 42, 43, 44, 45, 46, 47, 48, 49, 50, 51, 52, 53, 54, 55, 56, 57, 58, 59, 60, 61, 62, 63, 64, 65, 66, 67, 68, 69, 70, 71, 72, 73] (by decide +kernel) (by decide +kernel)
set_option maxRecDepth 20000 in
theorem gX10_reach_X10_isLock : GoodIn wsX10_reach (wsV RX10 135 RX10 yX10_isLock wsX10_isLock) := goodIn_app (goodIn_of _ (by decide +kernel)) ggX10_reach_X10_isLock
theorem dX10_reach_0 : decode cX10_reach 0 = .ok (.aload_n 0, 1) := by decide +kernel
theorem dX10_reach_1 : decode cX10_reach 1 = .ok (.iload_n 1, 1) := by decide +kernel
theorem dX10_reach_2 : decode cX10_reach 2 = .ok (.invokevirtual 131, 3) := by decide +kernel
theorem dX10_reach_5 : decode cX10_reach 5 = .ok (.ifCond .ne 5, 3) := by decide +kernel
theorem dX10_reach_8 : decode cX10_reach 8 = .ok (.iconst (-1), 1) := by decide +kernel
theorem dX10_reach_9 : decode cX10_reach 9 = .ok (.ireturn, 1) := by decide +kernel
theorem dX10_reach_10 : decode cX10_reach 10 = .ok (.iconst 0, 1) := by decide +kernel
theorem dX10_reach_11 : decode cX10_reach 11 = .ok (.istore_n 3, 1) := by decide +kernel
theorem dX10_reach_12 : decode cX10_reach 12 = .ok (.iconst 0, 1) := by decide +kernel
theorem dX10_reach_13 : decode cX10_reach 13 = .ok (.istore 4, 2) := by decide +kernel
theorem dX10_reach_15 : decode cX10_reach 15 = .ok (.iload 4, 2) := by decide +kernel
theorem dX10_reach_17 : decode cX10_reach 17 = .ok (.aload_n 0, 1) := by decide +kernel
theorem dX10_reach_18 : decode cX10_reach 18 = .ok (.getfield 128, 3) := by decide +kernel
theorem dX10_reach_21 : decode cX10_reach 21 = .ok (.if_icmp .ge 34, 3) := by decide +kernel
theorem dX10_reach_24 : decode cX10_reach 24 = .ok (.iload_n 3, 1) := by decide +kernel
theorem dX10_reach_25 : decode cX10_reach 25 = .ok (.aload_n 0, 1) := by decide +kernel
theorem dX10_reach_26 : decode cX10_reach 26 = .ok (.getfield 44, 3) := by decide +kernel
theorem dX10_reach_29 : decode cX10_reach 29 = .ok (.iload 4, 2) := by decide +kernel
theorem dX10_reach_31 : decode cX10_reach 31 = .ok (.iaload, 1) := by decide +kernel
theorem dX10_reach_32 : decode cX10_reach 32 = .ok (.iload_n 1, 1) := by decide +kernel
theorem dX10_reach_33 : decode cX10_reach 33 = .ok (.if_icmp .ne 13, 3) := by decide +kernel
theorem dX10_reach_36 : decode cX10_reach 36 = .ok (.aload_n 0, 1) := by decide +kernel
theorem dX10_reach_37 : decode cX10_reach 37 = .ok (.getfield 32, 3) := by decide +kernel
theorem dX10_reach_40 : decode cX10_reach 40 = .ok (.iload 4, 2) := by decide +kernel
theorem dX10_reach_42 : decode cX10_reach 42 = .ok (.iaload, 1) := by decide +kernel
theorem dX10_reach_43 : decode cX10_reach 43 = .ok (.goto 4, 3) := by decide +kernel
theorem dX10_reach_46 : decode cX10_reach 46 = .ok (.iconst 0, 1) := by decide +kernel
theorem dX10_reach_47 : decode cX10_reach 47 = .ok (.iadd, 1) := by decide +kernel
theorem dX10_reach_48 : decode cX10_reach 48 = .ok (.istore_n 3, 1) := by decide +kernel
theorem dX10_reach_49 : decode cX10_reach 49 = .ok (.iinc 4 1, 3) := by decide +kernel
theorem dX10_reach_52 : decode cX10_reach 52 = .ok (.goto (-37), 3) := by decide +kernel
theorem dX10_reach_55 : decode cX10_reach 55 = .ok (.iload_n 2, 1) := by decide +kernel
theorem dX10_reach_56 : decode cX10_reach 56 = .ok (.ifCond .ne 12, 3) := by decide +kernel
theorem dX10_reach_59 : decode cX10_reach 59 = .ok (.aload_n 0, 1) := by decide +kernel
theorem dX10_reach_60 : decode cX10_reach 60 = .ok (.getfield 7, 3) := by decide +kernel
theorem dX10_reach_63 : decode cX10_reach 63 = .ok (.iload_n 1, 1) := by decide +kernel
theorem dX10_reach_64 : decode cX10_reach 64 = .ok (.iaload, 1) := by decide +kernel
theorem dX10_reach_65 : decode cX10_reach 65 = .ok (.goto 51, 3) := by decide +kernel
theorem dX10_reach_68 : decode cX10_reach 68 = .ok (.iload_n 2, 1) := by decide +kernel
theorem dX10_reach_69 : decode cX10_reach 69 = .ok (.iconst 1, 1) := by decide +kernel
theorem dX10_reach_70 : decode cX10_reach 70 = .ok (.if_icmp .ne 7, 3) := by decide +kernel
theorem dX10_reach_73 : decode cX10_reach 73 = .ok (.iload_n 3, 1) := by decide +kernel
theorem dX10_reach_74 : decode cX10_reach 74 = .ok (.goto 42, 3) := by decide +kernel
theorem dX10_reach_77 : decode cX10_reach 77 = .ok (.iload_n 2, 1) := by decide +kernel
theorem dX10_reach_78 : decode cX10_reach 78 = .ok (.iconst 2, 1) := by decide +kernel
theorem dX10_reach_79 : decode cX10_reach 79 = .ok (.if_icmp .ne 14, 3) := by decide +kernel
theorem dX10_reach_82 : decode cX10_reach 82 = .ok (.aload_n 0, 1) := by decide +kernel
theorem dX10_reach_83 : decode cX10_reach 83 = .ok (.iload_n 1, 1) := by decide +kernel
theorem dX10_reach_84 : decode cX10_reach 84 = .ok (.invokevirtual 228, 3) := by decide +kernel
theorem dX10_reach_87 : decode cX10_reach 87 = .ok (.invokestatic 234, 3) := by decide +kernel
theorem dX10_reach_90 : decode cX10_reach 90 = .ok (.goto 26, 3) := by decide +kernel
theorem dX10_reach_93 : decode cX10_reach 93 = .ok (.iload_n 2, 1) := by decide +kernel
theorem dX10_reach_94 : decode cX10_reach 94 = .ok (.iconst 3, 1) := by decide +kernel
theorem dX10_reach_95 : decode cX10_reach 95 = .ok (.if_icmp .ne 20, 3) := by decide +kernel
theorem dX10_reach_98 : decode cX10_reach 98 = .ok (.aload_n 0, 1) := by decide +kernel
theorem dX10_reach_99 : decode cX10_reach 99 = .ok (.iload_n 1, 1) := by decide +kernel
theorem dX10_reach_100 : decode cX10_reach 100 = .ok (.invokevirtual 135, 3) := by decide +kernel
theorem dX10_reach_103 : decode cX10_reach 103 = .ok (.ifCond .eq 12, 3) := by decide +kernel
theorem dX10_reach_106 : decode cX10_reach 106 = .ok (.aload_n 0, 1) := by decide +kernel
theorem dX10_reach_107 : decode cX10_reach 107 = .ok (.getfield 13, 3) := by decide +kernel
theorem dX10_reach_110 : decode cX10_reach 110 = .ok (.iload_n 1, 1) := by decide +kernel
theorem dX10_reach_111 : decode cX10_reach 111 = .ok (.iaload, 1) := by decide +kernel
theorem dX10_reach_112 : decode cX10_reach 112 = .ok (.goto 4, 3) := by decide +kernel
theorem dX10_reach_115 : decode cX10_reach 115 = .ok (.iconst (-1), 1) := by decide +kernel
theorem dX10_reach_116 : decode cX10_reach 116 = .ok (.ireturn, 1) := by decide +kernel
set_option maxRecDepth 20000 in
theorem ggX10_store_X10_isIn : GoodIn wsX10_store wsX10_isIn := goodIn_r _ [6] (by decide +kernel) (by decide +kernel)
set_option maxRecDepth 20000 in
theorem gX10_store_X10_isIn : GoodIn wsX10_store (va_wsS RX10 124 yX10_isIn wsX10_isIn) := goodIn_app (goodIn_of _ (by decide +kernel)) ggX10_store_X10_isIn
theorem dX10_store_0 : decode cX10_store 0 = .ok (.iload_n 1, 1) := by decide +kernel
theorem dX10_store_1 : decode cX10_store 1 = .ok (.iconst 0, 1) := by decide +kernel
theorem dX10_store_2 : decode cX10_store 2 = .ok (.aload_n 0, 1) := by decide +kernel
theorem dX10_store_3 : decode cX10_store 3 = .ok (.getfield 138, 3) := by decide +kernel
theorem dX10_store_6 : decode cX10_store 6 = .ok (.iconst 1, 1) := by decide +kernel
theorem dX10_store_7 : decode cX10_store 7 = .ok (.isub, 1) := by decide +kernel
theorem dX10_store_8 : decode cX10_store 8 = .ok (.invokestatic 124, 3) := by decide +kernel
theorem dX10_store_11 : decode cX10_store 11 = .ok (.ifCond .eq 12, 3) := by decide +kernel
theorem dX10_store_14 : decode cX10_store 14 = .ok (.aload_n 0, 1) := by decide +kernel
theorem dX10_store_15 : decode cX10_store 15 = .ok (.getfield 23, 3) := by decide +kernel
theorem dX10_store_18 : decode cX10_store 18 = .ok (.iload_n 1, 1) := by decide +kernel
theorem dX10_store_19 : decode cX10_store 19 = .ok (.iaload, 1) := by decide +kernel
theorem dX10_store_20 : decode cX10_store 20 = .ok (.goto 4, 3) := by decide +kernel
theorem dX10_store_23 : decode cX10_store 23 = .ok (.iconst (-1), 1) := by decide +kernel
theorem dX10_store_24 : decode cX10_store 24 = .ok (.ireturn, 1) := by decide +kernel
set_option maxRecDepth 20000 in
theorem ggX10_allot_X10_isCounty : GoodIn wsX10_allot wsX10_isCounty := goodIn_r _ [5, 6, 7, 4, 8] (by decide +kernel) (by decide +kernel)
set_option maxRecDepth 20000 in
theorem gX10_allot_X10_isCounty : GoodIn wsX10_allot (va_wsS RX10 147 yX10_isCounty wsX10_isCounty) := goodIn_app (goodIn_of _ (by decide +kernel)) ggX10_allot_X10_isCounty
set_option maxRecDepth 20000 in
theorem ggX10_allot_X10_isIn : GoodIn wsX10_allot wsX10_isIn := goodIn_r _ [8] (by decide +kernel) (by decide +kernel)
set_option maxRecDepth 20000 in
theorem gX10_allot_X10_isIn : GoodIn wsX10_allot (va_wsS RX10 124 yX10_isIn wsX10_isIn) := goodIn_app (goodIn_of _ (by decide +kernel)) ggX10_allot_X10_isIn
theorem dX10_allot_0 : decode cX10_allot 0 = .ok (.iload_n 1, 1) := by decide +kernel
theorem dX10_allot_1 : decode cX10_allot 1 = .ok (.invokestatic 147, 3) := by decide +kernel
theorem dX10_allot_4 : decode cX10_allot 4 = .ok (.ifCond .eq 14, 3) := by decide +kernel
theorem dX10_allot_7 : decode cX10_allot 7 = .ok (.iload_n 2, 1) := by decide +kernel
theorem dX10_allot_8 : decode cX10_allot 8 = .ok (.iconst 0, 1) := by decide +kernel
theorem dX10_allot_9 : decode cX10_allot 9 = .ok (.sipush 10000, 3) := by decide +kernel
theorem dX10_allot_12 : decode cX10_allot 12 = .ok (.invokestatic 124, 3) := by decide +kernel
theorem dX10_allot_15 : decode cX10_allot 15 = .ok (.ifCond .ne 5, 3) := by decide +kernel
theorem dX10_allot_18 : decode cX10_allot 18 = .ok (.iconst 0, 1) := by decide +kernel
theorem dX10_allot_19 : decode cX10_allot 19 = .ok (.ireturn, 1) := by decide +kernel
theorem dX10_allot_20 : decode cX10_allot 20 = .ok (.aload_n 0, 1) := by decide +kernel
theorem dX10_allot_21 : decode cX10_allot 21 = .ok (.getfield 66, 3) := by decide +kernel
theorem dX10_allot_24 : decode cX10_allot 24 = .ok (.iload_n 1, 1) := by decide +kernel
theorem dX10_allot_25 : decode cX10_allot 25 = .ok (.iload_n 2, 1) := by decide +kernel
theorem dX10_allot_26 : decode cX10_allot 26 = .ok (.iastore, 1) := by decide +kernel
theorem dX10_allot_27 : decode cX10_allot 27 = .ok (.iconst 1, 1) := by decide +kernel
theorem dX10_allot_28 : decode cX10_allot 28 = .ok (.ireturn, 1) := by decide +kernel
set_option maxRecDepth 20000 in
theorem ggX10_rate_X10_isIn : GoodIn wsX10_rate wsX10_isIn := goodIn_r _ [5] (by decide +kernel) (by decide +kernel)
set_option maxRecDepth 20000 in
theorem gX10_rate_X10_isIn : GoodIn wsX10_rate (va_wsS RX10 124 yX10_isIn wsX10_isIn) := goodIn_app (goodIn_of _ (by decide +kernel)) ggX10_rate_X10_isIn
theorem dX10_rate_0 : decode cX10_rate 0 = .ok (.iload_n 1, 1) := by decide +kernel
theorem dX10_rate_1 : decode cX10_rate 1 = .ok (.iconst 0, 1) := by decide +kernel
theorem dX10_rate_2 : decode cX10_rate 2 = .ok (.bipush 100, 2) := by decide +kernel
theorem dX10_rate_4 : decode cX10_rate 4 = .ok (.invokestatic 124, 3) := by decide +kernel
theorem dX10_rate_7 : decode cX10_rate 7 = .ok (.ifCond .ne 5, 3) := by decide +kernel
theorem dX10_rate_10 : decode cX10_rate 10 = .ok (.iconst 0, 1) := by decide +kernel
theorem dX10_rate_11 : decode cX10_rate 11 = .ok (.ireturn, 1) := by decide +kernel
theorem dX10_rate_12 : decode cX10_rate 12 = .ok (.aload_n 0, 1) := by decide +kernel
theorem dX10_rate_13 : decode cX10_rate 13 = .ok (.iload_n 1, 1) := by decide +kernel
theorem dX10_rate_14 : decode cX10_rate 14 = .ok (.putfield 241, 3) := by decide +kernel
theorem dX10_rate_17 : decode cX10_rate 17 = .ok (.iconst 1, 1) := by decide +kernel
theorem dX10_rate_18 : decode cX10_rate 18 = .ok (.ireturn, 1) := by decide +kernel
set_option maxRecDepth 20000 in
theorem ggX10_commute_X10_isCounty : GoodIn wsX10_commute wsX10_isCounty := goodIn_r _ [8, 9, 10, 7, 11] (by decide +kernel) (by decide +kernel)
set_option maxRecDepth 20000 in
theorem gX10_commute_X10_isCounty : GoodIn wsX10_commute (va_wsS RX10 147 yX10_isCounty wsX10_isCounty) := goodIn_app (goodIn_of _ (by decide +kernel)) ggX10_commute_X10_isCounty
set_option maxRecDepth 20000 in
theorem ggX10_commute_X10_isIn : GoodIn wsX10_commute wsX10_isIn := goodIn_r _ [11] (by decide +kernel) (by decide +kernel)
set_option maxRecDepth 20000 in
theorem gX10_commute_X10_isIn : GoodIn wsX10_commute (va_wsS RX10 124 yX10_isIn wsX10_isIn) := goodIn_app (goodIn_of _ (by decide +kernel)) ggX10_commute_X10_isIn
theorem dX10_commute_0 : decode cX10_commute 0 = .ok (.iload_n 1, 1) := by decide +kernel
theorem dX10_commute_1 : decode cX10_commute 1 = .ok (.invokestatic 147, 3) := by decide +kernel
theorem dX10_commute_4 : decode cX10_commute 4 = .ok (.ifCond .eq 24, 3) := by decide +kernel
theorem dX10_commute_7 : decode cX10_commute 7 = .ok (.iload_n 2, 1) := by decide +kernel
theorem dX10_commute_8 : decode cX10_commute 8 = .ok (.iconst 1, 1) := by decide +kernel
theorem dX10_commute_9 : decode cX10_commute 9 = .ok (.aload_n 0, 1) := by decide +kernel
theorem dX10_commute_10 : decode cX10_commute 10 = .ok (.getfield 66, 3) := by decide +kernel
theorem dX10_commute_13 : decode cX10_commute 13 = .ok (.iload_n 1, 1) := by decide +kernel
theorem dX10_commute_14 : decode cX10_commute 14 = .ok (.iaload, 1) := by decide +kernel
theorem dX10_commute_15 : decode cX10_commute 15 = .ok (.aload_n 0, 1) := by decide +kernel
theorem dX10_commute_16 : decode cX10_commute 16 = .ok (.getfield 69, 3) := by decide +kernel
theorem dX10_commute_19 : decode cX10_commute 19 = .ok (.iload_n 1, 1) := by decide +kernel
theorem dX10_commute_20 : decode cX10_commute 20 = .ok (.iaload, 1) := by decide +kernel
theorem dX10_commute_21 : decode cX10_commute 21 = .ok (.isub, 1) := by decide +kernel
theorem dX10_commute_22 : decode cX10_commute 22 = .ok (.invokestatic 124, 3) := by decide +kernel
theorem dX10_commute_25 : decode cX10_commute 25 = .ok (.ifCond .ne 5, 3) := by decide +kernel
theorem dX10_commute_28 : decode cX10_commute 28 = .ok (.iconst (-1), 1) := by decide +kernel
theorem dX10_commute_29 : decode cX10_commute 29 = .ok (.ireturn, 1) := by decide +kernel
theorem dX10_commute_30 : decode cX10_commute 30 = .ok (.aload_n 0, 1) := by decide +kernel
theorem dX10_commute_31 : decode cX10_commute 31 = .ok (.getfield 69, 3) := by decide +kernel
theorem dX10_commute_34 : decode cX10_commute 34 = .ok (.iload_n 1, 1) := by decide +kernel
theorem dX10_commute_35 : decode cX10_commute 35 = .ok (.dup2, 1) := by decide +kernel
theorem dX10_commute_36 : decode cX10_commute 36 = .ok (.iaload, 1) := by decide +kernel
theorem dX10_commute_37 : decode cX10_commute 37 = .ok (.iload_n 2, 1) := by decide +kernel
theorem dX10_commute_38 : decode cX10_commute 38 = .ok (.iadd, 1) := by decide +kernel
theorem dX10_commute_39 : decode cX10_commute 39 = .ok (.iastore, 1) := by decide +kernel
theorem dX10_commute_40 : decode cX10_commute 40 = .ok (.aload_n 0, 1) := by decide +kernel
theorem dX10_commute_41 : decode cX10_commute 41 = .ok (.getfield 72, 3) := by decide +kernel
theorem dX10_commute_44 : decode cX10_commute 44 = .ok (.iload_n 1, 1) := by decide +kernel
theorem dX10_commute_45 : decode cX10_commute 45 = .ok (.dup2, 1) := by decide +kernel
theorem dX10_commute_46 : decode cX10_commute 46 = .ok (.iaload, 1) := by decide +kernel
theorem dX10_commute_47 : decode cX10_commute 47 = .ok (.iload_n 2, 1) := by decide +kernel
theorem dX10_commute_48 : decode cX10_commute 48 = .ok (.aload_n 0, 1) := by decide +kernel
theorem dX10_commute_49 : decode cX10_commute 49 = .ok (.getfield 241, 3) := by decide +kernel
theorem dX10_commute_52 : decode cX10_commute 52 = .ok (.imul, 1) := by decide +kernel
theorem dX10_commute_53 : decode cX10_commute 53 = .ok (.iadd, 1) := by decide +kernel
theorem dX10_commute_54 : decode cX10_commute 54 = .ok (.iastore, 1) := by decide +kernel
theorem dX10_commute_55 : decode cX10_commute 55 = .ok (.iload_n 2, 1) := by decide +kernel
theorem dX10_commute_56 : decode cX10_commute 56 = .ok (.aload_n 0, 1) := by decide +kernel
theorem dX10_commute_57 : decode cX10_commute 57 = .ok (.getfield 241, 3) := by decide +kernel
theorem dX10_commute_60 : decode cX10_commute 60 = .ok (.imul, 1) := by decide +kernel
theorem dX10_commute_61 : decode cX10_commute 61 = .ok (.ireturn, 1) := by decide +kernel
set_option maxRecDepth 20000 in
theorem ggX10_county_X10_isCounty : GoodIn wsX10_county wsX10_isCounty := goodIn_r _ [13, 14, 15, 12, 16] (by decide +kernel) (by decide +kernel)
set_option maxRecDepth 20000 in
theorem gX10_county_X10_isCounty : GoodIn wsX10_county (va_wsS RX10 147 yX10_isCounty wsX10_isCounty) := goodIn_app (goodIn_of _ (by decide +kernel)) ggX10_county_X10_isCounty
set_option maxRecDepth 20000 in
theorem ggX10_county_X10_isIn : GoodIn wsX10_county wsX10_isIn := goodIn_r _ [16] (by decide +kernel) (by decide +kernel)
set_option maxRecDepth 20000 in
theorem gX10_county_X10_isIn : GoodIn wsX10_county (va_wsS RX10 124 yX10_isIn wsX10_isIn) := goodIn_app (goodIn_of _ (by decide +kernel)) ggX10_county_X10_isIn
theorem dX10_county_0 : decode cX10_county 0 = .ok (.iload_n 1, 1) := by decide +kernel
theorem dX10_county_1 : decode cX10_county 1 = .ok (.invokestatic 147, 3) := by decide +kernel
theorem dX10_county_4 : decode cX10_county 4 = .ok (.ifCond .eq 12, 3) := by decide +kernel
theorem dX10_county_7 : decode cX10_county 7 = .ok (.iload_n 2, 1) := by decide +kernel
theorem dX10_county_8 : decode cX10_county 8 = .ok (.iconst 0, 1) := by decide +kernel
theorem dX10_county_9 : decode cX10_county 9 = .ok (.iconst 4, 1) := by decide +kernel
theorem dX10_county_10 : decode cX10_county 10 = .ok (.invokestatic 124, 3) := by decide +kernel
theorem dX10_county_13 : decode cX10_county 13 = .ok (.ifCond .ne 6, 3) := by decide +kernel
theorem dX10_county_16 : decode cX10_county 16 = .ok (.ldc 244, 2) := by decide +kernel
theorem dX10_county_18 : decode cX10_county 18 = .ok (.ireturn, 1) := by decide +kernel
theorem dX10_county_19 : decode cX10_county 19 = .ok (.iconst 0, 1) := by decide +kernel
theorem dX10_county_20 : decode cX10_county 20 = .ok (.istore_n 3, 1) := by decide +kernel
theorem dX10_county_21 : decode cX10_county 21 = .ok (.iconst 0, 1) := by decide +kernel
theorem dX10_county_22 : decode cX10_county 22 = .ok (.istore 4, 2) := by decide +kernel
theorem dX10_county_24 : decode cX10_county 24 = .ok (.iload 4, 2) := by decide +kernel
theorem dX10_county_26 : decode cX10_county 26 = .ok (.aload_n 0, 1) := by decide +kernel
theorem dX10_county_27 : decode cX10_county 27 = .ok (.getfield 128, 3) := by decide +kernel
theorem dX10_county_30 : decode cX10_county 30 = .ok (.if_icmp .ge 53, 3) := by decide +kernel
theorem dX10_county_33 : decode cX10_county 33 = .ok (.iload_n 3, 1) := by decide +kernel
theorem dX10_county_34 : decode cX10_county 34 = .ok (.aload_n 0, 1) := by decide +kernel
theorem dX10_county_35 : decode cX10_county 35 = .ok (.getfield 29, 3) := by decide +kernel
theorem dX10_county_38 : decode cX10_county 38 = .ok (.iload 4, 2) := by decide +kernel
theorem dX10_county_40 : decode cX10_county 40 = .ok (.iaload, 1) := by decide +kernel
theorem dX10_county_41 : decode cX10_county 41 = .ok (.iload_n 1, 1) := by decide +kernel
theorem dX10_county_42 : decode cX10_county 42 = .ok (.if_icmp .ne 32, 3) := by decide +kernel
theorem dX10_county_45 : decode cX10_county 45 = .ok (.aload_n 0, 1) := by decide +kernel
theorem dX10_county_46 : decode cX10_county 46 = .ok (.getfield 47, 3) := by decide +kernel
theorem dX10_county_49 : decode cX10_county 49 = .ok (.iload 4, 2) := by decide +kernel
theorem dX10_county_51 : decode cX10_county 51 = .ok (.iaload, 1) := by decide +kernel
theorem dX10_county_52 : decode cX10_county 52 = .ok (.iconst (-1), 1) := by decide +kernel
theorem dX10_county_53 : decode cX10_county 53 = .ok (.if_icmp .eq 21, 3) := by decide +kernel
theorem dX10_county_56 : decode cX10_county 56 = .ok (.aload_n 0, 1) := by decide +kernel
theorem dX10_county_57 : decode cX10_county 57 = .ok (.getfield 35, 3) := by decide +kernel
theorem dX10_county_60 : decode cX10_county 60 = .ok (.iload 4, 2) := by decide +kernel
theorem dX10_county_62 : decode cX10_county 62 = .ok (.iaload, 1) := by decide +kernel
theorem dX10_county_63 : decode cX10_county 63 = .ok (.aload_n 0, 1) := by decide +kernel
theorem dX10_county_64 : decode cX10_county 64 = .ok (.getfield 38, 3) := by decide +kernel
theorem dX10_county_67 : decode cX10_county 67 = .ok (.iload 4, 2) := by decide +kernel
theorem dX10_county_69 : decode cX10_county 69 = .ok (.iaload, 1) := by decide +kernel
theorem dX10_county_70 : decode cX10_county 70 = .ok (.isub, 1) := by decide +kernel
theorem dX10_county_71 : decode cX10_county 71 = .ok (.goto 4, 3) := by decide +kernel
theorem dX10_county_74 : decode cX10_county 74 = .ok (.iconst 0, 1) := by decide +kernel
theorem dX10_county_75 : decode cX10_county 75 = .ok (.iadd, 1) := by decide +kernel
theorem dX10_county_76 : decode cX10_county 76 = .ok (.istore_n 3, 1) := by decide +kernel
theorem dX10_county_77 : decode cX10_county 77 = .ok (.iinc 4 1, 3) := by decide +kernel
theorem dX10_county_80 : decode cX10_county 80 = .ok (.goto (-56), 3) := by decide +kernel
theorem dX10_county_83 : decode cX10_county 83 = .ok (.iload_n 2, 1) := by decide +kernel
theorem dX10_county_84 : decode cX10_county 84 = .ok (.ifCond .ne 12, 3) := by decide +kernel
theorem dX10_county_87 : decode cX10_county 87 = .ok (.aload_n 0, 1) := by decide +kernel
theorem dX10_county_88 : decode cX10_county 88 = .ok (.getfield 66, 3) := by decide +kernel
theorem dX10_county_91 : decode cX10_county 91 = .ok (.iload_n 1, 1) := by decide +kernel
theorem dX10_county_92 : decode cX10_county 92 = .ok (.iaload, 1) := by decide +kernel
theorem dX10_county_93 : decode cX10_county 93 = .ok (.goto 55, 3) := by decide +kernel
theorem dX10_county_96 : decode cX10_county 96 = .ok (.iload_n 2, 1) := by decide +kernel
theorem dX10_county_97 : decode cX10_county 97 = .ok (.iconst 1, 1) := by decide +kernel
theorem dX10_county_98 : decode cX10_county 98 = .ok (.if_icmp .ne 12, 3) := by decide +kernel
theorem dX10_county_101 : decode cX10_county 101 = .ok (.aload_n 0, 1) := by decide +kernel
theorem dX10_county_102 : decode cX10_county 102 = .ok (.getfield 69, 3) := by decide +kernel
theorem dX10_county_105 : decode cX10_county 105 = .ok (.iload_n 1, 1) := by decide +kernel
theorem dX10_county_106 : decode cX10_county 106 = .ok (.iaload, 1) := by decide +kernel
theorem dX10_county_107 : decode cX10_county 107 = .ok (.goto 41, 3) := by decide +kernel
theorem dX10_county_110 : decode cX10_county 110 = .ok (.iload_n 2, 1) := by decide +kernel
theorem dX10_county_111 : decode cX10_county 111 = .ok (.iconst 2, 1) := by decide +kernel
theorem dX10_county_112 : decode cX10_county 112 = .ok (.if_icmp .ne 12, 3) := by decide +kernel
theorem dX10_county_115 : decode cX10_county 115 = .ok (.aload_n 0, 1) := by decide +kernel
theorem dX10_county_116 : decode cX10_county 116 = .ok (.getfield 72, 3) := by decide +kernel
theorem dX10_county_119 : decode cX10_county 119 = .ok (.iload_n 1, 1) := by decide +kernel
theorem dX10_county_120 : decode cX10_county 120 = .ok (.iaload, 1) := by decide +kernel
theorem dX10_county_121 : decode cX10_county 121 = .ok (.goto 27, 3) := by decide +kernel
theorem dX10_county_124 : decode cX10_county 124 = .ok (.iload_n 2, 1) := by decide +kernel
theorem dX10_county_125 : decode cX10_county 125 = .ok (.iconst 3, 1) := by decide +kernel
theorem dX10_county_126 : decode cX10_county 126 = .ok (.if_icmp .ne 7, 3) := by decide +kernel
theorem dX10_county_129 : decode cX10_county 129 = .ok (.iload_n 3, 1) := by decide +kernel
theorem dX10_county_130 : decode cX10_county 130 = .ok (.goto 18, 3) := by decide +kernel
theorem dX10_county_133 : decode cX10_county 133 = .ok (.aload_n 0, 1) := by decide +kernel
theorem dX10_county_134 : decode cX10_county 134 = .ok (.getfield 66, 3) := by decide +kernel
theorem dX10_county_137 : decode cX10_county 137 = .ok (.iload_n 1, 1) := by decide +kernel
theorem dX10_county_138 : decode cX10_county 138 = .ok (.iaload, 1) := by decide +kernel
theorem dX10_county_139 : decode cX10_county 139 = .ok (.aload_n 0, 1) := by decide +kernel
theorem dX10_county_140 : decode cX10_county 140 = .ok (.getfield 69, 3) := by decide +kernel
theorem dX10_county_143 : decode cX10_county 143 = .ok (.iload_n 1, 1) := by decide +kernel
theorem dX10_county_144 : decode cX10_county 144 = .ok (.iaload, 1) := by decide +kernel
theorem dX10_county_145 : decode cX10_county 145 = .ok (.isub, 1) := by decide +kernel
theorem dX10_county_146 : decode cX10_county 146 = .ok (.iload_n 3, 1) := by decide +kernel
theorem dX10_county_147 : decode cX10_county 147 = .ok (.isub, 1) := by decide +kernel
theorem dX10_county_148 : decode cX10_county 148 = .ok (.ireturn, 1) := by decide +kernel
set_option maxRecDepth 20000 in
theorem ggX10_due_X10_isSquadron : GoodIn wsX10_due wsX10_isSquadron := goodIn_r _ [6, 7, 8, 9, 5, 10, 11, 12, 13, 14, 15, 16, 17, 18, 19, 20, 21, 22, 23, 24, 25, 26, 27, 28, 29, 30, 31, 32, 33, 34, 35, 36, 37, 38, 39, 40, 41, 42, 43, 44, 45, 46, 47, 48, 49, 50, 51, 52, 53, 54, 55] (by decide +kernel) (by decide +kernel)
set_option maxRecDepth 20000 in
theorem gX10_due_X10_isSquadron : GoodIn wsX10_due (wsV RX10 219 RX10 yX10_isSquadron wsX10_isSquadron) := goodIn_app (goodIn_of _ (by decide +kernel)) ggX10_due_X10_isSquadron
set_option maxRecDepth 20000 in
theorem ggX10_due_X10_isIn : GoodIn wsX10_due wsX10_isIn := goodIn_r _ [10] (by decide +kernel) (by decide +kernel)
set_option maxRecDepth 20000 in
theorem gX10_due_X10_isIn : GoodIn wsX10_due (va_wsS RX10 124 yX10_isIn wsX10_isIn) := goodIn_app (goodIn_of _ (by decide +kernel)) ggX10_due_X10_isIn
theorem dX10_due_0 : decode cX10_due 0 = .ok (.aload_n 0, 1) := by decide +kernel
theorem dX10_due_1 : decode cX10_due 1 = .ok (.iload_n 1, 1) := by decide +kernel
theorem dX10_due_2 : decode cX10_due 2 = .ok (.invokevirtual 219, 3) := by decide +kernel
theorem dX10_due_5 : decode cX10_due 5 = .ok (.ifCond .eq 14, 3) := by decide +kernel
theorem dX10_due_8 : decode cX10_due 8 = .ok (.iload_n 2, 1) := by decide +kernel
theorem dX10_due_9 : decode cX10_due 9 = .ok (.iconst 0, 1) := by decide +kernel
theorem dX10_due_10 : decode cX10_due 10 = .ok (.sipush 400, 3) := by decide +kernel
theorem dX10_due_13 : decode cX10_due 13 = .ok (.invokestatic 124, 3) := by decide +kernel
theorem dX10_due_16 : decode cX10_due 16 = .ok (.ifCond .ne 5, 3) := by decide +kernel
theorem dX10_due_19 : decode cX10_due 19 = .ok (.iconst 0, 1) := by decide +kernel
theorem dX10_due_20 : decode cX10_due 20 = .ok (.ireturn, 1) := by decide +kernel
theorem dX10_due_21 : decode cX10_due 21 = .ok (.aload_n 0, 1) := by decide +kernel
theorem dX10_due_22 : decode cX10_due 22 = .ok (.getfield 53, 3) := by decide +kernel
theorem dX10_due_25 : decode cX10_due 25 = .ok (.iload_n 1, 1) := by decide +kernel
theorem dX10_due_26 : decode cX10_due 26 = .ok (.iload_n 2, 1) := by decide +kernel
theorem dX10_due_27 : decode cX10_due 27 = .ok (.iastore, 1) := by decide +kernel
theorem dX10_due_28 : decode cX10_due 28 = .ok (.iconst 1, 1) := by decide +kernel
theorem dX10_due_29 : decode cX10_due 29 = .ok (.ireturn, 1) := by decide +kernel
set_option maxRecDepth 20000 in
theorem ggX10_least_X10_isLock : GoodIn wsX10_least wsX10_isLock := goodIn_r _ [17, 18, 19, 20, 16, 21, 22, 23, 24, 25, 26, 27, 28, 29, 30, 31, 32, 33, 34, 35, 36, 37, 38, 39, 40, 41, 42, 43, 44, 45, 46, 47, 48, 49, 50, 51, 52, 53, 54, 55, 56, 57, 58, 59, 60, 61, 62, 63, 64, 65, 66] (by decide +kernel) (by decide +kernel)
set_option maxRecDepth 20000 in
theorem gX10_least_X10_isLock : GoodIn wsX10_least (wsV RX10 135 RX10 yX10_isLock wsX10_isLock) := goodIn_app (goodIn_of _ (by decide +kernel)) ggX10_least_X10_isLock
set_option maxRecDepth 20000 in
theorem ggX10_least_X10_isIn : GoodIn wsX10_least wsX10_isIn := goodIn_r _ [21] (by decide +kernel) (by decide +kernel)
set_option maxRecDepth 20000 in
theorem gX10_least_X10_isIn : GoodIn wsX10_least (va_wsS RX10 124 yX10_isIn wsX10_isIn) := goodIn_app (goodIn_of _ (by decide +kernel)) ggX10_least_X10_isIn
theorem dX10_least_0 : decode cX10_least 0 = .ok (.iload_n 1, 1) := by decide +kernel
theorem dX10_least_1 : decode cX10_least 1 = .ok (.ifCond .lt 20, 3) := by decide +kernel
theorem dX10_least_4 : decode cX10_least 4 = .ok (.iload_n 1, 1) := by decide +kernel
theorem dX10_least_5 : decode cX10_least 5 = .ok (.aload_n 0, 1) := by decide +kernel
theorem dX10_least_6 : decode cX10_least 6 = .ok (.getfield 128, 3) := by decide +kernel
theorem dX10_least_9 : decode cX10_least 9 = .ok (.ishr, 1) := by decide +kernel
theorem dX10_least_10 : decode cX10_least 10 = .ok (.ifCond .ne 11, 3) := by decide +kernel
theorem dX10_least_13 : decode cX10_least 13 = .ok (.aload_n 0, 1) := by decide +kernel
theorem dX10_least_14 : decode cX10_least 14 = .ok (.iload_n 2, 1) := by decide +kernel
theorem dX10_least_15 : decode cX10_least 15 = .ok (.invokevirtual 135, 3) := by decide +kernel
theorem dX10_least_18 : decode cX10_least 18 = .ok (.ifCond .ne 5, 3) := by decide +kernel
theorem dX10_least_21 : decode cX10_least 21 = .ok (.iconst (-1), 1) := by decide +kernel
theorem dX10_least_22 : decode cX10_least 22 = .ok (.ireturn, 1) := by decide +kernel
theorem dX10_least_23 : decode cX10_least 23 = .ok (.iconst 0, 1) := by decide +kernel
theorem dX10_least_24 : decode cX10_least 24 = .ok (.istore 4, 2) := by decide +kernel
theorem dX10_least_26 : decode cX10_least 26 = .ok (.iconst 0, 1) := by decide +kernel
theorem dX10_least_27 : decode cX10_least 27 = .ok (.istore 5, 2) := by decide +kernel
theorem dX10_least_29 : decode cX10_least 29 = .ok (.iload 5, 2) := by decide +kernel
theorem dX10_least_31 : decode cX10_least 31 = .ok (.aload_n 0, 1) := by decide +kernel
theorem dX10_least_32 : decode cX10_least 32 = .ok (.getfield 128, 3) := by decide +kernel
theorem dX10_least_35 : decode cX10_least 35 = .ok (.if_icmp .ge 42, 3) := by decide +kernel
theorem dX10_least_38 : decode cX10_least 38 = .ok (.iload_n 1, 1) := by decide +kernel
theorem dX10_least_39 : decode cX10_least 39 = .ok (.iload 5, 2) := by decide +kernel
theorem dX10_least_41 : decode cX10_least 41 = .ok (.ishr, 1) := by decide +kernel
theorem dX10_least_42 : decode cX10_least 42 = .ok (.iconst 1, 1) := by decide +kernel
theorem dX10_least_43 : decode cX10_least 43 = .ok (.iand, 1) := by decide +kernel
theorem dX10_least_44 : decode cX10_least 44 = .ok (.ifCond .ne 6, 3) := by decide +kernel
theorem dX10_least_47 : decode cX10_least 47 = .ok (.goto 24, 3) := by decide +kernel
theorem dX10_least_50 : decode cX10_least 50 = .ok (.iload 4, 2) := by decide +kernel
theorem dX10_least_52 : decode cX10_least 52 = .ok (.bipush 6, 2) := by decide +kernel
theorem dX10_least_54 : decode cX10_least 54 = .ok (.if_icmp .ne 5, 3) := by decide +kernel
theorem dX10_least_57 : decode cX10_least 57 = .ok (.iconst (-1), 1) := by decide +kernel
theorem dX10_least_58 : decode cX10_least 58 = .ok (.ireturn, 1) := by decide +kernel
theorem dX10_least_59 : decode cX10_least 59 = .ok (.aload_n 0, 1) := by decide +kernel
theorem dX10_least_60 : decode cX10_least 60 = .ok (.getfield 103, 3) := by decide +kernel
theorem dX10_least_63 : decode cX10_least 63 = .ok (.iload 4, 2) := by decide +kernel
theorem dX10_least_65 : decode cX10_least 65 = .ok (.iload 5, 2) := by decide +kernel
theorem dX10_least_67 : decode cX10_least 67 = .ok (.iastore, 1) := by decide +kernel
theorem dX10_least_68 : decode cX10_least 68 = .ok (.iinc 4 1, 3) := by decide +kernel
theorem dX10_least_71 : decode cX10_least 71 = .ok (.iinc 5 1, 3) := by decide +kernel
theorem dX10_least_74 : decode cX10_least 74 = .ok (.goto (-45), 3) := by decide +kernel
theorem dX10_least_77 : decode cX10_least 77 = .ok (.iconst 1, 1) := by decide +kernel
theorem dX10_least_78 : decode cX10_least 78 = .ok (.istore 5, 2) := by decide +kernel
theorem dX10_least_80 : decode cX10_least 80 = .ok (.iconst 0, 1) := by decide +kernel
theorem dX10_least_81 : decode cX10_least 81 = .ok (.istore 6, 2) := by decide +kernel
theorem dX10_least_83 : decode cX10_least 83 = .ok (.iload 6, 2) := by decide +kernel
theorem dX10_least_85 : decode cX10_least 85 = .ok (.iload 4, 2) := by decide +kernel
theorem dX10_least_87 : decode cX10_least 87 = .ok (.if_icmp .ge 16, 3) := by decide +kernel
theorem dX10_least_90 : decode cX10_least 90 = .ok (.iload 5, 2) := by decide +kernel
theorem dX10_least_92 : decode cX10_least 92 = .ok (.iload 4, 2) := by decide +kernel
theorem dX10_least_94 : decode cX10_least 94 = .ok (.imul, 1) := by decide +kernel
theorem dX10_least_95 : decode cX10_least 95 = .ok (.istore 5, 2) := by decide +kernel
theorem dX10_least_97 : decode cX10_least 97 = .ok (.iinc 6 1, 3) := by decide +kernel
theorem dX10_least_100 : decode cX10_least 100 = .ok (.goto (-17), 3) := by decide +kernel
theorem dX10_least_103 : decode cX10_least 103 = .ok (.iconst (-1), 1) := by decide +kernel
theorem dX10_least_104 : decode cX10_least 104 = .ok (.istore 6, 2) := by decide +kernel
theorem dX10_least_106 : decode cX10_least 106 = .ok (.iconst 0, 1) := by decide +kernel
theorem dX10_least_107 : decode cX10_least 107 = .ok (.istore 7, 2) := by decide +kernel
theorem dX10_least_109 : decode cX10_least 109 = .ok (.iload 7, 2) := by decide +kernel
theorem dX10_least_111 : decode cX10_least 111 = .ok (.iload 5, 2) := by decide +kernel
theorem dX10_least_113 : decode cX10_least 113 = .ok (.if_icmp .ge 212, 3) := by decide +kernel
theorem dX10_least_116 : decode cX10_least 116 = .ok (.iload 7, 2) := by decide +kernel
theorem dX10_least_118 : decode cX10_least 118 = .ok (.istore 8, 2) := by decide +kernel
theorem dX10_least_120 : decode cX10_least 120 = .ok (.iconst 0, 1) := by decide +kernel
theorem dX10_least_121 : decode cX10_least 121 = .ok (.istore 9, 2) := by decide +kernel
theorem dX10_least_123 : decode cX10_least 123 = .ok (.iload 4, 2) := by decide +kernel
theorem dX10_least_125 : decode cX10_least 125 = .ok (.iconst 1, 1) := by decide +kernel
theorem dX10_least_126 : decode cX10_least 126 = .ok (.isub, 1) := by decide +kernel
theorem dX10_least_127 : decode cX10_least 127 = .ok (.istore 10, 2) := by decide +kernel
theorem dX10_least_129 : decode cX10_least 129 = .ok (.iload 10, 2) := by decide +kernel
theorem dX10_least_131 : decode cX10_least 131 = .ok (.ifCond .lt 47, 3) := by decide +kernel
theorem dX10_least_134 : decode cX10_least 134 = .ok (.aload_n 0, 1) := by decide +kernel
theorem dX10_least_135 : decode cX10_least 135 = .ok (.getfield 106, 3) := by decide +kernel
theorem dX10_least_138 : decode cX10_least 138 = .ok (.iload 10, 2) := by decide +kernel
theorem dX10_least_140 : decode cX10_least 140 = .ok (.aload_n 0, 1) := by decide +kernel
theorem dX10_least_141 : decode cX10_least 141 = .ok (.getfield 103, 3) := by decide +kernel
theorem dX10_least_144 : decode cX10_least 144 = .ok (.iload 8, 2) := by decide +kernel
theorem dX10_least_146 : decode cX10_least 146 = .ok (.iload 4, 2) := by decide +kernel
theorem dX10_least_148 : decode cX10_least 148 = .ok (.irem, 1) := by decide +kernel
theorem dX10_least_149 : decode cX10_least 149 = .ok (.iaload, 1) := by decide +kernel
theorem dX10_least_150 : decode cX10_least 150 = .ok (.iastore, 1) := by decide +kernel
theorem dX10_least_151 : decode cX10_least 151 = .ok (.iload 9, 2) := by decide +kernel
theorem dX10_least_153 : decode cX10_least 153 = .ok (.iconst 1, 1) := by decide +kernel
theorem dX10_least_154 : decode cX10_least 154 = .ok (.aload_n 0, 1) := by decide +kernel
theorem dX10_least_155 : decode cX10_least 155 = .ok (.getfield 106, 3) := by decide +kernel
theorem dX10_least_158 : decode cX10_least 158 = .ok (.iload 10, 2) := by decide +kernel
theorem dX10_least_160 : decode cX10_least 160 = .ok (.iaload, 1) := by decide +kernel
theorem dX10_least_161 : decode cX10_least 161 = .ok (.ishl, 1) := by decide +kernel
theorem dX10_least_162 : decode cX10_least 162 = .ok (.ior, 1) := by decide +kernel
theorem dX10_least_163 : decode cX10_least 163 = .ok (.istore 9, 2) := by decide +kernel
theorem dX10_least_165 : decode cX10_least 165 = .ok (.iload 8, 2) := by decide +kernel
theorem dX10_least_167 : decode cX10_least 167 = .ok (.iload 4, 2) := by decide +kernel
theorem dX10_least_169 : decode cX10_least 169 = .ok (.idiv, 1) := by decide +kernel
theorem dX10_least_170 : decode cX10_least 170 = .ok (.istore 8, 2) := by decide +kernel
theorem dX10_least_172 : decode cX10_least 172 = .ok (.iinc 10 (-1), 3) := by decide +kernel
theorem dX10_least_175 : decode cX10_least 175 = .ok (.goto (-46), 3) := by decide +kernel
theorem dX10_least_178 : decode cX10_least 178 = .ok (.iload 9, 2) := by decide +kernel
theorem dX10_least_180 : decode cX10_least 180 = .ok (.iload_n 1, 1) := by decide +kernel
theorem dX10_least_181 : decode cX10_least 181 = .ok (.if_icmp .eq 6, 3) := by decide +kernel
theorem dX10_least_184 : decode cX10_least 184 = .ok (.goto 135, 3) := by decide +kernel
theorem dX10_least_187 : decode cX10_least 187 = .ok (.aload_n 0, 1) := by decide +kernel
theorem dX10_least_188 : decode cX10_least 188 = .ok (.getfield 144, 3) := by decide +kernel
theorem dX10_least_191 : decode cX10_least 191 = .ok (.istore 10, 2) := by decide +kernel
theorem dX10_least_193 : decode cX10_least 193 = .ok (.iconst 0, 1) := by decide +kernel
theorem dX10_least_194 : decode cX10_least 194 = .ok (.istore 11, 2) := by decide +kernel
theorem dX10_least_196 : decode cX10_least 196 = .ok (.iconst 0, 1) := by decide +kernel
theorem dX10_least_197 : decode cX10_least 197 = .ok (.istore 12, 2) := by decide +kernel
theorem dX10_least_199 : decode cX10_least 199 = .ok (.iload 12, 2) := by decide +kernel
theorem dX10_least_201 : decode cX10_least 201 = .ok (.iload 4, 2) := by decide +kernel
theorem dX10_least_203 : decode cX10_least 203 = .ok (.if_icmp .ge 66, 3) := by decide +kernel
theorem dX10_least_206 : decode cX10_least 206 = .ok (.iload 10, 2) := by decide +kernel
theorem dX10_least_208 : decode cX10_least 208 = .ok (.aload_n 0, 1) := by decide +kernel
theorem dX10_least_209 : decode cX10_least 209 = .ok (.getfield 32, 3) := by decide +kernel
theorem dX10_least_212 : decode cX10_least 212 = .ok (.aload_n 0, 1) := by decide +kernel
theorem dX10_least_213 : decode cX10_least 213 = .ok (.getfield 106, 3) := by decide +kernel
theorem dX10_least_216 : decode cX10_least 216 = .ok (.iload 12, 2) := by decide +kernel
theorem dX10_least_218 : decode cX10_least 218 = .ok (.iaload, 1) := by decide +kernel
theorem dX10_least_219 : decode cX10_least 219 = .ok (.iaload, 1) := by decide +kernel
theorem dX10_least_220 : decode cX10_least 220 = .ok (.aload_n 0, 1) := by decide +kernel
theorem dX10_least_221 : decode cX10_least 221 = .ok (.getfield 13, 3) := by decide +kernel
theorem dX10_least_224 : decode cX10_least 224 = .ok (.iload_n 2, 1) := by decide +kernel
theorem dX10_least_225 : decode cX10_least 225 = .ok (.iaload, 1) := by decide +kernel
theorem dX10_least_226 : decode cX10_least 226 = .ok (.iadd, 1) := by decide +kernel
theorem dX10_least_227 : decode cX10_least 227 = .ok (.iconst 1, 1) := by decide +kernel
theorem dX10_least_228 : decode cX10_least 228 = .ok (.isub, 1) := by decide +kernel
theorem dX10_least_229 : decode cX10_least 229 = .ok (.aload_n 0, 1) := by decide +kernel
theorem dX10_least_230 : decode cX10_least 230 = .ok (.getfield 13, 3) := by decide +kernel
theorem dX10_least_233 : decode cX10_least 233 = .ok (.iload_n 2, 1) := by decide +kernel
theorem dX10_least_234 : decode cX10_least 234 = .ok (.iaload, 1) := by decide +kernel
theorem dX10_least_235 : decode cX10_least 235 = .ok (.idiv, 1) := by decide +kernel
theorem dX10_least_236 : decode cX10_least 236 = .ok (.iadd, 1) := by decide +kernel
theorem dX10_least_237 : decode cX10_least 237 = .ok (.istore 10, 2) := by decide +kernel
theorem dX10_least_239 : decode cX10_least 239 = .ok (.iload 11, 2) := by decide +kernel
theorem dX10_least_241 : decode cX10_least 241 = .ok (.iconst 0, 1) := by decide +kernel
theorem dX10_least_242 : decode cX10_least 242 = .ok (.iload 10, 2) := by decide +kernel
theorem dX10_least_244 : decode cX10_least 244 = .ok (.aload_n 0, 1) := by decide +kernel
theorem dX10_least_245 : decode cX10_least 245 = .ok (.getfield 53, 3) := by decide +kernel
theorem dX10_least_248 : decode cX10_least 248 = .ok (.aload_n 0, 1) := by decide +kernel
theorem dX10_least_249 : decode cX10_least 249 = .ok (.getfield 106, 3) := by decide +kernel
theorem dX10_least_252 : decode cX10_least 252 = .ok (.iload 12, 2) := by decide +kernel
theorem dX10_least_254 : decode cX10_least 254 = .ok (.iaload, 1) := by decide +kernel
theorem dX10_least_255 : decode cX10_least 255 = .ok (.iaload, 1) := by decide +kernel
theorem dX10_least_256 : decode cX10_least 256 = .ok (.isub, 1) := by decide +kernel
theorem dX10_least_257 : decode cX10_least 257 = .ok (.invokestatic 118, 3) := by decide +kernel
theorem dX10_least_260 : decode cX10_least 260 = .ok (.iadd, 1) := by decide +kernel
theorem dX10_least_261 : decode cX10_least 261 = .ok (.istore 11, 2) := by decide +kernel
theorem dX10_least_263 : decode cX10_least 263 = .ok (.iinc 12 1, 3) := by decide +kernel
theorem dX10_least_266 : decode cX10_least 266 = .ok (.goto (-67), 3) := by decide +kernel
theorem dX10_least_269 : decode cX10_least 269 = .ok (.iload 6, 2) := by decide +kernel
theorem dX10_least_271 : decode cX10_least 271 = .ok (.iconst (-1), 1) := by decide +kernel
theorem dX10_least_272 : decode cX10_least 272 = .ok (.if_icmp .eq 13, 3) := by decide +kernel
theorem dX10_least_275 : decode cX10_least 275 = .ok (.iload 11, 2) := by decide +kernel
theorem dX10_least_277 : decode cX10_least 277 = .ok (.iload 6, 2) := by decide +kernel
theorem dX10_least_279 : decode cX10_least 279 = .ok (.if_icmp .lt 6, 3) := by decide +kernel
theorem dX10_least_282 : decode cX10_least 282 = .ok (.goto 37, 3) := by decide +kernel
theorem dX10_least_285 : decode cX10_least 285 = .ok (.iload 11, 2) := by decide +kernel
theorem dX10_least_287 : decode cX10_least 287 = .ok (.istore 6, 2) := by decide +kernel
theorem dX10_least_289 : decode cX10_least 289 = .ok (.iconst 0, 1) := by decide +kernel
theorem dX10_least_290 : decode cX10_least 290 = .ok (.istore 12, 2) := by decide +kernel
theorem dX10_least_292 : decode cX10_least 292 = .ok (.iload 12, 2) := by decide +kernel
theorem dX10_least_294 : decode cX10_least 294 = .ok (.iload 4, 2) := by decide +kernel
theorem dX10_least_296 : decode cX10_least 296 = .ok (.if_icmp .ge 23, 3) := by decide +kernel
theorem dX10_least_299 : decode cX10_least 299 = .ok (.aload_n 0, 1) := by decide +kernel
theorem dX10_least_300 : decode cX10_least 300 = .ok (.getfield 109, 3) := by decide +kernel
theorem dX10_least_303 : decode cX10_least 303 = .ok (.iload 12, 2) := by decide +kernel
theorem dX10_least_305 : decode cX10_least 305 = .ok (.aload_n 0, 1) := by decide +kernel
theorem dX10_least_306 : decode cX10_least 306 = .ok (.getfield 106, 3) := by decide +kernel
theorem dX10_least_309 : decode cX10_least 309 = .ok (.iload 12, 2) := by decide +kernel
theorem dX10_least_311 : decode cX10_least 311 = .ok (.iaload, 1) := by decide +kernel
theorem dX10_least_312 : decode cX10_least 312 = .ok (.iastore, 1) := by decide +kernel
theorem dX10_least_313 : decode cX10_least 313 = .ok (.iinc 12 1, 3) := by decide +kernel
theorem dX10_least_316 : decode cX10_least 316 = .ok (.goto (-24), 3) := by decide +kernel
theorem dX10_least_319 : decode cX10_least 319 = .ok (.iinc 7 1, 3) := by decide +kernel
theorem dX10_least_322 : decode cX10_least 322 = .ok (.goto (-213), 3) := by decide +kernel
theorem dX10_least_325 : decode cX10_least 325 = .ok (.iload_n 3, 1) := by decide +kernel
theorem dX10_least_326 : decode cX10_least 326 = .ok (.iconst (-1), 1) := by decide +kernel
theorem dX10_least_327 : decode cX10_least 327 = .ok (.if_icmp .ne 8, 3) := by decide +kernel
theorem dX10_least_330 : decode cX10_least 330 = .ok (.iload 6, 2) := by decide +kernel
theorem dX10_least_332 : decode cX10_least 332 = .ok (.goto 25, 3) := by decide +kernel
theorem dX10_least_335 : decode cX10_least 335 = .ok (.iload_n 3, 1) := by decide +kernel
theorem dX10_least_336 : decode cX10_least 336 = .ok (.iconst 0, 1) := by decide +kernel
theorem dX10_least_337 : decode cX10_least 337 = .ok (.iload 4, 2) := by decide +kernel
theorem dX10_least_339 : decode cX10_least 339 = .ok (.iconst 1, 1) := by decide +kernel
theorem dX10_least_340 : decode cX10_least 340 = .ok (.isub, 1) := by decide +kernel
theorem dX10_least_341 : decode cX10_least 341 = .ok (.invokestatic 124, 3) := by decide +kernel
theorem dX10_least_344 : decode cX10_least 344 = .ok (.ifCond .eq 12, 3) := by decide +kernel
theorem dX10_least_347 : decode cX10_least 347 = .ok (.aload_n 0, 1) := by decide +kernel
theorem dX10_least_348 : decode cX10_least 348 = .ok (.getfield 109, 3) := by decide +kernel
theorem dX10_least_351 : decode cX10_least 351 = .ok (.iload_n 3, 1) := by decide +kernel
theorem dX10_least_352 : decode cX10_least 352 = .ok (.iaload, 1) := by decide +kernel
theorem dX10_least_353 : decode cX10_least 353 = .ok (.goto 4, 3) := by decide +kernel
theorem dX10_least_356 : decode cX10_least 356 = .ok (.iconst (-1), 1) := by decide +kernel
theorem dX10_least_357 : decode cX10_least 357 = .ok (.ireturn, 1) := by decide +kernel
set_option maxRecDepth 20000 in
theorem ggX10_count_X10_one : GoodIn wsX10_count wsX10_one := goodIn_r _ [11] (by decide +kernel) (by decide +kernel)
set_option maxRecDepth 20000 in
theorem gX10_count_X10_one : GoodIn wsX10_count (va_wsS RX10 234 yX10_one wsX10_one) := goodIn_app (goodIn_of _ (by decide +kernel)) ggX10_count_X10_one
theorem dX10_count_0 : decode cX10_count 0 = .ok (.iconst 0, 1) := by decide +kernel
theorem dX10_count_1 : decode cX10_count 1 = .ok (.istore_n 2, 1) := by decide +kernel
theorem dX10_count_2 : decode cX10_count 2 = .ok (.iload_n 1, 1) := by decide +kernel
theorem dX10_count_3 : decode cX10_count 3 = .ok (.tableswitch 110 0 6 #[41, 46, 51, 56, 61, 66, 105], 41) := by decide +kernel
theorem dX10_count_44 : decode cX10_count 44 = .ok (.aload_n 0, 1) := by decide +kernel
theorem dX10_count_45 : decode cX10_count 45 = .ok (.getfield 144, 3) := by decide +kernel
theorem dX10_count_48 : decode cX10_count 48 = .ok (.ireturn, 1) := by decide +kernel
theorem dX10_count_49 : decode cX10_count 49 = .ok (.aload_n 0, 1) := by decide +kernel
theorem dX10_count_50 : decode cX10_count 50 = .ok (.getfield 128, 3) := by decide +kernel
theorem dX10_count_53 : decode cX10_count 53 = .ok (.ireturn, 1) := by decide +kernel
theorem dX10_count_54 : decode cX10_count 54 = .ok (.aload_n 0, 1) := by decide +kernel
theorem dX10_count_55 : decode cX10_count 55 = .ok (.getfield 138, 3) := by decide +kernel
theorem dX10_count_58 : decode cX10_count 58 = .ok (.ireturn, 1) := by decide +kernel
theorem dX10_count_59 : decode cX10_count 59 = .ok (.aload_n 0, 1) := by decide +kernel
theorem dX10_count_60 : decode cX10_count 60 = .ok (.getfield 202, 3) := by decide +kernel
theorem dX10_count_63 : decode cX10_count 63 = .ok (.ireturn, 1) := by decide +kernel
theorem dX10_count_64 : decode cX10_count 64 = .ok (.aload_n 0, 1) := by decide +kernel
theorem dX10_count_65 : decode cX10_count 65 = .ok (.getfield 150, 3) := by decide +kernel
theorem dX10_count_68 : decode cX10_count 68 = .ok (.ireturn, 1) := by decide +kernel
theorem dX10_count_69 : decode cX10_count 69 = .ok (.iconst 0, 1) := by decide +kernel
theorem dX10_count_70 : decode cX10_count 70 = .ok (.istore_n 3, 1) := by decide +kernel
theorem dX10_count_71 : decode cX10_count 71 = .ok (.iload_n 3, 1) := by decide +kernel
theorem dX10_count_72 : decode cX10_count 72 = .ok (.aload_n 0, 1) := by decide +kernel
theorem dX10_count_73 : decode cX10_count 73 = .ok (.getfield 128, 3) := by decide +kernel
theorem dX10_count_76 : decode cX10_count 76 = .ok (.if_icmp .ge 30, 3) := by decide +kernel
theorem dX10_count_79 : decode cX10_count 79 = .ok (.iload_n 2, 1) := by decide +kernel
theorem dX10_count_80 : decode cX10_count 80 = .ok (.aload_n 0, 1) := by decide +kernel
theorem dX10_count_81 : decode cX10_count 81 = .ok (.getfield 47, 3) := by decide +kernel
theorem dX10_count_84 : decode cX10_count 84 = .ok (.iload_n 3, 1) := by decide +kernel
theorem dX10_count_85 : decode cX10_count 85 = .ok (.iaload, 1) := by decide +kernel
theorem dX10_count_86 : decode cX10_count 86 = .ok (.iconst (-1), 1) := by decide +kernel
theorem dX10_count_87 : decode cX10_count 87 = .ok (.if_icmp .eq 7, 3) := by decide +kernel
theorem dX10_count_90 : decode cX10_count 90 = .ok (.iconst 1, 1) := by decide +kernel
theorem dX10_count_91 : decode cX10_count 91 = .ok (.goto 4, 3) := by decide +kernel
theorem dX10_count_94 : decode cX10_count 94 = .ok (.iconst 0, 1) := by decide +kernel
theorem dX10_count_95 : decode cX10_count 95 = .ok (.invokestatic 234, 3) := by decide +kernel
theorem dX10_count_98 : decode cX10_count 98 = .ok (.iadd, 1) := by decide +kernel
theorem dX10_count_99 : decode cX10_count 99 = .ok (.istore_n 2, 1) := by decide +kernel
theorem dX10_count_100 : decode cX10_count 100 = .ok (.iinc 3 1, 3) := by decide +kernel
theorem dX10_count_103 : decode cX10_count 103 = .ok (.goto (-32), 3) := by decide +kernel
theorem dX10_count_106 : decode cX10_count 106 = .ok (.iload_n 2, 1) := by decide +kernel
theorem dX10_count_107 : decode cX10_count 107 = .ok (.ireturn, 1) := by decide +kernel
theorem dX10_count_108 : decode cX10_count 108 = .ok (.aload_n 0, 1) := by decide +kernel
theorem dX10_count_109 : decode cX10_count 109 = .ok (.getfield 121, 3) := by decide +kernel
theorem dX10_count_112 : decode cX10_count 112 = .ok (.ireturn, 1) := by decide +kernel
theorem dX10_count_113 : decode cX10_count 113 = .ok (.iconst (-1), 1) := by decide +kernel
theorem dX10_count_114 : decode cX10_count 114 = .ok (.ireturn, 1) := by decide +kernel
theorem dJ6_bitCount_0f7a4_0 : decode cJ6_bitCount_0f7a4 0 = .ok (.iload_n 0, 1) := by decide +kernel
theorem dJ6_bitCount_0f7a4_1 : decode cJ6_bitCount_0f7a4 1 = .ok (.iload_n 0, 1) := by decide +kernel
theorem dJ6_bitCount_0f7a4_2 : decode cJ6_bitCount_0f7a4 2 = .ok (.iconst 1, 1) := by decide +kernel
theorem dJ6_bitCount_0f7a4_3 : decode cJ6_bitCount_0f7a4 3 = .ok (.iushr, 1) := by decide +kernel
theorem dJ6_bitCount_0f7a4_4 : decode cJ6_bitCount_0f7a4 4 = .ok (.ldc_w 265, 3) := by decide +kernel
theorem dJ6_bitCount_0f7a4_7 : decode cJ6_bitCount_0f7a4 7 = .ok (.iand, 1) := by decide +kernel
theorem dJ6_bitCount_0f7a4_8 : decode cJ6_bitCount_0f7a4 8 = .ok (.isub, 1) := by decide +kernel
theorem dJ6_bitCount_0f7a4_9 : decode cJ6_bitCount_0f7a4 9 = .ok (.istore_n 0, 1) := by decide +kernel
theorem dJ6_bitCount_0f7a4_10 : decode cJ6_bitCount_0f7a4 10 = .ok (.iload_n 0, 1) := by decide +kernel
theorem dJ6_bitCount_0f7a4_11 : decode cJ6_bitCount_0f7a4 11 = .ok (.ldc_w 266, 3) := by decide +kernel
theorem dJ6_bitCount_0f7a4_14 : decode cJ6_bitCount_0f7a4 14 = .ok (.iand, 1) := by decide +kernel
theorem dJ6_bitCount_0f7a4_15 : decode cJ6_bitCount_0f7a4 15 = .ok (.iload_n 0, 1) := by decide +kernel
theorem dJ6_bitCount_0f7a4_16 : decode cJ6_bitCount_0f7a4 16 = .ok (.iconst 2, 1) := by decide +kernel
theorem dJ6_bitCount_0f7a4_17 : decode cJ6_bitCount_0f7a4 17 = .ok (.iushr, 1) := by decide +kernel
theorem dJ6_bitCount_0f7a4_18 : decode cJ6_bitCount_0f7a4 18 = .ok (.ldc_w 266, 3) := by decide +kernel
theorem dJ6_bitCount_0f7a4_21 : decode cJ6_bitCount_0f7a4 21 = .ok (.iand, 1) := by decide +kernel
theorem dJ6_bitCount_0f7a4_22 : decode cJ6_bitCount_0f7a4 22 = .ok (.iadd, 1) := by decide +kernel
theorem dJ6_bitCount_0f7a4_23 : decode cJ6_bitCount_0f7a4 23 = .ok (.istore_n 0, 1) := by decide +kernel
theorem dJ6_bitCount_0f7a4_24 : decode cJ6_bitCount_0f7a4 24 = .ok (.iload_n 0, 1) := by decide +kernel
theorem dJ6_bitCount_0f7a4_25 : decode cJ6_bitCount_0f7a4 25 = .ok (.iload_n 0, 1) := by decide +kernel
theorem dJ6_bitCount_0f7a4_26 : decode cJ6_bitCount_0f7a4 26 = .ok (.iconst 4, 1) := by decide +kernel
theorem dJ6_bitCount_0f7a4_27 : decode cJ6_bitCount_0f7a4 27 = .ok (.iushr, 1) := by decide +kernel
theorem dJ6_bitCount_0f7a4_28 : decode cJ6_bitCount_0f7a4 28 = .ok (.iadd, 1) := by decide +kernel
theorem dJ6_bitCount_0f7a4_29 : decode cJ6_bitCount_0f7a4 29 = .ok (.ldc_w 267, 3) := by decide +kernel
theorem dJ6_bitCount_0f7a4_32 : decode cJ6_bitCount_0f7a4 32 = .ok (.iand, 1) := by decide +kernel
theorem dJ6_bitCount_0f7a4_33 : decode cJ6_bitCount_0f7a4 33 = .ok (.istore_n 0, 1) := by decide +kernel
theorem dJ6_bitCount_0f7a4_34 : decode cJ6_bitCount_0f7a4 34 = .ok (.iload_n 0, 1) := by decide +kernel
theorem dJ6_bitCount_0f7a4_35 : decode cJ6_bitCount_0f7a4 35 = .ok (.iload_n 0, 1) := by decide +kernel
theorem dJ6_bitCount_0f7a4_36 : decode cJ6_bitCount_0f7a4 36 = .ok (.bipush 8, 2) := by decide +kernel
theorem dJ6_bitCount_0f7a4_38 : decode cJ6_bitCount_0f7a4 38 = .ok (.iushr, 1) := by decide +kernel
theorem dJ6_bitCount_0f7a4_39 : decode cJ6_bitCount_0f7a4 39 = .ok (.iadd, 1) := by decide +kernel
theorem dJ6_bitCount_0f7a4_40 : decode cJ6_bitCount_0f7a4 40 = .ok (.istore_n 0, 1) := by decide +kernel
theorem dJ6_bitCount_0f7a4_41 : decode cJ6_bitCount_0f7a4 41 = .ok (.iload_n 0, 1) := by decide +kernel
theorem dJ6_bitCount_0f7a4_42 : decode cJ6_bitCount_0f7a4 42 = .ok (.iload_n 0, 1) := by decide +kernel
theorem dJ6_bitCount_0f7a4_43 : decode cJ6_bitCount_0f7a4 43 = .ok (.bipush 16, 2) := by decide +kernel
theorem dJ6_bitCount_0f7a4_45 : decode cJ6_bitCount_0f7a4 45 = .ok (.iushr, 1) := by decide +kernel
theorem dJ6_bitCount_0f7a4_46 : decode cJ6_bitCount_0f7a4 46 = .ok (.iadd, 1) := by decide +kernel
theorem dJ6_bitCount_0f7a4_47 : decode cJ6_bitCount_0f7a4 47 = .ok (.istore_n 0, 1) := by decide +kernel
theorem dJ6_bitCount_0f7a4_48 : decode cJ6_bitCount_0f7a4 48 = .ok (.iload_n 0, 1) := by decide +kernel
theorem dJ6_bitCount_0f7a4_49 : decode cJ6_bitCount_0f7a4 49 = .ok (.bipush 63, 2) := by decide +kernel
theorem dJ6_bitCount_0f7a4_51 : decode cJ6_bitCount_0f7a4 51 = .ok (.iand, 1) := by decide +kernel
theorem dJ6_bitCount_0f7a4_52 : decode cJ6_bitCount_0f7a4 52 = .ok (.ireturn, 1) := by decide +kernel
theorem dJ9_max_7cf53_0 : decode cJ9_max_7cf53 0 = .ok (.iload_n 0, 1) := by decide +kernel
theorem dJ9_max_7cf53_1 : decode cJ9_max_7cf53 1 = .ok (.iload_n 1, 1) := by decide +kernel
theorem dJ9_max_7cf53_2 : decode cJ9_max_7cf53 2 = .ok (.if_icmp .lt 7, 3) := by decide +kernel
theorem dJ9_max_7cf53_5 : decode cJ9_max_7cf53 5 = .ok (.iload_n 0, 1) := by decide +kernel
theorem dJ9_max_7cf53_6 : decode cJ9_max_7cf53 6 = .ok (.goto 4, 3) := by decide +kernel
theorem dJ9_max_7cf53_9 : decode cJ9_max_7cf53 9 = .ok (.iload_n 1, 1) := by decide +kernel
theorem dJ9_max_7cf53_10 : decode cJ9_max_7cf53 10 = .ok (.ireturn, 1) := by decide +kernel
theorem dJ9_min_7cf53_0 : decode cJ9_min_7cf53 0 = .ok (.iload_n 0, 1) := by decide +kernel
theorem dJ9_min_7cf53_1 : decode cJ9_min_7cf53 1 = .ok (.iload_n 1, 1) := by decide +kernel
theorem dJ9_min_7cf53_2 : decode cJ9_min_7cf53 2 = .ok (.if_icmp .gt 7, 3) := by decide +kernel
theorem dJ9_min_7cf53_5 : decode cJ9_min_7cf53 5 = .ok (.iload_n 0, 1) := by decide +kernel
theorem dJ9_min_7cf53_6 : decode cJ9_min_7cf53 6 = .ok (.goto 4, 3) := by decide +kernel
theorem dJ9_min_7cf53_9 : decode cJ9_min_7cf53 9 = .ok (.iload_n 1, 1) := by decide +kernel
theorem dJ9_min_7cf53_10 : decode cJ9_min_7cf53 10 = .ok (.ireturn, 1) := by decide +kernel
set_option maxRecDepth 20000 in
theorem ggJ0_length_8abf5_J0_coder_7d493 : GoodIn wsJ0_length_8abf5 wsJ0_coder_7d493 := goodIn_r _ [6, 7, 8] (by decide +kernel) (by decide +kernel)
set_option maxRecDepth 20000 in
theorem gJ0_length_8abf5_J0_coder_7d493 : GoodIn wsJ0_length_8abf5 (wsV RJ0 335 RJ0 yJ0_coder_7d493 wsJ0_coder_7d493) := goodIn_app (goodIn_of _ (by decide +kernel)) ggJ0_length_8abf5_J0_coder_7d493
