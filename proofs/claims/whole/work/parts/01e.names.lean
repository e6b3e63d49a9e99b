theorem dX6_tryThing_82 : decode cX6_tryThing 82 = .ok (.iconst 1, 1) := by decide +kernel
theorem dX6_tryThing_83 : decode cX6_tryThing 83 = .ok (.goto 4, 3) := by decide +kernel
theorem dX6_tryThing_86 : decode cX6_tryThing 86 = .ok (.iconst 0, 1) := by decide +kernel
theorem dX6_tryThing_87 : decode cX6_tryThing 87 = .ok (.istore 4, 2) := by decide +kernel
theorem dX6_tryThing_89 : decode cX6_tryThing 89 = .ok (.iload 4, 2) := by decide +kernel
theorem dX6_tryThing_91 : decode cX6_tryThing 91 = .ok (.ifCond .eq 10, 3) := by decide +kernel
theorem dX6_tryThing_94 : decode cX6_tryThing 94 = .ok (.aload_n 0, 1) := by decide +kernel
theorem dX6_tryThing_95 : decode cX6_tryThing 95 = .ok (.iconst 1, 1) := by decide +kernel
theorem dX6_tryThing_96 : decode cX6_tryThing 96 = .ok (.iload_n 2, 1) := by decide +kernel
theorem dX6_tryThing_97 : decode cX6_tryThing 97 = .ok (.iload_n 3, 1) := by decide +kernel
theorem dX6_tryThing_98 : decode cX6_tryThing 98 = .ok (.invokevirtual 149, 3) := by decide +kernel
theorem dX6_tryThing_101 : decode cX6_tryThing 101 = .ok (.iload 4, 2) := by decide +kernel
theorem dX6_tryThing_103 : decode cX6_tryThing 103 = .ok (.ireturn, 1) := by decide +kernel
theorem dX6_tryThing_104 : decode cX6_tryThing 104 = .ok (.aload_n 0, 1) := by decide +kernel
theorem dX6_tryThing_105 : decode cX6_tryThing 105 = .ok (.getfield 22, 3) := by decide +kernel
theorem dX6_tryThing_108 : decode cX6_tryThing 108 = .ok (.bipush 29, 2) := by decide +kernel
theorem dX6_tryThing_110 : decode cX6_tryThing 110 = .ok (.iconst 1, 1) := by decide +kernel
theorem dX6_tryThing_111 : decode cX6_tryThing 111 = .ok (.aload_n 0, 1) := by decide +kernel
theorem dX6_tryThing_112 : decode cX6_tryThing 112 = .ok (.getfield 22, 3) := by decide +kernel
theorem dX6_tryThing_115 : decode cX6_tryThing 115 = .ok (.bipush 29, 2) := by decide +kernel
theorem dX6_tryThing_117 : decode cX6_tryThing 117 = .ok (.iaload, 1) := by decide +kernel
theorem dX6_tryThing_118 : decode cX6_tryThing 118 = .ok (.isub, 1) := by decide +kernel
theorem dX6_tryThing_119 : decode cX6_tryThing 119 = .ok (.iastore, 1) := by decide +kernel
theorem dX6_tryThing_120 : decode cX6_tryThing 120 = .ok (.iload_n 2, 1) := by decide +kernel
theorem dX6_tryThing_121 : decode cX6_tryThing 121 = .ok (.ifCond .ne 11, 3) := by decide +kernel
theorem dX6_tryThing_124 : decode cX6_tryThing 124 = .ok (.iload_n 3, 1) := by decide +kernel
theorem dX6_tryThing_125 : decode cX6_tryThing 125 = .ok (.ifCond .ne 7, 3) := by decide +kernel
theorem dX6_tryThing_128 : decode cX6_tryThing 128 = .ok (.iconst 1, 1) := by decide +kernel
theorem dX6_tryThing_129 : decode cX6_tryThing 129 = .ok (.goto 4, 3) := by decide +kernel
theorem dX6_tryThing_132 : decode cX6_tryThing 132 = .ok (.iconst 0, 1) := by decide +kernel
theorem dX6_tryThing_133 : decode cX6_tryThing 133 = .ok (.ireturn, 1) := by decide +kernel
theorem dX6_tryThing_134 : decode cX6_tryThing 134 = .ok (.iload_n 2, 1) := by decide +kernel
theorem dX6_tryThing_135 : decode cX6_tryThing 135 = .ok (.ifCond .ne 29, 3) := by decide +kernel
theorem dX6_tryThing_138 : decode cX6_tryThing 138 = .ok (.aload_n 0, 1) := by decide +kernel
theorem dX6_tryThing_139 : decode cX6_tryThing 139 = .ok (.iload_n 3, 1) := by decide +kernel
theorem dX6_tryThing_140 : decode cX6_tryThing 140 = .ok (.invokevirtual 134, 3) := by decide +kernel
theorem dX6_tryThing_143 : decode cX6_tryThing 143 = .ok (.ifCond .eq 21, 3) := by decide +kernel
theorem dX6_tryThing_146 : decode cX6_tryThing 146 = .ok (.aload_n 0, 1) := by decide +kernel
theorem dX6_tryThing_147 : decode cX6_tryThing 147 = .ok (.getfield 22, 3) := by decide +kernel
theorem dX6_tryThing_150 : decode cX6_tryThing 150 = .ok (.bipush 30, 2) := by decide +kernel
theorem dX6_tryThing_152 : decode cX6_tryThing 152 = .ok (.iaload, 1) := by decide +kernel
theorem dX6_tryThing_153 : decode cX6_tryThing 153 = .ok (.iload_n 3, 1) := by decide +kernel
theorem dX6_tryThing_154 : decode cX6_tryThing 154 = .ok (.invokestatic 104, 3) := by decide +kernel
theorem dX6_tryThing_157 : decode cX6_tryThing 157 = .ok (.ifCond .ne 7, 3) := by decide +kernel
theorem dX6_tryThing_160 : decode cX6_tryThing 160 = .ok (.iconst 1, 1) := by decide +kernel
theorem dX6_tryThing_161 : decode cX6_tryThing 161 = .ok (.goto 4, 3) := by decide +kernel
theorem dX6_tryThing_164 : decode cX6_tryThing 164 = .ok (.iconst 0, 1) := by decide +kernel
theorem dX6_tryThing_165 : decode cX6_tryThing 165 = .ok (.istore 5, 2) := by decide +kernel
theorem dX6_tryThing_167 : decode cX6_tryThing 167 = .ok (.aload_n 0, 1) := by decide +kernel
theorem dX6_tryThing_168 : decode cX6_tryThing 168 = .ok (.getfield 22, 3) := by decide +kernel
theorem dX6_tryThing_171 : decode cX6_tryThing 171 = .ok (.bipush 30, 2) := by decide +kernel
theorem dX6_tryThing_173 : decode cX6_tryThing 173 = .ok (.dup2, 1) := by decide +kernel
theorem dX6_tryThing_174 : decode cX6_tryThing 174 = .ok (.iaload, 1) := by decide +kernel
theorem dX6_tryThing_175 : decode cX6_tryThing 175 = .ok (.iload 5, 2) := by decide +kernel
theorem dX6_tryThing_177 : decode cX6_tryThing 177 = .ok (.ifCond .eq 9, 3) := by decide +kernel
theorem dX6_tryThing_180 : decode cX6_tryThing 180 = .ok (.iconst 1, 1) := by decide +kernel
theorem dX6_tryThing_181 : decode cX6_tryThing 181 = .ok (.iload_n 3, 1) := by decide +kernel
theorem dX6_tryThing_182 : decode cX6_tryThing 182 = .ok (.ishl, 1) := by decide +kernel
theorem dX6_tryThing_183 : decode cX6_tryThing 183 = .ok (.goto 4, 3) := by decide +kernel
theorem dX6_tryThing_186 : decode cX6_tryThing 186 = .ok (.iconst 0, 1) := by decide +kernel
theorem dX6_tryThing_187 : decode cX6_tryThing 187 = .ok (.ior, 1) := by decide +kernel
theorem dX6_tryThing_188 : decode cX6_tryThing 188 = .ok (.iastore, 1) := by decide +kernel
theorem dX6_tryThing_189 : decode cX6_tryThing 189 = .ok (.iload 5, 2) := by decide +kernel
theorem dX6_tryThing_191 : decode cX6_tryThing 191 = .ok (.ireturn, 1) := by decide +kernel
theorem dX6_tryThing_192 : decode cX6_tryThing 192 = .ok (.iload_n 2, 1) := by decide +kernel
theorem dX6_tryThing_193 : decode cX6_tryThing 193 = .ok (.ifCond .ne 26, 3) := by decide +kernel
theorem dX6_tryThing_196 : decode cX6_tryThing 196 = .ok (.iload_n 3, 1) := by decide +kernel
theorem dX6_tryThing_197 : decode cX6_tryThing 197 = .ok (.invokestatic 127, 3) := by decide +kernel
theorem dX6_tryThing_200 : decode cX6_tryThing 200 = .ok (.ifCond .eq 19, 3) := by decide +kernel
theorem dX6_tryThing_203 : decode cX6_tryThing 203 = .ok (.aload_n 0, 1) := by decide +kernel
theorem dX6_tryThing_204 : decode cX6_tryThing 204 = .ok (.getfield 22, 3) := by decide +kernel
theorem dX6_tryThing_207 : decode cX6_tryThing 207 = .ok (.bipush 16, 2) := by decide +kernel
theorem dX6_tryThing_209 : decode cX6_tryThing 209 = .ok (.iload_n 3, 1) := by decide +kernel
theorem dX6_tryThing_210 : decode cX6_tryThing 210 = .ok (.iadd, 1) := by decide +kernel
theorem dX6_tryThing_211 : decode cX6_tryThing 211 = .ok (.iaload, 1) := by decide +kernel
theorem dX6_tryThing_212 : decode cX6_tryThing 212 = .ok (.ifCond .le 7, 3) := by decide +kernel
theorem dX6_tryThing_215 : decode cX6_tryThing 215 = .ok (.iconst 1, 1) := by decide +kernel
theorem dX6_tryThing_216 : decode cX6_tryThing 216 = .ok (.goto 4, 3) := by decide +kernel
theorem dX6_tryThing_219 : decode cX6_tryThing 219 = .ok (.iconst 0, 1) := by decide +kernel
theorem dX6_tryThing_220 : decode cX6_tryThing 220 = .ok (.istore 6, 2) := by decide +kernel
theorem dX6_tryThing_222 : decode cX6_tryThing 222 = .ok (.iload 6, 2) := by decide +kernel
theorem dX6_tryThing_224 : decode cX6_tryThing 224 = .ok (.ifCond .eq 13, 3) := by decide +kernel
theorem dX6_tryThing_227 : decode cX6_tryThing 227 = .ok (.aload_n 0, 1) := by decide +kernel
theorem dX6_tryThing_228 : decode cX6_tryThing 228 = .ok (.getfield 22, 3) := by decide +kernel
theorem dX6_tryThing_231 : decode cX6_tryThing 231 = .ok (.bipush 16, 2) := by decide +kernel
theorem dX6_tryThing_233 : decode cX6_tryThing 233 = .ok (.iload_n 3, 1) := by decide +kernel
theorem dX6_tryThing_234 : decode cX6_tryThing 234 = .ok (.iadd, 1) := by decide +kernel
theorem dX6_tryThing_235 : decode cX6_tryThing 235 = .ok (.iconst 0, 1) := by decide +kernel
theorem dX6_tryThing_236 : decode cX6_tryThing 236 = .ok (.iastore, 1) := by decide +kernel
theorem dX6_tryThing_237 : decode cX6_tryThing 237 = .ok (.iload 6, 2) := by decide +kernel
theorem dX6_tryThing_239 : decode cX6_tryThing 239 = .ok (.ireturn, 1) := by decide +kernel
theorem dX6_tryThing_240 : decode cX6_tryThing 240 = .ok (.iload_n 2, 1) := by decide +kernel
theorem dX6_tryThing_241 : decode cX6_tryThing 241 = .ok (.invokestatic 127, 3) := by decide +kernel
theorem dX6_tryThing_244 : decode cX6_tryThing 244 = .ok (.ifCond .eq 20, 3) := by decide +kernel
theorem dX6_tryThing_247 : decode cX6_tryThing 247 = .ok (.aload_n 0, 1) := by decide +kernel
theorem dX6_tryThing_248 : decode cX6_tryThing 248 = .ok (.getfield 22, 3) := by decide +kernel
theorem dX6_tryThing_251 : decode cX6_tryThing 251 = .ok (.bipush 16, 2) := by decide +kernel
theorem dX6_tryThing_253 : decode cX6_tryThing 253 = .ok (.iload_n 2, 1) := by decide +kernel
theorem dX6_tryThing_254 : decode cX6_tryThing 254 = .ok (.iadd, 1) := by decide +kernel
theorem dX6_tryThing_255 : decode cX6_tryThing 255 = .ok (.iaload, 1) := by decide +kernel
theorem dX6_tryThing_256 : decode cX6_tryThing 256 = .ok (.iload_n 3, 1) := by decide +kernel
theorem dX6_tryThing_257 : decode cX6_tryThing 257 = .ok (.if_icmp .lt 7, 3) := by decide +kernel
theorem dX6_tryThing_260 : decode cX6_tryThing 260 = .ok (.iconst 1, 1) := by decide +kernel
theorem dX6_tryThing_261 : decode cX6_tryThing 261 = .ok (.goto 4, 3) := by decide +kernel
theorem dX6_tryThing_264 : decode cX6_tryThing 264 = .ok (.iconst 0, 1) := by decide +kernel
theorem dX6_tryThing_265 : decode cX6_tryThing 265 = .ok (.ireturn, 1) := by decide +kernel
theorem dX6_tryThing_266 : decode cX6_tryThing 266 = .ok (.iload_n 2, 1) := by decide +kernel
theorem dX6_tryThing_267 : decode cX6_tryThing 267 = .ok (.ifCond .ne 28, 3) := by decide +kernel
theorem dX6_tryThing_270 : decode cX6_tryThing 270 = .ok (.iload_n 3, 1) := by decide +kernel
theorem dX6_tryThing_271 : decode cX6_tryThing 271 = .ok (.invokestatic 127, 3) := by decide +kernel
theorem dX6_tryThing_274 : decode cX6_tryThing 274 = .ok (.ifCond .eq 21, 3) := by decide +kernel
theorem dX6_tryThing_277 : decode cX6_tryThing 277 = .ok (.aload_n 0, 1) := by decide +kernel
theorem dX6_tryThing_278 : decode cX6_tryThing 278 = .ok (.getfield 22, 3) := by decide +kernel
theorem dX6_tryThing_281 : decode cX6_tryThing 281 = .ok (.bipush 16, 2) := by decide +kernel
theorem dX6_tryThing_283 : decode cX6_tryThing 283 = .ok (.iload_n 3, 1) := by decide +kernel
theorem dX6_tryThing_284 : decode cX6_tryThing 284 = .ok (.iadd, 1) := by decide +kernel
theorem dX6_tryThing_285 : decode cX6_tryThing 285 = .ok (.iaload, 1) := by decide +kernel
theorem dX6_tryThing_286 : decode cX6_tryThing 286 = .ok (.bipush 10, 2) := by decide +kernel
theorem dX6_tryThing_288 : decode cX6_tryThing 288 = .ok (.if_icmp .lt 7, 3) := by decide +kernel
theorem dX6_tryThing_291 : decode cX6_tryThing 291 = .ok (.iconst 1, 1) := by decide +kernel
theorem dX6_tryThing_292 : decode cX6_tryThing 292 = .ok (.goto 4, 3) := by decide +kernel
theorem dX6_tryThing_295 : decode cX6_tryThing 295 = .ok (.iconst 0, 1) := by decide +kernel
theorem dX6_tryThing_296 : decode cX6_tryThing 296 = .ok (.ireturn, 1) := by decide +kernel
theorem dX6_tryThing_297 : decode cX6_tryThing 297 = .ok (.iconst 0, 1) := by decide +kernel
theorem dX6_tryThing_298 : decode cX6_tryThing 298 = .ok (.ireturn, 1) := by decide +kernel
theorem dX6_thousandTo_0 : decode cX6_thousandTo 0 = .ok (.lconst 1, 1) := by decide +kernel
theorem dX6_thousandTo_1 : decode cX6_thousandTo 1 = .ok (.lstore_n 1, 1) := by decide +kernel
theorem dX6_thousandTo_2 : decode cX6_thousandTo 2 = .ok (.iconst 0, 1) := by decide +kernel
theorem dX6_thousandTo_3 : decode cX6_thousandTo 3 = .ok (.istore_n 3, 1) := by decide +kernel
theorem dX6_thousandTo_4 : decode cX6_thousandTo 4 = .ok (.iload_n 3, 1) := by decide +kernel
theorem dX6_thousandTo_5 : decode cX6_thousandTo 5 = .ok (.iload_n 0, 1) := by decide +kernel
theorem dX6_thousandTo_6 : decode cX6_thousandTo 6 = .ok (.if_icmp .ge 15, 3) := by decide +kernel
theorem dX6_thousandTo_9 : decode cX6_thousandTo 9 = .ok (.lload_n 1, 1) := by decide +kernel
theorem dX6_thousandTo_10 : decode cX6_thousandTo 10 = .ok (.ldc2_w 171, 3) := by decide +kernel
theorem dX6_thousandTo_13 : decode cX6_thousandTo 13 = .ok (.lmul, 1) := by decide +kernel
theorem dX6_thousandTo_14 : decode cX6_thousandTo 14 = .ok (.lstore_n 1, 1) := by decide +kernel
theorem dX6_thousandTo_15 : decode cX6_thousandTo 15 = .ok (.iinc 3 1, 3) := by decide +kernel
theorem dX6_thousandTo_18 : decode cX6_thousandTo 18 = .ok (.goto (-14), 3) := by decide +kernel
theorem dX6_thousandTo_21 : decode cX6_thousandTo 21 = .ok (.lload_n 1, 1) := by decide +kernel
theorem dX6_thousandTo_22 : decode cX6_thousandTo 22 = .ok (.lreturn, 1) := by decide +kernel
set_option maxRecDepth 20000 in
theorem ggX6_judge_X6_in : GoodIn wsX6_judge wsX6_in := goodIn_r _ [6] (by decide +kernel) (by decide +kernel)
set_option maxRecDepth 20000 in
theorem gX6_judge_X6_in : GoodIn wsX6_judge (va_wsS RX6 62 yX6_in wsX6_in) := goodIn_app (goodIn_of _ (by decide +kernel)) ggX6_judge_X6_in
set_option maxRecDepth 20000 in
theorem ggX6_judge_X6_thousandTo : GoodIn wsX6_judge wsX6_thousandTo := goodIn_r _ [9, 2] (by decide +kernel) (by decide +kernel)
set_option maxRecDepth 20000 in
theorem gX6_judge_X6_thousandTo : GoodIn wsX6_judge (va_wsS RX6 175 yX6_thousandTo wsX6_thousandTo) := goodIn_app (goodIn_of _ (by decide +kernel)) ggX6_judge_X6_thousandTo
set_option maxRecDepth 20000 in
theorem ggX6_judge_X6_layTrial : GoodIn wsX6_judge wsX6_layTrial := goodIn_r _ [13, 14, 65, 66, 67, 68, 69, 70, 71, 72, 73, 74, 75, 76, 77, 78, 79, 80, 81, 82, 83, 84, 85, 86, 87, 88, 89, 90, 91] (by decide +kernel) (by decide +kernel)
set_option maxRecDepth 20000 in
theorem gX6_judge_X6_layTrial : GoodIn wsX6_judge (wsV RX6 157 RX6 yX6_layTrial wsX6_layTrial) := goodIn_app (goodIn_of _ (by decide +kernel)) ggX6_judge_X6_layTrial
set_option maxRecDepth 20000 in
theorem ggX6_judge_X6_tryThing : GoodIn wsX6_judge wsX6_tryThing := goodIn_r _ [18, 14, 19, 20, 21, 5, 22, 23, 24, 25, 26, 27, 28, 29, 30, 31, 32, 33, 34, 35, 36, 37, 38, 39, 40, 41, 42, 43, 44, 45, 46, 47, 48, 49, 50, 51, 52, 53, 54, 55, 56, 3, 4, 6, 57, 58, 59, 60, 61, 62, 63, 64, 65, 66, 67, 68, 69, 70, 71, 72, 73, 74, 75, 76, 77, 78, 79, 80, 81, 82, 83, 84, 85, 86, 87, 88, 89, 90, 91] (by decide +kernel) (by decide +kernel)
set_option maxRecDepth 20000 in
theorem gX6_judge_X6_tryThing : GoodIn wsX6_judge (wsV RX6 179 RX6 yX6_tryThing wsX6_tryThing) := goodIn_app (goodIn_of _ (by decide +kernel)) ggX6_judge_X6_tryThing
theorem dX6_judge_0 : decode cX6_judge 0 = .ok (.iload_n 1, 1) := by decide +kernel
theorem dX6_judge_1 : decode cX6_judge 1 = .ok (.i2l, 1) := by decide +kernel
theorem dX6_judge_2 : decode cX6_judge 2 = .ok (.lconst 1, 1) := by decide +kernel
theorem dX6_judge_3 : decode cX6_judge 3 = .ok (.ldc2_w 173, 3) := by decide +kernel
theorem dX6_judge_6 : decode cX6_judge 6 = .ok (.invokestatic 62, 3) := by decide +kernel
theorem dX6_judge_9 : decode cX6_judge 9 = .ok (.ifCond .eq 17, 3) := by decide +kernel
theorem dX6_judge_12 : decode cX6_judge 12 = .ok (.lload_n 2, 1) := by decide +kernel
theorem dX6_judge_13 : decode cX6_judge 13 = .ok (.lconst 0, 1) := by decide +kernel
theorem dX6_judge_14 : decode cX6_judge 14 = .ok (.iload_n 1, 1) := by decide +kernel
theorem dX6_judge_15 : decode cX6_judge 15 = .ok (.invokestatic 175, 3) := by decide +kernel
theorem dX6_judge_18 : decode cX6_judge 18 = .ok (.lconst 1, 1) := by decide +kernel
theorem dX6_judge_19 : decode cX6_judge 19 = .ok (.lsub, 1) := by decide +kernel
theorem dX6_judge_20 : decode cX6_judge 20 = .ok (.invokestatic 62, 3) := by decide +kernel
theorem dX6_judge_23 : decode cX6_judge 23 = .ok (.ifCond .ne 6, 3) := by decide +kernel
theorem dX6_judge_26 : decode cX6_judge 26 = .ok (.bipush (-2), 2) := by decide +kernel
theorem dX6_judge_28 : decode cX6_judge 28 = .ok (.ireturn, 1) := by decide +kernel
theorem dX6_judge_29 : decode cX6_judge 29 = .ok (.aload_n 0, 1) := by decide +kernel
theorem dX6_judge_30 : decode cX6_judge 30 = .ok (.invokevirtual 157, 3) := by decide +kernel
theorem dX6_judge_33 : decode cX6_judge 33 = .ok (.iconst 0, 1) := by decide +kernel
theorem dX6_judge_34 : decode cX6_judge 34 = .ok (.istore 4, 2) := by decide +kernel
theorem dX6_judge_36 : decode cX6_judge 36 = .ok (.iload 4, 2) := by decide +kernel
theorem dX6_judge_38 : decode cX6_judge 38 = .ok (.iload_n 1, 1) := by decide +kernel
theorem dX6_judge_39 : decode cX6_judge 39 = .ok (.if_icmp .ge 55, 3) := by decide +kernel
theorem dX6_judge_42 : decode cX6_judge 42 = .ok (.lload_n 2, 1) := by decide +kernel
theorem dX6_judge_43 : decode cX6_judge 43 = .ok (.iload_n 1, 1) := by decide +kernel
theorem dX6_judge_44 : decode cX6_judge 44 = .ok (.iconst 1, 1) := by decide +kernel
theorem dX6_judge_45 : decode cX6_judge 45 = .ok (.isub, 1) := by decide +kernel
theorem dX6_judge_46 : decode cX6_judge 46 = .ok (.iload 4, 2) := by decide +kernel
theorem dX6_judge_48 : decode cX6_judge 48 = .ok (.isub, 1) := by decide +kernel
theorem dX6_judge_49 : decode cX6_judge 49 = .ok (.invokestatic 175, 3) := by decide +kernel
theorem dX6_judge_52 : decode cX6_judge 52 = .ok (.ldiv, 1) := by decide +kernel
theorem dX6_judge_53 : decode cX6_judge 53 = .ok (.ldc2_w 171, 3) := by decide +kernel
theorem dX6_judge_56 : decode cX6_judge 56 = .ok (.lrem, 1) := by decide +kernel
theorem dX6_judge_57 : decode cX6_judge 57 = .ok (.l2i, 1) := by decide +kernel
theorem dX6_judge_58 : decode cX6_judge 58 = .ok (.istore 5, 2) := by decide +kernel
theorem dX6_judge_60 : decode cX6_judge 60 = .ok (.aload_n 0, 1) := by decide +kernel
theorem dX6_judge_61 : decode cX6_judge 61 = .ok (.iload 5, 2) := by decide +kernel
theorem dX6_judge_63 : decode cX6_judge 63 = .ok (.bipush 100, 2) := by decide +kernel
theorem dX6_judge_65 : decode cX6_judge 65 = .ok (.idiv, 1) := by decide +kernel
theorem dX6_judge_66 : decode cX6_judge 66 = .ok (.iload 5, 2) := by decide +kernel
theorem dX6_judge_68 : decode cX6_judge 68 = .ok (.bipush 10, 2) := by decide +kernel
theorem dX6_judge_70 : decode cX6_judge 70 = .ok (.idiv, 1) := by decide +kernel
theorem dX6_judge_71 : decode cX6_judge 71 = .ok (.bipush 10, 2) := by decide +kernel
theorem dX6_judge_73 : decode cX6_judge 73 = .ok (.irem, 1) := by decide +kernel
theorem dX6_judge_74 : decode cX6_judge 74 = .ok (.iload 5, 2) := by decide +kernel
theorem dX6_judge_76 : decode cX6_judge 76 = .ok (.bipush 10, 2) := by decide +kernel
theorem dX6_judge_78 : decode cX6_judge 78 = .ok (.irem, 1) := by decide +kernel
theorem dX6_judge_79 : decode cX6_judge 79 = .ok (.invokevirtual 179, 3) := by decide +kernel
theorem dX6_judge_82 : decode cX6_judge 82 = .ok (.ifCond .ne 6, 3) := by decide +kernel
theorem dX6_judge_85 : decode cX6_judge 85 = .ok (.iload 4, 2) := by decide +kernel
theorem dX6_judge_87 : decode cX6_judge 87 = .ok (.ireturn, 1) := by decide +kernel
theorem dX6_judge_88 : decode cX6_judge 88 = .ok (.iinc 4 1, 3) := by decide +kernel
theorem dX6_judge_91 : decode cX6_judge 91 = .ok (.goto (-55), 3) := by decide +kernel
theorem dX6_judge_94 : decode cX6_judge 94 = .ok (.bipush (-9), 2) := by decide +kernel
theorem dX6_judge_96 : decode cX6_judge 96 = .ok (.ireturn, 1) := by decide +kernel
set_option maxRecDepth 20000 in
theorem ggX6_heap_X6_in : GoodIn wsX6_heap wsX6_in := goodIn_r _ [10] (by decide +kernel) (by decide +kernel)
set_option maxRecDepth 20000 in
theorem gX6_heap_X6_in : GoodIn wsX6_heap (va_wsS RX6 62 yX6_in wsX6_in) := goodIn_app (goodIn_of _ (by decide +kernel)) ggX6_heap_X6_in
theorem dX6_heap_0 : decode cX6_heap 0 = .ok (.iload_n 1, 1) := by decide +kernel
theorem dX6_heap_1 : decode cX6_heap 1 = .ok (.i2l, 1) := by decide +kernel
theorem dX6_heap_2 : decode cX6_heap 2 = .ok (.lconst 0, 1) := by decide +kernel
theorem dX6_heap_3 : decode cX6_heap 3 = .ok (.ldc2_w 183, 3) := by decide +kernel
theorem dX6_heap_6 : decode cX6_heap 6 = .ok (.invokestatic 62, 3) := by decide +kernel
theorem dX6_heap_9 : decode cX6_heap 9 = .ok (.ifCond .eq 27, 3) := by decide +kernel
theorem dX6_heap_12 : decode cX6_heap 12 = .ok (.iload_n 2, 1) := by decide +kernel
theorem dX6_heap_13 : decode cX6_heap 13 = .ok (.i2l, 1) := by decide +kernel
theorem dX6_heap_14 : decode cX6_heap 14 = .ok (.lconst 0, 1) := by decide +kernel
theorem dX6_heap_15 : decode cX6_heap 15 = .ok (.ldc2_w 183, 3) := by decide +kernel
theorem dX6_heap_18 : decode cX6_heap 18 = .ok (.invokestatic 62, 3) := by decide +kernel
theorem dX6_heap_21 : decode cX6_heap 21 = .ok (.ifCond .eq 15, 3) := by decide +kernel
theorem dX6_heap_24 : decode cX6_heap 24 = .ok (.iload_n 3, 1) := by decide +kernel
theorem dX6_heap_25 : decode cX6_heap 25 = .ok (.i2l, 1) := by decide +kernel
theorem dX6_heap_26 : decode cX6_heap 26 = .ok (.lconst 0, 1) := by decide +kernel
theorem dX6_heap_27 : decode cX6_heap 27 = .ok (.ldc2_w 166, 3) := by decide +kernel
theorem dX6_heap_30 : decode cX6_heap 30 = .ok (.invokestatic 62, 3) := by decide +kernel
theorem dX6_heap_33 : decode cX6_heap 33 = .ok (.ifCond .ne 6, 3) := by decide +kernel
theorem dX6_heap_36 : decode cX6_heap 36 = .ok (.bipush (-2), 2) := by decide +kernel
theorem dX6_heap_38 : decode cX6_heap 38 = .ok (.ireturn, 1) := by decide +kernel
theorem dX6_heap_39 : decode cX6_heap 39 = .ok (.aload_n 0, 1) := by decide +kernel
theorem dX6_heap_40 : decode cX6_heap 40 = .ok (.getfield 185, 3) := by decide +kernel
theorem dX6_heap_43 : decode cX6_heap 43 = .ok (.bipush 6, 2) := by decide +kernel
theorem dX6_heap_45 : decode cX6_heap 45 = .ok (.if_icmp .ne 6, 3) := by decide +kernel
theorem dX6_heap_48 : decode cX6_heap 48 = .ok (.bipush (-4), 2) := by decide +kernel
theorem dX6_heap_50 : decode cX6_heap 50 = .ok (.ireturn, 1) := by decide +kernel
theorem dX6_heap_51 : decode cX6_heap 51 = .ok (.aload_n 0, 1) := by decide +kernel
theorem dX6_heap_52 : decode cX6_heap 52 = .ok (.getfield 44, 3) := by decide +kernel
theorem dX6_heap_55 : decode cX6_heap 55 = .ok (.aload_n 0, 1) := by decide +kernel
theorem dX6_heap_56 : decode cX6_heap 56 = .ok (.getfield 185, 3) := by decide +kernel
theorem dX6_heap_59 : decode cX6_heap 59 = .ok (.iload_n 1, 1) := by decide +kernel
theorem dX6_heap_60 : decode cX6_heap 60 = .ok (.iastore, 1) := by decide +kernel
theorem dX6_heap_61 : decode cX6_heap 61 = .ok (.aload_n 0, 1) := by decide +kernel
theorem dX6_heap_62 : decode cX6_heap 62 = .ok (.getfield 47, 3) := by decide +kernel
theorem dX6_heap_65 : decode cX6_heap 65 = .ok (.aload_n 0, 1) := by decide +kernel
theorem dX6_heap_66 : decode cX6_heap 66 = .ok (.getfield 185, 3) := by decide +kernel
theorem dX6_heap_69 : decode cX6_heap 69 = .ok (.iload_n 2, 1) := by decide +kernel
theorem dX6_heap_70 : decode cX6_heap 70 = .ok (.iastore, 1) := by decide +kernel
theorem dX6_heap_71 : decode cX6_heap 71 = .ok (.aload_n 0, 1) := by decide +kernel
theorem dX6_heap_72 : decode cX6_heap 72 = .ok (.getfield 50, 3) := by decide +kernel
theorem dX6_heap_75 : decode cX6_heap 75 = .ok (.aload_n 0, 1) := by decide +kernel
theorem dX6_heap_76 : decode cX6_heap 76 = .ok (.getfield 185, 3) := by decide +kernel
theorem dX6_heap_79 : decode cX6_heap 79 = .ok (.iload_n 3, 1) := by decide +kernel
theorem dX6_heap_80 : decode cX6_heap 80 = .ok (.iastore, 1) := by decide +kernel
theorem dX6_heap_81 : decode cX6_heap 81 = .ok (.aload_n 0, 1) := by decide +kernel
theorem dX6_heap_82 : decode cX6_heap 82 = .ok (.dup, 1) := by decide +kernel
theorem dX6_heap_83 : decode cX6_heap 83 = .ok (.getfield 185, 3) := by decide +kernel
theorem dX6_heap_86 : decode cX6_heap 86 = .ok (.iconst 1, 1) := by decide +kernel
theorem dX6_heap_87 : decode cX6_heap 87 = .ok (.iadd, 1) := by decide +kernel
theorem dX6_heap_88 : decode cX6_heap 88 = .ok (.putfield 185, 3) := by decide +kernel
theorem dX6_heap_91 : decode cX6_heap 91 = .ok (.aload_n 0, 1) := by decide +kernel
theorem dX6_heap_92 : decode cX6_heap 92 = .ok (.getfield 185, 3) := by decide +kernel
theorem dX6_heap_95 : decode cX6_heap 95 = .ok (.ireturn, 1) := by decide +kernel
theorem dX6_unheap_0 : decode cX6_unheap 0 = .ok (.aload_n 0, 1) := by decide +kernel
theorem dX6_unheap_1 : decode cX6_unheap 1 = .ok (.getfield 185, 3) := by decide +kernel
theorem dX6_unheap_4 : decode cX6_unheap 4 = .ok (.istore_n 1, 1) := by decide +kernel
theorem dX6_unheap_5 : decode cX6_unheap 5 = .ok (.aload_n 0, 1) := by decide +kernel
theorem dX6_unheap_6 : decode cX6_unheap 6 = .ok (.iconst 0, 1) := by decide +kernel
theorem dX6_unheap_7 : decode cX6_unheap 7 = .ok (.putfield 185, 3) := by decide +kernel
theorem dX6_unheap_10 : decode cX6_unheap 10 = .ok (.iload_n 1, 1) := by decide +kernel
theorem dX6_unheap_11 : decode cX6_unheap 11 = .ok (.ireturn, 1) := by decide +kernel
set_option maxRecDepth 20000 in
theorem ggX6_whose_X6_in : GoodIn wsX6_whose wsX6_in := goodIn_r _ [8] (by decide +kernel) (by decide +kernel)
set_option maxRecDepth 20000 in
theorem gX6_whose_X6_in : GoodIn wsX6_whose (va_wsS RX6 62 yX6_in wsX6_in) := goodIn_app (goodIn_of _ (by decide +kernel)) ggX6_whose_X6_in
theorem dX6_whose_0 : decode cX6_whose 0 = .ok (.iload_n 1, 1) := by decide +kernel
theorem dX6_whose_1 : decode cX6_whose 1 = .ok (.i2l, 1) := by decide +kernel
theorem dX6_whose_2 : decode cX6_whose 2 = .ok (.lconst 0, 1) := by decide +kernel
theorem dX6_whose_3 : decode cX6_whose 3 = .ok (.lconst 1, 1) := by decide +kernel
theorem dX6_whose_4 : decode cX6_whose 4 = .ok (.invokestatic 62, 3) := by decide +kernel
theorem dX6_whose_7 : decode cX6_whose 7 = .ok (.ifCond .ne 6, 3) := by decide +kernel
theorem dX6_whose_10 : decode cX6_whose 10 = .ok (.bipush (-2), 2) := by decide +kernel
theorem dX6_whose_12 : decode cX6_whose 12 = .ok (.ireturn, 1) := by decide +kernel
theorem dX6_whose_13 : decode cX6_whose 13 = .ok (.iconst 0, 1) := by decide +kernel
theorem dX6_whose_14 : decode cX6_whose 14 = .ok (.istore_n 2, 1) := by decide +kernel
theorem dX6_whose_15 : decode cX6_whose 15 = .ok (.bipush (-9), 2) := by decide +kernel
theorem dX6_whose_17 : decode cX6_whose 17 = .ok (.istore_n 3, 1) := by decide +kernel
theorem dX6_whose_18 : decode cX6_whose 18 = .ok (.iconst 0, 1) := by decide +kernel
theorem dX6_whose_19 : decode cX6_whose 19 = .ok (.istore 4, 2) := by decide +kernel
theorem dX6_whose_21 : decode cX6_whose 21 = .ok (.iload 4, 2) := by decide +kernel
theorem dX6_whose_23 : decode cX6_whose 23 = .ok (.bipush 18, 2) := by decide +kernel
theorem dX6_whose_25 : decode cX6_whose 25 = .ok (.if_icmp .ge 158, 3) := by decide +kernel
theorem dX6_whose_28 : decode cX6_whose 28 = .ok (.iconst 1, 1) := by decide +kernel
theorem dX6_whose_29 : decode cX6_whose 29 = .ok (.iload 4, 2) := by decide +kernel
theorem dX6_whose_31 : decode cX6_whose 31 = .ok (.bipush 9, 2) := by decide +kernel
theorem dX6_whose_33 : decode cX6_whose 33 = .ok (.irem, 1) := by decide +kernel
theorem dX6_whose_34 : decode cX6_whose 34 = .ok (.iadd, 1) := by decide +kernel
theorem dX6_whose_35 : decode cX6_whose 35 = .ok (.istore 5, 2) := by decide +kernel
theorem dX6_whose_37 : decode cX6_whose 37 = .ok (.iconst 1, 1) := by decide +kernel
theorem dX6_whose_38 : decode cX6_whose 38 = .ok (.istore 6, 2) := by decide +kernel
theorem dX6_whose_40 : decode cX6_whose 40 = .ok (.iconst 0, 1) := by decide +kernel
theorem dX6_whose_41 : decode cX6_whose 41 = .ok (.istore 7, 2) := by decide +kernel
theorem dX6_whose_43 : decode cX6_whose 43 = .ok (.iload 7, 2) := by decide +kernel
theorem dX6_whose_45 : decode cX6_whose 45 = .ok (.aload_n 0, 1) := by decide +kernel
theorem dX6_whose_46 : decode cX6_whose 46 = .ok (.getfield 185, 3) := by decide +kernel
theorem dX6_whose_49 : decode cX6_whose 49 = .ok (.if_icmp .ge 90, 3) := by decide +kernel
theorem dX6_whose_52 : decode cX6_whose 52 = .ok (.aload_n 0, 1) := by decide +kernel
theorem dX6_whose_53 : decode cX6_whose 53 = .ok (.getfield 44, 3) := by decide +kernel
theorem dX6_whose_56 : decode cX6_whose 56 = .ok (.iload 7, 2) := by decide +kernel
theorem dX6_whose_58 : decode cX6_whose 58 = .ok (.iaload, 1) := by decide +kernel
theorem dX6_whose_59 : decode cX6_whose 59 = .ok (.iload 5, 2) := by decide +kernel
theorem dX6_whose_61 : decode cX6_whose 61 = .ok (.if_icmp .ge 13, 3) := by decide +kernel
theorem dX6_whose_64 : decode cX6_whose 64 = .ok (.aload_n 0, 1) := by decide +kernel
theorem dX6_whose_65 : decode cX6_whose 65 = .ok (.getfield 44, 3) := by decide +kernel
theorem dX6_whose_68 : decode cX6_whose 68 = .ok (.iload 7, 2) := by decide +kernel
theorem dX6_whose_70 : decode cX6_whose 70 = .ok (.iaload, 1) := by decide +kernel
theorem dX6_whose_71 : decode cX6_whose 71 = .ok (.goto 5, 3) := by decide +kernel
theorem dX6_whose_74 : decode cX6_whose 74 = .ok (.iload 5, 2) := by decide +kernel
theorem dX6_whose_76 : decode cX6_whose 76 = .ok (.istore 8, 2) := by decide +kernel
theorem dX6_whose_78 : decode cX6_whose 78 = .ok (.iload 6, 2) := by decide +kernel
theorem dX6_whose_80 : decode cX6_whose 80 = .ok (.ifCond .eq 50, 3) := by decide +kernel
theorem dX6_whose_83 : decode cX6_whose 83 = .ok (.aload_n 0, 1) := by decide +kernel
theorem dX6_whose_84 : decode cX6_whose 84 = .ok (.getfield 47, 3) := by decide +kernel
theorem dX6_whose_87 : decode cX6_whose 87 = .ok (.iload 7, 2) := by decide +kernel
theorem dX6_whose_89 : decode cX6_whose 89 = .ok (.iaload, 1) := by decide +kernel
theorem dX6_whose_90 : decode cX6_whose 90 = .ok (.aload_n 0, 1) := by decide +kernel
theorem dX6_whose_91 : decode cX6_whose 91 = .ok (.getfield 44, 3) := by decide +kernel
theorem dX6_whose_94 : decode cX6_whose 94 = .ok (.iload 7, 2) := by decide +kernel
theorem dX6_whose_96 : decode cX6_whose 96 = .ok (.iaload, 1) := by decide +kernel
theorem dX6_whose_97 : decode cX6_whose 97 = .ok (.iload 8, 2) := by decide +kernel
theorem dX6_whose_99 : decode cX6_whose 99 = .ok (.isub, 1) := by decide +kernel
theorem dX6_whose_100 : decode cX6_whose 100 = .ok (.if_icmp .ne 30, 3) := by decide +kernel
theorem dX6_whose_103 : decode cX6_whose 103 = .ok (.aload_n 0, 1) := by decide +kernel
theorem dX6_whose_104 : decode cX6_whose 104 = .ok (.getfield 50, 3) := by decide +kernel
theorem dX6_whose_107 : decode cX6_whose 107 = .ok (.iload 7, 2) := by decide +kernel
theorem dX6_whose_109 : decode cX6_whose 109 = .ok (.iaload, 1) := by decide +kernel
theorem dX6_whose_110 : decode cX6_whose 110 = .ok (.iload 4, 2) := by decide +kernel
theorem dX6_whose_112 : decode cX6_whose 112 = .ok (.bipush 9, 2) := by decide +kernel
theorem dX6_whose_114 : decode cX6_whose 114 = .ok (.if_icmp .ge 7, 3) := by decide +kernel
theorem dX6_whose_117 : decode cX6_whose 117 = .ok (.iconst 0, 1) := by decide +kernel
theorem dX6_whose_118 : decode cX6_whose 118 = .ok (.goto 5, 3) := by decide +kernel
theorem dX6_whose_121 : decode cX6_whose 121 = .ok (.iload 8, 2) := by decide +kernel
theorem dX6_whose_123 : decode cX6_whose 123 = .ok (.if_icmp .ne 7, 3) := by decide +kernel
theorem dX6_whose_126 : decode cX6_whose 126 = .ok (.iconst 1, 1) := by decide +kernel
theorem dX6_whose_127 : decode cX6_whose 127 = .ok (.goto 4, 3) := by decide +kernel
theorem dX6_whose_130 : decode cX6_whose 130 = .ok (.iconst 0, 1) := by decide +kernel
theorem dX6_whose_131 : decode cX6_whose 131 = .ok (.istore 6, 2) := by decide +kernel
theorem dX6_whose_133 : decode cX6_whose 133 = .ok (.iinc 7 1, 3) := by decide +kernel
theorem dX6_whose_136 : decode cX6_whose 136 = .ok (.goto (-93), 3) := by decide +kernel
theorem dX6_whose_139 : decode cX6_whose 139 = .ok (.iload 6, 2) := by decide +kernel
theorem dX6_whose_141 : decode cX6_whose 141 = .ok (.ifCond .eq 21, 3) := by decide +kernel
theorem dX6_whose_144 : decode cX6_whose 144 = .ok (.iload_n 2, 1) := by decide +kernel
theorem dX6_whose_145 : decode cX6_whose 145 = .ok (.ifCond .ne 17, 3) := by decide +kernel
theorem dX6_whose_148 : decode cX6_whose 148 = .ok (.bipush 10, 2) := by decide +kernel
theorem dX6_whose_150 : decode cX6_whose 150 = .ok (.iload 4, 2) := by decide +kernel
theorem dX6_whose_152 : decode cX6_whose 152 = .ok (.bipush 9, 2) := by decide +kernel
theorem dX6_whose_154 : decode cX6_whose 154 = .ok (.idiv, 1) := by decide +kernel
theorem dX6_whose_155 : decode cX6_whose 155 = .ok (.imul, 1) := by decide +kernel
theorem dX6_whose_156 : decode cX6_whose 156 = .ok (.iload 5, 2) := by decide +kernel
theorem dX6_whose_158 : decode cX6_whose 158 = .ok (.iadd, 1) := by decide +kernel
theorem dX6_whose_159 : decode cX6_whose 159 = .ok (.goto 4, 3) := by decide +kernel
theorem dX6_whose_162 : decode cX6_whose 162 = .ok (.iload_n 3, 1) := by decide +kernel
theorem dX6_whose_163 : decode cX6_whose 163 = .ok (.istore_n 3, 1) := by decide +kernel
theorem dX6_whose_164 : decode cX6_whose 164 = .ok (.iload_n 2, 1) := by decide +kernel
theorem dX6_whose_165 : decode cX6_whose 165 = .ok (.iload 6, 2) := by decide +kernel
theorem dX6_whose_167 : decode cX6_whose 167 = .ok (.ifCond .eq 7, 3) := by decide +kernel
theorem dX6_whose_170 : decode cX6_whose 170 = .ok (.iconst 1, 1) := by decide +kernel
theorem dX6_whose_171 : decode cX6_whose 171 = .ok (.goto 4, 3) := by decide +kernel
theorem dX6_whose_174 : decode cX6_whose 174 = .ok (.iconst 0, 1) := by decide +kernel
theorem dX6_whose_175 : decode cX6_whose 175 = .ok (.iadd, 1) := by decide +kernel
theorem dX6_whose_176 : decode cX6_whose 176 = .ok (.istore_n 2, 1) := by decide +kernel
theorem dX6_whose_177 : decode cX6_whose 177 = .ok (.iinc 4 1, 3) := by decide +kernel
theorem dX6_whose_180 : decode cX6_whose 180 = .ok (.goto (-159), 3) := by decide +kernel
theorem dX6_whose_183 : decode cX6_whose 183 = .ok (.iload_n 1, 1) := by decide +kernel
theorem dX6_whose_184 : decode cX6_whose 184 = .ok (.ifCond .ne 7, 3) := by decide +kernel
theorem dX6_whose_187 : decode cX6_whose 187 = .ok (.iload_n 2, 1) := by decide +kernel
theorem dX6_whose_188 : decode cX6_whose 188 = .ok (.goto 4, 3) := by decide +kernel
theorem dX6_whose_191 : decode cX6_whose 191 = .ok (.iload_n 3, 1) := by decide +kernel
theorem dX6_whose_192 : decode cX6_whose 192 = .ok (.ireturn, 1) := by decide +kernel
theorem dX6_factorial_0 : decode cX6_factorial 0 = .ok (.iconst 1, 1) := by decide +kernel
theorem dX6_factorial_1 : decode cX6_factorial 1 = .ok (.istore_n 1, 1) := by decide +kernel
theorem dX6_factorial_2 : decode cX6_factorial 2 = .ok (.iconst 2, 1) := by decide +kernel
theorem dX6_factorial_3 : decode cX6_factorial 3 = .ok (.istore_n 2, 1) := by decide +kernel
theorem dX6_factorial_4 : decode cX6_factorial 4 = .ok (.iload_n 2, 1) := by decide +kernel
theorem dX6_factorial_5 : decode cX6_factorial 5 = .ok (.iload_n 0, 1) := by decide +kernel
theorem dX6_factorial_6 : decode cX6_factorial 6 = .ok (.if_icmp .gt 13, 3) := by decide +kernel
theorem dX6_factorial_9 : decode cX6_factorial 9 = .ok (.iload_n 1, 1) := by decide +kernel
theorem dX6_factorial_10 : decode cX6_factorial 10 = .ok (.iload_n 2, 1) := by decide +kernel
theorem dX6_factorial_11 : decode cX6_factorial 11 = .ok (.imul, 1) := by decide +kernel
theorem dX6_factorial_12 : decode cX6_factorial 12 = .ok (.istore_n 1, 1) := by decide +kernel
theorem dX6_factorial_13 : decode cX6_factorial 13 = .ok (.iinc 2 1, 3) := by decide +kernel
theorem dX6_factorial_16 : decode cX6_factorial 16 = .ok (.goto (-12), 3) := by decide +kernel
theorem dX6_factorial_19 : decode cX6_factorial 19 = .ok (.iload_n 1, 1) := by decide +kernel
theorem dX6_factorial_20 : decode cX6_factorial 20 = .ok (.ireturn, 1) := by decide +kernel
theorem dX6_common_0 : decode cX6_common 0 = .ok (.iload_n 0, 1) := by decide +kernel
theorem dX6_common_1 : decode cX6_common 1 = .ok (.ifCond .ge 8, 3) := by decide +kernel
theorem dX6_common_4 : decode cX6_common 4 = .ok (.iload_n 0, 1) := by decide +kernel
theorem dX6_common_5 : decode cX6_common 5 = .ok (.ineg, 1) := by decide +kernel
theorem dX6_common_6 : decode cX6_common 6 = .ok (.goto 4, 3) := by decide +kernel
theorem dX6_common_9 : decode cX6_common 9 = .ok (.iload_n 0, 1) := by decide +kernel
theorem dX6_common_10 : decode cX6_common 10 = .ok (.istore_n 2, 1) := by decide +kernel
theorem dX6_common_11 : decode cX6_common 11 = .ok (.iload_n 1, 1) := by decide +kernel
theorem dX6_common_12 : decode cX6_common 12 = .ok (.istore_n 3, 1) := by decide +kernel
theorem dX6_common_13 : decode cX6_common 13 = .ok (.iload_n 3, 1) := by decide +kernel
theorem dX6_common_14 : decode cX6_common 14 = .ok (.ifCond .eq 16, 3) := by decide +kernel
theorem dX6_common_17 : decode cX6_common 17 = .ok (.iload_n 2, 1) := by decide +kernel
theorem dX6_common_18 : decode cX6_common 18 = .ok (.iload_n 3, 1) := by decide +kernel
theorem dX6_common_19 : decode cX6_common 19 = .ok (.irem, 1) := by decide +kernel
theorem dX6_common_20 : decode cX6_common 20 = .ok (.istore 4, 2) := by decide +kernel
theorem dX6_common_22 : decode cX6_common 22 = .ok (.iload_n 3, 1) := by decide +kernel
theorem dX6_common_23 : decode cX6_common 23 = .ok (.istore_n 2, 1) := by decide +kernel
theorem dX6_common_24 : decode cX6_common 24 = .ok (.iload 4, 2) := by decide +kernel
theorem dX6_common_26 : decode cX6_common 26 = .ok (.istore_n 3, 1) := by decide +kernel
theorem dX6_common_27 : decode cX6_common 27 = .ok (.goto (-14), 3) := by decide +kernel
theorem dX6_common_30 : decode cX6_common 30 = .ok (.iload_n 2, 1) := by decide +kernel
theorem dX6_common_31 : decode cX6_common 31 = .ok (.ireturn, 1) := by decide +kernel
set_option maxRecDepth 20000 in
theorem ggX6_dustBy_X6_layTrial : GoodIn wsX6_dustBy wsX6_layTrial := goodIn_r _ [6, 7, 49, 50, 51, 52, 53, 54, 55, 56, 57, 58, 59, 60, 61, 62, 63, 64, 65, 66, 67, 68, 69, 70, 71, 72, 73, 74, 75] (by decide +kernel) (by decide +kernel)
set_option maxRecDepth 20000 in
theorem gX6_dustBy_X6_layTrial : GoodIn wsX6_dustBy (wsV RX6 157 RX6 yX6_layTrial wsX6_layTrial) := goodIn_app (goodIn_of _ (by decide +kernel)) ggX6_dustBy_X6_layTrial
set_option maxRecDepth 20000 in
theorem ggX6_dustBy_X6_goOn : GoodIn wsX6_dustBy wsX6_goOn := goodIn_r _ [11, 12, 13, 14, 5, 15, 16, 7, 17, 18, 19, 20, 21, 22, 23, 24, 25, 26, 27, 1, 28, 29, 30, 31, 32, 33, 34, 35, 36, 37, 38, 39, 40, 41, 42, 43, 44, 49, 50, 51, 52, 53, 54, 55, 56, 57, 58, 59, 60, 61, 62, 63, 64, 65, 66, 67, 68, 69, 70, 71, 72, 73, 74, 75] (by decide +kernel) (by decide +kernel)
set_option maxRecDepth 20000 in
theorem gX6_dustBy_X6_goOn : GoodIn wsX6_dustBy (wsV RX6 160 RX6 yX6_goOn wsX6_goOn) := goodIn_app (goodIn_of _ (by decide +kernel)) ggX6_dustBy_X6_goOn
set_option maxRecDepth 20000 in
theorem ggX6_dustBy_X6_dustOn : GoodIn wsX6_dustBy wsX6_dustOn := goodIn_r _ [48, 7, 49, 50, 51, 52, 53, 54, 55, 56, 57, 58, 59, 60, 61, 62, 63, 64, 65, 66, 67, 68, 69, 70, 71, 72, 73, 74, 75] (by decide +kernel) (by decide +kernel)
set_option maxRecDepth 20000 in
theorem gX6_dustBy_X6_dustOn : GoodIn wsX6_dustBy (wsV RX6 146 RX6 yX6_dustOn wsX6_dustOn) := goodIn_app (goodIn_of _ (by decide +kernel)) ggX6_dustBy_X6_dustOn
theorem dX6_dustBy_0 : decode cX6_dustBy 0 = .ok (.aload_n 0, 1) := by decide +kernel
theorem dX6_dustBy_1 : decode cX6_dustBy 1 = .ok (.iload_n 1, 1) := by decide +kernel
theorem dX6_dustBy_2 : decode cX6_dustBy 2 = .ok (.putfield 37, 3) := by decide +kernel
theorem dX6_dustBy_5 : decode cX6_dustBy 5 = .ok (.aload_n 0, 1) := by decide +kernel
theorem dX6_dustBy_6 : decode cX6_dustBy 6 = .ok (.invokevirtual 157, 3) := by decide +kernel
theorem dX6_dustBy_9 : decode cX6_dustBy 9 = .ok (.aload_n 0, 1) := by decide +kernel
theorem dX6_dustBy_10 : decode cX6_dustBy 10 = .ok (.bipush 6, 2) := by decide +kernel
theorem dX6_dustBy_12 : decode cX6_dustBy 12 = .ok (.invokevirtual 160, 3) := by decide +kernel
theorem dX6_dustBy_15 : decode cX6_dustBy 15 = .ok (.aload_n 0, 1) := by decide +kernel
theorem dX6_dustBy_16 : decode cX6_dustBy 16 = .ok (.bipush 31, 2) := by decide +kernel
theorem dX6_dustBy_18 : decode cX6_dustBy 18 = .ok (.putfield 37, 3) := by decide +kernel
theorem dX6_dustBy_21 : decode cX6_dustBy 21 = .ok (.aload_n 0, 1) := by decide +kernel
theorem dX6_dustBy_22 : decode cX6_dustBy 22 = .ok (.iconst 1, 1) := by decide +kernel
theorem dX6_dustBy_23 : decode cX6_dustBy 23 = .ok (.invokevirtual 146, 3) := by decide +kernel
theorem dX6_dustBy_26 : decode cX6_dustBy 26 = .ok (.ireturn, 1) := by decide +kernel
set_option maxRecDepth 20000 in
theorem ggX6_share_X6_isBroom : GoodIn wsX6_share wsX6_isBroom := goodIn_r _ [6, 1, 7, 8, 5, 9, 69, 70, 71, 72, 73, 74, 75, 76, 77, 78, 79, 80, 81, 82, 83, 84, 85, 86, 87, 88, 89, 90, 91, 92, 93, 94, 95] (by decide +kernel) (by decide +kernel)
set_option maxRecDepth 20000 in
theorem gX6_share_X6_isBroom : GoodIn wsX6_share (wsV RX6 134 RX6 yX6_isBroom wsX6_isBroom) := goodIn_app (goodIn_of _ (by decide +kernel)) ggX6_share_X6_isBroom
set_option maxRecDepth 20000 in
theorem ggX6_share_X6_has : GoodIn wsX6_share wsX6_has := goodIn_r _ [12] (by decide +kernel) (by decide +kernel)
set_option maxRecDepth 20000 in
theorem gX6_share_X6_has : GoodIn wsX6_share (va_wsS RX6 104 yX6_has wsX6_has) := goodIn_app (goodIn_of _ (by decide +kernel)) ggX6_share_X6_has
set_option maxRecDepth 20000 in
theorem ggX6_share_X6_ones : GoodIn wsX6_share wsX6_ones := goodIn_r _ [15] (by decide +kernel) (by decide +kernel)
set_option maxRecDepth 20000 in
theorem gX6_share_X6_ones : GoodIn wsX6_share (va_wsS RX6 152 yX6_ones wsX6_ones) := goodIn_app (goodIn_of _ (by decide +kernel)) ggX6_share_X6_ones
set_option maxRecDepth 20000 in
theorem ggX6_share_X6_factorial : GoodIn wsX6_share wsX6_factorial := goodIn_r _ [18] (by decide +kernel) (by decide +kernel)
set_option maxRecDepth 20000 in
theorem gX6_share_X6_factorial : GoodIn wsX6_share (va_wsS RX6 188 yX6_factorial wsX6_factorial) := goodIn_app (goodIn_of _ (by decide +kernel)) ggX6_share_X6_factorial
set_option maxRecDepth 20000 in
theorem ggX6_share_X6_dustBy : GoodIn wsX6_share wsX6_dustBy := goodIn_r _ [22, 23, 24, 25, 26, 5, 27, 28, 29, 30, 31, 32, 33, 34, 35, 36, 37, 38, 39, 1, 40, 41, 42, 43, 44, 45, 46, 47, 48, 49, 50, 51, 52, 53, 10, 11, 12, 54, 55, 56, 57, 58, 59, 60, 61, 62, 63, 64, 65, 69, 70, 71, 72, 73, 74, 75, 76, 77, 78, 79, 80, 81, 82, 83, 84, 85, 86, 87, 88, 89, 90, 91, 92, 93, 94, 95] (by decide +kernel) (by decide +kernel)
set_option maxRecDepth 20000 in
theorem gX6_share_X6_dustBy : GoodIn wsX6_share (wsV RX6 191 RX6 yX6_dustBy wsX6_dustBy) := goodIn_app (goodIn_of _ (by decide +kernel)) ggX6_share_X6_dustBy
set_option maxRecDepth 20000 in
theorem ggX6_share_X6_common : GoodIn wsX6_share wsX6_common := goodIn_r _ [68] (by decide +kernel) (by decide +kernel)
set_option maxRecDepth 20000 in
theorem gX6_share_X6_common : GoodIn wsX6_share (va_wsS RX6 194 yX6_common wsX6_common) := goodIn_app (goodIn_of _ (by decide +kernel)) ggX6_share_X6_common
theorem dX6_share_0 : decode cX6_share 0 = .ok (.aload_n 0, 1) := by decide +kernel
theorem dX6_share_1 : decode cX6_share 1 = .ok (.iload_n 1, 1) := by decide +kernel
theorem dX6_share_2 : decode cX6_share 2 = .ok (.invokevirtual 134, 3) := by decide +kernel
theorem dX6_share_5 : decode cX6_share 5 = .ok (.ifCond .ne 5, 3) := by decide +kernel
theorem dX6_share_8 : decode cX6_share 8 = .ok (.iconst (-1), 1) := by decide +kernel
theorem dX6_share_9 : decode cX6_share 9 = .ok (.ireturn, 1) := by decide +kernel
theorem dX6_share_10 : decode cX6_share 10 = .ok (.iconst 0, 1) := by decide +kernel
theorem dX6_share_11 : decode cX6_share 11 = .ok (.istore_n 3, 1) := by decide +kernel
theorem dX6_share_12 : decode cX6_share 12 = .ok (.iconst 0, 1) := by decide +kernel
theorem dX6_share_13 : decode cX6_share 13 = .ok (.istore 4, 2) := by decide +kernel
theorem dX6_share_15 : decode cX6_share 15 = .ok (.iload 4, 2) := by decide +kernel
theorem dX6_share_17 : decode cX6_share 17 = .ok (.iconst 1, 1) := by decide +kernel
theorem dX6_share_18 : decode cX6_share 18 = .ok (.aload_n 0, 1) := by decide +kernel
theorem dX6_share_19 : decode cX6_share 19 = .ok (.getfield 93, 3) := by decide +kernel
theorem dX6_share_22 : decode cX6_share 22 = .ok (.ishl, 1) := by decide +kernel
theorem dX6_share_23 : decode cX6_share 23 = .ok (.if_icmp .ge 67, 3) := by decide +kernel
theorem dX6_share_26 : decode cX6_share 26 = .ok (.iload 4, 2) := by decide +kernel
theorem dX6_share_28 : decode cX6_share 28 = .ok (.iload_n 1, 1) := by decide +kernel
theorem dX6_share_29 : decode cX6_share 29 = .ok (.invokestatic 104, 3) := by decide +kernel
theorem dX6_share_32 : decode cX6_share 32 = .ok (.ifCond .ne 52, 3) := by decide +kernel
theorem dX6_share_35 : decode cX6_share 35 = .ok (.iload 4, 2) := by decide +kernel
theorem dX6_share_37 : decode cX6_share 37 = .ok (.invokestatic 152, 3) := by decide +kernel
theorem dX6_share_40 : decode cX6_share 40 = .ok (.invokestatic 188, 3) := by decide +kernel
theorem dX6_share_43 : decode cX6_share 43 = .ok (.aload_n 0, 1) := by decide +kernel
theorem dX6_share_44 : decode cX6_share 44 = .ok (.getfield 93, 3) := by decide +kernel
theorem dX6_share_47 : decode cX6_share 47 = .ok (.iconst 1, 1) := by decide +kernel
theorem dX6_share_48 : decode cX6_share 48 = .ok (.isub, 1) := by decide +kernel
theorem dX6_share_49 : decode cX6_share 49 = .ok (.iload 4, 2) := by decide +kernel
theorem dX6_share_51 : decode cX6_share 51 = .ok (.invokestatic 152, 3) := by decide +kernel
theorem dX6_share_54 : decode cX6_share 54 = .ok (.isub, 1) := by decide +kernel
theorem dX6_share_55 : decode cX6_share 55 = .ok (.invokestatic 188, 3) := by decide +kernel
theorem dX6_share_58 : decode cX6_share 58 = .ok (.imul, 1) := by decide +kernel
theorem dX6_share_59 : decode cX6_share 59 = .ok (.istore 5, 2) := by decide +kernel
theorem dX6_share_61 : decode cX6_share 61 = .ok (.iload_n 3, 1) := by decide +kernel
theorem dX6_share_62 : decode cX6_share 62 = .ok (.iload 5, 2) := by decide +kernel
theorem dX6_share_64 : decode cX6_share 64 = .ok (.aload_n 0, 1) := by decide +kernel
theorem dX6_share_65 : decode cX6_share 65 = .ok (.iload 4, 2) := by decide +kernel
theorem dX6_share_67 : decode cX6_share 67 = .ok (.invokevirtual 191, 3) := by decide +kernel
theorem dX6_share_70 : decode cX6_share 70 = .ok (.aload_n 0, 1) := by decide +kernel
theorem dX6_share_71 : decode cX6_share 71 = .ok (.iload 4, 2) := by decide +kernel
theorem dX6_share_73 : decode cX6_share 73 = .ok (.iconst 1, 1) := by decide +kernel
theorem dX6_share_74 : decode cX6_share 74 = .ok (.iload_n 1, 1) := by decide +kernel
theorem dX6_share_75 : decode cX6_share 75 = .ok (.ishl, 1) := by decide +kernel
theorem dX6_share_76 : decode cX6_share 76 = .ok (.ior, 1) := by decide +kernel
theorem dX6_share_77 : decode cX6_share 77 = .ok (.invokevirtual 191, 3) := by decide +kernel
theorem dX6_share_80 : decode cX6_share 80 = .ok (.isub, 1) := by decide +kernel
theorem dX6_share_81 : decode cX6_share 81 = .ok (.imul, 1) := by decide +kernel
theorem dX6_share_82 : decode cX6_share 82 = .ok (.iadd, 1) := by decide +kernel
theorem dX6_share_83 : decode cX6_share 83 = .ok (.istore_n 3, 1) := by decide +kernel
theorem dX6_share_84 : decode cX6_share 84 = .ok (.iinc 4 1, 3) := by decide +kernel
theorem dX6_share_87 : decode cX6_share 87 = .ok (.goto (-72), 3) := by decide +kernel
theorem dX6_share_90 : decode cX6_share 90 = .ok (.iload_n 3, 1) := by decide +kernel
theorem dX6_share_91 : decode cX6_share 91 = .ok (.aload_n 0, 1) := by decide +kernel
theorem dX6_share_92 : decode cX6_share 92 = .ok (.getfield 93, 3) := by decide +kernel
theorem dX6_share_95 : decode cX6_share 95 = .ok (.invokestatic 188, 3) := by decide +kernel
theorem dX6_share_98 : decode cX6_share 98 = .ok (.invokestatic 194, 3) := by decide +kernel
theorem dX6_share_101 : decode cX6_share 101 = .ok (.istore 4, 2) := by decide +kernel
theorem dX6_share_103 : decode cX6_share 103 = .ok (.iload_n 2, 1) := by decide +kernel
theorem dX6_share_104 : decode cX6_share 104 = .ok (.ifCond .eq 10, 3) := by decide +kernel
theorem dX6_share_107 : decode cX6_share 107 = .ok (.iload_n 3, 1) := by decide +kernel
theorem dX6_share_108 : decode cX6_share 108 = .ok (.iload 4, 2) := by decide +kernel
theorem dX6_share_110 : decode cX6_share 110 = .ok (.idiv, 1) := by decide +kernel
theorem dX6_share_111 : decode cX6_share 111 = .ok (.goto 13, 3) := by decide +kernel
theorem dX6_share_114 : decode cX6_share 114 = .ok (.aload_n 0, 1) := by decide +kernel
theorem dX6_share_115 : decode cX6_share 115 = .ok (.getfield 93, 3) := by decide +kernel
theorem dX6_share_118 : decode cX6_share 118 = .ok (.invokestatic 188, 3) := by decide +kernel
theorem dX6_share_121 : decode cX6_share 121 = .ok (.iload 4, 2) := by decide +kernel
theorem dX6_share_123 : decode cX6_share 123 = .ok (.idiv, 1) := by decide +kernel
theorem dX6_share_124 : decode cX6_share 124 = .ok (.ireturn, 1) := by decide +kernel
set_option maxRecDepth 20000 in
theorem ggX6_gain_X6_layTrial : GoodIn wsX6_gain wsX6_layTrial := goodIn_r _ [7, 2, 45, 46, 47, 48, 49, 50, 51, 52, 53, 54, 55, 56, 57, 58, 59, 60, 61, 62, 63, 64, 65, 66, 67, 68, 69, 70, 71] (by decide +kernel) (by decide +kernel)
set_option maxRecDepth 20000 in
theorem gX6_gain_X6_layTrial : GoodIn wsX6_gain (wsV RX6 157 RX6 yX6_layTrial wsX6_layTrial) := goodIn_app (goodIn_of _ (by decide +kernel)) ggX6_gain_X6_layTrial
set_option maxRecDepth 20000 in
theorem ggX6_gain_X6_goOn : GoodIn wsX6_gain wsX6_goOn := goodIn_r _ [11, 12, 13, 14, 6, 15, 16, 2, 17, 18, 19, 20, 21, 22, 23, 24, 25, 26, 27, 1, 28, 29, 30, 31, 32, 33, 34, 35, 36, 37, 38, 39, 40, 41, 42, 43, 44, 45, 46, 47, 48, 49, 50, 51, 52, 53, 54, 55, 56, 57, 58, 59, 60, 61, 62, 63, 64, 65, 66, 67, 68, 69, 70, 71] (by decide +kernel) (by decide +kernel)
set_option maxRecDepth 20000 in
theorem gX6_gain_X6_goOn : GoodIn wsX6_gain (wsV RX6 160 RX6 yX6_goOn wsX6_goOn) := goodIn_app (goodIn_of _ (by decide +kernel)) ggX6_gain_X6_goOn
theorem dX6_gain_0 : decode cX6_gain 0 = .ok (.aload_n 0, 1) := by decide +kernel
theorem dX6_gain_1 : decode cX6_gain 1 = .ok (.bipush 31, 2) := by decide +kernel
theorem dX6_gain_3 : decode cX6_gain 3 = .ok (.iconst 1, 1) := by decide +kernel
theorem dX6_gain_4 : decode cX6_gain 4 = .ok (.iload_n 1, 1) := by decide +kernel
theorem dX6_gain_5 : decode cX6_gain 5 = .ok (.ishl, 1) := by decide +kernel
theorem dX6_gain_6 : decode cX6_gain 6 = .ok (.iconst (-1), 1) := by decide +kernel
theorem dX6_gain_7 : decode cX6_gain 7 = .ok (.ixor, 1) := by decide +kernel
theorem dX6_gain_8 : decode cX6_gain 8 = .ok (.iand, 1) := by decide +kernel
theorem dX6_gain_9 : decode cX6_gain 9 = .ok (.iconst 1, 1) := by decide +kernel
theorem dX6_gain_10 : decode cX6_gain 10 = .ok (.iload_n 2, 1) := by decide +kernel
theorem dX6_gain_11 : decode cX6_gain 11 = .ok (.ishl, 1) := by decide +kernel
theorem dX6_gain_12 : decode cX6_gain 12 = .ok (.iconst (-1), 1) := by decide +kernel
theorem dX6_gain_13 : decode cX6_gain 13 = .ok (.ixor, 1) := by decide +kernel
theorem dX6_gain_14 : decode cX6_gain 14 = .ok (.iand, 1) := by decide +kernel
theorem dX6_gain_15 : decode cX6_gain 15 = .ok (.iload_n 3, 1) := by decide +kernel
theorem dX6_gain_16 : decode cX6_gain 16 = .ok (.iload_n 1, 1) := by decide +kernel
theorem dX6_gain_17 : decode cX6_gain 17 = .ok (.ishl, 1) := by decide +kernel
theorem dX6_gain_18 : decode cX6_gain 18 = .ok (.ior, 1) := by decide +kernel
theorem dX6_gain_19 : decode cX6_gain 19 = .ok (.iload 4, 2) := by decide +kernel
theorem dX6_gain_21 : decode cX6_gain 21 = .ok (.iload_n 2, 1) := by decide +kernel
theorem dX6_gain_22 : decode cX6_gain 22 = .ok (.ishl, 1) := by decide +kernel
theorem dX6_gain_23 : decode cX6_gain 23 = .ok (.ior, 1) := by decide +kernel
theorem dX6_gain_24 : decode cX6_gain 24 = .ok (.putfield 37, 3) := by decide +kernel
theorem dX6_gain_27 : decode cX6_gain 27 = .ok (.aload_n 0, 1) := by decide +kernel
theorem dX6_gain_28 : decode cX6_gain 28 = .ok (.invokevirtual 157, 3) := by decide +kernel
theorem dX6_gain_31 : decode cX6_gain 31 = .ok (.aload_n 0, 1) := by decide +kernel
theorem dX6_gain_32 : decode cX6_gain 32 = .ok (.iconst 3, 1) := by decide +kernel
theorem dX6_gain_33 : decode cX6_gain 33 = .ok (.invokevirtual 160, 3) := by decide +kernel
theorem dX6_gain_36 : decode cX6_gain 36 = .ok (.aload_n 0, 1) := by decide +kernel
theorem dX6_gain_37 : decode cX6_gain 37 = .ok (.bipush 31, 2) := by decide +kernel
theorem dX6_gain_39 : decode cX6_gain 39 = .ok (.putfield 37, 3) := by decide +kernel
theorem dX6_gain_42 : decode cX6_gain 42 = .ok (.bipush 20, 2) := by decide +kernel
theorem dX6_gain_44 : decode cX6_gain 44 = .ok (.aload_n 0, 1) := by decide +kernel
theorem dX6_gain_45 : decode cX6_gain 45 = .ok (.getfield 22, 3) := by decide +kernel
theorem dX6_gain_48 : decode cX6_gain 48 = .ok (.bipush 16, 2) := by decide +kernel
theorem dX6_gain_50 : decode cX6_gain 50 = .ok (.aload_n 0, 1) := by decide +kernel
theorem dX6_gain_51 : decode cX6_gain 51 = .ok (.getfield 22, 3) := by decide +kernel
theorem dX6_gain_54 : decode cX6_gain 54 = .ok (.bipush 8, 2) := by decide +kernel
theorem dX6_gain_56 : decode cX6_gain 56 = .ok (.iload_n 1, 1) := by decide +kernel
theorem dX6_gain_57 : decode cX6_gain 57 = .ok (.iadd, 1) := by decide +kernel
theorem dX6_gain_58 : decode cX6_gain 58 = .ok (.iaload, 1) := by decide +kernel
theorem dX6_gain_59 : decode cX6_gain 59 = .ok (.iadd, 1) := by decide +kernel
theorem dX6_gain_60 : decode cX6_gain 60 = .ok (.iaload, 1) := by decide +kernel
theorem dX6_gain_61 : decode cX6_gain 61 = .ok (.isub, 1) := by decide +kernel
theorem dX6_gain_62 : decode cX6_gain 62 = .ok (.iconst 4, 1) := by decide +kernel
theorem dX6_gain_63 : decode cX6_gain 63 = .ok (.iload_n 3, 1) := by decide +kernel
theorem dX6_gain_64 : decode cX6_gain 64 = .ok (.imul, 1) := by decide +kernel
theorem dX6_gain_65 : decode cX6_gain 65 = .ok (.isub, 1) := by decide +kernel
theorem dX6_gain_66 : decode cX6_gain 66 = .ok (.ireturn, 1) := by decide +kernel
set_option maxRecDepth 20000 in
theorem ggX6_isRest_X6_gain : GoodIn wsX6_isRest wsX6_gain := goodIn_r _ [5, 6, 7, 8, 9, 10, 4, 11, 12, 13, 14, 15, 16, 17, 18, 19, 20, 21, 22, 23, 24, 25, 26, 27, 28, 29, 30, 31, 32, 33, 34, 35, 36, 37, 38, 39, 40, 41, 42, 43, 44, 45, 46, 47, 48, 49, 50, 51, 52, 53, 54, 55, 56, 57, 58, 59, 60, 61, 62, 63, 64, 65, 66, 67, 68, 69, 70, 71, 72, 73, 74, 75] (by decide +kernel) (by decide +kernel)
set_option maxRecDepth 20000 in
theorem gX6_isRest_X6_gain : GoodIn wsX6_isRest (wsV RX6 197 RX6 yX6_gain wsX6_gain) := goodIn_app (goodIn_of _ (by decide +kernel)) ggX6_isRest_X6_gain
theorem dX6_isRest_0 : decode cX6_isRest 0 = .ok (.aload_n 0, 1) := by decide +kernel
theorem dX6_isRest_1 : decode cX6_isRest 1 = .ok (.iload_n 1, 1) := by decide +kernel
theorem dX6_isRest_2 : decode cX6_isRest 2 = .ok (.iload_n 2, 1) := by decide +kernel
theorem dX6_isRest_3 : decode cX6_isRest 3 = .ok (.iconst 1, 1) := by decide +kernel
theorem dX6_isRest_4 : decode cX6_isRest 4 = .ok (.iload_n 3, 1) := by decide +kernel
theorem dX6_isRest_5 : decode cX6_isRest 5 = .ok (.isub, 1) := by decide +kernel
theorem dX6_isRest_6 : decode cX6_isRest 6 = .ok (.iload 4, 2) := by decide +kernel
theorem dX6_isRest_8 : decode cX6_isRest 8 = .ok (.invokevirtual 197, 3) := by decide +kernel
theorem dX6_isRest_11 : decode cX6_isRest 11 = .ok (.aload_n 0, 1) := by decide +kernel
theorem dX6_isRest_12 : decode cX6_isRest 12 = .ok (.iload_n 1, 1) := by decide +kernel
theorem dX6_isRest_13 : decode cX6_isRest 13 = .ok (.iload_n 2, 1) := by decide +kernel
theorem dX6_isRest_14 : decode cX6_isRest 14 = .ok (.iload_n 3, 1) := by decide +kernel
theorem dX6_isRest_15 : decode cX6_isRest 15 = .ok (.iload 4, 2) := by decide +kernel
theorem dX6_isRest_17 : decode cX6_isRest 17 = .ok (.invokevirtual 197, 3) := by decide +kernel
theorem dX6_isRest_20 : decode cX6_isRest 20 = .ok (.if_icmp .gt 30, 3) := by decide +kernel
theorem dX6_isRest_23 : decode cX6_isRest 23 = .ok (.aload_n 0, 1) := by decide +kernel
theorem dX6_isRest_24 : decode cX6_isRest 24 = .ok (.iload_n 2, 1) := by decide +kernel
theorem dX6_isRest_25 : decode cX6_isRest 25 = .ok (.iload_n 1, 1) := by decide +kernel
theorem dX6_isRest_26 : decode cX6_isRest 26 = .ok (.iconst 1, 1) := by decide +kernel
theorem dX6_isRest_27 : decode cX6_isRest 27 = .ok (.iload 4, 2) := by decide +kernel
theorem dX6_isRest_29 : decode cX6_isRest 29 = .ok (.isub, 1) := by decide +kernel
theorem dX6_isRest_30 : decode cX6_isRest 30 = .ok (.iload_n 3, 1) := by decide +kernel
theorem dX6_isRest_31 : decode cX6_isRest 31 = .ok (.invokevirtual 197, 3) := by decide +kernel
theorem dX6_isRest_34 : decode cX6_isRest 34 = .ok (.aload_n 0, 1) := by decide +kernel
theorem dX6_isRest_35 : decode cX6_isRest 35 = .ok (.iload_n 2, 1) := by decide +kernel
theorem dX6_isRest_36 : decode cX6_isRest 36 = .ok (.iload_n 1, 1) := by decide +kernel
theorem dX6_isRest_37 : decode cX6_isRest 37 = .ok (.iload 4, 2) := by decide +kernel
theorem dX6_isRest_39 : decode cX6_isRest 39 = .ok (.iload_n 3, 1) := by decide +kernel
theorem dX6_isRest_40 : decode cX6_isRest 40 = .ok (.invokevirtual 197, 3) := by decide +kernel
theorem dX6_isRest_43 : decode cX6_isRest 43 = .ok (.if_icmp .gt 7, 3) := by decide +kernel
theorem dX6_isRest_46 : decode cX6_isRest 46 = .ok (.iconst 1, 1) := by decide +kernel
theorem dX6_isRest_47 : decode cX6_isRest 47 = .ok (.goto 4, 3) := by decide +kernel
theorem dX6_isRest_50 : decode cX6_isRest 50 = .ok (.iconst 0, 1) := by decide +kernel
theorem dX6_isRest_51 : decode cX6_isRest 51 = .ok (.ireturn, 1) := by decide +kernel
set_option maxRecDepth 20000 in
theorem ggX6_rests_X6_isBroom : GoodIn wsX6_rests wsX6_isBroom := goodIn_r _ [5, 6, 7, 8, 4, 9, 60, 61, 62, 63, 64, 65, 66, 67, 68, 69, 70, 71, 72, 73, 74, 75, 76, 77, 78, 79, 80, 81, 82, 83, 84, 85, 86] (by decide +kernel) (by decide +kernel)
set_option maxRecDepth 20000 in
theorem gX6_rests_X6_isBroom : GoodIn wsX6_rests (wsV RX6 134 RX6 yX6_isBroom wsX6_isBroom) := goodIn_app (goodIn_of _ (by decide +kernel)) ggX6_rests_X6_isBroom
set_option maxRecDepth 20000 in
theorem ggX6_rests_X6_in : GoodIn wsX6_rests wsX6_in := goodIn_r _ [9] (by decide +kernel) (by decide +kernel)
set_option maxRecDepth 20000 in
theorem gX6_rests_X6_in : GoodIn wsX6_rests (va_wsS RX6 62 yX6_in wsX6_in) := goodIn_app (goodIn_of _ (by decide +kernel)) ggX6_rests_X6_in
set_option maxRecDepth 20000 in
theorem ggX6_rests_X6_isRest : GoodIn wsX6_rests wsX6_isRest := goodIn_r _ [13, 14, 15, 16, 4, 17, 18, 19, 20, 21, 22, 23, 24, 25, 26, 27, 28, 29, 30, 31, 32, 33, 34, 6, 35, 36, 37, 38, 39, 40, 41, 42, 43, 44, 45, 46, 47, 48, 49, 50, 51, 52, 53, 54, 55, 56, 57, 58, 59, 60, 61, 62, 63, 64, 65, 66, 67, 68, 69, 70, 71, 72, 73, 74, 75, 76, 77, 78, 79, 80, 81, 82, 83, 84, 85, 86] (by decide +kernel) (by decide +kernel)
set_option maxRecDepth 20000 in
theorem gX6_rests_X6_isRest : GoodIn wsX6_rests (wsV RX6 201 RX6 yX6_isRest wsX6_isRest) := goodIn_app (goodIn_of _ (by decide +kernel)) ggX6_rests_X6_isRest
theorem dX6_rests_0 : decode cX6_rests 0 = .ok (.aload_n 0, 1) := by decide +kernel
theorem dX6_rests_1 : decode cX6_rests 1 = .ok (.iload_n 1, 1) := by decide +kernel
theorem dX6_rests_2 : decode cX6_rests 2 = .ok (.invokevirtual 134, 3) := by decide +kernel
theorem dX6_rests_5 : decode cX6_rests 5 = .ok (.ifCond .eq 11, 3) := by decide +kernel
theorem dX6_rests_8 : decode cX6_rests 8 = .ok (.aload_n 0, 1) := by decide +kernel
theorem dX6_rests_9 : decode cX6_rests 9 = .ok (.iload_n 2, 1) := by decide +kernel
theorem dX6_rests_10 : decode cX6_rests 10 = .ok (.invokevirtual 134, 3) := by decide +kernel
theorem dX6_rests_13 : decode cX6_rests 13 = .ok (.ifCond .ne 5, 3) := by decide +kernel
theorem dX6_rests_16 : decode cX6_rests 16 = .ok (.iconst (-1), 1) := by decide +kernel
theorem dX6_rests_17 : decode cX6_rests 17 = .ok (.ireturn, 1) := by decide +kernel
theorem dX6_rests_18 : decode cX6_rests 18 = .ok (.iload_n 1, 1) := by decide +kernel
theorem dX6_rests_19 : decode cX6_rests 19 = .ok (.iload_n 2, 1) := by decide +kernel
theorem dX6_rests_20 : decode cX6_rests 20 = .ok (.if_icmp .eq 13, 3) := by decide +kernel
theorem dX6_rests_23 : decode cX6_rests 23 = .ok (.iload_n 3, 1) := by decide +kernel
theorem dX6_rests_24 : decode cX6_rests 24 = .ok (.i2l, 1) := by decide +kernel
theorem dX6_rests_25 : decode cX6_rests 25 = .ok (.lconst 0, 1) := by decide +kernel
theorem dX6_rests_26 : decode cX6_rests 26 = .ok (.lconst 1, 1) := by decide +kernel
theorem dX6_rests_27 : decode cX6_rests 27 = .ok (.invokestatic 62, 3) := by decide +kernel
theorem dX6_rests_30 : decode cX6_rests 30 = .ok (.ifCond .ne 6, 3) := by decide +kernel
theorem dX6_rests_33 : decode cX6_rests 33 = .ok (.bipush (-2), 2) := by decide +kernel
theorem dX6_rests_35 : decode cX6_rests 35 = .ok (.ireturn, 1) := by decide +kernel
theorem dX6_rests_36 : decode cX6_rests 36 = .ok (.iconst 0, 1) := by decide +kernel
theorem dX6_rests_37 : decode cX6_rests 37 = .ok (.istore 4, 2) := by decide +kernel
theorem dX6_rests_39 : decode cX6_rests 39 = .ok (.bipush (-9), 2) := by decide +kernel
theorem dX6_rests_41 : decode cX6_rests 41 = .ok (.istore 5, 2) := by decide +kernel
theorem dX6_rests_43 : decode cX6_rests 43 = .ok (.iconst 0, 1) := by decide +kernel
theorem dX6_rests_44 : decode cX6_rests 44 = .ok (.istore 6, 2) := by decide +kernel
theorem dX6_rests_46 : decode cX6_rests 46 = .ok (.iload 6, 2) := by decide +kernel
theorem dX6_rests_48 : decode cX6_rests 48 = .ok (.iconst 4, 1) := by decide +kernel
theorem dX6_rests_49 : decode cX6_rests 49 = .ok (.if_icmp .ge 53, 3) := by decide +kernel
theorem dX6_rests_52 : decode cX6_rests 52 = .ok (.aload_n 0, 1) := by decide +kernel
theorem dX6_rests_53 : decode cX6_rests 53 = .ok (.iload_n 1, 1) := by decide +kernel
theorem dX6_rests_54 : decode cX6_rests 54 = .ok (.iload_n 2, 1) := by decide +kernel
theorem dX6_rests_55 : decode cX6_rests 55 = .ok (.iload 6, 2) := by decide +kernel
theorem dX6_rests_57 : decode cX6_rests 57 = .ok (.iconst 2, 1) := by decide +kernel
theorem dX6_rests_58 : decode cX6_rests 58 = .ok (.idiv, 1) := by decide +kernel
theorem dX6_rests_59 : decode cX6_rests 59 = .ok (.iload 6, 2) := by decide +kernel
theorem dX6_rests_61 : decode cX6_rests 61 = .ok (.iconst 2, 1) := by decide +kernel
theorem dX6_rests_62 : decode cX6_rests 62 = .ok (.irem, 1) := by decide +kernel
theorem dX6_rests_63 : decode cX6_rests 63 = .ok (.invokevirtual 201, 3) := by decide +kernel
theorem dX6_rests_66 : decode cX6_rests 66 = .ok (.ifCond .eq 30, 3) := by decide +kernel
theorem dX6_rests_69 : decode cX6_rests 69 = .ok (.iload 4, 2) := by decide +kernel
theorem dX6_rests_71 : decode cX6_rests 71 = .ok (.ifCond .ne 18, 3) := by decide +kernel
theorem dX6_rests_74 : decode cX6_rests 74 = .ok (.bipush 10, 2) := by decide +kernel
theorem dX6_rests_76 : decode cX6_rests 76 = .ok (.iload 6, 2) := by decide +kernel
theorem dX6_rests_78 : decode cX6_rests 78 = .ok (.iconst 2, 1) := by decide +kernel
theorem dX6_rests_79 : decode cX6_rests 79 = .ok (.idiv, 1) := by decide +kernel
theorem dX6_rests_80 : decode cX6_rests 80 = .ok (.imul, 1) := by decide +kernel
theorem dX6_rests_81 : decode cX6_rests 81 = .ok (.iload 6, 2) := by decide +kernel
theorem dX6_rests_83 : decode cX6_rests 83 = .ok (.iconst 2, 1) := by decide +kernel
theorem dX6_rests_84 : decode cX6_rests 84 = .ok (.irem, 1) := by decide +kernel
theorem dX6_rests_85 : decode cX6_rests 85 = .ok (.iadd, 1) := by decide +kernel
theorem dX6_rests_86 : decode cX6_rests 86 = .ok (.goto 5, 3) := by decide +kernel
theorem dX6_rests_89 : decode cX6_rests 89 = .ok (.iload 5, 2) := by decide +kernel
theorem dX6_rests_91 : decode cX6_rests 91 = .ok (.istore 5, 2) := by decide +kernel
theorem dX6_rests_93 : decode cX6_rests 93 = .ok (.iinc 4 1, 3) := by decide +kernel
theorem dX6_rests_96 : decode cX6_rests 96 = .ok (.iinc 6 1, 3) := by decide +kernel
theorem dX6_rests_99 : decode cX6_rests 99 = .ok (.goto (-53), 3) := by decide +kernel
theorem dX6_rests_102 : decode cX6_rests 102 = .ok (.iload_n 3, 1) := by decide +kernel
theorem dX6_rests_103 : decode cX6_rests 103 = .ok (.ifCond .ne 8, 3) := by decide +kernel
theorem dX6_rests_106 : decode cX6_rests 106 = .ok (.iload 4, 2) := by decide +kernel
theorem dX6_rests_108 : decode cX6_rests 108 = .ok (.goto 5, 3) := by decide +kernel
theorem dX6_rests_111 : decode cX6_rests 111 = .ok (.iload 5, 2) := by decide +kernel
theorem dX6_rests_113 : decode cX6_rests 113 = .ok (.ireturn, 1) := by decide +kernel
set_option maxRecDepth 20000 in
theorem ggX6_twice_X6_isStreet : GoodIn wsX6_twice wsX6_isStreet := goodIn_r _ [7, 8, 9, 10, 6, 11] (by decide +kernel) (by decide +kernel)
set_option maxRecDepth 20000 in
theorem gX6_twice_X6_isStreet : GoodIn wsX6_twice (va_wsS RX6 127 yX6_isStreet wsX6_isStreet) := goodIn_app (goodIn_of _ (by decide +kernel)) ggX6_twice_X6_isStreet
set_option maxRecDepth 20000 in
theorem ggX6_twice_X6_in : GoodIn wsX6_twice wsX6_in := goodIn_r _ [11] (by decide +kernel) (by decide +kernel)
set_option maxRecDepth 20000 in
theorem gX6_twice_X6_in : GoodIn wsX6_twice (va_wsS RX6 62 yX6_in wsX6_in) := goodIn_app (goodIn_of _ (by decide +kernel)) ggX6_twice_X6_in
set_option maxRecDepth 20000 in
theorem ggX6_twice_X6_layTrial : GoodIn wsX6_twice wsX6_layTrial := goodIn_r _ [15, 3, 53, 54, 55, 56, 57, 58, 59, 60, 61, 62, 63, 64, 65, 66, 67, 68, 69, 70, 71, 72, 73, 74, 75, 76, 77, 78, 79] (by decide +kernel) (by decide +kernel)
set_option maxRecDepth 20000 in
theorem gX6_twice_X6_layTrial : GoodIn wsX6_twice (wsV RX6 157 RX6 yX6_layTrial wsX6_layTrial) := goodIn_app (goodIn_of _ (by decide +kernel)) ggX6_twice_X6_layTrial
set_option maxRecDepth 20000 in
theorem ggX6_twice_X6_has : GoodIn wsX6_twice wsX6_has := goodIn_r _ [18] (by decide +kernel) (by decide +kernel)
set_option maxRecDepth 20000 in
theorem gX6_twice_X6_has : GoodIn wsX6_twice (va_wsS RX6 104 yX6_has wsX6_has) := goodIn_app (goodIn_of _ (by decide +kernel)) ggX6_twice_X6_has
set_option maxRecDepth 20000 in
theorem ggX6_twice_X6_passOn : GoodIn wsX6_twice wsX6_passOn := goodIn_r _ [22, 23, 3, 24, 25, 26, 27, 28, 29, 6, 30, 31, 32, 33, 34, 35, 36, 37, 38, 39, 40, 41, 16, 17, 18, 42, 43, 44, 45, 46, 47, 48, 49, 53, 54, 55, 56, 57, 58, 59, 60, 61, 62, 63, 64, 65, 66, 67, 68, 69, 70, 71, 72, 73, 74, 75, 76, 77, 78, 79] (by decide +kernel) (by decide +kernel)
set_option maxRecDepth 20000 in
theorem gX6_twice_X6_passOn : GoodIn wsX6_twice (wsV RX6 143 RX6 yX6_passOn wsX6_passOn) := goodIn_app (goodIn_of _ (by decide +kernel)) ggX6_twice_X6_passOn
set_option maxRecDepth 20000 in
theorem ggX6_twice_X6_common : GoodIn wsX6_twice wsX6_common := goodIn_r _ [52] (by decide +kernel) (by decide +kernel)
set_option maxRecDepth 20000 in
theorem gX6_twice_X6_common : GoodIn wsX6_twice (va_wsS RX6 194 yX6_common wsX6_common) := goodIn_app (goodIn_of _ (by decide +kernel)) ggX6_twice_X6_common
theorem dX6_twice_0 : decode cX6_twice 0 = .ok (.iload_n 1, 1) := by decide +kernel
theorem dX6_twice_1 : decode cX6_twice 1 = .ok (.invokestatic 127, 3) := by decide +kernel
theorem dX6_twice_4 : decode cX6_twice 4 = .ok (.ifCond .ne 5, 3) := by decide +kernel
theorem dX6_twice_7 : decode cX6_twice 7 = .ok (.iconst (-1), 1) := by decide +kernel
theorem dX6_twice_8 : decode cX6_twice 8 = .ok (.ireturn, 1) := by decide +kernel
theorem dX6_twice_9 : decode cX6_twice 9 = .ok (.iload_n 2, 1) := by decide +kernel
theorem dX6_twice_10 : decode cX6_twice 10 = .ok (.i2l, 1) := by decide +kernel
theorem dX6_twice_11 : decode cX6_twice 11 = .ok (.lconst 1, 1) := by decide +kernel
theorem dX6_twice_12 : decode cX6_twice 12 = .ok (.ldc2_w 205, 3) := by decide +kernel
theorem dX6_twice_15 : decode cX6_twice 15 = .ok (.invokestatic 62, 3) := by decide +kernel
theorem dX6_twice_18 : decode cX6_twice 18 = .ok (.ifCond .eq 15, 3) := by decide +kernel
theorem dX6_twice_21 : decode cX6_twice 21 = .ok (.iload_n 3, 1) := by decide +kernel
theorem dX6_twice_22 : decode cX6_twice 22 = .ok (.i2l, 1) := by decide +kernel
theorem dX6_twice_23 : decode cX6_twice 23 = .ok (.lconst 0, 1) := by decide +kernel
theorem dX6_twice_24 : decode cX6_twice 24 = .ok (.ldc2_w 207, 3) := by decide +kernel
theorem dX6_twice_27 : decode cX6_twice 27 = .ok (.invokestatic 62, 3) := by decide +kernel
theorem dX6_twice_30 : decode cX6_twice 30 = .ok (.ifCond .ne 6, 3) := by decide +kernel
theorem dX6_twice_33 : decode cX6_twice 33 = .ok (.bipush (-2), 2) := by decide +kernel
theorem dX6_twice_35 : decode cX6_twice 35 = .ok (.ireturn, 1) := by decide +kernel
theorem dX6_twice_36 : decode cX6_twice 36 = .ok (.iconst 0, 1) := by decide +kernel
theorem dX6_twice_37 : decode cX6_twice 37 = .ok (.istore 5, 2) := by decide +kernel
theorem dX6_twice_39 : decode cX6_twice 39 = .ok (.iconst 0, 1) := by decide +kernel
theorem dX6_twice_40 : decode cX6_twice 40 = .ok (.istore 6, 2) := by decide +kernel
theorem dX6_twice_42 : decode cX6_twice 42 = .ok (.iconst 0, 1) := by decide +kernel
theorem dX6_twice_43 : decode cX6_twice 43 = .ok (.istore 7, 2) := by decide +kernel
theorem dX6_twice_45 : decode cX6_twice 45 = .ok (.iload 7, 2) := by decide +kernel
theorem dX6_twice_47 : decode cX6_twice 47 = .ok (.iconst 1, 1) := by decide +kernel
theorem dX6_twice_48 : decode cX6_twice 48 = .ok (.iload_n 2, 1) := by decide +kernel
theorem dX6_twice_49 : decode cX6_twice 49 = .ok (.ishl, 1) := by decide +kernel
theorem dX6_twice_50 : decode cX6_twice 50 = .ok (.if_icmp .ge 106, 3) := by decide +kernel
theorem dX6_twice_53 : decode cX6_twice 53 = .ok (.iconst 1, 1) := by decide +kernel
theorem dX6_twice_54 : decode cX6_twice 54 = .ok (.istore 8, 2) := by decide +kernel
theorem dX6_twice_56 : decode cX6_twice 56 = .ok (.aload_n 0, 1) := by decide +kernel
theorem dX6_twice_57 : decode cX6_twice 57 = .ok (.invokevirtual 157, 3) := by decide +kernel
theorem dX6_twice_60 : decode cX6_twice 60 = .ok (.iconst 0, 1) := by decide +kernel
theorem dX6_twice_61 : decode cX6_twice 61 = .ok (.istore 9, 2) := by decide +kernel
theorem dX6_twice_63 : decode cX6_twice 63 = .ok (.iload 9, 2) := by decide +kernel
theorem dX6_twice_65 : decode cX6_twice 65 = .ok (.iload_n 2, 1) := by decide +kernel
theorem dX6_twice_66 : decode cX6_twice 66 = .ok (.if_icmp .ge 52, 3) := by decide +kernel
theorem dX6_twice_69 : decode cX6_twice 69 = .ok (.iload 8, 2) := by decide +kernel
theorem dX6_twice_71 : decode cX6_twice 71 = .ok (.iload 7, 2) := by decide +kernel
theorem dX6_twice_73 : decode cX6_twice 73 = .ok (.iload 9, 2) := by decide +kernel
theorem dX6_twice_75 : decode cX6_twice 75 = .ok (.invokestatic 104, 3) := by decide +kernel
theorem dX6_twice_78 : decode cX6_twice 78 = .ok (.ifCond .eq 7, 3) := by decide +kernel
theorem dX6_twice_81 : decode cX6_twice 81 = .ok (.iload_n 3, 1) := by decide +kernel
theorem dX6_twice_82 : decode cX6_twice 82 = .ok (.goto 7, 3) := by decide +kernel
theorem dX6_twice_85 : decode cX6_twice 85 = .ok (.bipush 10, 2) := by decide +kernel
theorem dX6_twice_87 : decode cX6_twice 87 = .ok (.iload_n 3, 1) := by decide +kernel
theorem dX6_twice_88 : decode cX6_twice 88 = .ok (.isub, 1) := by decide +kernel
theorem dX6_twice_89 : decode cX6_twice 89 = .ok (.imul, 1) := by decide +kernel
theorem dX6_twice_90 : decode cX6_twice 90 = .ok (.istore 8, 2) := by decide +kernel
theorem dX6_twice_92 : decode cX6_twice 92 = .ok (.aload_n 0, 1) := by decide +kernel
theorem dX6_twice_93 : decode cX6_twice 93 = .ok (.iconst 1, 1) := by decide +kernel
theorem dX6_twice_94 : decode cX6_twice 94 = .ok (.iload 7, 2) := by decide +kernel
theorem dX6_twice_96 : decode cX6_twice 96 = .ok (.iload 9, 2) := by decide +kernel
theorem dX6_twice_98 : decode cX6_twice 98 = .ok (.invokestatic 104, 3) := by decide +kernel
theorem dX6_twice_101 : decode cX6_twice 101 = .ok (.ifCond .eq 7, 3) := by decide +kernel
theorem dX6_twice_104 : decode cX6_twice 104 = .ok (.iconst 2, 1) := by decide +kernel
theorem dX6_twice_105 : decode cX6_twice 105 = .ok (.goto 4, 3) := by decide +kernel
theorem dX6_twice_108 : decode cX6_twice 108 = .ok (.iconst 1, 1) := by decide +kernel
theorem dX6_twice_109 : decode cX6_twice 109 = .ok (.invokevirtual 143, 3) := by decide +kernel
theorem dX6_twice_112 : decode cX6_twice 112 = .ok (.iinc 9 1, 3) := by decide +kernel
theorem dX6_twice_115 : decode cX6_twice 115 = .ok (.goto (-52), 3) := by decide +kernel
theorem dX6_twice_118 : decode cX6_twice 118 = .ok (.iload 6, 2) := by decide +kernel
theorem dX6_twice_120 : decode cX6_twice 120 = .ok (.iload 8, 2) := by decide +kernel
theorem dX6_twice_122 : decode cX6_twice 122 = .ok (.iadd, 1) := by decide +kernel
theorem dX6_twice_123 : decode cX6_twice 123 = .ok (.istore 6, 2) := by decide +kernel
theorem dX6_twice_125 : decode cX6_twice 125 = .ok (.iload 5, 2) := by decide +kernel
theorem dX6_twice_127 : decode cX6_twice 127 = .ok (.aload_n 0, 1) := by decide +kernel
theorem dX6_twice_128 : decode cX6_twice 128 = .ok (.getfield 22, 3) := by decide +kernel
theorem dX6_twice_131 : decode cX6_twice 131 = .ok (.bipush 16, 2) := by decide +kernel
theorem dX6_twice_133 : decode cX6_twice 133 = .ok (.iload_n 1, 1) := by decide +kernel
theorem dX6_twice_134 : decode cX6_twice 134 = .ok (.iadd, 1) := by decide +kernel
theorem dX6_twice_135 : decode cX6_twice 135 = .ok (.iaload, 1) := by decide +kernel
theorem dX6_twice_136 : decode cX6_twice 136 = .ok (.bipush 10, 2) := by decide +kernel
theorem dX6_twice_138 : decode cX6_twice 138 = .ok (.if_icmp .lt 8, 3) := by decide +kernel
theorem dX6_twice_141 : decode cX6_twice 141 = .ok (.iload 8, 2) := by decide +kernel
theorem dX6_twice_143 : decode cX6_twice 143 = .ok (.goto 4, 3) := by decide +kernel
theorem dX6_twice_146 : decode cX6_twice 146 = .ok (.iconst 0, 1) := by decide +kernel
theorem dX6_twice_147 : decode cX6_twice 147 = .ok (.iadd, 1) := by decide +kernel
theorem dX6_twice_148 : decode cX6_twice 148 = .ok (.istore 5, 2) := by decide +kernel
theorem dX6_twice_150 : decode cX6_twice 150 = .ok (.iinc 7 1, 3) := by decide +kernel
theorem dX6_twice_153 : decode cX6_twice 153 = .ok (.goto (-108), 3) := by decide +kernel
theorem dX6_twice_156 : decode cX6_twice 156 = .ok (.iload 5, 2) := by decide +kernel
theorem dX6_twice_158 : decode cX6_twice 158 = .ok (.iload 6, 2) := by decide +kernel
theorem dX6_twice_160 : decode cX6_twice 160 = .ok (.invokestatic 194, 3) := by decide +kernel
theorem dX6_twice_163 : decode cX6_twice 163 = .ok (.istore 7, 2) := by decide +kernel
theorem dX6_twice_165 : decode cX6_twice 165 = .ok (.iload 4, 2) := by decide +kernel
theorem dX6_twice_167 : decode cX6_twice 167 = .ok (.ifCond .eq 11, 3) := by decide +kernel
theorem dX6_twice_170 : decode cX6_twice 170 = .ok (.iload 5, 2) := by decide +kernel
theorem dX6_twice_172 : decode cX6_twice 172 = .ok (.iload 7, 2) := by decide +kernel
theorem dX6_twice_174 : decode cX6_twice 174 = .ok (.idiv, 1) := by decide +kernel
theorem dX6_twice_175 : decode cX6_twice 175 = .ok (.goto 8, 3) := by decide +kernel
theorem dX6_twice_178 : decode cX6_twice 178 = .ok (.iload 6, 2) := by decide +kernel
theorem dX6_twice_180 : decode cX6_twice 180 = .ok (.iload 7, 2) := by decide +kernel
theorem dX6_twice_182 : decode cX6_twice 182 = .ok (.idiv, 1) := by decide +kernel
theorem dX6_twice_183 : decode cX6_twice 183 = .ok (.ireturn, 1) := by decide +kernel
theorem dX6_seed_0 : decode cX6_seed 0 = .ok (.aload_n 0, 1) := by decide +kernel
theorem dX6_seed_1 : decode cX6_seed 1 = .ok (.getfield 209, 3) := by decide +kernel
theorem dX6_seed_4 : decode cX6_seed 4 = .ok (.lstore_n 3, 1) := by decide +kernel
theorem dX6_seed_5 : decode cX6_seed 5 = .ok (.aload_n 0, 1) := by decide +kernel
theorem dX6_seed_6 : decode cX6_seed 6 = .ok (.lload_n 1, 1) := by decide +kernel
theorem dX6_seed_7 : decode cX6_seed 7 = .ok (.putfield 209, 3) := by decide +kernel
theorem dX6_seed_10 : decode cX6_seed 10 = .ok (.lload_n 3, 1) := by decide +kernel
theorem dX6_seed_11 : decode cX6_seed 11 = .ok (.lreturn, 1) := by decide +kernel
set_option maxRecDepth 20000 in
theorem ggX6_years_X6_in : GoodIn wsX6_years wsX6_in := goodIn_r _ [9] (by decide +kernel) (by decide +kernel)
set_option maxRecDepth 20000 in
theorem gX6_years_X6_in : GoodIn wsX6_years (va_wsS RX6 62 yX6_in wsX6_in) := goodIn_app (goodIn_of _ (by decide +kernel)) ggX6_years_X6_in
set_option maxRecDepth 20000 in
theorem ggX6_years_X6_layTrial : GoodIn wsX6_years wsX6_layTrial := goodIn_r _ [13, 14, 69, 70, 71, 72, 73, 74, 75, 76, 77, 78, 79, 80, 81, 82, 83, 84, 85, 86, 87, 88, 89, 90, 91, 92, 93, 94, 95] (by decide +kernel) (by decide +kernel)
set_option maxRecDepth 20000 in
theorem gX6_years_X6_layTrial : GoodIn wsX6_years (wsV RX6 157 RX6 yX6_layTrial wsX6_layTrial) := goodIn_app (goodIn_of _ (by decide +kernel)) ggX6_years_X6_layTrial
set_option maxRecDepth 20000 in
theorem ggX6_years_X6_passOn : GoodIn wsX6_years wsX6_passOn := goodIn_r _ [18, 19, 14, 20, 21, 22, 23, 24, 25, 8, 26, 27, 28, 29, 30, 31, 32, 33, 34, 35, 36, 37, 38, 39, 40, 41, 42, 43, 44, 45, 46, 47, 48, 69, 70, 71, 72, 73, 74, 75, 76, 77, 78, 79, 80, 81, 82, 83, 84, 85, 86, 87, 88, 89, 90, 91, 92, 93, 94, 95] (by decide +kernel) (by decide +kernel)
set_option maxRecDepth 20000 in
theorem gX6_years_X6_passOn : GoodIn wsX6_years (wsV RX6 143 RX6 yX6_passOn wsX6_passOn) := goodIn_app (goodIn_of _ (by decide +kernel)) ggX6_years_X6_passOn
set_option maxRecDepth 20000 in
theorem ggX6_years_X6_tryThing : GoodIn wsX6_years wsX6_tryThing := goodIn_r _ [52, 14, 15, 16, 17, 8, 18, 19, 20, 21, 22, 23, 24, 25, 26, 27, 28, 29, 30, 31, 32, 33, 34, 35, 36, 37, 38, 39, 40, 41, 42, 43, 44, 45, 46, 47, 48, 53, 54, 55, 56, 6, 7, 9, 57, 58, 59, 60, 61, 62, 63, 64, 69, 70, 71, 72, 73, 74, 75, 76, 77, 78, 79, 80, 81, 82, 83, 84, 85, 86, 87, 88, 89, 90, 91, 92, 93, 94, 95] (by decide +kernel) (by decide +kernel)
set_option maxRecDepth 20000 in
theorem gX6_years_X6_tryThing : GoodIn wsX6_years (wsV RX6 179 RX6 yX6_tryThing wsX6_tryThing) := goodIn_app (goodIn_of _ (by decide +kernel)) ggX6_years_X6_tryThing
set_option maxRecDepth 20000 in
theorem ggX6_years_X6_dustOn : GoodIn wsX6_years wsX6_dustOn := goodIn_r _ [68, 14, 69, 70, 71, 72, 73, 74, 75, 76, 77, 78, 79, 80, 81, 82, 83, 84, 85, 86, 87, 88, 89, 90, 91, 92, 93, 94, 95] (by decide +kernel) (by decide +kernel)
set_option maxRecDepth 20000 in
theorem gX6_years_X6_dustOn : GoodIn wsX6_years (wsV RX6 146 RX6 yX6_dustOn wsX6_dustOn) := goodIn_app (goodIn_of _ (by decide +kernel)) ggX6_years_X6_dustOn
theorem dX6_years_0 : decode cX6_years 0 = .ok (.iload_n 1, 1) := by decide +kernel
theorem dX6_years_1 : decode cX6_years 1 = .ok (.i2l, 1) := by decide +kernel
theorem dX6_years_2 : decode cX6_years 2 = .ok (.lconst 1, 1) := by decide +kernel
theorem dX6_years_3 : decode cX6_years 3 = .ok (.ldc2_w 155, 3) := by decide +kernel
theorem dX6_years_6 : decode cX6_years 6 = .ok (.invokestatic 62, 3) := by decide +kernel
theorem dX6_years_9 : decode cX6_years 9 = .ok (.ifCond .ne 6, 3) := by decide +kernel
theorem dX6_years_12 : decode cX6_years 12 = .ok (.bipush (-2), 2) := by decide +kernel
theorem dX6_years_14 : decode cX6_years 14 = .ok (.ireturn, 1) := by decide +kernel
theorem dX6_years_15 : decode cX6_years 15 = .ok (.aload_n 0, 1) := by decide +kernel
theorem dX6_years_16 : decode cX6_years 16 = .ok (.invokevirtual 157, 3) := by decide +kernel
theorem dX6_years_19 : decode cX6_years 19 = .ok (.iconst 0, 1) := by decide +kernel
theorem dX6_years_20 : decode cX6_years 20 = .ok (.istore_n 2, 1) := by decide +kernel
theorem dX6_years_21 : decode cX6_years 21 = .ok (.iconst 0, 1) := by decide +kernel
theorem dX6_years_22 : decode cX6_years 22 = .ok (.istore_n 3, 1) := by decide +kernel
theorem dX6_years_23 : decode cX6_years 23 = .ok (.iload_n 3, 1) := by decide +kernel
theorem dX6_years_24 : decode cX6_years 24 = .ok (.iload_n 1, 1) := by decide +kernel
theorem dX6_years_25 : decode cX6_years 25 = .ok (.if_icmp .ge 117, 3) := by decide +kernel
theorem dX6_years_28 : decode cX6_years 28 = .ok (.aload_n 0, 1) := by decide +kernel
theorem dX6_years_29 : decode cX6_years 29 = .ok (.aload_n 0, 1) := by decide +kernel
theorem dX6_years_30 : decode cX6_years 30 = .ok (.getfield 209, 3) := by decide +kernel
theorem dX6_years_33 : decode cX6_years 33 = .ok (.ldc2_w 213, 3) := by decide +kernel
theorem dX6_years_36 : decode cX6_years 36 = .ok (.lmul, 1) := by decide +kernel
theorem dX6_years_37 : decode cX6_years 37 = .ok (.ldc2_w 215, 3) := by decide +kernel
theorem dX6_years_40 : decode cX6_years 40 = .ok (.ladd, 1) := by decide +kernel
theorem dX6_years_41 : decode cX6_years 41 = .ok (.putfield 209, 3) := by decide +kernel
theorem dX6_years_44 : decode cX6_years 44 = .ok (.aload_n 0, 1) := by decide +kernel
theorem dX6_years_45 : decode cX6_years 45 = .ok (.getfield 209, 3) := by decide +kernel
theorem dX6_years_48 : decode cX6_years 48 = .ok (.bipush 33, 2) := by decide +kernel
theorem dX6_years_50 : decode cX6_years 50 = .ok (.lushr, 1) := by decide +kernel
theorem dX6_years_51 : decode cX6_years 51 = .ok (.ldc2_w 217, 3) := by decide +kernel
theorem dX6_years_54 : decode cX6_years 54 = .ok (.lrem, 1) := by decide +kernel
theorem dX6_years_55 : decode cX6_years 55 = .ok (.l2i, 1) := by decide +kernel
theorem dX6_years_56 : decode cX6_years 56 = .ok (.istore 4, 2) := by decide +kernel
theorem dX6_years_58 : decode cX6_years 58 = .ok (.iload 4, 2) := by decide +kernel
theorem dX6_years_60 : decode cX6_years 60 = .ok (.bipush 18, 2) := by decide +kernel
theorem dX6_years_62 : decode cX6_years 62 = .ok (.if_icmp .le 12, 3) := by decide +kernel
theorem dX6_years_65 : decode cX6_years 65 = .ok (.aload_n 0, 1) := by decide +kernel
theorem dX6_years_66 : decode cX6_years 66 = .ok (.iconst 1, 1) := by decide +kernel
theorem dX6_years_67 : decode cX6_years 67 = .ok (.iconst 1, 1) := by decide +kernel
theorem dX6_years_68 : decode cX6_years 68 = .ok (.invokevirtual 143, 3) := by decide +kernel
theorem dX6_years_71 : decode cX6_years 71 = .ok (.goto 57, 3) := by decide +kernel
theorem dX6_years_74 : decode cX6_years 74 = .ok (.iload 4, 2) := by decide +kernel
theorem dX6_years_76 : decode cX6_years 76 = .ok (.bipush 10, 2) := by decide +kernel
theorem dX6_years_78 : decode cX6_years 78 = .ok (.if_icmp .le 18, 3) := by decide +kernel
theorem dX6_years_81 : decode cX6_years 81 = .ok (.aload_n 0, 1) := by decide +kernel
theorem dX6_years_82 : decode cX6_years 82 = .ok (.iconst 4, 1) := by decide +kernel
theorem dX6_years_83 : decode cX6_years 83 = .ok (.iconst 0, 1) := by decide +kernel
theorem dX6_years_84 : decode cX6_years 84 = .ok (.iload 4, 2) := by decide +kernel
theorem dX6_years_86 : decode cX6_years 86 = .ok (.bipush 11, 2) := by decide +kernel
theorem dX6_years_88 : decode cX6_years 88 = .ok (.isub, 1) := by decide +kernel
theorem dX6_years_89 : decode cX6_years 89 = .ok (.invokevirtual 179, 3) := by decide +kernel
theorem dX6_years_92 : decode cX6_years 92 = .ok (.pop, 1) := by decide +kernel
theorem dX6_years_93 : decode cX6_years 93 = .ok (.goto 35, 3) := by decide +kernel
theorem dX6_years_96 : decode cX6_years 96 = .ok (.iload 4, 2) := by decide +kernel
theorem dX6_years_98 : decode cX6_years 98 = .ok (.bipush 10, 2) := by decide +kernel
theorem dX6_years_100 : decode cX6_years 100 = .ok (.if_icmp .ne 14, 3) := by decide +kernel
theorem dX6_years_103 : decode cX6_years 103 = .ok (.aload_n 0, 1) := by decide +kernel
theorem dX6_years_104 : decode cX6_years 104 = .ok (.iconst 2, 1) := by decide +kernel
theorem dX6_years_105 : decode cX6_years 105 = .ok (.iconst 0, 1) := by decide +kernel
theorem dX6_years_106 : decode cX6_years 106 = .ok (.iconst 0, 1) := by decide +kernel
theorem dX6_years_107 : decode cX6_years 107 = .ok (.invokevirtual 179, 3) := by decide +kernel
theorem dX6_years_110 : decode cX6_years 110 = .ok (.pop, 1) := by decide +kernel
theorem dX6_years_111 : decode cX6_years 111 = .ok (.goto 17, 3) := by decide +kernel
theorem dX6_years_114 : decode cX6_years 114 = .ok (.aload_n 0, 1) := by decide +kernel
theorem dX6_years_115 : decode cX6_years 115 = .ok (.iconst 1, 1) := by decide +kernel
theorem dX6_years_116 : decode cX6_years 116 = .ok (.iload 4, 2) := by decide +kernel
theorem dX6_years_118 : decode cX6_years 118 = .ok (.iconst 2, 1) := by decide +kernel
theorem dX6_years_119 : decode cX6_years 119 = .ok (.idiv, 1) := by decide +kernel
theorem dX6_years_120 : decode cX6_years 120 = .ok (.iload 4, 2) := by decide +kernel
theorem dX6_years_122 : decode cX6_years 122 = .ok (.iconst 2, 1) := by decide +kernel
theorem dX6_years_123 : decode cX6_years 123 = .ok (.irem, 1) := by decide +kernel
theorem dX6_years_124 : decode cX6_years 124 = .ok (.invokevirtual 179, 3) := by decide +kernel
theorem dX6_years_127 : decode cX6_years 127 = .ok (.pop, 1) := by decide +kernel
theorem dX6_years_128 : decode cX6_years 128 = .ok (.iload_n 2, 1) := by decide +kernel
theorem dX6_years_129 : decode cX6_years 129 = .ok (.aload_n 0, 1) := by decide +kernel
theorem dX6_years_130 : decode cX6_years 130 = .ok (.iconst 1, 1) := by decide +kernel
theorem dX6_years_131 : decode cX6_years 131 = .ok (.invokevirtual 146, 3) := by decide +kernel
theorem dX6_years_134 : decode cX6_years 134 = .ok (.iadd, 1) := by decide +kernel
theorem dX6_years_135 : decode cX6_years 135 = .ok (.istore_n 2, 1) := by decide +kernel
theorem dX6_years_136 : decode cX6_years 136 = .ok (.iinc 3 1, 3) := by decide +kernel
theorem dX6_years_139 : decode cX6_years 139 = .ok (.goto (-116), 3) := by decide +kernel
theorem dX6_years_142 : decode cX6_years 142 = .ok (.iload_n 2, 1) := by decide +kernel
theorem dX6_years_143 : decode cX6_years 143 = .ok (.ireturn, 1) := by decide +kernel
set_option maxRecDepth 20000 in
theorem ggX6_keep_X6_in : GoodIn wsX6_keep wsX6_in := goodIn_r _ [7] (by decide +kernel) (by decide +kernel)
set_option maxRecDepth 20000 in
theorem gX6_keep_X6_in : GoodIn wsX6_keep (va_wsS RX6 62 yX6_in wsX6_in) := goodIn_app (goodIn_of _ (by decide +kernel)) ggX6_keep_X6_in
theorem dX6_keep_0 : decode cX6_keep 0 = .ok (.iload_n 1, 1) := by decide +kernel
theorem dX6_keep_1 : decode cX6_keep 1 = .ok (.i2l, 1) := by decide +kernel
theorem dX6_keep_2 : decode cX6_keep 2 = .ok (.lconst 0, 1) := by decide +kernel
theorem dX6_keep_3 : decode cX6_keep 3 = .ok (.lconst 1, 1) := by decide +kernel
theorem dX6_keep_4 : decode cX6_keep 4 = .ok (.invokestatic 62, 3) := by decide +kernel
theorem dX6_keep_7 : decode cX6_keep 7 = .ok (.ifCond .ne 5, 3) := by decide +kernel
theorem dX6_keep_10 : decode cX6_keep 10 = .ok (.iconst (-1), 1) := by decide +kernel
theorem dX6_keep_11 : decode cX6_keep 11 = .ok (.ireturn, 1) := by decide +kernel
theorem dX6_keep_12 : decode cX6_keep 12 = .ok (.aload_n 0, 1) := by decide +kernel
theorem dX6_keep_13 : decode cX6_keep 13 = .ok (.getfield 53, 3) := by decide +kernel
theorem dX6_keep_16 : decode cX6_keep 16 = .ok (.iload_n 1, 1) := by decide +kernel
theorem dX6_keep_17 : decode cX6_keep 17 = .ok (.iconst 1, 1) := by decide +kernel
theorem dX6_keep_18 : decode cX6_keep 18 = .ok (.bastore, 1) := by decide +kernel
theorem dX6_keep_19 : decode cX6_keep 19 = .ok (.iconst 0, 1) := by decide +kernel
theorem dX6_keep_20 : decode cX6_keep 20 = .ok (.istore_n 2, 1) := by decide +kernel
theorem dX6_keep_21 : decode cX6_keep 21 = .ok (.iload_n 2, 1) := by decide +kernel
theorem dX6_keep_22 : decode cX6_keep 22 = .ok (.bipush 16, 2) := by decide +kernel
theorem dX6_keep_24 : decode cX6_keep 24 = .ok (.if_icmp .ge 26, 3) := by decide +kernel
theorem dX6_keep_27 : decode cX6_keep 27 = .ok (.aload_n 0, 1) := by decide +kernel
theorem dX6_keep_28 : decode cX6_keep 28 = .ok (.getfield 57, 3) := by decide +kernel
theorem dX6_keep_31 : decode cX6_keep 31 = .ok (.bipush 16, 2) := by decide +kernel
theorem dX6_keep_33 : decode cX6_keep 33 = .ok (.iload_n 1, 1) := by decide +kernel
theorem dX6_keep_34 : decode cX6_keep 34 = .ok (.imul, 1) := by decide +kernel
theorem dX6_keep_35 : decode cX6_keep 35 = .ok (.iload_n 2, 1) := by decide +kernel
theorem dX6_keep_36 : decode cX6_keep 36 = .ok (.iadd, 1) := by decide +kernel
theorem dX6_keep_37 : decode cX6_keep 37 = .ok (.aload_n 0, 1) := by decide +kernel
theorem dX6_keep_38 : decode cX6_keep 38 = .ok (.getfield 22, 3) := by decide +kernel
theorem dX6_keep_41 : decode cX6_keep 41 = .ok (.iload_n 2, 1) := by decide +kernel
theorem dX6_keep_42 : decode cX6_keep 42 = .ok (.iaload, 1) := by decide +kernel
theorem dX6_keep_43 : decode cX6_keep 43 = .ok (.iastore, 1) := by decide +kernel
theorem dX6_keep_44 : decode cX6_keep 44 = .ok (.iinc 2 1, 3) := by decide +kernel
theorem dX6_keep_47 : decode cX6_keep 47 = .ok (.goto (-26), 3) := by decide +kernel
theorem dX6_keep_50 : decode cX6_keep 50 = .ok (.aload_n 0, 1) := by decide +kernel
theorem dX6_keep_51 : decode cX6_keep 51 = .ok (.getfield 22, 3) := by decide +kernel
theorem dX6_keep_54 : decode cX6_keep 54 = .ok (.bipush 15, 2) := by decide +kernel
theorem dX6_keep_56 : decode cX6_keep 56 = .ok (.iaload, 1) := by decide +kernel
theorem dX6_keep_57 : decode cX6_keep 57 = .ok (.ireturn, 1) := by decide +kernel
set_option maxRecDepth 20000 in
theorem ggX6_again_X6_in : GoodIn wsX6_again wsX6_in := goodIn_r _ [8] (by decide +kernel) (by decide +kernel)
set_option maxRecDepth 20000 in
theorem gX6_again_X6_in : GoodIn wsX6_again (va_wsS RX6 62 yX6_in wsX6_in) := goodIn_app (goodIn_of _ (by decide +kernel)) ggX6_again_X6_in
theorem dX6_again_0 : decode cX6_again 0 = .ok (.iload_n 1, 1) := by decide +kernel
theorem dX6_again_1 : decode cX6_again 1 = .ok (.i2l, 1) := by decide +kernel
theorem dX6_again_2 : decode cX6_again 2 = .ok (.lconst 0, 1) := by decide +kernel
theorem dX6_again_3 : decode cX6_again 3 = .ok (.lconst 1, 1) := by decide +kernel
theorem dX6_again_4 : decode cX6_again 4 = .ok (.invokestatic 62, 3) := by decide +kernel
theorem dX6_again_7 : decode cX6_again 7 = .ok (.ifCond .ne 5, 3) := by decide +kernel
theorem dX6_again_10 : decode cX6_again 10 = .ok (.iconst (-1), 1) := by decide +kernel
theorem dX6_again_11 : decode cX6_again 11 = .ok (.ireturn, 1) := by decide +kernel
theorem dX6_again_12 : decode cX6_again 12 = .ok (.aload_n 0, 1) := by decide +kernel
theorem dX6_again_13 : decode cX6_again 13 = .ok (.getfield 53, 3) := by decide +kernel
theorem dX6_again_16 : decode cX6_again 16 = .ok (.iload_n 1, 1) := by decide +kernel
theorem dX6_again_17 : decode cX6_again 17 = .ok (.baload, 1) := by decide +kernel
theorem dX6_again_18 : decode cX6_again 18 = .ok (.ifCond .ne 6, 3) := by decide +kernel
theorem dX6_again_21 : decode cX6_again 21 = .ok (.bipush (-3), 2) := by decide +kernel
theorem dX6_again_23 : decode cX6_again 23 = .ok (.ireturn, 1) := by decide +kernel
theorem dX6_again_24 : decode cX6_again 24 = .ok (.iconst 0, 1) := by decide +kernel
theorem dX6_again_25 : decode cX6_again 25 = .ok (.istore_n 2, 1) := by decide +kernel
theorem dX6_again_26 : decode cX6_again 26 = .ok (.iload_n 2, 1) := by decide +kernel
theorem dX6_again_27 : decode cX6_again 27 = .ok (.bipush 16, 2) := by decide +kernel
theorem dX6_again_29 : decode cX6_again 29 = .ok (.if_icmp .ge 26, 3) := by decide +kernel
theorem dX6_again_32 : decode cX6_again 32 = .ok (.aload_n 0, 1) := by decide +kernel
theorem dX6_again_33 : decode cX6_again 33 = .ok (.getfield 22, 3) := by decide +kernel
theorem dX6_again_36 : decode cX6_again 36 = .ok (.iload_n 2, 1) := by decide +kernel
theorem dX6_again_37 : decode cX6_again 37 = .ok (.aload_n 0, 1) := by decide +kernel
theorem dX6_again_38 : decode cX6_again 38 = .ok (.getfield 57, 3) := by decide +kernel
theorem dX6_again_41 : decode cX6_again 41 = .ok (.bipush 16, 2) := by decide +kernel
theorem dX6_again_43 : decode cX6_again 43 = .ok (.iload_n 1, 1) := by decide +kernel
theorem dX6_again_44 : decode cX6_again 44 = .ok (.imul, 1) := by decide +kernel
theorem dX6_again_45 : decode cX6_again 45 = .ok (.iload_n 2, 1) := by decide +kernel
theorem dX6_again_46 : decode cX6_again 46 = .ok (.iadd, 1) := by decide +kernel
theorem dX6_again_47 : decode cX6_again 47 = .ok (.iaload, 1) := by decide +kernel
theorem dX6_again_48 : decode cX6_again 48 = .ok (.iastore, 1) := by decide +kernel
theorem dX6_again_49 : decode cX6_again 49 = .ok (.iinc 2 1, 3) := by decide +kernel
theorem dX6_again_52 : decode cX6_again 52 = .ok (.goto (-26), 3) := by decide +kernel
theorem dX6_again_55 : decode cX6_again 55 = .ok (.aload_n 0, 1) := by decide +kernel
theorem dX6_again_56 : decode cX6_again 56 = .ok (.iconst 0, 1) := by decide +kernel
theorem dX6_again_57 : decode cX6_again 57 = .ok (.putfield 99, 3) := by decide +kernel
theorem dX6_again_60 : decode cX6_again 60 = .ok (.aload_n 0, 1) := by decide +kernel
theorem dX6_again_61 : decode cX6_again 61 = .ok (.getfield 22, 3) := by decide +kernel
theorem dX6_again_64 : decode cX6_again 64 = .ok (.bipush 15, 2) := by decide +kernel
theorem dX6_again_66 : decode cX6_again 66 = .ok (.iaload, 1) := by decide +kernel
theorem dX6_again_67 : decode cX6_again 67 = .ok (.ireturn, 1) := by decide +kernel
set_option maxRecDepth 20000 in
theorem ggX6_count_X6_dustOn : GoodIn wsX6_count wsX6_dustOn := goodIn_r _ [11, 4, 16, 17, 18, 19, 20, 21, 22, 23, 24, 25, 26, 27, 28, 29, 30, 31, 32, 33, 34, 35, 36, 37, 38, 39, 40, 41, 42] (by decide +kernel) (by decide +kernel)
set_option maxRecDepth 20000 in
theorem gX6_count_X6_dustOn : GoodIn wsX6_count (wsV RX6 146 RX6 yX6_dustOn wsX6_dustOn) := goodIn_app (goodIn_of _ (by decide +kernel)) ggX6_count_X6_dustOn
set_option maxRecDepth 20000 in
theorem ggX6_count_X6_kneesOn : GoodIn wsX6_count wsX6_kneesOn := goodIn_r _ [15, 4, 16, 17, 18, 19, 20, 21, 22, 23, 24, 25, 26, 27, 28, 29, 30, 31, 32, 33, 34, 35, 36, 37, 38, 39, 40, 41, 42] (by decide +kernel) (by decide +kernel)
set_option maxRecDepth 20000 in
theorem gX6_count_X6_kneesOn : GoodIn wsX6_count (wsV RX6 123 RX6 yX6_kneesOn wsX6_kneesOn) := goodIn_app (goodIn_of _ (by decide +kernel)) ggX6_count_X6_kneesOn
theorem dX6_count_0 : decode cX6_count 0 = .ok (.iload_n 1, 1) := by decide +kernel
theorem dX6_count_1 : decode cX6_count 1 = .ok (.tableswitch 116 0 9 #[55, 60, 65, 70, 78, 84, 90, 98, 106, 111], 55) := by decide +kernel
theorem dX6_count_56 : decode cX6_count 56 = .ok (.aload_n 0, 1) := by decide +kernel
theorem dX6_count_57 : decode cX6_count 57 = .ok (.getfield 66, 3) := by decide +kernel
theorem dX6_count_60 : decode cX6_count 60 = .ok (.ireturn, 1) := by decide +kernel
theorem dX6_count_61 : decode cX6_count 61 = .ok (.aload_n 0, 1) := by decide +kernel
theorem dX6_count_62 : decode cX6_count 62 = .ok (.getfield 93, 3) := by decide +kernel
theorem dX6_count_65 : decode cX6_count 65 = .ok (.ireturn, 1) := by decide +kernel
theorem dX6_count_66 : decode cX6_count 66 = .ok (.aload_n 0, 1) := by decide +kernel
theorem dX6_count_67 : decode cX6_count 67 = .ok (.getfield 96, 3) := by decide +kernel
theorem dX6_count_70 : decode cX6_count 70 = .ok (.ireturn, 1) := by decide +kernel
theorem dX6_count_71 : decode cX6_count 71 = .ok (.aload_n 0, 1) := by decide +kernel
theorem dX6_count_72 : decode cX6_count 72 = .ok (.getfield 22, 3) := by decide +kernel
theorem dX6_count_75 : decode cX6_count 75 = .ok (.bipush 15, 2) := by decide +kernel
theorem dX6_count_77 : decode cX6_count 77 = .ok (.iaload, 1) := by decide +kernel
theorem dX6_count_78 : decode cX6_count 78 = .ok (.ireturn, 1) := by decide +kernel
theorem dX6_count_79 : decode cX6_count 79 = .ok (.aload_n 0, 1) := by decide +kernel
theorem dX6_count_80 : decode cX6_count 80 = .ok (.iconst 0, 1) := by decide +kernel
theorem dX6_count_81 : decode cX6_count 81 = .ok (.invokevirtual 146, 3) := by decide +kernel
theorem dX6_count_84 : decode cX6_count 84 = .ok (.ireturn, 1) := by decide +kernel
theorem dX6_count_85 : decode cX6_count 85 = .ok (.aload_n 0, 1) := by decide +kernel
theorem dX6_count_86 : decode cX6_count 86 = .ok (.iconst 0, 1) := by decide +kernel
theorem dX6_count_87 : decode cX6_count 87 = .ok (.invokevirtual 123, 3) := by decide +kernel
theorem dX6_count_90 : decode cX6_count 90 = .ok (.ireturn, 1) := by decide +kernel
theorem dX6_count_91 : decode cX6_count 91 = .ok (.aload_n 0, 1) := by decide +kernel
theorem dX6_count_92 : decode cX6_count 92 = .ok (.getfield 22, 3) := by decide +kernel
theorem dX6_count_95 : decode cX6_count 95 = .ok (.bipush 13, 2) := by decide +kernel
theorem dX6_count_97 : decode cX6_count 97 = .ok (.iaload, 1) := by decide +kernel
theorem dX6_count_98 : decode cX6_count 98 = .ok (.ireturn, 1) := by decide +kernel
theorem dX6_count_99 : decode cX6_count 99 = .ok (.aload_n 0, 1) := by decide +kernel
theorem dX6_count_100 : decode cX6_count 100 = .ok (.getfield 22, 3) := by decide +kernel
theorem dX6_count_103 : decode cX6_count 103 = .ok (.bipush 14, 2) := by decide +kernel
theorem dX6_count_105 : decode cX6_count 105 = .ok (.iaload, 1) := by decide +kernel
theorem dX6_count_106 : decode cX6_count 106 = .ok (.ireturn, 1) := by decide +kernel
theorem dX6_count_107 : decode cX6_count 107 = .ok (.aload_n 0, 1) := by decide +kernel
theorem dX6_count_108 : decode cX6_count 108 = .ok (.getfield 99, 3) := by decide +kernel
theorem dX6_count_111 : decode cX6_count 111 = .ok (.ireturn, 1) := by decide +kernel
theorem dX6_count_112 : decode cX6_count 112 = .ok (.aload_n 0, 1) := by decide +kernel
theorem dX6_count_113 : decode cX6_count 113 = .ok (.getfield 185, 3) := by decide +kernel
theorem dX6_count_116 : decode cX6_count 116 = .ok (.ireturn, 1) := by decide +kernel
theorem dX6_count_117 : decode cX6_count 117 = .ok (.bipush (-2), 2) := by decide +kernel
theorem dX6_count_119 : decode cX6_count 119 = .ok (.ireturn, 1) := by decide +kernel
theorem dJ6_bitCount_0f7a4_0 : decode cJ6_bitCount_0f7a4 0 = .ok (.iload_n 0, 1) := by decide +kernel
theorem dJ6_bitCount_0f7a4_1 : decode cJ6_bitCount_0f7a4 1 = .ok (.iload_n 0, 1) := by decide +kernel
theorem dJ6_bitCount_0f7a4_2 : decode cJ6_bitCount_0f7a4 2 = .ok (.iconst 1, 1) := by decide +kernel
theorem dJ6_bitCount_0f7a4_3 : decode cJ6_bitCount_0f7a4 3 = .ok (.iushr, 1) := by decide +kernel
theorem dJ6_bitCount_0f7a4_4 : decode cJ6_bitCount_0f7a4 4 = .ok (.ldc_w 265, 3) := by decide +kernel
theorem dJ6_bitCount_0f7a4_7 : decode cJ6_bitCount_0f7a4 7 = .ok (.iand, 1) := by decide +kernel
theorem dJ6_bitCount_0f7a4_8 : decode cJ6_bitCount_0f7a4 8 = .ok (.isub, 1) := by decide +kernel
theorem dJ6_bitCount_0f7a4_9 : decode cJ6_bitCount_0f7a4 9 = .ok (.istore_n 0, 1) := by decide +kernel
theorem dJ6_bitCount_0f7a4_10 : decode cJ6_bitCount_0f7a4 10 = .ok (.iload_n 0, 1) := by decide +kernel
theorem dJ6_bitCount_0f7a4_11 : decode cJ6_bitCount_0f7a4 11 = .ok (.ldc_w 266, 3) := by decide +kernel
theorem dJ6_bitCount_0f7a4_14 : decode cJ6_bitCount_0f7a4 14 = .ok (.iand, 1) := by decide +kernel
theorem dJ6_bitCount_0f7a4_15 : decode cJ6_bitCount_0f7a4 15 = .ok (.iload_n 0, 1) := by decide +kernel
theorem dJ6_bitCount_0f7a4_16 : decode cJ6_bitCount_0f7a4 16 = .ok (.iconst 2, 1) := by decide +kernel
theorem dJ6_bitCount_0f7a4_17 : decode cJ6_bitCount_0f7a4 17 = .ok (.iushr, 1) := by decide +kernel
theorem dJ6_bitCount_0f7a4_18 : decode cJ6_bitCount_0f7a4 18 = .ok (.ldc_w 266, 3) := by decide +kernel
theorem dJ6_bitCount_0f7a4_21 : decode cJ6_bitCount_0f7a4 21 = .ok (.iand, 1) := by decide +kernel
theorem dJ6_bitCount_0f7a4_22 : decode cJ6_bitCount_0f7a4 22 = .ok (.iadd, 1) := by decide +kernel
theorem dJ6_bitCount_0f7a4_23 : decode cJ6_bitCount_0f7a4 23 = .ok (.istore_n 0, 1) := by decide +kernel
theorem dJ6_bitCount_0f7a4_24 : decode cJ6_bitCount_0f7a4 24 = .ok (.iload_n 0, 1) := by decide +kernel
theorem dJ6_bitCount_0f7a4_25 : decode cJ6_bitCount_0f7a4 25 = .ok (.iload_n 0, 1) := by decide +kernel
theorem dJ6_bitCount_0f7a4_26 : decode cJ6_bitCount_0f7a4 26 = .ok (.iconst 4, 1) := by decide +kernel
theorem dJ6_bitCount_0f7a4_27 : decode cJ6_bitCount_0f7a4 27 = .ok (.iushr, 1) := by decide +kernel
theorem dJ6_bitCount_0f7a4_28 : decode cJ6_bitCount_0f7a4 28 = .ok (.iadd, 1) := by decide +kernel
theorem dJ6_bitCount_0f7a4_29 : decode cJ6_bitCount_0f7a4 29 = .ok (.ldc_w 267, 3) := by decide +kernel
theorem dJ6_bitCount_0f7a4_32 : decode cJ6_bitCount_0f7a4 32 = .ok (.iand, 1) := by decide +kernel
theorem dJ6_bitCount_0f7a4_33 : decode cJ6_bitCount_0f7a4 33 = .ok (.istore_n 0, 1) := by decide +kernel
theorem dJ6_bitCount_0f7a4_34 : decode cJ6_bitCount_0f7a4 34 = .ok (.iload_n 0, 1) := by decide +kernel
theorem dJ6_bitCount_0f7a4_35 : decode cJ6_bitCount_0f7a4 35 = .ok (.iload_n 0, 1) := by decide +kernel
theorem dJ6_bitCount_0f7a4_36 : decode cJ6_bitCount_0f7a4 36 = .ok (.bipush 8, 2) := by decide +kernel
theorem dJ6_bitCount_0f7a4_38 : decode cJ6_bitCount_0f7a4 38 = .ok (.iushr, 1) := by decide +kernel
theorem dJ6_bitCount_0f7a4_39 : decode cJ6_bitCount_0f7a4 39 = .ok (.iadd, 1) := by decide +kernel
theorem dJ6_bitCount_0f7a4_40 : decode cJ6_bitCount_0f7a4 40 = .ok (.istore_n 0, 1) := by decide +kernel
theorem dJ6_bitCount_0f7a4_41 : decode cJ6_bitCount_0f7a4 41 = .ok (.iload_n 0, 1) := by decide +kernel
theorem dJ6_bitCount_0f7a4_42 : decode cJ6_bitCount_0f7a4 42 = .ok (.iload_n 0, 1) := by decide +kernel
theorem dJ6_bitCount_0f7a4_43 : decode cJ6_bitCount_0f7a4 43 = .ok (.bipush 16, 2) := by decide +kernel
theorem dJ6_bitCount_0f7a4_45 : decode cJ6_bitCount_0f7a4 45 = .ok (.iushr, 1) := by decide +kernel
theorem dJ6_bitCount_0f7a4_46 : decode cJ6_bitCount_0f7a4 46 = .ok (.iadd, 1) := by decide +kernel
theorem dJ6_bitCount_0f7a4_47 : decode cJ6_bitCount_0f7a4 47 = .ok (.istore_n 0, 1) := by decide +kernel
theorem dJ6_bitCount_0f7a4_48 : decode cJ6_bitCount_0f7a4 48 = .ok (.iload_n 0, 1) := by decide +kernel
theorem dJ6_bitCount_0f7a4_49 : decode cJ6_bitCount_0f7a4 49 = .ok (.bipush 63, 2) := by decide +kernel
theorem dJ6_bitCount_0f7a4_51 : decode cJ6_bitCount_0f7a4 51 = .ok (.iand, 1) := by decide +kernel
theorem dJ6_bitCount_0f7a4_52 : decode cJ6_bitCount_0f7a4 52 = .ok (.ireturn, 1) := by decide +kernel
theorem dJ9_abs_067f4_0 : decode cJ9_abs_067f4 0 = .ok (.lload_n 0, 1) := by decide +kernel
theorem dJ9_abs_067f4_1 : decode cJ9_abs_067f4 1 = .ok (.lconst 0, 1) := by decide +kernel
theorem dJ9_abs_067f4_2 : decode cJ9_abs_067f4 2 = .ok (.lcmp, 1) := by decide +kernel
theorem dJ9_abs_067f4_3 : decode cJ9_abs_067f4 3 = .ok (.ifCond .ge 8, 3) := by decide +kernel
theorem dJ9_abs_067f4_6 : decode cJ9_abs_067f4 6 = .ok (.lload_n 0, 1) := by decide +kernel
theorem dJ9_abs_067f4_7 : decode cJ9_abs_067f4 7 = .ok (.lneg, 1) := by decide +kernel
theorem dJ9_abs_067f4_8 : decode cJ9_abs_067f4 8 = .ok (.goto 4, 3) := by decide +kernel
theorem dJ9_abs_067f4_11 : decode cJ9_abs_067f4 11 = .ok (.lload_n 0, 1) := by decide +kernel
theorem dJ9_abs_067f4_12 : decode cJ9_abs_067f4 12 = .ok (.lreturn, 1) := by decide +kernel
theorem dJ9_max_f86c9_0 : decode cJ9_max_f86c9 0 = .ok (.lload_n 0, 1) := by decide +kernel
theorem dJ9_max_f86c9_1 : decode cJ9_max_f86c9 1 = .ok (.lload_n 2, 1) := by decide +kernel
theorem dJ9_max_f86c9_2 : decode cJ9_max_f86c9 2 = .ok (.lcmp, 1) := by decide +kernel
theorem dJ9_max_f86c9_3 : decode cJ9_max_f86c9 3 = .ok (.ifCond .lt 7, 3) := by decide +kernel
theorem dJ9_max_f86c9_6 : decode cJ9_max_f86c9 6 = .ok (.lload_n 0, 1) := by decide +kernel
theorem dJ9_max_f86c9_7 : decode cJ9_max_f86c9 7 = .ok (.goto 4, 3) := by decide +kernel
theorem dJ9_max_f86c9_10 : decode cJ9_max_f86c9 10 = .ok (.lload_n 2, 1) := by decide +kernel
theorem dJ9_max_f86c9_11 : decode cJ9_max_f86c9 11 = .ok (.lreturn, 1) := by decide +kernel
theorem dJ9_min_7cf53_0 : decode cJ9_min_7cf53 0 = .ok (.iload_n 0, 1) := by decide +kernel
theorem dJ9_min_7cf53_1 : decode cJ9_min_7cf53 1 = .ok (.iload_n 1, 1) := by decide +kernel
theorem dJ9_min_7cf53_2 : decode cJ9_min_7cf53 2 = .ok (.if_icmp .gt 7, 3) := by decide +kernel
theorem dJ9_min_7cf53_5 : decode cJ9_min_7cf53 5 = .ok (.iload_n 0, 1) := by decide +kernel
theorem dJ9_min_7cf53_6 : decode cJ9_min_7cf53 6 = .ok (.goto 4, 3) := by decide +kernel
theorem dJ9_min_7cf53_9 : decode cJ9_min_7cf53 9 = .ok (.iload_n 1, 1) := by decide +kernel
theorem dJ9_min_7cf53_10 : decode cJ9_min_7cf53 10 = .ok (.ireturn, 1) := by decide +kernel
abbrev vwCl : List vw_C := [(RX0, TX0, 3), (RX1, TX1, 4), (RX2, TX2, 7), (RX3, TX3, 2), (RX4, TX4, 8), (RX5, TX5, 9), (RX6, TX6, 27)]
