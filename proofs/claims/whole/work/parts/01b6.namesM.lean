theorem dX9_rest_167 : decode cX9_rest 167 = .ok (.iload 10, 2) := by decide +kernel
theorem dX9_rest_169 : decode cX9_rest 169 = .ok (.bipush (-2), 2) := by decide +kernel
theorem dX9_rest_171 : decode cX9_rest 171 = .ok (.if_icmp .eq 7, 3) := by decide +kernel
theorem dX9_rest_174 : decode cX9_rest 174 = .ok (.iconst 1, 1) := by decide +kernel
theorem dX9_rest_175 : decode cX9_rest 175 = .ok (.goto 4, 3) := by decide +kernel
theorem dX9_rest_178 : decode cX9_rest 178 = .ok (.iconst 0, 1) := by decide +kernel
theorem dX9_rest_179 : decode cX9_rest 179 = .ok (.iand, 1) := by decide +kernel
theorem dX9_rest_180 : decode cX9_rest 180 = .ok (.istore 8, 2) := by decide +kernel
theorem dX9_rest_182 : decode cX9_rest 182 = .ok (.iload 7, 2) := by decide +kernel
theorem dX9_rest_184 : decode cX9_rest 184 = .ok (.iload 10, 2) := by decide +kernel
theorem dX9_rest_186 : decode cX9_rest 186 = .ok (.iadd, 1) := by decide +kernel
theorem dX9_rest_187 : decode cX9_rest 187 = .ok (.istore 7, 2) := by decide +kernel
theorem dX9_rest_189 : decode cX9_rest 189 = .ok (.iinc 9 1, 3) := by decide +kernel
theorem dX9_rest_192 : decode cX9_rest 192 = .ok (.goto (-109), 3) := by decide +kernel
theorem dX9_rest_195 : decode cX9_rest 195 = .ok (.iload 8, 2) := by decide +kernel
theorem dX9_rest_197 : decode cX9_rest 197 = .ok (.ifCond .eq 22, 3) := by decide +kernel
theorem dX9_rest_200 : decode cX9_rest 200 = .ok (.iload 5, 2) := by decide +kernel
theorem dX9_rest_202 : decode cX9_rest 202 = .ok (.bipush (-2), 2) := by decide +kernel
theorem dX9_rest_204 : decode cX9_rest 204 = .ok (.if_icmp .eq 10, 3) := by decide +kernel
theorem dX9_rest_207 : decode cX9_rest 207 = .ok (.iload 7, 2) := by decide +kernel
theorem dX9_rest_209 : decode cX9_rest 209 = .ok (.iload 5, 2) := by decide +kernel
theorem dX9_rest_211 : decode cX9_rest 211 = .ok (.if_icmp .ge 8, 3) := by decide +kernel
theorem dX9_rest_214 : decode cX9_rest 214 = .ok (.iload 7, 2) := by decide +kernel
theorem dX9_rest_216 : decode cX9_rest 216 = .ok (.goto 5, 3) := by decide +kernel
theorem dX9_rest_219 : decode cX9_rest 219 = .ok (.iload 5, 2) := by decide +kernel
theorem dX9_rest_221 : decode cX9_rest 221 = .ok (.istore 5, 2) := by decide +kernel
theorem dX9_rest_223 : decode cX9_rest 223 = .ok (.iinc 6 1, 3) := by decide +kernel
theorem dX9_rest_226 : decode cX9_rest 226 = .ok (.goto (-169), 3) := by decide +kernel
theorem dX9_rest_229 : decode cX9_rest 229 = .ok (.iload 5, 2) := by decide +kernel
theorem dX9_rest_231 : decode cX9_rest 231 = .ok (.ireturn, 1) := by decide +kernel
set_option maxRecDepth 20000 in
theorem ggX9_voice_X9_isChord : GoodIn wsX9_voice wsX9_isChord := goodIn_r _ [10, 11, 12, 13, 9, 14, 47, 48, 49, 50, 51, 52, 53, 54, 55, 56, 57, 58, 59, 60, 61, 62, 63, 64, 65, 66, 67, 68, 69, 70, 71, 72, 73, 74, 75, 76, 77, 78, 79, 80, 81, 82] (by decide +kernel) (by decide +kernel)
set_option maxRecDepth 20000 in
theorem gX9_voice_X9_isChord : GoodIn wsX9_voice (wsV RX9 291 RX9 yX9_isChord wsX9_isChord) := goodIn_app (goodIn_of _ (by decide +kernel)) ggX9_voice_X9_isChord
set_option maxRecDepth 20000 in
theorem ggX9_voice_X9_isIn : GoodIn wsX9_voice wsX9_isIn := goodIn_r _ [14] (by decide +kernel) (by decide +kernel)
set_option maxRecDepth 20000 in
theorem gX9_voice_X9_isIn : GoodIn wsX9_voice (va_wsS RX9 215 yX9_isIn wsX9_isIn) := goodIn_app (goodIn_of _ (by decide +kernel)) ggX9_voice_X9_isIn
set_option maxRecDepth 20000 in
theorem ggX9_voice_X9_setOf : GoodIn wsX9_voice wsX9_setOf := goodIn_r _ [18, 19, 20, 21, 22, 23, 9, 24, 25, 26, 27, 28, 29, 30, 31, 32, 33, 34, 35, 47, 48, 49, 50, 51, 52, 53, 54, 55, 56, 57, 58, 59, 60, 61, 62, 63, 64, 65, 66, 67, 68, 69, 70, 71, 72, 73, 74, 75, 76, 77, 78, 79, 80, 81, 82] (by decide +kernel) (by decide +kernel)
set_option maxRecDepth 20000 in
theorem gX9_voice_X9_setOf : GoodIn wsX9_voice (wsV RX9 294 RX9 yX9_setOf wsX9_setOf) := goodIn_app (goodIn_of _ (by decide +kernel)) ggX9_voice_X9_setOf
set_option maxRecDepth 20000 in
theorem ggX9_voice_X9_bassOf : GoodIn wsX9_voice wsX9_bassOf := goodIn_r _ [24, 25, 26, 27, 9, 28, 29, 30, 31, 47, 48, 49, 50, 51, 52, 53, 54, 55, 56, 57, 58, 59, 60, 61, 62, 63, 64, 65, 66, 67, 68, 69, 70, 71, 72, 73, 74, 75, 76, 77, 78, 79, 80, 81, 82] (by decide +kernel) (by decide +kernel)
set_option maxRecDepth 20000 in
theorem gX9_voice_X9_bassOf : GoodIn wsX9_voice (wsV RX9 278 RX9 yX9_bassOf wsX9_bassOf) := goodIn_app (goodIn_of _ (by decide +kernel)) ggX9_voice_X9_bassOf
set_option maxRecDepth 20000 in
theorem ggX9_voice_X9_nearest : GoodIn wsX9_voice wsX9_nearest := goodIn_r _ [39, 4, 5, 40, 41, 9, 42, 47, 48, 49, 50, 51, 52, 53, 54, 55, 56, 57, 58, 59, 60, 61, 62, 63, 64, 65, 66, 67, 68, 69, 70, 71, 72, 73, 74, 75, 76, 77, 78, 79, 80, 81, 82] (by decide +kernel) (by decide +kernel)
set_option maxRecDepth 20000 in
theorem gX9_voice_X9_nearest : GoodIn wsX9_voice (wsV RX9 350 RX9 yX9_nearest wsX9_nearest) := goodIn_app (goodIn_of _ (by decide +kernel)) ggX9_voice_X9_nearest
set_option maxRecDepth 20000 in
theorem ggX9_voice_X9_rest : GoodIn wsX9_voice wsX9_rest := goodIn_r _ [46, 3, 2, 1, 47, 48, 49, 50, 51, 52, 53, 54, 55, 56, 57, 58, 59, 60, 61, 62, 63, 64, 65, 66, 67, 68, 69, 70, 71, 72, 73, 74, 75, 76, 77, 78, 79, 80, 81, 82] (by decide +kernel) (by decide +kernel)
set_option maxRecDepth 20000 in
theorem gX9_voice_X9_rest : GoodIn wsX9_voice (wsV RX9 353 RX9 yX9_rest wsX9_rest) := goodIn_app (goodIn_of _ (by decide +kernel)) ggX9_voice_X9_rest
theorem dX9_voice_0 : decode cX9_voice 0 = .ok (.aload_n 0, 1) := by decide +kernel
theorem dX9_voice_1 : decode cX9_voice 1 = .ok (.iload_n 1, 1) := by decide +kernel
theorem dX9_voice_2 : decode cX9_voice 2 = .ok (.invokevirtual 291, 3) := by decide +kernel
theorem dX9_voice_5 : decode cX9_voice 5 = .ok (.ifCond .eq 31, 3) := by decide +kernel
theorem dX9_voice_8 : decode cX9_voice 8 = .ok (.iload_n 2, 1) := by decide +kernel
theorem dX9_voice_9 : decode cX9_voice 9 = .ok (.iconst 0, 1) := by decide +kernel
theorem dX9_voice_10 : decode cX9_voice 10 = .ok (.bipush 127, 2) := by decide +kernel
theorem dX9_voice_12 : decode cX9_voice 12 = .ok (.invokestatic 215, 3) := by decide +kernel
theorem dX9_voice_15 : decode cX9_voice 15 = .ok (.ifCond .eq 21, 3) := by decide +kernel
theorem dX9_voice_18 : decode cX9_voice 18 = .ok (.iload_n 3, 1) := by decide +kernel
theorem dX9_voice_19 : decode cX9_voice 19 = .ok (.iload_n 2, 1) := by decide +kernel
theorem dX9_voice_20 : decode cX9_voice 20 = .ok (.bipush 127, 2) := by decide +kernel
theorem dX9_voice_22 : decode cX9_voice 22 = .ok (.invokestatic 215, 3) := by decide +kernel
theorem dX9_voice_25 : decode cX9_voice 25 = .ok (.ifCond .eq 11, 3) := by decide +kernel
theorem dX9_voice_28 : decode cX9_voice 28 = .ok (.iload_n 3, 1) := by decide +kernel
theorem dX9_voice_29 : decode cX9_voice 29 = .ok (.iload_n 2, 1) := by decide +kernel
theorem dX9_voice_30 : decode cX9_voice 30 = .ok (.isub, 1) := by decide +kernel
theorem dX9_voice_31 : decode cX9_voice 31 = .ok (.bipush 36, 2) := by decide +kernel
theorem dX9_voice_33 : decode cX9_voice 33 = .ok (.if_icmp .le 5, 3) := by decide +kernel
theorem dX9_voice_36 : decode cX9_voice 36 = .ok (.iconst (-1), 1) := by decide +kernel
theorem dX9_voice_37 : decode cX9_voice 37 = .ok (.ireturn, 1) := by decide +kernel
theorem dX9_voice_38 : decode cX9_voice 38 = .ok (.aload_n 0, 1) := by decide +kernel
theorem dX9_voice_39 : decode cX9_voice 39 = .ok (.iload_n 1, 1) := by decide +kernel
theorem dX9_voice_40 : decode cX9_voice 40 = .ok (.invokevirtual 294, 3) := by decide +kernel
theorem dX9_voice_43 : decode cX9_voice 43 = .ok (.istore 4, 2) := by decide +kernel
theorem dX9_voice_45 : decode cX9_voice 45 = .ok (.aload_n 0, 1) := by decide +kernel
theorem dX9_voice_46 : decode cX9_voice 46 = .ok (.iload_n 1, 1) := by decide +kernel
theorem dX9_voice_47 : decode cX9_voice 47 = .ok (.invokevirtual 278, 3) := by decide +kernel
theorem dX9_voice_50 : decode cX9_voice 50 = .ok (.istore 5, 2) := by decide +kernel
theorem dX9_voice_52 : decode cX9_voice 52 = .ok (.iload 4, 2) := by decide +kernel
theorem dX9_voice_54 : decode cX9_voice 54 = .ok (.iconst 1, 1) := by decide +kernel
theorem dX9_voice_55 : decode cX9_voice 55 = .ok (.iload 5, 2) := by decide +kernel
theorem dX9_voice_57 : decode cX9_voice 57 = .ok (.ishl, 1) := by decide +kernel
theorem dX9_voice_58 : decode cX9_voice 58 = .ok (.iconst (-1), 1) := by decide +kernel
theorem dX9_voice_59 : decode cX9_voice 59 = .ok (.ixor, 1) := by decide +kernel
theorem dX9_voice_60 : decode cX9_voice 60 = .ok (.iand, 1) := by decide +kernel
theorem dX9_voice_61 : decode cX9_voice 61 = .ok (.istore 6, 2) := by decide +kernel
theorem dX9_voice_63 : decode cX9_voice 63 = .ok (.iconst 0, 1) := by decide +kernel
theorem dX9_voice_64 : decode cX9_voice 64 = .ok (.istore 7, 2) := by decide +kernel
theorem dX9_voice_66 : decode cX9_voice 66 = .ok (.iload 7, 2) := by decide +kernel
theorem dX9_voice_68 : decode cX9_voice 68 = .ok (.sipush 128, 3) := by decide +kernel
theorem dX9_voice_71 : decode cX9_voice 71 = .ok (.if_icmp .ge 22, 3) := by decide +kernel
theorem dX9_voice_74 : decode cX9_voice 74 = .ok (.aload_n 0, 1) := by decide +kernel
theorem dX9_voice_75 : decode cX9_voice 75 = .ok (.getfield 184, 3) := by decide +kernel
theorem dX9_voice_78 : decode cX9_voice 78 = .ok (.iload 7, 2) := by decide +kernel
theorem dX9_voice_80 : decode cX9_voice 80 = .ok (.aload_n 0, 1) := by decide +kernel
theorem dX9_voice_81 : decode cX9_voice 81 = .ok (.iload 7, 2) := by decide +kernel
theorem dX9_voice_83 : decode cX9_voice 83 = .ok (.invokevirtual 350, 3) := by decide +kernel
theorem dX9_voice_86 : decode cX9_voice 86 = .ok (.iastore, 1) := by decide +kernel
theorem dX9_voice_87 : decode cX9_voice 87 = .ok (.iinc 7 1, 3) := by decide +kernel
theorem dX9_voice_90 : decode cX9_voice 90 = .ok (.goto (-24), 3) := by decide +kernel
theorem dX9_voice_93 : decode cX9_voice 93 = .ok (.bipush (-2), 2) := by decide +kernel
theorem dX9_voice_95 : decode cX9_voice 95 = .ok (.istore 7, 2) := by decide +kernel
theorem dX9_voice_97 : decode cX9_voice 97 = .ok (.bipush (-2), 2) := by decide +kernel
theorem dX9_voice_99 : decode cX9_voice 99 = .ok (.istore 8, 2) := by decide +kernel
theorem dX9_voice_101 : decode cX9_voice 101 = .ok (.aload_n 0, 1) := by decide +kernel
theorem dX9_voice_102 : decode cX9_voice 102 = .ok (.iconst 1, 1) := by decide +kernel
theorem dX9_voice_103 : decode cX9_voice 103 = .ok (.putfield 347, 3) := by decide +kernel
theorem dX9_voice_106 : decode cX9_voice 106 = .ok (.iload_n 2, 1) := by decide +kernel
theorem dX9_voice_107 : decode cX9_voice 107 = .ok (.istore 9, 2) := by decide +kernel
theorem dX9_voice_109 : decode cX9_voice 109 = .ok (.iload 9, 2) := by decide +kernel
theorem dX9_voice_111 : decode cX9_voice 111 = .ok (.iload_n 3, 1) := by decide +kernel
theorem dX9_voice_112 : decode cX9_voice 112 = .ok (.if_icmp .gt 70, 3) := by decide +kernel
theorem dX9_voice_115 : decode cX9_voice 115 = .ok (.aload_n 0, 1) := by decide +kernel
theorem dX9_voice_116 : decode cX9_voice 116 = .ok (.getfield 187, 3) := by decide +kernel
theorem dX9_voice_119 : decode cX9_voice 119 = .ok (.iconst 0, 1) := by decide +kernel
theorem dX9_voice_120 : decode cX9_voice 120 = .ok (.iload 9, 2) := by decide +kernel
theorem dX9_voice_122 : decode cX9_voice 122 = .ok (.iastore, 1) := by decide +kernel
theorem dX9_voice_123 : decode cX9_voice 123 = .ok (.iload 9, 2) := by decide +kernel
theorem dX9_voice_125 : decode cX9_voice 125 = .ok (.bipush 12, 2) := by decide +kernel
theorem dX9_voice_127 : decode cX9_voice 127 = .ok (.irem, 1) := by decide +kernel
theorem dX9_voice_128 : decode cX9_voice 128 = .ok (.iload 5, 2) := by decide +kernel
theorem dX9_voice_130 : decode cX9_voice 130 = .ok (.if_icmp .ne 13, 3) := by decide +kernel
theorem dX9_voice_133 : decode cX9_voice 133 = .ok (.aload_n 0, 1) := by decide +kernel
theorem dX9_voice_134 : decode cX9_voice 134 = .ok (.iload 6, 2) := by decide +kernel
theorem dX9_voice_136 : decode cX9_voice 136 = .ok (.iload_n 3, 1) := by decide +kernel
theorem dX9_voice_137 : decode cX9_voice 137 = .ok (.invokevirtual 353, 3) := by decide +kernel
theorem dX9_voice_140 : decode cX9_voice 140 = .ok (.goto 5, 3) := by decide +kernel
theorem dX9_voice_143 : decode cX9_voice 143 = .ok (.bipush (-2), 2) := by decide +kernel
theorem dX9_voice_145 : decode cX9_voice 145 = .ok (.istore 10, 2) := by decide +kernel
theorem dX9_voice_147 : decode cX9_voice 147 = .ok (.iload 10, 2) := by decide +kernel
theorem dX9_voice_149 : decode cX9_voice 149 = .ok (.bipush (-2), 2) := by decide +kernel
theorem dX9_voice_151 : decode cX9_voice 151 = .ok (.if_icmp .eq 25, 3) := by decide +kernel
theorem dX9_voice_154 : decode cX9_voice 154 = .ok (.iload 7, 2) := by decide +kernel
theorem dX9_voice_156 : decode cX9_voice 156 = .ok (.bipush (-2), 2) := by decide +kernel
theorem dX9_voice_158 : decode cX9_voice 158 = .ok (.if_icmp .eq 10, 3) := by decide +kernel
theorem dX9_voice_161 : decode cX9_voice 161 = .ok (.iload 10, 2) := by decide +kernel
theorem dX9_voice_163 : decode cX9_voice 163 = .ok (.iload 7, 2) := by decide +kernel
theorem dX9_voice_165 : decode cX9_voice 165 = .ok (.if_icmp .ge 11, 3) := by decide +kernel
theorem dX9_voice_168 : decode cX9_voice 168 = .ok (.iload 10, 2) := by decide +kernel
theorem dX9_voice_170 : decode cX9_voice 170 = .ok (.istore 7, 2) := by decide +kernel
theorem dX9_voice_172 : decode cX9_voice 172 = .ok (.iload 9, 2) := by decide +kernel
theorem dX9_voice_174 : decode cX9_voice 174 = .ok (.istore 8, 2) := by decide +kernel
theorem dX9_voice_176 : decode cX9_voice 176 = .ok (.iinc 9 1, 3) := by decide +kernel
theorem dX9_voice_179 : decode cX9_voice 179 = .ok (.goto (-70), 3) := by decide +kernel
theorem dX9_voice_182 : decode cX9_voice 182 = .ok (.iload 7, 2) := by decide +kernel
theorem dX9_voice_184 : decode cX9_voice 184 = .ok (.bipush (-2), 2) := by decide +kernel
theorem dX9_voice_186 : decode cX9_voice 186 = .ok (.if_icmp .ne 6, 3) := by decide +kernel
theorem dX9_voice_189 : decode cX9_voice 189 = .ok (.bipush (-2), 2) := by decide +kernel
theorem dX9_voice_191 : decode cX9_voice 191 = .ok (.ireturn, 1) := by decide +kernel
theorem dX9_voice_192 : decode cX9_voice 192 = .ok (.aload_n 0, 1) := by decide +kernel
theorem dX9_voice_193 : decode cX9_voice 193 = .ok (.getfield 187, 3) := by decide +kernel
theorem dX9_voice_196 : decode cX9_voice 196 = .ok (.iconst 0, 1) := by decide +kernel
theorem dX9_voice_197 : decode cX9_voice 197 = .ok (.iload 8, 2) := by decide +kernel
theorem dX9_voice_199 : decode cX9_voice 199 = .ok (.iastore, 1) := by decide +kernel
theorem dX9_voice_200 : decode cX9_voice 200 = .ok (.iload 6, 2) := by decide +kernel
theorem dX9_voice_202 : decode cX9_voice 202 = .ok (.ifCond .eq 140, 3) := by decide +kernel
theorem dX9_voice_205 : decode cX9_voice 205 = .ok (.aload_n 0, 1) := by decide +kernel
theorem dX9_voice_206 : decode cX9_voice 206 = .ok (.getfield 187, 3) := by decide +kernel
theorem dX9_voice_209 : decode cX9_voice 209 = .ok (.aload_n 0, 1) := by decide +kernel
theorem dX9_voice_210 : decode cX9_voice 210 = .ok (.getfield 347, 3) := by decide +kernel
theorem dX9_voice_213 : decode cX9_voice 213 = .ok (.iconst 1, 1) := by decide +kernel
theorem dX9_voice_214 : decode cX9_voice 214 = .ok (.isub, 1) := by decide +kernel
theorem dX9_voice_215 : decode cX9_voice 215 = .ok (.iaload, 1) := by decide +kernel
theorem dX9_voice_216 : decode cX9_voice 216 = .ok (.iconst 1, 1) := by decide +kernel
theorem dX9_voice_217 : decode cX9_voice 217 = .ok (.iadd, 1) := by decide +kernel
theorem dX9_voice_218 : decode cX9_voice 218 = .ok (.istore 9, 2) := by decide +kernel
theorem dX9_voice_220 : decode cX9_voice 220 = .ok (.iconst 0, 1) := by decide +kernel
theorem dX9_voice_221 : decode cX9_voice 221 = .ok (.istore 10, 2) := by decide +kernel
theorem dX9_voice_223 : decode cX9_voice 223 = .ok (.iload 10, 2) := by decide +kernel
theorem dX9_voice_225 : decode cX9_voice 225 = .ok (.ifCond .ne 114, 3) := by decide +kernel
theorem dX9_voice_228 : decode cX9_voice 228 = .ok (.iload 9, 2) := by decide +kernel
theorem dX9_voice_230 : decode cX9_voice 230 = .ok (.bipush 12, 2) := by decide +kernel
theorem dX9_voice_232 : decode cX9_voice 232 = .ok (.irem, 1) := by decide +kernel
theorem dX9_voice_233 : decode cX9_voice 233 = .ok (.istore 11, 2) := by decide +kernel
theorem dX9_voice_235 : decode cX9_voice 235 = .ok (.iload 6, 2) := by decide +kernel
theorem dX9_voice_237 : decode cX9_voice 237 = .ok (.iload 11, 2) := by decide +kernel
theorem dX9_voice_239 : decode cX9_voice 239 = .ok (.ishr, 1) := by decide +kernel
theorem dX9_voice_240 : decode cX9_voice 240 = .ok (.iconst 1, 1) := by decide +kernel
theorem dX9_voice_241 : decode cX9_voice 241 = .ok (.iand, 1) := by decide +kernel
theorem dX9_voice_242 : decode cX9_voice 242 = .ok (.iconst 1, 1) := by decide +kernel
theorem dX9_voice_243 : decode cX9_voice 243 = .ok (.if_icmp .ne 90, 3) := by decide +kernel
theorem dX9_voice_246 : decode cX9_voice 246 = .ok (.aload_n 0, 1) := by decide +kernel
theorem dX9_voice_247 : decode cX9_voice 247 = .ok (.getfield 187, 3) := by decide +kernel
theorem dX9_voice_250 : decode cX9_voice 250 = .ok (.aload_n 0, 1) := by decide +kernel
theorem dX9_voice_251 : decode cX9_voice 251 = .ok (.getfield 347, 3) := by decide +kernel
theorem dX9_voice_254 : decode cX9_voice 254 = .ok (.iload 9, 2) := by decide +kernel
theorem dX9_voice_256 : decode cX9_voice 256 = .ok (.iastore, 1) := by decide +kernel
theorem dX9_voice_257 : decode cX9_voice 257 = .ok (.aload_n 0, 1) := by decide +kernel
theorem dX9_voice_258 : decode cX9_voice 258 = .ok (.dup, 1) := by decide +kernel
theorem dX9_voice_259 : decode cX9_voice 259 = .ok (.getfield 347, 3) := by decide +kernel
theorem dX9_voice_262 : decode cX9_voice 262 = .ok (.iconst 1, 1) := by decide +kernel
theorem dX9_voice_263 : decode cX9_voice 263 = .ok (.iadd, 1) := by decide +kernel
theorem dX9_voice_264 : decode cX9_voice 264 = .ok (.putfield 347, 3) := by decide +kernel
theorem dX9_voice_267 : decode cX9_voice 267 = .ok (.aload_n 0, 1) := by decide +kernel
theorem dX9_voice_268 : decode cX9_voice 268 = .ok (.iload 6, 2) := by decide +kernel
theorem dX9_voice_270 : decode cX9_voice 270 = .ok (.iconst 1, 1) := by decide +kernel
theorem dX9_voice_271 : decode cX9_voice 271 = .ok (.iload 11, 2) := by decide +kernel
theorem dX9_voice_273 : decode cX9_voice 273 = .ok (.ishl, 1) := by decide +kernel
theorem dX9_voice_274 : decode cX9_voice 274 = .ok (.iconst (-1), 1) := by decide +kernel
theorem dX9_voice_275 : decode cX9_voice 275 = .ok (.ixor, 1) := by decide +kernel
theorem dX9_voice_276 : decode cX9_voice 276 = .ok (.iand, 1) := by decide +kernel
theorem dX9_voice_277 : decode cX9_voice 277 = .ok (.iload_n 3, 1) := by decide +kernel
theorem dX9_voice_278 : decode cX9_voice 278 = .ok (.invokevirtual 353, 3) := by decide +kernel
theorem dX9_voice_281 : decode cX9_voice 281 = .ok (.iload 7, 2) := by decide +kernel
theorem dX9_voice_283 : decode cX9_voice 283 = .ok (.if_icmp .ne 7, 3) := by decide +kernel
theorem dX9_voice_286 : decode cX9_voice 286 = .ok (.iconst 1, 1) := by decide +kernel
theorem dX9_voice_287 : decode cX9_voice 287 = .ok (.goto 4, 3) := by decide +kernel
theorem dX9_voice_290 : decode cX9_voice 290 = .ok (.iconst 0, 1) := by decide +kernel
theorem dX9_voice_291 : decode cX9_voice 291 = .ok (.istore 10, 2) := by decide +kernel
theorem dX9_voice_293 : decode cX9_voice 293 = .ok (.aload_n 0, 1) := by decide +kernel
theorem dX9_voice_294 : decode cX9_voice 294 = .ok (.dup, 1) := by decide +kernel
theorem dX9_voice_295 : decode cX9_voice 295 = .ok (.getfield 347, 3) := by decide +kernel
theorem dX9_voice_298 : decode cX9_voice 298 = .ok (.iload 10, 2) := by decide +kernel
theorem dX9_voice_300 : decode cX9_voice 300 = .ok (.ifCond .eq 7, 3) := by decide +kernel
theorem dX9_voice_303 : decode cX9_voice 303 = .ok (.iconst 0, 1) := by decide +kernel
theorem dX9_voice_304 : decode cX9_voice 304 = .ok (.goto 4, 3) := by decide +kernel
theorem dX9_voice_307 : decode cX9_voice 307 = .ok (.iconst 1, 1) := by decide +kernel
theorem dX9_voice_308 : decode cX9_voice 308 = .ok (.isub, 1) := by decide +kernel
theorem dX9_voice_309 : decode cX9_voice 309 = .ok (.putfield 347, 3) := by decide +kernel
theorem dX9_voice_312 : decode cX9_voice 312 = .ok (.iload 10, 2) := by decide +kernel
theorem dX9_voice_314 : decode cX9_voice 314 = .ok (.ifCond .eq 15, 3) := by decide +kernel
theorem dX9_voice_317 : decode cX9_voice 317 = .ok (.iload 6, 2) := by decide +kernel
theorem dX9_voice_319 : decode cX9_voice 319 = .ok (.iconst 1, 1) := by decide +kernel
theorem dX9_voice_320 : decode cX9_voice 320 = .ok (.iload 11, 2) := by decide +kernel
theorem dX9_voice_322 : decode cX9_voice 322 = .ok (.ishl, 1) := by decide +kernel
theorem dX9_voice_323 : decode cX9_voice 323 = .ok (.iconst (-1), 1) := by decide +kernel
theorem dX9_voice_324 : decode cX9_voice 324 = .ok (.ixor, 1) := by decide +kernel
theorem dX9_voice_325 : decode cX9_voice 325 = .ok (.iand, 1) := by decide +kernel
theorem dX9_voice_326 : decode cX9_voice 326 = .ok (.goto 5, 3) := by decide +kernel
theorem dX9_voice_329 : decode cX9_voice 329 = .ok (.iload 6, 2) := by decide +kernel
theorem dX9_voice_331 : decode cX9_voice 331 = .ok (.istore 6, 2) := by decide +kernel
theorem dX9_voice_333 : decode cX9_voice 333 = .ok (.iinc 9 1, 3) := by decide +kernel
theorem dX9_voice_336 : decode cX9_voice 336 = .ok (.goto (-113), 3) := by decide +kernel
theorem dX9_voice_339 : decode cX9_voice 339 = .ok (.goto (-139), 3) := by decide +kernel
theorem dX9_voice_342 : decode cX9_voice 342 = .ok (.aload_n 0, 1) := by decide +kernel
theorem dX9_voice_343 : decode cX9_voice 343 = .ok (.aload_n 0, 1) := by decide +kernel
theorem dX9_voice_344 : decode cX9_voice 344 = .ok (.getfield 347, 3) := by decide +kernel
theorem dX9_voice_347 : decode cX9_voice 347 = .ok (.putfield 344, 3) := by decide +kernel
theorem dX9_voice_350 : decode cX9_voice 350 = .ok (.iconst 0, 1) := by decide +kernel
theorem dX9_voice_351 : decode cX9_voice 351 = .ok (.istore 9, 2) := by decide +kernel
theorem dX9_voice_353 : decode cX9_voice 353 = .ok (.iload 9, 2) := by decide +kernel
theorem dX9_voice_355 : decode cX9_voice 355 = .ok (.aload_n 0, 1) := by decide +kernel
theorem dX9_voice_356 : decode cX9_voice 356 = .ok (.getfield 347, 3) := by decide +kernel
theorem dX9_voice_359 : decode cX9_voice 359 = .ok (.if_icmp .ge 23, 3) := by decide +kernel
theorem dX9_voice_362 : decode cX9_voice 362 = .ok (.aload_n 0, 1) := by decide +kernel
theorem dX9_voice_363 : decode cX9_voice 363 = .ok (.getfield 32, 3) := by decide +kernel
theorem dX9_voice_366 : decode cX9_voice 366 = .ok (.iload 9, 2) := by decide +kernel
theorem dX9_voice_368 : decode cX9_voice 368 = .ok (.aload_n 0, 1) := by decide +kernel
theorem dX9_voice_369 : decode cX9_voice 369 = .ok (.getfield 187, 3) := by decide +kernel
theorem dX9_voice_372 : decode cX9_voice 372 = .ok (.iload 9, 2) := by decide +kernel
theorem dX9_voice_374 : decode cX9_voice 374 = .ok (.iaload, 1) := by decide +kernel
theorem dX9_voice_375 : decode cX9_voice 375 = .ok (.iastore, 1) := by decide +kernel
theorem dX9_voice_376 : decode cX9_voice 376 = .ok (.iinc 9 1, 3) := by decide +kernel
theorem dX9_voice_379 : decode cX9_voice 379 = .ok (.goto (-26), 3) := by decide +kernel
theorem dX9_voice_382 : decode cX9_voice 382 = .ok (.aload_n 0, 1) := by decide +kernel
theorem dX9_voice_383 : decode cX9_voice 383 = .ok (.getfield 344, 3) := by decide +kernel
theorem dX9_voice_386 : decode cX9_voice 386 = .ok (.ireturn, 1) := by decide +kernel
set_option maxRecDepth 20000 in
theorem ggX9_key_X9_isIn : GoodIn wsX9_key wsX9_isIn := goodIn_r _ [6] (by decide +kernel) (by decide +kernel)
set_option maxRecDepth 20000 in
theorem gX9_key_X9_isIn : GoodIn wsX9_key (va_wsS RX9 215 yX9_isIn wsX9_isIn) := goodIn_app (goodIn_of _ (by decide +kernel)) ggX9_key_X9_isIn
theorem dX9_key_0 : decode cX9_key 0 = .ok (.iload_n 1, 1) := by decide +kernel
theorem dX9_key_1 : decode cX9_key 1 = .ok (.iconst 0, 1) := by decide +kernel
theorem dX9_key_2 : decode cX9_key 2 = .ok (.aload_n 0, 1) := by decide +kernel
theorem dX9_key_3 : decode cX9_key 3 = .ok (.getfield 344, 3) := by decide +kernel
theorem dX9_key_6 : decode cX9_key 6 = .ok (.iconst 1, 1) := by decide +kernel
theorem dX9_key_7 : decode cX9_key 7 = .ok (.isub, 1) := by decide +kernel
theorem dX9_key_8 : decode cX9_key 8 = .ok (.invokestatic 215, 3) := by decide +kernel
theorem dX9_key_11 : decode cX9_key 11 = .ok (.ifCond .eq 12, 3) := by decide +kernel
theorem dX9_key_14 : decode cX9_key 14 = .ok (.aload_n 0, 1) := by decide +kernel
theorem dX9_key_15 : decode cX9_key 15 = .ok (.getfield 32, 3) := by decide +kernel
theorem dX9_key_18 : decode cX9_key 18 = .ok (.iload_n 1, 1) := by decide +kernel
theorem dX9_key_19 : decode cX9_key 19 = .ok (.iaload, 1) := by decide +kernel
theorem dX9_key_20 : decode cX9_key 20 = .ok (.goto 4, 3) := by decide +kernel
theorem dX9_key_23 : decode cX9_key 23 = .ok (.iconst (-1), 1) := by decide +kernel
theorem dX9_key_24 : decode cX9_key 24 = .ok (.ireturn, 1) := by decide +kernel
theorem dX9_rest__0 : decode cX9_rest_ 0 = .ok (.aload_n 0, 1) := by decide +kernel
theorem dX9_rest__1 : decode cX9_rest_ 1 = .ok (.getfield 344, 3) := by decide +kernel
theorem dX9_rest__4 : decode cX9_rest_ 4 = .ok (.istore_n 1, 1) := by decide +kernel
theorem dX9_rest__5 : decode cX9_rest_ 5 = .ok (.aload_n 0, 1) := by decide +kernel
theorem dX9_rest__6 : decode cX9_rest_ 6 = .ok (.iconst 0, 1) := by decide +kernel
theorem dX9_rest__7 : decode cX9_rest_ 7 = .ok (.putfield 344, 3) := by decide +kernel
theorem dX9_rest__10 : decode cX9_rest_ 10 = .ok (.iload_n 1, 1) := by decide +kernel
theorem dX9_rest__11 : decode cX9_rest_ 11 = .ok (.ireturn, 1) := by decide +kernel
theorem dX9_hasHalf_0 : decode cX9_hasHalf 0 = .ok (.iconst 0, 1) := by decide +kernel
theorem dX9_hasHalf_1 : decode cX9_hasHalf 1 = .ok (.istore_n 3, 1) := by decide +kernel
theorem dX9_hasHalf_2 : decode cX9_hasHalf 2 = .ok (.iconst 0, 1) := by decide +kernel
theorem dX9_hasHalf_3 : decode cX9_hasHalf 3 = .ok (.istore 4, 2) := by decide +kernel
theorem dX9_hasHalf_5 : decode cX9_hasHalf 5 = .ok (.iload 4, 2) := by decide +kernel
theorem dX9_hasHalf_7 : decode cX9_hasHalf 7 = .ok (.aload_n 0, 1) := by decide +kernel
theorem dX9_hasHalf_8 : decode cX9_hasHalf 8 = .ok (.getfield 23, 3) := by decide +kernel
theorem dX9_hasHalf_11 : decode cX9_hasHalf 11 = .ok (.iload_n 1, 1) := by decide +kernel
theorem dX9_hasHalf_12 : decode cX9_hasHalf 12 = .ok (.iaload, 1) := by decide +kernel
theorem dX9_hasHalf_13 : decode cX9_hasHalf 13 = .ok (.if_icmp .ge 33, 3) := by decide +kernel
theorem dX9_hasHalf_16 : decode cX9_hasHalf 16 = .ok (.iload_n 3, 1) := by decide +kernel
theorem dX9_hasHalf_17 : decode cX9_hasHalf 17 = .ok (.aload_n 0, 1) := by decide +kernel
theorem dX9_hasHalf_18 : decode cX9_hasHalf 18 = .ok (.getfield 17, 3) := by decide +kernel
theorem dX9_hasHalf_21 : decode cX9_hasHalf 21 = .ok (.bipush 16, 2) := by decide +kernel
theorem dX9_hasHalf_23 : decode cX9_hasHalf 23 = .ok (.iload_n 1, 1) := by decide +kernel
theorem dX9_hasHalf_24 : decode cX9_hasHalf 24 = .ok (.imul, 1) := by decide +kernel
theorem dX9_hasHalf_25 : decode cX9_hasHalf 25 = .ok (.iload 4, 2) := by decide +kernel
theorem dX9_hasHalf_27 : decode cX9_hasHalf 27 = .ok (.iadd, 1) := by decide +kernel
theorem dX9_hasHalf_28 : decode cX9_hasHalf 28 = .ok (.iaload, 1) := by decide +kernel
theorem dX9_hasHalf_29 : decode cX9_hasHalf 29 = .ok (.iload_n 2, 1) := by decide +kernel
theorem dX9_hasHalf_30 : decode cX9_hasHalf 30 = .ok (.if_icmp .ne 7, 3) := by decide +kernel
theorem dX9_hasHalf_33 : decode cX9_hasHalf 33 = .ok (.iconst 1, 1) := by decide +kernel
theorem dX9_hasHalf_34 : decode cX9_hasHalf 34 = .ok (.goto 4, 3) := by decide +kernel
theorem dX9_hasHalf_37 : decode cX9_hasHalf 37 = .ok (.iconst 0, 1) := by decide +kernel
theorem dX9_hasHalf_38 : decode cX9_hasHalf 38 = .ok (.ior, 1) := by decide +kernel
theorem dX9_hasHalf_39 : decode cX9_hasHalf 39 = .ok (.istore_n 3, 1) := by decide +kernel
theorem dX9_hasHalf_40 : decode cX9_hasHalf 40 = .ok (.iinc 4 1, 3) := by decide +kernel
theorem dX9_hasHalf_43 : decode cX9_hasHalf 43 = .ok (.goto (-38), 3) := by decide +kernel
theorem dX9_hasHalf_46 : decode cX9_hasHalf 46 = .ok (.iload_n 3, 1) := by decide +kernel
theorem dX9_hasHalf_47 : decode cX9_hasHalf 47 = .ok (.ireturn, 1) := by decide +kernel
set_option maxRecDepth 20000 in
theorem ggX9_showsNumeral_X9_lengthOf : GoodIn wsX9_showsNumeral wsX9_lengthOf := goodIn_r _ [5] (by decide +kernel) (by decide +kernel)
set_option maxRecDepth 20000 in
theorem gX9_showsNumeral_X9_lengthOf : GoodIn wsX9_showsNumeral (va_wsS RX9 190 yX9_lengthOf wsX9_lengthOf) := goodIn_app (goodIn_of _ (by decide +kernel)) ggX9_showsNumeral_X9_lengthOf
set_option maxRecDepth 20000 in
theorem ggX9_showsNumeral_X9_byteOf : GoodIn wsX9_showsNumeral wsX9_byteOf := goodIn_r _ [8, 2, 3, 4, 5] (by decide +kernel) (by decide +kernel)
set_option maxRecDepth 20000 in
theorem gX9_showsNumeral_X9_byteOf : GoodIn wsX9_showsNumeral (va_wsS RX9 198 yX9_byteOf wsX9_byteOf) := goodIn_app (goodIn_of _ (by decide +kernel)) ggX9_showsNumeral_X9_byteOf
set_option maxRecDepth 20000 in
theorem ggX9_showsNumeral_X9_shows : GoodIn wsX9_showsNumeral wsX9_shows := goodIn_r _ [12, 13, 14, 15, 16, 17, 18, 19, 20, 21, 22, 23, 24, 25, 26, 27, 28, 29, 30, 31, 32, 33, 34, 35, 36, 37, 38, 39, 40, 41, 42, 43, 44, 45, 46, 47, 48, 49, 50] (by decide +kernel) (by decide +kernel)
set_option maxRecDepth 20000 in
theorem gX9_showsNumeral_X9_shows : GoodIn wsX9_showsNumeral (wsV RX9 307 RX9 yX9_shows wsX9_shows) := goodIn_app (goodIn_of _ (by decide +kernel)) ggX9_showsNumeral_X9_shows
theorem dX9_showsNumeral_0 : decode cX9_showsNumeral 0 = .ok (.aload_n 0, 1) := by decide +kernel
theorem dX9_showsNumeral_1 : decode cX9_showsNumeral 1 = .ok (.getfield 163, 3) := by decide +kernel
theorem dX9_showsNumeral_4 : decode cX9_showsNumeral 4 = .ok (.iload_n 1, 1) := by decide +kernel
theorem dX9_showsNumeral_5 : decode cX9_showsNumeral 5 = .ok (.laload, 1) := by decide +kernel
theorem dX9_showsNumeral_6 : decode cX9_showsNumeral 6 = .ok (.invokestatic 190, 3) := by decide +kernel
theorem dX9_showsNumeral_9 : decode cX9_showsNumeral 9 = .ok (.istore_n 3, 1) := by decide +kernel
theorem dX9_showsNumeral_10 : decode cX9_showsNumeral 10 = .ok (.iconst 0, 1) := by decide +kernel
theorem dX9_showsNumeral_11 : decode cX9_showsNumeral 11 = .ok (.istore 4, 2) := by decide +kernel
theorem dX9_showsNumeral_13 : decode cX9_showsNumeral 13 = .ok (.iload 4, 2) := by decide +kernel
theorem dX9_showsNumeral_15 : decode cX9_showsNumeral 15 = .ok (.iload_n 3, 1) := by decide +kernel
theorem dX9_showsNumeral_16 : decode cX9_showsNumeral 16 = .ok (.if_icmp .ge 47, 3) := by decide +kernel
theorem dX9_showsNumeral_19 : decode cX9_showsNumeral 19 = .ok (.aload_n 0, 1) := by decide +kernel
theorem dX9_showsNumeral_20 : decode cX9_showsNumeral 20 = .ok (.getfield 163, 3) := by decide +kernel
theorem dX9_showsNumeral_23 : decode cX9_showsNumeral 23 = .ok (.iload_n 1, 1) := by decide +kernel
theorem dX9_showsNumeral_24 : decode cX9_showsNumeral 24 = .ok (.laload, 1) := by decide +kernel
theorem dX9_showsNumeral_25 : decode cX9_showsNumeral 25 = .ok (.iload 4, 2) := by decide +kernel
theorem dX9_showsNumeral_27 : decode cX9_showsNumeral 27 = .ok (.invokestatic 198, 3) := by decide +kernel
theorem dX9_showsNumeral_30 : decode cX9_showsNumeral 30 = .ok (.istore 5, 2) := by decide +kernel
theorem dX9_showsNumeral_32 : decode cX9_showsNumeral 32 = .ok (.aload_n 0, 1) := by decide +kernel
theorem dX9_showsNumeral_33 : decode cX9_showsNumeral 33 = .ok (.iload_n 2, 1) := by decide +kernel
theorem dX9_showsNumeral_34 : decode cX9_showsNumeral 34 = .ok (.ifCond .eq 18, 3) := by decide +kernel
theorem dX9_showsNumeral_37 : decode cX9_showsNumeral 37 = .ok (.iload 5, 2) := by decide +kernel
theorem dX9_showsNumeral_39 : decode cX9_showsNumeral 39 = .ok (.bipush 98, 2) := by decide +kernel
theorem dX9_showsNumeral_41 : decode cX9_showsNumeral 41 = .ok (.if_icmp .eq 11, 3) := by decide +kernel
theorem dX9_showsNumeral_44 : decode cX9_showsNumeral 44 = .ok (.iload 5, 2) := by decide +kernel
theorem dX9_showsNumeral_46 : decode cX9_showsNumeral 46 = .ok (.bipush 32, 2) := by decide +kernel
theorem dX9_showsNumeral_48 : decode cX9_showsNumeral 48 = .ok (.iadd, 1) := by decide +kernel
theorem dX9_showsNumeral_49 : decode cX9_showsNumeral 49 = .ok (.goto 5, 3) := by decide +kernel
theorem dX9_showsNumeral_52 : decode cX9_showsNumeral 52 = .ok (.iload 5, 2) := by decide +kernel
theorem dX9_showsNumeral_54 : decode cX9_showsNumeral 54 = .ok (.invokevirtual 307, 3) := by decide +kernel
theorem dX9_showsNumeral_57 : decode cX9_showsNumeral 57 = .ok (.iinc 4 1, 3) := by decide +kernel
theorem dX9_showsNumeral_60 : decode cX9_showsNumeral 60 = .ok (.goto (-47), 3) := by decide +kernel
theorem dX9_showsNumeral_63 : decode cX9_showsNumeral 63 = .ok (.return_, 1) := by decide +kernel
set_option maxRecDepth 20000 in
theorem ggX9_figure_X9_isChord : GoodIn wsX9_figure wsX9_isChord := goodIn_r _ [9, 10, 11, 12, 8, 13, 49, 50, 51, 52, 53, 54, 55, 56, 57, 58, 59, 60, 61, 62, 63, 64, 65, 66, 67, 68, 69, 70, 71, 72, 73, 74, 75, 76, 77, 78, 79, 80, 81, 82, 83, 84] (by decide +kernel) (by decide +kernel)
set_option maxRecDepth 20000 in
theorem gX9_figure_X9_isChord : GoodIn wsX9_figure (wsV RX9 291 RX9 yX9_isChord wsX9_isChord) := goodIn_app (goodIn_of _ (by decide +kernel)) ggX9_figure_X9_isChord
set_option maxRecDepth 20000 in
theorem ggX9_figure_X9_isIn : GoodIn wsX9_figure wsX9_isIn := goodIn_r _ [13] (by decide +kernel) (by decide +kernel)
set_option maxRecDepth 20000 in
theorem gX9_figure_X9_isIn : GoodIn wsX9_figure (va_wsS RX9 215 yX9_isIn wsX9_isIn) := goodIn_app (goodIn_of _ (by decide +kernel)) ggX9_figure_X9_isIn
set_option maxRecDepth 20000 in
theorem ggX9_figure_X9_hasHalf : GoodIn wsX9_figure wsX9_hasHalf := goodIn_r _ [17, 2, 4, 49, 50, 51, 52, 53, 54, 55, 56, 57, 58, 59, 60, 61, 62, 63, 64, 65, 66, 67, 68, 69, 70, 71, 72, 73, 74, 75, 76, 77, 78, 79, 80, 81, 82, 83, 84] (by decide +kernel) (by decide +kernel)
set_option maxRecDepth 20000 in
theorem gX9_figure_X9_hasHalf : GoodIn wsX9_figure (wsV RX9 356 RX9 yX9_hasHalf wsX9_hasHalf) := goodIn_app (goodIn_of _ (by decide +kernel)) ggX9_figure_X9_hasHalf
set_option maxRecDepth 20000 in
theorem ggX9_figure_X9_rootOf : GoodIn wsX9_figure wsX9_rootOf := goodIn_r _ [21, 22, 23, 24, 8, 25, 26, 27, 28, 49, 50, 51, 52, 53, 54, 55, 56, 57, 58, 59, 60, 61, 62, 63, 64, 65, 66, 67, 68, 69, 70, 71, 72, 73, 74, 75, 76, 77, 78, 79, 80, 81, 82, 83, 84] (by decide +kernel) (by decide +kernel)
set_option maxRecDepth 20000 in
theorem gX9_figure_X9_rootOf : GoodIn wsX9_figure (wsV RX9 281 RX9 yX9_rootOf wsX9_rootOf) := goodIn_app (goodIn_of _ (by decide +kernel)) ggX9_figure_X9_rootOf
set_option maxRecDepth 20000 in
theorem ggX9_figure_X9_mod12 : GoodIn wsX9_figure wsX9_mod12 := goodIn_r _ [28] (by decide +kernel) (by decide +kernel)
set_option maxRecDepth 20000 in
theorem gX9_figure_X9_mod12 : GoodIn wsX9_figure (va_wsS RX9 275 yX9_mod12 wsX9_mod12) := goodIn_app (goodIn_of _ (by decide +kernel)) ggX9_figure_X9_mod12
set_option maxRecDepth 20000 in
theorem ggX9_figure_X9_showsNumeral : GoodIn wsX9_figure wsX9_showsNumeral := goodIn_r _ [32, 33, 34, 35, 8, 36, 37, 38, 39, 40, 41, 42, 43, 44, 1, 49, 50, 51, 52, 53, 54, 55, 56, 57, 58, 59, 60, 61, 62, 63, 64, 65, 66, 67, 68, 69, 70, 71, 72, 73, 74, 75, 76, 77, 78, 79, 80, 81, 82, 83, 84] (by decide +kernel) (by decide +kernel)
set_option maxRecDepth 20000 in
theorem gX9_figure_X9_showsNumeral : GoodIn wsX9_figure (wsV RX9 360 RX9 yX9_showsNumeral wsX9_showsNumeral) := goodIn_app (goodIn_of _ (by decide +kernel)) ggX9_figure_X9_showsNumeral
set_option maxRecDepth 20000 in
theorem ggX9_figure_X9_shows : GoodIn wsX9_figure wsX9_shows := goodIn_r _ [43, 44, 1, 49, 50, 51, 52, 53, 54, 55, 56, 57, 58, 59, 60, 61, 62, 63, 64, 65, 66, 67, 68, 69, 70, 71, 72, 73, 74, 75, 76, 77, 78, 79, 80, 81, 82, 83, 84] (by decide +kernel) (by decide +kernel)
set_option maxRecDepth 20000 in
theorem gX9_figure_X9_shows : GoodIn wsX9_figure (wsV RX9 307 RX9 yX9_shows wsX9_shows) := goodIn_app (goodIn_of _ (by decide +kernel)) ggX9_figure_X9_shows
set_option maxRecDepth 20000 in
theorem ggX9_figure_X9_bassOf : GoodIn wsX9_figure wsX9_bassOf := goodIn_r _ [48, 22, 23, 24, 8, 25, 26, 27, 28, 49, 50, 51, 52, 53, 54, 55, 56, 57, 58, 59, 60, 61, 62, 63, 64, 65, 66, 67, 68, 69, 70, 71, 72, 73, 74, 75, 76, 77, 78, 79, 80, 81, 82, 83, 84] (by decide +kernel) (by decide +kernel)
set_option maxRecDepth 20000 in
theorem gX9_figure_X9_bassOf : GoodIn wsX9_figure (wsV RX9 278 RX9 yX9_bassOf wsX9_bassOf) := goodIn_app (goodIn_of _ (by decide +kernel)) ggX9_figure_X9_bassOf
theorem dX9_figure_0 : decode cX9_figure 0 = .ok (.aload_n 0, 1) := by decide +kernel
theorem dX9_figure_1 : decode cX9_figure 1 = .ok (.iload_n 1, 1) := by decide +kernel
theorem dX9_figure_2 : decode cX9_figure 2 = .ok (.invokevirtual 291, 3) := by decide +kernel
theorem dX9_figure_5 : decode cX9_figure 5 = .ok (.ifCond .eq 13, 3) := by decide +kernel
theorem dX9_figure_8 : decode cX9_figure 8 = .ok (.iload_n 2, 1) := by decide +kernel
theorem dX9_figure_9 : decode cX9_figure 9 = .ok (.iconst 0, 1) := by decide +kernel
theorem dX9_figure_10 : decode cX9_figure 10 = .ok (.bipush 11, 2) := by decide +kernel
theorem dX9_figure_12 : decode cX9_figure 12 = .ok (.invokestatic 215, 3) := by decide +kernel
theorem dX9_figure_15 : decode cX9_figure 15 = .ok (.ifCond .ne 5, 3) := by decide +kernel
theorem dX9_figure_18 : decode cX9_figure 18 = .ok (.iconst (-1), 1) := by decide +kernel
theorem dX9_figure_19 : decode cX9_figure 19 = .ok (.ireturn, 1) := by decide +kernel
theorem dX9_figure_20 : decode cX9_figure 20 = .ok (.aload_n 0, 1) := by decide +kernel
theorem dX9_figure_21 : decode cX9_figure 21 = .ok (.iconst 0, 1) := by decide +kernel
theorem dX9_figure_22 : decode cX9_figure 22 = .ok (.putfield 304, 3) := by decide +kernel
theorem dX9_figure_25 : decode cX9_figure 25 = .ok (.aload_n 0, 1) := by decide +kernel
theorem dX9_figure_26 : decode cX9_figure 26 = .ok (.iload_n 1, 1) := by decide +kernel
theorem dX9_figure_27 : decode cX9_figure 27 = .ok (.iconst 3, 1) := by decide +kernel
theorem dX9_figure_28 : decode cX9_figure 28 = .ok (.invokevirtual 356, 3) := by decide +kernel
theorem dX9_figure_31 : decode cX9_figure 31 = .ok (.istore_n 3, 1) := by decide +kernel
theorem dX9_figure_32 : decode cX9_figure 32 = .ok (.aload_n 0, 1) := by decide +kernel
theorem dX9_figure_33 : decode cX9_figure 33 = .ok (.aload_n 0, 1) := by decide +kernel
theorem dX9_figure_34 : decode cX9_figure 34 = .ok (.iload_n 1, 1) := by decide +kernel
theorem dX9_figure_35 : decode cX9_figure 35 = .ok (.invokevirtual 281, 3) := by decide +kernel
theorem dX9_figure_38 : decode cX9_figure 38 = .ok (.iload_n 2, 1) := by decide +kernel
theorem dX9_figure_39 : decode cX9_figure 39 = .ok (.isub, 1) := by decide +kernel
theorem dX9_figure_40 : decode cX9_figure 40 = .ok (.invokestatic 275, 3) := by decide +kernel
theorem dX9_figure_43 : decode cX9_figure 43 = .ok (.iload_n 3, 1) := by decide +kernel
theorem dX9_figure_44 : decode cX9_figure 44 = .ok (.ifCond .eq 16, 3) := by decide +kernel
theorem dX9_figure_47 : decode cX9_figure 47 = .ok (.aload_n 0, 1) := by decide +kernel
theorem dX9_figure_48 : decode cX9_figure 48 = .ok (.iload_n 1, 1) := by decide +kernel
theorem dX9_figure_49 : decode cX9_figure 49 = .ok (.iconst 4, 1) := by decide +kernel
theorem dX9_figure_50 : decode cX9_figure 50 = .ok (.invokevirtual 356, 3) := by decide +kernel
theorem dX9_figure_53 : decode cX9_figure 53 = .ok (.ifCond .ne 7, 3) := by decide +kernel
theorem dX9_figure_56 : decode cX9_figure 56 = .ok (.iconst 1, 1) := by decide +kernel
theorem dX9_figure_57 : decode cX9_figure 57 = .ok (.goto 4, 3) := by decide +kernel
theorem dX9_figure_60 : decode cX9_figure 60 = .ok (.iconst 0, 1) := by decide +kernel
theorem dX9_figure_61 : decode cX9_figure 61 = .ok (.invokevirtual 360, 3) := by decide +kernel
theorem dX9_figure_64 : decode cX9_figure 64 = .ok (.iload_n 3, 1) := by decide +kernel
theorem dX9_figure_65 : decode cX9_figure 65 = .ok (.ifCond .eq 29, 3) := by decide +kernel
theorem dX9_figure_68 : decode cX9_figure 68 = .ok (.aload_n 0, 1) := by decide +kernel
theorem dX9_figure_69 : decode cX9_figure 69 = .ok (.iload_n 1, 1) := by decide +kernel
theorem dX9_figure_70 : decode cX9_figure 70 = .ok (.bipush 6, 2) := by decide +kernel
theorem dX9_figure_72 : decode cX9_figure 72 = .ok (.invokevirtual 356, 3) := by decide +kernel
theorem dX9_figure_75 : decode cX9_figure 75 = .ok (.ifCond .eq 19, 3) := by decide +kernel
theorem dX9_figure_78 : decode cX9_figure 78 = .ok (.aload_n 0, 1) := by decide +kernel
theorem dX9_figure_79 : decode cX9_figure 79 = .ok (.iload_n 1, 1) := by decide +kernel
theorem dX9_figure_80 : decode cX9_figure 80 = .ok (.bipush 7, 2) := by decide +kernel
theorem dX9_figure_82 : decode cX9_figure 82 = .ok (.invokevirtual 356, 3) := by decide +kernel
theorem dX9_figure_85 : decode cX9_figure 85 = .ok (.ifCond .ne 9, 3) := by decide +kernel
theorem dX9_figure_88 : decode cX9_figure 88 = .ok (.aload_n 0, 1) := by decide +kernel
theorem dX9_figure_89 : decode cX9_figure 89 = .ok (.bipush 111, 2) := by decide +kernel
theorem dX9_figure_91 : decode cX9_figure 91 = .ok (.invokevirtual 307, 3) := by decide +kernel
theorem dX9_figure_94 : decode cX9_figure 94 = .ok (.aload_n 0, 1) := by decide +kernel
theorem dX9_figure_95 : decode cX9_figure 95 = .ok (.iload_n 1, 1) := by decide +kernel
theorem dX9_figure_96 : decode cX9_figure 96 = .ok (.iconst 4, 1) := by decide +kernel
theorem dX9_figure_97 : decode cX9_figure 97 = .ok (.invokevirtual 356, 3) := by decide +kernel
theorem dX9_figure_100 : decode cX9_figure 100 = .ok (.ifCond .eq 29, 3) := by decide +kernel
theorem dX9_figure_103 : decode cX9_figure 103 = .ok (.aload_n 0, 1) := by decide +kernel
theorem dX9_figure_104 : decode cX9_figure 104 = .ok (.iload_n 1, 1) := by decide +kernel
theorem dX9_figure_105 : decode cX9_figure 105 = .ok (.bipush 8, 2) := by decide +kernel
theorem dX9_figure_107 : decode cX9_figure 107 = .ok (.invokevirtual 356, 3) := by decide +kernel
theorem dX9_figure_110 : decode cX9_figure 110 = .ok (.ifCond .eq 19, 3) := by decide +kernel
theorem dX9_figure_113 : decode cX9_figure 113 = .ok (.aload_n 0, 1) := by decide +kernel
theorem dX9_figure_114 : decode cX9_figure 114 = .ok (.iload_n 1, 1) := by decide +kernel
theorem dX9_figure_115 : decode cX9_figure 115 = .ok (.bipush 7, 2) := by decide +kernel
theorem dX9_figure_117 : decode cX9_figure 117 = .ok (.invokevirtual 356, 3) := by decide +kernel
theorem dX9_figure_120 : decode cX9_figure 120 = .ok (.ifCond .ne 9, 3) := by decide +kernel
theorem dX9_figure_123 : decode cX9_figure 123 = .ok (.aload_n 0, 1) := by decide +kernel
theorem dX9_figure_124 : decode cX9_figure 124 = .ok (.bipush 43, 2) := by decide +kernel
theorem dX9_figure_126 : decode cX9_figure 126 = .ok (.invokevirtual 307, 3) := by decide +kernel
theorem dX9_figure_129 : decode cX9_figure 129 = .ok (.iconst 0, 1) := by decide +kernel
theorem dX9_figure_130 : decode cX9_figure 130 = .ok (.istore 4, 2) := by decide +kernel
theorem dX9_figure_132 : decode cX9_figure 132 = .ok (.bipush (-2), 2) := by decide +kernel
theorem dX9_figure_134 : decode cX9_figure 134 = .ok (.istore 5, 2) := by decide +kernel
theorem dX9_figure_136 : decode cX9_figure 136 = .ok (.aload_n 0, 1) := by decide +kernel
theorem dX9_figure_137 : decode cX9_figure 137 = .ok (.getfield 23, 3) := by decide +kernel
theorem dX9_figure_140 : decode cX9_figure 140 = .ok (.iload_n 1, 1) := by decide +kernel
theorem dX9_figure_141 : decode cX9_figure 141 = .ok (.iaload, 1) := by decide +kernel
theorem dX9_figure_142 : decode cX9_figure 142 = .ok (.iconst 1, 1) := by decide +kernel
theorem dX9_figure_143 : decode cX9_figure 143 = .ok (.isub, 1) := by decide +kernel
theorem dX9_figure_144 : decode cX9_figure 144 = .ok (.istore 6, 2) := by decide +kernel
theorem dX9_figure_146 : decode cX9_figure 146 = .ok (.iload 6, 2) := by decide +kernel
theorem dX9_figure_148 : decode cX9_figure 148 = .ok (.ifCond .lt 84, 3) := by decide +kernel
theorem dX9_figure_151 : decode cX9_figure 151 = .ok (.iload 4, 2) := by decide +kernel
theorem dX9_figure_153 : decode cX9_figure 153 = .ok (.aload_n 0, 1) := by decide +kernel
theorem dX9_figure_154 : decode cX9_figure 154 = .ok (.getfield 20, 3) := by decide +kernel
theorem dX9_figure_157 : decode cX9_figure 157 = .ok (.bipush 16, 2) := by decide +kernel
theorem dX9_figure_159 : decode cX9_figure 159 = .ok (.iload_n 1, 1) := by decide +kernel
theorem dX9_figure_160 : decode cX9_figure 160 = .ok (.imul, 1) := by decide +kernel
theorem dX9_figure_161 : decode cX9_figure 161 = .ok (.iload 6, 2) := by decide +kernel
theorem dX9_figure_163 : decode cX9_figure 163 = .ok (.iadd, 1) := by decide +kernel
theorem dX9_figure_164 : decode cX9_figure 164 = .ok (.iaload, 1) := by decide +kernel
theorem dX9_figure_165 : decode cX9_figure 165 = .ok (.bipush 7, 2) := by decide +kernel
theorem dX9_figure_167 : decode cX9_figure 167 = .ok (.if_icmp .ne 7, 3) := by decide +kernel
theorem dX9_figure_170 : decode cX9_figure 170 = .ok (.iconst 1, 1) := by decide +kernel
theorem dX9_figure_171 : decode cX9_figure 171 = .ok (.goto 4, 3) := by decide +kernel
theorem dX9_figure_174 : decode cX9_figure 174 = .ok (.iconst 0, 1) := by decide +kernel
theorem dX9_figure_175 : decode cX9_figure 175 = .ok (.ior, 1) := by decide +kernel
theorem dX9_figure_176 : decode cX9_figure 176 = .ok (.istore 4, 2) := by decide +kernel
theorem dX9_figure_178 : decode cX9_figure 178 = .ok (.aload_n 0, 1) := by decide +kernel
theorem dX9_figure_179 : decode cX9_figure 179 = .ok (.iload_n 1, 1) := by decide +kernel
theorem dX9_figure_180 : decode cX9_figure 180 = .ok (.invokevirtual 281, 3) := by decide +kernel
theorem dX9_figure_183 : decode cX9_figure 183 = .ok (.aload_n 0, 1) := by decide +kernel
theorem dX9_figure_184 : decode cX9_figure 184 = .ok (.getfield 17, 3) := by decide +kernel
theorem dX9_figure_187 : decode cX9_figure 187 = .ok (.bipush 16, 2) := by decide +kernel
theorem dX9_figure_189 : decode cX9_figure 189 = .ok (.iload_n 1, 1) := by decide +kernel
theorem dX9_figure_190 : decode cX9_figure 190 = .ok (.imul, 1) := by decide +kernel
theorem dX9_figure_191 : decode cX9_figure 191 = .ok (.iload 6, 2) := by decide +kernel
theorem dX9_figure_193 : decode cX9_figure 193 = .ok (.iadd, 1) := by decide +kernel
theorem dX9_figure_194 : decode cX9_figure 194 = .ok (.iaload, 1) := by decide +kernel
theorem dX9_figure_195 : decode cX9_figure 195 = .ok (.iadd, 1) := by decide +kernel
theorem dX9_figure_196 : decode cX9_figure 196 = .ok (.bipush 12, 2) := by decide +kernel
theorem dX9_figure_198 : decode cX9_figure 198 = .ok (.irem, 1) := by decide +kernel
theorem dX9_figure_199 : decode cX9_figure 199 = .ok (.aload_n 0, 1) := by decide +kernel
theorem dX9_figure_200 : decode cX9_figure 200 = .ok (.iload_n 1, 1) := by decide +kernel
theorem dX9_figure_201 : decode cX9_figure 201 = .ok (.invokevirtual 278, 3) := by decide +kernel
theorem dX9_figure_204 : decode cX9_figure 204 = .ok (.if_icmp .ne 18, 3) := by decide +kernel
theorem dX9_figure_207 : decode cX9_figure 207 = .ok (.aload_n 0, 1) := by decide +kernel
theorem dX9_figure_208 : decode cX9_figure 208 = .ok (.getfield 20, 3) := by decide +kernel
theorem dX9_figure_211 : decode cX9_figure 211 = .ok (.bipush 16, 2) := by decide +kernel
theorem dX9_figure_213 : decode cX9_figure 213 = .ok (.iload_n 1, 1) := by decide +kernel
theorem dX9_figure_214 : decode cX9_figure 214 = .ok (.imul, 1) := by decide +kernel
theorem dX9_figure_215 : decode cX9_figure 215 = .ok (.iload 6, 2) := by decide +kernel
theorem dX9_figure_217 : decode cX9_figure 217 = .ok (.iadd, 1) := by decide +kernel
theorem dX9_figure_218 : decode cX9_figure 218 = .ok (.iaload, 1) := by decide +kernel
theorem dX9_figure_219 : decode cX9_figure 219 = .ok (.goto 5, 3) := by decide +kernel
theorem dX9_figure_222 : decode cX9_figure 222 = .ok (.iload 5, 2) := by decide +kernel
theorem dX9_figure_224 : decode cX9_figure 224 = .ok (.istore 5, 2) := by decide +kernel
theorem dX9_figure_226 : decode cX9_figure 226 = .ok (.iinc 6 (-1), 3) := by decide +kernel
theorem dX9_figure_229 : decode cX9_figure 229 = .ok (.goto (-83), 3) := by decide +kernel
theorem dX9_figure_232 : decode cX9_figure 232 = .ok (.iload 5, 2) := by decide +kernel
theorem dX9_figure_234 : decode cX9_figure 234 = .ok (.iconst 1, 1) := by decide +kernel
theorem dX9_figure_235 : decode cX9_figure 235 = .ok (.if_icmp .eq 22, 3) := by decide +kernel
theorem dX9_figure_238 : decode cX9_figure 238 = .ok (.iload 5, 2) := by decide +kernel
theorem dX9_figure_240 : decode cX9_figure 240 = .ok (.iconst 3, 1) := by decide +kernel
theorem dX9_figure_241 : decode cX9_figure 241 = .ok (.if_icmp .eq 16, 3) := by decide +kernel
theorem dX9_figure_244 : decode cX9_figure 244 = .ok (.iload 5, 2) := by decide +kernel
theorem dX9_figure_246 : decode cX9_figure 246 = .ok (.iconst 5, 1) := by decide +kernel
theorem dX9_figure_247 : decode cX9_figure 247 = .ok (.if_icmp .eq 10, 3) := by decide +kernel
theorem dX9_figure_250 : decode cX9_figure 250 = .ok (.iload 5, 2) := by decide +kernel
theorem dX9_figure_252 : decode cX9_figure 252 = .ok (.bipush 7, 2) := by decide +kernel
theorem dX9_figure_254 : decode cX9_figure 254 = .ok (.if_icmp .ne 110, 3) := by decide +kernel
theorem dX9_figure_257 : decode cX9_figure 257 = .ok (.iload 4, 2) := by decide +kernel
theorem dX9_figure_259 : decode cX9_figure 259 = .ok (.ifCond .eq 41, 3) := by decide +kernel
theorem dX9_figure_262 : decode cX9_figure 262 = .ok (.iload 5, 2) := by decide +kernel
theorem dX9_figure_264 : decode cX9_figure 264 = .ok (.iconst 1, 1) := by decide +kernel
theorem dX9_figure_265 : decode cX9_figure 265 = .ok (.if_icmp .ne 8, 3) := by decide +kernel
theorem dX9_figure_268 : decode cX9_figure 268 = .ok (.bipush 7, 2) := by decide +kernel
theorem dX9_figure_270 : decode cX9_figure 270 = .ok (.goto 53, 3) := by decide +kernel
theorem dX9_figure_273 : decode cX9_figure 273 = .ok (.iload 5, 2) := by decide +kernel
theorem dX9_figure_275 : decode cX9_figure 275 = .ok (.iconst 3, 1) := by decide +kernel
theorem dX9_figure_276 : decode cX9_figure 276 = .ok (.if_icmp .ne 8, 3) := by decide +kernel
theorem dX9_figure_279 : decode cX9_figure 279 = .ok (.bipush 65, 2) := by decide +kernel
theorem dX9_figure_281 : decode cX9_figure 281 = .ok (.goto 42, 3) := by decide +kernel
theorem dX9_figure_284 : decode cX9_figure 284 = .ok (.iload 5, 2) := by decide +kernel
theorem dX9_figure_286 : decode cX9_figure 286 = .ok (.iconst 5, 1) := by decide +kernel
theorem dX9_figure_287 : decode cX9_figure 287 = .ok (.if_icmp .ne 8, 3) := by decide +kernel
theorem dX9_figure_290 : decode cX9_figure 290 = .ok (.bipush 43, 2) := by decide +kernel
theorem dX9_figure_292 : decode cX9_figure 292 = .ok (.goto 31, 3) := by decide +kernel
theorem dX9_figure_295 : decode cX9_figure 295 = .ok (.bipush 42, 2) := by decide +kernel
theorem dX9_figure_297 : decode cX9_figure 297 = .ok (.goto 26, 3) := by decide +kernel
theorem dX9_figure_300 : decode cX9_figure 300 = .ok (.iload 5, 2) := by decide +kernel
theorem dX9_figure_302 : decode cX9_figure 302 = .ok (.iconst 3, 1) := by decide +kernel
theorem dX9_figure_303 : decode cX9_figure 303 = .ok (.if_icmp .ne 8, 3) := by decide +kernel
theorem dX9_figure_306 : decode cX9_figure 306 = .ok (.bipush 6, 2) := by decide +kernel
theorem dX9_figure_308 : decode cX9_figure 308 = .ok (.goto 15, 3) := by decide +kernel
theorem dX9_figure_311 : decode cX9_figure 311 = .ok (.iload 5, 2) := by decide +kernel
theorem dX9_figure_313 : decode cX9_figure 313 = .ok (.iconst 5, 1) := by decide +kernel
theorem dX9_figure_314 : decode cX9_figure 314 = .ok (.if_icmp .ne 8, 3) := by decide +kernel
theorem dX9_figure_317 : decode cX9_figure 317 = .ok (.bipush 64, 2) := by decide +kernel
theorem dX9_figure_319 : decode cX9_figure 319 = .ok (.goto 4, 3) := by decide +kernel
theorem dX9_figure_322 : decode cX9_figure 322 = .ok (.iconst 0, 1) := by decide +kernel
theorem dX9_figure_323 : decode cX9_figure 323 = .ok (.istore 6, 2) := by decide +kernel
theorem dX9_figure_325 : decode cX9_figure 325 = .ok (.iload 6, 2) := by decide +kernel
theorem dX9_figure_327 : decode cX9_figure 327 = .ok (.bipush 9, 2) := by decide +kernel
theorem dX9_figure_329 : decode cX9_figure 329 = .ok (.if_icmp .le 15, 3) := by decide +kernel
theorem dX9_figure_332 : decode cX9_figure 332 = .ok (.aload_n 0, 1) := by decide +kernel
theorem dX9_figure_333 : decode cX9_figure 333 = .ok (.bipush 48, 2) := by decide +kernel
theorem dX9_figure_335 : decode cX9_figure 335 = .ok (.iload 6, 2) := by decide +kernel
theorem dX9_figure_337 : decode cX9_figure 337 = .ok (.bipush 10, 2) := by decide +kernel
theorem dX9_figure_339 : decode cX9_figure 339 = .ok (.idiv, 1) := by decide +kernel
theorem dX9_figure_340 : decode cX9_figure 340 = .ok (.iadd, 1) := by decide +kernel
theorem dX9_figure_341 : decode cX9_figure 341 = .ok (.invokevirtual 307, 3) := by decide +kernel
theorem dX9_figure_344 : decode cX9_figure 344 = .ok (.iload 6, 2) := by decide +kernel
theorem dX9_figure_346 : decode cX9_figure 346 = .ok (.ifCond .le 15, 3) := by decide +kernel
theorem dX9_figure_349 : decode cX9_figure 349 = .ok (.aload_n 0, 1) := by decide +kernel
theorem dX9_figure_350 : decode cX9_figure 350 = .ok (.bipush 48, 2) := by decide +kernel
theorem dX9_figure_352 : decode cX9_figure 352 = .ok (.iload 6, 2) := by decide +kernel
theorem dX9_figure_354 : decode cX9_figure 354 = .ok (.bipush 10, 2) := by decide +kernel
theorem dX9_figure_356 : decode cX9_figure 356 = .ok (.irem, 1) := by decide +kernel
theorem dX9_figure_357 : decode cX9_figure 357 = .ok (.iadd, 1) := by decide +kernel
theorem dX9_figure_358 : decode cX9_figure 358 = .ok (.invokevirtual 307, 3) := by decide +kernel
theorem dX9_figure_361 : decode cX9_figure 361 = .ok (.goto 35, 3) := by decide +kernel
theorem dX9_figure_364 : decode cX9_figure 364 = .ok (.iload 4, 2) := by decide +kernel
theorem dX9_figure_366 : decode cX9_figure 366 = .ok (.ifCond .eq 9, 3) := by decide +kernel
theorem dX9_figure_369 : decode cX9_figure 369 = .ok (.aload_n 0, 1) := by decide +kernel
theorem dX9_figure_370 : decode cX9_figure 370 = .ok (.bipush 55, 2) := by decide +kernel
theorem dX9_figure_372 : decode cX9_figure 372 = .ok (.invokevirtual 307, 3) := by decide +kernel
theorem dX9_figure_375 : decode cX9_figure 375 = .ok (.aload_n 0, 1) := by decide +kernel
theorem dX9_figure_376 : decode cX9_figure 376 = .ok (.bipush 47, 2) := by decide +kernel
theorem dX9_figure_378 : decode cX9_figure 378 = .ok (.invokevirtual 307, 3) := by decide +kernel
theorem dX9_figure_381 : decode cX9_figure 381 = .ok (.aload_n 0, 1) := by decide +kernel
theorem dX9_figure_382 : decode cX9_figure 382 = .ok (.aload_n 0, 1) := by decide +kernel
theorem dX9_figure_383 : decode cX9_figure 383 = .ok (.iload_n 1, 1) := by decide +kernel
theorem dX9_figure_384 : decode cX9_figure 384 = .ok (.invokevirtual 278, 3) := by decide +kernel
theorem dX9_figure_387 : decode cX9_figure 387 = .ok (.iload_n 2, 1) := by decide +kernel
theorem dX9_figure_388 : decode cX9_figure 388 = .ok (.isub, 1) := by decide +kernel
theorem dX9_figure_389 : decode cX9_figure 389 = .ok (.invokestatic 275, 3) := by decide +kernel
theorem dX9_figure_392 : decode cX9_figure 392 = .ok (.iconst 0, 1) := by decide +kernel
theorem dX9_figure_393 : decode cX9_figure 393 = .ok (.invokevirtual 360, 3) := by decide +kernel
theorem dX9_figure_396 : decode cX9_figure 396 = .ok (.aload_n 0, 1) := by decide +kernel
theorem dX9_figure_397 : decode cX9_figure 397 = .ok (.getfield 304, 3) := by decide +kernel
theorem dX9_figure_400 : decode cX9_figure 400 = .ok (.ireturn, 1) := by decide +kernel
theorem dX9_count_0 : decode cX9_count 0 = .ok (.iload_n 1, 1) := by decide +kernel
theorem dX9_count_1 : decode cX9_count 1 = .ok (.tableswitch 60 0 4 #[35, 40, 45, 50, 55], 35) := by decide +kernel
theorem dX9_count_36 : decode cX9_count 36 = .ok (.aload_n 0, 1) := by decide +kernel
theorem dX9_count_37 : decode cX9_count 37 = .ok (.getfield 265, 3) := by decide +kernel
theorem dX9_count_40 : decode cX9_count 40 = .ok (.ireturn, 1) := by decide +kernel
theorem dX9_count_41 : decode cX9_count 41 = .ok (.aload_n 0, 1) := by decide +kernel
theorem dX9_count_42 : decode cX9_count 42 = .ok (.getfield 337, 3) := by decide +kernel
theorem dX9_count_45 : decode cX9_count 45 = .ok (.ireturn, 1) := by decide +kernel
theorem dX9_count_46 : decode cX9_count 46 = .ok (.aload_n 0, 1) := by decide +kernel
theorem dX9_count_47 : decode cX9_count 47 = .ok (.getfield 219, 3) := by decide +kernel
theorem dX9_count_50 : decode cX9_count 50 = .ok (.ireturn, 1) := by decide +kernel
theorem dX9_count_51 : decode cX9_count 51 = .ok (.aload_n 0, 1) := by decide +kernel
theorem dX9_count_52 : decode cX9_count 52 = .ok (.getfield 304, 3) := by decide +kernel
theorem dX9_count_55 : decode cX9_count 55 = .ok (.ireturn, 1) := by decide +kernel
theorem dX9_count_56 : decode cX9_count 56 = .ok (.aload_n 0, 1) := by decide +kernel
theorem dX9_count_57 : decode cX9_count 57 = .ok (.getfield 344, 3) := by decide +kernel
theorem dX9_count_60 : decode cX9_count 60 = .ok (.ireturn, 1) := by decide +kernel
theorem dX9_count_61 : decode cX9_count 61 = .ok (.iconst (-1), 1) := by decide +kernel
theorem dX9_count_62 : decode cX9_count 62 = .ok (.ireturn, 1) := by decide +kernel
