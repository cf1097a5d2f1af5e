set_option maxRecDepth 20000 in
theorem ggX9_init_X9_lengthOf : GoodIn wsX9_init wsX9_lengthOf := goodIn_r _ [90] (by decide +kernel) (by decide +kernel)
set_option maxRecDepth 20000 in
theorem gX9_init_X9_lengthOf : GoodIn wsX9_init (va_wsS RX9 190 yX9_lengthOf wsX9_lengthOf) := goodIn_app (goodIn_of _ (by decide +kernel)) ggX9_init_X9_lengthOf
set_option maxRecDepth 20000 in
theorem ggX9_init_X9_byteOf : GoodIn wsX9_init wsX9_byteOf := goodIn_r _ [93, 87, 88, 89, 90] (by decide +kernel) (by decide +kernel)
set_option maxRecDepth 20000 in
theorem gX9_init_X9_byteOf : GoodIn wsX9_init (va_wsS RX9 198 yX9_byteOf wsX9_byteOf) := goodIn_app (goodIn_of _ (by decide +kernel)) ggX9_init_X9_byteOf
set_option maxRecDepth 20000 in
theorem ggX9_init_X9_readBody : GoodIn wsX9_init wsX9_readBody := goodIn_r _ [97, 86, 25, 85, 84, 76, 40, 54, 98, 99, 100, 89, 101, 78, 77, 102, 103, 104, 105, 106, 107, 108, 109, 87, 88, 90, 91, 92, 93, 110, 111, 112, 113, 114, 115, 116, 117, 118, 119, 120, 121, 122, 123, 124, 125, 126, 127, 128, 129, 130, 131, 132, 133, 134, 135, 136, 141, 142, 143, 144, 145, 146, 147, 148, 149, 150, 151, 152, 153, 154, 155, 156, 157, 158, 159, 160, 161, 162, 163, 164, 165, 166, 167, 168, 169, 170, 171, 172, 173, 174, 175, 176] (by decide +kernel) (by decide +kernel)
set_option maxRecDepth 20000 in
theorem gX9_init_X9_readBody : GoodIn wsX9_init (wsV RX9 205 RX9 yX9_readBody wsX9_readBody) := goodIn_app (goodIn_of _ (by decide +kernel)) ggX9_init_X9_readBody
set_option maxRecDepth 20000 in
theorem ggX9_init_X9_sort : GoodIn wsX9_init wsX9_sort := goodIn_r _ [140, 86, 77, 78, 141, 142, 143, 144, 145, 146, 147, 148, 149, 150, 151, 152, 153, 154, 155, 156, 157, 158, 159, 160, 161, 162, 163, 164, 165, 166, 167, 168, 169, 170, 171, 172, 173, 174, 175, 176] (by decide +kernel) (by decide +kernel)
set_option maxRecDepth 20000 in
theorem gX9_init_X9_sort : GoodIn wsX9_init (wsV RX9 209 RX9 yX9_sort wsX9_sort) := goodIn_app (goodIn_of _ (by decide +kernel)) ggX9_init_X9_sort
theorem dX9_init_0 : decode cX9_init 0 = .ok (.aload_n 0, 1) := by decide +kernel
theorem dX9_init_1 : decode cX9_init 1 = .ok (.invokespecial 1, 3) := by decide +kernel
theorem dX9_init_4 : decode cX9_init 4 = .ok (.aload_n 0, 1) := by decide +kernel
theorem dX9_init_5 : decode cX9_init 5 = .ok (.bipush 40, 2) := by decide +kernel
theorem dX9_init_7 : decode cX9_init 7 = .ok (.newarray .byte, 2) := by decide +kernel
theorem dX9_init_9 : decode cX9_init 9 = .ok (.putfield 7, 3) := by decide +kernel
theorem dX9_init_12 : decode cX9_init 12 = .ok (.aload_n 0, 1) := by decide +kernel
theorem dX9_init_13 : decode cX9_init 13 = .ok (.sipush 500, 3) := by decide +kernel
theorem dX9_init_16 : decode cX9_init 16 = .ok (.newarray .int, 2) := by decide +kernel
theorem dX9_init_18 : decode cX9_init 18 = .ok (.putfield 13, 3) := by decide +kernel
theorem dX9_init_21 : decode cX9_init 21 = .ok (.aload_n 0, 1) := by decide +kernel
theorem dX9_init_22 : decode cX9_init 22 = .ok (.sipush 1600, 3) := by decide +kernel
theorem dX9_init_25 : decode cX9_init 25 = .ok (.newarray .int, 2) := by decide +kernel
theorem dX9_init_27 : decode cX9_init 27 = .ok (.putfield 17, 3) := by decide +kernel
theorem dX9_init_30 : decode cX9_init 30 = .ok (.aload_n 0, 1) := by decide +kernel
theorem dX9_init_31 : decode cX9_init 31 = .ok (.sipush 1600, 3) := by decide +kernel
theorem dX9_init_34 : decode cX9_init 34 = .ok (.newarray .int, 2) := by decide +kernel
theorem dX9_init_36 : decode cX9_init 36 = .ok (.putfield 20, 3) := by decide +kernel
theorem dX9_init_39 : decode cX9_init 39 = .ok (.aload_n 0, 1) := by decide +kernel
theorem dX9_init_40 : decode cX9_init 40 = .ok (.bipush 100, 2) := by decide +kernel
theorem dX9_init_42 : decode cX9_init 42 = .ok (.newarray .int, 2) := by decide +kernel
theorem dX9_init_44 : decode cX9_init 44 = .ok (.putfield 23, 3) := by decide +kernel
theorem dX9_init_47 : decode cX9_init 47 = .ok (.aload_n 0, 1) := by decide +kernel
theorem dX9_init_48 : decode cX9_init 48 = .ok (.bipush 64, 2) := by decide +kernel
theorem dX9_init_50 : decode cX9_init 50 = .ok (.newarray .byte, 2) := by decide +kernel
theorem dX9_init_52 : decode cX9_init 52 = .ok (.putfield 26, 3) := by decide +kernel
theorem dX9_init_55 : decode cX9_init 55 = .ok (.aload_n 0, 1) := by decide +kernel
theorem dX9_init_56 : decode cX9_init 56 = .ok (.sipush 2400, 3) := by decide +kernel
theorem dX9_init_59 : decode cX9_init 59 = .ok (.newarray .int, 2) := by decide +kernel
theorem dX9_init_61 : decode cX9_init 61 = .ok (.putfield 29, 3) := by decide +kernel
theorem dX9_init_64 : decode cX9_init 64 = .ok (.aload_n 0, 1) := by decide +kernel
theorem dX9_init_65 : decode cX9_init 65 = .ok (.bipush 12, 2) := by decide +kernel
theorem dX9_init_67 : decode cX9_init 67 = .ok (.newarray .int, 2) := by decide +kernel
theorem dX9_init_69 : decode cX9_init 69 = .ok (.putfield 32, 3) := by decide +kernel
theorem dX9_init_72 : decode cX9_init 72 = .ok (.aload_n 0, 1) := by decide +kernel
theorem dX9_init_73 : decode cX9_init 73 = .ok (.sipush 160, 3) := by decide +kernel
theorem dX9_init_76 : decode cX9_init 76 = .ok (.newarray .int, 2) := by decide +kernel
theorem dX9_init_78 : decode cX9_init 78 = .ok (.putfield 35, 3) := by decide +kernel
theorem dX9_init_81 : decode cX9_init 81 = .ok (.aload_n 0, 1) := by decide +kernel
theorem dX9_init_82 : decode cX9_init 82 = .ok (.sipush 160, 3) := by decide +kernel
theorem dX9_init_85 : decode cX9_init 85 = .ok (.newarray .int, 2) := by decide +kernel
theorem dX9_init_87 : decode cX9_init 87 = .ok (.putfield 38, 3) := by decide +kernel
theorem dX9_init_90 : decode cX9_init 90 = .ok (.aload_n 0, 1) := by decide +kernel
theorem dX9_init_91 : decode cX9_init 91 = .ok (.bipush 20, 2) := by decide +kernel
theorem dX9_init_93 : decode cX9_init 93 = .ok (.newarray .int, 2) := by decide +kernel
theorem dX9_init_95 : decode cX9_init 95 = .ok (.putfield 41, 3) := by decide +kernel
theorem dX9_init_98 : decode cX9_init 98 = .ok (.aload_n 0, 1) := by decide +kernel
theorem dX9_init_99 : decode cX9_init 99 = .ok (.bipush 7, 2) := by decide +kernel
theorem dX9_init_101 : decode cX9_init 101 = .ok (.newarray .long, 2) := by decide +kernel
theorem dX9_init_103 : decode cX9_init 103 = .ok (.dup, 1) := by decide +kernel
theorem dX9_init_104 : decode cX9_init 104 = .ok (.iconst 0, 1) := by decide +kernel
theorem dX9_init_105 : decode cX9_init 105 = .ok (.ldc2_w 44, 3) := by decide +kernel
theorem dX9_init_108 : decode cX9_init 108 = .ok (.lastore, 1) := by decide +kernel
theorem dX9_init_109 : decode cX9_init 109 = .ok (.dup, 1) := by decide +kernel
theorem dX9_init_110 : decode cX9_init 110 = .ok (.iconst 1, 1) := by decide +kernel
theorem dX9_init_111 : decode cX9_init 111 = .ok (.ldc2_w 46, 3) := by decide +kernel
theorem dX9_init_114 : decode cX9_init 114 = .ok (.lastore, 1) := by decide +kernel
theorem dX9_init_115 : decode cX9_init 115 = .ok (.dup, 1) := by decide +kernel
theorem dX9_init_116 : decode cX9_init 116 = .ok (.iconst 2, 1) := by decide +kernel
theorem dX9_init_117 : decode cX9_init 117 = .ok (.ldc2_w 48, 3) := by decide +kernel
theorem dX9_init_120 : decode cX9_init 120 = .ok (.lastore, 1) := by decide +kernel
theorem dX9_init_121 : decode cX9_init 121 = .ok (.dup, 1) := by decide +kernel
theorem dX9_init_122 : decode cX9_init 122 = .ok (.iconst 3, 1) := by decide +kernel
theorem dX9_init_123 : decode cX9_init 123 = .ok (.ldc2_w 50, 3) := by decide +kernel
theorem dX9_init_126 : decode cX9_init 126 = .ok (.lastore, 1) := by decide +kernel
theorem dX9_init_127 : decode cX9_init 127 = .ok (.dup, 1) := by decide +kernel
theorem dX9_init_128 : decode cX9_init 128 = .ok (.iconst 4, 1) := by decide +kernel
theorem dX9_init_129 : decode cX9_init 129 = .ok (.ldc2_w 52, 3) := by decide +kernel
theorem dX9_init_132 : decode cX9_init 132 = .ok (.lastore, 1) := by decide +kernel
theorem dX9_init_133 : decode cX9_init 133 = .ok (.dup, 1) := by decide +kernel
theorem dX9_init_134 : decode cX9_init 134 = .ok (.iconst 5, 1) := by decide +kernel
theorem dX9_init_135 : decode cX9_init 135 = .ok (.ldc2_w 54, 3) := by decide +kernel
theorem dX9_init_138 : decode cX9_init 138 = .ok (.lastore, 1) := by decide +kernel
theorem dX9_init_139 : decode cX9_init 139 = .ok (.dup, 1) := by decide +kernel
theorem dX9_init_140 : decode cX9_init 140 = .ok (.bipush 6, 2) := by decide +kernel
theorem dX9_init_142 : decode cX9_init 142 = .ok (.ldc2_w 56, 3) := by decide +kernel
theorem dX9_init_145 : decode cX9_init 145 = .ok (.lastore, 1) := by decide +kernel
theorem dX9_init_146 : decode cX9_init 146 = .ok (.putfield 58, 3) := by decide +kernel
theorem dX9_init_149 : decode cX9_init 149 = .ok (.aload_n 0, 1) := by decide +kernel
theorem dX9_init_150 : decode cX9_init 150 = .ok (.bipush 14, 2) := by decide +kernel
theorem dX9_init_152 : decode cX9_init 152 = .ok (.newarray .long, 2) := by decide +kernel
theorem dX9_init_154 : decode cX9_init 154 = .ok (.dup, 1) := by decide +kernel
theorem dX9_init_155 : decode cX9_init 155 = .ok (.iconst 0, 1) := by decide +kernel
theorem dX9_init_156 : decode cX9_init 156 = .ok (.ldc2_w 62, 3) := by decide +kernel
theorem dX9_init_159 : decode cX9_init 159 = .ok (.lastore, 1) := by decide +kernel
theorem dX9_init_160 : decode cX9_init 160 = .ok (.dup, 1) := by decide +kernel
theorem dX9_init_161 : decode cX9_init 161 = .ok (.iconst 1, 1) := by decide +kernel
theorem dX9_init_162 : decode cX9_init 162 = .ok (.ldc2_w 64, 3) := by decide +kernel
theorem dX9_init_165 : decode cX9_init 165 = .ok (.lastore, 1) := by decide +kernel
theorem dX9_init_166 : decode cX9_init 166 = .ok (.dup, 1) := by decide +kernel
theorem dX9_init_167 : decode cX9_init 167 = .ok (.iconst 2, 1) := by decide +kernel
theorem dX9_init_168 : decode cX9_init 168 = .ok (.ldc2_w 66, 3) := by decide +kernel
theorem dX9_init_171 : decode cX9_init 171 = .ok (.lastore, 1) := by decide +kernel
theorem dX9_init_172 : decode cX9_init 172 = .ok (.dup, 1) := by decide +kernel
theorem dX9_init_173 : decode cX9_init 173 = .ok (.iconst 3, 1) := by decide +kernel
theorem dX9_init_174 : decode cX9_init 174 = .ok (.ldc2_w 68, 3) := by decide +kernel
theorem dX9_init_177 : decode cX9_init 177 = .ok (.lastore, 1) := by decide +kernel
theorem dX9_init_178 : decode cX9_init 178 = .ok (.dup, 1) := by decide +kernel
theorem dX9_init_179 : decode cX9_init 179 = .ok (.iconst 4, 1) := by decide +kernel
theorem dX9_init_180 : decode cX9_init 180 = .ok (.ldc2_w 70, 3) := by decide +kernel
theorem dX9_init_183 : decode cX9_init 183 = .ok (.lastore, 1) := by decide +kernel
theorem dX9_init_184 : decode cX9_init 184 = .ok (.dup, 1) := by decide +kernel
theorem dX9_init_185 : decode cX9_init 185 = .ok (.iconst 5, 1) := by decide +kernel
theorem dX9_init_186 : decode cX9_init 186 = .ok (.ldc2_w 72, 3) := by decide +kernel
theorem dX9_init_189 : decode cX9_init 189 = .ok (.lastore, 1) := by decide +kernel
theorem dX9_init_190 : decode cX9_init 190 = .ok (.dup, 1) := by decide +kernel
theorem dX9_init_191 : decode cX9_init 191 = .ok (.bipush 6, 2) := by decide +kernel
theorem dX9_init_193 : decode cX9_init 193 = .ok (.ldc2_w 74, 3) := by decide +kernel
theorem dX9_init_196 : decode cX9_init 196 = .ok (.lastore, 1) := by decide +kernel
theorem dX9_init_197 : decode cX9_init 197 = .ok (.dup, 1) := by decide +kernel
theorem dX9_init_198 : decode cX9_init 198 = .ok (.bipush 7, 2) := by decide +kernel
theorem dX9_init_200 : decode cX9_init 200 = .ok (.ldc2_w 76, 3) := by decide +kernel
theorem dX9_init_203 : decode cX9_init 203 = .ok (.lastore, 1) := by decide +kernel
theorem dX9_init_204 : decode cX9_init 204 = .ok (.dup, 1) := by decide +kernel
theorem dX9_init_205 : decode cX9_init 205 = .ok (.bipush 8, 2) := by decide +kernel
theorem dX9_init_207 : decode cX9_init 207 = .ok (.ldc2_w 78, 3) := by decide +kernel
theorem dX9_init_210 : decode cX9_init 210 = .ok (.lastore, 1) := by decide +kernel
theorem dX9_init_211 : decode cX9_init 211 = .ok (.dup, 1) := by decide +kernel
theorem dX9_init_212 : decode cX9_init 212 = .ok (.bipush 9, 2) := by decide +kernel
theorem dX9_init_214 : decode cX9_init 214 = .ok (.ldc2_w 80, 3) := by decide +kernel
theorem dX9_init_217 : decode cX9_init 217 = .ok (.lastore, 1) := by decide +kernel
theorem dX9_init_218 : decode cX9_init 218 = .ok (.dup, 1) := by decide +kernel
theorem dX9_init_219 : decode cX9_init 219 = .ok (.bipush 10, 2) := by decide +kernel
theorem dX9_init_221 : decode cX9_init 221 = .ok (.ldc2_w 82, 3) := by decide +kernel
theorem dX9_init_224 : decode cX9_init 224 = .ok (.lastore, 1) := by decide +kernel
theorem dX9_init_225 : decode cX9_init 225 = .ok (.dup, 1) := by decide +kernel
theorem dX9_init_226 : decode cX9_init 226 = .ok (.bipush 11, 2) := by decide +kernel
theorem dX9_init_228 : decode cX9_init 228 = .ok (.ldc2_w 84, 3) := by decide +kernel
theorem dX9_init_231 : decode cX9_init 231 = .ok (.lastore, 1) := by decide +kernel
theorem dX9_init_232 : decode cX9_init 232 = .ok (.dup, 1) := by decide +kernel
theorem dX9_init_233 : decode cX9_init 233 = .ok (.bipush 12, 2) := by decide +kernel
theorem dX9_init_235 : decode cX9_init 235 = .ok (.ldc2_w 86, 3) := by decide +kernel
theorem dX9_init_238 : decode cX9_init 238 = .ok (.lastore, 1) := by decide +kernel
theorem dX9_init_239 : decode cX9_init 239 = .ok (.dup, 1) := by decide +kernel
theorem dX9_init_240 : decode cX9_init 240 = .ok (.bipush 13, 2) := by decide +kernel
theorem dX9_init_242 : decode cX9_init 242 = .ok (.ldc2_w 88, 3) := by decide +kernel
theorem dX9_init_245 : decode cX9_init 245 = .ok (.lastore, 1) := by decide +kernel
theorem dX9_init_246 : decode cX9_init 246 = .ok (.putfield 90, 3) := by decide +kernel
theorem dX9_init_249 : decode cX9_init 249 = .ok (.aload_n 0, 1) := by decide +kernel
theorem dX9_init_250 : decode cX9_init 250 = .ok (.bipush 13, 2) := by decide +kernel
theorem dX9_init_252 : decode cX9_init 252 = .ok (.newarray .long, 2) := by decide +kernel
theorem dX9_init_254 : decode cX9_init 254 = .ok (.dup, 1) := by decide +kernel
theorem dX9_init_255 : decode cX9_init 255 = .ok (.iconst 0, 1) := by decide +kernel
theorem dX9_init_256 : decode cX9_init 256 = .ok (.ldc2_w 93, 3) := by decide +kernel
theorem dX9_init_259 : decode cX9_init 259 = .ok (.lastore, 1) := by decide +kernel
theorem dX9_init_260 : decode cX9_init 260 = .ok (.dup, 1) := by decide +kernel
theorem dX9_init_261 : decode cX9_init 261 = .ok (.iconst 1, 1) := by decide +kernel
theorem dX9_init_262 : decode cX9_init 262 = .ok (.ldc2_w 95, 3) := by decide +kernel
theorem dX9_init_265 : decode cX9_init 265 = .ok (.lastore, 1) := by decide +kernel
theorem dX9_init_266 : decode cX9_init 266 = .ok (.dup, 1) := by decide +kernel
theorem dX9_init_267 : decode cX9_init 267 = .ok (.iconst 2, 1) := by decide +kernel
theorem dX9_init_268 : decode cX9_init 268 = .ok (.ldc2_w 97, 3) := by decide +kernel
theorem dX9_init_271 : decode cX9_init 271 = .ok (.lastore, 1) := by decide +kernel
theorem dX9_init_272 : decode cX9_init 272 = .ok (.dup, 1) := by decide +kernel
theorem dX9_init_273 : decode cX9_init 273 = .ok (.iconst 3, 1) := by decide +kernel
theorem dX9_init_274 : decode cX9_init 274 = .ok (.ldc2_w 99, 3) := by decide +kernel
theorem dX9_init_277 : decode cX9_init 277 = .ok (.lastore, 1) := by decide +kernel
theorem dX9_init_278 : decode cX9_init 278 = .ok (.dup, 1) := by decide +kernel
theorem dX9_init_279 : decode cX9_init 279 = .ok (.iconst 4, 1) := by decide +kernel
theorem dX9_init_280 : decode cX9_init 280 = .ok (.ldc2_w 101, 3) := by decide +kernel
theorem dX9_init_283 : decode cX9_init 283 = .ok (.lastore, 1) := by decide +kernel
theorem dX9_init_284 : decode cX9_init 284 = .ok (.dup, 1) := by decide +kernel
theorem dX9_init_285 : decode cX9_init 285 = .ok (.iconst 5, 1) := by decide +kernel
theorem dX9_init_286 : decode cX9_init 286 = .ok (.ldc2_w 103, 3) := by decide +kernel
theorem dX9_init_289 : decode cX9_init 289 = .ok (.lastore, 1) := by decide +kernel
theorem dX9_init_290 : decode cX9_init 290 = .ok (.dup, 1) := by decide +kernel
theorem dX9_init_291 : decode cX9_init 291 = .ok (.bipush 6, 2) := by decide +kernel
theorem dX9_init_293 : decode cX9_init 293 = .ok (.ldc2_w 105, 3) := by decide +kernel
theorem dX9_init_296 : decode cX9_init 296 = .ok (.lastore, 1) := by decide +kernel
theorem dX9_init_297 : decode cX9_init 297 = .ok (.dup, 1) := by decide +kernel
theorem dX9_init_298 : decode cX9_init 298 = .ok (.bipush 7, 2) := by decide +kernel
theorem dX9_init_300 : decode cX9_init 300 = .ok (.ldc2_w 107, 3) := by decide +kernel
theorem dX9_init_303 : decode cX9_init 303 = .ok (.lastore, 1) := by decide +kernel
theorem dX9_init_304 : decode cX9_init 304 = .ok (.dup, 1) := by decide +kernel
theorem dX9_init_305 : decode cX9_init 305 = .ok (.bipush 8, 2) := by decide +kernel
theorem dX9_init_307 : decode cX9_init 307 = .ok (.ldc2_w 109, 3) := by decide +kernel
theorem dX9_init_310 : decode cX9_init 310 = .ok (.lastore, 1) := by decide +kernel
theorem dX9_init_311 : decode cX9_init 311 = .ok (.dup, 1) := by decide +kernel
theorem dX9_init_312 : decode cX9_init 312 = .ok (.bipush 9, 2) := by decide +kernel
theorem dX9_init_314 : decode cX9_init 314 = .ok (.ldc2_w 111, 3) := by decide +kernel
theorem dX9_init_317 : decode cX9_init 317 = .ok (.lastore, 1) := by decide +kernel
theorem dX9_init_318 : decode cX9_init 318 = .ok (.dup, 1) := by decide +kernel
theorem dX9_init_319 : decode cX9_init 319 = .ok (.bipush 10, 2) := by decide +kernel
theorem dX9_init_321 : decode cX9_init 321 = .ok (.ldc2_w 113, 3) := by decide +kernel
theorem dX9_init_324 : decode cX9_init 324 = .ok (.lastore, 1) := by decide +kernel
theorem dX9_init_325 : decode cX9_init 325 = .ok (.dup, 1) := by decide +kernel
theorem dX9_init_326 : decode cX9_init 326 = .ok (.bipush 11, 2) := by decide +kernel
theorem dX9_init_328 : decode cX9_init 328 = .ok (.ldc2_w 115, 3) := by decide +kernel
theorem dX9_init_331 : decode cX9_init 331 = .ok (.lastore, 1) := by decide +kernel
theorem dX9_init_332 : decode cX9_init 332 = .ok (.dup, 1) := by decide +kernel
theorem dX9_init_333 : decode cX9_init 333 = .ok (.bipush 12, 2) := by decide +kernel
theorem dX9_init_335 : decode cX9_init 335 = .ok (.ldc2_w 117, 3) := by decide +kernel
theorem dX9_init_338 : decode cX9_init 338 = .ok (.lastore, 1) := by decide +kernel
theorem dX9_init_339 : decode cX9_init 339 = .ok (.putfield 119, 3) := by decide +kernel
theorem dX9_init_342 : decode cX9_init 342 = .ok (.aload_n 0, 1) := by decide +kernel
theorem dX9_init_343 : decode cX9_init 343 = .ok (.bipush 20, 2) := by decide +kernel
theorem dX9_init_345 : decode cX9_init 345 = .ok (.newarray .long, 2) := by decide +kernel
theorem dX9_init_347 : decode cX9_init 347 = .ok (.dup, 1) := by decide +kernel
theorem dX9_init_348 : decode cX9_init 348 = .ok (.iconst 0, 1) := by decide +kernel
theorem dX9_init_349 : decode cX9_init 349 = .ok (.lconst 0, 1) := by decide +kernel
theorem dX9_init_350 : decode cX9_init 350 = .ok (.lastore, 1) := by decide +kernel
theorem dX9_init_351 : decode cX9_init 351 = .ok (.dup, 1) := by decide +kernel
theorem dX9_init_352 : decode cX9_init 352 = .ok (.iconst 1, 1) := by decide +kernel
theorem dX9_init_353 : decode cX9_init 353 = .ok (.ldc2_w 44, 3) := by decide +kernel
theorem dX9_init_356 : decode cX9_init 356 = .ok (.lastore, 1) := by decide +kernel
theorem dX9_init_357 : decode cX9_init 357 = .ok (.dup, 1) := by decide +kernel
theorem dX9_init_358 : decode cX9_init 358 = .ok (.iconst 2, 1) := by decide +kernel
theorem dX9_init_359 : decode cX9_init 359 = .ok (.ldc2_w 66, 3) := by decide +kernel
theorem dX9_init_362 : decode cX9_init 362 = .ok (.lastore, 1) := by decide +kernel
theorem dX9_init_363 : decode cX9_init 363 = .ok (.dup, 1) := by decide +kernel
theorem dX9_init_364 : decode cX9_init 364 = .ok (.iconst 3, 1) := by decide +kernel
theorem dX9_init_365 : decode cX9_init 365 = .ok (.ldc2_w 68, 3) := by decide +kernel
theorem dX9_init_368 : decode cX9_init 368 = .ok (.lastore, 1) := by decide +kernel
theorem dX9_init_369 : decode cX9_init 369 = .ok (.dup, 1) := by decide +kernel
theorem dX9_init_370 : decode cX9_init 370 = .ok (.iconst 4, 1) := by decide +kernel
theorem dX9_init_371 : decode cX9_init 371 = .ok (.ldc2_w 122, 3) := by decide +kernel
theorem dX9_init_374 : decode cX9_init 374 = .ok (.lastore, 1) := by decide +kernel
theorem dX9_init_375 : decode cX9_init 375 = .ok (.dup, 1) := by decide +kernel
theorem dX9_init_376 : decode cX9_init 376 = .ok (.iconst 5, 1) := by decide +kernel
theorem dX9_init_377 : decode cX9_init 377 = .ok (.ldc2_w 48, 3) := by decide +kernel
theorem dX9_init_380 : decode cX9_init 380 = .ok (.lastore, 1) := by decide +kernel
theorem dX9_init_381 : decode cX9_init 381 = .ok (.dup, 1) := by decide +kernel
theorem dX9_init_382 : decode cX9_init 382 = .ok (.bipush 6, 2) := by decide +kernel
theorem dX9_init_384 : decode cX9_init 384 = .ok (.ldc2_w 124, 3) := by decide +kernel
theorem dX9_init_387 : decode cX9_init 387 = .ok (.lastore, 1) := by decide +kernel
theorem dX9_init_388 : decode cX9_init 388 = .ok (.dup, 1) := by decide +kernel
theorem dX9_init_389 : decode cX9_init 389 = .ok (.bipush 7, 2) := by decide +kernel
theorem dX9_init_391 : decode cX9_init 391 = .ok (.ldc2_w 126, 3) := by decide +kernel
theorem dX9_init_394 : decode cX9_init 394 = .ok (.lastore, 1) := by decide +kernel
theorem dX9_init_395 : decode cX9_init 395 = .ok (.dup, 1) := by decide +kernel
theorem dX9_init_396 : decode cX9_init 396 = .ok (.bipush 8, 2) := by decide +kernel
theorem dX9_init_398 : decode cX9_init 398 = .ok (.ldc2_w 52, 3) := by decide +kernel
theorem dX9_init_401 : decode cX9_init 401 = .ok (.lastore, 1) := by decide +kernel
theorem dX9_init_402 : decode cX9_init 402 = .ok (.dup, 1) := by decide +kernel
theorem dX9_init_403 : decode cX9_init 403 = .ok (.bipush 9, 2) := by decide +kernel
theorem dX9_init_405 : decode cX9_init 405 = .ok (.ldc2_w 95, 3) := by decide +kernel
theorem dX9_init_408 : decode cX9_init 408 = .ok (.lastore, 1) := by decide +kernel
theorem dX9_init_409 : decode cX9_init 409 = .ok (.dup, 1) := by decide +kernel
theorem dX9_init_410 : decode cX9_init 410 = .ok (.bipush 10, 2) := by decide +kernel
theorem dX9_init_412 : decode cX9_init 412 = .ok (.ldc2_w 93, 3) := by decide +kernel
theorem dX9_init_415 : decode cX9_init 415 = .ok (.lastore, 1) := by decide +kernel
theorem dX9_init_416 : decode cX9_init 416 = .ok (.dup, 1) := by decide +kernel
theorem dX9_init_417 : decode cX9_init 417 = .ok (.bipush 11, 2) := by decide +kernel
theorem dX9_init_419 : decode cX9_init 419 = .ok (.ldc2_w 64, 3) := by decide +kernel
theorem dX9_init_422 : decode cX9_init 422 = .ok (.lastore, 1) := by decide +kernel
theorem dX9_init_423 : decode cX9_init 423 = .ok (.dup, 1) := by decide +kernel
theorem dX9_init_424 : decode cX9_init 424 = .ok (.bipush 12, 2) := by decide +kernel
theorem dX9_init_426 : decode cX9_init 426 = .ok (.ldc2_w 128, 3) := by decide +kernel
theorem dX9_init_429 : decode cX9_init 429 = .ok (.lastore, 1) := by decide +kernel
theorem dX9_init_430 : decode cX9_init 430 = .ok (.dup, 1) := by decide +kernel
theorem dX9_init_431 : decode cX9_init 431 = .ok (.bipush 13, 2) := by decide +kernel
theorem dX9_init_433 : decode cX9_init 433 = .ok (.ldc2_w 72, 3) := by decide +kernel
theorem dX9_init_436 : decode cX9_init 436 = .ok (.lastore, 1) := by decide +kernel
theorem dX9_init_437 : decode cX9_init 437 = .ok (.dup, 1) := by decide +kernel
theorem dX9_init_438 : decode cX9_init 438 = .ok (.bipush 14, 2) := by decide +kernel
theorem dX9_init_440 : decode cX9_init 440 = .ok (.ldc2_w 74, 3) := by decide +kernel
theorem dX9_init_443 : decode cX9_init 443 = .ok (.lastore, 1) := by decide +kernel
theorem dX9_init_444 : decode cX9_init 444 = .ok (.dup, 1) := by decide +kernel
theorem dX9_init_445 : decode cX9_init 445 = .ok (.bipush 15, 2) := by decide +kernel
theorem dX9_init_447 : decode cX9_init 447 = .ok (.ldc2_w 130, 3) := by decide +kernel
theorem dX9_init_450 : decode cX9_init 450 = .ok (.lastore, 1) := by decide +kernel
theorem dX9_init_451 : decode cX9_init 451 = .ok (.dup, 1) := by decide +kernel
theorem dX9_init_452 : decode cX9_init 452 = .ok (.bipush 16, 2) := by decide +kernel
theorem dX9_init_454 : decode cX9_init 454 = .ok (.ldc2_w 111, 3) := by decide +kernel
theorem dX9_init_457 : decode cX9_init 457 = .ok (.lastore, 1) := by decide +kernel
theorem dX9_init_458 : decode cX9_init 458 = .ok (.dup, 1) := by decide +kernel
theorem dX9_init_459 : decode cX9_init 459 = .ok (.bipush 17, 2) := by decide +kernel
theorem dX9_init_461 : decode cX9_init 461 = .ok (.ldc2_w 56, 3) := by decide +kernel
theorem dX9_init_464 : decode cX9_init 464 = .ok (.lastore, 1) := by decide +kernel
theorem dX9_init_465 : decode cX9_init 465 = .ok (.dup, 1) := by decide +kernel
theorem dX9_init_466 : decode cX9_init 466 = .ok (.bipush 18, 2) := by decide +kernel
theorem dX9_init_468 : decode cX9_init 468 = .ok (.ldc2_w 132, 3) := by decide +kernel
theorem dX9_init_471 : decode cX9_init 471 = .ok (.lastore, 1) := by decide +kernel
theorem dX9_init_472 : decode cX9_init 472 = .ok (.dup, 1) := by decide +kernel
theorem dX9_init_473 : decode cX9_init 473 = .ok (.bipush 19, 2) := by decide +kernel
theorem dX9_init_475 : decode cX9_init 475 = .ok (.ldc2_w 134, 3) := by decide +kernel
theorem dX9_init_478 : decode cX9_init 478 = .ok (.lastore, 1) := by decide +kernel
theorem dX9_init_479 : decode cX9_init 479 = .ok (.putfield 136, 3) := by decide +kernel
theorem dX9_init_482 : decode cX9_init 482 = .ok (.aload_n 0, 1) := by decide +kernel
theorem dX9_init_483 : decode cX9_init 483 = .ok (.bipush 12, 2) := by decide +kernel
theorem dX9_init_485 : decode cX9_init 485 = .ok (.newarray .long, 2) := by decide +kernel
theorem dX9_init_487 : decode cX9_init 487 = .ok (.dup, 1) := by decide +kernel
theorem dX9_init_488 : decode cX9_init 488 = .ok (.iconst 0, 1) := by decide +kernel
theorem dX9_init_489 : decode cX9_init 489 = .ok (.ldc2_w 139, 3) := by decide +kernel
theorem dX9_init_492 : decode cX9_init 492 = .ok (.lastore, 1) := by decide +kernel
theorem dX9_init_493 : decode cX9_init 493 = .ok (.dup, 1) := by decide +kernel
theorem dX9_init_494 : decode cX9_init 494 = .ok (.iconst 1, 1) := by decide +kernel
theorem dX9_init_495 : decode cX9_init 495 = .ok (.ldc2_w 141, 3) := by decide +kernel
theorem dX9_init_498 : decode cX9_init 498 = .ok (.lastore, 1) := by decide +kernel
theorem dX9_init_499 : decode cX9_init 499 = .ok (.dup, 1) := by decide +kernel
theorem dX9_init_500 : decode cX9_init 500 = .ok (.iconst 2, 1) := by decide +kernel
theorem dX9_init_501 : decode cX9_init 501 = .ok (.ldc2_w 143, 3) := by decide +kernel
theorem dX9_init_504 : decode cX9_init 504 = .ok (.lastore, 1) := by decide +kernel
theorem dX9_init_505 : decode cX9_init 505 = .ok (.dup, 1) := by decide +kernel
theorem dX9_init_506 : decode cX9_init 506 = .ok (.iconst 3, 1) := by decide +kernel
theorem dX9_init_507 : decode cX9_init 507 = .ok (.ldc2_w 145, 3) := by decide +kernel
theorem dX9_init_510 : decode cX9_init 510 = .ok (.lastore, 1) := by decide +kernel
theorem dX9_init_511 : decode cX9_init 511 = .ok (.dup, 1) := by decide +kernel
theorem dX9_init_512 : decode cX9_init 512 = .ok (.iconst 4, 1) := by decide +kernel
theorem dX9_init_513 : decode cX9_init 513 = .ok (.ldc2_w 147, 3) := by decide +kernel
theorem dX9_init_516 : decode cX9_init 516 = .ok (.lastore, 1) := by decide +kernel
theorem dX9_init_517 : decode cX9_init 517 = .ok (.dup, 1) := by decide +kernel
theorem dX9_init_518 : decode cX9_init 518 = .ok (.iconst 5, 1) := by decide +kernel
theorem dX9_init_519 : decode cX9_init 519 = .ok (.ldc2_w 149, 3) := by decide +kernel
theorem dX9_init_522 : decode cX9_init 522 = .ok (.lastore, 1) := by decide +kernel
theorem dX9_init_523 : decode cX9_init 523 = .ok (.dup, 1) := by decide +kernel
theorem dX9_init_524 : decode cX9_init 524 = .ok (.bipush 6, 2) := by decide +kernel
theorem dX9_init_526 : decode cX9_init 526 = .ok (.ldc2_w 151, 3) := by decide +kernel
theorem dX9_init_529 : decode cX9_init 529 = .ok (.lastore, 1) := by decide +kernel
theorem dX9_init_530 : decode cX9_init 530 = .ok (.dup, 1) := by decide +kernel
theorem dX9_init_531 : decode cX9_init 531 = .ok (.bipush 7, 2) := by decide +kernel
theorem dX9_init_533 : decode cX9_init 533 = .ok (.ldc2_w 153, 3) := by decide +kernel
theorem dX9_init_536 : decode cX9_init 536 = .ok (.lastore, 1) := by decide +kernel
theorem dX9_init_537 : decode cX9_init 537 = .ok (.dup, 1) := by decide +kernel
theorem dX9_init_538 : decode cX9_init 538 = .ok (.bipush 8, 2) := by decide +kernel
theorem dX9_init_540 : decode cX9_init 540 = .ok (.ldc2_w 155, 3) := by decide +kernel
theorem dX9_init_543 : decode cX9_init 543 = .ok (.lastore, 1) := by decide +kernel
theorem dX9_init_544 : decode cX9_init 544 = .ok (.dup, 1) := by decide +kernel
theorem dX9_init_545 : decode cX9_init 545 = .ok (.bipush 9, 2) := by decide +kernel
theorem dX9_init_547 : decode cX9_init 547 = .ok (.ldc2_w 157, 3) := by decide +kernel
theorem dX9_init_550 : decode cX9_init 550 = .ok (.lastore, 1) := by decide +kernel
theorem dX9_init_551 : decode cX9_init 551 = .ok (.dup, 1) := by decide +kernel
theorem dX9_init_552 : decode cX9_init 552 = .ok (.bipush 10, 2) := by decide +kernel
theorem dX9_init_554 : decode cX9_init 554 = .ok (.ldc2_w 159, 3) := by decide +kernel
theorem dX9_init_557 : decode cX9_init 557 = .ok (.lastore, 1) := by decide +kernel
theorem dX9_init_558 : decode cX9_init 558 = .ok (.dup, 1) := by decide +kernel
theorem dX9_init_559 : decode cX9_init 559 = .ok (.bipush 11, 2) := by decide +kernel
theorem dX9_init_561 : decode cX9_init 561 = .ok (.ldc2_w 161, 3) := by decide +kernel
theorem dX9_init_564 : decode cX9_init 564 = .ok (.lastore, 1) := by decide +kernel
theorem dX9_init_565 : decode cX9_init 565 = .ok (.putfield 163, 3) := by decide +kernel
theorem dX9_init_568 : decode cX9_init 568 = .ok (.aload_n 0, 1) := by decide +kernel
theorem dX9_init_569 : decode cX9_init 569 = .ok (.bipush 64, 2) := by decide +kernel
theorem dX9_init_571 : decode cX9_init 571 = .ok (.newarray .byte, 2) := by decide +kernel
theorem dX9_init_573 : decode cX9_init 573 = .ok (.putfield 166, 3) := by decide +kernel
theorem dX9_init_576 : decode cX9_init 576 = .ok (.aload_n 0, 1) := by decide +kernel
theorem dX9_init_577 : decode cX9_init 577 = .ok (.bipush 16, 2) := by decide +kernel
theorem dX9_init_579 : decode cX9_init 579 = .ok (.newarray .int, 2) := by decide +kernel
theorem dX9_init_581 : decode cX9_init 581 = .ok (.putfield 169, 3) := by decide +kernel
theorem dX9_init_584 : decode cX9_init 584 = .ok (.aload_n 0, 1) := by decide +kernel
theorem dX9_init_585 : decode cX9_init 585 = .ok (.bipush 16, 2) := by decide +kernel
theorem dX9_init_587 : decode cX9_init 587 = .ok (.newarray .int, 2) := by decide +kernel
theorem dX9_init_589 : decode cX9_init 589 = .ok (.putfield 172, 3) := by decide +kernel
theorem dX9_init_592 : decode cX9_init 592 = .ok (.aload_n 0, 1) := by decide +kernel
theorem dX9_init_593 : decode cX9_init 593 = .ok (.sipush 2400, 3) := by decide +kernel
theorem dX9_init_596 : decode cX9_init 596 = .ok (.newarray .int, 2) := by decide +kernel
theorem dX9_init_598 : decode cX9_init 598 = .ok (.putfield 175, 3) := by decide +kernel
theorem dX9_init_601 : decode cX9_init 601 = .ok (.aload_n 0, 1) := by decide +kernel
theorem dX9_init_602 : decode cX9_init 602 = .ok (.bipush 64, 2) := by decide +kernel
theorem dX9_init_604 : decode cX9_init 604 = .ok (.newarray .byte, 2) := by decide +kernel
theorem dX9_init_606 : decode cX9_init 606 = .ok (.putfield 178, 3) := by decide +kernel
theorem dX9_init_609 : decode cX9_init 609 = .ok (.aload_n 0, 1) := by decide +kernel
theorem dX9_init_610 : decode cX9_init 610 = .ok (.bipush 64, 2) := by decide +kernel
theorem dX9_init_612 : decode cX9_init 612 = .ok (.newarray .byte, 2) := by decide +kernel
theorem dX9_init_614 : decode cX9_init 614 = .ok (.putfield 181, 3) := by decide +kernel
theorem dX9_init_617 : decode cX9_init 617 = .ok (.aload_n 0, 1) := by decide +kernel
theorem dX9_init_618 : decode cX9_init 618 = .ok (.sipush 128, 3) := by decide +kernel
theorem dX9_init_621 : decode cX9_init 621 = .ok (.newarray .int, 2) := by decide +kernel
theorem dX9_init_623 : decode cX9_init 623 = .ok (.putfield 184, 3) := by decide +kernel
theorem dX9_init_626 : decode cX9_init 626 = .ok (.aload_n 0, 1) := by decide +kernel
theorem dX9_init_627 : decode cX9_init 627 = .ok (.bipush 12, 2) := by decide +kernel
theorem dX9_init_629 : decode cX9_init 629 = .ok (.newarray .int, 2) := by decide +kernel
theorem dX9_init_631 : decode cX9_init 631 = .ok (.putfield 187, 3) := by decide +kernel
theorem dX9_init_634 : decode cX9_init 634 = .ok (.iconst 0, 1) := by decide +kernel
theorem dX9_init_635 : decode cX9_init 635 = .ok (.istore_n 1, 1) := by decide +kernel
theorem dX9_init_636 : decode cX9_init 636 = .ok (.iload_n 1, 1) := by decide +kernel
theorem dX9_init_637 : decode cX9_init 637 = .ok (.bipush 20, 2) := by decide +kernel
theorem dX9_init_639 : decode cX9_init 639 = .ok (.if_icmp .ge 129, 3) := by decide +kernel
theorem dX9_init_642 : decode cX9_init 642 = .ok (.aload_n 0, 1) := by decide +kernel
theorem dX9_init_643 : decode cX9_init 643 = .ok (.aload_n 0, 1) := by decide +kernel
theorem dX9_init_644 : decode cX9_init 644 = .ok (.getfield 136, 3) := by decide +kernel
theorem dX9_init_647 : decode cX9_init 647 = .ok (.iload_n 1, 1) := by decide +kernel
theorem dX9_init_648 : decode cX9_init 648 = .ok (.laload, 1) := by decide +kernel
theorem dX9_init_649 : decode cX9_init 649 = .ok (.invokestatic 190, 3) := by decide +kernel
theorem dX9_init_652 : decode cX9_init 652 = .ok (.putfield 194, 3) := by decide +kernel
theorem dX9_init_655 : decode cX9_init 655 = .ok (.iconst 0, 1) := by decide +kernel
theorem dX9_init_656 : decode cX9_init 656 = .ok (.istore_n 2, 1) := by decide +kernel
theorem dX9_init_657 : decode cX9_init 657 = .ok (.iload_n 2, 1) := by decide +kernel
theorem dX9_init_658 : decode cX9_init 658 = .ok (.aload_n 0, 1) := by decide +kernel
theorem dX9_init_659 : decode cX9_init 659 = .ok (.getfield 194, 3) := by decide +kernel
theorem dX9_init_662 : decode cX9_init 662 = .ok (.if_icmp .ge 26, 3) := by decide +kernel
theorem dX9_init_665 : decode cX9_init 665 = .ok (.aload_n 0, 1) := by decide +kernel
theorem dX9_init_666 : decode cX9_init 666 = .ok (.getfield 166, 3) := by decide +kernel
theorem dX9_init_669 : decode cX9_init 669 = .ok (.iload_n 2, 1) := by decide +kernel
theorem dX9_init_670 : decode cX9_init 670 = .ok (.aload_n 0, 1) := by decide +kernel
theorem dX9_init_671 : decode cX9_init 671 = .ok (.getfield 136, 3) := by decide +kernel
theorem dX9_init_674 : decode cX9_init 674 = .ok (.iload_n 1, 1) := by decide +kernel
theorem dX9_init_675 : decode cX9_init 675 = .ok (.laload, 1) := by decide +kernel
theorem dX9_init_676 : decode cX9_init 676 = .ok (.iload_n 2, 1) := by decide +kernel
theorem dX9_init_677 : decode cX9_init 677 = .ok (.invokestatic 198, 3) := by decide +kernel
theorem dX9_init_680 : decode cX9_init 680 = .ok (.i2b, 1) := by decide +kernel
theorem dX9_init_681 : decode cX9_init 681 = .ok (.bastore, 1) := by decide +kernel
theorem dX9_init_682 : decode cX9_init 682 = .ok (.iinc 2 1, 3) := by decide +kernel
theorem dX9_init_685 : decode cX9_init 685 = .ok (.goto (-28), 3) := by decide +kernel
theorem dX9_init_688 : decode cX9_init 688 = .ok (.aload_n 0, 1) := by decide +kernel
theorem dX9_init_689 : decode cX9_init 689 = .ok (.iconst 0, 1) := by decide +kernel
theorem dX9_init_690 : decode cX9_init 690 = .ok (.putfield 202, 3) := by decide +kernel
theorem dX9_init_693 : decode cX9_init 693 = .ok (.aload_n 0, 1) := by decide +kernel
theorem dX9_init_694 : decode cX9_init 694 = .ok (.invokevirtual 205, 3) := by decide +kernel
theorem dX9_init_697 : decode cX9_init 697 = .ok (.istore_n 2, 1) := by decide +kernel
theorem dX9_init_698 : decode cX9_init 698 = .ok (.aload_n 0, 1) := by decide +kernel
theorem dX9_init_699 : decode cX9_init 699 = .ok (.invokevirtual 209, 3) := by decide +kernel
theorem dX9_init_702 : decode cX9_init 702 = .ok (.aload_n 0, 1) := by decide +kernel
theorem dX9_init_703 : decode cX9_init 703 = .ok (.getfield 41, 3) := by decide +kernel
theorem dX9_init_706 : decode cX9_init 706 = .ok (.iload_n 1, 1) := by decide +kernel
theorem dX9_init_707 : decode cX9_init 707 = .ok (.aload_n 0, 1) := by decide +kernel
theorem dX9_init_708 : decode cX9_init 708 = .ok (.getfield 212, 3) := by decide +kernel
theorem dX9_init_711 : decode cX9_init 711 = .ok (.iastore, 1) := by decide +kernel
theorem dX9_init_712 : decode cX9_init 712 = .ok (.iconst 0, 1) := by decide +kernel
theorem dX9_init_713 : decode cX9_init 713 = .ok (.istore_n 3, 1) := by decide +kernel
theorem dX9_init_714 : decode cX9_init 714 = .ok (.iload_n 3, 1) := by decide +kernel
theorem dX9_init_715 : decode cX9_init 715 = .ok (.aload_n 0, 1) := by decide +kernel
theorem dX9_init_716 : decode cX9_init 716 = .ok (.getfield 212, 3) := by decide +kernel
theorem dX9_init_719 : decode cX9_init 719 = .ok (.if_icmp .ge 43, 3) := by decide +kernel
theorem dX9_init_722 : decode cX9_init 722 = .ok (.aload_n 0, 1) := by decide +kernel
theorem dX9_init_723 : decode cX9_init 723 = .ok (.getfield 35, 3) := by decide +kernel
theorem dX9_init_726 : decode cX9_init 726 = .ok (.bipush 8, 2) := by decide +kernel
theorem dX9_init_728 : decode cX9_init 728 = .ok (.iload_n 1, 1) := by decide +kernel
theorem dX9_init_729 : decode cX9_init 729 = .ok (.imul, 1) := by decide +kernel
theorem dX9_init_730 : decode cX9_init 730 = .ok (.iload_n 3, 1) := by decide +kernel
theorem dX9_init_731 : decode cX9_init 731 = .ok (.iadd, 1) := by decide +kernel
theorem dX9_init_732 : decode cX9_init 732 = .ok (.aload_n 0, 1) := by decide +kernel
theorem dX9_init_733 : decode cX9_init 733 = .ok (.getfield 169, 3) := by decide +kernel
theorem dX9_init_736 : decode cX9_init 736 = .ok (.iload_n 3, 1) := by decide +kernel
theorem dX9_init_737 : decode cX9_init 737 = .ok (.iaload, 1) := by decide +kernel
theorem dX9_init_738 : decode cX9_init 738 = .ok (.iastore, 1) := by decide +kernel
theorem dX9_init_739 : decode cX9_init 739 = .ok (.aload_n 0, 1) := by decide +kernel
theorem dX9_init_740 : decode cX9_init 740 = .ok (.getfield 38, 3) := by decide +kernel
theorem dX9_init_743 : decode cX9_init 743 = .ok (.bipush 8, 2) := by decide +kernel
theorem dX9_init_745 : decode cX9_init 745 = .ok (.iload_n 1, 1) := by decide +kernel
theorem dX9_init_746 : decode cX9_init 746 = .ok (.imul, 1) := by decide +kernel
theorem dX9_init_747 : decode cX9_init 747 = .ok (.iload_n 3, 1) := by decide +kernel
theorem dX9_init_748 : decode cX9_init 748 = .ok (.iadd, 1) := by decide +kernel
theorem dX9_init_749 : decode cX9_init 749 = .ok (.aload_n 0, 1) := by decide +kernel
theorem dX9_init_750 : decode cX9_init 750 = .ok (.getfield 172, 3) := by decide +kernel
theorem dX9_init_753 : decode cX9_init 753 = .ok (.iload_n 3, 1) := by decide +kernel
theorem dX9_init_754 : decode cX9_init 754 = .ok (.iaload, 1) := by decide +kernel
theorem dX9_init_755 : decode cX9_init 755 = .ok (.iastore, 1) := by decide +kernel
theorem dX9_init_756 : decode cX9_init 756 = .ok (.iinc 3 1, 3) := by decide +kernel
theorem dX9_init_759 : decode cX9_init 759 = .ok (.goto (-45), 3) := by decide +kernel
theorem dX9_init_762 : decode cX9_init 762 = .ok (.iinc 1 1, 3) := by decide +kernel
theorem dX9_init_765 : decode cX9_init 765 = .ok (.goto (-129), 3) := by decide +kernel
theorem dX9_init_768 : decode cX9_init 768 = .ok (.return_, 1) := by decide +kernel
theorem dX9_isIn_0 : decode cX9_isIn 0 = .ok (.iload_n 0, 1) := by decide +kernel
theorem dX9_isIn_1 : decode cX9_isIn 1 = .ok (.iload_n 1, 1) := by decide +kernel
theorem dX9_isIn_2 : decode cX9_isIn 2 = .ok (.if_icmp .lt 12, 3) := by decide +kernel
theorem dX9_isIn_5 : decode cX9_isIn 5 = .ok (.iload_n 0, 1) := by decide +kernel
theorem dX9_isIn_6 : decode cX9_isIn 6 = .ok (.iload_n 2, 1) := by decide +kernel
theorem dX9_isIn_7 : decode cX9_isIn 7 = .ok (.if_icmp .gt 7, 3) := by decide +kernel
theorem dX9_isIn_10 : decode cX9_isIn 10 = .ok (.iconst 1, 1) := by decide +kernel
theorem dX9_isIn_11 : decode cX9_isIn 11 = .ok (.goto 4, 3) := by decide +kernel
theorem dX9_isIn_14 : decode cX9_isIn 14 = .ok (.iconst 0, 1) := by decide +kernel
theorem dX9_isIn_15 : decode cX9_isIn 15 = .ok (.ireturn, 1) := by decide +kernel
theorem dX9_mod12_0 : decode cX9_mod12 0 = .ok (.iload_n 0, 1) := by decide +kernel
theorem dX9_mod12_1 : decode cX9_mod12 1 = .ok (.bipush 12, 2) := by decide +kernel
theorem dX9_mod12_3 : decode cX9_mod12 3 = .ok (.irem, 1) := by decide +kernel
theorem dX9_mod12_4 : decode cX9_mod12 4 = .ok (.bipush 12, 2) := by decide +kernel
theorem dX9_mod12_6 : decode cX9_mod12 6 = .ok (.iadd, 1) := by decide +kernel
theorem dX9_mod12_7 : decode cX9_mod12 7 = .ok (.bipush 12, 2) := by decide +kernel
theorem dX9_mod12_9 : decode cX9_mod12 9 = .ok (.irem, 1) := by decide +kernel
theorem dX9_mod12_10 : decode cX9_mod12 10 = .ok (.ireturn, 1) := by decide +kernel
theorem dX9_size_0 : decode cX9_size 0 = .ok (.iload_n 0, 1) := by decide +kernel
theorem dX9_size_1 : decode cX9_size 1 = .ok (.ifCond .ge 8, 3) := by decide +kernel
theorem dX9_size_4 : decode cX9_size 4 = .ok (.iload_n 0, 1) := by decide +kernel
theorem dX9_size_5 : decode cX9_size 5 = .ok (.ineg, 1) := by decide +kernel
theorem dX9_size_6 : decode cX9_size 6 = .ok (.goto 4, 3) := by decide +kernel
theorem dX9_size_9 : decode cX9_size 9 = .ok (.iload_n 0, 1) := by decide +kernel
theorem dX9_size_10 : decode cX9_size 10 = .ok (.ireturn, 1) := by decide +kernel
theorem dX9_pitchOf_0 : decode cX9_pitchOf 0 = .ok (.iload_n 0, 1) := by decide +kernel
theorem dX9_pitchOf_1 : decode cX9_pitchOf 1 = .ok (.iconst 3, 1) := by decide +kernel
theorem dX9_pitchOf_2 : decode cX9_pitchOf 2 = .ok (.if_icmp .ge 9, 3) := by decide +kernel
theorem dX9_pitchOf_5 : decode cX9_pitchOf 5 = .ok (.iconst 2, 1) := by decide +kernel
theorem dX9_pitchOf_6 : decode cX9_pitchOf 6 = .ok (.iload_n 0, 1) := by decide +kernel
theorem dX9_pitchOf_7 : decode cX9_pitchOf 7 = .ok (.imul, 1) := by decide +kernel
theorem dX9_pitchOf_8 : decode cX9_pitchOf 8 = .ok (.goto 8, 3) := by decide +kernel
theorem dX9_pitchOf_11 : decode cX9_pitchOf 11 = .ok (.iconst 2, 1) := by decide +kernel
theorem dX9_pitchOf_12 : decode cX9_pitchOf 12 = .ok (.iload_n 0, 1) := by decide +kernel
theorem dX9_pitchOf_13 : decode cX9_pitchOf 13 = .ok (.imul, 1) := by decide +kernel
theorem dX9_pitchOf_14 : decode cX9_pitchOf 14 = .ok (.iconst 1, 1) := by decide +kernel
theorem dX9_pitchOf_15 : decode cX9_pitchOf 15 = .ok (.isub, 1) := by decide +kernel
theorem dX9_pitchOf_16 : decode cX9_pitchOf 16 = .ok (.ireturn, 1) := by decide +kernel
set_option maxRecDepth 20000 in
theorem ggX9_feed_X9_isIn : GoodIn wsX9_feed wsX9_isIn := goodIn_r _ [6] (by decide +kernel) (by decide +kernel)
set_option maxRecDepth 20000 in
theorem gX9_feed_X9_isIn : GoodIn wsX9_feed (va_wsS RX9 215 yX9_isIn wsX9_isIn) := goodIn_app (goodIn_of _ (by decide +kernel)) ggX9_feed_X9_isIn
theorem dX9_feed_0 : decode cX9_feed 0 = .ok (.iload_n 1, 1) := by decide +kernel
theorem dX9_feed_1 : decode cX9_feed 1 = .ok (.iconst 1, 1) := by decide +kernel
theorem dX9_feed_2 : decode cX9_feed 2 = .ok (.bipush 8, 2) := by decide +kernel
theorem dX9_feed_4 : decode cX9_feed 4 = .ok (.invokestatic 215, 3) := by decide +kernel
theorem dX9_feed_7 : decode cX9_feed 7 = .ok (.ifCond .ne 5, 3) := by decide +kernel
theorem dX9_feed_10 : decode cX9_feed 10 = .ok (.iconst (-1), 1) := by decide +kernel
theorem dX9_feed_11 : decode cX9_feed 11 = .ok (.ireturn, 1) := by decide +kernel
theorem dX9_feed_12 : decode cX9_feed 12 = .ok (.aload_n 0, 1) := by decide +kernel
theorem dX9_feed_13 : decode cX9_feed 13 = .ok (.getfield 219, 3) := by decide +kernel
theorem dX9_feed_16 : decode cX9_feed 16 = .ok (.iload_n 1, 1) := by decide +kernel
theorem dX9_feed_17 : decode cX9_feed 17 = .ok (.iadd, 1) := by decide +kernel
theorem dX9_feed_18 : decode cX9_feed 18 = .ok (.bipush 40, 2) := by decide +kernel
theorem dX9_feed_20 : decode cX9_feed 20 = .ok (.if_icmp .le 6, 3) := by decide +kernel
theorem dX9_feed_23 : decode cX9_feed 23 = .ok (.bipush (-3), 2) := by decide +kernel
theorem dX9_feed_25 : decode cX9_feed 25 = .ok (.ireturn, 1) := by decide +kernel
theorem dX9_feed_26 : decode cX9_feed 26 = .ok (.iconst 0, 1) := by decide +kernel
theorem dX9_feed_27 : decode cX9_feed 27 = .ok (.istore 4, 2) := by decide +kernel
theorem dX9_feed_29 : decode cX9_feed 29 = .ok (.iload 4, 2) := by decide +kernel
theorem dX9_feed_31 : decode cX9_feed 31 = .ok (.iload_n 1, 1) := by decide +kernel
theorem dX9_feed_32 : decode cX9_feed 32 = .ok (.if_icmp .ge 37, 3) := by decide +kernel
theorem dX9_feed_35 : decode cX9_feed 35 = .ok (.aload_n 0, 1) := by decide +kernel
theorem dX9_feed_36 : decode cX9_feed 36 = .ok (.getfield 7, 3) := by decide +kernel
theorem dX9_feed_39 : decode cX9_feed 39 = .ok (.aload_n 0, 1) := by decide +kernel
theorem dX9_feed_40 : decode cX9_feed 40 = .ok (.getfield 219, 3) := by decide +kernel
theorem dX9_feed_43 : decode cX9_feed 43 = .ok (.lload_n 2, 1) := by decide +kernel
theorem dX9_feed_44 : decode cX9_feed 44 = .ok (.bipush 8, 2) := by decide +kernel
theorem dX9_feed_46 : decode cX9_feed 46 = .ok (.iload 4, 2) := by decide +kernel
theorem dX9_feed_48 : decode cX9_feed 48 = .ok (.imul, 1) := by decide +kernel
theorem dX9_feed_49 : decode cX9_feed 49 = .ok (.lshr, 1) := by decide +kernel
theorem dX9_feed_50 : decode cX9_feed 50 = .ok (.l2i, 1) := by decide +kernel
theorem dX9_feed_51 : decode cX9_feed 51 = .ok (.i2b, 1) := by decide +kernel
theorem dX9_feed_52 : decode cX9_feed 52 = .ok (.bastore, 1) := by decide +kernel
theorem dX9_feed_53 : decode cX9_feed 53 = .ok (.aload_n 0, 1) := by decide +kernel
theorem dX9_feed_54 : decode cX9_feed 54 = .ok (.dup, 1) := by decide +kernel
theorem dX9_feed_55 : decode cX9_feed 55 = .ok (.getfield 219, 3) := by decide +kernel
theorem dX9_feed_58 : decode cX9_feed 58 = .ok (.iconst 1, 1) := by decide +kernel
theorem dX9_feed_59 : decode cX9_feed 59 = .ok (.iadd, 1) := by decide +kernel
theorem dX9_feed_60 : decode cX9_feed 60 = .ok (.putfield 219, 3) := by decide +kernel
theorem dX9_feed_63 : decode cX9_feed 63 = .ok (.iinc 4 1, 3) := by decide +kernel
theorem dX9_feed_66 : decode cX9_feed 66 = .ok (.goto (-37), 3) := by decide +kernel
theorem dX9_feed_69 : decode cX9_feed 69 = .ok (.aload_n 0, 1) := by decide +kernel
theorem dX9_feed_70 : decode cX9_feed 70 = .ok (.getfield 219, 3) := by decide +kernel
theorem dX9_feed_73 : decode cX9_feed 73 = .ok (.ireturn, 1) := by decide +kernel
theorem dX9_lengthOf_0 : decode cX9_lengthOf 0 = .ok (.iconst 0, 1) := by decide +kernel
theorem dX9_lengthOf_1 : decode cX9_lengthOf 1 = .ok (.istore_n 2, 1) := by decide +kernel
theorem dX9_lengthOf_2 : decode cX9_lengthOf 2 = .ok (.lload_n 0, 1) := by decide +kernel
theorem dX9_lengthOf_3 : decode cX9_lengthOf 3 = .ok (.bipush 8, 2) := by decide +kernel
theorem dX9_lengthOf_5 : decode cX9_lengthOf 5 = .ok (.iload_n 2, 1) := by decide +kernel
theorem dX9_lengthOf_6 : decode cX9_lengthOf 6 = .ok (.imul, 1) := by decide +kernel
theorem dX9_lengthOf_7 : decode cX9_lengthOf 7 = .ok (.lshr, 1) := by decide +kernel
theorem dX9_lengthOf_8 : decode cX9_lengthOf 8 = .ok (.lconst 0, 1) := by decide +kernel
theorem dX9_lengthOf_9 : decode cX9_lengthOf 9 = .ok (.lcmp, 1) := by decide +kernel
theorem dX9_lengthOf_10 : decode cX9_lengthOf 10 = .ok (.ifCond .eq 9, 3) := by decide +kernel
theorem dX9_lengthOf_13 : decode cX9_lengthOf 13 = .ok (.iinc 2 1, 3) := by decide +kernel
theorem dX9_lengthOf_16 : decode cX9_lengthOf 16 = .ok (.goto (-14), 3) := by decide +kernel
theorem dX9_lengthOf_19 : decode cX9_lengthOf 19 = .ok (.iload_n 2, 1) := by decide +kernel
theorem dX9_lengthOf_20 : decode cX9_lengthOf 20 = .ok (.ireturn, 1) := by decide +kernel
set_option maxRecDepth 20000 in
theorem ggX9_byteOf_X9_lengthOf : GoodIn wsX9_byteOf wsX9_lengthOf := goodIn_r _ [4] (by decide +kernel) (by decide +kernel)
set_option maxRecDepth 20000 in
theorem gX9_byteOf_X9_lengthOf : GoodIn wsX9_byteOf (va_wsS RX9 190 yX9_lengthOf wsX9_lengthOf) := goodIn_app (goodIn_of _ (by decide +kernel)) ggX9_byteOf_X9_lengthOf
theorem dX9_byteOf_0 : decode cX9_byteOf 0 = .ok (.lload_n 0, 1) := by decide +kernel
theorem dX9_byteOf_1 : decode cX9_byteOf 1 = .ok (.bipush 8, 2) := by decide +kernel
theorem dX9_byteOf_3 : decode cX9_byteOf 3 = .ok (.lload_n 0, 1) := by decide +kernel
theorem dX9_byteOf_4 : decode cX9_byteOf 4 = .ok (.invokestatic 190, 3) := by decide +kernel
theorem dX9_byteOf_7 : decode cX9_byteOf 7 = .ok (.iconst 1, 1) := by decide +kernel
theorem dX9_byteOf_8 : decode cX9_byteOf 8 = .ok (.isub, 1) := by decide +kernel
theorem dX9_byteOf_9 : decode cX9_byteOf 9 = .ok (.iload_n 2, 1) := by decide +kernel
theorem dX9_byteOf_10 : decode cX9_byteOf 10 = .ok (.isub, 1) := by decide +kernel
theorem dX9_byteOf_11 : decode cX9_byteOf 11 = .ok (.imul, 1) := by decide +kernel
theorem dX9_byteOf_12 : decode cX9_byteOf 12 = .ok (.lshr, 1) := by decide +kernel
theorem dX9_byteOf_13 : decode cX9_byteOf 13 = .ok (.l2i, 1) := by decide +kernel
theorem dX9_byteOf_14 : decode cX9_byteOf 14 = .ok (.sipush 255, 3) := by decide +kernel
theorem dX9_byteOf_17 : decode cX9_byteOf 17 = .ok (.iand, 1) := by decide +kernel
theorem dX9_byteOf_18 : decode cX9_byteOf 18 = .ok (.ireturn, 1) := by decide +kernel
set_option maxRecDepth 20000 in
theorem ggX9_stands_X9_lengthOf : GoodIn wsX9_stands wsX9_lengthOf := goodIn_r _ [7] (by decide +kernel) (by decide +kernel)
set_option maxRecDepth 20000 in
theorem gX9_stands_X9_lengthOf : GoodIn wsX9_stands (va_wsS RX9 190 yX9_lengthOf wsX9_lengthOf) := goodIn_app (goodIn_of _ (by decide +kernel)) ggX9_stands_X9_lengthOf
set_option maxRecDepth 20000 in
theorem ggX9_stands_X9_byteOf : GoodIn wsX9_stands wsX9_byteOf := goodIn_r _ [10, 4, 5, 6, 7] (by decide +kernel) (by decide +kernel)
set_option maxRecDepth 20000 in
theorem gX9_stands_X9_byteOf : GoodIn wsX9_stands (va_wsS RX9 198 yX9_byteOf wsX9_byteOf) := goodIn_app (goodIn_of _ (by decide +kernel)) ggX9_stands_X9_byteOf
theorem dX9_stands_0 : decode cX9_stands 0 = .ok (.lload_n 1, 1) := by decide +kernel
theorem dX9_stands_1 : decode cX9_stands 1 = .ok (.invokestatic 190, 3) := by decide +kernel
theorem dX9_stands_4 : decode cX9_stands 4 = .ok (.istore_n 3, 1) := by decide +kernel
theorem dX9_stands_5 : decode cX9_stands 5 = .ok (.aload_n 0, 1) := by decide +kernel
theorem dX9_stands_6 : decode cX9_stands 6 = .ok (.getfield 202, 3) := by decide +kernel
theorem dX9_stands_9 : decode cX9_stands 9 = .ok (.iload_n 3, 1) := by decide +kernel
theorem dX9_stands_10 : decode cX9_stands 10 = .ok (.iadd, 1) := by decide +kernel
theorem dX9_stands_11 : decode cX9_stands 11 = .ok (.aload_n 0, 1) := by decide +kernel
theorem dX9_stands_12 : decode cX9_stands 12 = .ok (.getfield 194, 3) := by decide +kernel
theorem dX9_stands_15 : decode cX9_stands 15 = .ok (.if_icmp .gt 7, 3) := by decide +kernel
theorem dX9_stands_18 : decode cX9_stands 18 = .ok (.iconst 1, 1) := by decide +kernel
theorem dX9_stands_19 : decode cX9_stands 19 = .ok (.goto 4, 3) := by decide +kernel
theorem dX9_stands_22 : decode cX9_stands 22 = .ok (.iconst 0, 1) := by decide +kernel
theorem dX9_stands_23 : decode cX9_stands 23 = .ok (.istore 4, 2) := by decide +kernel
theorem dX9_stands_25 : decode cX9_stands 25 = .ok (.iconst 0, 1) := by decide +kernel
theorem dX9_stands_26 : decode cX9_stands 26 = .ok (.istore 5, 2) := by decide +kernel
theorem dX9_stands_28 : decode cX9_stands 28 = .ok (.iload 5, 2) := by decide +kernel
theorem dX9_stands_30 : decode cX9_stands 30 = .ok (.iload_n 3, 1) := by decide +kernel
theorem dX9_stands_31 : decode cX9_stands 31 = .ok (.if_icmp .ge 42, 3) := by decide +kernel
theorem dX9_stands_34 : decode cX9_stands 34 = .ok (.iload 4, 2) := by decide +kernel
theorem dX9_stands_36 : decode cX9_stands 36 = .ok (.ifCond .eq 37, 3) := by decide +kernel
theorem dX9_stands_39 : decode cX9_stands 39 = .ok (.aload_n 0, 1) := by decide +kernel
theorem dX9_stands_40 : decode cX9_stands 40 = .ok (.getfield 166, 3) := by decide +kernel
theorem dX9_stands_43 : decode cX9_stands 43 = .ok (.aload_n 0, 1) := by decide +kernel
theorem dX9_stands_44 : decode cX9_stands 44 = .ok (.getfield 202, 3) := by decide +kernel
