set_option maxRecDepth 20000 in
theorem lwi_wsX8_init_r1 : ∀ w ∈ wsX8_init_r1, w ∈ lw_tbl := (lwc lwm_24 (lwc lwm_23 (lwc lwm_22 (lwc lwm_21 (lwc lwm_20 (lwc lwm_19 (lwc lwm_18 (lwc lwm_17 (lwc lwm_16 (lwc lwm_15 (lwc lwm_14 (lwc lwm_13 (lwc lwm_12 (lwc lwm_11 (lwc lwm_10 (lwc lwm_9 (lwc lwm_8 (lwc lwm_7 (lwc lwm_6 (lwc lwm_5 (lwc lwm_4 (lwc lwm_3 (lwc lwm_2 (lwc lwm_1 lwn))))))))))))))))))))))))
set_option maxRecDepth 20000 in
theorem lwi_wsX8_init_r2 : ∀ w ∈ wsX8_init_r2, w ∈ lw_tbl := (lwc lwm_48 (lwc lwm_47 (lwc lwm_46 (lwc lwm_45 (lwc lwm_44 (lwc lwm_43 (lwc lwm_42 (lwc lwm_41 (lwc lwm_40 (lwc lwm_39 (lwc lwm_38 (lwc lwm_37 (lwc lwm_36 (lwc lwm_35 (lwc lwm_34 (lwc lwm_33 (lwc lwm_32 (lwc lwm_31 (lwc lwm_30 (lwc lwm_29 (lwc lwm_28 (lwc lwm_27 (lwc lwm_26 (lwc lwm_25 lwn))))))))))))))))))))))))
set_option maxRecDepth 20000 in
theorem lwi_wsX8_init_r3 : ∀ w ∈ wsX8_init_r3, w ∈ lw_tbl := (lwc lwm_61 (lwc lwm_60 (lwc lwm_59 (lwc lwm_58 (lwc lwm_57 (lwc lwm_56 (lwc lwm_55 (lwc lwm_54 (lwc lwm_53 (lwc lwm_52 (lwc lwm_51 (lwc lwm_50 (lwc lwm_49 lwn)))))))))))))
set_option maxRecDepth 20000 in
theorem lwi_wsX50 : ∀ w ∈ wsX50, w ∈ lw_tbl := by decide +kernel
set_option maxRecDepth 20000 in
theorem lwi_wsX80 : ∀ w ∈ wsX80, w ∈ lw_tbl := by decide +kernel
set_option maxRecDepth 20000 in
theorem lwi_wsX20 : ∀ w ∈ wsX20, w ∈ lw_tbl := by decide +kernel
set_option maxRecDepth 20000 in
theorem lwi_wsX70 : ∀ w ∈ wsX70, w ∈ lw_tbl := by decide +kernel
set_option maxRecDepth 20000 in
theorem lwi_wsX60 : ∀ w ∈ wsX60, w ∈ lw_tbl := by decide +kernel
set_option maxRecDepth 20000 in
theorem lwi_wsX8_init : ∀ w ∈ wsX8_init, w ∈ lw_tbl := (lwc lwm_0 (lwa (lwa (lwa (lwa (lwa (lwa lwi_wsX8_init_r1 (lwa lwi_wsX8_init_r2 lwi_wsX8_init_r3)) lwi_wsX50) lwi_wsX80) lwi_wsX20) lwi_wsX70) lwi_wsX60))
set_option maxRecDepth 20000 in
theorem lwi_wsX9_init_r1 : ∀ w ∈ wsX9_init_r1, w ∈ lw_tbl := (lwc lwm_83 (lwc lwm_23 (lwc lwm_22 (lwc lwm_82 (lwc lwm_81 (lwc lwm_48 (lwc lwm_80 (lwc lwm_79 (lwc lwm_78 (lwc lwm_77 (lwc lwm_76 (lwc lwm_75 (lwc lwm_74 (lwc lwm_73 (lwc lwm_72 (lwc lwm_71 (lwc lwm_70 (lwc lwm_69 (lwc lwm_68 (lwc lwm_67 (lwc lwm_66 (lwc lwm_65 (lwc lwm_64 (lwc lwm_63 lwn))))))))))))))))))))))))
set_option maxRecDepth 20000 in
theorem lwi_wsX9_init_r2 : ∀ w ∈ wsX9_init_r2, w ∈ lw_tbl := (lwc lwm_107 (lwc lwm_106 (lwc lwm_105 (lwc lwm_104 (lwc lwm_103 (lwc lwm_102 (lwc lwm_101 (lwc lwm_100 (lwc lwm_99 (lwc lwm_98 (lwc lwm_97 (lwc lwm_96 (lwc lwm_95 (lwc lwm_94 (lwc lwm_93 (lwc lwm_92 (lwc lwm_91 (lwc lwm_90 (lwc lwm_89 (lwc lwm_88 (lwc lwm_87 (lwc lwm_86 (lwc lwm_85 (lwc lwm_84 lwn))))))))))))))))))))))))
set_option maxRecDepth 20000 in
theorem lwi_wsX9_init_r3 : ∀ w ∈ wsX9_init_r3, w ∈ lw_tbl := (lwc lwm_131 (lwc lwm_130 (lwc lwm_129 (lwc lwm_128 (lwc lwm_127 (lwc lwm_126 (lwc lwm_125 (lwc lwm_124 (lwc lwm_123 (lwc lwm_122 (lwc lwm_121 (lwc lwm_120 (lwc lwm_119 (lwc lwm_118 (lwc lwm_117 (lwc lwm_116 (lwc lwm_115 (lwc lwm_114 (lwc lwm_113 (lwc lwm_112 (lwc lwm_111 (lwc lwm_110 (lwc lwm_109 (lwc lwm_108 lwn))))))))))))))))))))))))
set_option maxRecDepth 20000 in
theorem lwi_wsX9_init_r4 : ∀ w ∈ wsX9_init_r4, w ∈ lw_tbl := (lwc lwm_155 (lwc lwm_154 (lwc lwm_153 (lwc lwm_152 (lwc lwm_151 (lwc lwm_150 (lwc lwm_149 (lwc lwm_148 (lwc lwm_147 (lwc lwm_146 (lwc lwm_145 (lwc lwm_144 (lwc lwm_143 (lwc lwm_142 (lwc lwm_141 (lwc lwm_140 (lwc lwm_139 (lwc lwm_138 (lwc lwm_137 (lwc lwm_136 (lwc lwm_135 (lwc lwm_134 (lwc lwm_133 (lwc lwm_132 lwn))))))))))))))))))))))))
set_option maxRecDepth 20000 in
theorem lwi_wsX9_init_r5 : ∀ w ∈ wsX9_init_r5, w ∈ lw_tbl := (lwc lwm_179 (lwc lwm_178 (lwc lwm_177 (lwc lwm_176 (lwc lwm_175 (lwc lwm_174 (lwc lwm_173 (lwc lwm_172 (lwc lwm_171 (lwc lwm_170 (lwc lwm_169 (lwc lwm_168 (lwc lwm_167 (lwc lwm_166 (lwc lwm_165 (lwc lwm_164 (lwc lwm_163 (lwc lwm_162 (lwc lwm_161 (lwc lwm_160 (lwc lwm_159 (lwc lwm_158 (lwc lwm_157 (lwc lwm_156 lwn))))))))))))))))))))))))
set_option maxRecDepth 20000 in
theorem lwi_wsX9_init_r6 : ∀ w ∈ wsX9_init_r6, w ∈ lw_tbl := (lwc lwm_199 (lwc lwm_198 (lwc lwm_197 (lwc lwm_196 (lwc lwm_195 (lwc lwm_194 (lwc lwm_193 (lwc lwm_192 (lwc lwm_191 (lwc lwm_190 (lwc lwm_189 (lwc lwm_188 (lwc lwm_187 (lwc lwm_186 (lwc lwm_185 (lwc lwm_184 (lwc lwm_183 (lwc lwm_182 (lwc lwm_181 (lwc lwm_180 lwn))))))))))))))))))))
set_option maxRecDepth 20000 in
theorem lwi_wsX90 : ∀ w ∈ wsX90, w ∈ lw_tbl := by decide +kernel
set_option maxRecDepth 20000 in
theorem lwi_wsX9_init : ∀ w ∈ wsX9_init, w ∈ lw_tbl := (lwc lwm_62 (lwa (lwa lwi_wsX9_init_r1 (lwa lwi_wsX9_init_r2 (lwa lwi_wsX9_init_r3 (lwa lwi_wsX9_init_r4 (lwa lwi_wsX9_init_r5 lwi_wsX9_init_r6))))) lwi_wsX90))
set_option maxRecDepth 20000 in
theorem lwi_wsX8_feed : ∀ w ∈ wsX8_feed, w ∈ lw_tbl := (lwc lwm_203 (lwa (lwa (lwc lwm_18 (lwc lwm_208 (lwc lwm_207 (lwc lwm_206 (lwc lwm_19 (lwc lwm_205 (lwc lwm_204 (lwc lwm_47 lwn)))))))) lwi_wsX80) lwi_wsX50))
set_option maxRecDepth 20000 in
theorem lwi_wsX9_feed : ∀ w ∈ wsX9_feed, w ∈ lw_tbl := (lwc lwm_212 (lwa (lwc lwm_213 (lwc lwm_81 (lwc lwm_166 (lwc lwm_165 (lwc lwm_139 (lwc lwm_164 lwn)))))) lwi_wsX90))
set_option maxRecDepth 20000 in
theorem lwi_wsX8_chord_r1 : ∀ w ∈ wsX8_chord_r1, w ∈ lw_tbl := (lwc lwm_18 (lwc lwm_237 (lwc lwm_236 (lwc lwm_235 (lwc lwm_19 (lwc lwm_234 (lwc lwm_233 (lwc lwm_232 (lwc lwm_204 (lwc lwm_231 (lwc lwm_230 (lwc lwm_229 (lwc lwm_228 (lwc lwm_227 (lwc lwm_226 (lwc lwm_225 (lwc lwm_224 (lwc lwm_223 (lwc lwm_222 (lwc lwm_221 (lwc lwm_47 (lwc lwm_220 (lwc lwm_219 (lwc lwm_218 lwn))))))))))))))))))))))))
set_option maxRecDepth 20000 in
theorem lwi_wsX8_chord_r2 : ∀ w ∈ wsX8_chord_r2, w ∈ lw_tbl := (lwc lwm_261 (lwc lwm_260 (lwc lwm_259 (lwc lwm_258 (lwc lwm_257 (lwc lwm_256 (lwc lwm_255 (lwc lwm_254 (lwc lwm_253 (lwc lwm_252 (lwc lwm_251 (lwc lwm_250 (lwc lwm_249 (lwc lwm_248 (lwc lwm_247 (lwc lwm_246 (lwc lwm_245 (lwc lwm_244 (lwc lwm_243 (lwc lwm_242 (lwc lwm_241 (lwc lwm_240 (lwc lwm_239 (lwc lwm_238 lwn))))))))))))))))))))))))
set_option maxRecDepth 20000 in
theorem lwi_wsX8_chord_r3 : ∀ w ∈ wsX8_chord_r3, w ∈ lw_tbl := (lwc lwm_285 (lwc lwm_284 (lwc lwm_283 (lwc lwm_282 (lwc lwm_281 (lwc lwm_280 (lwc lwm_279 (lwc lwm_278 (lwc lwm_277 (lwc lwm_276 (lwc lwm_275 (lwc lwm_274 (lwc lwm_273 (lwc lwm_272 (lwc lwm_271 (lwc lwm_270 (lwc lwm_269 (lwc lwm_268 (lwc lwm_267 (lwc lwm_266 (lwc lwm_265 (lwc lwm_264 (lwc lwm_263 (lwc lwm_262 lwn))))))))))))))))))))))))
set_option maxRecDepth 20000 in
theorem lwi_wsX8_chord_r4 : ∀ w ∈ wsX8_chord_r4, w ∈ lw_tbl := (lwc lwm_306 (lwc lwm_305 (lwc lwm_304 (lwc lwm_303 (lwc lwm_302 (lwc lwm_301 (lwc lwm_300 (lwc lwm_299 (lwc lwm_298 (lwc lwm_297 (lwc lwm_296 (lwc lwm_295 (lwc lwm_294 (lwc lwm_293 (lwc lwm_292 (lwc lwm_291 (lwc lwm_290 (lwc lwm_289 (lwc lwm_288 (lwc lwm_287 (lwc lwm_35 (lwc lwm_34 (lwc lwm_33 (lwc lwm_286 lwn))))))))))))))))))))))))
set_option maxRecDepth 20000 in
theorem lwi_wsX8_chord_r5 : ∀ w ∈ wsX8_chord_r5, w ∈ lw_tbl := (lwc lwm_328 (lwc lwm_327 (lwc lwm_326 (lwc lwm_325 (lwc lwm_324 (lwc lwm_323 (lwc lwm_322 (lwc lwm_321 (lwc lwm_320 (lwc lwm_319 (lwc lwm_318 (lwc lwm_317 (lwc lwm_316 (lwc lwm_315 (lwc lwm_23 (lwc lwm_22 (lwc lwm_314 (lwc lwm_313 (lwc lwm_312 (lwc lwm_311 (lwc lwm_310 (lwc lwm_309 (lwc lwm_308 (lwc lwm_307 lwn))))))))))))))))))))))))
set_option maxRecDepth 20000 in
theorem lwi_wsX8_chord_r6 : ∀ w ∈ wsX8_chord_r6, w ∈ lw_tbl := (lwc lwm_333 (lwc lwm_332 (lwc lwm_331 (lwc lwm_330 (lwc lwm_329 (lwc lwm_16 lwn))))))
set_option maxRecDepth 20000 in
theorem lwi_wsX10 : ∀ w ∈ wsX10, w ∈ lw_tbl := by decide +kernel
set_option maxRecDepth 20000 in
theorem lwi_wsX8_chord : ∀ w ∈ wsX8_chord, w ∈ lw_tbl := (lwc lwm_217 (lwa (lwa (lwa (lwa lwi_wsX8_chord_r1 (lwa lwi_wsX8_chord_r2 (lwa lwi_wsX8_chord_r3 (lwa lwi_wsX8_chord_r4 (lwa lwi_wsX8_chord_r5 lwi_wsX8_chord_r6))))) lwi_wsX80) lwi_wsX50) lwi_wsX10))
set_option maxRecDepth 20000 in
theorem lwi_wsX9_chord_r1 : ∀ w ∈ wsX9_chord_r1, w ∈ lw_tbl := (lwc lwm_213 (lwc lwm_144 (lwc lwm_152 (lwc lwm_81 (lwc lwm_143 (lwc lwm_344 (lwc lwm_343 (lwc lwm_342 (lwc lwm_142 (lwc lwm_79 (lwc lwm_151 (lwc lwm_78 (lwc lwm_150 (lwc lwm_77 (lwc lwm_341 (lwc lwm_340 (lwc lwm_339 (lwc lwm_139 (lwc lwm_338 (lwc lwm_166 (lwc lwm_165 (lwc lwm_164 (lwc lwm_134 (lwc lwm_133 lwn))))))))))))))))))))))))
set_option maxRecDepth 20000 in
theorem lwi_wsX9_chord_r2 : ∀ w ∈ wsX9_chord_r2, w ∈ lw_tbl := (lwc lwm_132 (lwc lwm_179 (lwc lwm_107 (lwc lwm_92 (lwc lwm_126 (lwc lwm_178 (lwc lwm_177 (lwc lwm_176 (lwc lwm_175 (lwc lwm_174 (lwc lwm_173 (lwc lwm_172 (lwc lwm_171 (lwc lwm_170 (lwc lwm_169 (lwc lwm_168 (lwc lwm_167 (lwc lwm_141 (lwc lwm_140 (lwc lwm_138 (lwc lwm_137 (lwc lwm_136 (lwc lwm_135 (lwc lwm_163 lwn))))))))))))))))))))))))
set_option maxRecDepth 20000 in
theorem lwi_wsX9_chord_r3 : ∀ w ∈ wsX9_chord_r3, w ∈ lw_tbl := (lwc lwm_162 (lwc lwm_161 (lwc lwm_160 (lwc lwm_159 (lwc lwm_158 (lwc lwm_157 (lwc lwm_156 (lwc lwm_199 (lwc lwm_198 (lwc lwm_197 (lwc lwm_196 (lwc lwm_195 (lwc lwm_194 (lwc lwm_193 (lwc lwm_192 (lwc lwm_191 (lwc lwm_190 (lwc lwm_189 (lwc lwm_188 (lwc lwm_187 (lwc lwm_186 (lwc lwm_185 (lwc lwm_184 (lwc lwm_183 lwn))))))))))))))))))))))))
set_option maxRecDepth 20000 in
theorem lwi_wsX9_chord_r4 : ∀ w ∈ wsX9_chord_r4, w ∈ lw_tbl := (lwc lwm_182 (lwc lwm_181 (lwc lwm_180 (lwc lwm_348 (lwc lwm_347 (lwc lwm_346 (lwc lwm_345 (lwc lwm_80 lwn))))))))
set_option maxRecDepth 20000 in
theorem lwi_wsX9_chord : ∀ w ∈ wsX9_chord, w ∈ lw_tbl := (lwc lwm_337 (lwa (lwa lwi_wsX9_chord_r1 (lwa lwi_wsX9_chord_r2 (lwa lwi_wsX9_chord_r3 lwi_wsX9_chord_r4))) lwi_wsX90))
set_option maxRecDepth 20000 in
theorem lwi_wsX8_of_r1 : ∀ w ∈ wsX8_of_r1, w ∈ lw_tbl := (lwc lwm_370 (lwc lwm_369 (lwc lwm_368 (lwc lwm_367 (lwc lwm_366 (lwc lwm_365 (lwc lwm_364 (lwc lwm_34 (lwc lwm_363 (lwc lwm_329 (lwc lwm_16 (lwc lwm_362 (lwc lwm_361 (lwc lwm_298 (lwc lwm_360 (lwc lwm_359 (lwc lwm_358 (lwc lwm_357 (lwc lwm_356 (lwc lwm_355 (lwc lwm_354 (lwc lwm_353 (lwc lwm_35 (lwc lwm_33 lwn))))))))))))))))))))))))
set_option maxRecDepth 20000 in
theorem lwi_wsX8_of_r2 : ∀ w ∈ wsX8_of_r2, w ∈ lw_tbl := (lwc lwm_390 (lwc lwm_389 (lwc lwm_388 (lwc lwm_387 (lwc lwm_386 (lwc lwm_385 (lwc lwm_384 (lwc lwm_383 (lwc lwm_382 (lwc lwm_381 (lwc lwm_380 (lwc lwm_379 (lwc lwm_378 (lwc lwm_377 (lwc lwm_376 (lwc lwm_375 (lwc lwm_374 (lwc lwm_229 (lwc lwm_373 (lwc lwm_314 (lwc lwm_313 (lwc lwm_312 (lwc lwm_372 (lwc lwm_371 lwn))))))))))))))))))))))))
set_option maxRecDepth 20000 in
theorem lwi_wsX8_of_r3 : ∀ w ∈ wsX8_of_r3, w ∈ lw_tbl := (lwc lwm_31 (lwc lwm_30 (lwc lwm_29 (lwc lwm_28 (lwc lwm_27 (lwc lwm_26 (lwc lwm_25 (lwc lwm_61 (lwc lwm_60 (lwc lwm_59 (lwc lwm_404 (lwc lwm_403 (lwc lwm_402 (lwc lwm_401 (lwc lwm_400 (lwc lwm_399 (lwc lwm_398 (lwc lwm_397 (lwc lwm_396 (lwc lwm_395 (lwc lwm_394 (lwc lwm_393 (lwc lwm_392 (lwc lwm_391 lwn))))))))))))))))))))))))
set_option maxRecDepth 20000 in
theorem lwi_wsX8_of_r4 : ∀ w ∈ wsX8_of_r4, w ∈ lw_tbl := (lwc lwm_419 (lwc lwm_418 (lwc lwm_417 (lwc lwm_416 (lwc lwm_415 (lwc lwm_414 (lwc lwm_413 (lwc lwm_412 (lwc lwm_411 (lwc lwm_410 (lwc lwm_409 (lwc lwm_408 (lwc lwm_407 (lwc lwm_406 (lwc lwm_38 (lwc lwm_405 (lwc lwm_36 lwn)))))))))))))))))
set_option maxRecDepth 20000 in
theorem lwi_wsX8_of : ∀ w ∈ wsX8_of, w ∈ lw_tbl := (lwc lwm_352 (lwa (lwa (lwa lwi_wsX8_of_r1 (lwa lwi_wsX8_of_r2 (lwa lwi_wsX8_of_r3 lwi_wsX8_of_r4))) lwi_wsX10) lwi_wsX80))
set_option maxRecDepth 20000 in
theorem lwi_wsX9_of_r1 : ∀ w ∈ wsX9_of_r1, w ∈ lw_tbl := (lwc lwm_77 (lwc lwm_80 (lwc lwm_440 (lwc lwm_439 (lwc lwm_438 (lwc lwm_139 (lwc lwm_437 (lwc lwm_342 (lwc lwm_166 (lwc lwm_165 (lwc lwm_164 (lwc lwm_436 (lwc lwm_435 (lwc lwm_434 (lwc lwm_433 (lwc lwm_432 (lwc lwm_431 (lwc lwm_430 (lwc lwm_429 (lwc lwm_428 (lwc lwm_427 (lwc lwm_426 (lwc lwm_425 (lwc lwm_424 lwn))))))))))))))))))))))))
set_option maxRecDepth 20000 in
theorem lwi_wsX9_of_r2 : ∀ w ∈ wsX9_of_r2, w ∈ lw_tbl := (lwc lwm_459 (lwc lwm_458 (lwc lwm_457 (lwc lwm_456 (lwc lwm_455 (lwc lwm_79 (lwc lwm_454 (lwc lwm_453 (lwc lwm_452 (lwc lwm_451 (lwc lwm_78 (lwc lwm_450 (lwc lwm_449 (lwc lwm_448 (lwc lwm_447 (lwc lwm_446 (lwc lwm_445 (lwc lwm_444 (lwc lwm_443 (lwc lwm_442 (lwc lwm_441 (lwc lwm_71 (lwc lwm_73 (lwc lwm_72 lwn))))))))))))))))))))))))
set_option maxRecDepth 20000 in
theorem lwi_wsX9_of : ∀ w ∈ wsX9_of, w ∈ lw_tbl := (lwc lwm_423 (lwa (lwa lwi_wsX9_of_r1 lwi_wsX9_of_r2) lwi_wsX90))
set_option maxRecDepth 20000 in
theorem lwi_wsX8_step_r1 : ∀ w ∈ wsX8_step_r1, w ∈ lw_tbl := (lwc lwm_369 (lwc lwm_368 (lwc lwm_370 (lwc lwm_366 (lwc lwm_365 (lwc lwm_364 (lwc lwm_34 (lwc lwm_363 (lwc lwm_329 (lwc lwm_16 (lwc lwm_468 (lwc lwm_467 (lwc lwm_466 (lwc lwm_465 (lwc lwm_358 (lwc lwm_298 (lwc lwm_357 (lwc lwm_464 (lwc lwm_389 (lwc lwm_388 (lwc lwm_362 (lwc lwm_361 (lwc lwm_360 (lwc lwm_359 lwn))))))))))))))))))))))))
set_option maxRecDepth 20000 in
theorem lwi_wsX8_step_r2 : ∀ w ∈ wsX8_step_r2, w ∈ lw_tbl := (lwc lwm_356 (lwc lwm_355 (lwc lwm_354 (lwc lwm_353 (lwc lwm_35 (lwc lwm_33 (lwc lwm_390 (lwc lwm_387 (lwc lwm_386 (lwc lwm_385 (lwc lwm_384 (lwc lwm_475 (lwc lwm_474 (lwc lwm_30 (lwc lwm_473 (lwc lwm_28 (lwc lwm_27 (lwc lwm_26 (lwc lwm_472 (lwc lwm_471 (lwc lwm_470 (lwc lwm_469 (lwc lwm_61 (lwc lwm_60 lwn))))))))))))))))))))))))
set_option maxRecDepth 20000 in
theorem lwi_wsX8_step_r3 : ∀ w ∈ wsX8_step_r3, w ∈ lw_tbl := (lwc lwm_59 (lwc lwm_483 (lwc lwm_416 (lwc lwm_415 (lwc lwm_414 (lwc lwm_482 (lwc lwm_481 (lwc lwm_480 (lwc lwm_397 (lwc lwm_391 (lwc lwm_419 (lwc lwm_418 (lwc lwm_417 (lwc lwm_479 (lwc lwm_478 (lwc lwm_477 (lwc lwm_396 (lwc lwm_394 (lwc lwm_393 (lwc lwm_392 (lwc lwm_413 (lwc lwm_25 (lwc lwm_412 (lwc lwm_476 lwn))))))))))))))))))))))))
set_option maxRecDepth 20000 in
theorem lwi_wsX8_step_r4 : ∀ w ∈ wsX8_step_r4, w ∈ lw_tbl := (lwc lwm_485 (lwc lwm_484 lwn))
set_option maxRecDepth 20000 in
theorem lwi_wsX8_step : ∀ w ∈ wsX8_step, w ∈ lw_tbl := (lwc lwm_463 (lwa (lwa (lwa lwi_wsX8_step_r1 (lwa lwi_wsX8_step_r2 (lwa lwi_wsX8_step_r3 lwi_wsX8_step_r4))) lwi_wsX10) lwi_wsX80))
set_option maxRecDepth 20000 in
theorem lwi_wsX9_step_r1 : ∀ w ∈ wsX9_step_r1, w ∈ lw_tbl := (lwc lwm_77 (lwc lwm_80 (lwc lwm_79 (lwc lwm_78 (lwc lwm_440 (lwc lwm_439 (lwc lwm_438 (lwc lwm_139 (lwc lwm_437 (lwc lwm_342 (lwc lwm_166 (lwc lwm_165 (lwc lwm_164 (lwc lwm_426 (lwc lwm_425 (lwc lwm_424 (lwc lwm_459 (lwc lwm_432 (lwc lwm_431 (lwc lwm_430 (lwc lwm_429 (lwc lwm_428 (lwc lwm_427 (lwc lwm_450 lwn))))))))))))))))))))))))
set_option maxRecDepth 20000 in
theorem lwi_wsX9_step_r2 : ∀ w ∈ wsX9_step_r2, w ∈ lw_tbl := (lwc lwm_449 (lwc lwm_448 (lwc lwm_436 (lwc lwm_435 (lwc lwm_434 (lwc lwm_433 lwn))))))
set_option maxRecDepth 20000 in
theorem lwi_wsX9_step : ∀ w ∈ wsX9_step, w ∈ lw_tbl := (lwc lwm_489 (lwa (lwa lwi_wsX9_step_r1 lwi_wsX9_step_r2) lwi_wsX90))
set_option maxRecDepth 20000 in
theorem lwi_wsX8_write_r1 : ∀ w ∈ wsX8_write_r1, w ∈ lw_tbl := (lwc lwm_370 (lwc lwm_369 (lwc lwm_366 (lwc lwm_365 (lwc lwm_364 (lwc lwm_34 (lwc lwm_363 (lwc lwm_329 (lwc lwm_16 (lwc lwm_411 (lwc lwm_410 (lwc lwm_409 (lwc lwm_229 (lwc lwm_408 (lwc lwm_313 (lwc lwm_407 (lwc lwm_406 (lwc lwm_38 (lwc lwm_405 (lwc lwm_36 (lwc lwm_35 (lwc lwm_33 (lwc lwm_495 (lwc lwm_494 lwn))))))))))))))))))))))))
set_option maxRecDepth 20000 in
theorem lwi_wsX8_write_r2 : ∀ w ∈ wsX8_write_r2, w ∈ lw_tbl := (lwc lwm_512 (lwc lwm_511 (lwc lwm_4 (lwc lwm_510 (lwc lwm_509 (lwc lwm_508 (lwc lwm_5 (lwc lwm_507 (lwc lwm_506 (lwc lwm_505 (lwc lwm_504 (lwc lwm_503 (lwc lwm_502 (lwc lwm_501 (lwc lwm_358 (lwc lwm_298 (lwc lwm_357 (lwc lwm_500 (lwc lwm_499 (lwc lwm_498 (lwc lwm_497 (lwc lwm_496 (lwc lwm_259 (lwc lwm_258 lwn))))))))))))))))))))))))
set_option maxRecDepth 20000 in
theorem lwi_wsX8_write_r3 : ∀ w ∈ wsX8_write_r3, w ∈ lw_tbl := (lwc lwm_257 (lwc lwm_256 (lwc lwm_255 (lwc lwm_254 (lwc lwm_253 (lwc lwm_252 (lwc lwm_251 (lwc lwm_250 (lwc lwm_249 (lwc lwm_513 (lwc lwm_247 (lwc lwm_246 (lwc lwm_245 (lwc lwm_244 (lwc lwm_243 (lwc lwm_242 (lwc lwm_241 (lwc lwm_240 (lwc lwm_239 (lwc lwm_238 (lwc lwm_285 (lwc lwm_284 (lwc lwm_283 (lwc lwm_282 lwn))))))))))))))))))))))))
set_option maxRecDepth 20000 in
theorem lwi_wsX8_write_r4 : ∀ w ∈ wsX8_write_r4, w ∈ lw_tbl := (lwc lwm_281 (lwc lwm_280 (lwc lwm_279 (lwc lwm_278 (lwc lwm_277 (lwc lwm_276 (lwc lwm_275 (lwc lwm_274 (lwc lwm_273 (lwc lwm_272 (lwc lwm_271 (lwc lwm_270 (lwc lwm_269 (lwc lwm_268 (lwc lwm_267 (lwc lwm_266 (lwc lwm_265 (lwc lwm_264 (lwc lwm_263 (lwc lwm_262 (lwc lwm_306 (lwc lwm_305 (lwc lwm_515 (lwc lwm_514 lwn))))))))))))))))))))))))
set_option maxRecDepth 20000 in
theorem lwi_wsX8_write_r5 : ∀ w ∈ wsX8_write_r5, w ∈ lw_tbl := (lwc lwm_520 (lwc lwm_519 (lwc lwm_49 (lwc lwm_518 (lwc lwm_389 (lwc lwm_388 (lwc lwm_517 (lwc lwm_362 (lwc lwm_361 (lwc lwm_360 (lwc lwm_359 (lwc lwm_356 (lwc lwm_355 (lwc lwm_354 (lwc lwm_353 (lwc lwm_390 (lwc lwm_387 (lwc lwm_386 (lwc lwm_385 (lwc lwm_384 (lwc lwm_516 lwn)))))))))))))))))))))
set_option maxRecDepth 20000 in
theorem lwi_wsX8_write : ∀ w ∈ wsX8_write, w ∈ lw_tbl := (lwc lwm_493 (lwa (lwa (lwa (lwa lwi_wsX8_write_r1 (lwa lwi_wsX8_write_r2 (lwa lwi_wsX8_write_r3 (lwa lwi_wsX8_write_r4 lwi_wsX8_write_r5)))) lwi_wsX10) lwi_wsX80) lwi_wsX60))
set_option maxRecDepth 20000 in
theorem lwi_wsX9_write_r1 : ∀ w ∈ wsX9_write_r1, w ∈ lw_tbl := (lwc lwm_530 (lwc lwm_440 (lwc lwm_439 (lwc lwm_438 (lwc lwm_139 (lwc lwm_437 (lwc lwm_342 (lwc lwm_166 (lwc lwm_165 (lwc lwm_164 (lwc lwm_529 (lwc lwm_528 (lwc lwm_527 (lwc lwm_526 (lwc lwm_80 (lwc lwm_525 (lwc lwm_118 (lwc lwm_444 (lwc lwm_443 (lwc lwm_442 (lwc lwm_441 (lwc lwm_71 (lwc lwm_77 (lwc lwm_73 lwn))))))))))))))))))))))))
set_option maxRecDepth 20000 in
theorem lwi_wsX9_write_r2 : ∀ w ∈ wsX9_write_r2, w ∈ lw_tbl := (lwc lwm_79 (lwc lwm_72 (lwc lwm_78 (lwc lwm_542 (lwc lwm_541 (lwc lwm_540 (lwc lwm_539 (lwc lwm_538 (lwc lwm_537 (lwc lwm_536 (lwc lwm_535 (lwc lwm_76 (lwc lwm_447 (lwc lwm_446 (lwc lwm_445 (lwc lwm_534 (lwc lwm_533 (lwc lwm_532 (lwc lwm_531 (lwc lwm_141 (lwc lwm_140 (lwc lwm_138 (lwc lwm_137 (lwc lwm_136 lwn))))))))))))))))))))))))
set_option maxRecDepth 20000 in
theorem lwi_wsX9_write_r3 : ∀ w ∈ wsX9_write_r3, w ∈ lw_tbl := (lwc lwm_135 (lwc lwm_426 (lwc lwm_425 (lwc lwm_424 (lwc lwm_459 (lwc lwm_432 (lwc lwm_431 (lwc lwm_430 (lwc lwm_429 (lwc lwm_428 (lwc lwm_427 (lwc lwm_436 (lwc lwm_435 (lwc lwm_434 (lwc lwm_433 lwn)))))))))))))))
set_option maxRecDepth 20000 in
theorem lwi_wsX9_write : ∀ w ∈ wsX9_write, w ∈ lw_tbl := (lwc lwm_524 (lwa (lwa lwi_wsX9_write_r1 (lwa lwi_wsX9_write_r2 lwi_wsX9_write_r3)) lwi_wsX90))
set_option maxRecDepth 20000 in
theorem lwi_wsX8_shown : ∀ w ∈ wsX8_shown, w ∈ lw_tbl := (lwc lwm_546 (lwa (lwa (lwc lwm_4 (lwc lwm_550 (lwc lwm_549 (lwc lwm_548 (lwc lwm_5 (lwc lwm_547 (lwc lwm_506 (lwc lwm_49 lwn)))))))) lwi_wsX80) lwi_wsX60))
set_option maxRecDepth 20000 in
theorem lwi_wsX9_shown : ∀ w ∈ wsX9_shown, w ∈ lw_tbl := (lwc lwm_554 (lwa (lwc lwm_530 (lwc lwm_76 (lwc lwm_166 (lwc lwm_165 (lwc lwm_139 (lwc lwm_164 lwn)))))) lwi_wsX90))
set_option maxRecDepth 20000 in
theorem lwi_wsX8_named : ∀ w ∈ wsX8_named, w ∈ lw_tbl := (lwc lwm_558 (lwa (lwa (lwc lwm_12 (lwc lwm_574 (lwc lwm_573 (lwc lwm_34 (lwc lwm_572 (lwc lwm_571 (lwc lwm_570 (lwc lwm_569 (lwc lwm_13 (lwc lwm_568 (lwc lwm_567 (lwc lwm_566 (lwc lwm_41 (lwc lwm_565 (lwc lwm_564 (lwc lwm_563 (lwc lwm_562 (lwc lwm_42 (lwc lwm_561 (lwc lwm_560 (lwc lwm_559 (lwc lwm_35 (lwc lwm_33 lwn))))))))))))))))))))))) lwi_wsX80) lwi_wsX20))
set_option maxRecDepth 20000 in
theorem lwi_wsX9_named_r1 : ∀ w ∈ wsX9_named_r1, w ∈ lw_tbl := (lwc lwm_593 (lwc lwm_75 (lwc lwm_149 (lwc lwm_592 (lwc lwm_166 (lwc lwm_165 (lwc lwm_139 (lwc lwm_164 (lwc lwm_591 (lwc lwm_590 (lwc lwm_589 (lwc lwm_588 (lwc lwm_587 (lwc lwm_586 (lwc lwm_585 (lwc lwm_584 (lwc lwm_71 (lwc lwm_73 (lwc lwm_583 (lwc lwm_582 (lwc lwm_581 (lwc lwm_580 (lwc lwm_72 (lwc lwm_579 lwn))))))))))))))))))))))))
set_option maxRecDepth 20000 in
theorem lwi_wsX9_named_r2 : ∀ w ∈ wsX9_named_r2, w ∈ lw_tbl := (lwc lwm_595 (lwc lwm_594 (lwc lwm_432 (lwc lwm_431 (lwc lwm_430 (lwc lwm_429 (lwc lwm_428 (lwc lwm_427 (lwc lwm_447 (lwc lwm_446 (lwc lwm_445 (lwc lwm_450 (lwc lwm_449 (lwc lwm_448 lwn))))))))))))))
set_option maxRecDepth 20000 in
theorem lwi_wsX9_named : ∀ w ∈ wsX9_named, w ∈ lw_tbl := (lwc lwm_578 (lwa (lwa lwi_wsX9_named_r1 lwi_wsX9_named_r2) lwi_wsX90))
set_option maxRecDepth 20000 in
theorem lwi_wsX8_name_r1 : ∀ w ∈ wsX8_name_r1, w ∈ lw_tbl := (lwc lwm_12 (lwc lwm_608 (lwc lwm_607 (lwc lwm_606 (lwc lwm_13 (lwc lwm_605 (lwc lwm_566 (lwc lwm_41 (lwc lwm_604 (lwc lwm_603 (lwc lwm_602 (lwc lwm_561 (lwc lwm_560 (lwc lwm_559 (lwc lwm_40 (lwc lwm_39 (lwc lwm_38 (lwc lwm_37 (lwc lwm_36 (lwc lwm_35 (lwc lwm_34 (lwc lwm_33 (lwc lwm_601 (lwc lwm_600 lwn))))))))))))))))))))))))
set_option maxRecDepth 20000 in
theorem lwi_wsX8_name_r2 : ∀ w ∈ wsX8_name_r2, w ∈ lw_tbl := (lwc lwm_298 (lwc lwm_614 (lwc lwm_613 (lwc lwm_612 (lwc lwm_611 (lwc lwm_387 (lwc lwm_386 (lwc lwm_385 (lwc lwm_384 (lwc lwm_356 (lwc lwm_355 (lwc lwm_354 (lwc lwm_353 (lwc lwm_610 (lwc lwm_299 (lwc lwm_297 (lwc lwm_609 (lwc lwm_403 (lwc lwm_30 (lwc lwm_402 (lwc lwm_401 (lwc lwm_400 (lwc lwm_399 (lwc lwm_398 lwn))))))))))))))))))))))))
set_option maxRecDepth 20000 in
theorem lwi_wsX8_name_r3 : ∀ w ∈ wsX8_name_r3, w ∈ lw_tbl := (lwc lwm_397 (lwc lwm_358 (lwc lwm_357 (lwc lwm_396 (lwc lwm_361 (lwc lwm_360 (lwc lwm_359 (lwc lwm_390 (lwc lwm_389 (lwc lwm_388 (lwc lwm_395 (lwc lwm_28 (lwc lwm_27 (lwc lwm_26 (lwc lwm_394 (lwc lwm_393 (lwc lwm_392 (lwc lwm_391 (lwc lwm_419 (lwc lwm_418 (lwc lwm_417 (lwc lwm_416 (lwc lwm_415 (lwc lwm_414 lwn))))))))))))))))))))))))
set_option maxRecDepth 20000 in
theorem lwi_wsX8_name_r4 : ∀ w ∈ wsX8_name_r4, w ∈ lw_tbl := (lwc lwm_413 (lwc lwm_25 (lwc lwm_61 (lwc lwm_60 (lwc lwm_59 (lwc lwm_412 (lwc lwm_618 (lwc lwm_617 (lwc lwm_616 (lwc lwm_615 (lwc lwm_495 (lwc lwm_494 (lwc lwm_512 (lwc lwm_511 (lwc lwm_4 (lwc lwm_510 (lwc lwm_509 (lwc lwm_508 (lwc lwm_5 (lwc lwm_507 (lwc lwm_506 (lwc lwm_505 (lwc lwm_504 (lwc lwm_503 lwn))))))))))))))))))))))))
set_option maxRecDepth 20000 in
theorem lwi_wsX8_name_r5 : ∀ w ∈ wsX8_name_r5, w ∈ lw_tbl := (lwc lwm_502 (lwc lwm_501 (lwc lwm_500 (lwc lwm_499 (lwc lwm_498 (lwc lwm_497 (lwc lwm_496 (lwc lwm_259 (lwc lwm_258 (lwc lwm_257 (lwc lwm_256 (lwc lwm_255 (lwc lwm_254 (lwc lwm_253 (lwc lwm_252 (lwc lwm_251 (lwc lwm_250 (lwc lwm_249 (lwc lwm_513 (lwc lwm_247 (lwc lwm_246 (lwc lwm_245 (lwc lwm_244 (lwc lwm_243 lwn))))))))))))))))))))))))
set_option maxRecDepth 20000 in
theorem lwi_wsX8_name_r6 : ∀ w ∈ wsX8_name_r6, w ∈ lw_tbl := (lwc lwm_242 (lwc lwm_241 (lwc lwm_240 (lwc lwm_239 (lwc lwm_238 (lwc lwm_285 (lwc lwm_284 (lwc lwm_283 (lwc lwm_282 (lwc lwm_281 (lwc lwm_280 (lwc lwm_279 (lwc lwm_278 (lwc lwm_277 (lwc lwm_276 (lwc lwm_275 (lwc lwm_274 (lwc lwm_273 (lwc lwm_272 (lwc lwm_271 (lwc lwm_270 (lwc lwm_269 (lwc lwm_268 (lwc lwm_267 lwn))))))))))))))))))))))))
set_option maxRecDepth 20000 in
theorem lwi_wsX8_name_r7 : ∀ w ∈ wsX8_name_r7, w ∈ lw_tbl := (lwc lwm_266 (lwc lwm_265 (lwc lwm_264 (lwc lwm_263 (lwc lwm_262 (lwc lwm_306 (lwc lwm_305 (lwc lwm_515 (lwc lwm_514 (lwc lwm_520 (lwc lwm_519 (lwc lwm_49 (lwc lwm_518 (lwc lwm_517 (lwc lwm_362 (lwc lwm_516 lwn))))))))))))))))
set_option maxRecDepth 20000 in
theorem lwi_wsX8_name : ∀ w ∈ wsX8_name, w ∈ lw_tbl := (lwc lwm_599 (lwa (lwa (lwa (lwa lwi_wsX8_name_r1 (lwa lwi_wsX8_name_r2 (lwa lwi_wsX8_name_r3 (lwa lwi_wsX8_name_r4 (lwa lwi_wsX8_name_r5 (lwa lwi_wsX8_name_r6 lwi_wsX8_name_r7)))))) lwi_wsX80) lwi_wsX20) lwi_wsX60))
set_option maxRecDepth 20000 in
theorem lwi_wsX9_name_r1 : ∀ w ∈ wsX9_name_r1, w ∈ lw_tbl := (lwc lwm_592 (lwc lwm_75 (lwc lwm_530 (lwc lwm_166 (lwc lwm_165 (lwc lwm_139 (lwc lwm_164 (lwc lwm_626 (lwc lwm_625 (lwc lwm_624 (lwc lwm_623 (lwc lwm_118 (lwc lwm_542 (lwc lwm_541 (lwc lwm_540 (lwc lwm_539 (lwc lwm_538 (lwc lwm_537 (lwc lwm_536 (lwc lwm_535 (lwc lwm_76 (lwc lwm_447 (lwc lwm_446 (lwc lwm_445 lwn))))))))))))))))))))))))
set_option maxRecDepth 20000 in
theorem lwi_wsX9_name_r2 : ∀ w ∈ wsX9_name_r2, w ∈ lw_tbl := (lwc lwm_534 (lwc lwm_533 (lwc lwm_532 (lwc lwm_531 (lwc lwm_141 (lwc lwm_140 (lwc lwm_138 (lwc lwm_137 (lwc lwm_136 (lwc lwm_135 lwn))))))))))
set_option maxRecDepth 20000 in
theorem lwi_wsX9_name : ∀ w ∈ wsX9_name, w ∈ lw_tbl := (lwc lwm_622 (lwa (lwa lwi_wsX9_name_r1 lwi_wsX9_name_r2) lwi_wsX90))
set_option maxRecDepth 20000 in
theorem lwi_wsX8_normal_r1 : ∀ w ∈ wsX8_normal_r1, w ∈ lw_tbl := (lwc lwm_369 (lwc lwm_12 (lwc lwm_370 (lwc lwm_366 (lwc lwm_365 (lwc lwm_364 (lwc lwm_34 (lwc lwm_363 (lwc lwm_329 (lwc lwm_16 (lwc lwm_362 (lwc lwm_361 (lwc lwm_298 (lwc lwm_360 (lwc lwm_359 (lwc lwm_358 (lwc lwm_357 (lwc lwm_356 (lwc lwm_355 (lwc lwm_354 (lwc lwm_353 (lwc lwm_35 (lwc lwm_33 (lwc lwm_390 lwn))))))))))))))))))))))))
set_option maxRecDepth 20000 in
theorem lwi_wsX8_normal_r2 : ∀ w ∈ wsX8_normal_r2, w ∈ lw_tbl := (lwc lwm_389 (lwc lwm_388 (lwc lwm_387 (lwc lwm_386 (lwc lwm_385 (lwc lwm_384 (lwc lwm_376 (lwc lwm_375 (lwc lwm_374 (lwc lwm_229 (lwc lwm_373 (lwc lwm_314 (lwc lwm_313 (lwc lwm_312 (lwc lwm_372 (lwc lwm_371 (lwc lwm_31 (lwc lwm_30 (lwc lwm_29 (lwc lwm_28 (lwc lwm_27 (lwc lwm_26 (lwc lwm_25 (lwc lwm_61 lwn))))))))))))))))))))))))
set_option maxRecDepth 20000 in
theorem lwi_wsX8_normal_r3 : ∀ w ∈ wsX8_normal_r3, w ∈ lw_tbl := (lwc lwm_60 (lwc lwm_59 (lwc lwm_634 (lwc lwm_633 (lwc lwm_632 (lwc lwm_13 (lwc lwm_631 (lwc lwm_565 (lwc lwm_564 (lwc lwm_563 (lwc lwm_562 (lwc lwm_42 (lwc lwm_561 (lwc lwm_560 (lwc lwm_559 (lwc lwm_618 (lwc lwm_411 (lwc lwm_410 (lwc lwm_409 (lwc lwm_408 (lwc lwm_407 (lwc lwm_406 (lwc lwm_38 (lwc lwm_405 lwn))))))))))))))))))))))))
set_option maxRecDepth 20000 in
theorem lwi_wsX8_normal_r4 : ∀ w ∈ wsX8_normal_r4, w ∈ lw_tbl := (lwc lwm_36 (lwc lwm_604 (lwc lwm_603 (lwc lwm_602 (lwc lwm_40 (lwc lwm_39 (lwc lwm_37 (lwc lwm_601 (lwc lwm_600 (lwc lwm_614 (lwc lwm_613 (lwc lwm_612 (lwc lwm_611 (lwc lwm_610 (lwc lwm_299 (lwc lwm_297 (lwc lwm_609 (lwc lwm_403 (lwc lwm_402 (lwc lwm_401 (lwc lwm_400 (lwc lwm_399 (lwc lwm_398 (lwc lwm_397 lwn))))))))))))))))))))))))
set_option maxRecDepth 20000 in
theorem lwi_wsX8_normal_r5 : ∀ w ∈ wsX8_normal_r5, w ∈ lw_tbl := (lwc lwm_396 (lwc lwm_395 (lwc lwm_394 (lwc lwm_393 (lwc lwm_392 (lwc lwm_391 (lwc lwm_419 (lwc lwm_418 (lwc lwm_417 (lwc lwm_416 (lwc lwm_415 (lwc lwm_414 (lwc lwm_413 (lwc lwm_412 (lwc lwm_617 (lwc lwm_616 (lwc lwm_615 lwn)))))))))))))))))
set_option maxRecDepth 20000 in
theorem lwi_wsX8_normal : ∀ w ∈ wsX8_normal, w ∈ lw_tbl := (lwc lwm_630 (lwa (lwa (lwa (lwa lwi_wsX8_normal_r1 (lwa lwi_wsX8_normal_r2 (lwa lwi_wsX8_normal_r3 (lwa lwi_wsX8_normal_r4 lwi_wsX8_normal_r5)))) lwi_wsX10) lwi_wsX80) lwi_wsX20))
set_option maxRecDepth 20000 in
theorem lwi_wsX9_normal_r1 : ∀ w ∈ wsX9_normal_r1, w ∈ lw_tbl := (lwc lwm_530 (lwc lwm_148 (lwc lwm_76 (lwc lwm_147 (lwc lwm_593 (lwc lwm_149 (lwc lwm_440 (lwc lwm_439 (lwc lwm_438 (lwc lwm_139 (lwc lwm_437 (lwc lwm_342 (lwc lwm_166 (lwc lwm_165 (lwc lwm_164 (lwc lwm_458 (lwc lwm_457 (lwc lwm_456 (lwc lwm_455 (lwc lwm_77 (lwc lwm_79 (lwc lwm_426 (lwc lwm_425 (lwc lwm_424 lwn))))))))))))))))))))))))
set_option maxRecDepth 20000 in
theorem lwi_wsX9_normal_r2 : ∀ w ∈ wsX9_normal_r2, w ∈ lw_tbl := (lwc lwm_459 (lwc lwm_80 (lwc lwm_432 (lwc lwm_431 (lwc lwm_430 (lwc lwm_429 (lwc lwm_428 (lwc lwm_427 (lwc lwm_436 (lwc lwm_435 (lwc lwm_434 (lwc lwm_433 (lwc lwm_591 (lwc lwm_590 (lwc lwm_589 (lwc lwm_588 (lwc lwm_587 (lwc lwm_586 (lwc lwm_585 (lwc lwm_584 (lwc lwm_71 (lwc lwm_73 (lwc lwm_583 (lwc lwm_582 lwn))))))))))))))))))))))))
set_option maxRecDepth 20000 in
theorem lwi_wsX9_normal_r3 : ∀ w ∈ wsX9_normal_r3, w ∈ lw_tbl := (lwc lwm_581 (lwc lwm_580 (lwc lwm_72 (lwc lwm_579 (lwc lwm_595 (lwc lwm_594 (lwc lwm_447 (lwc lwm_446 (lwc lwm_445 (lwc lwm_450 (lwc lwm_449 (lwc lwm_448 (lwc lwm_529 (lwc lwm_528 (lwc lwm_527 (lwc lwm_526 (lwc lwm_525 (lwc lwm_118 (lwc lwm_444 (lwc lwm_443 (lwc lwm_442 (lwc lwm_441 (lwc lwm_78 (lwc lwm_542 lwn))))))))))))))))))))))))
set_option maxRecDepth 20000 in
theorem lwi_wsX9_normal_r4 : ∀ w ∈ wsX9_normal_r4, w ∈ lw_tbl := (lwc lwm_541 (lwc lwm_540 (lwc lwm_539 (lwc lwm_538 (lwc lwm_537 (lwc lwm_536 (lwc lwm_535 (lwc lwm_534 (lwc lwm_533 (lwc lwm_532 (lwc lwm_531 (lwc lwm_141 (lwc lwm_140 (lwc lwm_138 (lwc lwm_137 (lwc lwm_136 (lwc lwm_135 (lwc lwm_626 (lwc lwm_625 (lwc lwm_624 (lwc lwm_623 lwn)))))))))))))))))))))
set_option maxRecDepth 20000 in
theorem lwi_wsX9_normal : ∀ w ∈ wsX9_normal, w ∈ lw_tbl := (lwc lwm_638 (lwa (lwa lwi_wsX9_normal_r1 (lwa lwi_wsX9_normal_r2 (lwa lwi_wsX9_normal_r3 lwi_wsX9_normal_r4))) lwi_wsX90))
set_option maxRecDepth 20000 in
theorem lwi_wsX8_move_r1 : ∀ w ∈ wsX8_move_r1, w ∈ lw_tbl := (lwc lwm_329 (lwc lwm_366 (lwc lwm_365 (lwc lwm_364 (lwc lwm_34 (lwc lwm_363 (lwc lwm_16 (lwc lwm_648 (lwc lwm_386 (lwc lwm_385 (lwc lwm_384 (lwc lwm_647 (lwc lwm_646 (lwc lwm_645 (lwc lwm_229 (lwc lwm_644 (lwc lwm_314 (lwc lwm_312 (lwc lwm_311 (lwc lwm_313 (lwc lwm_643 (lwc lwm_230 (lwc lwm_372 (lwc lwm_361 lwn))))))))))))))))))))))))
set_option maxRecDepth 20000 in
theorem lwi_wsX8_move_r2 : ∀ w ∈ wsX8_move_r2, w ∈ lw_tbl := (lwc lwm_298 (lwc lwm_360 (lwc lwm_359 (lwc lwm_358 (lwc lwm_357 (lwc lwm_356 (lwc lwm_355 (lwc lwm_354 (lwc lwm_353 (lwc lwm_35 (lwc lwm_33 (lwc lwm_390 (lwc lwm_389 (lwc lwm_388 (lwc lwm_387 (lwc lwm_649 (lwc lwm_600 (lwc lwm_614 (lwc lwm_613 (lwc lwm_612 (lwc lwm_611 (lwc lwm_610 (lwc lwm_299 (lwc lwm_297 lwn))))))))))))))))))))))))
set_option maxRecDepth 20000 in
theorem lwi_wsX8_move_r3 : ∀ w ∈ wsX8_move_r3, w ∈ lw_tbl := (lwc lwm_609 (lwc lwm_403 (lwc lwm_30 (lwc lwm_402 (lwc lwm_401 (lwc lwm_400 (lwc lwm_399 (lwc lwm_398 (lwc lwm_397 (lwc lwm_396 (lwc lwm_395 (lwc lwm_28 (lwc lwm_27 (lwc lwm_26 (lwc lwm_394 (lwc lwm_393 (lwc lwm_392 (lwc lwm_391 (lwc lwm_419 (lwc lwm_418 (lwc lwm_417 (lwc lwm_416 (lwc lwm_415 (lwc lwm_414 lwn))))))))))))))))))))))))
set_option maxRecDepth 20000 in
theorem lwi_wsX8_move_r4 : ∀ w ∈ wsX8_move_r4, w ∈ lw_tbl := (lwc lwm_413 (lwc lwm_25 (lwc lwm_61 (lwc lwm_60 (lwc lwm_59 (lwc lwm_412 (lwc lwm_652 (lwc lwm_317 (lwc lwm_316 (lwc lwm_315 (lwc lwm_23 (lwc lwm_22 (lwc lwm_651 (lwc lwm_650 (lwc lwm_333 (lwc lwm_332 (lwc lwm_331 (lwc lwm_330 lwn))))))))))))))))))
set_option maxRecDepth 20000 in
theorem lwi_wsX8_move : ∀ w ∈ wsX8_move, w ∈ lw_tbl := (lwc lwm_642 (lwa (lwa (lwa lwi_wsX8_move_r1 (lwa lwi_wsX8_move_r2 (lwa lwi_wsX8_move_r3 lwi_wsX8_move_r4))) lwi_wsX80) lwi_wsX10))
set_option maxRecDepth 20000 in
theorem lwi_wsX9_move_r1 : ∀ w ∈ wsX9_move_r1, w ∈ lw_tbl := (lwc lwm_342 (lwc lwm_80 (lwc lwm_77 (lwc lwm_79 (lwc lwm_78 (lwc lwm_440 (lwc lwm_439 (lwc lwm_438 (lwc lwm_139 (lwc lwm_437 (lwc lwm_166 (lwc lwm_165 (lwc lwm_164 (lwc lwm_436 (lwc lwm_435 (lwc lwm_434 (lwc lwm_433 (lwc lwm_432 (lwc lwm_431 (lwc lwm_430 (lwc lwm_429 (lwc lwm_428 (lwc lwm_427 (lwc lwm_426 lwn))))))))))))))))))))))))
set_option maxRecDepth 20000 in
theorem lwi_wsX9_move_r2 : ∀ w ∈ wsX9_move_r2, w ∈ lw_tbl := (lwc lwm_425 (lwc lwm_424 (lwc lwm_459 (lwc lwm_579 (lwc lwm_595 (lwc lwm_594 (lwc lwm_454 (lwc lwm_453 (lwc lwm_452 (lwc lwm_451 (lwc lwm_450 (lwc lwm_449 (lwc lwm_448 (lwc lwm_447 (lwc lwm_446 (lwc lwm_445 (lwc lwm_348 (lwc lwm_347 (lwc lwm_346 (lwc lwm_345 lwn))))))))))))))))))))
set_option maxRecDepth 20000 in
theorem lwi_wsX9_move : ∀ w ∈ wsX9_move, w ∈ lw_tbl := (lwc lwm_656 (lwa (lwa lwi_wsX9_move_r1 lwi_wsX9_move_r2) lwi_wsX90))
set_option maxRecDepth 20000 in
theorem lwi_wsX8_voice_r1 : ∀ w ∈ wsX8_voice_r1, w ∈ lw_tbl := (lwc lwm_8 (lwc lwm_369 (lwc lwm_366 (lwc lwm_365 (lwc lwm_364 (lwc lwm_34 (lwc lwm_363 (lwc lwm_329 (lwc lwm_16 (lwc lwm_663 (lwc lwm_662 (lwc lwm_661 (lwc lwm_376 (lwc lwm_375 (lwc lwm_374 (lwc lwm_229 (lwc lwm_373 (lwc lwm_314 (lwc lwm_313 (lwc lwm_312 (lwc lwm_372 (lwc lwm_361 (lwc lwm_298 (lwc lwm_360 lwn))))))))))))))))))))))))
set_option maxRecDepth 20000 in
theorem lwi_wsX8_voice_r2 : ∀ w ∈ wsX8_voice_r2, w ∈ lw_tbl := (lwc lwm_359 (lwc lwm_358 (lwc lwm_357 (lwc lwm_356 (lwc lwm_355 (lwc lwm_354 (lwc lwm_353 (lwc lwm_35 (lwc lwm_33 (lwc lwm_390 (lwc lwm_389 (lwc lwm_388 (lwc lwm_387 (lwc lwm_386 (lwc lwm_385 (lwc lwm_384 (lwc lwm_371 (lwc lwm_31 (lwc lwm_30 (lwc lwm_29 (lwc lwm_28 (lwc lwm_27 (lwc lwm_26 (lwc lwm_25 lwn))))))))))))))))))))))))
set_option maxRecDepth 20000 in
theorem lwi_wsX8_voice_r3 : ∀ w ∈ wsX8_voice_r3, w ∈ lw_tbl := (lwc lwm_61 (lwc lwm_60 (lwc lwm_59 (lwc lwm_362 (lwc lwm_677 (lwc lwm_676 (lwc lwm_675 (lwc lwm_9 (lwc lwm_674 (lwc lwm_54 (lwc lwm_673 (lwc lwm_672 (lwc lwm_671 (lwc lwm_670 (lwc lwm_669 (lwc lwm_668 (lwc lwm_55 (lwc lwm_667 (lwc lwm_400 (lwc lwm_399 (lwc lwm_398 (lwc lwm_666 (lwc lwm_665 (lwc lwm_664 lwn))))))))))))))))))))))))
set_option maxRecDepth 20000 in
theorem lwi_wsX8_voice_r4 : ∀ w ∈ wsX8_voice_r4, w ∈ lw_tbl := (lwc lwm_690 (lwc lwm_689 (lwc lwm_688 (lwc lwm_687 (lwc lwm_53 (lwc lwm_686 (lwc lwm_685 (lwc lwm_684 (lwc lwm_683 (lwc lwm_682 (lwc lwm_681 (lwc lwm_680 (lwc lwm_679 (lwc lwm_678 lwn))))))))))))))
set_option maxRecDepth 20000 in
theorem lwi_wsX8_voice : ∀ w ∈ wsX8_voice, w ∈ lw_tbl := (lwc lwm_660 (lwa (lwa (lwa (lwa lwi_wsX8_voice_r1 (lwa lwi_wsX8_voice_r2 (lwa lwi_wsX8_voice_r3 lwi_wsX8_voice_r4))) lwi_wsX80) lwi_wsX10) lwi_wsX70))
set_option maxRecDepth 20000 in
theorem lwi_wsX9_voice_r1 : ∀ w ∈ wsX9_voice_r1, w ∈ lw_tbl := (lwc lwm_146 (lwc lwm_696 (lwc lwm_145 (lwc lwm_695 (lwc lwm_74 (lwc lwm_440 (lwc lwm_439 (lwc lwm_438 (lwc lwm_139 (lwc lwm_437 (lwc lwm_342 (lwc lwm_166 (lwc lwm_165 (lwc lwm_164 (lwc lwm_458 (lwc lwm_457 (lwc lwm_456 (lwc lwm_455 (lwc lwm_77 (lwc lwm_79 (lwc lwm_426 (lwc lwm_425 (lwc lwm_424 (lwc lwm_459 lwn))))))))))))))))))))))))
set_option maxRecDepth 20000 in
theorem lwi_wsX9_voice_r2 : ∀ w ∈ wsX9_voice_r2, w ∈ lw_tbl := (lwc lwm_80 (lwc lwm_432 (lwc lwm_431 (lwc lwm_430 (lwc lwm_429 (lwc lwm_428 (lwc lwm_427 (lwc lwm_436 (lwc lwm_435 (lwc lwm_434 (lwc lwm_433 (lwc lwm_704 (lwc lwm_703 (lwc lwm_702 (lwc lwm_701 (lwc lwm_447 (lwc lwm_446 (lwc lwm_445 (lwc lwm_700 (lwc lwm_699 (lwc lwm_698 (lwc lwm_697 lwn))))))))))))))))))))))
set_option maxRecDepth 20000 in
theorem lwi_wsX9_voice : ∀ w ∈ wsX9_voice, w ∈ lw_tbl := (lwc lwm_694 (lwa (lwa lwi_wsX9_voice_r1 lwi_wsX9_voice_r2) lwi_wsX90))
set_option maxRecDepth 20000 in
theorem lwi_wsX8_key : ∀ w ∈ wsX8_key, w ∈ lw_tbl := (lwc lwm_708 (lwa (lwa (lwc lwm_8 (lwc lwm_712 (lwc lwm_711 (lwc lwm_710 (lwc lwm_9 (lwc lwm_709 (lwc lwm_668 (lwc lwm_55 lwn)))))))) lwi_wsX80) lwi_wsX70))
set_option maxRecDepth 20000 in
theorem lwi_wsX9_key : ∀ w ∈ wsX9_key, w ∈ lw_tbl := (lwc lwm_716 (lwa (lwc lwm_695 (lwc lwm_74 (lwc lwm_166 (lwc lwm_165 (lwc lwm_139 (lwc lwm_164 lwn)))))) lwi_wsX90))
set_option maxRecDepth 20000 in
theorem lwi_wsX8_rest : ∀ w ∈ wsX8_rest, w ∈ lw_tbl := (lwc lwm_720 (lwa (lwa (lwc lwm_8 (lwc lwm_724 (lwc lwm_723 (lwc lwm_722 (lwc lwm_9 (lwc lwm_721 (lwc lwm_668 lwn))))))) lwi_wsX80) lwi_wsX70))
set_option maxRecDepth 20000 in
theorem lwi_wsX9_rest_ : ∀ w ∈ wsX9_rest_, w ∈ lw_tbl := (lwc lwm_728 (lwa (lwc lwm_695 lwn) lwi_wsX90))
set_option maxRecDepth 20000 in
theorem lwi_wsX8_figure_r1 : ∀ w ∈ wsX8_figure_r1, w ∈ lw_tbl := (lwc lwm_4 (lwc lwm_370 (lwc lwm_366 (lwc lwm_365 (lwc lwm_364 (lwc lwm_34 (lwc lwm_363 (lwc lwm_329 (lwc lwm_16 (lwc lwm_574 (lwc lwm_573 (lwc lwm_572 (lwc lwm_510 (lwc lwm_509 (lwc lwm_508 (lwc lwm_5 (lwc lwm_507 (lwc lwm_506 (lwc lwm_736 (lwc lwm_735 (lwc lwm_734 (lwc lwm_229 (lwc lwm_733 (lwc lwm_313 lwn))))))))))))))))))))))))
set_option maxRecDepth 20000 in
theorem lwi_wsX8_figure_r2 : ∀ w ∈ wsX8_figure_r2, w ∈ lw_tbl := (lwc lwm_362 (lwc lwm_361 (lwc lwm_298 (lwc lwm_360 (lwc lwm_359 (lwc lwm_358 (lwc lwm_357 (lwc lwm_356 (lwc lwm_355 (lwc lwm_354 (lwc lwm_353 (lwc lwm_35 (lwc lwm_33 (lwc lwm_390 (lwc lwm_389 (lwc lwm_388 (lwc lwm_387 (lwc lwm_386 (lwc lwm_385 (lwc lwm_384 (lwc lwm_740 (lwc lwm_739 (lwc lwm_738 (lwc lwm_737 lwn))))))))))))))))))))))))
set_option maxRecDepth 20000 in
theorem lwi_wsX8_figure_r3 : ∀ w ∈ wsX8_figure_r3, w ∈ lw_tbl := (lwc lwm_648 (lwc lwm_517 (lwc lwm_499 (lwc lwm_498 (lwc lwm_497 (lwc lwm_496 (lwc lwm_259 (lwc lwm_258 (lwc lwm_257 (lwc lwm_256 (lwc lwm_255 (lwc lwm_254 (lwc lwm_253 (lwc lwm_252 (lwc lwm_251 (lwc lwm_250 (lwc lwm_249 (lwc lwm_513 (lwc lwm_247 (lwc lwm_246 (lwc lwm_245 (lwc lwm_244 (lwc lwm_243 (lwc lwm_242 lwn))))))))))))))))))))))))
set_option maxRecDepth 20000 in
theorem lwi_wsX8_figure_r4 : ∀ w ∈ wsX8_figure_r4, w ∈ lw_tbl := (lwc lwm_241 (lwc lwm_240 (lwc lwm_239 (lwc lwm_238 (lwc lwm_285 (lwc lwm_284 (lwc lwm_283 (lwc lwm_282 (lwc lwm_281 (lwc lwm_280 (lwc lwm_279 (lwc lwm_278 (lwc lwm_277 (lwc lwm_276 (lwc lwm_275 (lwc lwm_274 (lwc lwm_273 (lwc lwm_272 (lwc lwm_271 (lwc lwm_270 (lwc lwm_269 (lwc lwm_268 (lwc lwm_267 (lwc lwm_266 lwn))))))))))))))))))))))))
set_option maxRecDepth 20000 in
theorem lwi_wsX8_figure_r5 : ∀ w ∈ wsX8_figure_r5, w ∈ lw_tbl := (lwc lwm_265 (lwc lwm_264 (lwc lwm_263 (lwc lwm_262 (lwc lwm_306 (lwc lwm_305 (lwc lwm_515 (lwc lwm_514 (lwc lwm_520 (lwc lwm_519 (lwc lwm_49 (lwc lwm_516 (lwc lwm_749 (lwc lwm_748 (lwc lwm_747 (lwc lwm_746 (lwc lwm_369 (lwc lwm_745 (lwc lwm_744 (lwc lwm_743 (lwc lwm_742 (lwc lwm_314 (lwc lwm_312 (lwc lwm_741 lwn))))))))))))))))))))))))
set_option maxRecDepth 20000 in
theorem lwi_wsX8_figure_r6 : ∀ w ∈ wsX8_figure_r6, w ∈ lw_tbl := (lwc lwm_27 (lwc lwm_30 (lwc lwm_26 (lwc lwm_751 (lwc lwm_485 (lwc lwm_484 (lwc lwm_396 (lwc lwm_25 (lwc lwm_61 (lwc lwm_60 (lwc lwm_59 (lwc lwm_372 (lwc lwm_750 (lwc lwm_416 (lwc lwm_415 (lwc lwm_414 lwn))))))))))))))))
set_option maxRecDepth 20000 in
theorem lwi_wsX8_figure : ∀ w ∈ wsX8_figure, w ∈ lw_tbl := (lwc lwm_732 (lwa (lwa (lwa (lwa lwi_wsX8_figure_r1 (lwa lwi_wsX8_figure_r2 (lwa lwi_wsX8_figure_r3 (lwa lwi_wsX8_figure_r4 (lwa lwi_wsX8_figure_r5 lwi_wsX8_figure_r6))))) lwi_wsX80) lwi_wsX10) lwi_wsX60))
set_option maxRecDepth 20000 in
theorem lwi_wsX9_figure_r1 : ∀ w ∈ wsX9_figure_r1, w ∈ lw_tbl := (lwc lwm_530 (lwc lwm_77 (lwc lwm_78 (lwc lwm_79 (lwc lwm_440 (lwc lwm_439 (lwc lwm_438 (lwc lwm_139 (lwc lwm_437 (lwc lwm_342 (lwc lwm_166 (lwc lwm_165 (lwc lwm_164 (lwc lwm_759 (lwc lwm_758 (lwc lwm_757 (lwc lwm_756 (lwc lwm_436 (lwc lwm_435 (lwc lwm_434 (lwc lwm_433 (lwc lwm_80 (lwc lwm_432 (lwc lwm_431 lwn))))))))))))))))))))))))
set_option maxRecDepth 20000 in
theorem lwi_wsX9_figure_r2 : ∀ w ∈ wsX9_figure_r2, w ∈ lw_tbl := (lwc lwm_430 (lwc lwm_429 (lwc lwm_428 (lwc lwm_427 (lwc lwm_763 (lwc lwm_762 (lwc lwm_761 (lwc lwm_760 (lwc lwm_153 (lwc lwm_141 (lwc lwm_140 (lwc lwm_138 (lwc lwm_137 (lwc lwm_136 (lwc lwm_135 (lwc lwm_538 (lwc lwm_537 (lwc lwm_536 (lwc lwm_535 (lwc lwm_76 (lwc lwm_426 (lwc lwm_425 (lwc lwm_424 (lwc lwm_459 lwn))))))))))))))))))))))))
set_option maxRecDepth 20000 in
theorem lwi_wsX9_figure : ∀ w ∈ wsX9_figure, w ∈ lw_tbl := (lwc lwm_755 (lwa (lwa lwi_wsX9_figure_r1 lwi_wsX9_figure_r2) lwi_wsX90))
set_option maxRecDepth 20000 in
theorem lwi_wsX8_count : ∀ w ∈ wsX8_count, w ∈ lw_tbl := (lwc lwm_767 (lwa (lwa (lwa (lwa (lwa (lwc lwm_329 (lwc lwm_12 (lwc lwm_18 (lwc lwm_4 (lwc lwm_8 lwn))))) lwi_wsX80) lwi_wsX20) lwi_wsX50) lwi_wsX60) lwi_wsX70))
set_option maxRecDepth 20000 in
theorem lwi_wsX9_count : ∀ w ∈ wsX9_count, w ∈ lw_tbl := (lwc lwm_771 (lwa (lwc lwm_342 (lwc lwm_592 (lwc lwm_213 (lwc lwm_530 (lwc lwm_695 lwn))))) lwi_wsX90))
set_option maxRecDepth 20000 in
theorem gW_X8_init : GoodIn lw_tbl wsX8_init := goodIn_sub lwi_wsX8_init (by decide +kernel)
set_option maxRecDepth 20000 in
theorem gW_X9_init : GoodIn lw_tbl wsX9_init := goodIn_sub lwi_wsX9_init (by decide +kernel)
set_option maxRecDepth 20000 in
theorem gW_X8_feed : GoodIn lw_tbl (wsV RL 15 RX8 yX8_feed wsX8_feed) := goodIn_app (goodIn_sub (lwc lwm_200 (lwc lwm_201 (lwc lwm_202 (lwc lwm_34 lwn)))) (by decide +kernel)) (goodIn_sub lwi_wsX8_feed (by decide +kernel))
set_option maxRecDepth 20000 in
theorem gW_X9_feed : GoodIn lw_tbl (wsV RL 19 RX9 yX9_feed wsX9_feed) := goodIn_app (goodIn_sub (lwc lwm_209 (lwc lwm_210 (lwc lwm_211 (lwc lwm_139 lwn)))) (by decide +kernel)) (goodIn_sub lwi_wsX9_feed (by decide +kernel))
set_option maxRecDepth 20000 in
theorem gW_X8_chord : GoodIn lw_tbl (wsV RL 20 RX8 yX8_chord wsX8_chord) := goodIn_app (goodIn_sub (lwc lwm_214 (lwc lwm_215 (lwc lwm_216 (lwc lwm_34 lwn)))) (by decide +kernel)) (goodIn_sub lwi_wsX8_chord (by decide +kernel))
set_option maxRecDepth 20000 in
theorem gW_X9_chord : GoodIn lw_tbl (wsV RL 24 RX9 yX9_chord wsX9_chord) := goodIn_app (goodIn_sub (lwc lwm_334 (lwc lwm_335 (lwc lwm_336 (lwc lwm_139 lwn)))) (by decide +kernel)) (goodIn_sub lwi_wsX9_chord (by decide +kernel))
set_option maxRecDepth 20000 in
theorem gW_X8_of : GoodIn lw_tbl (wsV RL 25 RX8 yX8_of wsX8_of) := goodIn_app (goodIn_sub (lwc lwm_349 (lwc lwm_350 (lwc lwm_351 (lwc lwm_34 lwn)))) (by decide +kernel)) (goodIn_sub lwi_wsX8_of (by decide +kernel))
set_option maxRecDepth 20000 in
theorem gW_X9_of : GoodIn lw_tbl (wsV RL 29 RX9 yX9_of wsX9_of) := goodIn_app (goodIn_sub (lwc lwm_420 (lwc lwm_421 (lwc lwm_422 (lwc lwm_139 lwn)))) (by decide +kernel)) (goodIn_sub lwi_wsX9_of (by decide +kernel))
set_option maxRecDepth 20000 in
theorem gW_X8_step : GoodIn lw_tbl (wsV RL 30 RX8 yX8_step wsX8_step) := goodIn_app (goodIn_sub (lwc lwm_460 (lwc lwm_461 (lwc lwm_462 (lwc lwm_34 lwn)))) (by decide +kernel)) (goodIn_sub lwi_wsX8_step (by decide +kernel))
set_option maxRecDepth 20000 in
theorem gW_X9_step : GoodIn lw_tbl (wsV RL 34 RX9 yX9_step wsX9_step) := goodIn_app (goodIn_sub (lwc lwm_486 (lwc lwm_487 (lwc lwm_488 (lwc lwm_139 lwn)))) (by decide +kernel)) (goodIn_sub lwi_wsX9_step (by decide +kernel))
set_option maxRecDepth 20000 in
theorem gW_X8_write : GoodIn lw_tbl (wsV RL 35 RX8 yX8_write wsX8_write) := goodIn_app (goodIn_sub (lwc lwm_490 (lwc lwm_491 (lwc lwm_492 (lwc lwm_34 lwn)))) (by decide +kernel)) (goodIn_sub lwi_wsX8_write (by decide +kernel))
set_option maxRecDepth 20000 in
theorem gW_X9_write : GoodIn lw_tbl (wsV RL 39 RX9 yX9_write wsX9_write) := goodIn_app (goodIn_sub (lwc lwm_521 (lwc lwm_522 (lwc lwm_523 (lwc lwm_139 lwn)))) (by decide +kernel)) (goodIn_sub lwi_wsX9_write (by decide +kernel))
set_option maxRecDepth 20000 in
theorem gW_X8_shown : GoodIn lw_tbl (wsV RL 40 RX8 yX8_shown wsX8_shown) := goodIn_app (goodIn_sub (lwc lwm_543 (lwc lwm_544 (lwc lwm_545 (lwc lwm_34 lwn)))) (by decide +kernel)) (goodIn_sub lwi_wsX8_shown (by decide +kernel))
set_option maxRecDepth 20000 in
theorem gW_X9_shown : GoodIn lw_tbl (wsV RL 43 RX9 yX9_shown wsX9_shown) := goodIn_app (goodIn_sub (lwc lwm_551 (lwc lwm_552 (lwc lwm_553 (lwc lwm_139 lwn)))) (by decide +kernel)) (goodIn_sub lwi_wsX9_shown (by decide +kernel))
set_option maxRecDepth 20000 in
theorem gW_X8_named : GoodIn lw_tbl (wsV RL 44 RX8 yX8_named wsX8_named) := goodIn_app (goodIn_sub (lwc lwm_555 (lwc lwm_556 (lwc lwm_557 (lwc lwm_34 lwn)))) (by decide +kernel)) (goodIn_sub lwi_wsX8_named (by decide +kernel))
set_option maxRecDepth 20000 in
theorem gW_X9_named : GoodIn lw_tbl (wsV RL 47 RX9 yX9_named wsX9_named) := goodIn_app (goodIn_sub (lwc lwm_575 (lwc lwm_576 (lwc lwm_577 (lwc lwm_139 lwn)))) (by decide +kernel)) (goodIn_sub lwi_wsX9_named (by decide +kernel))
set_option maxRecDepth 20000 in
theorem gW_X8_name : GoodIn lw_tbl (wsV RL 48 RX8 yX8_name wsX8_name) := goodIn_app (goodIn_sub (lwc lwm_596 (lwc lwm_597 (lwc lwm_598 (lwc lwm_34 lwn)))) (by decide +kernel)) (goodIn_sub lwi_wsX8_name (by decide +kernel))
set_option maxRecDepth 20000 in
theorem gW_X9_name : GoodIn lw_tbl (wsV RL 51 RX9 yX9_name wsX9_name) := goodIn_app (goodIn_sub (lwc lwm_619 (lwc lwm_620 (lwc lwm_621 (lwc lwm_139 lwn)))) (by decide +kernel)) (goodIn_sub lwi_wsX9_name (by decide +kernel))
set_option maxRecDepth 20000 in
theorem gW_X8_normal : GoodIn lw_tbl (wsV RL 52 RX8 yX8_normal wsX8_normal) := goodIn_app (goodIn_sub (lwc lwm_627 (lwc lwm_628 (lwc lwm_629 (lwc lwm_34 lwn)))) (by decide +kernel)) (goodIn_sub lwi_wsX8_normal (by decide +kernel))
set_option maxRecDepth 20000 in
theorem gW_X9_normal : GoodIn lw_tbl (wsV RL 55 RX9 yX9_normal wsX9_normal) := goodIn_app (goodIn_sub (lwc lwm_635 (lwc lwm_636 (lwc lwm_637 (lwc lwm_139 lwn)))) (by decide +kernel)) (goodIn_sub lwi_wsX9_normal (by decide +kernel))
set_option maxRecDepth 20000 in
theorem gW_X8_move : GoodIn lw_tbl (wsV RL 56 RX8 yX8_move wsX8_move) := goodIn_app (goodIn_sub (lwc lwm_639 (lwc lwm_640 (lwc lwm_641 (lwc lwm_34 lwn)))) (by decide +kernel)) (goodIn_sub lwi_wsX8_move (by decide +kernel))
set_option maxRecDepth 20000 in
theorem gW_X9_move : GoodIn lw_tbl (wsV RL 59 RX9 yX9_move wsX9_move) := goodIn_app (goodIn_sub (lwc lwm_653 (lwc lwm_654 (lwc lwm_655 (lwc lwm_139 lwn)))) (by decide +kernel)) (goodIn_sub lwi_wsX9_move (by decide +kernel))
set_option maxRecDepth 20000 in
theorem gW_X8_voice : GoodIn lw_tbl (wsV RL 60 RX8 yX8_voice wsX8_voice) := goodIn_app (goodIn_sub (lwc lwm_657 (lwc lwm_658 (lwc lwm_659 (lwc lwm_34 lwn)))) (by decide +kernel)) (goodIn_sub lwi_wsX8_voice (by decide +kernel))
set_option maxRecDepth 20000 in
theorem gW_X9_voice : GoodIn lw_tbl (wsV RL 63 RX9 yX9_voice wsX9_voice) := goodIn_app (goodIn_sub (lwc lwm_691 (lwc lwm_692 (lwc lwm_693 (lwc lwm_139 lwn)))) (by decide +kernel)) (goodIn_sub lwi_wsX9_voice (by decide +kernel))
set_option maxRecDepth 20000 in
theorem gW_X8_key : GoodIn lw_tbl (wsV RL 64 RX8 yX8_key wsX8_key) := goodIn_app (goodIn_sub (lwc lwm_705 (lwc lwm_706 (lwc lwm_707 (lwc lwm_34 lwn)))) (by decide +kernel)) (goodIn_sub lwi_wsX8_key (by decide +kernel))
set_option maxRecDepth 20000 in
theorem gW_X9_key : GoodIn lw_tbl (wsV RL 67 RX9 yX9_key wsX9_key) := goodIn_app (goodIn_sub (lwc lwm_713 (lwc lwm_714 (lwc lwm_715 (lwc lwm_139 lwn)))) (by decide +kernel)) (goodIn_sub lwi_wsX9_key (by decide +kernel))
set_option maxRecDepth 20000 in
theorem gW_X8_rest : GoodIn lw_tbl (wsV RL 68 RX8 yX8_rest wsX8_rest) := goodIn_app (goodIn_sub (lwc lwm_717 (lwc lwm_718 (lwc lwm_719 (lwc lwm_34 lwn)))) (by decide +kernel)) (goodIn_sub lwi_wsX8_rest (by decide +kernel))
set_option maxRecDepth 20000 in
theorem gW_X9_rest_ : GoodIn lw_tbl (wsV RL 71 RX9 yX9_rest_ wsX9_rest_) := goodIn_app (goodIn_sub (lwc lwm_725 (lwc lwm_726 (lwc lwm_727 (lwc lwm_139 lwn)))) (by decide +kernel)) (goodIn_sub lwi_wsX9_rest_ (by decide +kernel))
set_option maxRecDepth 20000 in
theorem gW_X8_figure : GoodIn lw_tbl (wsV RL 72 RX8 yX8_figure wsX8_figure) := goodIn_app (goodIn_sub (lwc lwm_729 (lwc lwm_730 (lwc lwm_731 (lwc lwm_34 lwn)))) (by decide +kernel)) (goodIn_sub lwi_wsX8_figure (by decide +kernel))
set_option maxRecDepth 20000 in
theorem gW_X9_figure : GoodIn lw_tbl (wsV RL 75 RX9 yX9_figure wsX9_figure) := goodIn_app (goodIn_sub (lwc lwm_752 (lwc lwm_753 (lwc lwm_754 (lwc lwm_139 lwn)))) (by decide +kernel)) (goodIn_sub lwi_wsX9_figure (by decide +kernel))
set_option maxRecDepth 20000 in
theorem gW_X8_count : GoodIn lw_tbl (wsV RL 76 RX8 yX8_count wsX8_count) := goodIn_app (goodIn_sub (lwc lwm_764 (lwc lwm_765 (lwc lwm_766 (lwc lwm_34 lwn)))) (by decide +kernel)) (goodIn_sub lwi_wsX8_count (by decide +kernel))
set_option maxRecDepth 20000 in
theorem gW_X9_count : GoodIn lw_tbl (wsV RL 79 RX9 yX9_count wsX9_count) := goodIn_app (goodIn_sub (lwc lwm_768 (lwc lwm_769 (lwc lwm_770 (lwc lwm_139 lwn)))) (by decide +kernel)) (goodIn_sub lwi_wsX9_count (by decide +kernel))
