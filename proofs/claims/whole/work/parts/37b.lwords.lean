set_option maxRecDepth 20000 in
theorem lwm_193 : Cond.selects RX9 yX9_placeOf yX9_placeOf ∈ lw_tbl := by decide +kernel
set_option maxRecDepth 20000 in
theorem lwm_194 : Cond.instanceMethod yX9_placeOf ∈ lw_tbl := by decide +kernel
set_option maxRecDepth 20000 in
theorem lwm_195 : Cond.methodLink RX9 251 yX9_placeOf ∈ lw_tbl := by decide +kernel
set_option maxRecDepth 20000 in
theorem lwm_196 : Cond.code yX9_placeOfDegree cX9_placeOfDegree 3 (some .int) ∈ lw_tbl := List.mem_of_getElem? (i := 715) rfl
set_option maxRecDepth 20000 in
theorem lwm_197 : Cond.selects RX9 yX9_placeOfDegree yX9_placeOfDegree ∈ lw_tbl := by decide +kernel
set_option maxRecDepth 20000 in
theorem lwm_198 : Cond.instanceMethod yX9_placeOfDegree ∈ lw_tbl := by decide +kernel
set_option maxRecDepth 20000 in
theorem lwm_199 : Cond.methodLink RX9 243 yX9_placeOfDegree ∈ lw_tbl := by decide +kernel
set_option maxRecDepth 20000 in
theorem lwm_200 : Cond.methodLink RL 15 yX8_feed ∈ lw_tbl := by decide +kernel
set_option maxRecDepth 20000 in
theorem lwm_201 : Cond.instanceMethod yX8_feed ∈ lw_tbl := by decide +kernel
set_option maxRecDepth 20000 in
theorem lwm_202 : Cond.selects RX8 yX8_feed yX8_feed ∈ lw_tbl := by decide +kernel
set_option maxRecDepth 20000 in
theorem lwm_203 : Cond.code yX8_feed cX8_feed 4 (some .int) ∈ lw_tbl := List.mem_of_getElem? (i := 201) rfl
set_option maxRecDepth 20000 in
theorem lwm_204 : Cond.fieldLink RX5 17 "LeadSheets$Tape" "length" "I" ∈ lw_tbl := by decide +kernel
set_option maxRecDepth 20000 in
theorem lwm_205 : Cond.code yX5_add cX5_add 5 (some .int) ∈ lw_tbl := List.mem_of_getElem? (i := 205) rfl
set_option maxRecDepth 20000 in
theorem lwm_206 : Cond.selects RX5 yX5_add yX5_add ∈ lw_tbl := by decide +kernel
set_option maxRecDepth 20000 in
theorem lwm_207 : Cond.instanceMethod yX5_add ∈ lw_tbl := by decide +kernel
set_option maxRecDepth 20000 in
theorem lwm_208 : Cond.methodLink RX8 43 yX5_add ∈ lw_tbl := by decide +kernel
set_option maxRecDepth 20000 in
theorem lwm_209 : Cond.methodLink RL 19 yX9_feed ∈ lw_tbl := by decide +kernel
set_option maxRecDepth 20000 in
theorem lwm_210 : Cond.instanceMethod yX9_feed ∈ lw_tbl := by decide +kernel
set_option maxRecDepth 20000 in
theorem lwm_211 : Cond.selects RX9 yX9_feed yX9_feed ∈ lw_tbl := by decide +kernel
set_option maxRecDepth 20000 in
theorem lwm_212 : Cond.code yX9_feed cX9_feed 5 (some .int) ∈ lw_tbl := List.mem_of_getElem? (i := 845) rfl
set_option maxRecDepth 20000 in
theorem lwm_213 : Cond.fieldLink RX9 219 "LeadSheetsModel" "taped" "I" ∈ lw_tbl := by decide +kernel
set_option maxRecDepth 20000 in
theorem lwm_214 : Cond.methodLink RL 20 yX8_chord ∈ lw_tbl := by decide +kernel
set_option maxRecDepth 20000 in
theorem lwm_215 : Cond.instanceMethod yX8_chord ∈ lw_tbl := by decide +kernel
set_option maxRecDepth 20000 in
theorem lwm_216 : Cond.selects RX8 yX8_chord yX8_chord ∈ lw_tbl := by decide +kernel
set_option maxRecDepth 20000 in
theorem lwm_217 : Cond.code yX8_chord cX8_chord 3 (some .int) ∈ lw_tbl := List.mem_of_getElem? (i := 209) rfl
set_option maxRecDepth 20000 in
theorem lwm_218 : Cond.selects RX5 yX5_readLongest yX5_readLongest ∈ lw_tbl := by decide +kernel
set_option maxRecDepth 20000 in
theorem lwm_219 : Cond.instanceMethod yX5_readLongest ∈ lw_tbl := by decide +kernel
set_option maxRecDepth 20000 in
theorem lwm_220 : Cond.methodLink RX5 51 yX5_readLongest ∈ lw_tbl := by decide +kernel
set_option maxRecDepth 20000 in
theorem lwm_221 : Cond.code yX5_byteAt cX5_byteAt 2 (some .int) ∈ lw_tbl := List.mem_of_getElem? (i := 221) rfl
set_option maxRecDepth 20000 in
theorem lwm_222 : Cond.selects RX5 yX5_byteAt yX5_byteAt ∈ lw_tbl := by decide +kernel
set_option maxRecDepth 20000 in
theorem lwm_223 : Cond.instanceMethod yX5_byteAt ∈ lw_tbl := by decide +kernel
set_option maxRecDepth 20000 in
theorem lwm_224 : Cond.methodLink RX5 43 yX5_byteAt ∈ lw_tbl := by decide +kernel
set_option maxRecDepth 20000 in
theorem lwm_225 : Cond.code yX5_readNote cX5_readNote 3 (some .int) ∈ lw_tbl := List.mem_of_getElem? (i := 217) rfl
set_option maxRecDepth 20000 in
theorem lwm_226 : Cond.selects RX5 yX5_readNote yX5_readNote ∈ lw_tbl := by decide +kernel
set_option maxRecDepth 20000 in
theorem lwm_227 : Cond.instanceMethod yX5_readNote ∈ lw_tbl := by decide +kernel
set_option maxRecDepth 20000 in
theorem lwm_228 : Cond.methodLink RX5 24 yX5_readNote ∈ lw_tbl := by decide +kernel
set_option maxRecDepth 20000 in
theorem lwm_229 : Cond.initialized RX1 ∈ lw_tbl := by decide +kernel
set_option maxRecDepth 20000 in
theorem lwm_230 : Cond.instantiable RX1 4 ∈ lw_tbl := by decide +kernel
set_option maxRecDepth 20000 in
theorem lwm_231 : Cond.classLink RX5 38 RX1 ∈ lw_tbl := by decide +kernel
set_option maxRecDepth 20000 in
theorem lwm_232 : Cond.fieldLink RX5 31 "LeadSheets$Tape" "steps" "I" ∈ lw_tbl := by decide +kernel
set_option maxRecDepth 20000 in
theorem lwm_233 : Cond.fieldLink RX5 21 "LeadSheets$Tape" "place" "I" ∈ lw_tbl := by decide +kernel
set_option maxRecDepth 20000 in
theorem lwm_234 : Cond.code yX5_read cX5_read 3 (some (.object "LeadSheets$Chord")) ∈ lw_tbl := List.mem_of_getElem? (i := 213) rfl
set_option maxRecDepth 20000 in
theorem lwm_235 : Cond.selects RX5 yX5_read yX5_read ∈ lw_tbl := by decide +kernel
set_option maxRecDepth 20000 in
theorem lwm_236 : Cond.instanceMethod yX5_read ∈ lw_tbl := by decide +kernel
set_option maxRecDepth 20000 in
theorem lwm_237 : Cond.methodLink RX8 47 yX5_read ∈ lw_tbl := by decide +kernel
set_option maxRecDepth 20000 in
theorem lwm_238 : Cond.initialized RJ1 ∈ lw_tbl := by decide +kernel
set_option maxRecDepth 20000 in
theorem lwm_239 : Cond.static yJ1_charAt_3b067 ∈ lw_tbl := by decide +kernel
set_option maxRecDepth 20000 in
theorem lwm_240 : Cond.methodLink RJ0 495 yJ1_charAt_3b067 ∈ lw_tbl := by decide +kernel
set_option maxRecDepth 20000 in
theorem lwm_241 : Cond.code yJ0_isLatin1_aae02 cJ0_isLatin1_aae02 1 (some .boolean) ∈ lw_tbl := List.mem_of_getElem? (i := 244) rfl
set_option maxRecDepth 20000 in
theorem lwm_242 : Cond.selects RJ0 yJ0_isLatin1_aae02 yJ0_isLatin1_aae02 ∈ lw_tbl := by decide +kernel
set_option maxRecDepth 20000 in
theorem lwm_243 : Cond.instanceMethod yJ0_isLatin1_aae02 ∈ lw_tbl := by decide +kernel
set_option maxRecDepth 20000 in
theorem lwm_244 : Cond.methodLink RJ0 492 yJ0_isLatin1_aae02 ∈ lw_tbl := by decide +kernel
set_option maxRecDepth 20000 in
theorem lwm_245 : Cond.code yJ0_charAt_5068e cJ0_charAt_5068e 2 (some .char) ∈ lw_tbl := List.mem_of_getElem? (i := 240) rfl
set_option maxRecDepth 20000 in
theorem lwm_246 : Cond.selects RJ0 yJ0_charAt_5068e yJ0_charAt_5068e ∈ lw_tbl := by decide +kernel
set_option maxRecDepth 20000 in
theorem lwm_247 : Cond.instanceMethod yJ0_charAt_5068e ∈ lw_tbl := by decide +kernel
set_option maxRecDepth 20000 in
theorem lwm_248 : Cond.methodLink RX5 99 yJ0_charAt_5068e ∈ lw_tbl := by decide +kernel
set_option maxRecDepth 20000 in
theorem lwm_249 : Cond.fieldLink RJ0 15 "java/lang/String" "coder" "B" ∈ lw_tbl := by decide +kernel
set_option maxRecDepth 20000 in
theorem lwm_250 : Cond.fieldLink RJ0 38 "java/lang/String" "COMPACT_STRINGS" "Z" ∈ lw_tbl := by decide +kernel
set_option maxRecDepth 20000 in
theorem lwm_251 : Cond.code yJ0_coder_7d493 cJ0_coder_7d493 1 (some .byte) ∈ lw_tbl := List.mem_of_getElem? (i := 234) rfl
set_option maxRecDepth 20000 in
theorem lwm_252 : Cond.selects RJ0 yJ0_coder_7d493 yJ0_coder_7d493 ∈ lw_tbl := by decide +kernel
set_option maxRecDepth 20000 in
theorem lwm_253 : Cond.instanceMethod yJ0_coder_7d493 ∈ lw_tbl := by decide +kernel
set_option maxRecDepth 20000 in
theorem lwm_254 : Cond.methodLink RJ0 335 yJ0_coder_7d493 ∈ lw_tbl := by decide +kernel
set_option maxRecDepth 20000 in
theorem lwm_255 : Cond.fieldLink RJ0 9 "java/lang/String" "value" "[B" ∈ lw_tbl := by decide +kernel
set_option maxRecDepth 20000 in
theorem lwm_256 : Cond.code yJ0_length_8abf5 cJ0_length_8abf5 1 (some .int) ∈ lw_tbl := List.mem_of_getElem? (i := 230) rfl
set_option maxRecDepth 20000 in
theorem lwm_257 : Cond.initialized RJ0 ∈ lw_tbl := by decide +kernel
set_option maxRecDepth 20000 in
theorem lwm_258 : Cond.selects RJ0 yJ0_length_8abf5 yJ0_length_8abf5 ∈ lw_tbl := by decide +kernel
set_option maxRecDepth 20000 in
theorem lwm_259 : Cond.instanceMethod yJ0_length_8abf5 ∈ lw_tbl := by decide +kernel
set_option maxRecDepth 20000 in
theorem lwm_260 : Cond.methodLink RX5 95 yJ0_length_8abf5 ∈ lw_tbl := by decide +kernel
set_option maxRecDepth 20000 in
theorem lwm_261 : Cond.code yX5_readLongest cX5_readLongest 7 (some .int) ∈ lw_tbl := List.mem_of_getElem? (i := 226) rfl
set_option maxRecDepth 20000 in
theorem lwm_262 : Cond.fieldLink RJ2 44 "java/lang/StringUTF16" "$assertionsDisabled" "Z" ∈ lw_tbl := by decide +kernel
set_option maxRecDepth 20000 in
theorem lwm_263 : Cond.code yJ2_getChar_3b067 cJ2_getChar_3b067 2 (some .char) ∈ lw_tbl := List.mem_of_getElem? (i := 268) rfl
set_option maxRecDepth 20000 in
theorem lwm_264 : Cond.static yJ2_getChar_3b067 ∈ lw_tbl := by decide +kernel
set_option maxRecDepth 20000 in
theorem lwm_265 : Cond.methodLink RJ2 71 yJ2_getChar_3b067 ∈ lw_tbl := by decide +kernel
set_option maxRecDepth 20000 in
theorem lwm_266 : Cond.methodLink RJ2 414 yJ0_checkIndex_df160 ∈ lw_tbl := by decide +kernel
set_option maxRecDepth 20000 in
theorem lwm_267 : Cond.code yJ2_length_9d52b cJ2_length_9d52b 1 (some .int) ∈ lw_tbl := List.mem_of_getElem? (i := 264) rfl
set_option maxRecDepth 20000 in
theorem lwm_268 : Cond.static yJ2_length_9d52b ∈ lw_tbl := by decide +kernel
set_option maxRecDepth 20000 in
theorem lwm_269 : Cond.methodLink RJ2 48 yJ2_length_9d52b ∈ lw_tbl := by decide +kernel
set_option maxRecDepth 20000 in
theorem lwm_270 : Cond.code yJ2_checkIndex_2214a cJ2_checkIndex_2214a 2 none ∈ lw_tbl := List.mem_of_getElem? (i := 261) rfl
set_option maxRecDepth 20000 in
theorem lwm_271 : Cond.static yJ2_checkIndex_2214a ∈ lw_tbl := by decide +kernel
set_option maxRecDepth 20000 in
theorem lwm_272 : Cond.methodLink RJ2 67 yJ2_checkIndex_2214a ∈ lw_tbl := by decide +kernel
set_option maxRecDepth 20000 in
theorem lwm_273 : Cond.code yJ2_charAt_3b067 cJ2_charAt_3b067 2 (some .char) ∈ lw_tbl := List.mem_of_getElem? (i := 258) rfl
set_option maxRecDepth 20000 in
theorem lwm_274 : Cond.initialized RJ2 ∈ lw_tbl := by decide +kernel
set_option maxRecDepth 20000 in
theorem lwm_275 : Cond.static yJ2_charAt_3b067 ∈ lw_tbl := by decide +kernel
set_option maxRecDepth 20000 in
theorem lwm_276 : Cond.methodLink RJ0 498 yJ2_charAt_3b067 ∈ lw_tbl := by decide +kernel
set_option maxRecDepth 20000 in
theorem lwm_277 : Cond.code yJ3_checkIndex_8e157 cJ3_checkIndex_8e157 3 (some .int) ∈ lw_tbl := List.mem_of_getElem? (i := 255) rfl
set_option maxRecDepth 20000 in
theorem lwm_278 : Cond.initialized RJ3 ∈ lw_tbl := by decide +kernel
set_option maxRecDepth 20000 in
theorem lwm_279 : Cond.static yJ3_checkIndex_8e157 ∈ lw_tbl := by decide +kernel
set_option maxRecDepth 20000 in
theorem lwm_280 : Cond.methodLink RJ0 1059 yJ3_checkIndex_8e157 ∈ lw_tbl := by decide +kernel
set_option maxRecDepth 20000 in
theorem lwm_281 : Cond.fieldLink RJ0 1053 "jdk/internal/util/Preconditions" "SIOOBE_FORMATTER" "Ljava/util/function/BiFunction;" ∈ lw_tbl := by decide +kernel
set_option maxRecDepth 20000 in
theorem lwm_282 : Cond.code yJ0_checkIndex_df160 cJ0_checkIndex_df160 2 none ∈ lw_tbl := List.mem_of_getElem? (i := 250) rfl
set_option maxRecDepth 20000 in
theorem lwm_283 : Cond.static yJ0_checkIndex_df160 ∈ lw_tbl := by decide +kernel
set_option maxRecDepth 20000 in
theorem lwm_284 : Cond.methodLink RJ1 9 yJ0_checkIndex_df160 ∈ lw_tbl := by decide +kernel
set_option maxRecDepth 20000 in
theorem lwm_285 : Cond.code yJ1_charAt_3b067 cJ1_charAt_3b067 2 (some .char) ∈ lw_tbl := List.mem_of_getElem? (i := 247) rfl
set_option maxRecDepth 20000 in
theorem lwm_286 : Cond.methodLink RX5 34 yX5_readChanges ∈ lw_tbl := by decide +kernel
set_option maxRecDepth 20000 in
theorem lwm_287 : Cond.code yX5_readKind cX5_readKind 3 (some .int) ∈ lw_tbl := List.mem_of_getElem? (i := 289) rfl
set_option maxRecDepth 20000 in
theorem lwm_288 : Cond.selects RX5 yX5_readKind yX5_readKind ∈ lw_tbl := by decide +kernel
set_option maxRecDepth 20000 in
theorem lwm_289 : Cond.instanceMethod yX5_readKind ∈ lw_tbl := by decide +kernel
set_option maxRecDepth 20000 in
theorem lwm_290 : Cond.methodLink RX5 61 yX5_readKind ∈ lw_tbl := by decide +kernel
set_option maxRecDepth 20000 in
theorem lwm_291 : Cond.fieldLink RX5 73 "LeadSheets$Tape" "SIZE_STEPS" "[I" ∈ lw_tbl := by decide +kernel
set_option maxRecDepth 20000 in
theorem lwm_292 : Cond.fieldLink RX5 66 "LeadSheets$Tape" "KIND_STEPS" "[I" ∈ lw_tbl := by decide +kernel
set_option maxRecDepth 20000 in
theorem lwm_293 : Cond.code yX5_readKindAndSize cX5_readKindAndSize 5 (some .int) ∈ lw_tbl := List.mem_of_getElem? (i := 285) rfl
set_option maxRecDepth 20000 in
theorem lwm_294 : Cond.selects RX5 yX5_readKindAndSize yX5_readKindAndSize ∈ lw_tbl := by decide +kernel
set_option maxRecDepth 20000 in
theorem lwm_295 : Cond.instanceMethod yX5_readKindAndSize ∈ lw_tbl := by decide +kernel
set_option maxRecDepth 20000 in
theorem lwm_296 : Cond.methodLink RX5 28 yX5_readKindAndSize ∈ lw_tbl := by decide +kernel
set_option maxRecDepth 20000 in
theorem lwm_297 : Cond.code yX3_note cX3_note 2 (some .int) ∈ lw_tbl := List.mem_of_getElem? (i := 281) rfl
set_option maxRecDepth 20000 in
theorem lwm_298 : Cond.initialized RX3 ∈ lw_tbl := by decide +kernel
set_option maxRecDepth 20000 in
theorem lwm_299 : Cond.static yX3_note ∈ lw_tbl := by decide +kernel
set_option maxRecDepth 20000 in
theorem lwm_300 : Cond.methodLink RX5 57 yX3_note ∈ lw_tbl := by decide +kernel
set_option maxRecDepth 20000 in
theorem lwm_301 : Cond.code yX5_stands cX5_stands 5 (some .boolean) ∈ lw_tbl := List.mem_of_getElem? (i := 278) rfl
set_option maxRecDepth 20000 in
theorem lwm_302 : Cond.selects RX5 yX5_stands yX5_stands ∈ lw_tbl := by decide +kernel
set_option maxRecDepth 20000 in
theorem lwm_303 : Cond.instanceMethod yX5_stands ∈ lw_tbl := by decide +kernel
set_option maxRecDepth 20000 in
theorem lwm_304 : Cond.methodLink RX5 103 yX5_stands ∈ lw_tbl := by decide +kernel
set_option maxRecDepth 20000 in
theorem lwm_305 : Cond.fieldLink RJ2 63 "java/lang/StringUTF16" "LO_BYTE_SHIFT" "I" ∈ lw_tbl := by decide +kernel
set_option maxRecDepth 20000 in
theorem lwm_306 : Cond.fieldLink RJ2 59 "java/lang/StringUTF16" "HI_BYTE_SHIFT" "I" ∈ lw_tbl := by decide +kernel
set_option maxRecDepth 20000 in
theorem lwm_307 : Cond.code yX5_clear cX5_clear 1 none ∈ lw_tbl := List.mem_of_getElem? (i := 339) rfl
set_option maxRecDepth 20000 in
theorem lwm_308 : Cond.selects RX5 yX5_clear yX5_clear ∈ lw_tbl := by decide +kernel
set_option maxRecDepth 20000 in
theorem lwm_309 : Cond.instanceMethod yX5_clear ∈ lw_tbl := by decide +kernel
set_option maxRecDepth 20000 in
theorem lwm_310 : Cond.methodLink RX8 55 yX5_clear ∈ lw_tbl := by decide +kernel
set_option maxRecDepth 20000 in
theorem lwm_311 : Cond.fieldLink RX1 21 "LeadSheets$Chord" "slashed" "Z" ∈ lw_tbl := by decide +kernel
set_option maxRecDepth 20000 in
theorem lwm_312 : Cond.fieldLink RX1 18 "LeadSheets$Chord" "bass" "I" ∈ lw_tbl := by decide +kernel
set_option maxRecDepth 20000 in
theorem lwm_313 : Cond.fieldLink RX1 15 "LeadSheets$Chord" "steps" "I" ∈ lw_tbl := by decide +kernel
set_option maxRecDepth 20000 in
theorem lwm_314 : Cond.fieldLink RX1 9 "LeadSheets$Chord" "root" "I" ∈ lw_tbl := by decide +kernel
set_option maxRecDepth 20000 in
theorem lwm_315 : Cond.methodLink RX1 3 objectInit ∈ lw_tbl := by decide +kernel
set_option maxRecDepth 20000 in
theorem lwm_316 : Cond.code yX1_init cX1_init 5 none ∈ lw_tbl := List.mem_of_getElem? (i := 316) rfl
set_option maxRecDepth 20000 in
theorem lwm_317 : Cond.instanceMethod yX1_init ∈ lw_tbl := by decide +kernel
set_option maxRecDepth 20000 in
theorem lwm_318 : Cond.methodLink RX5 40 yX1_init ∈ lw_tbl := by decide +kernel
set_option maxRecDepth 20000 in
theorem lwm_319 : Cond.fieldLink RX5 92 "LeadSheets$Tape" "NEEDED" "[I" ∈ lw_tbl := by decide +kernel
set_option maxRecDepth 20000 in
theorem lwm_320 : Cond.code yX5_isWrong cX5_isWrong 4 (some .boolean) ∈ lw_tbl := List.mem_of_getElem? (i := 305) rfl
set_option maxRecDepth 20000 in
theorem lwm_321 : Cond.selects RX5 yX5_isWrong yX5_isWrong ∈ lw_tbl := by decide +kernel
set_option maxRecDepth 20000 in
theorem lwm_322 : Cond.instanceMethod yX5_isWrong ∈ lw_tbl := by decide +kernel
set_option maxRecDepth 20000 in
theorem lwm_323 : Cond.methodLink RX5 82 yX5_isWrong ∈ lw_tbl := by decide +kernel
set_option maxRecDepth 20000 in
theorem lwm_324 : Cond.fieldLink RX5 89 "LeadSheets$Tape" "BROUGHT" "[I" ∈ lw_tbl := by decide +kernel
set_option maxRecDepth 20000 in
theorem lwm_325 : Cond.fieldLink RX5 86 "LeadSheets$Tape" "TAKEN" "[I" ∈ lw_tbl := by decide +kernel
set_option maxRecDepth 20000 in
theorem lwm_326 : Cond.code yX5_readChanges cX5_readChanges 4 (some .boolean) ∈ lw_tbl := List.mem_of_getElem? (i := 300) rfl
set_option maxRecDepth 20000 in
theorem lwm_327 : Cond.selects RX5 yX5_readChanges yX5_readChanges ∈ lw_tbl := by decide +kernel
set_option maxRecDepth 20000 in
theorem lwm_328 : Cond.instanceMethod yX5_readChanges ∈ lw_tbl := by decide +kernel
set_option maxRecDepth 20000 in
theorem lwm_329 : Cond.fieldLink RX8 146 "LeadSheets" "chordCount" "I" ∈ lw_tbl := by decide +kernel
set_option maxRecDepth 20000 in
theorem lwm_330 : Cond.code yX8_keep cX8_keep 2 (some .int) ∈ lw_tbl := List.mem_of_getElem? (i := 343) rfl
set_option maxRecDepth 20000 in
theorem lwm_331 : Cond.selects RX8 yX8_keep yX8_keep ∈ lw_tbl := by decide +kernel
set_option maxRecDepth 20000 in
theorem lwm_332 : Cond.instanceMethod yX8_keep ∈ lw_tbl := by decide +kernel
set_option maxRecDepth 20000 in
theorem lwm_333 : Cond.methodLink RX8 58 yX8_keep ∈ lw_tbl := by decide +kernel
set_option maxRecDepth 20000 in
theorem lwm_334 : Cond.methodLink RL 24 yX9_chord ∈ lw_tbl := by decide +kernel
set_option maxRecDepth 20000 in
theorem lwm_335 : Cond.instanceMethod yX9_chord ∈ lw_tbl := by decide +kernel
set_option maxRecDepth 20000 in
theorem lwm_336 : Cond.selects RX9 yX9_chord yX9_chord ∈ lw_tbl := by decide +kernel
set_option maxRecDepth 20000 in
theorem lwm_337 : Cond.code yX9_chord cX9_chord 6 (some .int) ∈ lw_tbl := List.mem_of_getElem? (i := 849) rfl
set_option maxRecDepth 20000 in
theorem lwm_338 : Cond.code yX9_note cX9_note 3 (some .boolean) ∈ lw_tbl := List.mem_of_getElem? (i := 853) rfl
set_option maxRecDepth 20000 in
theorem lwm_339 : Cond.selects RX9 yX9_note yX9_note ∈ lw_tbl := by decide +kernel
set_option maxRecDepth 20000 in
theorem lwm_340 : Cond.instanceMethod yX9_note ∈ lw_tbl := by decide +kernel
set_option maxRecDepth 20000 in
theorem lwm_341 : Cond.methodLink RX9 261 yX9_note ∈ lw_tbl := by decide +kernel
set_option maxRecDepth 20000 in
theorem lwm_342 : Cond.fieldLink RX9 265 "LeadSheetsModel" "chords" "I" ∈ lw_tbl := by decide +kernel
set_option maxRecDepth 20000 in
theorem lwm_343 : Cond.fieldLink RX9 258 "LeadSheetsModel" "signs" "I" ∈ lw_tbl := by decide +kernel
set_option maxRecDepth 20000 in
theorem lwm_344 : Cond.fieldLink RX9 255 "LeadSheetsModel" "letter" "I" ∈ lw_tbl := by decide +kernel
set_option maxRecDepth 20000 in
theorem lwm_345 : Cond.code yX9_laid cX9_laid 7 (some .int) ∈ lw_tbl := List.mem_of_getElem? (i := 857) rfl
set_option maxRecDepth 20000 in
theorem lwm_346 : Cond.selects RX9 yX9_laid yX9_laid ∈ lw_tbl := by decide +kernel
set_option maxRecDepth 20000 in
theorem lwm_347 : Cond.instanceMethod yX9_laid ∈ lw_tbl := by decide +kernel
set_option maxRecDepth 20000 in
theorem lwm_348 : Cond.methodLink RX9 268 yX9_laid ∈ lw_tbl := by decide +kernel
set_option maxRecDepth 20000 in
theorem lwm_349 : Cond.methodLink RL 25 yX8_of ∈ lw_tbl := by decide +kernel
set_option maxRecDepth 20000 in
theorem lwm_350 : Cond.instanceMethod yX8_of ∈ lw_tbl := by decide +kernel
set_option maxRecDepth 20000 in
theorem lwm_351 : Cond.selects RX8 yX8_of yX8_of ∈ lw_tbl := by decide +kernel
set_option maxRecDepth 20000 in
theorem lwm_352 : Cond.code yX8_of cX8_of 4 (some .int) ∈ lw_tbl := List.mem_of_getElem? (i := 347) rfl
set_option maxRecDepth 20000 in
theorem lwm_353 : Cond.fieldLink RX3 27 "LeadSheets$Notes" "LETTER_PITCHES" "[I" ∈ lw_tbl := by decide +kernel
set_option maxRecDepth 20000 in
theorem lwm_354 : Cond.code yX3_letterPitch cX3_letterPitch 1 (some .int) ∈ lw_tbl := List.mem_of_getElem? (i := 360) rfl
set_option maxRecDepth 20000 in
theorem lwm_355 : Cond.static yX3_letterPitch ∈ lw_tbl := by decide +kernel
set_option maxRecDepth 20000 in
theorem lwm_356 : Cond.methodLink RX3 15 yX3_letterPitch ∈ lw_tbl := by decide +kernel
set_option maxRecDepth 20000 in
theorem lwm_357 : Cond.code yX3_letter cX3_letter 1 (some .int) ∈ lw_tbl := List.mem_of_getElem? (i := 357) rfl
set_option maxRecDepth 20000 in
theorem lwm_358 : Cond.static yX3_letter ∈ lw_tbl := by decide +kernel
set_option maxRecDepth 20000 in
theorem lwm_359 : Cond.methodLink RX3 9 yX3_letter ∈ lw_tbl := by decide +kernel
set_option maxRecDepth 20000 in
theorem lwm_360 : Cond.code yX3_pitch cX3_pitch 1 (some .int) ∈ lw_tbl := List.mem_of_getElem? (i := 354) rfl
set_option maxRecDepth 20000 in
theorem lwm_361 : Cond.static yX3_pitch ∈ lw_tbl := by decide +kernel
set_option maxRecDepth 20000 in
theorem lwm_362 : Cond.methodLink RX8 69 yX3_pitch ∈ lw_tbl := by decide +kernel
set_option maxRecDepth 20000 in
theorem lwm_363 : Cond.code yX8_chordAt cX8_chordAt 2 (some (.object "LeadSheets$Chord")) ∈ lw_tbl := List.mem_of_getElem? (i := 351) rfl
set_option maxRecDepth 20000 in
theorem lwm_364 : Cond.selects RX8 yX8_chordAt yX8_chordAt ∈ lw_tbl := by decide +kernel
set_option maxRecDepth 20000 in
theorem lwm_365 : Cond.instanceMethod yX8_chordAt ∈ lw_tbl := by decide +kernel
set_option maxRecDepth 20000 in
theorem lwm_366 : Cond.methodLink RX8 62 yX8_chordAt ∈ lw_tbl := by decide +kernel
set_option maxRecDepth 20000 in
theorem lwm_367 : Cond.fieldLink RX8 101 "LeadSheets$Chord" "slashed" "Z" ∈ lw_tbl := by decide +kernel
set_option maxRecDepth 20000 in
theorem lwm_368 : Cond.fieldLink RX8 78 "LeadSheets$Chord" "steps" "I" ∈ lw_tbl := by decide +kernel
set_option maxRecDepth 20000 in
theorem lwm_369 : Cond.fieldLink RX8 75 "LeadSheets$Chord" "bass" "I" ∈ lw_tbl := by decide +kernel
set_option maxRecDepth 20000 in
theorem lwm_370 : Cond.fieldLink RX8 66 "LeadSheets$Chord" "root" "I" ∈ lw_tbl := by decide +kernel
set_option maxRecDepth 20000 in
theorem lwm_371 : Cond.methodLink RX1 36 yX4_set ∈ lw_tbl := by decide +kernel
set_option maxRecDepth 20000 in
theorem lwm_372 : Cond.methodLink RX1 31 yX3_pitch ∈ lw_tbl := by decide +kernel
set_option maxRecDepth 20000 in
theorem lwm_373 : Cond.code yX1_pitches cX1_pitches 1 (some .int) ∈ lw_tbl := List.mem_of_getElem? (i := 379) rfl
set_option maxRecDepth 20000 in
theorem lwm_374 : Cond.selects RX1 yX1_pitches yX1_pitches ∈ lw_tbl := by decide +kernel
set_option maxRecDepth 20000 in
theorem lwm_375 : Cond.instanceMethod yX1_pitches ∈ lw_tbl := by decide +kernel
set_option maxRecDepth 20000 in
theorem lwm_376 : Cond.methodLink RX8 86 yX1_pitches ∈ lw_tbl := by decide +kernel
set_option maxRecDepth 20000 in
theorem lwm_377 : Cond.constant RJ6 267 (252645135) ∈ lw_tbl := by decide +kernel
set_option maxRecDepth 20000 in
theorem lwm_378 : Cond.constant RJ6 266 (858993459) ∈ lw_tbl := by decide +kernel
set_option maxRecDepth 20000 in
theorem lwm_379 : Cond.constant RJ6 265 (1431655765) ∈ lw_tbl := by decide +kernel
set_option maxRecDepth 20000 in
theorem lwm_380 : Cond.code yJ6_bitCount_0f7a4 cJ6_bitCount_0f7a4 1 (some .int) ∈ lw_tbl := List.mem_of_getElem? (i := 372) rfl
set_option maxRecDepth 20000 in
theorem lwm_381 : Cond.initialized RJ6 ∈ lw_tbl := by decide +kernel
set_option maxRecDepth 20000 in
theorem lwm_382 : Cond.static yJ6_bitCount_0f7a4 ∈ lw_tbl := by decide +kernel
set_option maxRecDepth 20000 in
theorem lwm_383 : Cond.methodLink RX8 81 yJ6_bitCount_0f7a4 ∈ lw_tbl := by decide +kernel
set_option maxRecDepth 20000 in
theorem lwm_384 : Cond.code yJ9_floorMod_7cf53 cJ9_floorMod_7cf53 3 (some .int) ∈ lw_tbl := List.mem_of_getElem? (i := 369) rfl
set_option maxRecDepth 20000 in
theorem lwm_385 : Cond.initialized RJ9 ∈ lw_tbl := by decide +kernel
