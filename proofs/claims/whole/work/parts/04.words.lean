theorem wd_0 : (.selects RX0 yX0_areaSize yX0_areaSize : Cond) ∈ wG := wd_in 0 (by decide +kernel) rfl
theorem wd_2 : (.selects RX0 yX0_isArgument yX0_isArgument : Cond) ∈ wG := wd_in 2 (by decide +kernel) rfl
theorem wd_3 : (.selects RX0 yX0_isAdded yX0_isAdded : Cond) ∈ wG := wd_in 3 (by decide +kernel) rfl
theorem wd_4 : (.selects RX0 yX0_wordsAt yX0_wordsAt : Cond) ∈ wG := wd_in 4 (by decide +kernel) rfl
theorem wd_5 : (.selects RX0 yX0_bytesAt yX0_bytesAt : Cond) ∈ wG := wd_in 5 (by decide +kernel) rfl
theorem wd_6 : (.selects RX0 yX0_isInFraction yX0_isInFraction : Cond) ∈ wG := wd_in 6 (by decide +kernel) rfl
theorem wd_7 : (.selects RX0 yX0_isFractional yX0_isFractional : Cond) ∈ wG := wd_in 7 (by decide +kernel) rfl
theorem wd_8 : (.selects RX0 yX0_fractionOf yX0_fractionOf : Cond) ∈ wG := wd_in 8 (by decide +kernel) rfl
theorem wd_9 : (.selects RX0 yX0_homeAt yX0_homeAt : Cond) ∈ wG := wd_in 9 (by decide +kernel) rfl
theorem wd_10 : (.selects RX0 yX0_resultPlace yX0_resultPlace : Cond) ∈ wG := wd_in 10 (by decide +kernel) rfl
theorem wd_11 : (.selects RX1 yX1_fail yX1_fail : Cond) ∈ wG := wd_in 11 (by decide +kernel) rfl
theorem wd_12 : (.selects RX1 yX1_home yX1_home : Cond) ∈ wG := wd_in 12 (by decide +kernel) rfl
theorem wd_13 : (.selects RX1 yX1_isWide yX1_isWide : Cond) ∈ wG := wd_in 13 (by decide +kernel) rfl
theorem wd_14 : (.selects RX1 yX1_bytes yX1_bytes : Cond) ∈ wG := wd_in 14 (by decide +kernel) rfl
theorem wd_15 : (.selects RX1 yX1_isThere yX1_isThere : Cond) ∈ wG := wd_in 15 (by decide +kernel) rfl
theorem wd_16 : (.selects RX1 yX1_words yX1_words : Cond) ∈ wG := wd_in 16 (by decide +kernel) rfl
theorem wd_17 : (.selects RX1 yX1_isFraction yX1_isFraction : Cond) ∈ wG := wd_in 17 (by decide +kernel) rfl
theorem wd_18 : (.selects RX1 yX1_area yX1_area : Cond) ∈ wG := wd_in 18 (by decide +kernel) rfl
theorem wd_19 : (.selects RX1 yX1_generalAt yX1_generalAt : Cond) ∈ wG := wd_in 19 (by decide +kernel) rfl
theorem wd_20 : (.selects RX1 yX1_fractionsAt yX1_fractionsAt : Cond) ∈ wG := wd_in 20 (by decide +kernel) rfl
theorem wd_21 : (.initialized RL : Cond) ∈ wG := wd_in 21 (by decide +kernel) rfl
theorem wd_22 : (.initialized RX0 : Cond) ∈ wG := wd_in 22 (by decide +kernel) rfl
theorem wd_23 : (.initialized RX1 : Cond) ∈ wG := wd_in 23 (by decide +kernel) rfl
theorem wd_24 : (.initialized "java/lang/Throwable" : Cond) ∈ wG := wd_in 24 (by decide +kernel) rfl
theorem wd_25 : (.initialized "java/lang/Exception" : Cond) ∈ wG := wd_in 25 (by decide +kernel) rfl
theorem wd_26 : (.initialized "java/lang/RuntimeException" : Cond) ∈ wG := wd_in 26 (by decide +kernel) rfl
theorem wd_27 : (.initialized "java/lang/IllegalArgumentException" : Cond) ∈ wG := wd_in 27 (by decide +kernel) rfl
theorem wd_28 : (.initialized "java/lang/IllegalStateException" : Cond) ∈ wG := wd_in 28 (by decide +kernel) rfl
theorem wd_29 : (.initialized "java/lang/IndexOutOfBoundsException" : Cond) ∈ wG := wd_in 29 (by decide +kernel) rfl
theorem wd_30 : (.initialized "java/lang/Math" : Cond) ∈ wG := wd_in 30 (by decide +kernel) rfl
theorem wd_31 : (.initialized RJ0 : Cond) ∈ wG := wd_in 31 (by decide +kernel) rfl
theorem wd_32 : (.classLink RL 8 RX0 : Cond) ∈ wG := wd_in 32 (by decide +kernel) rfl
theorem wd_33 : (.instantiable RX0 14 : Cond) ∈ wG := wd_in 33 (by decide +kernel) rfl
theorem wd_34 : (.methodLink RL 40 yX0_init : Cond) ∈ wG := wd_in 34 (by decide +kernel) rfl
theorem wd_35 : (.instanceMethod yX0_init : Cond) ∈ wG := wd_in 35 (by decide +kernel) rfl
set_option maxRecDepth 20000 in
theorem wd_36 : (.code yX0_init cX0_init 1 none : Cond) ∈ wG := wd_in 36 rfl rfl
theorem wd_37 : (.methodLink RX0 3 objectInit : Cond) ∈ wG := wd_in 37 (by decide +kernel) rfl
theorem wd_38 : (.instanceMethod objectInit : Cond) ∈ wG := wd_in 38 (by decide +kernel) rfl
set_option maxRecDepth 20000 in
theorem wd_39 : (.code objectInit ⟨#[0xb1]⟩ 1 none : Cond) ∈ wG := wd_in 39 rfl rfl
theorem wd_40 : (.fieldLink RX0 9 "CallFrames" "kinds" "[I" : Cond) ∈ wG := wd_in 40 (by decide +kernel) rfl
theorem wd_41 : (.fieldLink RX0 13 "CallFrames" "homes" "[I" : Cond) ∈ wG := wd_in 41 (by decide +kernel) rfl
theorem wd_42 : (.fieldLink RX0 16 "CallFrames" "bytes" "[I" : Cond) ∈ wG := wd_in 42 (by decide +kernel) rfl
theorem wd_43 : (.fieldLink RX0 19 "CallFrames" "count" "I" : Cond) ∈ wG := wd_in 43 (by decide +kernel) rfl
theorem wd_44 : (.fieldLink RX0 23 "CallFrames" "result" "I" : Cond) ∈ wG := wd_in 44 (by decide +kernel) rfl
theorem wd_45 : (.fieldLink RX0 26 "CallFrames" "open" "Z" : Cond) ∈ wG := wd_in 45 (by decide +kernel) rfl
theorem wd_46 : (.fieldLink RX0 30 "CallFrames" "end" "I" : Cond) ∈ wG := wd_in 46 (by decide +kernel) rfl
theorem wd_47 : (.fieldLink RX0 33 "CallFrames" "calls" "I" : Cond) ∈ wG := wd_in 47 (by decide +kernel) rfl
theorem wd_48 : (.fieldLink RX0 36 "CallFrames" "greatestArea" "I" : Cond) ∈ wG := wd_in 48 (by decide +kernel) rfl
theorem wd_49 : (.fieldLink RX0 39 "CallFrames" "localsPlace" "I" : Cond) ∈ wG := wd_in 49 (by decide +kernel) rfl
theorem wd_50 : (.fieldLink RX0 42 "CallFrames" "fractionsPlace" "I" : Cond) ∈ wG := wd_in 50 (by decide +kernel) rfl
theorem wd_51 : (.fieldLink RX0 45 "CallFrames" "generalPlace" "I" : Cond) ∈ wG := wd_in 51 (by decide +kernel) rfl
theorem wd_52 : (.fieldLink RX0 48 "CallFrames" "savedGeneral" "I" : Cond) ∈ wG := wd_in 52 (by decide +kernel) rfl
theorem wd_53 : (.fieldLink RX0 51 "CallFrames" "savedFractions" "I" : Cond) ∈ wG := wd_in 53 (by decide +kernel) rfl
theorem wd_83 : (.arrayClass .int : Cond) ∈ wG := wd_in 83 (by decide +kernel) rfl
theorem wd_84 : (.methodLink RL 69 yX0_call : Cond) ∈ wG := wd_in 84 (by decide +kernel) rfl
theorem wd_85 : (.instanceMethod yX0_call : Cond) ∈ wG := wd_in 85 (by decide +kernel) rfl
theorem wd_86 : (.selects RX0 yX0_call yX0_call : Cond) ∈ wG := wd_in 86 (by decide +kernel) rfl
set_option maxRecDepth 20000 in
theorem wd_87 : (.code yX0_call cX0_call 1 (some .int) : Cond) ∈ wG := wd_in 87 rfl rfl
theorem wd_88 : (.methodLink RX0 119 yX0_areaSize : Cond) ∈ wG := wd_in 88 (by decide +kernel) rfl
theorem wd_90 : (.instanceMethod yX0_areaSize : Cond) ∈ wG := wd_in 90 (by decide +kernel) rfl
set_option maxRecDepth 20000 in
theorem wd_91 : (.code yX0_areaSize cX0_areaSize 1 (some .int) : Cond) ∈ wG := wd_in 91 rfl rfl
theorem wd_92 : (.methodLink RX0 81 yX0_fill : Cond) ∈ wG := wd_in 92 (by decide +kernel) rfl
theorem wd_93 : (.static yX0_fill : Cond) ∈ wG := wd_in 93 (by decide +kernel) rfl
set_option maxRecDepth 20000 in
theorem wd_94 : (.code yX0_fill cX0_fill 2 (some .int) : Cond) ∈ wG := wd_in 94 rfl rfl
theorem wd_95 : (.methodLink RX0 126 Lib.Math.max.name : Cond) ∈ wG := wd_in 95 (by decide +kernel) rfl
theorem wd_96 : (.static Lib.Math.max.name : Cond) ∈ wG := wd_in 96 (by decide +kernel) rfl
set_option maxRecDepth 20000 in
theorem wd_97 : (.code Lib.Math.max.name Lib.Math.max.code 2 (some .int) : Cond) ∈ wG := wd_in 97 rfl rfl
theorem wd_98 : (.methodLink RL 79 yX0_clear : Cond) ∈ wG := wd_in 98 (by decide +kernel) rfl
theorem wd_99 : (.instanceMethod yX0_clear : Cond) ∈ wG := wd_in 99 (by decide +kernel) rfl
theorem wd_100 : (.selects RX0 yX0_clear yX0_clear : Cond) ∈ wG := wd_in 100 (by decide +kernel) rfl
set_option maxRecDepth 20000 in
theorem wd_101 : (.code yX0_clear cX0_clear 2 (some .int) : Cond) ∈ wG := wd_in 101 rfl rfl
theorem wd_102 : (.methodLink RL 44 yL_begin : Cond) ∈ wG := wd_in 102 (by decide +kernel) rfl
theorem wd_103 : (.static yL_begin : Cond) ∈ wG := wd_in 103 (by decide +kernel) rfl
set_option maxRecDepth 20000 in
theorem wd_104 : (.codeWith yL_begin cL_begin 6 (some .int) [(0, 9, 12, 13)] : Cond) ∈ wG := wd_in 104 rfl rfl
theorem wd_105 : (.classLink RL 13 "java/lang/IllegalArgumentException" : Cond) ∈ wG := wd_in 105 (by decide +kernel) rfl
theorem wd_106 : (.methodLink RL 7 yX0_begin : Cond) ∈ wG := wd_in 106 (by decide +kernel) rfl
theorem wd_107 : (.instanceMethod yX0_begin : Cond) ∈ wG := wd_in 107 (by decide +kernel) rfl
theorem wd_108 : (.selects RX0 yX0_begin yX0_begin : Cond) ∈ wG := wd_in 108 (by decide +kernel) rfl
set_option maxRecDepth 20000 in
theorem wd_109 : (.code yX0_begin cX0_begin 5 none : Cond) ∈ wG := wd_in 109 rfl rfl
theorem wd_110 : (.classLink RX0 54 "java/lang/IllegalArgumentException" : Cond) ∈ wG := wd_in 110 (by decide +kernel) rfl
theorem wd_177 : (.arrayClass .byte : Cond) ∈ wG := wd_in 177 (by decide +kernel) rfl
theorem wd_178 : (.methodLink RX0 61 yX0_isRecord : Cond) ∈ wG := wd_in 178 (by decide +kernel) rfl
theorem wd_179 : (.static yX0_isRecord : Cond) ∈ wG := wd_in 179 (by decide +kernel) rfl
set_option maxRecDepth 20000 in
theorem wd_180 : (.code yX0_isRecord cX0_isRecord 2 (some .boolean) : Cond) ∈ wG := wd_in 180 rfl rfl
theorem wd_181 : (.constant RX0 151 65536 : Cond) ∈ wG := wd_in 181 (by decide +kernel) rfl
theorem wd_183 : (.methodLink RL 54 yL_add : Cond) ∈ wG := wd_in 183 (by decide +kernel) rfl
theorem wd_184 : (.static yL_add : Cond) ∈ wG := wd_in 184 (by decide +kernel) rfl
set_option maxRecDepth 20000 in
theorem wd_185 : (.codeWith yL_add cL_add 6 (some .int) [(0, 12, 15, 13), (0, 12, 19, 19)] : Cond) ∈ wG := wd_in 185 rfl rfl
theorem wd_186 : (.classLink RL 19 "java/lang/IllegalStateException" : Cond) ∈ wG := wd_in 186 (by decide +kernel) rfl
theorem wd_187 : (.methodLink RL 15 yX0_add : Cond) ∈ wG := wd_in 187 (by decide +kernel) rfl
theorem wd_188 : (.instanceMethod yX0_add : Cond) ∈ wG := wd_in 188 (by decide +kernel) rfl
theorem wd_189 : (.selects RX0 yX0_add yX0_add : Cond) ∈ wG := wd_in 189 (by decide +kernel) rfl
set_option maxRecDepth 20000 in
theorem wd_190 : (.code yX0_add cX0_add 7 (some .int) : Cond) ∈ wG := wd_in 190 rfl rfl
theorem wd_192 : (.classLink RX0 69 "java/lang/IllegalStateException" : Cond) ∈ wG := wd_in 192 (by decide +kernel) rfl
theorem wd_208 : (.methodLink RX0 74 yX0_bytesOf : Cond) ∈ wG := wd_in 208 (by decide +kernel) rfl
theorem wd_209 : (.static yX0_bytesOf : Cond) ∈ wG := wd_in 209 (by decide +kernel) rfl
set_option maxRecDepth 20000 in
theorem wd_210 : (.code yX0_bytesOf cX0_bytesOf 2 (some .int) : Cond) ∈ wG := wd_in 210 rfl rfl
theorem wd_211 : (.methodLink RX0 78 yX0_homeAlignment : Cond) ∈ wG := wd_in 211 (by decide +kernel) rfl
theorem wd_212 : (.static yX0_homeAlignment : Cond) ∈ wG := wd_in 212 (by decide +kernel) rfl
set_option maxRecDepth 20000 in
theorem wd_213 : (.code yX0_homeAlignment cX0_homeAlignment 2 (some .int) : Cond) ∈ wG := wd_in 213 rfl rfl
theorem wd_214 : (.constant RX0 84 1000000 : Cond) ∈ wG := wd_in 214 (by decide +kernel) rfl
theorem wd_216 : (.methodLink RL 58 yL_where : Cond) ∈ wG := wd_in 216 (by decide +kernel) rfl
theorem wd_217 : (.static yL_where : Cond) ∈ wG := wd_in 217 (by decide +kernel) rfl
set_option maxRecDepth 20000 in
theorem wd_218 : (.codeWith yL_where cL_where 5 (some .int) [(0, 10, 13, 25)] : Cond) ∈ wG := wd_in 218 rfl rfl
theorem wd_219 : (.classLink RL 25 "java/lang/IndexOutOfBoundsException" : Cond) ∈ wG := wd_in 219 (by decide +kernel) rfl
theorem wd_220 : (.methodLink RL 21 yX0_where : Cond) ∈ wG := wd_in 220 (by decide +kernel) rfl
theorem wd_221 : (.instanceMethod yX0_where : Cond) ∈ wG := wd_in 221 (by decide +kernel) rfl
theorem wd_222 : (.selects RX0 yX0_where yX0_where : Cond) ∈ wG := wd_in 222 (by decide +kernel) rfl
set_option maxRecDepth 20000 in
theorem wd_223 : (.code yX0_where cX0_where 3 (some .int) : Cond) ∈ wG := wd_in 223 rfl rfl
theorem wd_224 : (.methodLink RX0 87 yX0_isArgument : Cond) ∈ wG := wd_in 224 (by decide +kernel) rfl
theorem wd_226 : (.instanceMethod yX0_isArgument : Cond) ∈ wG := wd_in 226 (by decide +kernel) rfl
set_option maxRecDepth 20000 in
theorem wd_227 : (.code yX0_isArgument cX0_isArgument 2 (some .boolean) : Cond) ∈ wG := wd_in 227 rfl rfl
theorem wd_228 : (.methodLink RX0 152 yX0_isAdded : Cond) ∈ wG := wd_in 228 (by decide +kernel) rfl
theorem wd_230 : (.instanceMethod yX0_isAdded : Cond) ∈ wG := wd_in 230 (by decide +kernel) rfl
set_option maxRecDepth 20000 in
theorem wd_231 : (.code yX0_isAdded cX0_isAdded 2 (some .boolean) : Cond) ∈ wG := wd_in 231 rfl rfl
theorem wd_232 : (.classLink RX0 91 "java/lang/IndexOutOfBoundsException" : Cond) ∈ wG := wd_in 232 (by decide +kernel) rfl
theorem wd_248 : (.methodLink RX0 96 yX0_wordsAt : Cond) ∈ wG := wd_in 248 (by decide +kernel) rfl
theorem wd_250 : (.instanceMethod yX0_wordsAt : Cond) ∈ wG := wd_in 250 (by decide +kernel) rfl
set_option maxRecDepth 20000 in
theorem wd_251 : (.code yX0_wordsAt cX0_wordsAt 2 (some .int) : Cond) ∈ wG := wd_in 251 rfl rfl
theorem wd_252 : (.methodLink RX0 114 yX0_bytesAt : Cond) ∈ wG := wd_in 252 (by decide +kernel) rfl
theorem wd_254 : (.instanceMethod yX0_bytesAt : Cond) ∈ wG := wd_in 254 (by decide +kernel) rfl
set_option maxRecDepth 20000 in
theorem wd_255 : (.code yX0_bytesAt cX0_bytesAt 2 (some .int) : Cond) ∈ wG := wd_in 255 rfl rfl
theorem wd_257 : (.methodLink RX0 102 yX0_isInFraction : Cond) ∈ wG := wd_in 257 (by decide +kernel) rfl
theorem wd_259 : (.instanceMethod yX0_isInFraction : Cond) ∈ wG := wd_in 259 (by decide +kernel) rfl
set_option maxRecDepth 20000 in
theorem wd_260 : (.code yX0_isInFraction cX0_isInFraction 2 (some .boolean) : Cond) ∈ wG := wd_in 260 rfl rfl
theorem wd_261 : (.methodLink RX0 155 yX0_isFractional : Cond) ∈ wG := wd_in 261 (by decide +kernel) rfl
theorem wd_263 : (.instanceMethod yX0_isFractional : Cond) ∈ wG := wd_in 263 (by decide +kernel) rfl
set_option maxRecDepth 20000 in
theorem wd_264 : (.code yX0_isFractional cX0_isFractional 2 (some .boolean) : Cond) ∈ wG := wd_in 264 rfl rfl
theorem wd_265 : (.methodLink RX0 105 yX0_fractionOf : Cond) ∈ wG := wd_in 265 (by decide +kernel) rfl
theorem wd_267 : (.instanceMethod yX0_fractionOf : Cond) ∈ wG := wd_in 267 (by decide +kernel) rfl
set_option maxRecDepth 20000 in
theorem wd_268 : (.code yX0_fractionOf cX0_fractionOf 4 (some .int) : Cond) ∈ wG := wd_in 268 rfl rfl
theorem wd_269 : (.methodLink RX0 108 yX0_homeAt : Cond) ∈ wG := wd_in 269 (by decide +kernel) rfl
theorem wd_271 : (.instanceMethod yX0_homeAt : Cond) ∈ wG := wd_in 271 (by decide +kernel) rfl
set_option maxRecDepth 20000 in
theorem wd_272 : (.code yX0_homeAt cX0_homeAt 2 (some .int) : Cond) ∈ wG := wd_in 272 rfl rfl
theorem wd_273 : (.methodLink RX0 111 yX0_registerOrMemory : Cond) ∈ wG := wd_in 273 (by decide +kernel) rfl
theorem wd_274 : (.static yX0_registerOrMemory : Cond) ∈ wG := wd_in 274 (by decide +kernel) rfl
set_option maxRecDepth 20000 in
theorem wd_275 : (.code yX0_registerOrMemory cX0_registerOrMemory 1 (some .int) : Cond) ∈ wG := wd_in 275 rfl rfl
theorem wd_276 : (.methodLink RL 62 yL_about : Cond) ∈ wG := wd_in 276 (by decide +kernel) rfl
theorem wd_277 : (.static yL_about : Cond) ∈ wG := wd_in 277 (by decide +kernel) rfl
set_option maxRecDepth 20000 in
theorem wd_278 : (.codeWith yL_about cL_about 5 (some .int) [(0, 10, 13, 25)] : Cond) ∈ wG := wd_in 278 rfl rfl
theorem wd_279 : (.methodLink RL 27 yX0_about : Cond) ∈ wG := wd_in 279 (by decide +kernel) rfl
theorem wd_280 : (.instanceMethod yX0_about : Cond) ∈ wG := wd_in 280 (by decide +kernel) rfl
theorem wd_281 : (.selects RX0 yX0_about yX0_about : Cond) ∈ wG := wd_in 281 (by decide +kernel) rfl
set_option maxRecDepth 20000 in
theorem wd_282 : (.code yX0_about cX0_about 3 (some .int) : Cond) ∈ wG := wd_in 282 rfl rfl
theorem wd_284 : (.methodLink RL 65 yL_signature : Cond) ∈ wG := wd_in 284 (by decide +kernel) rfl
theorem wd_285 : (.static yL_signature : Cond) ∈ wG := wd_in 285 (by decide +kernel) rfl
set_option maxRecDepth 20000 in
theorem wd_286 : (.codeWith yL_signature cL_signature 4 (some .int) [(0, 9, 12, 25)] : Cond) ∈ wG := wd_in 286 rfl rfl
theorem wd_287 : (.methodLink RL 30 yX0_signature : Cond) ∈ wG := wd_in 287 (by decide +kernel) rfl
theorem wd_288 : (.instanceMethod yX0_signature : Cond) ∈ wG := wd_in 288 (by decide +kernel) rfl
theorem wd_289 : (.selects RX0 yX0_signature yX0_signature : Cond) ∈ wG := wd_in 289 (by decide +kernel) rfl
set_option maxRecDepth 20000 in
theorem wd_290 : (.code yX0_signature cX0_signature 2 (some .int) : Cond) ∈ wG := wd_in 290 rfl rfl
theorem wd_291 : (.methodLink RX0 123 yX0_resultPlace : Cond) ∈ wG := wd_in 291 (by decide +kernel) rfl
theorem wd_293 : (.instanceMethod yX0_resultPlace : Cond) ∈ wG := wd_in 293 (by decide +kernel) rfl
set_option maxRecDepth 20000 in
theorem wd_294 : (.code yX0_resultPlace cX0_resultPlace 1 (some .int) : Cond) ∈ wG := wd_in 294 rfl rfl
theorem wd_295 : (.methodLink RL 73 yL_frame : Cond) ∈ wG := wd_in 295 (by decide +kernel) rfl
theorem wd_296 : (.static yL_frame : Cond) ∈ wG := wd_in 296 (by decide +kernel) rfl
set_option maxRecDepth 20000 in
theorem wd_297 : (.codeWith yL_frame cL_frame 6 (some .int) [(0, 12, 15, 13)] : Cond) ∈ wG := wd_in 297 rfl rfl
theorem wd_298 : (.methodLink RL 34 yX0_frame : Cond) ∈ wG := wd_in 298 (by decide +kernel) rfl
theorem wd_299 : (.instanceMethod yX0_frame : Cond) ∈ wG := wd_in 299 (by decide +kernel) rfl
theorem wd_300 : (.selects RX0 yX0_frame yX0_frame : Cond) ∈ wG := wd_in 300 (by decide +kernel) rfl
set_option maxRecDepth 20000 in
theorem wd_301 : (.code yX0_frame cX0_frame 4 (some .int) : Cond) ∈ wG := wd_in 301 rfl rfl
theorem wd_303 : (.constant RX0 133 1057030143 : Cond) ∈ wG := wd_in 303 (by decide +kernel) rfl
theorem wd_305 : (.constant RX0 136 (-1431306241) : Cond) ∈ wG := wd_in 305 (by decide +kernel) rfl
theorem wd_307 : (.constant RX0 139 (-2147483648) : Cond) ∈ wG := wd_in 307 (by decide +kernel) rfl
theorem wd_308 : (.methodLink RX0 140 yJ0_bitCount : Cond) ∈ wG := wd_in 308 (by decide +kernel) rfl
theorem wd_309 : (.static yJ0_bitCount : Cond) ∈ wG := wd_in 309 (by decide +kernel) rfl
set_option maxRecDepth 20000 in
theorem wd_310 : (.code yJ0_bitCount cJ0_bitCount 1 (some .int) : Cond) ∈ wG := wd_in 310 rfl rfl
theorem wd_311 : (.constant RJ0 265 1431655765 : Cond) ∈ wG := wd_in 311 (by decide +kernel) rfl
theorem wd_312 : (.constant RJ0 266 858993459 : Cond) ∈ wG := wd_in 312 (by decide +kernel) rfl
theorem wd_313 : (.constant RJ0 267 252645135 : Cond) ∈ wG := wd_in 313 (by decide +kernel) rfl
theorem wd_314 : (.methodLink RL 76 yL_place : Cond) ∈ wG := wd_in 314 (by decide +kernel) rfl
theorem wd_315 : (.static yL_place : Cond) ∈ wG := wd_in 315 (by decide +kernel) rfl
set_option maxRecDepth 20000 in
theorem wd_316 : (.codeWith yL_place cL_place 5 (some .int) [(0, 10, 13, 25)] : Cond) ∈ wG := wd_in 316 rfl rfl
theorem wd_317 : (.methodLink RL 37 yX0_place : Cond) ∈ wG := wd_in 317 (by decide +kernel) rfl
theorem wd_318 : (.instanceMethod yX0_place : Cond) ∈ wG := wd_in 318 (by decide +kernel) rfl
theorem wd_319 : (.selects RX0 yX0_place yX0_place : Cond) ∈ wG := wd_in 319 (by decide +kernel) rfl
set_option maxRecDepth 20000 in
theorem wd_320 : (.code yX0_place cX0_place 3 (some .int) : Cond) ∈ wG := wd_in 320 rfl rfl
theorem wd_322 : (.methodLink RX0 147 yX0_savedPlace : Cond) ∈ wG := wd_in 322 (by decide +kernel) rfl
theorem wd_323 : (.static yX0_savedPlace : Cond) ∈ wG := wd_in 323 (by decide +kernel) rfl
set_option maxRecDepth 20000 in
theorem wd_324 : (.code yX0_savedPlace cX0_savedPlace 5 (some .int) : Cond) ∈ wG := wd_in 324 rfl rfl
theorem wd_325 : (.classLink RL 41 RX1 : Cond) ∈ wG := wd_in 325 (by decide +kernel) rfl
theorem wd_326 : (.instantiable RX1 13 : Cond) ∈ wG := wd_in 326 (by decide +kernel) rfl
theorem wd_327 : (.methodLink RL 43 yX1_init : Cond) ∈ wG := wd_in 327 (by decide +kernel) rfl
theorem wd_328 : (.instanceMethod yX1_init : Cond) ∈ wG := wd_in 328 (by decide +kernel) rfl
set_option maxRecDepth 20000 in
theorem wd_329 : (.code yX1_init cX1_init 1 none : Cond) ∈ wG := wd_in 329 rfl rfl
theorem wd_330 : (.methodLink RX1 1 objectInit : Cond) ∈ wG := wd_in 330 (by decide +kernel) rfl
theorem wd_331 : (.fieldLink RX1 23 "CallFramesModel" "thrown" "I" : Cond) ∈ wG := wd_in 331 (by decide +kernel) rfl
theorem wd_332 : (.fieldLink RX1 9 "CallFramesModel" "result" "I" : Cond) ∈ wG := wd_in 332 (by decide +kernel) rfl
theorem wd_333 : (.fieldLink RX1 35 "CallFramesModel" "arguments" "I" : Cond) ∈ wG := wd_in 333 (by decide +kernel) rfl
theorem wd_334 : (.fieldLink RX1 70 "CallFramesModel" "calls" "I" : Cond) ∈ wG := wd_in 334 (by decide +kernel) rfl
theorem wd_335 : (.fieldLink RX1 73 "CallFramesModel" "greatest" "I" : Cond) ∈ wG := wd_in 335 (by decide +kernel) rfl
theorem wd_336 : (.fieldLink RX1 95 "CallFramesModel" "laidGeneral" "I" : Cond) ∈ wG := wd_in 336 (by decide +kernel) rfl
theorem wd_337 : (.fieldLink RX1 85 "CallFramesModel" "laidFractions" "I" : Cond) ∈ wG := wd_in 337 (by decide +kernel) rfl
theorem wd_338 : (.fieldLink RX1 79 "CallFramesModel" "laidLocals" "I" : Cond) ∈ wG := wd_in 338 (by decide +kernel) rfl
theorem wd_339 : (.fieldLink RX1 76 "CallFramesModel" "laidArea" "I" : Cond) ∈ wG := wd_in 339 (by decide +kernel) rfl
theorem wd_340 : (.fieldLink RX1 31 "CallFramesModel" "open" "Z" : Cond) ∈ wG := wd_in 340 (by decide +kernel) rfl
theorem wd_341 : (.fieldLink RX1 13 "CallFramesModel" "kinds" "[I" : Cond) ∈ wG := wd_in 341 (by decide +kernel) rfl
theorem wd_342 : (.fieldLink RX1 17 "CallFramesModel" "sizes" "[I" : Cond) ∈ wG := wd_in 342 (by decide +kernel) rfl
theorem wd_343 : (.fieldLink RX1 20 "CallFramesModel" "alignments" "[I" : Cond) ∈ wG := wd_in 343 (by decide +kernel) rfl
theorem wd_371 : (.methodLink RL 50 yX1_thrown : Cond) ∈ wG := wd_in 371 (by decide +kernel) rfl
theorem wd_372 : (.instanceMethod yX1_thrown : Cond) ∈ wG := wd_in 372 (by decide +kernel) rfl
theorem wd_373 : (.selects RX1 yX1_thrown yX1_thrown : Cond) ∈ wG := wd_in 373 (by decide +kernel) rfl
set_option maxRecDepth 20000 in
theorem wd_374 : (.code yX1_thrown cX1_thrown 1 (some .int) : Cond) ∈ wG := wd_in 374 rfl rfl
theorem wd_375 : (.methodLink RL 49 yX1_begin : Cond) ∈ wG := wd_in 375 (by decide +kernel) rfl
theorem wd_376 : (.instanceMethod yX1_begin : Cond) ∈ wG := wd_in 376 (by decide +kernel) rfl
theorem wd_377 : (.selects RX1 yX1_begin yX1_begin : Cond) ∈ wG := wd_in 377 (by decide +kernel) rfl
set_option maxRecDepth 20000 in
theorem wd_378 : (.code yX1_begin cX1_begin 5 none : Cond) ∈ wG := wd_in 378 rfl rfl
theorem wd_379 : (.methodLink RX1 27 yX1_isGood : Cond) ∈ wG := wd_in 379 (by decide +kernel) rfl
theorem wd_380 : (.static yX1_isGood : Cond) ∈ wG := wd_in 380 (by decide +kernel) rfl
set_option maxRecDepth 20000 in
theorem wd_381 : (.code yX1_isGood cX1_isGood 5 (some .boolean) : Cond) ∈ wG := wd_in 381 rfl rfl
theorem wd_382 : (.constant RX1 26 65536 : Cond) ∈ wG := wd_in 382 (by decide +kernel) rfl
theorem wd_383 : (.methodLink RL 57 yX1_add : Cond) ∈ wG := wd_in 383 (by decide +kernel) rfl
theorem wd_384 : (.instanceMethod yX1_add : Cond) ∈ wG := wd_in 384 (by decide +kernel) rfl
theorem wd_385 : (.selects RX1 yX1_add yX1_add : Cond) ∈ wG := wd_in 385 (by decide +kernel) rfl
set_option maxRecDepth 20000 in
theorem wd_386 : (.code yX1_add cX1_add 5 (some .int) : Cond) ∈ wG := wd_in 386 rfl rfl
theorem wd_387 : (.methodLink RX1 50 yX1_fail : Cond) ∈ wG := wd_in 387 (by decide +kernel) rfl
theorem wd_389 : (.instanceMethod yX1_fail : Cond) ∈ wG := wd_in 389 (by decide +kernel) rfl
set_option maxRecDepth 20000 in
theorem wd_390 : (.code yX1_fail cX1_fail 2 (some .int) : Cond) ∈ wG := wd_in 390 rfl rfl
theorem wd_391 : (.methodLink RX1 53 yX1_home : Cond) ∈ wG := wd_in 391 (by decide +kernel) rfl
theorem wd_393 : (.instanceMethod yX1_home : Cond) ∈ wG := wd_in 393 (by decide +kernel) rfl
set_option maxRecDepth 20000 in
theorem wd_394 : (.code yX1_home cX1_home 4 (some .int) : Cond) ∈ wG := wd_in 394 rfl rfl
theorem wd_395 : (.methodLink RX1 38 yX1_isWide : Cond) ∈ wG := wd_in 395 (by decide +kernel) rfl
theorem wd_397 : (.instanceMethod yX1_isWide : Cond) ∈ wG := wd_in 397 (by decide +kernel) rfl
set_option maxRecDepth 20000 in
theorem wd_398 : (.code yX1_isWide cX1_isWide 2 (some .boolean) : Cond) ∈ wG := wd_in 398 rfl rfl
theorem wd_399 : (.methodLink RX1 42 yX1_filled : Cond) ∈ wG := wd_in 399 (by decide +kernel) rfl
theorem wd_400 : (.static yX1_filled : Cond) ∈ wG := wd_in 400 (by decide +kernel) rfl
set_option maxRecDepth 20000 in
theorem wd_401 : (.code yX1_filled cX1_filled 2 (some .int) : Cond) ∈ wG := wd_in 401 rfl rfl
theorem wd_402 : (.methodLink RX1 46 yX1_bytes : Cond) ∈ wG := wd_in 402 (by decide +kernel) rfl
theorem wd_404 : (.instanceMethod yX1_bytes : Cond) ∈ wG := wd_in 404 (by decide +kernel) rfl
set_option maxRecDepth 20000 in
theorem wd_405 : (.code yX1_bytes cX1_bytes 2 (some .int) : Cond) ∈ wG := wd_in 405 rfl rfl
theorem wd_406 : (.constant RX1 56 1000000 : Cond) ∈ wG := wd_in 406 (by decide +kernel) rfl
theorem wd_407 : (.methodLink RL 61 yX1_where : Cond) ∈ wG := wd_in 407 (by decide +kernel) rfl
theorem wd_408 : (.instanceMethod yX1_where : Cond) ∈ wG := wd_in 408 (by decide +kernel) rfl
theorem wd_409 : (.selects RX1 yX1_where yX1_where : Cond) ∈ wG := wd_in 409 (by decide +kernel) rfl
set_option maxRecDepth 20000 in
theorem wd_410 : (.code yX1_where cX1_where 5 (some .int) : Cond) ∈ wG := wd_in 410 rfl rfl
theorem wd_411 : (.methodLink RX1 57 yX1_isThere : Cond) ∈ wG := wd_in 411 (by decide +kernel) rfl
theorem wd_413 : (.instanceMethod yX1_isThere : Cond) ∈ wG := wd_in 413 (by decide +kernel) rfl
set_option maxRecDepth 20000 in
theorem wd_414 : (.code yX1_isThere cX1_isThere 2 (some .boolean) : Cond) ∈ wG := wd_in 414 rfl rfl
theorem wd_415 : (.methodLink RX1 60 yX1_words : Cond) ∈ wG := wd_in 415 (by decide +kernel) rfl
theorem wd_417 : (.instanceMethod yX1_words : Cond) ∈ wG := wd_in 417 (by decide +kernel) rfl
set_option maxRecDepth 20000 in
theorem wd_418 : (.code yX1_words cX1_words 2 (some .int) : Cond) ∈ wG := wd_in 418 rfl rfl
theorem wd_419 : (.methodLink RX1 63 yX1_isFraction : Cond) ∈ wG := wd_in 419 (by decide +kernel) rfl
theorem wd_421 : (.instanceMethod yX1_isFraction : Cond) ∈ wG := wd_in 421 (by decide +kernel) rfl
set_option maxRecDepth 20000 in
theorem wd_422 : (.code yX1_isFraction cX1_isFraction 2 (some .boolean) : Cond) ∈ wG := wd_in 422 rfl rfl
theorem wd_423 : (.methodLink RL 64 yX1_about : Cond) ∈ wG := wd_in 423 (by decide +kernel) rfl
theorem wd_424 : (.instanceMethod yX1_about : Cond) ∈ wG := wd_in 424 (by decide +kernel) rfl
theorem wd_425 : (.selects RX1 yX1_about yX1_about : Cond) ∈ wG := wd_in 425 (by decide +kernel) rfl
set_option maxRecDepth 20000 in
theorem wd_426 : (.code yX1_about cX1_about 3 (some .int) : Cond) ∈ wG := wd_in 426 rfl rfl
theorem wd_427 : (.methodLink RL 68 yX1_signature : Cond) ∈ wG := wd_in 427 (by decide +kernel) rfl
theorem wd_428 : (.instanceMethod yX1_signature : Cond) ∈ wG := wd_in 428 (by decide +kernel) rfl
theorem wd_429 : (.selects RX1 yX1_signature yX1_signature : Cond) ∈ wG := wd_in 429 (by decide +kernel) rfl
set_option maxRecDepth 20000 in
theorem wd_430 : (.code yX1_signature cX1_signature 3 (some .int) : Cond) ∈ wG := wd_in 430 rfl rfl
theorem wd_431 : (.methodLink RX1 66 yX1_area : Cond) ∈ wG := wd_in 431 (by decide +kernel) rfl
theorem wd_433 : (.instanceMethod yX1_area : Cond) ∈ wG := wd_in 433 (by decide +kernel) rfl
set_option maxRecDepth 20000 in
theorem wd_434 : (.code yX1_area cX1_area 2 (some .int) : Cond) ∈ wG := wd_in 434 rfl rfl
theorem wd_435 : (.methodLink RL 72 yX1_call : Cond) ∈ wG := wd_in 435 (by decide +kernel) rfl
theorem wd_436 : (.instanceMethod yX1_call : Cond) ∈ wG := wd_in 436 (by decide +kernel) rfl
theorem wd_437 : (.selects RX1 yX1_call yX1_call : Cond) ∈ wG := wd_in 437 (by decide +kernel) rfl
set_option maxRecDepth 20000 in
theorem wd_438 : (.code yX1_call cX1_call 1 (some .int) : Cond) ∈ wG := wd_in 438 rfl rfl
theorem wd_439 : (.methodLink RL 75 yX1_frame : Cond) ∈ wG := wd_in 439 (by decide +kernel) rfl
theorem wd_440 : (.instanceMethod yX1_frame : Cond) ∈ wG := wd_in 440 (by decide +kernel) rfl
theorem wd_441 : (.selects RX1 yX1_frame yX1_frame : Cond) ∈ wG := wd_in 441 (by decide +kernel) rfl
set_option maxRecDepth 20000 in
theorem wd_442 : (.code yX1_frame cX1_frame 6 (some .int) : Cond) ∈ wG := wd_in 442 rfl rfl
theorem wd_443 : (.constant RX1 92 (-1057030144) : Cond) ∈ wG := wd_in 443 (by decide +kernel) rfl
theorem wd_444 : (.constant RX1 93 1431306240 : Cond) ∈ wG := wd_in 444 (by decide +kernel) rfl
theorem wd_445 : (.constant RX1 94 (-2147483648) : Cond) ∈ wG := wd_in 445 (by decide +kernel) rfl
theorem wd_446 : (.methodLink RX1 98 yX1_generalAt : Cond) ∈ wG := wd_in 446 (by decide +kernel) rfl
theorem wd_448 : (.instanceMethod yX1_generalAt : Cond) ∈ wG := wd_in 448 (by decide +kernel) rfl
set_option maxRecDepth 20000 in
theorem wd_449 : (.code yX1_generalAt cX1_generalAt 1 (some .int) : Cond) ∈ wG := wd_in 449 rfl rfl
theorem wd_450 : (.methodLink RX1 82 yX1_fractionsAt : Cond) ∈ wG := wd_in 450 (by decide +kernel) rfl
theorem wd_452 : (.instanceMethod yX1_fractionsAt : Cond) ∈ wG := wd_in 452 (by decide +kernel) rfl
set_option maxRecDepth 20000 in
theorem wd_453 : (.code yX1_fractionsAt cX1_fractionsAt 1 (some .int) : Cond) ∈ wG := wd_in 453 rfl rfl
theorem wd_454 : (.methodLink RX1 88 yX1_saved : Cond) ∈ wG := wd_in 454 (by decide +kernel) rfl
theorem wd_455 : (.static yX1_saved : Cond) ∈ wG := wd_in 455 (by decide +kernel) rfl
set_option maxRecDepth 20000 in
theorem wd_456 : (.code yX1_saved cX1_saved 5 (some .int) : Cond) ∈ wG := wd_in 456 rfl rfl
theorem wd_457 : (.methodLink RL 78 yX1_place : Cond) ∈ wG := wd_in 457 (by decide +kernel) rfl
theorem wd_458 : (.instanceMethod yX1_place : Cond) ∈ wG := wd_in 458 (by decide +kernel) rfl
theorem wd_459 : (.selects RX1 yX1_place yX1_place : Cond) ∈ wG := wd_in 459 (by decide +kernel) rfl
set_option maxRecDepth 20000 in
theorem wd_460 : (.code yX1_place cX1_place 4 (some .int) : Cond) ∈ wG := wd_in 460 rfl rfl
theorem wd_461 : (.methodLink RL 82 yX1_clear : Cond) ∈ wG := wd_in 461 (by decide +kernel) rfl
theorem wd_462 : (.instanceMethod yX1_clear : Cond) ∈ wG := wd_in 462 (by decide +kernel) rfl
theorem wd_463 : (.selects RX1 yX1_clear yX1_clear : Cond) ∈ wG := wd_in 463 (by decide +kernel) rfl
set_option maxRecDepth 20000 in
theorem wd_464 : (.code yX1_clear cX1_clear 2 (some .int) : Cond) ∈ wG := wd_in 464 rfl rfl
theorem wd_465 : (.arrayClass .long : Cond) ∈ wG := wd_in 465 (by decide +kernel) rfl
