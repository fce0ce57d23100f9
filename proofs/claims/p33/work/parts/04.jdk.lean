theorem qw_0 : (.selects RX11 yX11_addBytes yX11_addBytes : Cond) ∈ wsA := mA (i := 0) (by decide +kernel) rfl
theorem qw_1 : (.selects RX7 yX7_byteAt yX7_byteAt : Cond) ∈ wsA := mA (i := 1) (by decide +kernel) rfl
theorem qw_2 : (.selects RX2 yX2_readNumbers yX2_readNumbers : Cond) ∈ wsA := mA (i := 2) (by decide +kernel) rfl
theorem qw_3 : (.selects RX2 yX2_nextNumber yX2_nextNumber : Cond) ∈ wsA := mA (i := 3) (by decide +kernel) rfl
theorem qw_4 : (.selects RX11 yX11_ruleAt yX11_ruleAt : Cond) ∈ wsA := mA (i := 4) (by decide +kernel) rfl
theorem qw_5 : (.selects RX10 yX10_readSum yX10_readSum : Cond) ∈ wsA := mA (i := 5) (by decide +kernel) rfl
theorem qw_6 : (.selects RX10 yX10_readValue yX10_readValue : Cond) ∈ wsA := mA (i := 6) (by decide +kernel) rfl
theorem qw_7 : (.selects RX10 yX10_countValue yX10_countValue : Cond) ∈ wsA := mA (i := 7) (by decide +kernel) rfl
theorem qw_8 : (.selects RX10 yX10_readTest yX10_readTest : Cond) ∈ wsA := mA (i := 8) (by decide +kernel) rfl
theorem qw_9 : (.selects RX10 yX10_readFact yX10_readFact : Cond) ∈ wsA := mA (i := 9) (by decide +kernel) rfl
theorem qw_10 : (.selects RX10 yX10_closeBracket yX10_closeBracket : Cond) ∈ wsA := mA (i := 10) (by decide +kernel) rfl
theorem qw_11 : (.selects RX10 yX10_readSign yX10_readSign : Cond) ∈ wsA := mA (i := 11) (by decide +kernel) rfl
theorem qw_12 : (.selects RX11 yX11_isDish yX11_isDish : Cond) ∈ wsA := mA (i := 12) (by decide +kernel) rfl
theorem qw_13 : (.selects RX11 yX11_isGuest yX11_isGuest : Cond) ∈ wsA := mA (i := 13) (by decide +kernel) rfl
theorem qw_14 : (.selects RX11 yX11_untold yX11_untold : Cond) ∈ wsA := mA (i := 14) (by decide +kernel) rfl
theorem qw_15 : (.selects RX6 yX6_slot yX6_slot : Cond) ∈ wsA := mA (i := 15) (by decide +kernel) rfl
theorem qw_16 : (.selects RX11 yX11_layNow yX11_layNow : Cond) ∈ wsA := mA (i := 16) (by decide +kernel) rfl
theorem qw_17 : (.selects RX0 yX0_choice yX0_choice : Cond) ∈ wsA := mA (i := 17) (by decide +kernel) rfl
theorem qw_18 : (.selects RX0 yX0_fillWords yX0_fillWords : Cond) ∈ wsA := mA (i := 18) (by decide +kernel) rfl
theorem qw_19 : (.selects RX0 yX0_fillWordsOfDish yX0_fillWordsOfDish : Cond) ∈ wsA := mA (i := 19) (by decide +kernel) rfl
theorem qw_20 : (.selects RX0 yX0_speak yX0_speak : Cond) ∈ wsA := mA (i := 20) (by decide +kernel) rfl
theorem qw_21 : (.selects RX0 yX0_hear yX0_hear : Cond) ∈ wsA := mA (i := 21) (by decide +kernel) rfl
theorem qw_22 : (.selects RX0 yX0_waitsForMinute yX0_waitsForMinute : Cond) ∈ wsA := mA (i := 22) (by decide +kernel) rfl
theorem qw_23 : (.selects RX11 yX11_startTrial yX11_startTrial : Cond) ∈ wsA := mA (i := 23) (by decide +kernel) rfl
theorem qw_24 : (.selects RX11 yX11_bestOfRows yX11_bestOfRows : Cond) ∈ wsA := mA (i := 24) (by decide +kernel) rfl
theorem qw_25 : (.selects RX8 yX8_stepAt yX8_stepAt : Cond) ∈ wsA := mA (i := 25) (by decide +kernel) rfl
theorem qw_26 : (.selects RX8 yX8_weigh yX8_weigh : Cond) ∈ wsA := mA (i := 26) (by decide +kernel) rfl
theorem qw_27 : (.selects RX8 yX8_worthOf yX8_worthOf : Cond) ∈ wsA := mA (i := 27) (by decide +kernel) rfl
theorem qw_28 : (.selects RX8 yX8_mayEatNone yX8_mayEatNone : Cond) ∈ wsA := mA (i := 28) (by decide +kernel) rfl
theorem qw_29 : (.selects RX11 yX11_fillGains yX11_fillGains : Cond) ∈ wsA := mA (i := 29) (by decide +kernel) rfl
theorem qw_30 : (.selects RX11 yX11_gainOf yX11_gainOf : Cond) ∈ wsA := mA (i := 30) (by decide +kernel) rfl
theorem qw_31 : (.selects RX11 yX11_isRest yX11_isRest : Cond) ∈ wsA := mA (i := 31) (by decide +kernel) rfl
theorem qw_32 : (.selects RX11 yX11_gainAt yX11_gainAt : Cond) ∈ wsA := mA (i := 32) (by decide +kernel) rfl
theorem qw_33 : (.selects RX11 yX11_shareOf yX11_shareOf : Cond) ∈ wsA := mA (i := 33) (by decide +kernel) rfl
theorem qw_34 : (.selects RX11 yX11_fitsNotes yX11_fitsNotes : Cond) ∈ wsA := mA (i := 34) (by decide +kernel) rfl
theorem qw_35 : (.selects RX11 yX11_gatherFitting yX11_gatherFitting : Cond) ∈ wsA := mA (i := 35) (by decide +kernel) rfl
theorem qw_36 : (.selects RX11 yX11_mostAlike yX11_mostAlike : Cond) ∈ wsA := mA (i := 36) (by decide +kernel) rfl
theorem qw_37 : (.selects RX11 yX11_hiccupTrial yX11_hiccupTrial : Cond) ∈ wsA := mA (i := 37) (by decide +kernel) rfl
theorem qw_38 : (.selects RX11 yX11_imageAt yX11_imageAt : Cond) ∈ wsA := mA (i := 38) (by decide +kernel) rfl
theorem qw_119 : (.initialized RX11 : Cond) ∈ wsA := mA (i := 119) (by decide +kernel) rfl
theorem qw_120 : (.initialized RX2 : Cond) ∈ wsA := mA (i := 120) (by decide +kernel) rfl
theorem qw_121 : (.initialized RX7 : Cond) ∈ wsA := mA (i := 121) (by decide +kernel) rfl
theorem qw_122 : (.initialized RX10 : Cond) ∈ wsA := mA (i := 122) (by decide +kernel) rfl
theorem qw_123 : (.initialized RX9 : Cond) ∈ wsA := mA (i := 123) (by decide +kernel) rfl
theorem qw_124 : (.initialized RX1 : Cond) ∈ wsA := mA (i := 124) (by decide +kernel) rfl
theorem qw_125 : (.initialized RX3 : Cond) ∈ wsA := mA (i := 125) (by decide +kernel) rfl
theorem qw_126 : (.initialized RX5 : Cond) ∈ wsA := mA (i := 126) (by decide +kernel) rfl
theorem qw_127 : (.initialized RX6 : Cond) ∈ wsA := mA (i := 127) (by decide +kernel) rfl
theorem qw_128 : (.initialized RX0 : Cond) ∈ wsA := mA (i := 128) (by decide +kernel) rfl
theorem qw_129 : (.initialized RX8 : Cond) ∈ wsA := mA (i := 129) (by decide +kernel) rfl
theorem qw_132 : (.initialized RJ9 : Cond) ∈ wsA := mA (i := 132) (by decide +kernel) rfl
theorem qw_133 : (.initialized RJ0 : Cond) ∈ wsA := mA (i := 133) (by decide +kernel) rfl
theorem qw_134 : (.initialized RJ1 : Cond) ∈ wsA := mA (i := 134) (by decide +kernel) rfl
theorem qw_135 : (.initialized RJ3 : Cond) ∈ wsA := mA (i := 135) (by decide +kernel) rfl
theorem qw_137 : (.initialized RJ6 : Cond) ∈ wsA := mA (i := 137) (by decide +kernel) rfl
theorem qw_138 : (.initialized RJ13 : Cond) ∈ wsA := mA (i := 138) (by decide +kernel) rfl
theorem qw_159 : (.fieldLink RX7 9 "SpokenBite$Reade\x72" "text" "[I" : Cond) ∈ wsA := mA (i := 159) (by decide +kernel) rfl
theorem qw_160 : (.fieldLink RX7 21 "SpokenBite$Reade\x72" "length" "I" : Cond) ∈ wsA := mA (i := 160) (by decide +kernel) rfl
theorem qw_161 : (.fieldLink RX7 25 "SpokenBite$Reade\x72" "place" "I" : Cond) ∈ wsA := mA (i := 161) (by decide +kernel) rfl
theorem qw_162 : (.fieldLink RX2 37 "SpokenBite$Reade\x72" "place" "I" : Cond) ∈ wsA := mA (i := 162) (by decide +kernel) rfl
theorem qw_163 : (.fieldLink RX10 46 "SpokenBite$Reade\x72" "place" "I" : Cond) ∈ wsA := mA (i := 163) (by decide +kernel) rfl
theorem qw_164 : (.fieldLink RX7 28 "SpokenBite$Reade\x72" "fault" "I" : Cond) ∈ wsA := mA (i := 164) (by decide +kernel) rfl
theorem qw_165 : (.fieldLink RX10 59 "SpokenBite$Reade\x72" "fault" "I" : Cond) ∈ wsA := mA (i := 165) (by decide +kernel) rfl
theorem qw_166 : (.fieldLink RX2 60 "SpokenBite$Reade\x72" "fault" "I" : Cond) ∈ wsA := mA (i := 166) (by decide +kernel) rfl
theorem qw_177 : (.fieldLink RX2 12 "SpokenBite$DinnerReade\x72" "reade\x72" "LSpokenBite$Reader;" : Cond) ∈ wsA := mA (i := 177) (by decide +kernel) rfl
theorem qw_195 : (.fieldLink RX9 9 "SpokenBite$Rule" "code" "[I" : Cond) ∈ wsA := mA (i := 195) (by decide +kernel) rfl
theorem qw_196 : (.fieldLink RX9 15 "SpokenBite$Rule" "steps" "I" : Cond) ∈ wsA := mA (i := 196) (by decide +kernel) rfl
theorem qw_197 : (.fieldLink RX9 19 "SpokenBite$Rule" "asksMinute" "Z" : Cond) ∈ wsA := mA (i := 197) (by decide +kernel) rfl
theorem qw_198 : (.fieldLink RX0 62 "SpokenBite$Rule" "asksMinute" "Z" : Cond) ∈ wsA := mA (i := 198) (by decide +kernel) rfl
theorem qw_206 : (.fieldLink RX10 12 "SpokenBite$RuleReade\x72" "reade\x72" "LSpokenBite$Reader;" : Cond) ∈ wsA := mA (i := 206) (by decide +kernel) rfl
theorem qw_207 : (.fieldLink RX10 21 "SpokenBite$RuleReade\x72" "rule" "LSpokenBite$Rule;" : Cond) ∈ wsA := mA (i := 207) (by decide +kernel) rfl
theorem qw_208 : (.fieldLink RX10 32 "SpokenBite$RuleReade\x72" "values" "I" : Cond) ∈ wsA := mA (i := 208) (by decide +kernel) rfl
theorem qw_224 : (.fieldLink RX1 24 "SpokenBite$Dinne\x72" "deep" "I" : Cond) ∈ wsA := mA (i := 224) (by decide +kernel) rfl
theorem qw_225 : (.fieldLink RX2 73 "SpokenBite$Dinne\x72" "deep" "I" : Cond) ∈ wsA := mA (i := 225) (by decide +kernel) rfl
theorem qw_226 : (.fieldLink RX0 72 "SpokenBite$Dinne\x72" "deep" "I" : Cond) ∈ wsA := mA (i := 226) (by decide +kernel) rfl
theorem qw_227 : (.fieldLink RX11 135 "SpokenBite$Dinne\x72" "deep" "I" : Cond) ∈ wsA := mA (i := 227) (by decide +kernel) rfl
theorem qw_228 : (.fieldLink RX1 28 "SpokenBite$Dinne\x72" "dishes" "I" : Cond) ∈ wsA := mA (i := 228) (by decide +kernel) rfl
theorem qw_229 : (.fieldLink RX3 18 "SpokenBite$Dinne\x72" "dishes" "I" : Cond) ∈ wsA := mA (i := 229) (by decide +kernel) rfl
theorem qw_230 : (.fieldLink RX2 63 "SpokenBite$Dinne\x72" "dishes" "I" : Cond) ∈ wsA := mA (i := 230) (by decide +kernel) rfl
theorem qw_231 : (.fieldLink RX11 122 "SpokenBite$Dinne\x72" "dishes" "I" : Cond) ∈ wsA := mA (i := 231) (by decide +kernel) rfl
theorem qw_232 : (.fieldLink RX1 31 "SpokenBite$Dinne\x72" "guests" "I" : Cond) ∈ wsA := mA (i := 232) (by decide +kernel) rfl
theorem qw_233 : (.fieldLink RX3 26 "SpokenBite$Dinne\x72" "guests" "I" : Cond) ∈ wsA := mA (i := 233) (by decide +kernel) rfl
theorem qw_234 : (.fieldLink RX2 66 "SpokenBite$Dinne\x72" "guests" "I" : Cond) ∈ wsA := mA (i := 234) (by decide +kernel) rfl
theorem qw_235 : (.fieldLink RX11 138 "SpokenBite$Dinne\x72" "guests" "I" : Cond) ∈ wsA := mA (i := 235) (by decide +kernel) rfl
theorem qw_236 : (.fieldLink RX1 9 "SpokenBite$Dinne\x72" "loud" "[I" : Cond) ∈ wsA := mA (i := 236) (by decide +kernel) rfl
theorem qw_237 : (.fieldLink RX0 115 "SpokenBite$Dinne\x72" "loud" "[I" : Cond) ∈ wsA := mA (i := 237) (by decide +kernel) rfl
theorem qw_238 : (.fieldLink RX11 149 "SpokenBite$Dinne\x72" "loud" "[I" : Cond) ∈ wsA := mA (i := 238) (by decide +kernel) rfl
theorem qw_239 : (.fieldLink RX1 15 "SpokenBite$Dinne\x72" "says" "[I" : Cond) ∈ wsA := mA (i := 239) (by decide +kernel) rfl
theorem qw_240 : (.fieldLink RX0 119 "SpokenBite$Dinne\x72" "says" "[I" : Cond) ∈ wsA := mA (i := 240) (by decide +kernel) rfl
theorem qw_241 : (.fieldLink RX11 152 "SpokenBite$Dinne\x72" "says" "[I" : Cond) ∈ wsA := mA (i := 241) (by decide +kernel) rfl
theorem qw_242 : (.fieldLink RX1 18 "SpokenBite$Dinne\x72" "ears" "[I" : Cond) ∈ wsA := mA (i := 242) (by decide +kernel) rfl
theorem qw_243 : (.fieldLink RX0 143 "SpokenBite$Dinne\x72" "ears" "[I" : Cond) ∈ wsA := mA (i := 243) (by decide +kernel) rfl
theorem qw_244 : (.fieldLink RX11 165 "SpokenBite$Dinne\x72" "ears" "[I" : Cond) ∈ wsA := mA (i := 244) (by decide +kernel) rfl
theorem qw_245 : (.fieldLink RX1 21 "SpokenBite$Dinne\x72" "clash" "[I" : Cond) ∈ wsA := mA (i := 245) (by decide +kernel) rfl
theorem qw_246 : (.fieldLink RX0 128 "SpokenBite$Dinne\x72" "clash" "[I" : Cond) ∈ wsA := mA (i := 246) (by decide +kernel) rfl
theorem qw_247 : (.fieldLink RX11 181 "SpokenBite$Dinne\x72" "clash" "[I" : Cond) ∈ wsA := mA (i := 247) (by decide +kernel) rfl
theorem qw_269 : (.fieldLink RX3 15 "SpokenBite$Evening" "minute" "I" : Cond) ∈ wsA := mA (i := 269) (by decide +kernel) rfl
theorem qw_270 : (.fieldLink RX0 75 "SpokenBite$Evening" "minute" "I" : Cond) ∈ wsA := mA (i := 270) (by decide +kernel) rfl
theorem qw_271 : (.fieldLink RX11 187 "SpokenBite$Evening" "minute" "I" : Cond) ∈ wsA := mA (i := 271) (by decide +kernel) rfl
theorem qw_272 : (.fieldLink RX3 9 "SpokenBite$Evening" "offered" "I" : Cond) ∈ wsA := mA (i := 272) (by decide +kernel) rfl
theorem qw_273 : (.fieldLink RX0 40 "SpokenBite$Evening" "offered" "I" : Cond) ∈ wsA := mA (i := 273) (by decide +kernel) rfl
theorem qw_274 : (.fieldLink RX11 203 "SpokenBite$Evening" "offered" "I" : Cond) ∈ wsA := mA (i := 274) (by decide +kernel) rfl
theorem qw_275 : (.fieldLink RX3 23 "SpokenBite$Evening" "table" "I" : Cond) ∈ wsA := mA (i := 275) (by decide +kernel) rfl
theorem qw_276 : (.fieldLink RX0 59 "SpokenBite$Evening" "table" "I" : Cond) ∈ wsA := mA (i := 276) (by decide +kernel) rfl
theorem qw_277 : (.fieldLink RX8 77 "SpokenBite$Evening" "table" "I" : Cond) ∈ wsA := mA (i := 277) (by decide +kernel) rfl
theorem qw_278 : (.fieldLink RX11 206 "SpokenBite$Evening" "table" "I" : Cond) ∈ wsA := mA (i := 278) (by decide +kernel) rfl
theorem qw_279 : (.fieldLink RX3 29 "SpokenBite$Evening" "sitting" "I" : Cond) ∈ wsA := mA (i := 279) (by decide +kernel) rfl
theorem qw_280 : (.fieldLink RX0 37 "SpokenBite$Evening" "sitting" "I" : Cond) ∈ wsA := mA (i := 280) (by decide +kernel) rfl
theorem qw_281 : (.fieldLink RX11 212 "SpokenBite$Evening" "sitting" "I" : Cond) ∈ wsA := mA (i := 281) (by decide +kernel) rfl
theorem qw_282 : (.fieldLink RX3 32 "SpokenBite$Evening" "gullet" "I" : Cond) ∈ wsA := mA (i := 282) (by decide +kernel) rfl
theorem qw_283 : (.fieldLink RX0 31 "SpokenBite$Evening" "gullet" "I" : Cond) ∈ wsA := mA (i := 283) (by decide +kernel) rfl
theorem qw_284 : (.fieldLink RX11 242 "SpokenBite$Evening" "gullet" "I" : Cond) ∈ wsA := mA (i := 284) (by decide +kernel) rfl
theorem qw_285 : (.fieldLink RX3 35 "SpokenBite$Evening" "knows" "J" : Cond) ∈ wsA := mA (i := 285) (by decide +kernel) rfl
theorem qw_286 : (.fieldLink RX8 88 "SpokenBite$Evening" "knows" "J" : Cond) ∈ wsA := mA (i := 286) (by decide +kernel) rfl
theorem qw_287 : (.fieldLink RX11 281 "SpokenBite$Evening" "knows" "J" : Cond) ∈ wsA := mA (i := 287) (by decide +kernel) rfl
theorem qw_307 : (.fieldLink RX5 24 "SpokenBite$Notes" "kept" "I" : Cond) ∈ wsA := mA (i := 307) (by decide +kernel) rfl
theorem qw_308 : (.fieldLink RX11 315 "SpokenBite$Notes" "kept" "I" : Cond) ∈ wsA := mA (i := 308) (by decide +kernel) rfl
theorem qw_309 : (.fieldLink RX5 9 "SpokenBite$Notes" "when" "[I" : Cond) ∈ wsA := mA (i := 309) (by decide +kernel) rfl
theorem qw_310 : (.fieldLink RX5 15 "SpokenBite$Notes" "who" "[I" : Cond) ∈ wsA := mA (i := 310) (by decide +kernel) rfl
theorem qw_311 : (.fieldLink RX5 18 "SpokenBite$Notes" "secret" "[I" : Cond) ∈ wsA := mA (i := 311) (by decide +kernel) rfl
theorem qw_312 : (.fieldLink RX5 21 "SpokenBite$Notes" "knew" "[I" : Cond) ∈ wsA := mA (i := 312) (by decide +kernel) rfl
theorem qw_333 : (.fieldLink RX6 11 "SpokenBite$Past" "ring" "[LSpokenBite$Evening;" : Cond) ∈ wsA := mA (i := 333) (by decide +kernel) rfl
theorem qw_334 : (.fieldLink RX6 22 "SpokenBite$Past" "next" "I" : Cond) ∈ wsA := mA (i := 334) (by decide +kernel) rfl
theorem qw_335 : (.fieldLink RX6 18 "SpokenBite$Past" "kept" "I" : Cond) ∈ wsA := mA (i := 335) (by decide +kernel) rfl
theorem qw_336 : (.fieldLink RX11 223 "SpokenBite$Past" "kept" "I" : Cond) ∈ wsA := mA (i := 336) (by decide +kernel) rfl
theorem qw_354 : (.fieldLink RX0 12 "SpokenBite$Course" "dinne\x72" "LSpokenBite$Dinner;" : Cond) ∈ wsA := mA (i := 354) (by decide +kernel) rfl
theorem qw_355 : (.fieldLink RX0 27 "SpokenBite$Course" "rule" "LSpokenBite$Rule;" : Cond) ∈ wsA := mA (i := 355) (by decide +kernel) rfl
theorem qw_356 : (.fieldLink RX0 20 "SpokenBite$Course" "words" "[J" : Cond) ∈ wsA := mA (i := 356) (by decide +kernel) rfl
theorem qw_357 : (.fieldLink RX0 24 "SpokenBite$Course" "stack" "[J" : Cond) ∈ wsA := mA (i := 357) (by decide +kernel) rfl
theorem qw_358 : (.fieldLink RX0 134 "SpokenBite$Course" "speaking" "I" : Cond) ∈ wsA := mA (i := 358) (by decide +kernel) rfl
theorem qw_359 : (.fieldLink RX11 200 "SpokenBite$Course" "speaking" "I" : Cond) ∈ wsA := mA (i := 359) (by decide +kernel) rfl
theorem qw_360 : (.fieldLink RX0 137 "SpokenBite$Course" "saying" "I" : Cond) ∈ wsA := mA (i := 360) (by decide +kernel) rfl
theorem qw_361 : (.fieldLink RX11 239 "SpokenBite$Course" "saying" "I" : Cond) ∈ wsA := mA (i := 361) (by decide +kernel) rfl
theorem qw_362 : (.fieldLink RX0 131 "SpokenBite$Course" "loudness" "I" : Cond) ∈ wsA := mA (i := 362) (by decide +kernel) rfl
theorem qw_363 : (.fieldLink RX11 308 "SpokenBite$Course" "loudness" "I" : Cond) ∈ wsA := mA (i := 363) (by decide +kernel) rfl
theorem qw_364 : (.fieldLink RX0 55 "SpokenBite$Course" "still" "Z" : Cond) ∈ wsA := mA (i := 364) (by decide +kernel) rfl
theorem qw_391 : (.fieldLink RX8 11 "SpokenBite$RowSearch" "steps" "[LSpokenBite$Evening;" : Cond) ∈ wsA := mA (i := 391) (by decide +kernel) rfl
theorem qw_392 : (.fieldLink RX8 17 "SpokenBite$RowSearch" "row" "[I" : Cond) ∈ wsA := mA (i := 392) (by decide +kernel) rfl
theorem qw_393 : (.fieldLink RX8 21 "SpokenBite$RowSearch" "first" "[I" : Cond) ∈ wsA := mA (i := 393) (by decide +kernel) rfl
theorem qw_394 : (.fieldLink RX8 25 "SpokenBite$RowSearch" "aim" "I" : Cond) ∈ wsA := mA (i := 394) (by decide +kernel) rfl
theorem qw_395 : (.fieldLink RX8 29 "SpokenBite$RowSearch" "length" "I" : Cond) ∈ wsA := mA (i := 395) (by decide +kernel) rfl
theorem qw_396 : (.fieldLink RX8 32 "SpokenBite$RowSearch" "best" "I" : Cond) ∈ wsA := mA (i := 396) (by decide +kernel) rfl
theorem qw_397 : (.fieldLink RX8 35 "SpokenBite$RowSearch" "found" "I" : Cond) ∈ wsA := mA (i := 397) (by decide +kernel) rfl
theorem qw_398 : (.fieldLink RX11 264 "SpokenBite$RowSearch" "found" "I" : Cond) ∈ wsA := mA (i := 398) (by decide +kernel) rfl
theorem qw_426 : (.fieldLink RX11 359 "SpokenBite$Image" "made" "Z" : Cond) ∈ wsA := mA (i := 426) (by decide +kernel) rfl
theorem qw_428 : (.fieldLink RX11 363 "SpokenBite$Image" "told" "LSpokenBite$Dinner;" : Cond) ∈ wsA := mA (i := 428) (by decide +kernel) rfl
theorem qw_430 : (.fieldLink RX11 364 "SpokenBite$Image" "evening" "LSpokenBite$Evening;" : Cond) ∈ wsA := mA (i := 430) (by decide +kernel) rfl
theorem qw_432 : (.fieldLink RX11 367 "SpokenBite$Image" "notes" "LSpokenBite$Notes;" : Cond) ∈ wsA := mA (i := 432) (by decide +kernel) rfl
theorem qw_434 : (.fieldLink RX11 371 "SpokenBite$Image" "inForce" "I" : Cond) ∈ wsA := mA (i := 434) (by decide +kernel) rfl
theorem qw_435 : (.fieldLink RX11 372 "SpokenBite$Image" "x" "I" : Cond) ∈ wsA := mA (i := 435) (by decide +kernel) rfl
theorem qw_449 : (.fieldLink RX11 9 "SpokenBite" "tape" "[I" : Cond) ∈ wsA := mA (i := 449) (by decide +kernel) rfl
theorem qw_450 : (.fieldLink RX11 100 "SpokenBite" "taped" "I" : Cond) ∈ wsA := mA (i := 450) (by decide +kernel) rfl
theorem qw_451 : (.fieldLink RX11 16 "SpokenBite" "dinnerReade\x72" "LSpokenBite$DinnerReader;" : Cond) ∈ wsA := mA (i := 451) (by decide +kernel) rfl
theorem qw_452 : (.fieldLink RX11 23 "SpokenBite" "ruleReade\x72" "LSpokenBite$RuleReader;" : Cond) ∈ wsA := mA (i := 452) (by decide +kernel) rfl
theorem qw_453 : (.fieldLink RX11 29 "SpokenBite" "rules" "[LSpokenBite$Rule;" : Cond) ∈ wsA := mA (i := 453) (by decide +kernel) rfl
theorem qw_454 : (.fieldLink RX11 125 "SpokenBite" "ruleCount" "I" : Cond) ∈ wsA := mA (i := 454) (by decide +kernel) rfl
theorem qw_455 : (.fieldLink RX11 33 "SpokenBite" "inForce" "I" : Cond) ∈ wsA := mA (i := 455) (by decide +kernel) rfl
theorem qw_456 : (.fieldLink RX11 40 "SpokenBite" "told" "LSpokenBite$Dinner;" : Cond) ∈ wsA := mA (i := 456) (by decide +kernel) rfl
theorem qw_457 : (.fieldLink RX11 44 "SpokenBite" "draft" "LSpokenBite$Dinner;" : Cond) ∈ wsA := mA (i := 457) (by decide +kernel) rfl
theorem qw_458 : (.fieldLink RX11 50 "SpokenBite" "now" "LSpokenBite$Evening;" : Cond) ∈ wsA := mA (i := 458) (by decide +kernel) rfl
theorem qw_459 : (.fieldLink RX11 54 "SpokenBite" "trial" "LSpokenBite$Evening;" : Cond) ∈ wsA := mA (i := 459) (by decide +kernel) rfl
theorem qw_460 : (.fieldLink RX11 60 "SpokenBite" "notes" "LSpokenBite$Notes;" : Cond) ∈ wsA := mA (i := 460) (by decide +kernel) rfl
theorem qw_461 : (.fieldLink RX11 67 "SpokenBite" "past" "LSpokenBite$Past;" : Cond) ∈ wsA := mA (i := 461) (by decide +kernel) rfl
theorem qw_462 : (.fieldLink RX11 73 "SpokenBite" "images" "[LSpokenBite$Image;" : Cond) ∈ wsA := mA (i := 462) (by decide +kernel) rfl
theorem qw_463 : (.fieldLink RX11 80 "SpokenBite" "course" "LSpokenBite$Course;" : Cond) ∈ wsA := mA (i := 463) (by decide +kernel) rfl
theorem qw_464 : (.fieldLink RX11 87 "SpokenBite" "search" "LSpokenBite$RowSearch;" : Cond) ∈ wsA := mA (i := 464) (by decide +kernel) rfl
theorem qw_465 : (.fieldLink RX11 91 "SpokenBite" "gains" "[I" : Cond) ∈ wsA := mA (i := 465) (by decide +kernel) rfl
theorem qw_466 : (.fieldLink RX11 94 "SpokenBite" "parted" "[J" : Cond) ∈ wsA := mA (i := 466) (by decide +kernel) rfl
theorem qw_467 : (.fieldLink RX11 336 "SpokenBite" "x" "I" : Cond) ∈ wsA := mA (i := 467) (by decide +kernel) rfl
theorem qw_511 : (.methodLink RX11 103 yX11_addBytes : Cond) ∈ wsA := mA (i := 511) (by decide +kernel) rfl
theorem qw_513 : (.instanceMethod yX11_addBytes : Cond) ∈ wsA := mA (i := 513) (by decide +kernel) rfl
theorem qw_514 : (.code yX11_addBytes cX11_addBytes 3 none : Cond) ∈ wsA := mA (i := 514) (by decide +kernel) rfl
theorem qw_523 : (.methodLink RX11 107 yX2_read : Cond) ∈ wsA := mA (i := 523) (by decide +kernel) rfl
theorem qw_524 : (.instanceMethod yX2_read : Cond) ∈ wsA := mA (i := 524) (by decide +kernel) rfl
theorem qw_525 : (.selects RX2 yX2_read yX2_read : Cond) ∈ wsA := mA (i := 525) (by decide +kernel) rfl
theorem qw_526 : (.code yX2_read cX2_read 6 (some .int) : Cond) ∈ wsA := mA (i := 526) (by decide +kernel) rfl
theorem qw_527 : (.methodLink RX2 18 yX7_open : Cond) ∈ wsA := mA (i := 527) (by decide +kernel) rfl
theorem qw_528 : (.instanceMethod yX7_open : Cond) ∈ wsA := mA (i := 528) (by decide +kernel) rfl
theorem qw_529 : (.selects RX7 yX7_open yX7_open : Cond) ∈ wsA := mA (i := 529) (by decide +kernel) rfl
theorem qw_530 : (.code yX7_open cX7_open 3 none : Cond) ∈ wsA := mA (i := 530) (by decide +kernel) rfl
theorem qw_531 : (.methodLink RX7 15 Lib.Math.min.name : Cond) ∈ wsA := mA (i := 531) (by decide +kernel) rfl
theorem qw_532 : (.static Lib.Math.min.name : Cond) ∈ wsA := mA (i := 532) (by decide +kernel) rfl
theorem qw_533 : (.code Lib.Math.min.name Lib.Math.min.code 2 (some .int) : Cond) ∈ wsA := mA (i := 533) (by decide +kernel) rfl
theorem qw_534 : (.methodLink RX2 22 yX1_clear : Cond) ∈ wsA := mA (i := 534) (by decide +kernel) rfl
theorem qw_535 : (.instanceMethod yX1_clear : Cond) ∈ wsA := mA (i := 535) (by decide +kernel) rfl
theorem qw_536 : (.selects RX1 yX1_clear yX1_clear : Cond) ∈ wsA := mA (i := 536) (by decide +kernel) rfl
theorem qw_537 : (.code yX1_clear cX1_clear 2 none : Cond) ∈ wsA := mA (i := 537) (by decide +kernel) rfl
theorem qw_538 : (.methodLink RX2 27 yX7_sign : Cond) ∈ wsA := mA (i := 538) (by decide +kernel) rfl
theorem qw_539 : (.instanceMethod yX7_sign : Cond) ∈ wsA := mA (i := 539) (by decide +kernel) rfl
theorem qw_540 : (.selects RX7 yX7_sign yX7_sign : Cond) ∈ wsA := mA (i := 540) (by decide +kernel) rfl
theorem qw_541 : (.code yX7_sign cX7_sign 2 (some .int) : Cond) ∈ wsA := mA (i := 541) (by decide +kernel) rfl
theorem qw_542 : (.methodLink RX7 31 yX7_byteAt : Cond) ∈ wsA := mA (i := 542) (by decide +kernel) rfl
theorem qw_544 : (.instanceMethod yX7_byteAt : Cond) ∈ wsA := mA (i := 544) (by decide +kernel) rfl
theorem qw_545 : (.code yX7_byteAt cX7_byteAt 2 (some .int) : Cond) ∈ wsA := mA (i := 545) (by decide +kernel) rfl
theorem qw_547 : (.methodLink RX2 33 yX7_wordAmong : Cond) ∈ wsA := mA (i := 547) (by decide +kernel) rfl
theorem qw_548 : (.instanceMethod yX7_wordAmong : Cond) ∈ wsA := mA (i := 548) (by decide +kernel) rfl
theorem qw_549 : (.selects RX7 yX7_wordAmong yX7_wordAmong : Cond) ∈ wsA := mA (i := 549) (by decide +kernel) rfl
theorem qw_550 : (.code yX7_wordAmong cX7_wordAmong 7 (some .int) : Cond) ∈ wsA := mA (i := 550) (by decide +kernel) rfl
theorem qw_551 : (.methodLink RX7 35 yJ0_length_8abf5 : Cond) ∈ wsA := mA (i := 551) (by decide +kernel) rfl
theorem qw_552 : (.instanceMethod yJ0_length_8abf5 : Cond) ∈ wsA := mA (i := 552) (by decide +kernel) rfl
theorem qw_553 : (.selects RJ0 yJ0_length_8abf5 yJ0_length_8abf5 : Cond) ∈ wsA := mA (i := 553) (by decide +kernel) rfl
theorem qw_554 : (.code yJ0_length_8abf5 cJ0_length_8abf5 1 (some .int) : Cond) ∈ wsA := mA (i := 554) (by decide +kernel) rfl
theorem qw_555 : (.methodLink RJ0 335 yJ0_coder_7d493 : Cond) ∈ wsA := mA (i := 555) (by decide +kernel) rfl
theorem qw_556 : (.instanceMethod yJ0_coder_7d493 : Cond) ∈ wsA := mA (i := 556) (by decide +kernel) rfl
theorem qw_557 : (.selects RJ0 yJ0_coder_7d493 yJ0_coder_7d493 : Cond) ∈ wsA := mA (i := 557) (by decide +kernel) rfl
theorem qw_558 : (.code yJ0_coder_7d493 cJ0_coder_7d493 1 (some .byte) : Cond) ∈ wsA := mA (i := 558) (by decide +kernel) rfl
theorem qw_559 : (.fieldLink RJ0 38 "java/lang/String" "COMPACT_STRINGS" "Z" : Cond) ∈ wsA := mA (i := 559) (by decide +kernel) rfl
theorem qw_561 : (.methodLink RX7 40 yJ0_charAt_5068e : Cond) ∈ wsA := mA (i := 561) (by decide +kernel) rfl
theorem qw_562 : (.instanceMethod yJ0_charAt_5068e : Cond) ∈ wsA := mA (i := 562) (by decide +kernel) rfl
theorem qw_563 : (.selects RJ0 yJ0_charAt_5068e yJ0_charAt_5068e : Cond) ∈ wsA := mA (i := 563) (by decide +kernel) rfl
theorem qw_564 : (.code yJ0_charAt_5068e cJ0_charAt_5068e 2 (some .char) : Cond) ∈ wsA := mA (i := 564) (by decide +kernel) rfl
theorem qw_565 : (.methodLink RJ0 492 yJ0_isLatin1_aae02 : Cond) ∈ wsA := mA (i := 565) (by decide +kernel) rfl
theorem qw_566 : (.instanceMethod yJ0_isLatin1_aae02 : Cond) ∈ wsA := mA (i := 566) (by decide +kernel) rfl
theorem qw_567 : (.selects RJ0 yJ0_isLatin1_aae02 yJ0_isLatin1_aae02 : Cond) ∈ wsA := mA (i := 567) (by decide +kernel) rfl
theorem qw_568 : (.code yJ0_isLatin1_aae02 cJ0_isLatin1_aae02 1 (some .boolean) : Cond) ∈ wsA := mA (i := 568) (by decide +kernel) rfl
theorem qw_569 : (.methodLink RJ0 495 yJ1_charAt_3b067 : Cond) ∈ wsA := mA (i := 569) (by decide +kernel) rfl
theorem qw_570 : (.static yJ1_charAt_3b067 : Cond) ∈ wsA := mA (i := 570) (by decide +kernel) rfl
theorem qw_571 : (.code yJ1_charAt_3b067 cJ1_charAt_3b067 2 (some .char) : Cond) ∈ wsA := mA (i := 571) (by decide +kernel) rfl
theorem qw_572 : (.methodLink RJ1 9 yJ0_checkIndex_df160 : Cond) ∈ wsA := mA (i := 572) (by decide +kernel) rfl
theorem qw_573 : (.static yJ0_checkIndex_df160 : Cond) ∈ wsA := mA (i := 573) (by decide +kernel) rfl
theorem qw_574 : (.code yJ0_checkIndex_df160 cJ0_checkIndex_df160 2 none : Cond) ∈ wsA := mA (i := 574) (by decide +kernel) rfl
theorem qw_575 : (.fieldLink RJ0 1053 "jdk/internal/util/Preconditions" "SIOOBE_FORMATTER" "Ljava/util/function/BiFunction;" : Cond) ∈ wsA := mA (i := 575) (by decide +kernel) rfl
theorem qw_577 : (.methodLink RJ0 1059 yJ3_checkIndex_8e157 : Cond) ∈ wsA := mA (i := 577) (by decide +kernel) rfl
theorem qw_578 : (.static yJ3_checkIndex_8e157 : Cond) ∈ wsA := mA (i := 578) (by decide +kernel) rfl
theorem qw_579 : (.code yJ3_checkIndex_8e157 cJ3_checkIndex_8e157 3 (some .int) : Cond) ∈ wsA := mA (i := 579) (by decide +kernel) rfl
theorem qw_599 : (.methodLink RX7 44 yX7_isLetter : Cond) ∈ wsA := mA (i := 599) (by decide +kernel) rfl
theorem qw_600 : (.static yX7_isLetter : Cond) ∈ wsA := mA (i := 600) (by decide +kernel) rfl
theorem qw_601 : (.code yX7_isLetter cX7_isLetter 1 (some .boolean) : Cond) ∈ wsA := mA (i := 601) (by decide +kernel) rfl
theorem qw_602 : (.methodLink RX2 41 yX7_blame : Cond) ∈ wsA := mA (i := 602) (by decide +kernel) rfl
theorem qw_603 : (.instanceMethod yX7_blame : Cond) ∈ wsA := mA (i := 603) (by decide +kernel) rfl
theorem qw_604 : (.selects RX7 yX7_blame yX7_blame : Cond) ∈ wsA := mA (i := 604) (by decide +kernel) rfl
theorem qw_605 : (.code yX7_blame cX7_blame 3 none : Cond) ∈ wsA := mA (i := 605) (by decide +kernel) rfl
theorem qw_606 : (.methodLink RX2 45 yX2_mayStand : Cond) ∈ wsA := mA (i := 606) (by decide +kernel) rfl
theorem qw_607 : (.static yX2_mayStand : Cond) ∈ wsA := mA (i := 607) (by decide +kernel) rfl
theorem qw_608 : (.code yX2_mayStand cX2_mayStand 3 (some .boolean) : Cond) ∈ wsA := mA (i := 608) (by decide +kernel) rfl
theorem qw_609 : (.methodLink RX2 49 yX7_skipWord : Cond) ∈ wsA := mA (i := 609) (by decide +kernel) rfl
theorem qw_610 : (.instanceMethod yX7_skipWord : Cond) ∈ wsA := mA (i := 610) (by decide +kernel) rfl
theorem qw_611 : (.selects RX7 yX7_skipWord yX7_skipWord : Cond) ∈ wsA := mA (i := 611) (by decide +kernel) rfl
theorem qw_612 : (.code yX7_skipWord cX7_skipWord 2 none : Cond) ∈ wsA := mA (i := 612) (by decide +kernel) rfl
theorem qw_613 : (.methodLink RX2 52 yX2_readNumbers : Cond) ∈ wsA := mA (i := 613) (by decide +kernel) rfl
theorem qw_615 : (.instanceMethod yX2_readNumbers : Cond) ∈ wsA := mA (i := 615) (by decide +kernel) rfl
theorem qw_616 : (.code yX2_readNumbers cX2_readNumbers 4 none : Cond) ∈ wsA := mA (i := 616) (by decide +kernel) rfl
theorem qw_617 : (.methodLink RX2 69 yX2_nextNumber : Cond) ∈ wsA := mA (i := 617) (by decide +kernel) rfl
theorem qw_619 : (.instanceMethod yX2_nextNumber : Cond) ∈ wsA := mA (i := 619) (by decide +kernel) rfl
theorem qw_620 : (.code yX2_nextNumber cX2_nextNumber 4 (some .int) : Cond) ∈ wsA := mA (i := 620) (by decide +kernel) rfl
theorem qw_621 : (.methodLink RX2 86 yX7_number : Cond) ∈ wsA := mA (i := 621) (by decide +kernel) rfl
theorem qw_622 : (.instanceMethod yX7_number : Cond) ∈ wsA := mA (i := 622) (by decide +kernel) rfl
theorem qw_623 : (.selects RX7 yX7_number yX7_number : Cond) ∈ wsA := mA (i := 623) (by decide +kernel) rfl
theorem qw_624 : (.code yX7_number cX7_number 7 (some .int) : Cond) ∈ wsA := mA (i := 624) (by decide +kernel) rfl
theorem qw_625 : (.methodLink RX7 48 yX7_isDigit : Cond) ∈ wsA := mA (i := 625) (by decide +kernel) rfl
theorem qw_626 : (.static yX7_isDigit : Cond) ∈ wsA := mA (i := 626) (by decide +kernel) rfl
theorem qw_627 : (.code yX7_isDigit cX7_isDigit 1 (some .boolean) : Cond) ∈ wsA := mA (i := 627) (by decide +kernel) rfl
theorem qw_628 : (.methodLink RX7 51 yX7_blame : Cond) ∈ wsA := mA (i := 628) (by decide +kernel) rfl
theorem qw_629 : (.methodLink RX2 76 yX1_addDish : Cond) ∈ wsA := mA (i := 629) (by decide +kernel) rfl
theorem qw_630 : (.instanceMethod yX1_addDish : Cond) ∈ wsA := mA (i := 630) (by decide +kernel) rfl
theorem qw_631 : (.selects RX1 yX1_addDish yX1_addDish : Cond) ∈ wsA := mA (i := 631) (by decide +kernel) rfl
theorem qw_632 : (.code yX1_addDish cX1_addDish 3 none : Cond) ∈ wsA := mA (i := 632) (by decide +kernel) rfl
theorem qw_633 : (.methodLink RX2 79 yX1_addGuest : Cond) ∈ wsA := mA (i := 633) (by decide +kernel) rfl
theorem qw_634 : (.instanceMethod yX1_addGuest : Cond) ∈ wsA := mA (i := 634) (by decide +kernel) rfl
theorem qw_635 : (.selects RX1 yX1_addGuest yX1_addGuest : Cond) ∈ wsA := mA (i := 635) (by decide +kernel) rfl
theorem qw_636 : (.code yX1_addGuest cX1_addGuest 2 none : Cond) ∈ wsA := mA (i := 636) (by decide +kernel) rfl
theorem qw_637 : (.methodLink RX2 83 yX1_addClash : Cond) ∈ wsA := mA (i := 637) (by decide +kernel) rfl
theorem qw_638 : (.instanceMethod yX1_addClash : Cond) ∈ wsA := mA (i := 638) (by decide +kernel) rfl
theorem qw_639 : (.selects RX1 yX1_addClash yX1_addClash : Cond) ∈ wsA := mA (i := 639) (by decide +kernel) rfl
theorem qw_640 : (.code yX1_addClash cX1_addClash 3 none : Cond) ∈ wsA := mA (i := 640) (by decide +kernel) rfl
theorem qw_641 : (.methodLink RX2 56 yX7_goesOn : Cond) ∈ wsA := mA (i := 641) (by decide +kernel) rfl
theorem qw_642 : (.instanceMethod yX7_goesOn : Cond) ∈ wsA := mA (i := 642) (by decide +kernel) rfl
theorem qw_643 : (.selects RX7 yX7_goesOn yX7_goesOn : Cond) ∈ wsA := mA (i := 643) (by decide +kernel) rfl
theorem qw_644 : (.code yX7_goesOn cX7_goesOn 2 (some .boolean) : Cond) ∈ wsA := mA (i := 644) (by decide +kernel) rfl
theorem qw_645 : (.methodLink RX7 55 yX7_sign : Cond) ∈ wsA := mA (i := 645) (by decide +kernel) rfl
theorem qw_646 : (.methodLink RX11 111 yX1_take : Cond) ∈ wsA := mA (i := 646) (by decide +kernel) rfl
theorem qw_647 : (.instanceMethod yX1_take : Cond) ∈ wsA := mA (i := 647) (by decide +kernel) rfl
theorem qw_648 : (.selects RX1 yX1_take yX1_take : Cond) ∈ wsA := mA (i := 648) (by decide +kernel) rfl
theorem qw_649 : (.code yX1_take cX1_take 3 none : Cond) ∈ wsA := mA (i := 649) (by decide +kernel) rfl
theorem qw_650 : (.methodLink RX11 115 yX3_begin : Cond) ∈ wsA := mA (i := 650) (by decide +kernel) rfl
theorem qw_651 : (.instanceMethod yX3_begin : Cond) ∈ wsA := mA (i := 651) (by decide +kernel) rfl
theorem qw_652 : (.selects RX3 yX3_begin yX3_begin : Cond) ∈ wsA := mA (i := 652) (by decide +kernel) rfl
theorem qw_653 : (.code yX3_begin cX3_begin 2 none : Cond) ∈ wsA := mA (i := 653) (by decide +kernel) rfl
theorem qw_654 : (.methodLink RX11 118 yX5_clear : Cond) ∈ wsA := mA (i := 654) (by decide +kernel) rfl
theorem qw_655 : (.instanceMethod yX5_clear : Cond) ∈ wsA := mA (i := 655) (by decide +kernel) rfl
theorem qw_656 : (.selects RX5 yX5_clear yX5_clear : Cond) ∈ wsA := mA (i := 656) (by decide +kernel) rfl
theorem qw_657 : (.code yX5_clear cX5_clear 1 none : Cond) ∈ wsA := mA (i := 657) (by decide +kernel) rfl
theorem qw_658 : (.methodLink RX11 121 yX6_clear : Cond) ∈ wsA := mA (i := 658) (by decide +kernel) rfl
theorem qw_659 : (.instanceMethod yX6_clear : Cond) ∈ wsA := mA (i := 659) (by decide +kernel) rfl
theorem qw_660 : (.selects RX6 yX6_clear yX6_clear : Cond) ∈ wsA := mA (i := 660) (by decide +kernel) rfl
theorem qw_661 : (.code yX6_clear cX6_clear 1 none : Cond) ∈ wsA := mA (i := 661) (by decide +kernel) rfl
theorem qw_667 : (.methodLink RX11 128 yX11_ruleAt : Cond) ∈ wsA := mA (i := 667) (by decide +kernel) rfl
theorem qw_669 : (.instanceMethod yX11_ruleAt : Cond) ∈ wsA := mA (i := 669) (by decide +kernel) rfl
theorem qw_670 : (.code yX11_ruleAt cX11_ruleAt 2 (some (.object "SpokenBite$Rule")) : Cond) ∈ wsA := mA (i := 670) (by decide +kernel) rfl
theorem qw_671 : (.methodLink RX11 132 yX10_read : Cond) ∈ wsA := mA (i := 671) (by decide +kernel) rfl
theorem qw_672 : (.instanceMethod yX10_read : Cond) ∈ wsA := mA (i := 672) (by decide +kernel) rfl
theorem qw_673 : (.selects RX10 yX10_read yX10_read : Cond) ∈ wsA := mA (i := 673) (by decide +kernel) rfl
theorem qw_674 : (.code yX10_read cX10_read 6 (some .int) : Cond) ∈ wsA := mA (i := 674) (by decide +kernel) rfl
theorem qw_675 : (.methodLink RX10 25 yX7_open : Cond) ∈ wsA := mA (i := 675) (by decide +kernel) rfl
theorem qw_676 : (.methodLink RX10 29 yX9_clear : Cond) ∈ wsA := mA (i := 676) (by decide +kernel) rfl
theorem qw_677 : (.instanceMethod yX9_clear : Cond) ∈ wsA := mA (i := 677) (by decide +kernel) rfl
theorem qw_678 : (.selects RX9 yX9_clear yX9_clear : Cond) ∈ wsA := mA (i := 678) (by decide +kernel) rfl
theorem qw_679 : (.code yX9_clear cX9_clear 1 none : Cond) ∈ wsA := mA (i := 679) (by decide +kernel) rfl
theorem qw_680 : (.methodLink RX10 36 yX7_sign : Cond) ∈ wsA := mA (i := 680) (by decide +kernel) rfl
theorem qw_682 : (.methodLink RX10 42 yX7_wordAmong : Cond) ∈ wsA := mA (i := 682) (by decide +kernel) rfl
theorem qw_683 : (.methodLink RX10 49 yX7_blame : Cond) ∈ wsA := mA (i := 683) (by decide +kernel) rfl
theorem qw_684 : (.methodLink RX10 53 yX7_skipWord : Cond) ∈ wsA := mA (i := 684) (by decide +kernel) rfl
theorem qw_685 : (.methodLink RX10 56 yX10_readSum : Cond) ∈ wsA := mA (i := 685) (by decide +kernel) rfl
theorem qw_687 : (.instanceMethod yX10_readSum : Cond) ∈ wsA := mA (i := 687) (by decide +kernel) rfl
theorem qw_688 : (.code yX10_readSum cX10_readSum 5 none : Cond) ∈ wsA := mA (i := 688) (by decide +kernel) rfl
theorem qw_689 : (.methodLink RX10 95 yX10_readValue : Cond) ∈ wsA := mA (i := 689) (by decide +kernel) rfl
theorem qw_691 : (.instanceMethod yX10_readValue : Cond) ∈ wsA := mA (i := 691) (by decide +kernel) rfl
theorem qw_692 : (.code yX10_readValue cX10_readValue 3 none : Cond) ∈ wsA := mA (i := 692) (by decide +kernel) rfl
theorem qw_694 : (.methodLink RX10 68 yX9_put : Cond) ∈ wsA := mA (i := 694) (by decide +kernel) rfl
theorem qw_695 : (.instanceMethod yX9_put : Cond) ∈ wsA := mA (i := 695) (by decide +kernel) rfl
theorem qw_696 : (.selects RX9 yX9_put yX9_put : Cond) ∈ wsA := mA (i := 696) (by decide +kernel) rfl
theorem qw_697 : (.code yX9_put cX9_put 2 none : Cond) ∈ wsA := mA (i := 697) (by decide +kernel) rfl
theorem qw_698 : (.constant RX10 104 (99999) : Cond) ∈ wsA := mA (i := 698) (by decide +kernel) rfl
theorem qw_699 : (.methodLink RX10 105 yX7_number : Cond) ∈ wsA := mA (i := 699) (by decide +kernel) rfl
theorem qw_700 : (.methodLink RX10 88 yX10_countValue : Cond) ∈ wsA := mA (i := 700) (by decide +kernel) rfl
theorem qw_702 : (.instanceMethod yX10_countValue : Cond) ∈ wsA := mA (i := 702) (by decide +kernel) rfl
theorem qw_703 : (.code yX10_countValue cX10_countValue 2 none : Cond) ∈ wsA := mA (i := 703) (by decide +kernel) rfl
theorem qw_704 : (.methodLink RX10 98 yX10_stepOf : Cond) ∈ wsA := mA (i := 704) (by decide +kernel) rfl
theorem qw_705 : (.static yX10_stepOf : Cond) ∈ wsA := mA (i := 705) (by decide +kernel) rfl
theorem qw_706 : (.code yX10_stepOf cX10_stepOf 1 (some .int) : Cond) ∈ wsA := mA (i := 706) (by decide +kernel) rfl
theorem qw_708 : (.methodLink RX10 64 yX10_readTest : Cond) ∈ wsA := mA (i := 708) (by decide +kernel) rfl
theorem qw_710 : (.instanceMethod yX10_readTest : Cond) ∈ wsA := mA (i := 710) (by decide +kernel) rfl
theorem qw_711 : (.code yX10_readTest cX10_readTest 5 none : Cond) ∈ wsA := mA (i := 711) (by decide +kernel) rfl
theorem qw_712 : (.methodLink RX10 75 yX10_readFact : Cond) ∈ wsA := mA (i := 712) (by decide +kernel) rfl
theorem qw_714 : (.instanceMethod yX10_readFact : Cond) ∈ wsA := mA (i := 714) (by decide +kernel) rfl
theorem qw_715 : (.code yX10_readFact cX10_readFact 5 none : Cond) ∈ wsA := mA (i := 715) (by decide +kernel) rfl
theorem qw_717 : (.methodLink RX10 82 yX10_closeBracket : Cond) ∈ wsA := mA (i := 717) (by decide +kernel) rfl
theorem qw_719 : (.instanceMethod yX10_closeBracket : Cond) ∈ wsA := mA (i := 719) (by decide +kernel) rfl
theorem qw_720 : (.code yX10_closeBracket cX10_closeBracket 1 none : Cond) ∈ wsA := mA (i := 720) (by decide +kernel) rfl
theorem qw_721 : (.methodLink RX10 85 yX10_readSign : Cond) ∈ wsA := mA (i := 721) (by decide +kernel) rfl
theorem qw_723 : (.instanceMethod yX10_readSign : Cond) ∈ wsA := mA (i := 723) (by decide +kernel) rfl
theorem qw_724 : (.code yX10_readSign cX10_readSign 2 (some .int) : Cond) ∈ wsA := mA (i := 724) (by decide +kernel) rfl
theorem qw_725 : (.methodLink RX10 91 yX7_takes : Cond) ∈ wsA := mA (i := 725) (by decide +kernel) rfl
theorem qw_726 : (.instanceMethod yX7_takes : Cond) ∈ wsA := mA (i := 726) (by decide +kernel) rfl
theorem qw_727 : (.selects RX7 yX7_takes yX7_takes : Cond) ∈ wsA := mA (i := 727) (by decide +kernel) rfl
theorem qw_728 : (.code yX7_takes cX7_takes 3 (some .boolean) : Cond) ∈ wsA := mA (i := 728) (by decide +kernel) rfl
theorem qw_730 : (.methodLink RX10 71 yX7_goesOn : Cond) ∈ wsA := mA (i := 730) (by decide +kernel) rfl
theorem qw_739 : (.methodLink RX11 141 yX11_isDish : Cond) ∈ wsA := mA (i := 739) (by decide +kernel) rfl
theorem qw_741 : (.instanceMethod yX11_isDish : Cond) ∈ wsA := mA (i := 741) (by decide +kernel) rfl
theorem qw_742 : (.code yX11_isDish cX11_isDish 2 (some .boolean) : Cond) ∈ wsA := mA (i := 742) (by decide +kernel) rfl
theorem qw_743 : (.methodLink RX11 145 yX11_within : Cond) ∈ wsA := mA (i := 743) (by decide +kernel) rfl
theorem qw_744 : (.static yX11_within : Cond) ∈ wsA := mA (i := 744) (by decide +kernel) rfl
theorem qw_745 : (.code yX11_within cX11_within 3 (some .boolean) : Cond) ∈ wsA := mA (i := 745) (by decide +kernel) rfl
theorem qw_746 : (.methodLink RX11 155 yX3_onTable : Cond) ∈ wsA := mA (i := 746) (by decide +kernel) rfl
theorem qw_747 : (.instanceMethod yX3_onTable : Cond) ∈ wsA := mA (i := 747) (by decide +kernel) rfl
theorem qw_748 : (.selects RX3 yX3_onTable yX3_onTable : Cond) ∈ wsA := mA (i := 748) (by decide +kernel) rfl
theorem qw_749 : (.code yX3_onTable cX3_onTable 2 (some .boolean) : Cond) ∈ wsA := mA (i := 749) (by decide +kernel) rfl
theorem qw_750 : (.methodLink RX11 158 yX3_placeOf : Cond) ∈ wsA := mA (i := 750) (by decide +kernel) rfl
theorem qw_751 : (.instanceMethod yX3_placeOf : Cond) ∈ wsA := mA (i := 751) (by decide +kernel) rfl
theorem qw_752 : (.selects RX3 yX3_placeOf yX3_placeOf : Cond) ∈ wsA := mA (i := 752) (by decide +kernel) rfl
theorem qw_753 : (.code yX3_placeOf cX3_placeOf 3 (some .int) : Cond) ∈ wsA := mA (i := 753) (by decide +kernel) rfl
theorem qw_754 : (.methodLink RX3 47 yX3_dishIn : Cond) ∈ wsA := mA (i := 754) (by decide +kernel) rfl
theorem qw_755 : (.instanceMethod yX3_dishIn : Cond) ∈ wsA := mA (i := 755) (by decide +kernel) rfl
theorem qw_756 : (.selects RX3 yX3_dishIn yX3_dishIn : Cond) ∈ wsA := mA (i := 756) (by decide +kernel) rfl
theorem qw_757 : (.code yX3_dishIn cX3_dishIn 2 (some .int) : Cond) ∈ wsA := mA (i := 757) (by decide +kernel) rfl
theorem qw_762 : (.methodLink RX11 162 yX11_isGuest : Cond) ∈ wsA := mA (i := 762) (by decide +kernel) rfl
theorem qw_764 : (.instanceMethod yX11_isGuest : Cond) ∈ wsA := mA (i := 764) (by decide +kernel) rfl
theorem qw_765 : (.code yX11_isGuest cX11_isGuest 2 (some .boolean) : Cond) ∈ wsA := mA (i := 765) (by decide +kernel) rfl
theorem qw_766 : (.methodLink RX11 168 yX3_knownBy : Cond) ∈ wsA := mA (i := 766) (by decide +kernel) rfl
theorem qw_767 : (.instanceMethod yX3_knownBy : Cond) ∈ wsA := mA (i := 767) (by decide +kernel) rfl
theorem qw_768 : (.selects RX3 yX3_knownBy yX3_knownBy : Cond) ∈ wsA := mA (i := 768) (by decide +kernel) rfl
theorem qw_769 : (.code yX3_knownBy cX3_knownBy 2 (some .int) : Cond) ∈ wsA := mA (i := 769) (by decide +kernel) rfl
theorem qw_770 : (.methodLink RX11 171 yX3_sits : Cond) ∈ wsA := mA (i := 770) (by decide +kernel) rfl
theorem qw_771 : (.instanceMethod yX3_sits : Cond) ∈ wsA := mA (i := 771) (by decide +kernel) rfl
theorem qw_772 : (.selects RX3 yX3_sits yX3_sits : Cond) ∈ wsA := mA (i := 772) (by decide +kernel) rfl
theorem qw_773 : (.code yX3_sits cX3_sits 2 (some .boolean) : Cond) ∈ wsA := mA (i := 773) (by decide +kernel) rfl
theorem qw_778 : (.methodLink RX11 174 yX11_untold : Cond) ∈ wsA := mA (i := 778) (by decide +kernel) rfl
theorem qw_780 : (.instanceMethod yX11_untold : Cond) ∈ wsA := mA (i := 780) (by decide +kernel) rfl
theorem qw_781 : (.code yX11_untold cX11_untold 1 (some .boolean) : Cond) ∈ wsA := mA (i := 781) (by decide +kernel) rfl
theorem qw_782 : (.methodLink RX11 178 yX11_isSecret : Cond) ∈ wsA := mA (i := 782) (by decide +kernel) rfl
theorem qw_783 : (.static yX11_isSecret : Cond) ∈ wsA := mA (i := 783) (by decide +kernel) rfl
theorem qw_784 : (.code yX11_isSecret cX11_isSecret 1 (some .boolean) : Cond) ∈ wsA := mA (i := 784) (by decide +kernel) rfl
theorem qw_789 : (.methodLink RX11 184 yX3_dishIn : Cond) ∈ wsA := mA (i := 789) (by decide +kernel) rfl
theorem qw_794 : (.methodLink RX11 190 yX6_keep : Cond) ∈ wsA := mA (i := 794) (by decide +kernel) rfl
theorem qw_795 : (.instanceMethod yX6_keep : Cond) ∈ wsA := mA (i := 795) (by decide +kernel) rfl
theorem qw_796 : (.selects RX6 yX6_keep yX6_keep : Cond) ∈ wsA := mA (i := 796) (by decide +kernel) rfl
theorem qw_797 : (.code yX6_keep cX6_keep 3 none : Cond) ∈ wsA := mA (i := 797) (by decide +kernel) rfl
theorem qw_798 : (.methodLink RX6 25 yX6_slot : Cond) ∈ wsA := mA (i := 798) (by decide +kernel) rfl
theorem qw_800 : (.instanceMethod yX6_slot : Cond) ∈ wsA := mA (i := 800) (by decide +kernel) rfl
theorem qw_801 : (.code yX6_slot cX6_slot 2 (some (.object "SpokenBite$Evening")) : Cond) ∈ wsA := mA (i := 801) (by decide +kernel) rfl
theorem qw_802 : (.methodLink RX6 29 yX3_take : Cond) ∈ wsA := mA (i := 802) (by decide +kernel) rfl
theorem qw_803 : (.instanceMethod yX3_take : Cond) ∈ wsA := mA (i := 803) (by decide +kernel) rfl
theorem qw_804 : (.selects RX3 yX3_take yX3_take : Cond) ∈ wsA := mA (i := 804) (by decide +kernel) rfl
theorem qw_805 : (.code yX3_take cX3_take 2 none : Cond) ∈ wsA := mA (i := 805) (by decide +kernel) rfl
theorem qw_806 : (.methodLink RX6 33 Lib.Math.min.name : Cond) ∈ wsA := mA (i := 806) (by decide +kernel) rfl
theorem qw_807 : (.methodLink RX11 194 yX11_layNow : Cond) ∈ wsA := mA (i := 807) (by decide +kernel) rfl
theorem qw_809 : (.instanceMethod yX11_layNow : Cond) ∈ wsA := mA (i := 809) (by decide +kernel) rfl
theorem qw_810 : (.code yX11_layNow cX11_layNow 1 none : Cond) ∈ wsA := mA (i := 810) (by decide +kernel) rfl
theorem qw_811 : (.methodLink RX11 226 yX0_lay : Cond) ∈ wsA := mA (i := 811) (by decide +kernel) rfl
theorem qw_812 : (.instanceMethod yX0_lay : Cond) ∈ wsA := mA (i := 812) (by decide +kernel) rfl
theorem qw_813 : (.selects RX0 yX0_lay yX0_lay : Cond) ∈ wsA := mA (i := 813) (by decide +kernel) rfl
theorem qw_814 : (.code yX0_lay cX0_lay 3 none : Cond) ∈ wsA := mA (i := 814) (by decide +kernel) rfl
theorem qw_815 : (.methodLink RX11 197 yX0_pass : Cond) ∈ wsA := mA (i := 815) (by decide +kernel) rfl
theorem qw_816 : (.instanceMethod yX0_pass : Cond) ∈ wsA := mA (i := 816) (by decide +kernel) rfl
theorem qw_817 : (.selects RX0 yX0_pass yX0_pass : Cond) ∈ wsA := mA (i := 817) (by decide +kernel) rfl
theorem qw_818 : (.code yX0_pass cX0_pass 5 none : Cond) ∈ wsA := mA (i := 818) (by decide +kernel) rfl
theorem qw_819 : (.methodLink RX0 43 yX0_choice : Cond) ∈ wsA := mA (i := 819) (by decide +kernel) rfl
theorem qw_821 : (.instanceMethod yX0_choice : Cond) ∈ wsA := mA (i := 821) (by decide +kernel) rfl
theorem qw_822 : (.code yX0_choice cX0_choice 9 (some .int) : Cond) ∈ wsA := mA (i := 822) (by decide +kernel) rfl
theorem qw_823 : (.methodLink RX0 81 yJ6_numberOfTrailingZeros_0f7a4 : Cond) ∈ wsA := mA (i := 823) (by decide +kernel) rfl
theorem qw_824 : (.static yJ6_numberOfTrailingZeros_0f7a4 : Cond) ∈ wsA := mA (i := 824) (by decide +kernel) rfl
theorem qw_825 : (.code yJ6_numberOfTrailingZeros_0f7a4 cJ6_numberOfTrailingZeros_0f7a4 2 (some .int) : Cond) ∈ wsA := mA (i := 825) (by decide +kernel) rfl
theorem qw_826 : (.constant RJ6 264 (65536) : Cond) ∈ wsA := mA (i := 826) (by decide +kernel) rfl
theorem qw_827 : (.methodLink RX0 87 yX0_fillWords : Cond) ∈ wsA := mA (i := 827) (by decide +kernel) rfl
theorem qw_829 : (.instanceMethod yX0_fillWords : Cond) ∈ wsA := mA (i := 829) (by decide +kernel) rfl
theorem qw_830 : (.code yX0_fillWords cX0_fillWords 3 none : Cond) ∈ wsA := mA (i := 830) (by decide +kernel) rfl
theorem qw_831 : (.methodLink RX0 105 yX3_topDish : Cond) ∈ wsA := mA (i := 831) (by decide +kernel) rfl
theorem qw_832 : (.instanceMethod yX3_topDish : Cond) ∈ wsA := mA (i := 832) (by decide +kernel) rfl
theorem qw_833 : (.selects RX3 yX3_topDish yX3_topDish : Cond) ∈ wsA := mA (i := 833) (by decide +kernel) rfl
theorem qw_834 : (.code yX3_topDish cX3_topDish 2 (some .int) : Cond) ∈ wsA := mA (i := 834) (by decide +kernel) rfl
theorem qw_835 : (.methodLink RX3 50 yJ6_numberOfTrailingZeros_0f7a4 : Cond) ∈ wsA := mA (i := 835) (by decide +kernel) rfl
theorem qw_836 : (.methodLink RX0 109 yJ6_bitCount_0f7a4 : Cond) ∈ wsA := mA (i := 836) (by decide +kernel) rfl
theorem qw_837 : (.static yJ6_bitCount_0f7a4 : Cond) ∈ wsA := mA (i := 837) (by decide +kernel) rfl
theorem qw_838 : (.code yJ6_bitCount_0f7a4 cJ6_bitCount_0f7a4 1 (some .int) : Cond) ∈ wsA := mA (i := 838) (by decide +kernel) rfl
theorem qw_839 : (.constant RJ6 265 (1431655765) : Cond) ∈ wsA := mA (i := 839) (by decide +kernel) rfl
theorem qw_840 : (.constant RJ6 266 (858993459) : Cond) ∈ wsA := mA (i := 840) (by decide +kernel) rfl
theorem qw_841 : (.constant RJ6 267 (252645135) : Cond) ∈ wsA := mA (i := 841) (by decide +kernel) rfl
theorem qw_842 : (.methodLink RX0 112 yX3_dishesInThroat : Cond) ∈ wsA := mA (i := 842) (by decide +kernel) rfl
theorem qw_843 : (.instanceMethod yX3_dishesInThroat : Cond) ∈ wsA := mA (i := 843) (by decide +kernel) rfl
theorem qw_844 : (.selects RX3 yX3_dishesInThroat yX3_dishesInThroat : Cond) ∈ wsA := mA (i := 844) (by decide +kernel) rfl
theorem qw_845 : (.code yX3_dishesInThroat cX3_dishesInThroat 4 (some .int) : Cond) ∈ wsA := mA (i := 845) (by decide +kernel) rfl
theorem qw_846 : (.methodLink RX0 90 yX3_knownByAny : Cond) ∈ wsA := mA (i := 846) (by decide +kernel) rfl
theorem qw_847 : (.instanceMethod yX3_knownByAny : Cond) ∈ wsA := mA (i := 847) (by decide +kernel) rfl
theorem qw_848 : (.selects RX3 yX3_knownByAny yX3_knownByAny : Cond) ∈ wsA := mA (i := 848) (by decide +kernel) rfl
theorem qw_849 : (.code yX3_knownByAny cX3_knownByAny 4 (some .int) : Cond) ∈ wsA := mA (i := 849) (by decide +kernel) rfl
theorem qw_850 : (.methodLink RX3 39 yX3_knownBy : Cond) ∈ wsA := mA (i := 850) (by decide +kernel) rfl
theorem qw_851 : (.methodLink RX0 93 yX3_onTable : Cond) ∈ wsA := mA (i := 851) (by decide +kernel) rfl
theorem qw_852 : (.methodLink RX0 97 yX0_fillWordsOfDish : Cond) ∈ wsA := mA (i := 852) (by decide +kernel) rfl
theorem qw_854 : (.instanceMethod yX0_fillWordsOfDish : Cond) ∈ wsA := mA (i := 854) (by decide +kernel) rfl
theorem qw_855 : (.code yX0_fillWordsOfDish cX0_fillWordsOfDish 7 none : Cond) ∈ wsA := mA (i := 855) (by decide +kernel) rfl
theorem qw_856 : (.methodLink RX0 122 yX3_sits : Cond) ∈ wsA := mA (i := 856) (by decide +kernel) rfl
theorem qw_857 : (.methodLink RX0 125 yX3_knownBy : Cond) ∈ wsA := mA (i := 857) (by decide +kernel) rfl
theorem qw_858 : (.methodLink RX0 101 yX9_worth : Cond) ∈ wsA := mA (i := 858) (by decide +kernel) rfl
theorem qw_859 : (.instanceMethod yX9_worth : Cond) ∈ wsA := mA (i := 859) (by decide +kernel) rfl
theorem qw_860 : (.selects RX9 yX9_worth yX9_worth : Cond) ∈ wsA := mA (i := 860) (by decide +kernel) rfl
theorem qw_861 : (.code yX9_worth cX9_worth 8 (some .long) : Cond) ∈ wsA := mA (i := 861) (by decide +kernel) rfl
theorem qw_862 : (.methodLink RX9 23 yX9_joined : Cond) ∈ wsA := mA (i := 862) (by decide +kernel) rfl
theorem qw_863 : (.static yX9_joined : Cond) ∈ wsA := mA (i := 863) (by decide +kernel) rfl
theorem qw_864 : (.code yX9_joined cX9_joined 5 (some .long) : Cond) ∈ wsA := mA (i := 864) (by decide +kernel) rfl
theorem qw_865 : (.methodLink RX0 47 yX0_passEating : Cond) ∈ wsA := mA (i := 865) (by decide +kernel) rfl
theorem qw_866 : (.instanceMethod yX0_passEating : Cond) ∈ wsA := mA (i := 866) (by decide +kernel) rfl
theorem qw_867 : (.selects RX0 yX0_passEating yX0_passEating : Cond) ∈ wsA := mA (i := 867) (by decide +kernel) rfl
theorem qw_868 : (.code yX0_passEating cX0_passEating 3 none : Cond) ∈ wsA := mA (i := 868) (by decide +kernel) rfl
theorem qw_869 : (.methodLink RX0 65 yX0_speak : Cond) ∈ wsA := mA (i := 869) (by decide +kernel) rfl
theorem qw_871 : (.instanceMethod yX0_speak : Cond) ∈ wsA := mA (i := 871) (by decide +kernel) rfl
theorem qw_872 : (.code yX0_speak cX0_speak 5 none : Cond) ∈ wsA := mA (i := 872) (by decide +kernel) rfl
theorem qw_873 : (.methodLink RX0 140 yX3_dishIn : Cond) ∈ wsA := mA (i := 873) (by decide +kernel) rfl
theorem qw_874 : (.methodLink RX0 69 yX0_hear : Cond) ∈ wsA := mA (i := 874) (by decide +kernel) rfl
theorem qw_876 : (.instanceMethod yX0_hear : Cond) ∈ wsA := mA (i := 876) (by decide +kernel) rfl
theorem qw_877 : (.code yX0_hear cX0_hear 3 none : Cond) ∈ wsA := mA (i := 877) (by decide +kernel) rfl
theorem qw_878 : (.methodLink RX0 146 yX3_learn : Cond) ∈ wsA := mA (i := 878) (by decide +kernel) rfl
theorem qw_879 : (.instanceMethod yX3_learn : Cond) ∈ wsA := mA (i := 879) (by decide +kernel) rfl
theorem qw_880 : (.selects RX3 yX3_learn yX3_learn : Cond) ∈ wsA := mA (i := 880) (by decide +kernel) rfl
theorem qw_881 : (.code yX3_learn cX3_learn 3 none : Cond) ∈ wsA := mA (i := 881) (by decide +kernel) rfl
theorem qw_882 : (.methodLink RX0 150 yX1_isTorn : Cond) ∈ wsA := mA (i := 882) (by decide +kernel) rfl
theorem qw_883 : (.instanceMethod yX1_isTorn : Cond) ∈ wsA := mA (i := 883) (by decide +kernel) rfl
theorem qw_884 : (.selects RX1 yX1_isTorn yX1_isTorn : Cond) ∈ wsA := mA (i := 884) (by decide +kernel) rfl
theorem qw_885 : (.code yX1_isTorn cX1_isTorn 4 (some .boolean) : Cond) ∈ wsA := mA (i := 885) (by decide +kernel) rfl
theorem qw_886 : (.methodLink RX0 51 yX0_waitsForMinute : Cond) ∈ wsA := mA (i := 886) (by decide +kernel) rfl
theorem qw_888 : (.instanceMethod yX0_waitsForMinute : Cond) ∈ wsA := mA (i := 888) (by decide +kernel) rfl
theorem qw_889 : (.code yX0_waitsForMinute cX0_waitsForMinute 2 (some .boolean) : Cond) ∈ wsA := mA (i := 889) (by decide +kernel) rfl
theorem qw_902 : (.methodLink RX11 209 yX3_forget : Cond) ∈ wsA := mA (i := 902) (by decide +kernel) rfl
theorem qw_903 : (.instanceMethod yX3_forget : Cond) ∈ wsA := mA (i := 903) (by decide +kernel) rfl
theorem qw_904 : (.selects RX3 yX3_forget yX3_forget : Cond) ∈ wsA := mA (i := 904) (by decide +kernel) rfl
theorem qw_905 : (.code yX3_forget cX3_forget 2 none : Cond) ∈ wsA := mA (i := 905) (by decide +kernel) rfl
theorem qw_906 : (.constantLong RX3 43 (255) : Cond) ∈ wsA := mA (i := 906) (by decide +kernel) rfl
theorem qw_907 : (.constantLong RX3 45 (-1) : Cond) ∈ wsA := mA (i := 907) (by decide +kernel) rfl
theorem qw_912 : (.methodLink RX11 215 yX3_learn : Cond) ∈ wsA := mA (i := 912) (by decide +kernel) rfl
theorem qw_917 : (.methodLink RX11 219 yX6_giveBack : Cond) ∈ wsA := mA (i := 917) (by decide +kernel) rfl
theorem qw_918 : (.instanceMethod yX6_giveBack : Cond) ∈ wsA := mA (i := 918) (by decide +kernel) rfl
theorem qw_919 : (.selects RX6 yX6_giveBack yX6_giveBack : Cond) ∈ wsA := mA (i := 919) (by decide +kernel) rfl
theorem qw_920 : (.code yX6_giveBack cX6_giveBack 3 (some .boolean) : Cond) ∈ wsA := mA (i := 920) (by decide +kernel) rfl
theorem qw_925 : (.methodLink RX11 232 yX11_startTrial : Cond) ∈ wsA := mA (i := 925) (by decide +kernel) rfl
theorem qw_927 : (.instanceMethod yX11_startTrial : Cond) ∈ wsA := mA (i := 927) (by decide +kernel) rfl
theorem qw_928 : (.code yX11_startTrial cX11_startTrial 1 none : Cond) ∈ wsA := mA (i := 928) (by decide +kernel) rfl
theorem qw_929 : (.methodLink RX11 230 yX3_take : Cond) ∈ wsA := mA (i := 929) (by decide +kernel) rfl
theorem qw_930 : (.methodLink RX11 235 yX0_passSome : Cond) ∈ wsA := mA (i := 930) (by decide +kernel) rfl
theorem qw_931 : (.instanceMethod yX0_passSome : Cond) ∈ wsA := mA (i := 931) (by decide +kernel) rfl
theorem qw_932 : (.selects RX0 yX0_passSome yX0_passSome : Cond) ∈ wsA := mA (i := 932) (by decide +kernel) rfl
theorem qw_933 : (.code yX0_passSome cX0_passSome 4 none : Cond) ∈ wsA := mA (i := 933) (by decide +kernel) rfl
theorem qw_934 : (.methodLink RX0 78 yX0_pass : Cond) ∈ wsA := mA (i := 934) (by decide +kernel) rfl
theorem qw_951 : (.methodLink RX11 245 yX11_bestOfRows : Cond) ∈ wsA := mA (i := 951) (by decide +kernel) rfl
theorem qw_953 : (.instanceMethod yX11_bestOfRows : Cond) ∈ wsA := mA (i := 953) (by decide +kernel) rfl
theorem qw_954 : (.code yX11_bestOfRows cX11_bestOfRows 4 (some .int) : Cond) ∈ wsA := mA (i := 954) (by decide +kernel) rfl
theorem qw_955 : (.methodLink RX11 249 yX8_prepare : Cond) ∈ wsA := mA (i := 955) (by decide +kernel) rfl
theorem qw_956 : (.instanceMethod yX8_prepare : Cond) ∈ wsA := mA (i := 956) (by decide +kernel) rfl
theorem qw_957 : (.selects RX8 yX8_prepare yX8_prepare : Cond) ∈ wsA := mA (i := 957) (by decide +kernel) rfl
theorem qw_958 : (.code yX8_prepare cX8_prepare 5 none : Cond) ∈ wsA := mA (i := 958) (by decide +kernel) rfl
theorem qw_959 : (.methodLink RX8 38 yX8_stepAt : Cond) ∈ wsA := mA (i := 959) (by decide +kernel) rfl
theorem qw_961 : (.instanceMethod yX8_stepAt : Cond) ∈ wsA := mA (i := 961) (by decide +kernel) rfl
theorem qw_962 : (.code yX8_stepAt cX8_stepAt 2 (some (.object "SpokenBite$Evening")) : Cond) ∈ wsA := mA (i := 962) (by decide +kernel) rfl
theorem qw_963 : (.methodLink RX8 42 yX3_take : Cond) ∈ wsA := mA (i := 963) (by decide +kernel) rfl
theorem qw_964 : (.methodLink RX11 253 yX8_go : Cond) ∈ wsA := mA (i := 964) (by decide +kernel) rfl
theorem qw_965 : (.instanceMethod yX8_go : Cond) ∈ wsA := mA (i := 965) (by decide +kernel) rfl
theorem qw_966 : (.selects RX8 yX8_go yX8_go : Cond) ∈ wsA := mA (i := 966) (by decide +kernel) rfl
theorem qw_967 : (.code yX8_go cX8_go 7 none : Cond) ∈ wsA := mA (i := 967) (by decide +kernel) rfl
theorem qw_968 : (.methodLink RX8 46 yX0_fits : Cond) ∈ wsA := mA (i := 968) (by decide +kernel) rfl
theorem qw_969 : (.instanceMethod yX0_fits : Cond) ∈ wsA := mA (i := 969) (by decide +kernel) rfl
theorem qw_970 : (.selects RX0 yX0_fits yX0_fits : Cond) ∈ wsA := mA (i := 970) (by decide +kernel) rfl
theorem qw_971 : (.code yX0_fits cX0_fits 5 (some .boolean) : Cond) ∈ wsA := mA (i := 971) (by decide +kernel) rfl
theorem qw_972 : (.methodLink RX0 153 yX5_last : Cond) ∈ wsA := mA (i := 972) (by decide +kernel) rfl
theorem qw_973 : (.instanceMethod yX5_last : Cond) ∈ wsA := mA (i := 973) (by decide +kernel) rfl
theorem qw_974 : (.selects RX5 yX5_last yX5_last : Cond) ∈ wsA := mA (i := 974) (by decide +kernel) rfl
theorem qw_975 : (.code yX5_last cX5_last 3 (some .int) : Cond) ∈ wsA := mA (i := 975) (by decide +kernel) rfl
theorem qw_976 : (.methodLink RX5 28 yJ9_max_7cf53 : Cond) ∈ wsA := mA (i := 976) (by decide +kernel) rfl
theorem qw_977 : (.static yJ9_max_7cf53 : Cond) ∈ wsA := mA (i := 977) (by decide +kernel) rfl
theorem qw_978 : (.code yJ9_max_7cf53 cJ9_max_7cf53 2 (some .int) : Cond) ∈ wsA := mA (i := 978) (by decide +kernel) rfl
theorem qw_979 : (.methodLink RX0 158 yX5_hold : Cond) ∈ wsA := mA (i := 979) (by decide +kernel) rfl
theorem qw_980 : (.instanceMethod yX5_hold : Cond) ∈ wsA := mA (i := 980) (by decide +kernel) rfl
theorem qw_981 : (.selects RX5 yX5_hold yX5_hold : Cond) ∈ wsA := mA (i := 981) (by decide +kernel) rfl
theorem qw_982 : (.code yX5_hold cX5_hold 6 (some .boolean) : Cond) ∈ wsA := mA (i := 982) (by decide +kernel) rfl
theorem qw_983 : (.methodLink RX5 34 yX3_knownBy : Cond) ∈ wsA := mA (i := 983) (by decide +kernel) rfl
theorem qw_984 : (.methodLink RX8 52 yX8_weigh : Cond) ∈ wsA := mA (i := 984) (by decide +kernel) rfl
theorem qw_986 : (.instanceMethod yX8_weigh : Cond) ∈ wsA := mA (i := 986) (by decide +kernel) rfl
theorem qw_987 : (.code yX8_weigh cX8_weigh 4 none : Cond) ∈ wsA := mA (i := 987) (by decide +kernel) rfl
theorem qw_988 : (.methodLink RX8 80 yX8_worthOf : Cond) ∈ wsA := mA (i := 988) (by decide +kernel) rfl
theorem qw_990 : (.instanceMethod yX8_worthOf : Cond) ∈ wsA := mA (i := 990) (by decide +kernel) rfl
theorem qw_991 : (.code yX8_worthOf cX8_worthOf 2 (some .int) : Cond) ∈ wsA := mA (i := 991) (by decide +kernel) rfl
theorem qw_992 : (.methodLink RX8 84 yX3_knownBySitting : Cond) ∈ wsA := mA (i := 992) (by decide +kernel) rfl
theorem qw_993 : (.instanceMethod yX3_knownBySitting : Cond) ∈ wsA := mA (i := 993) (by decide +kernel) rfl
theorem qw_994 : (.selects RX3 yX3_knownBySitting yX3_knownBySitting : Cond) ∈ wsA := mA (i := 994) (by decide +kernel) rfl
theorem qw_995 : (.code yX3_knownBySitting cX3_knownBySitting 3 (some .int) : Cond) ∈ wsA := mA (i := 995) (by decide +kernel) rfl
theorem qw_996 : (.methodLink RX3 55 yX3_sits : Cond) ∈ wsA := mA (i := 996) (by decide +kernel) rfl
theorem qw_997 : (.methodLink RX3 59 yJ6_bitCount_0f7a4 : Cond) ∈ wsA := mA (i := 997) (by decide +kernel) rfl
theorem qw_998 : (.methodLink RX8 92 yJ13_bitCount_95d88 : Cond) ∈ wsA := mA (i := 998) (by decide +kernel) rfl
theorem qw_999 : (.static yJ13_bitCount_95d88 : Cond) ∈ wsA := mA (i := 999) (by decide +kernel) rfl
theorem qw_1000 : (.code yJ13_bitCount_95d88 cJ13_bitCount_95d88 2 (some .int) : Cond) ∈ wsA := mA (i := 1000) (by decide +kernel) rfl
theorem qw_1001 : (.constantLong RJ13 314 (6148914691236517205) : Cond) ∈ wsA := mA (i := 1001) (by decide +kernel) rfl
theorem qw_1002 : (.constantLong RJ13 316 (3689348814741910323) : Cond) ∈ wsA := mA (i := 1002) (by decide +kernel) rfl
theorem qw_1003 : (.constantLong RJ13 318 (1085102592571150095) : Cond) ∈ wsA := mA (i := 1003) (by decide +kernel) rfl
theorem qw_1004 : (.methodLink RX8 55 yX5_hold : Cond) ∈ wsA := mA (i := 1004) (by decide +kernel) rfl
theorem qw_1005 : (.methodLink RX8 61 yX8_mayEatNone : Cond) ∈ wsA := mA (i := 1005) (by decide +kernel) rfl
theorem qw_1007 : (.instanceMethod yX8_mayEatNone : Cond) ∈ wsA := mA (i := 1007) (by decide +kernel) rfl
theorem qw_1008 : (.code yX8_mayEatNone cX8_mayEatNone 2 (some .boolean) : Cond) ∈ wsA := mA (i := 1008) (by decide +kernel) rfl
theorem qw_1009 : (.methodLink RX8 65 yX3_onTable : Cond) ∈ wsA := mA (i := 1009) (by decide +kernel) rfl
theorem qw_1010 : (.methodLink RX8 69 yX0_passEating : Cond) ∈ wsA := mA (i := 1010) (by decide +kernel) rfl
theorem qw_1011 : (.methodLink RX8 73 yX8_go : Cond) ∈ wsA := mA (i := 1011) (by decide +kernel) rfl
theorem qw_1012 : (.methodLink RX11 257 yX8_amount : Cond) ∈ wsA := mA (i := 1012) (by decide +kernel) rfl
theorem qw_1013 : (.instanceMethod yX8_amount : Cond) ∈ wsA := mA (i := 1013) (by decide +kernel) rfl
theorem qw_1014 : (.selects RX8 yX8_amount yX8_amount : Cond) ∈ wsA := mA (i := 1014) (by decide +kernel) rfl
theorem qw_1015 : (.code yX8_amount cX8_amount 1 (some .int) : Cond) ∈ wsA := mA (i := 1015) (by decide +kernel) rfl
theorem qw_1016 : (.methodLink RX11 261 yX8_dishOfFirst : Cond) ∈ wsA := mA (i := 1016) (by decide +kernel) rfl
theorem qw_1017 : (.instanceMethod yX8_dishOfFirst : Cond) ∈ wsA := mA (i := 1017) (by decide +kernel) rfl
theorem qw_1018 : (.selects RX8 yX8_dishOfFirst yX8_dishOfFirst : Cond) ∈ wsA := mA (i := 1018) (by decide +kernel) rfl
theorem qw_1019 : (.code yX8_dishOfFirst cX8_dishOfFirst 2 (some .int) : Cond) ∈ wsA := mA (i := 1019) (by decide +kernel) rfl
theorem qw_1032 : (.methodLink RX11 267 yX3_knownByAny : Cond) ∈ wsA := mA (i := 1032) (by decide +kernel) rfl
theorem qw_1033 : (.methodLink RX11 270 yJ6_bitCount_0f7a4 : Cond) ∈ wsA := mA (i := 1033) (by decide +kernel) rfl
theorem qw_1034 : (.methodLink RX11 275 yX1_isTorn : Cond) ∈ wsA := mA (i := 1034) (by decide +kernel) rfl
theorem qw_1043 : (.methodLink RX11 278 yX3_leaveOut : Cond) ∈ wsA := mA (i := 1043) (by decide +kernel) rfl
theorem qw_1044 : (.instanceMethod yX3_leaveOut : Cond) ∈ wsA := mA (i := 1044) (by decide +kernel) rfl
theorem qw_1045 : (.selects RX3 yX3_leaveOut yX3_leaveOut : Cond) ∈ wsA := mA (i := 1045) (by decide +kernel) rfl
theorem qw_1046 : (.code yX3_leaveOut cX3_leaveOut 2 none : Cond) ∈ wsA := mA (i := 1046) (by decide +kernel) rfl
theorem qw_1047 : (.methodLink RX11 285 yJ13_bitCount_95d88 : Cond) ∈ wsA := mA (i := 1047) (by decide +kernel) rfl
theorem qw_1052 : (.methodLink RX11 290 yX11_fillGains : Cond) ∈ wsA := mA (i := 1052) (by decide +kernel) rfl
theorem qw_1054 : (.instanceMethod yX11_fillGains : Cond) ∈ wsA := mA (i := 1054) (by decide +kernel) rfl
theorem qw_1055 : (.code yX11_fillGains cX11_fillGains 5 none : Cond) ∈ wsA := mA (i := 1055) (by decide +kernel) rfl
theorem qw_1056 : (.methodLink RX11 298 yX11_gainOf : Cond) ∈ wsA := mA (i := 1056) (by decide +kernel) rfl
theorem qw_1058 : (.instanceMethod yX11_gainOf : Cond) ∈ wsA := mA (i := 1058) (by decide +kernel) rfl
theorem qw_1059 : (.code yX11_gainOf cX11_gainOf 2 (some .int) : Cond) ∈ wsA := mA (i := 1059) (by decide +kernel) rfl
theorem qw_1060 : (.methodLink RX11 294 yX11_isRest : Cond) ∈ wsA := mA (i := 1060) (by decide +kernel) rfl
theorem qw_1062 : (.instanceMethod yX11_isRest : Cond) ∈ wsA := mA (i := 1062) (by decide +kernel) rfl
theorem qw_1063 : (.code yX11_isRest cX11_isRest 6 (some .boolean) : Cond) ∈ wsA := mA (i := 1063) (by decide +kernel) rfl
theorem qw_1064 : (.methodLink RX11 301 yX11_gainAt : Cond) ∈ wsA := mA (i := 1064) (by decide +kernel) rfl
theorem qw_1066 : (.instanceMethod yX11_gainAt : Cond) ∈ wsA := mA (i := 1066) (by decide +kernel) rfl
theorem qw_1067 : (.code yX11_gainAt cX11_gainAt 5 (some .int) : Cond) ∈ wsA := mA (i := 1067) (by decide +kernel) rfl
theorem qw_1072 : (.methodLink RX11 304 yX11_shareOf : Cond) ∈ wsA := mA (i := 1072) (by decide +kernel) rfl
theorem qw_1074 : (.instanceMethod yX11_shareOf : Cond) ∈ wsA := mA (i := 1074) (by decide +kernel) rfl
theorem qw_1075 : (.code yX11_shareOf cX11_shareOf 3 (some .int) : Cond) ∈ wsA := mA (i := 1075) (by decide +kernel) rfl
theorem qw_1084 : (.methodLink RX11 311 yX5_add : Cond) ∈ wsA := mA (i := 1084) (by decide +kernel) rfl
theorem qw_1085 : (.instanceMethod yX5_add : Cond) ∈ wsA := mA (i := 1085) (by decide +kernel) rfl
theorem qw_1086 : (.selects RX5 yX5_add yX5_add : Cond) ∈ wsA := mA (i := 1086) (by decide +kernel) rfl
theorem qw_1087 : (.code yX5_add cX5_add 5 (some .boolean) : Cond) ∈ wsA := mA (i := 1087) (by decide +kernel) rfl
theorem qw_1092 : (.methodLink RX11 320 yX11_fitsNotes : Cond) ∈ wsA := mA (i := 1092) (by decide +kernel) rfl
theorem qw_1094 : (.instanceMethod yX11_fitsNotes : Cond) ∈ wsA := mA (i := 1094) (by decide +kernel) rfl
theorem qw_1095 : (.code yX11_fitsNotes cX11_fitsNotes 2 (some .boolean) : Cond) ∈ wsA := mA (i := 1095) (by decide +kernel) rfl
theorem qw_1096 : (.methodLink RX11 316 yX0_fits : Cond) ∈ wsA := mA (i := 1096) (by decide +kernel) rfl
theorem qw_1101 : (.methodLink RX11 323 yX11_gatherFitting : Cond) ∈ wsA := mA (i := 1101) (by decide +kernel) rfl
theorem qw_1103 : (.instanceMethod yX11_gatherFitting : Cond) ∈ wsA := mA (i := 1103) (by decide +kernel) rfl
theorem qw_1104 : (.code yX11_gatherFitting cX11_gatherFitting 4 (some .int) : Cond) ∈ wsA := mA (i := 1104) (by decide +kernel) rfl
theorem qw_1105 : (.methodLink RX11 326 yX11_mostAlike : Cond) ∈ wsA := mA (i := 1105) (by decide +kernel) rfl
theorem qw_1107 : (.instanceMethod yX11_mostAlike : Cond) ∈ wsA := mA (i := 1107) (by decide +kernel) rfl
theorem qw_1108 : (.code yX11_mostAlike cX11_mostAlike 7 (some .int) : Cond) ∈ wsA := mA (i := 1108) (by decide +kernel) rfl
theorem qw_1109 : (.constantLong RX11 329 (255) : Cond) ∈ wsA := mA (i := 1109) (by decide +kernel) rfl
theorem qw_1110 : (.methodLink RX11 331 yJ9_max_7cf53 : Cond) ∈ wsA := mA (i := 1110) (by decide +kernel) rfl
theorem qw_1119 : (.methodLink RX11 339 yX11_hiccupTrial : Cond) ∈ wsA := mA (i := 1119) (by decide +kernel) rfl
theorem qw_1121 : (.instanceMethod yX11_hiccupTrial : Cond) ∈ wsA := mA (i := 1121) (by decide +kernel) rfl
theorem qw_1122 : (.code yX11_hiccupTrial cX11_hiccupTrial 6 (some .int) : Cond) ∈ wsA := mA (i := 1122) (by decide +kernel) rfl
theorem qw_1123 : (.methodLink RX11 342 yX11_nextDrawn : Cond) ∈ wsA := mA (i := 1123) (by decide +kernel) rfl
theorem qw_1124 : (.static yX11_nextDrawn : Cond) ∈ wsA := mA (i := 1124) (by decide +kernel) rfl
theorem qw_1125 : (.code yX11_nextDrawn cX11_nextDrawn 1 (some .int) : Cond) ∈ wsA := mA (i := 1125) (by decide +kernel) rfl
theorem qw_1126 : (.constantLong RX11 349 (1103515245) : Cond) ∈ wsA := mA (i := 1126) (by decide +kernel) rfl
theorem qw_1127 : (.constantLong RX11 351 (12345) : Cond) ∈ wsA := mA (i := 1127) (by decide +kernel) rfl
theorem qw_1128 : (.constantLong RX11 353 (2147483647) : Cond) ∈ wsA := mA (i := 1128) (by decide +kernel) rfl
theorem qw_1129 : (.constant RX11 345 (65536) : Cond) ∈ wsA := mA (i := 1129) (by decide +kernel) rfl
theorem qw_1130 : (.methodLink RX11 346 yX3_bringUp : Cond) ∈ wsA := mA (i := 1130) (by decide +kernel) rfl
theorem qw_1131 : (.instanceMethod yX3_bringUp : Cond) ∈ wsA := mA (i := 1131) (by decide +kernel) rfl
theorem qw_1132 : (.selects RX3 yX3_bringUp yX3_bringUp : Cond) ∈ wsA := mA (i := 1132) (by decide +kernel) rfl
theorem qw_1133 : (.code yX3_bringUp cX3_bringUp 3 none : Cond) ∈ wsA := mA (i := 1133) (by decide +kernel) rfl
theorem qw_1142 : (.methodLink RX11 355 yX11_imageAt : Cond) ∈ wsA := mA (i := 1142) (by decide +kernel) rfl
theorem qw_1144 : (.instanceMethod yX11_imageAt : Cond) ∈ wsA := mA (i := 1144) (by decide +kernel) rfl
theorem qw_1145 : (.code yX11_imageAt cX11_imageAt 2 (some (.object "SpokenBite$Image")) : Cond) ∈ wsA := mA (i := 1145) (by decide +kernel) rfl
theorem qw_1146 : (.methodLink RX11 368 yX5_take : Cond) ∈ wsA := mA (i := 1146) (by decide +kernel) rfl
theorem qw_1147 : (.instanceMethod yX5_take : Cond) ∈ wsA := mA (i := 1147) (by decide +kernel) rfl
theorem qw_1148 : (.selects RX5 yX5_take yX5_take : Cond) ∈ wsA := mA (i := 1148) (by decide +kernel) rfl
theorem qw_1149 : (.code yX5_take cX5_take 3 none : Cond) ∈ wsA := mA (i := 1149) (by decide +kernel) rfl
theorem qw_1799 : (.fieldLink RJ0 9 "java/lang/String" "value" "[B" : Cond) ∈ wsA := mA (i := 1799) (by decide +kernel) rfl
theorem qw_1800 : (.fieldLink RJ0 15 "java/lang/String" "code\x72" "B" : Cond) ∈ wsA := mA (i := 1800) (by decide +kernel) rfl
theorem dJ13_bitCount_95d88_0 : decode cJ13_bitCount_95d88 0 = .ok (.lload_n 0, 1) := by decide +kernel
theorem dJ13_bitCount_95d88_1 : decode cJ13_bitCount_95d88 1 = .ok (.lload_n 0, 1) := by decide +kernel
theorem dJ13_bitCount_95d88_2 : decode cJ13_bitCount_95d88 2 = .ok (.iconst 1, 1) := by decide +kernel
theorem dJ13_bitCount_95d88_3 : decode cJ13_bitCount_95d88 3 = .ok (.lushr, 1) := by decide +kernel
theorem dJ13_bitCount_95d88_4 : decode cJ13_bitCount_95d88 4 = .ok (.ldc2_w 314, 3) := by decide +kernel
theorem dJ13_bitCount_95d88_7 : decode cJ13_bitCount_95d88 7 = .ok (.land, 1) := by decide +kernel
theorem dJ13_bitCount_95d88_8 : decode cJ13_bitCount_95d88 8 = .ok (.lsub, 1) := by decide +kernel
theorem dJ13_bitCount_95d88_9 : decode cJ13_bitCount_95d88 9 = .ok (.lstore_n 0, 1) := by decide +kernel
theorem dJ13_bitCount_95d88_10 : decode cJ13_bitCount_95d88 10 = .ok (.lload_n 0, 1) := by decide +kernel
theorem dJ13_bitCount_95d88_11 : decode cJ13_bitCount_95d88 11 = .ok (.ldc2_w 316, 3) := by decide +kernel
theorem dJ13_bitCount_95d88_14 : decode cJ13_bitCount_95d88 14 = .ok (.land, 1) := by decide +kernel
theorem dJ13_bitCount_95d88_15 : decode cJ13_bitCount_95d88 15 = .ok (.lload_n 0, 1) := by decide +kernel
theorem dJ13_bitCount_95d88_16 : decode cJ13_bitCount_95d88 16 = .ok (.iconst 2, 1) := by decide +kernel
theorem dJ13_bitCount_95d88_17 : decode cJ13_bitCount_95d88 17 = .ok (.lushr, 1) := by decide +kernel
theorem dJ13_bitCount_95d88_18 : decode cJ13_bitCount_95d88 18 = .ok (.ldc2_w 316, 3) := by decide +kernel
theorem dJ13_bitCount_95d88_21 : decode cJ13_bitCount_95d88 21 = .ok (.land, 1) := by decide +kernel
theorem dJ13_bitCount_95d88_22 : decode cJ13_bitCount_95d88 22 = .ok (.ladd, 1) := by decide +kernel
theorem dJ13_bitCount_95d88_23 : decode cJ13_bitCount_95d88 23 = .ok (.lstore_n 0, 1) := by decide +kernel
theorem dJ13_bitCount_95d88_24 : decode cJ13_bitCount_95d88 24 = .ok (.lload_n 0, 1) := by decide +kernel
theorem dJ13_bitCount_95d88_25 : decode cJ13_bitCount_95d88 25 = .ok (.lload_n 0, 1) := by decide +kernel
theorem dJ13_bitCount_95d88_26 : decode cJ13_bitCount_95d88 26 = .ok (.iconst 4, 1) := by decide +kernel
theorem dJ13_bitCount_95d88_27 : decode cJ13_bitCount_95d88 27 = .ok (.lushr, 1) := by decide +kernel
theorem dJ13_bitCount_95d88_28 : decode cJ13_bitCount_95d88 28 = .ok (.ladd, 1) := by decide +kernel
theorem dJ13_bitCount_95d88_29 : decode cJ13_bitCount_95d88 29 = .ok (.ldc2_w 318, 3) := by decide +kernel
theorem dJ13_bitCount_95d88_32 : decode cJ13_bitCount_95d88 32 = .ok (.land, 1) := by decide +kernel
theorem dJ13_bitCount_95d88_33 : decode cJ13_bitCount_95d88 33 = .ok (.lstore_n 0, 1) := by decide +kernel
theorem dJ13_bitCount_95d88_34 : decode cJ13_bitCount_95d88 34 = .ok (.lload_n 0, 1) := by decide +kernel
theorem dJ13_bitCount_95d88_35 : decode cJ13_bitCount_95d88 35 = .ok (.lload_n 0, 1) := by decide +kernel
theorem dJ13_bitCount_95d88_36 : decode cJ13_bitCount_95d88 36 = .ok (.bipush 8, 2) := by decide +kernel
theorem dJ13_bitCount_95d88_38 : decode cJ13_bitCount_95d88 38 = .ok (.lushr, 1) := by decide +kernel
theorem dJ13_bitCount_95d88_39 : decode cJ13_bitCount_95d88 39 = .ok (.ladd, 1) := by decide +kernel
theorem dJ13_bitCount_95d88_40 : decode cJ13_bitCount_95d88 40 = .ok (.lstore_n 0, 1) := by decide +kernel
theorem dJ13_bitCount_95d88_41 : decode cJ13_bitCount_95d88 41 = .ok (.lload_n 0, 1) := by decide +kernel
theorem dJ13_bitCount_95d88_42 : decode cJ13_bitCount_95d88 42 = .ok (.lload_n 0, 1) := by decide +kernel
theorem dJ13_bitCount_95d88_43 : decode cJ13_bitCount_95d88 43 = .ok (.bipush 16, 2) := by decide +kernel
theorem dJ13_bitCount_95d88_45 : decode cJ13_bitCount_95d88 45 = .ok (.lushr, 1) := by decide +kernel
theorem dJ13_bitCount_95d88_46 : decode cJ13_bitCount_95d88 46 = .ok (.ladd, 1) := by decide +kernel
theorem dJ13_bitCount_95d88_47 : decode cJ13_bitCount_95d88 47 = .ok (.lstore_n 0, 1) := by decide +kernel
theorem dJ13_bitCount_95d88_48 : decode cJ13_bitCount_95d88 48 = .ok (.lload_n 0, 1) := by decide +kernel
theorem dJ13_bitCount_95d88_49 : decode cJ13_bitCount_95d88 49 = .ok (.lload_n 0, 1) := by decide +kernel
theorem dJ13_bitCount_95d88_50 : decode cJ13_bitCount_95d88 50 = .ok (.bipush 32, 2) := by decide +kernel
theorem dJ13_bitCount_95d88_52 : decode cJ13_bitCount_95d88 52 = .ok (.lushr, 1) := by decide +kernel
theorem dJ13_bitCount_95d88_53 : decode cJ13_bitCount_95d88 53 = .ok (.ladd, 1) := by decide +kernel
theorem dJ13_bitCount_95d88_54 : decode cJ13_bitCount_95d88 54 = .ok (.lstore_n 0, 1) := by decide +kernel
theorem dJ13_bitCount_95d88_55 : decode cJ13_bitCount_95d88 55 = .ok (.lload_n 0, 1) := by decide +kernel
theorem dJ13_bitCount_95d88_56 : decode cJ13_bitCount_95d88 56 = .ok (.l2i, 1) := by decide +kernel
theorem dJ13_bitCount_95d88_57 : decode cJ13_bitCount_95d88 57 = .ok (.bipush 127, 2) := by decide +kernel
theorem dJ13_bitCount_95d88_59 : decode cJ13_bitCount_95d88 59 = .ok (.iand, 1) := by decide +kernel
theorem dJ13_bitCount_95d88_60 : decode cJ13_bitCount_95d88 60 = .ok (.ireturn, 1) := by decide +kernel
theorem dJ6_bitCount_0f7a4_0 : decode cJ6_bitCount_0f7a4 0 = .ok (.iload_n 0, 1) := by decide +kernel
theorem dJ6_bitCount_0f7a4_1 : decode cJ6_bitCount_0f7a4 1 = .ok (.iload_n 0, 1) := by decide +kernel
theorem dJ6_bitCount_0f7a4_2 : decode cJ6_bitCount_0f7a4 2 = .ok (.iconst 1, 1) := by decide +kernel
theorem dJ6_bitCount_0f7a4_3 : decode cJ6_bitCount_0f7a4 3 = .ok (.iushr, 1) := by decide +kernel
theorem dJ6_bitCount_0f7a4_4 : decode cJ6_bitCount_0f7a4 4 = .ok (.ldc_w 265, 3) := by decide +kernel
theorem dJ6_bitCount_0f7a4_7 : decode cJ6_bitCount_0f7a4 7 = .ok (.iand, 1) := by decide +kernel
theorem dJ6_bitCount_0f7a4_8 : decode cJ6_bitCount_0f7a4 8 = .ok (.isub, 1) := by decide +kernel
theorem dJ6_bitCount_0f7a4_9 : decode cJ6_bitCount_0f7a4 9 = .ok (.istore_n 0, 1) := by decide +kernel
theorem dJ6_bitCount_0f7a4_10 : decode cJ6_bitCount_0f7a4 10 = .ok (.iload_n 0, 1) := by decide +kernel
theorem dJ6_bitCount_0f7a4_11 : decode cJ6_bitCount_0f7a4 11 = .ok (.ldc_w 266, 3) := by decide +kernel
theorem dJ6_bitCount_0f7a4_14 : decode cJ6_bitCount_0f7a4 14 = .ok (.iand, 1) := by decide +kernel
theorem dJ6_bitCount_0f7a4_15 : decode cJ6_bitCount_0f7a4 15 = .ok (.iload_n 0, 1) := by decide +kernel
theorem dJ6_bitCount_0f7a4_16 : decode cJ6_bitCount_0f7a4 16 = .ok (.iconst 2, 1) := by decide +kernel
theorem dJ6_bitCount_0f7a4_17 : decode cJ6_bitCount_0f7a4 17 = .ok (.iushr, 1) := by decide +kernel
theorem dJ6_bitCount_0f7a4_18 : decode cJ6_bitCount_0f7a4 18 = .ok (.ldc_w 266, 3) := by decide +kernel
theorem dJ6_bitCount_0f7a4_21 : decode cJ6_bitCount_0f7a4 21 = .ok (.iand, 1) := by decide +kernel
theorem dJ6_bitCount_0f7a4_22 : decode cJ6_bitCount_0f7a4 22 = .ok (.iadd, 1) := by decide +kernel
theorem dJ6_bitCount_0f7a4_23 : decode cJ6_bitCount_0f7a4 23 = .ok (.istore_n 0, 1) := by decide +kernel
theorem dJ6_bitCount_0f7a4_24 : decode cJ6_bitCount_0f7a4 24 = .ok (.iload_n 0, 1) := by decide +kernel
theorem dJ6_bitCount_0f7a4_25 : decode cJ6_bitCount_0f7a4 25 = .ok (.iload_n 0, 1) := by decide +kernel
theorem dJ6_bitCount_0f7a4_26 : decode cJ6_bitCount_0f7a4 26 = .ok (.iconst 4, 1) := by decide +kernel
theorem dJ6_bitCount_0f7a4_27 : decode cJ6_bitCount_0f7a4 27 = .ok (.iushr, 1) := by decide +kernel
theorem dJ6_bitCount_0f7a4_28 : decode cJ6_bitCount_0f7a4 28 = .ok (.iadd, 1) := by decide +kernel
theorem dJ6_bitCount_0f7a4_29 : decode cJ6_bitCount_0f7a4 29 = .ok (.ldc_w 267, 3) := by decide +kernel
theorem dJ6_bitCount_0f7a4_32 : decode cJ6_bitCount_0f7a4 32 = .ok (.iand, 1) := by decide +kernel
theorem dJ6_bitCount_0f7a4_33 : decode cJ6_bitCount_0f7a4 33 = .ok (.istore_n 0, 1) := by decide +kernel
theorem dJ6_bitCount_0f7a4_34 : decode cJ6_bitCount_0f7a4 34 = .ok (.iload_n 0, 1) := by decide +kernel
theorem dJ6_bitCount_0f7a4_35 : decode cJ6_bitCount_0f7a4 35 = .ok (.iload_n 0, 1) := by decide +kernel
theorem dJ6_bitCount_0f7a4_36 : decode cJ6_bitCount_0f7a4 36 = .ok (.bipush 8, 2) := by decide +kernel
theorem dJ6_bitCount_0f7a4_38 : decode cJ6_bitCount_0f7a4 38 = .ok (.iushr, 1) := by decide +kernel
theorem dJ6_bitCount_0f7a4_39 : decode cJ6_bitCount_0f7a4 39 = .ok (.iadd, 1) := by decide +kernel
theorem dJ6_bitCount_0f7a4_40 : decode cJ6_bitCount_0f7a4 40 = .ok (.istore_n 0, 1) := by decide +kernel
theorem dJ6_bitCount_0f7a4_41 : decode cJ6_bitCount_0f7a4 41 = .ok (.iload_n 0, 1) := by decide +kernel
theorem dJ6_bitCount_0f7a4_42 : decode cJ6_bitCount_0f7a4 42 = .ok (.iload_n 0, 1) := by decide +kernel
theorem dJ6_bitCount_0f7a4_43 : decode cJ6_bitCount_0f7a4 43 = .ok (.bipush 16, 2) := by decide +kernel
theorem dJ6_bitCount_0f7a4_45 : decode cJ6_bitCount_0f7a4 45 = .ok (.iushr, 1) := by decide +kernel
theorem dJ6_bitCount_0f7a4_46 : decode cJ6_bitCount_0f7a4 46 = .ok (.iadd, 1) := by decide +kernel
theorem dJ6_bitCount_0f7a4_47 : decode cJ6_bitCount_0f7a4 47 = .ok (.istore_n 0, 1) := by decide +kernel
theorem dJ6_bitCount_0f7a4_48 : decode cJ6_bitCount_0f7a4 48 = .ok (.iload_n 0, 1) := by decide +kernel
theorem dJ6_bitCount_0f7a4_49 : decode cJ6_bitCount_0f7a4 49 = .ok (.bipush 63, 2) := by decide +kernel
theorem dJ6_bitCount_0f7a4_51 : decode cJ6_bitCount_0f7a4 51 = .ok (.iand, 1) := by decide +kernel
theorem dJ6_bitCount_0f7a4_52 : decode cJ6_bitCount_0f7a4 52 = .ok (.ireturn, 1) := by decide +kernel
theorem dJ6_numberOfTrailingZeros_0f7a4_0 : decode cJ6_numberOfTrailingZeros_0f7a4 0 = .ok (.iload_n 0, 1) := by decide +kernel
theorem dJ6_numberOfTrailingZeros_0f7a4_1 : decode cJ6_numberOfTrailingZeros_0f7a4 1 = .ok (.iconst (-1), 1) := by decide +kernel
theorem dJ6_numberOfTrailingZeros_0f7a4_2 : decode cJ6_numberOfTrailingZeros_0f7a4 2 = .ok (.ixor, 1) := by decide +kernel
theorem dJ6_numberOfTrailingZeros_0f7a4_3 : decode cJ6_numberOfTrailingZeros_0f7a4 3 = .ok (.iload_n 0, 1) := by decide +kernel
theorem dJ6_numberOfTrailingZeros_0f7a4_4 : decode cJ6_numberOfTrailingZeros_0f7a4 4 = .ok (.iconst 1, 1) := by decide +kernel
theorem dJ6_numberOfTrailingZeros_0f7a4_5 : decode cJ6_numberOfTrailingZeros_0f7a4 5 = .ok (.isub, 1) := by decide +kernel
theorem dJ6_numberOfTrailingZeros_0f7a4_6 : decode cJ6_numberOfTrailingZeros_0f7a4 6 = .ok (.iand, 1) := by decide +kernel
theorem dJ6_numberOfTrailingZeros_0f7a4_7 : decode cJ6_numberOfTrailingZeros_0f7a4 7 = .ok (.istore_n 0, 1) := by decide +kernel
theorem dJ6_numberOfTrailingZeros_0f7a4_8 : decode cJ6_numberOfTrailingZeros_0f7a4 8 = .ok (.iload_n 0, 1) := by decide +kernel
theorem dJ6_numberOfTrailingZeros_0f7a4_9 : decode cJ6_numberOfTrailingZeros_0f7a4 9 = .ok (.ifCond .gt 8, 3) := by decide +kernel
theorem dJ6_numberOfTrailingZeros_0f7a4_12 : decode cJ6_numberOfTrailingZeros_0f7a4 12 = .ok (.iload_n 0, 1) := by decide +kernel
theorem dJ6_numberOfTrailingZeros_0f7a4_13 : decode cJ6_numberOfTrailingZeros_0f7a4 13 = .ok (.bipush 32, 2) := by decide +kernel
theorem dJ6_numberOfTrailingZeros_0f7a4_15 : decode cJ6_numberOfTrailingZeros_0f7a4 15 = .ok (.iand, 1) := by decide +kernel
theorem dJ6_numberOfTrailingZeros_0f7a4_16 : decode cJ6_numberOfTrailingZeros_0f7a4 16 = .ok (.ireturn, 1) := by decide +kernel
theorem dJ6_numberOfTrailingZeros_0f7a4_17 : decode cJ6_numberOfTrailingZeros_0f7a4 17 = .ok (.iconst 1, 1) := by decide +kernel
theorem dJ6_numberOfTrailingZeros_0f7a4_18 : decode cJ6_numberOfTrailingZeros_0f7a4 18 = .ok (.istore_n 1, 1) := by decide +kernel
theorem dJ6_numberOfTrailingZeros_0f7a4_19 : decode cJ6_numberOfTrailingZeros_0f7a4 19 = .ok (.iload_n 0, 1) := by decide +kernel
theorem dJ6_numberOfTrailingZeros_0f7a4_20 : decode cJ6_numberOfTrailingZeros_0f7a4 20 = .ok (.ldc_w 264, 3) := by decide +kernel
theorem dJ6_numberOfTrailingZeros_0f7a4_23 : decode cJ6_numberOfTrailingZeros_0f7a4 23 = .ok (.if_icmp .le 11, 3) := by decide +kernel
theorem dJ6_numberOfTrailingZeros_0f7a4_26 : decode cJ6_numberOfTrailingZeros_0f7a4 26 = .ok (.iinc 1 16, 3) := by decide +kernel
theorem dJ6_numberOfTrailingZeros_0f7a4_29 : decode cJ6_numberOfTrailingZeros_0f7a4 29 = .ok (.iload_n 0, 1) := by decide +kernel
theorem dJ6_numberOfTrailingZeros_0f7a4_30 : decode cJ6_numberOfTrailingZeros_0f7a4 30 = .ok (.bipush 16, 2) := by decide +kernel
theorem dJ6_numberOfTrailingZeros_0f7a4_32 : decode cJ6_numberOfTrailingZeros_0f7a4 32 = .ok (.iushr, 1) := by decide +kernel
theorem dJ6_numberOfTrailingZeros_0f7a4_33 : decode cJ6_numberOfTrailingZeros_0f7a4 33 = .ok (.istore_n 0, 1) := by decide +kernel
theorem dJ6_numberOfTrailingZeros_0f7a4_34 : decode cJ6_numberOfTrailingZeros_0f7a4 34 = .ok (.iload_n 0, 1) := by decide +kernel
theorem dJ6_numberOfTrailingZeros_0f7a4_35 : decode cJ6_numberOfTrailingZeros_0f7a4 35 = .ok (.sipush 256, 3) := by decide +kernel
theorem dJ6_numberOfTrailingZeros_0f7a4_38 : decode cJ6_numberOfTrailingZeros_0f7a4 38 = .ok (.if_icmp .le 11, 3) := by decide +kernel
theorem dJ6_numberOfTrailingZeros_0f7a4_41 : decode cJ6_numberOfTrailingZeros_0f7a4 41 = .ok (.iinc 1 8, 3) := by decide +kernel
theorem dJ6_numberOfTrailingZeros_0f7a4_44 : decode cJ6_numberOfTrailingZeros_0f7a4 44 = .ok (.iload_n 0, 1) := by decide +kernel
theorem dJ6_numberOfTrailingZeros_0f7a4_45 : decode cJ6_numberOfTrailingZeros_0f7a4 45 = .ok (.bipush 8, 2) := by decide +kernel
theorem dJ6_numberOfTrailingZeros_0f7a4_47 : decode cJ6_numberOfTrailingZeros_0f7a4 47 = .ok (.iushr, 1) := by decide +kernel
theorem dJ6_numberOfTrailingZeros_0f7a4_48 : decode cJ6_numberOfTrailingZeros_0f7a4 48 = .ok (.istore_n 0, 1) := by decide +kernel
theorem dJ6_numberOfTrailingZeros_0f7a4_49 : decode cJ6_numberOfTrailingZeros_0f7a4 49 = .ok (.iload_n 0, 1) := by decide +kernel
theorem dJ6_numberOfTrailingZeros_0f7a4_50 : decode cJ6_numberOfTrailingZeros_0f7a4 50 = .ok (.bipush 16, 2) := by decide +kernel
theorem dJ6_numberOfTrailingZeros_0f7a4_52 : decode cJ6_numberOfTrailingZeros_0f7a4 52 = .ok (.if_icmp .le 10, 3) := by decide +kernel
theorem dJ6_numberOfTrailingZeros_0f7a4_55 : decode cJ6_numberOfTrailingZeros_0f7a4 55 = .ok (.iinc 1 4, 3) := by decide +kernel
theorem dJ6_numberOfTrailingZeros_0f7a4_58 : decode cJ6_numberOfTrailingZeros_0f7a4 58 = .ok (.iload_n 0, 1) := by decide +kernel
theorem dJ6_numberOfTrailingZeros_0f7a4_59 : decode cJ6_numberOfTrailingZeros_0f7a4 59 = .ok (.iconst 4, 1) := by decide +kernel
theorem dJ6_numberOfTrailingZeros_0f7a4_60 : decode cJ6_numberOfTrailingZeros_0f7a4 60 = .ok (.iushr, 1) := by decide +kernel
theorem dJ6_numberOfTrailingZeros_0f7a4_61 : decode cJ6_numberOfTrailingZeros_0f7a4 61 = .ok (.istore_n 0, 1) := by decide +kernel
theorem dJ6_numberOfTrailingZeros_0f7a4_62 : decode cJ6_numberOfTrailingZeros_0f7a4 62 = .ok (.iload_n 0, 1) := by decide +kernel
theorem dJ6_numberOfTrailingZeros_0f7a4_63 : decode cJ6_numberOfTrailingZeros_0f7a4 63 = .ok (.iconst 4, 1) := by decide +kernel
theorem dJ6_numberOfTrailingZeros_0f7a4_64 : decode cJ6_numberOfTrailingZeros_0f7a4 64 = .ok (.if_icmp .le 10, 3) := by decide +kernel
theorem dJ6_numberOfTrailingZeros_0f7a4_67 : decode cJ6_numberOfTrailingZeros_0f7a4 67 = .ok (.iinc 1 2, 3) := by decide +kernel
theorem dJ6_numberOfTrailingZeros_0f7a4_70 : decode cJ6_numberOfTrailingZeros_0f7a4 70 = .ok (.iload_n 0, 1) := by decide +kernel
theorem dJ6_numberOfTrailingZeros_0f7a4_71 : decode cJ6_numberOfTrailingZeros_0f7a4 71 = .ok (.iconst 2, 1) := by decide +kernel
theorem dJ6_numberOfTrailingZeros_0f7a4_72 : decode cJ6_numberOfTrailingZeros_0f7a4 72 = .ok (.iushr, 1) := by decide +kernel
theorem dJ6_numberOfTrailingZeros_0f7a4_73 : decode cJ6_numberOfTrailingZeros_0f7a4 73 = .ok (.istore_n 0, 1) := by decide +kernel
theorem dJ6_numberOfTrailingZeros_0f7a4_74 : decode cJ6_numberOfTrailingZeros_0f7a4 74 = .ok (.iload_n 1, 1) := by decide +kernel
theorem dJ6_numberOfTrailingZeros_0f7a4_75 : decode cJ6_numberOfTrailingZeros_0f7a4 75 = .ok (.iload_n 0, 1) := by decide +kernel
theorem dJ6_numberOfTrailingZeros_0f7a4_76 : decode cJ6_numberOfTrailingZeros_0f7a4 76 = .ok (.iconst 1, 1) := by decide +kernel
theorem dJ6_numberOfTrailingZeros_0f7a4_77 : decode cJ6_numberOfTrailingZeros_0f7a4 77 = .ok (.iushr, 1) := by decide +kernel
theorem dJ6_numberOfTrailingZeros_0f7a4_78 : decode cJ6_numberOfTrailingZeros_0f7a4 78 = .ok (.iadd, 1) := by decide +kernel
theorem dJ6_numberOfTrailingZeros_0f7a4_79 : decode cJ6_numberOfTrailingZeros_0f7a4 79 = .ok (.ireturn, 1) := by decide +kernel
theorem sp_0_4 {x : Int32} (h : bt 0 4 x) : x = 0 ∨ x = 1 ∨ x = 2 ∨ x = 3 ∨ x = 4 := by
  obtain ⟨h1, h2⟩ := h
  have e : ∀ k : Int32, x = k ↔ x.toInt = k.toInt := fun k => Int32.toInt_inj.symm
  simp only [e, show (0 : Int32).toInt = 0 from rfl, show (1 : Int32).toInt = 1 from rfl, show (2 : Int32).toInt = 2 from rfl, show (3 : Int32).toInt = 3 from rfl, show (4 : Int32).toInt = 4 from rfl]
  omega
theorem sp_0_5 {x : Int32} (h : bt 0 5 x) : x = 0 ∨ x = 1 ∨ x = 2 ∨ x = 3 ∨ x = 4 ∨ x = 5 := by
  obtain ⟨h1, h2⟩ := h
  have e : ∀ k : Int32, x = k ↔ x.toInt = k.toInt := fun k => Int32.toInt_inj.symm
  simp only [e, show (0 : Int32).toInt = 0 from rfl, show (1 : Int32).toInt = 1 from rfl, show (2 : Int32).toInt = 2 from rfl, show (3 : Int32).toInt = 3 from rfl, show (4 : Int32).toInt = 4 from rfl, show (5 : Int32).toInt = 5 from rfl]
  omega
theorem sp_0_19 {x : Int32} (h : bt 0 19 x) : x = 0 ∨ x = 1 ∨ x = 2 ∨ x = 3 ∨ x = 4 ∨ x = 5 ∨ x = 6 ∨ x = 7 ∨ x = 8 ∨ x = 9 ∨ x = 10 ∨ x = 11 ∨ x = 12 ∨ x = 13 ∨ x = 14 ∨ x = 15 ∨ x = 16 ∨ x = 17 ∨ x = 18 ∨ x = 19 := by
  obtain ⟨h1, h2⟩ := h
  have e : ∀ k : Int32, x = k ↔ x.toInt = k.toInt := fun k => Int32.toInt_inj.symm
  simp only [e, show (0 : Int32).toInt = 0 from rfl, show (1 : Int32).toInt = 1 from rfl, show (2 : Int32).toInt = 2 from rfl, show (3 : Int32).toInt = 3 from rfl, show (4 : Int32).toInt = 4 from rfl, show (5 : Int32).toInt = 5 from rfl, show (6 : Int32).toInt = 6 from rfl, show (7 : Int32).toInt = 7 from rfl, show (8 : Int32).toInt = 8 from rfl, show (9 : Int32).toInt = 9 from rfl, show (10 : Int32).toInt = 10 from rfl, show (11 : Int32).toInt = 11 from rfl, show (12 : Int32).toInt = 12 from rfl, show (13 : Int32).toInt = 13 from rfl, show (14 : Int32).toInt = 14 from rfl, show (15 : Int32).toInt = 15 from rfl, show (16 : Int32).toInt = 16 from rfl, show (17 : Int32).toInt = 17 from rfl, show (18 : Int32).toInt = 18 from rfl, show (19 : Int32).toInt = 19 from rfl]
  omega
theorem sw_0_13 (x : Int32) : x = 0 ∨ x = 1 ∨ x = 2 ∨ x = 3 ∨ x = 4 ∨ x = 5 ∨ x = 6 ∨ x = 7 ∨ x = 8 ∨ x = 9 ∨ x = 10 ∨ x = 11 ∨ x = 12 ∨ x = 13 ∨ (x.toInt < 0 ∨ 13 < x.toInt) := by
  have e : ∀ k : Int32, x = k ↔ x.toInt = k.toInt := fun k => Int32.toInt_inj.symm
  simp only [e, show (0 : Int32).toInt = 0 from rfl, show (1 : Int32).toInt = 1 from rfl, show (2 : Int32).toInt = 2 from rfl, show (3 : Int32).toInt = 3 from rfl, show (4 : Int32).toInt = 4 from rfl, show (5 : Int32).toInt = 5 from rfl, show (6 : Int32).toInt = 6 from rfl, show (7 : Int32).toInt = 7 from rfl, show (8 : Int32).toInt = 8 from rfl, show (9 : Int32).toInt = 9 from rfl, show (10 : Int32).toInt = 10 from rfl, show (11 : Int32).toInt = 11 from rfl, show (12 : Int32).toInt = 12 from rfl, show (13 : Int32).toInt = 13 from rfl]
  omega
theorem sw_10_20 (x : Int32) : x = 10 ∨ x = 11 ∨ x = 12 ∨ x = 13 ∨ x = 14 ∨ x = 15 ∨ x = 16 ∨ x = 17 ∨ x = 18 ∨ x = 19 ∨ x = 20 ∨ (x.toInt < 10 ∨ 20 < x.toInt) := by
  have e : ∀ k : Int32, x = k ↔ x.toInt = k.toInt := fun k => Int32.toInt_inj.symm
  simp only [e, show (10 : Int32).toInt = 10 from rfl, show (11 : Int32).toInt = 11 from rfl, show (12 : Int32).toInt = 12 from rfl, show (13 : Int32).toInt = 13 from rfl, show (14 : Int32).toInt = 14 from rfl, show (15 : Int32).toInt = 15 from rfl, show (16 : Int32).toInt = 16 from rfl, show (17 : Int32).toInt = 17 from rfl, show (18 : Int32).toInt = 18 from rfl, show (19 : Int32).toInt = 19 from rfl, show (20 : Int32).toInt = 20 from rfl]
  omega
theorem sw_37_47 (x : Int32) : x = 37 ∨ x = 38 ∨ x = 39 ∨ x = 40 ∨ x = 41 ∨ x = 42 ∨ x = 43 ∨ x = 44 ∨ x = 45 ∨ x = 46 ∨ x = 47 ∨ (x.toInt < 37 ∨ 47 < x.toInt) := by
  have e : ∀ k : Int32, x = k ↔ x.toInt = k.toInt := fun k => Int32.toInt_inj.symm
  simp only [e, show (37 : Int32).toInt = 37 from rfl, show (38 : Int32).toInt = 38 from rfl, show (39 : Int32).toInt = 39 from rfl, show (40 : Int32).toInt = 40 from rfl, show (41 : Int32).toInt = 41 from rfl, show (42 : Int32).toInt = 42 from rfl, show (43 : Int32).toInt = 43 from rfl, show (44 : Int32).toInt = 44 from rfl, show (45 : Int32).toInt = 45 from rfl, show (46 : Int32).toInt = 46 from rfl, show (47 : Int32).toInt = 47 from rfl]
  omega
set_option maxHeartbeats 4000000 in
set_option maxRecDepth 100000 in
/-- j_bits -/
theorem j_bits (l : Launch) (dC : Nat → ClassId) (dI : Nat → Nat → Nat) (sz : Nat) (x0 : Int32) : Met l yJ6_bitCount_0f7a4 (.code yJ6_bitCount_0f7a4 cJ6_bitCount_0f7a4 1 (some .int) :: wsA) ({ frames := 0, cells := 0, slots := 0, locals := 0 }) (va_Pc [.int x0] (fun U => U.heap.size = sz ∧ va_P (dC, dI) classes [] U.heap ∧ va_K (dC, dI) classes [] U ∧ va_D (fun _ => True) [] ∧ xE U)) (va_Qi (fun (r : Int32) (_ : Unit) => True) (fun _ t => va_P (dC, dI) classes [] t.heap ∧ va_K (dC, dI) classes [] t ∧ va_D (va_A [] sz) []) (va_A [] sz)) 0 0 (va_A [] sz) := by
  refine Met.ofW (cc := cJ6_bitCount_0f7a4) (maxL := 1) (ret := (some .int)) (by decide) rfl ?_
  intro p e s m args below meth c s₁ B hml hv
  obtain ⟨rfl, hsz, hP, hK, hD0, hE⟩ := hv
  have hx := B.exec
  have hb := B.bytes
  have hr := B.returns
  have hts := atoms_spec (ws := .code yJ6_bitCount_0f7a4 cJ6_bitCount_0f7a4 1 (some .int) :: wsA) B.pre
  have hq : ∀ w ∈ wsA, w.before _ s = true := fun w h => hts w (List.mem_cons_of_mem _ h)
  have hown : s.vm.findClass RJ6 = some m.cls := findClass_of_methodNamed B.named
  have hlocks := B.notSynchronized
  subst hsz
  have hD := hD0.self (sz := s.heap.size)
  generalize hAe : va_A [] s.heap.size = A at hD ⊢
  have hA : ∀ q : Nat, s.heap.size ≤ q → A q := fun q h => by rw [← hAe]; exact Or.inr h
  have hS : va_S A s.heap s.heap [] := va_S.rf
  have hl := lv_entry ([.int x0]) (n := 1) (Nat.le_of_ble_eq_true rfl)
  rw [lg_entry_eq]
  generalize (lg_sl ([.int x0]) ++ List.replicate (1 - (lg_sl ([.int x0])).length) Slot.unset).toArray = ls at hl ⊢
  have hl : lv_has ls 1 [(0, .int x0)] := hl
  refine lv_iload_n hx hb dJ6_bitCount_0f7a4_0 rfl (lv_at hl 0 rfl) ?_
  refine lv_iload_n hx hb dJ6_bitCount_0f7a4_1 rfl (lv_at hl 0 rfl) ?_
  refine lv_iconst (v := 1) hx hb dJ6_bitCount_0f7a4_2 (by decide) ?_
  refine lv_iushr hx hb dJ6_bitCount_0f7a4_3 rfl ?_
  refine lv_topi (fun y_16 ey_16 => ?_)
  refine lv_ldcw (v := 1431655765) hx hb hown (hq _ qw_839) dJ6_bitCount_0f7a4_4 ?_
  refine lv_iand hx hb dJ6_bitCount_0f7a4_7 ?_
  refine lv_topi (fun y_17 ey_17 => ?_)
  refine lv_isub hx hb dJ6_bitCount_0f7a4_8 ?_
  refine lv_topi (fun y_18 ey_18 => ?_)
  refine lv_istore_n (lv' := [(0, .int y_18)]) hx hb dJ6_bitCount_0f7a4_9 rfl hl (by decide) rfl (fun ls hl => ?_)
  refine lv_iload_n hx hb dJ6_bitCount_0f7a4_10 rfl (lv_at hl 0 rfl) ?_
  refine lv_ldcw (v := 858993459) hx hb hown (hq _ qw_840) dJ6_bitCount_0f7a4_11 ?_
  refine lv_iand hx hb dJ6_bitCount_0f7a4_14 ?_
  refine lv_topi (fun y_19 ey_19 => ?_)
  refine lv_iload_n hx hb dJ6_bitCount_0f7a4_15 rfl (lv_at hl 0 rfl) ?_
  refine lv_iconst (v := 2) hx hb dJ6_bitCount_0f7a4_16 (by decide) ?_
  refine lv_iushr hx hb dJ6_bitCount_0f7a4_17 rfl ?_
  refine lv_topi (fun y_20 ey_20 => ?_)
  refine lv_ldcw (v := 858993459) hx hb hown (hq _ qw_840) dJ6_bitCount_0f7a4_18 ?_
  refine lv_iand hx hb dJ6_bitCount_0f7a4_21 ?_
  refine lv_topi (fun y_21 ey_21 => ?_)
  refine lv_iadd hx hb dJ6_bitCount_0f7a4_22 ?_
  refine lv_topi (fun y_22 ey_22 => ?_)
  refine lv_istore_n (lv' := [(0, .int y_22)]) hx hb dJ6_bitCount_0f7a4_23 rfl hl (by decide) rfl (fun ls hl => ?_)
  refine lv_iload_n hx hb dJ6_bitCount_0f7a4_24 rfl (lv_at hl 0 rfl) ?_
  refine lv_iload_n hx hb dJ6_bitCount_0f7a4_25 rfl (lv_at hl 0 rfl) ?_
  refine lv_iconst (v := 4) hx hb dJ6_bitCount_0f7a4_26 (by decide) ?_
  refine lv_iushr hx hb dJ6_bitCount_0f7a4_27 rfl ?_
  refine lv_topi (fun y_23 ey_23 => ?_)
  refine lv_iadd hx hb dJ6_bitCount_0f7a4_28 ?_
  refine lv_topi (fun y_24 ey_24 => ?_)
  refine lv_ldcw (v := 252645135) hx hb hown (hq _ qw_841) dJ6_bitCount_0f7a4_29 ?_
  refine lv_iand hx hb dJ6_bitCount_0f7a4_32 ?_
  refine lv_topi (fun y_25 ey_25 => ?_)
  refine lv_istore_n (lv' := [(0, .int y_25)]) hx hb dJ6_bitCount_0f7a4_33 rfl hl (by decide) rfl (fun ls hl => ?_)
  refine lv_iload_n hx hb dJ6_bitCount_0f7a4_34 rfl (lv_at hl 0 rfl) ?_
  refine lv_iload_n hx hb dJ6_bitCount_0f7a4_35 rfl (lv_at hl 0 rfl) ?_
  refine lv_bipush (v := 8) hx hb dJ6_bitCount_0f7a4_36 (by decide) ?_
  refine lv_iushr hx hb dJ6_bitCount_0f7a4_38 rfl ?_
  refine lv_topi (fun y_26 ey_26 => ?_)
  refine lv_iadd hx hb dJ6_bitCount_0f7a4_39 ?_
  refine lv_topi (fun y_27 ey_27 => ?_)
  refine lv_istore_n (lv' := [(0, .int y_27)]) hx hb dJ6_bitCount_0f7a4_40 rfl hl (by decide) rfl (fun ls hl => ?_)
  refine lv_iload_n hx hb dJ6_bitCount_0f7a4_41 rfl (lv_at hl 0 rfl) ?_
  refine lv_iload_n hx hb dJ6_bitCount_0f7a4_42 rfl (lv_at hl 0 rfl) ?_
  refine lv_bipush (v := 16) hx hb dJ6_bitCount_0f7a4_43 (by decide) ?_
  refine lv_iushr hx hb dJ6_bitCount_0f7a4_45 rfl ?_
  refine lv_topi (fun y_28 ey_28 => ?_)
  refine lv_iadd hx hb dJ6_bitCount_0f7a4_46 ?_
  refine lv_topi (fun y_29 ey_29 => ?_)
  refine lv_istore_n (lv' := [(0, .int y_29)]) hx hb dJ6_bitCount_0f7a4_47 rfl hl (by decide) rfl (fun ls hl => ?_)
  refine lv_iload_n hx hb dJ6_bitCount_0f7a4_48 rfl (lv_at hl 0 rfl) ?_
  refine lv_bipush (v := 63) hx hb dJ6_bitCount_0f7a4_49 (by decide) ?_
  refine lv_iand hx hb dJ6_bitCount_0f7a4_51 ?_
  refine lv_topi (fun y_30 ey_30 => ?_)
  refine W.widen (k := 0) (n := 0) (Nat.le_of_ble_eq_true rfl) (Nat.le_of_ble_eq_true rfl) ?_
  exact W.iret (v := y_30) hx hb hr (fun t ht hW => ⟨⟨y_30, (), rfl, trivial, by rw [ht]; exact hP, va_K.moved hW.alike hK, hD⟩, hS.F ht⟩) hS.2.2 dJ6_bitCount_0f7a4_52

set_option maxHeartbeats 4000000 in
set_option maxRecDepth 100000 in
/-- j_zeros -/
theorem j_zeros (l : Launch) (dC : Nat → ClassId) (dI : Nat → Nat → Nat) (sz : Nat) (x0 : Int32) : Met l yJ6_numberOfTrailingZeros_0f7a4 (.code yJ6_numberOfTrailingZeros_0f7a4 cJ6_numberOfTrailingZeros_0f7a4 2 (some .int) :: wsA) ({ frames := 0, cells := 0, slots := 0, locals := 0 }) (va_Pc [.int x0] (fun U => U.heap.size = sz ∧ va_P (dC, dI) classes [] U.heap ∧ va_K (dC, dI) classes [] U ∧ va_D (fun _ => True) [] ∧ xE U)) (va_Qi (fun (r : Int32) (_ : Unit) => True) (fun _ t => va_P (dC, dI) classes [] t.heap ∧ va_K (dC, dI) classes [] t ∧ va_D (va_A [] sz) []) (va_A [] sz)) 0 0 (va_A [] sz) := by
  refine Met.ofW (cc := cJ6_numberOfTrailingZeros_0f7a4) (maxL := 2) (ret := (some .int)) (by decide) rfl ?_
  intro p e s m args below meth c s₁ B hml hv
  obtain ⟨rfl, hsz, hP, hK, hD0, hE⟩ := hv
  have hx := B.exec
  have hb := B.bytes
  have hr := B.returns
  have hts := atoms_spec (ws := .code yJ6_numberOfTrailingZeros_0f7a4 cJ6_numberOfTrailingZeros_0f7a4 2 (some .int) :: wsA) B.pre
  have hq : ∀ w ∈ wsA, w.before _ s = true := fun w h => hts w (List.mem_cons_of_mem _ h)
  have hown : s.vm.findClass RJ6 = some m.cls := findClass_of_methodNamed B.named
  have hlocks := B.notSynchronized
  subst hsz
  have hD := hD0.self (sz := s.heap.size)
  generalize hAe : va_A [] s.heap.size = A at hD ⊢
  have hA : ∀ q : Nat, s.heap.size ≤ q → A q := fun q h => by rw [← hAe]; exact Or.inr h
  have hS : va_S A s.heap s.heap [] := va_S.rf
  have hl := lv_entry ([.int x0]) (n := 2) (Nat.le_of_ble_eq_true rfl)
  rw [lg_entry_eq]
  generalize (lg_sl ([.int x0]) ++ List.replicate (2 - (lg_sl ([.int x0])).length) Slot.unset).toArray = ls at hl ⊢
  have hl : lv_has ls 2 [(0, .int x0)] := hl
  refine lv_iload_n hx hb dJ6_numberOfTrailingZeros_0f7a4_0 rfl (lv_at hl 0 rfl) ?_
  refine lv_iconst (v := (-1)) hx hb dJ6_numberOfTrailingZeros_0f7a4_1 (by decide) ?_
  refine lv_ixor hx hb dJ6_numberOfTrailingZeros_0f7a4_2 ?_
  refine lv_topi (fun y_27 ey_27 => ?_)
  refine lv_iload_n hx hb dJ6_numberOfTrailingZeros_0f7a4_3 rfl (lv_at hl 0 rfl) ?_
  refine lv_iconst (v := 1) hx hb dJ6_numberOfTrailingZeros_0f7a4_4 (by decide) ?_
  refine lv_isub hx hb dJ6_numberOfTrailingZeros_0f7a4_5 ?_
  refine lv_topi (fun y_28 ey_28 => ?_)
  refine lv_iand hx hb dJ6_numberOfTrailingZeros_0f7a4_6 ?_
  refine lv_topi (fun y_29 ey_29 => ?_)
  refine lv_istore_n (lv' := [(0, .int y_29)]) hx hb dJ6_numberOfTrailingZeros_0f7a4_7 rfl hl (by decide) rfl (fun ls hl => ?_)
  refine lv_iload_n hx hb dJ6_numberOfTrailingZeros_0f7a4_8 rfl (lv_at hl 0 rfl) ?_
  refine lv_if_gt (tgt := 17) hx hb dJ6_numberOfTrailingZeros_0f7a4_9 (by decide) (fun c_30 => ?_) (fun c_30 => ?_)
  · refine lv_iconst (v := 1) hx hb dJ6_numberOfTrailingZeros_0f7a4_17 (by decide) ?_
    refine lv_istore_n (lv' := [(1, .int 1), (0, .int y_29)]) hx hb dJ6_numberOfTrailingZeros_0f7a4_18 rfl hl (by decide) rfl (fun ls hl => ?_)
    refine lv_iload_n hx hb dJ6_numberOfTrailingZeros_0f7a4_19 rfl (lv_at hl 1 rfl) ?_
    refine lv_ldcw (v := 65536) hx hb hown (hq _ qw_826) dJ6_numberOfTrailingZeros_0f7a4_20 ?_
    refine W.cut (I := fun H locs g => ∃ (y_33 : Int32) (y_34 : Int32) (ls : Array Slot), va_P (dC, dI) classes [] H ∧ va_D A [] ∧ va_S A s.heap H locs ∧ lv_has ls 2 [(1, .int y_33), (0, .int y_34)] ∧ g = F0 m 34 ls []) (fun H locs g h => ?_) (fun hJ34 => ?_)
    · obtain ⟨y_33, y_34, ls, hP, hD, hS, hl, rfl⟩ := h
      refine lv_iload_n hx hb dJ6_numberOfTrailingZeros_0f7a4_34 rfl (lv_at hl 1 rfl) ?_
      refine lv_sipush (v := 256) hx hb dJ6_numberOfTrailingZeros_0f7a4_35 (by decide) ?_
      refine W.cut (I := fun H locs g => ∃ (y_55 : Int32) (y_56 : Int32) (ls : Array Slot), va_P (dC, dI) classes [] H ∧ va_D A [] ∧ va_S A s.heap H locs ∧ lv_has ls 2 [(1, .int y_55), (0, .int y_56)] ∧ g = F0 m 49 ls []) (fun H locs g h => ?_) (fun hJ49 => ?_)
      · obtain ⟨y_55, y_56, ls, hP, hD, hS, hl, rfl⟩ := h
        refine lv_iload_n hx hb dJ6_numberOfTrailingZeros_0f7a4_49 rfl (lv_at hl 1 rfl) ?_
        refine lv_bipush (v := 16) hx hb dJ6_numberOfTrailingZeros_0f7a4_50 (by decide) ?_
        refine W.cut (I := fun H locs g => ∃ (y_72 : Int32) (y_73 : Int32) (ls : Array Slot), va_P (dC, dI) classes [] H ∧ va_D A [] ∧ va_S A s.heap H locs ∧ lv_has ls 2 [(1, .int y_72), (0, .int y_73)] ∧ g = F0 m 62 ls []) (fun H locs g h => ?_) (fun hJ62 => ?_)
        · obtain ⟨y_72, y_73, ls, hP, hD, hS, hl, rfl⟩ := h
          refine lv_iload_n hx hb dJ6_numberOfTrailingZeros_0f7a4_62 rfl (lv_at hl 1 rfl) ?_
          refine lv_iconst (v := 4) hx hb dJ6_numberOfTrailingZeros_0f7a4_63 (by decide) ?_
          refine W.cut (I := fun H locs g => ∃ (y_84 : Int32) (y_85 : Int32) (ls : Array Slot), va_P (dC, dI) classes [] H ∧ va_D A [] ∧ va_S A s.heap H locs ∧ lv_has ls 2 [(1, .int y_84), (0, .int y_85)] ∧ g = F0 m 74 ls []) (fun H locs g h => ?_) (fun hJ74 => ?_)
          · obtain ⟨y_84, y_85, ls, hP, hD, hS, hl, rfl⟩ := h
            refine lv_iload_n hx hb dJ6_numberOfTrailingZeros_0f7a4_74 rfl (lv_at hl 0 rfl) ?_
            refine lv_iload_n hx hb dJ6_numberOfTrailingZeros_0f7a4_75 rfl (lv_at hl 1 rfl) ?_
            refine lv_iconst (v := 1) hx hb dJ6_numberOfTrailingZeros_0f7a4_76 (by decide) ?_
            refine lv_iushr hx hb dJ6_numberOfTrailingZeros_0f7a4_77 rfl ?_
            refine lv_topi (fun y_88 ey_88 => ?_)
            refine lv_iadd hx hb dJ6_numberOfTrailingZeros_0f7a4_78 ?_
            refine lv_topi (fun y_89 ey_89 => ?_)
            refine W.widen (k := 0) (n := 0) (Nat.le_of_ble_eq_true rfl) (Nat.le_of_ble_eq_true rfl) ?_
            exact W.iret (v := y_89) hx hb hr (fun t ht hW => ⟨⟨y_89, (), rfl, trivial, by rw [ht]; exact hP, va_K.moved hW.alike hK, hD⟩, hS.F ht⟩) hS.2.2 dJ6_numberOfTrailingZeros_0f7a4_79
          refine lv_icmp_le (tgt := 74) hx hb dJ6_numberOfTrailingZeros_0f7a4_64 (by decide) (fun c_90 => ?_) (fun c_90 => ?_)
          · exact hJ74 _ _ _ ⟨y_72, y_73, _, hP, hD, hS, hl, rfl⟩
          · obtain ⟨y_91, ey_91⟩ : ∃ y : Int32, y = y_72 + 2 := ⟨_, rfl⟩
            refine lv_iinc (v := y_91) (lv' := [(1, .int y_91), (0, .int y_73)]) hx hb dJ6_numberOfTrailingZeros_0f7a4_67 hl (k := 0) rfl (by rw [ey_91]; rfl) (by decide) rfl (fun ls hl => ?_)
            refine lv_iload_n hx hb dJ6_numberOfTrailingZeros_0f7a4_70 rfl (lv_at hl 1 rfl) ?_
            refine lv_iconst (v := 2) hx hb dJ6_numberOfTrailingZeros_0f7a4_71 (by decide) ?_
            refine lv_iushr hx hb dJ6_numberOfTrailingZeros_0f7a4_72 rfl ?_
            refine lv_topi (fun y_92 ey_92 => ?_)
            refine lv_istore_n (lv' := [(0, .int y_92), (1, .int y_91)]) hx hb dJ6_numberOfTrailingZeros_0f7a4_73 rfl hl (by decide) rfl (fun ls hl => ?_)
            exact hJ74 _ _ _ ⟨y_91, y_92, _, hP, hD, hS, (lv_sub hl [1, 0] rfl), rfl⟩
        refine lv_icmp_le (tgt := 62) hx hb dJ6_numberOfTrailingZeros_0f7a4_52 (by decide) (fun c_93 => ?_) (fun c_93 => ?_)
        · exact hJ62 _ _ _ ⟨y_55, y_56, _, hP, hD, hS, hl, rfl⟩
        · obtain ⟨y_94, ey_94⟩ : ∃ y : Int32, y = y_55 + 4 := ⟨_, rfl⟩
          refine lv_iinc (v := y_94) (lv' := [(1, .int y_94), (0, .int y_56)]) hx hb dJ6_numberOfTrailingZeros_0f7a4_55 hl (k := 0) rfl (by rw [ey_94]; rfl) (by decide) rfl (fun ls hl => ?_)
          refine lv_iload_n hx hb dJ6_numberOfTrailingZeros_0f7a4_58 rfl (lv_at hl 1 rfl) ?_
          refine lv_iconst (v := 4) hx hb dJ6_numberOfTrailingZeros_0f7a4_59 (by decide) ?_
          refine lv_iushr hx hb dJ6_numberOfTrailingZeros_0f7a4_60 rfl ?_
          refine lv_topi (fun y_95 ey_95 => ?_)
          refine lv_istore_n (lv' := [(0, .int y_95), (1, .int y_94)]) hx hb dJ6_numberOfTrailingZeros_0f7a4_61 rfl hl (by decide) rfl (fun ls hl => ?_)
          exact hJ62 _ _ _ ⟨y_94, y_95, _, hP, hD, hS, (lv_sub hl [1, 0] rfl), rfl⟩
      refine lv_icmp_le (tgt := 49) hx hb dJ6_numberOfTrailingZeros_0f7a4_38 (by decide) (fun c_96 => ?_) (fun c_96 => ?_)
      · exact hJ49 _ _ _ ⟨y_33, y_34, _, hP, hD, hS, hl, rfl⟩
      · obtain ⟨y_97, ey_97⟩ : ∃ y : Int32, y = y_33 + 8 := ⟨_, rfl⟩
        refine lv_iinc (v := y_97) (lv' := [(1, .int y_97), (0, .int y_34)]) hx hb dJ6_numberOfTrailingZeros_0f7a4_41 hl (k := 0) rfl (by rw [ey_97]; rfl) (by decide) rfl (fun ls hl => ?_)
        refine lv_iload_n hx hb dJ6_numberOfTrailingZeros_0f7a4_44 rfl (lv_at hl 1 rfl) ?_
        refine lv_bipush (v := 8) hx hb dJ6_numberOfTrailingZeros_0f7a4_45 (by decide) ?_
        refine lv_iushr hx hb dJ6_numberOfTrailingZeros_0f7a4_47 rfl ?_
        refine lv_topi (fun y_98 ey_98 => ?_)
        refine lv_istore_n (lv' := [(0, .int y_98), (1, .int y_97)]) hx hb dJ6_numberOfTrailingZeros_0f7a4_48 rfl hl (by decide) rfl (fun ls hl => ?_)
        exact hJ49 _ _ _ ⟨y_97, y_98, _, hP, hD, hS, (lv_sub hl [1, 0] rfl), rfl⟩
    refine lv_icmp_le (tgt := 34) hx hb dJ6_numberOfTrailingZeros_0f7a4_23 (by decide) (fun c_99 => ?_) (fun c_99 => ?_)
    · exact hJ34 _ _ _ ⟨1, y_29, _, hP, hD, hS, hl, rfl⟩
    · refine lv_iinc (v := 17) (lv' := [(1, .int 17), (0, .int y_29)]) hx hb dJ6_numberOfTrailingZeros_0f7a4_26 hl (k := 0) rfl (by decide) (by decide) rfl (fun ls hl => ?_)
      refine lv_iload_n hx hb dJ6_numberOfTrailingZeros_0f7a4_29 rfl (lv_at hl 1 rfl) ?_
      refine lv_bipush (v := 16) hx hb dJ6_numberOfTrailingZeros_0f7a4_30 (by decide) ?_
      refine lv_iushr hx hb dJ6_numberOfTrailingZeros_0f7a4_32 rfl ?_
      refine lv_topi (fun y_100 ey_100 => ?_)
      refine lv_istore_n (lv' := [(0, .int y_100), (1, .int 17)]) hx hb dJ6_numberOfTrailingZeros_0f7a4_33 rfl hl (by decide) rfl (fun ls hl => ?_)
      exact hJ34 _ _ _ ⟨17, y_100, _, hP, hD, hS, (lv_sub hl [1, 0] rfl), rfl⟩
  · refine lv_iload_n hx hb dJ6_numberOfTrailingZeros_0f7a4_12 rfl (lv_at hl 0 rfl) ?_
    refine lv_bipush (v := 32) hx hb dJ6_numberOfTrailingZeros_0f7a4_13 (by decide) ?_
    refine lv_iand hx hb dJ6_numberOfTrailingZeros_0f7a4_15 ?_
    refine lv_topi (fun y_101 ey_101 => ?_)
    refine W.widen (k := 0) (n := 0) (Nat.le_of_ble_eq_true rfl) (Nat.le_of_ble_eq_true rfl) ?_
    exact W.iret (v := y_101) hx hb hr (fun t ht hW => ⟨⟨y_101, (), rfl, trivial, by rw [ht]; exact hP, va_K.moved hW.alike hK, hD⟩, hS.F ht⟩) hS.2.2 dJ6_numberOfTrailingZeros_0f7a4_16

set_option maxHeartbeats 4000000 in
set_option maxRecDepth 100000 in
/-- j_bitsl -/
theorem j_bitsl (l : Launch) (dC : Nat → ClassId) (dI : Nat → Nat → Nat) (sz : Nat) (z0 : Int64) : Met l yJ13_bitCount_95d88 (.code yJ13_bitCount_95d88 cJ13_bitCount_95d88 2 (some .int) :: wsA) ({ frames := 0, cells := 0, slots := 0, locals := 0 }) (va_Pc [.long z0] (fun U => U.heap.size = sz ∧ va_P (dC, dI) classes [] U.heap ∧ va_K (dC, dI) classes [] U ∧ va_D (fun _ => True) [] ∧ xE U)) (va_Qi (fun (r : Int32) (_ : Unit) => True) (fun _ t => va_P (dC, dI) classes [] t.heap ∧ va_K (dC, dI) classes [] t ∧ va_D (va_A [] sz) []) (va_A [] sz)) 0 0 (va_A [] sz) := by
  refine Met.ofW (cc := cJ13_bitCount_95d88) (maxL := 2) (ret := (some .int)) (by decide) rfl ?_
  intro p e s m args below meth c s₁ B hml hv
  obtain ⟨rfl, hsz, hP, hK, hD0, hE⟩ := hv
  have hx := B.exec
  have hb := B.bytes
  have hr := B.returns
  have hts := atoms_spec (ws := .code yJ13_bitCount_95d88 cJ13_bitCount_95d88 2 (some .int) :: wsA) B.pre
  have hq : ∀ w ∈ wsA, w.before _ s = true := fun w h => hts w (List.mem_cons_of_mem _ h)
  have hown : s.vm.findClass RJ13 = some m.cls := findClass_of_methodNamed B.named
  have hlocks := B.notSynchronized
  subst hsz
  have hD := hD0.self (sz := s.heap.size)
  generalize hAe : va_A [] s.heap.size = A at hD ⊢
  have hA : ∀ q : Nat, s.heap.size ≤ q → A q := fun q h => by rw [← hAe]; exact Or.inr h
  have hS : va_S A s.heap s.heap [] := va_S.rf
  have hl := lv_entry ([.long z0]) (n := 2) (Nat.le_of_ble_eq_true rfl)
  rw [lg_entry_eq]
  generalize (lg_sl ([.long z0]) ++ List.replicate (2 - (lg_sl ([.long z0])).length) Slot.unset).toArray = ls at hl ⊢
  have hl : lv_has ls 2 [(0, .long z0)] := hl
  refine lv_lload_n hx hb dJ13_bitCount_95d88_0 rfl (lv_at hl 0 rfl) ?_
  refine lv_lload_n hx hb dJ13_bitCount_95d88_1 rfl (lv_at hl 0 rfl) ?_
  refine lv_iconst (v := 1) hx hb dJ13_bitCount_95d88_2 (by decide) ?_
  refine lv_lushr hx hb dJ13_bitCount_95d88_3 rfl ?_
  refine lv_topl (fun z_19 ez_19 => ?_)
  refine lv_ldc2 (v := 6148914691236517205) hx hb hown (hq _ qw_1001) dJ13_bitCount_95d88_4 ?_
  refine lv_land hx hb dJ13_bitCount_95d88_7 ?_
  refine lv_topl (fun z_20 ez_20 => ?_)
  refine lv_lsub hx hb dJ13_bitCount_95d88_8 ?_
  refine lv_topl (fun z_21 ez_21 => ?_)
  refine lv_lstore_n (lv' := [(0, .long z_21)]) hx hb dJ13_bitCount_95d88_9 rfl hl (by decide) rfl (fun ls hl => ?_)
  refine lv_lload_n hx hb dJ13_bitCount_95d88_10 rfl (lv_at hl 0 rfl) ?_
  refine lv_ldc2 (v := 3689348814741910323) hx hb hown (hq _ qw_1002) dJ13_bitCount_95d88_11 ?_
  refine lv_land hx hb dJ13_bitCount_95d88_14 ?_
  refine lv_topl (fun z_22 ez_22 => ?_)
  refine lv_lload_n hx hb dJ13_bitCount_95d88_15 rfl (lv_at hl 0 rfl) ?_
  refine lv_iconst (v := 2) hx hb dJ13_bitCount_95d88_16 (by decide) ?_
  refine lv_lushr hx hb dJ13_bitCount_95d88_17 rfl ?_
  refine lv_topl (fun z_23 ez_23 => ?_)
  refine lv_ldc2 (v := 3689348814741910323) hx hb hown (hq _ qw_1002) dJ13_bitCount_95d88_18 ?_
  refine lv_land hx hb dJ13_bitCount_95d88_21 ?_
  refine lv_topl (fun z_24 ez_24 => ?_)
  refine lv_ladd hx hb dJ13_bitCount_95d88_22 ?_
  refine lv_topl (fun z_25 ez_25 => ?_)
  refine lv_lstore_n (lv' := [(0, .long z_25)]) hx hb dJ13_bitCount_95d88_23 rfl hl (by decide) rfl (fun ls hl => ?_)
  refine lv_lload_n hx hb dJ13_bitCount_95d88_24 rfl (lv_at hl 0 rfl) ?_
  refine lv_lload_n hx hb dJ13_bitCount_95d88_25 rfl (lv_at hl 0 rfl) ?_
  refine lv_iconst (v := 4) hx hb dJ13_bitCount_95d88_26 (by decide) ?_
  refine lv_lushr hx hb dJ13_bitCount_95d88_27 rfl ?_
  refine lv_topl (fun z_26 ez_26 => ?_)
  refine lv_ladd hx hb dJ13_bitCount_95d88_28 ?_
  refine lv_topl (fun z_27 ez_27 => ?_)
  refine lv_ldc2 (v := 1085102592571150095) hx hb hown (hq _ qw_1003) dJ13_bitCount_95d88_29 ?_
  refine lv_land hx hb dJ13_bitCount_95d88_32 ?_
  refine lv_topl (fun z_28 ez_28 => ?_)
  refine lv_lstore_n (lv' := [(0, .long z_28)]) hx hb dJ13_bitCount_95d88_33 rfl hl (by decide) rfl (fun ls hl => ?_)
  refine lv_lload_n hx hb dJ13_bitCount_95d88_34 rfl (lv_at hl 0 rfl) ?_
  refine lv_lload_n hx hb dJ13_bitCount_95d88_35 rfl (lv_at hl 0 rfl) ?_
  refine lv_bipush (v := 8) hx hb dJ13_bitCount_95d88_36 (by decide) ?_
  refine lv_lushr hx hb dJ13_bitCount_95d88_38 rfl ?_
  refine lv_topl (fun z_29 ez_29 => ?_)
  refine lv_ladd hx hb dJ13_bitCount_95d88_39 ?_
  refine lv_topl (fun z_30 ez_30 => ?_)
  refine lv_lstore_n (lv' := [(0, .long z_30)]) hx hb dJ13_bitCount_95d88_40 rfl hl (by decide) rfl (fun ls hl => ?_)
  refine lv_lload_n hx hb dJ13_bitCount_95d88_41 rfl (lv_at hl 0 rfl) ?_
  refine lv_lload_n hx hb dJ13_bitCount_95d88_42 rfl (lv_at hl 0 rfl) ?_
  refine lv_bipush (v := 16) hx hb dJ13_bitCount_95d88_43 (by decide) ?_
  refine lv_lushr hx hb dJ13_bitCount_95d88_45 rfl ?_
  refine lv_topl (fun z_31 ez_31 => ?_)
  refine lv_ladd hx hb dJ13_bitCount_95d88_46 ?_
  refine lv_topl (fun z_32 ez_32 => ?_)
  refine lv_lstore_n (lv' := [(0, .long z_32)]) hx hb dJ13_bitCount_95d88_47 rfl hl (by decide) rfl (fun ls hl => ?_)
  refine lv_lload_n hx hb dJ13_bitCount_95d88_48 rfl (lv_at hl 0 rfl) ?_
  refine lv_lload_n hx hb dJ13_bitCount_95d88_49 rfl (lv_at hl 0 rfl) ?_
  refine lv_bipush (v := 32) hx hb dJ13_bitCount_95d88_50 (by decide) ?_
  refine lv_lushr hx hb dJ13_bitCount_95d88_52 rfl ?_
  refine lv_topl (fun z_33 ez_33 => ?_)
  refine lv_ladd hx hb dJ13_bitCount_95d88_53 ?_
  refine lv_topl (fun z_34 ez_34 => ?_)
  refine lv_lstore_n (lv' := [(0, .long z_34)]) hx hb dJ13_bitCount_95d88_54 rfl hl (by decide) rfl (fun ls hl => ?_)
  refine lv_lload_n hx hb dJ13_bitCount_95d88_55 rfl (lv_at hl 0 rfl) ?_
  refine lv_l2i hx hb dJ13_bitCount_95d88_56 rfl ?_
  refine lv_topi (fun y_35 ey_35 => ?_)
  refine lv_bipush (v := 127) hx hb dJ13_bitCount_95d88_57 (by decide) ?_
  refine lv_iand hx hb dJ13_bitCount_95d88_59 ?_
  refine lv_topi (fun y_36 ey_36 => ?_)
  refine W.widen (k := 0) (n := 0) (Nat.le_of_ble_eq_true rfl) (Nat.le_of_ble_eq_true rfl) ?_
  exact W.iret (v := y_36) hx hb hr (fun t ht hW => ⟨⟨y_36, (), rfl, trivial, by rw [ht]; exact hP, va_K.moved hW.alike hK, hD⟩, hS.F ht⟩) hS.2.2 dJ13_bitCount_95d88_60
