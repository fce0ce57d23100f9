theorem qw_121 : (.initialized RX7 : Cond) ∈ wsA := mA (i := 121) (by decide +kernel) rfl
theorem qw_123 : (.initialized RX9 : Cond) ∈ wsA := mA (i := 123) (by decide +kernel) rfl
theorem qw_124 : (.initialized RX1 : Cond) ∈ wsA := mA (i := 124) (by decide +kernel) rfl
theorem qw_125 : (.initialized RX3 : Cond) ∈ wsA := mA (i := 125) (by decide +kernel) rfl
theorem qw_126 : (.initialized RX5 : Cond) ∈ wsA := mA (i := 126) (by decide +kernel) rfl
theorem qw_152 : (.methodLink RX2 3 objectInit : Cond) ∈ wsA := mA (i := 152) (by decide +kernel) rfl
theorem qw_153 : (.classLink RX2 9 RX7 : Cond) ∈ wsA := mA (i := 153) (by decide +kernel) rfl
theorem qw_154 : (.instantiable RX7 4 : Cond) ∈ wsA := mA (i := 154) (by decide +kernel) rfl
theorem qw_156 : (.instanceMethod yX7_init : Cond) ∈ wsA := mA (i := 156) (by decide +kernel) rfl
theorem qw_157 : (.code yX7_init cX7_init 1 none : Cond) ∈ wsA := mA (i := 157) (by decide +kernel) rfl
theorem qw_158 : (.methodLink RX7 3 objectInit : Cond) ∈ wsA := mA (i := 158) (by decide +kernel) rfl
theorem qw_159 : (.fieldLink RX7 9 "SpokenBite$Reade\x72" "text" "[I" : Cond) ∈ wsA := mA (i := 159) (by decide +kernel) rfl
theorem qw_177 : (.fieldLink RX2 12 "SpokenBite$DinnerReade\x72" "reade\x72" "LSpokenBite$Reader;" : Cond) ∈ wsA := mA (i := 177) (by decide +kernel) rfl
theorem qw_186 : (.methodLink RX10 3 objectInit : Cond) ∈ wsA := mA (i := 186) (by decide +kernel) rfl
theorem qw_187 : (.classLink RX10 9 RX7 : Cond) ∈ wsA := mA (i := 187) (by decide +kernel) rfl
theorem qw_189 : (.classLink RX10 18 RX9 : Cond) ∈ wsA := mA (i := 189) (by decide +kernel) rfl
theorem qw_190 : (.instantiable RX9 3 : Cond) ∈ wsA := mA (i := 190) (by decide +kernel) rfl
theorem qw_192 : (.instanceMethod yX9_init : Cond) ∈ wsA := mA (i := 192) (by decide +kernel) rfl
theorem qw_193 : (.code yX9_init cX9_init 1 none : Cond) ∈ wsA := mA (i := 193) (by decide +kernel) rfl
theorem qw_194 : (.methodLink RX9 3 objectInit : Cond) ∈ wsA := mA (i := 194) (by decide +kernel) rfl
theorem qw_195 : (.fieldLink RX9 9 "SpokenBite$Rule" "code" "[I" : Cond) ∈ wsA := mA (i := 195) (by decide +kernel) rfl
theorem qw_206 : (.fieldLink RX10 12 "SpokenBite$RuleReade\x72" "reade\x72" "LSpokenBite$Reader;" : Cond) ∈ wsA := mA (i := 206) (by decide +kernel) rfl
theorem qw_207 : (.fieldLink RX10 21 "SpokenBite$RuleReade\x72" "rule" "LSpokenBite$Rule;" : Cond) ∈ wsA := mA (i := 207) (by decide +kernel) rfl
theorem qw_219 : (.instantiable RX1 7 : Cond) ∈ wsA := mA (i := 219) (by decide +kernel) rfl
theorem qw_221 : (.instanceMethod yX1_init : Cond) ∈ wsA := mA (i := 221) (by decide +kernel) rfl
theorem qw_222 : (.code yX1_init cX1_init 1 none : Cond) ∈ wsA := mA (i := 222) (by decide +kernel) rfl
theorem qw_264 : (.instantiable RX3 6 : Cond) ∈ wsA := mA (i := 264) (by decide +kernel) rfl
theorem qw_266 : (.instanceMethod yX3_init : Cond) ∈ wsA := mA (i := 266) (by decide +kernel) rfl
theorem qw_267 : (.code yX3_init cX3_init 1 none : Cond) ∈ wsA := mA (i := 267) (by decide +kernel) rfl
theorem qw_302 : (.instantiable RX5 5 : Cond) ∈ wsA := mA (i := 302) (by decide +kernel) rfl
theorem qw_304 : (.instanceMethod yX5_init : Cond) ∈ wsA := mA (i := 304) (by decide +kernel) rfl
theorem qw_305 : (.code yX5_init cX5_init 1 none : Cond) ∈ wsA := mA (i := 305) (by decide +kernel) rfl
theorem qw_306 : (.methodLink RX5 3 objectInit : Cond) ∈ wsA := mA (i := 306) (by decide +kernel) rfl
theorem qw_309 : (.fieldLink RX5 9 "SpokenBite$Notes" "when" "[I" : Cond) ∈ wsA := mA (i := 309) (by decide +kernel) rfl
theorem qw_310 : (.fieldLink RX5 15 "SpokenBite$Notes" "who" "[I" : Cond) ∈ wsA := mA (i := 310) (by decide +kernel) rfl
theorem qw_311 : (.fieldLink RX5 18 "SpokenBite$Notes" "secret" "[I" : Cond) ∈ wsA := mA (i := 311) (by decide +kernel) rfl
theorem qw_312 : (.fieldLink RX5 21 "SpokenBite$Notes" "knew" "[I" : Cond) ∈ wsA := mA (i := 312) (by decide +kernel) rfl
theorem qw_329 : (.methodLink RX6 3 objectInit : Cond) ∈ wsA := mA (i := 329) (by decide +kernel) rfl
theorem qw_330 : (.classLink RX6 9 RX3 : Cond) ∈ wsA := mA (i := 330) (by decide +kernel) rfl
theorem qw_333 : (.fieldLink RX6 11 "SpokenBite$Past" "ring" "[LSpokenBite$Evening;" : Cond) ∈ wsA := mA (i := 333) (by decide +kernel) rfl
theorem qw_351 : (.methodLink RX0 3 objectInit : Cond) ∈ wsA := mA (i := 351) (by decide +kernel) rfl
theorem qw_352 : (.classLink RX0 9 RX1 : Cond) ∈ wsA := mA (i := 352) (by decide +kernel) rfl
theorem qw_354 : (.fieldLink RX0 12 "SpokenBite$Course" "dinne\x72" "LSpokenBite$Dinner;" : Cond) ∈ wsA := mA (i := 354) (by decide +kernel) rfl
theorem qw_356 : (.fieldLink RX0 20 "SpokenBite$Course" "words" "[J" : Cond) ∈ wsA := mA (i := 356) (by decide +kernel) rfl
theorem qw_357 : (.fieldLink RX0 24 "SpokenBite$Course" "stack" "[J" : Cond) ∈ wsA := mA (i := 357) (by decide +kernel) rfl
theorem qw_382 : (.arrayClass .long : Cond) ∈ wsA := mA (i := 382) (by decide +kernel) rfl
theorem qw_388 : (.methodLink RX8 3 objectInit : Cond) ∈ wsA := mA (i := 388) (by decide +kernel) rfl
theorem qw_389 : (.classLink RX8 9 RX3 : Cond) ∈ wsA := mA (i := 389) (by decide +kernel) rfl
theorem qw_391 : (.fieldLink RX8 11 "SpokenBite$RowSearch" "steps" "[LSpokenBite$Evening;" : Cond) ∈ wsA := mA (i := 391) (by decide +kernel) rfl
theorem qw_392 : (.fieldLink RX8 17 "SpokenBite$RowSearch" "row" "[I" : Cond) ∈ wsA := mA (i := 392) (by decide +kernel) rfl
theorem qw_393 : (.fieldLink RX8 21 "SpokenBite$RowSearch" "first" "[I" : Cond) ∈ wsA := mA (i := 393) (by decide +kernel) rfl
theorem qw_419 : (.methodLink RX4 3 objectInit : Cond) ∈ wsA := mA (i := 419) (by decide +kernel) rfl
theorem qw_420 : (.classLink RX4 9 RX1 : Cond) ∈ wsA := mA (i := 420) (by decide +kernel) rfl
theorem qw_422 : (.classLink RX4 18 RX3 : Cond) ∈ wsA := mA (i := 422) (by decide +kernel) rfl
theorem qw_424 : (.classLink RX4 25 RX5 : Cond) ∈ wsA := mA (i := 424) (by decide +kernel) rfl
theorem qw_427 : (.fieldLink RX4 12 "SpokenBite$Image" "told" "LSpokenBite$Dinner;" : Cond) ∈ wsA := mA (i := 427) (by decide +kernel) rfl
theorem qw_429 : (.fieldLink RX4 21 "SpokenBite$Image" "evening" "LSpokenBite$Evening;" : Cond) ∈ wsA := mA (i := 429) (by decide +kernel) rfl
theorem qw_431 : (.fieldLink RX4 28 "SpokenBite$Image" "notes" "LSpokenBite$Notes;" : Cond) ∈ wsA := mA (i := 431) (by decide +kernel) rfl
theorem qw_433 : (.fieldLink RX4 32 "SpokenBite$Image" "inForce" "I" : Cond) ∈ wsA := mA (i := 433) (by decide +kernel) rfl
theorem dX0_init_0 : decode cX0_init 0 = .ok (.aload_n 0, 1) := by decide +kernel
theorem dX0_init_1 : decode cX0_init 1 = .ok (.invokespecial 3, 3) := by decide +kernel
theorem dX0_init_4 : decode cX0_init 4 = .ok (.aload_n 0, 1) := by decide +kernel
theorem dX0_init_5 : decode cX0_init 5 = .ok (.new 9, 3) := by decide +kernel
theorem dX0_init_8 : decode cX0_init 8 = .ok (.dup, 1) := by decide +kernel
theorem dX0_init_9 : decode cX0_init 9 = .ok (.invokespecial 11, 3) := by decide +kernel
theorem dX0_init_12 : decode cX0_init 12 = .ok (.putfield 12, 3) := by decide +kernel
theorem dX0_init_15 : decode cX0_init 15 = .ok (.aload_n 0, 1) := by decide +kernel
theorem dX0_init_16 : decode cX0_init 16 = .ok (.bipush 10, 2) := by decide +kernel
theorem dX0_init_18 : decode cX0_init 18 = .ok (.newarray .long, 2) := by decide +kernel
theorem dX0_init_20 : decode cX0_init 20 = .ok (.putfield 20, 3) := by decide +kernel
theorem dX0_init_23 : decode cX0_init 23 = .ok (.aload_n 0, 1) := by decide +kernel
theorem dX0_init_24 : decode cX0_init 24 = .ok (.bipush 32, 2) := by decide +kernel
theorem dX0_init_26 : decode cX0_init 26 = .ok (.newarray .long, 2) := by decide +kernel
theorem dX0_init_28 : decode cX0_init 28 = .ok (.putfield 24, 3) := by decide +kernel
theorem dX0_init_31 : decode cX0_init 31 = .ok (.return_, 1) := by decide +kernel
theorem dX10_init_0 : decode cX10_init 0 = .ok (.aload_n 0, 1) := by decide +kernel
theorem dX10_init_1 : decode cX10_init 1 = .ok (.invokespecial 3, 3) := by decide +kernel
theorem dX10_init_4 : decode cX10_init 4 = .ok (.aload_n 0, 1) := by decide +kernel
theorem dX10_init_5 : decode cX10_init 5 = .ok (.new 9, 3) := by decide +kernel
theorem dX10_init_8 : decode cX10_init 8 = .ok (.dup, 1) := by decide +kernel
theorem dX10_init_9 : decode cX10_init 9 = .ok (.invokespecial 11, 3) := by decide +kernel
theorem dX10_init_12 : decode cX10_init 12 = .ok (.putfield 12, 3) := by decide +kernel
theorem dX10_init_15 : decode cX10_init 15 = .ok (.aload_n 0, 1) := by decide +kernel
theorem dX10_init_16 : decode cX10_init 16 = .ok (.new 18, 3) := by decide +kernel
theorem dX10_init_19 : decode cX10_init 19 = .ok (.dup, 1) := by decide +kernel
theorem dX10_init_20 : decode cX10_init 20 = .ok (.invokespecial 20, 3) := by decide +kernel
theorem dX10_init_23 : decode cX10_init 23 = .ok (.putfield 21, 3) := by decide +kernel
theorem dX10_init_26 : decode cX10_init 26 = .ok (.return_, 1) := by decide +kernel
theorem dX2_init_0 : decode cX2_init 0 = .ok (.aload_n 0, 1) := by decide +kernel
theorem dX2_init_1 : decode cX2_init 1 = .ok (.invokespecial 3, 3) := by decide +kernel
theorem dX2_init_4 : decode cX2_init 4 = .ok (.aload_n 0, 1) := by decide +kernel
theorem dX2_init_5 : decode cX2_init 5 = .ok (.new 9, 3) := by decide +kernel
theorem dX2_init_8 : decode cX2_init 8 = .ok (.dup, 1) := by decide +kernel
theorem dX2_init_9 : decode cX2_init 9 = .ok (.invokespecial 11, 3) := by decide +kernel
theorem dX2_init_12 : decode cX2_init 12 = .ok (.putfield 12, 3) := by decide +kernel
theorem dX2_init_15 : decode cX2_init 15 = .ok (.return_, 1) := by decide +kernel
theorem dX4_init_0 : decode cX4_init 0 = .ok (.aload_n 0, 1) := by decide +kernel
theorem dX4_init_1 : decode cX4_init 1 = .ok (.invokespecial 3, 3) := by decide +kernel
theorem dX4_init_4 : decode cX4_init 4 = .ok (.aload_n 0, 1) := by decide +kernel
theorem dX4_init_5 : decode cX4_init 5 = .ok (.new 9, 3) := by decide +kernel
theorem dX4_init_8 : decode cX4_init 8 = .ok (.dup, 1) := by decide +kernel
theorem dX4_init_9 : decode cX4_init 9 = .ok (.invokespecial 11, 3) := by decide +kernel
theorem dX4_init_12 : decode cX4_init 12 = .ok (.putfield 12, 3) := by decide +kernel
theorem dX4_init_15 : decode cX4_init 15 = .ok (.aload_n 0, 1) := by decide +kernel
theorem dX4_init_16 : decode cX4_init 16 = .ok (.new 18, 3) := by decide +kernel
theorem dX4_init_19 : decode cX4_init 19 = .ok (.dup, 1) := by decide +kernel
theorem dX4_init_20 : decode cX4_init 20 = .ok (.invokespecial 20, 3) := by decide +kernel
theorem dX4_init_23 : decode cX4_init 23 = .ok (.putfield 21, 3) := by decide +kernel
theorem dX4_init_26 : decode cX4_init 26 = .ok (.aload_n 0, 1) := by decide +kernel
theorem dX4_init_27 : decode cX4_init 27 = .ok (.new 25, 3) := by decide +kernel
theorem dX4_init_30 : decode cX4_init 30 = .ok (.dup, 1) := by decide +kernel
theorem dX4_init_31 : decode cX4_init 31 = .ok (.invokespecial 27, 3) := by decide +kernel
theorem dX4_init_34 : decode cX4_init 34 = .ok (.putfield 28, 3) := by decide +kernel
theorem dX4_init_37 : decode cX4_init 37 = .ok (.aload_n 0, 1) := by decide +kernel
theorem dX4_init_38 : decode cX4_init 38 = .ok (.iconst (-1), 1) := by decide +kernel
theorem dX4_init_39 : decode cX4_init 39 = .ok (.putfield 32, 3) := by decide +kernel
theorem dX4_init_42 : decode cX4_init 42 = .ok (.return_, 1) := by decide +kernel
theorem dX5_init_0 : decode cX5_init 0 = .ok (.aload_n 0, 1) := by decide +kernel
theorem dX5_init_1 : decode cX5_init 1 = .ok (.invokespecial 3, 3) := by decide +kernel
theorem dX5_init_4 : decode cX5_init 4 = .ok (.aload_n 0, 1) := by decide +kernel
theorem dX5_init_5 : decode cX5_init 5 = .ok (.bipush 10, 2) := by decide +kernel
theorem dX5_init_7 : decode cX5_init 7 = .ok (.newarray .int, 2) := by decide +kernel
theorem dX5_init_9 : decode cX5_init 9 = .ok (.putfield 9, 3) := by decide +kernel
theorem dX5_init_12 : decode cX5_init 12 = .ok (.aload_n 0, 1) := by decide +kernel
theorem dX5_init_13 : decode cX5_init 13 = .ok (.bipush 10, 2) := by decide +kernel
theorem dX5_init_15 : decode cX5_init 15 = .ok (.newarray .int, 2) := by decide +kernel
theorem dX5_init_17 : decode cX5_init 17 = .ok (.putfield 15, 3) := by decide +kernel
theorem dX5_init_20 : decode cX5_init 20 = .ok (.aload_n 0, 1) := by decide +kernel
theorem dX5_init_21 : decode cX5_init 21 = .ok (.bipush 10, 2) := by decide +kernel
theorem dX5_init_23 : decode cX5_init 23 = .ok (.newarray .int, 2) := by decide +kernel
theorem dX5_init_25 : decode cX5_init 25 = .ok (.putfield 18, 3) := by decide +kernel
theorem dX5_init_28 : decode cX5_init 28 = .ok (.aload_n 0, 1) := by decide +kernel
theorem dX5_init_29 : decode cX5_init 29 = .ok (.bipush 10, 2) := by decide +kernel
theorem dX5_init_31 : decode cX5_init 31 = .ok (.newarray .int, 2) := by decide +kernel
theorem dX5_init_33 : decode cX5_init 33 = .ok (.putfield 21, 3) := by decide +kernel
theorem dX5_init_36 : decode cX5_init 36 = .ok (.return_, 1) := by decide +kernel
theorem dX6_init_0 : decode cX6_init 0 = .ok (.aload_n 0, 1) := by decide +kernel
theorem dX6_init_1 : decode cX6_init 1 = .ok (.invokespecial 3, 3) := by decide +kernel
theorem dX6_init_4 : decode cX6_init 4 = .ok (.aload_n 0, 1) := by decide +kernel
theorem dX6_init_5 : decode cX6_init 5 = .ok (.bipush 20, 2) := by decide +kernel
theorem dX6_init_7 : decode cX6_init 7 = .ok (.anewarray 9, 3) := by decide +kernel
theorem dX6_init_10 : decode cX6_init 10 = .ok (.putfield 11, 3) := by decide +kernel
theorem dX6_init_13 : decode cX6_init 13 = .ok (.iconst 0, 1) := by decide +kernel
theorem dX6_init_14 : decode cX6_init 14 = .ok (.istore_n 1, 1) := by decide +kernel
theorem dX6_init_15 : decode cX6_init 15 = .ok (.iload_n 1, 1) := by decide +kernel
theorem dX6_init_16 : decode cX6_init 16 = .ok (.bipush 20, 2) := by decide +kernel
theorem dX6_init_18 : decode cX6_init 18 = .ok (.if_icmp .ge 22, 3) := by decide +kernel
theorem dX6_init_21 : decode cX6_init 21 = .ok (.aload_n 0, 1) := by decide +kernel
theorem dX6_init_22 : decode cX6_init 22 = .ok (.getfield 11, 3) := by decide +kernel
theorem dX6_init_25 : decode cX6_init 25 = .ok (.iload_n 1, 1) := by decide +kernel
theorem dX6_init_26 : decode cX6_init 26 = .ok (.new 9, 3) := by decide +kernel
theorem dX6_init_29 : decode cX6_init 29 = .ok (.dup, 1) := by decide +kernel
theorem dX6_init_30 : decode cX6_init 30 = .ok (.invokespecial 17, 3) := by decide +kernel
theorem dX6_init_33 : decode cX6_init 33 = .ok (.aastore, 1) := by decide +kernel
theorem dX6_init_34 : decode cX6_init 34 = .ok (.iinc 1 1, 3) := by decide +kernel
theorem dX6_init_37 : decode cX6_init 37 = .ok (.goto (-22), 3) := by decide +kernel
theorem dX6_init_40 : decode cX6_init 40 = .ok (.return_, 1) := by decide +kernel
theorem dX7_init_0 : decode cX7_init 0 = .ok (.aload_n 0, 1) := by decide +kernel
theorem dX7_init_1 : decode cX7_init 1 = .ok (.invokespecial 3, 3) := by decide +kernel
theorem dX7_init_4 : decode cX7_init 4 = .ok (.aload_n 0, 1) := by decide +kernel
theorem dX7_init_5 : decode cX7_init 5 = .ok (.iconst 0, 1) := by decide +kernel
theorem dX7_init_6 : decode cX7_init 6 = .ok (.newarray .int, 2) := by decide +kernel
theorem dX7_init_8 : decode cX7_init 8 = .ok (.putfield 9, 3) := by decide +kernel
theorem dX7_init_11 : decode cX7_init 11 = .ok (.return_, 1) := by decide +kernel
theorem dX8_init_0 : decode cX8_init 0 = .ok (.aload_n 0, 1) := by decide +kernel
theorem dX8_init_1 : decode cX8_init 1 = .ok (.invokespecial 3, 3) := by decide +kernel
theorem dX8_init_4 : decode cX8_init 4 = .ok (.aload_n 0, 1) := by decide +kernel
theorem dX8_init_5 : decode cX8_init 5 = .ok (.iconst 5, 1) := by decide +kernel
theorem dX8_init_6 : decode cX8_init 6 = .ok (.anewarray 9, 3) := by decide +kernel
theorem dX8_init_9 : decode cX8_init 9 = .ok (.putfield 11, 3) := by decide +kernel
theorem dX8_init_12 : decode cX8_init 12 = .ok (.aload_n 0, 1) := by decide +kernel
theorem dX8_init_13 : decode cX8_init 13 = .ok (.iconst 4, 1) := by decide +kernel
theorem dX8_init_14 : decode cX8_init 14 = .ok (.newarray .int, 2) := by decide +kernel
theorem dX8_init_16 : decode cX8_init 16 = .ok (.putfield 17, 3) := by decide +kernel
theorem dX8_init_19 : decode cX8_init 19 = .ok (.aload_n 0, 1) := by decide +kernel
theorem dX8_init_20 : decode cX8_init 20 = .ok (.iconst 4, 1) := by decide +kernel
theorem dX8_init_21 : decode cX8_init 21 = .ok (.newarray .int, 2) := by decide +kernel
theorem dX8_init_23 : decode cX8_init 23 = .ok (.putfield 21, 3) := by decide +kernel
theorem dX8_init_26 : decode cX8_init 26 = .ok (.iconst 0, 1) := by decide +kernel
theorem dX8_init_27 : decode cX8_init 27 = .ok (.istore_n 1, 1) := by decide +kernel
theorem dX8_init_28 : decode cX8_init 28 = .ok (.iload_n 1, 1) := by decide +kernel
theorem dX8_init_29 : decode cX8_init 29 = .ok (.iconst 4, 1) := by decide +kernel
theorem dX8_init_30 : decode cX8_init 30 = .ok (.if_icmp .gt 22, 3) := by decide +kernel
theorem dX8_init_33 : decode cX8_init 33 = .ok (.aload_n 0, 1) := by decide +kernel
theorem dX8_init_34 : decode cX8_init 34 = .ok (.getfield 11, 3) := by decide +kernel
theorem dX8_init_37 : decode cX8_init 37 = .ok (.iload_n 1, 1) := by decide +kernel
theorem dX8_init_38 : decode cX8_init 38 = .ok (.new 9, 3) := by decide +kernel
theorem dX8_init_41 : decode cX8_init 41 = .ok (.dup, 1) := by decide +kernel
theorem dX8_init_42 : decode cX8_init 42 = .ok (.invokespecial 24, 3) := by decide +kernel
theorem dX8_init_45 : decode cX8_init 45 = .ok (.aastore, 1) := by decide +kernel
theorem dX8_init_46 : decode cX8_init 46 = .ok (.iinc 1 1, 3) := by decide +kernel
theorem dX8_init_49 : decode cX8_init 49 = .ok (.goto (-21), 3) := by decide +kernel
theorem dX8_init_52 : decode cX8_init 52 = .ok (.return_, 1) := by decide +kernel
theorem dX9_init_0 : decode cX9_init 0 = .ok (.aload_n 0, 1) := by decide +kernel
theorem dX9_init_1 : decode cX9_init 1 = .ok (.invokespecial 3, 3) := by decide +kernel
theorem dX9_init_4 : decode cX9_init 4 = .ok (.aload_n 0, 1) := by decide +kernel
theorem dX9_init_5 : decode cX9_init 5 = .ok (.sipush 400, 3) := by decide +kernel
theorem dX9_init_8 : decode cX9_init 8 = .ok (.newarray .int, 2) := by decide +kernel
theorem dX9_init_10 : decode cX9_init 10 = .ok (.putfield 9, 3) := by decide +kernel
theorem dX9_init_13 : decode cX9_init 13 = .ok (.return_, 1) := by decide +kernel
set_option maxHeartbeats 4000000 in
set_option maxRecDepth 100000 in
/-- c_Reader_init -/
theorem c_Reader_init (l : Launch) (dC : Nat → ClassId) (dI : Nat → Nat → Nat) (sz : Nat) (h0 : Nat) : Met l yX7_init (.code yX7_init cX7_init 1 none :: wsA) ({ frames := 1, cells := 1, slots := 0, locals := 12 }) (va_Pc [.ref h0] (fun U => U.heap.size = sz ∧ va_P (dC, dI) classes [(h0, .inr (7, [.null, .int 0, .int 0, .int 0]))] U.heap ∧ va_K (dC, dI) classes [] U ∧ va_D (fun _ => True) [(h0, .inr (7, [.null, .int 0, .int 0, .int 0]))] ∧ xE U)) (va_Qv (fun (_ : Unit) => True) (fun _ t => ∃ (o_q_1 : Nat), va_P (dC, dI) classes [(h0, .inr (7, [.ref o_q_1, .int 0, .int 0, .int 0]))] t.heap ∧ va_K (dC, dI) classes [] t ∧ va_D (va_A [(h0, .inr (7, [.null, .int 0, .int 0, .int 0]))] sz) [(h0, .inr (7, [.ref o_q_1, .int 0, .int 0, .int 0]))]) (va_A [(h0, .inr (7, [.null, .int 0, .int 0, .int 0]))] sz)) 1 0 (va_A [(h0, .inr (7, [.null, .int 0, .int 0, .int 0]))] sz) := by
  refine Met.ofW (cc := cX7_init) (maxL := 1) (ret := none) (by decide) rfl ?_
  intro p e s m args below meth c s₁ B hml hv
  obtain ⟨rfl, hsz, hP, hK, hD0, hE⟩ := hv
  have hx := B.exec
  have hb := B.bytes
  have hr := B.returns
  have hts := atoms_spec (ws := .code yX7_init cX7_init 1 none :: wsA) B.pre
  have hq : ∀ w ∈ wsA, w.before _ s = true := fun w h => hts w (List.mem_cons_of_mem _ h)
  have hown : s.vm.findClass RX7 = some m.cls := findClass_of_methodNamed B.named
  have hlocks := B.notSynchronized
  have hin : meth.name = "<init>" := (name_of_methodNamed B.named B.method).1
  subst hsz
  have hD := hD0.self (sz := s.heap.size)
  generalize hAe : va_A [(h0, .inr (7, [.null, .int 0, .int 0, .int 0]))] s.heap.size = A at hD ⊢
  have hA : ∀ q : Nat, s.heap.size ≤ q → A q := fun q h => by rw [← hAe]; exact Or.inr h
  have hS : va_S A s.heap s.heap [] := va_S.rf
  have hl := lv_entry ([.ref h0]) (n := 1) (Nat.le_of_ble_eq_true rfl)
  rw [lg_entry_eq]
  generalize (lg_sl ([.ref h0]) ++ List.replicate (1 - (lg_sl ([.ref h0])).length) Slot.unset).toArray = ls at hl ⊢
  have hl : lv_has ls 1 [(0, .ref h0)] := hl
  refine lv_aload_n hx hb dX7_init_0 rfl (lv_at hl 0 rfl) ?_
  refine W.objInit hx hb hown (hq _ qw_158) (hq _ qw_145) (hq _ qw_146) rfl (by rw [hml]; exact hl.1) rfl dX7_init_1 (Nat.le_of_ble_eq_true rfl) (Nat.le_of_ble_eq_true rfl) ?_
  refine W.eq (g2 := F0 m 4 ls []) rfl ?_
  refine lv_aload_n hx hb dX7_init_4 rfl (lv_at hl 0 rfl) ?_
  refine lv_iconst (v := 0) hx hb dX7_init_5 (by decide) ?_
  refine va_newa (atype := .int) (ty := .int) (N' := 0) (a0 := (0, .inl (fun _ => 0))) hx hb (hq _ qw_176) rfl hK hP hD hS hA (fun _ => rfl) (by decide) (by decide) (Nat.le_of_ble_eq_true rfl) (Nat.le_of_ble_eq_true rfl) (Nat.le_of_ble_eq_true rfl) dX7_init_6 (fun q_1 k_2 H hK hP hD hS => ?_)
  have hP : va_P (dC, dI) classes [(h0, .inr (7, [.null, .int 0, .int 0, .int 0])), (q_1, .inl (k_2, 0, .inl (fun _ => 0)))] H := hP
  have hD : va_D A [(h0, .inr (7, [.null, .int 0, .int 0, .int 0])), (q_1, .inl (k_2, 0, .inl (fun _ => 0)))] := hD
  have hK : va_K (dC, dI) classes [(k_2, .int)] s := hK
  refine W.widen (k := 1) (n := 0) (Nat.le_of_ble_eq_true rfl) (Nat.le_of_ble_eq_true rfl) ?_
  refine va_put (D := (dC, dI)) (ci := 7) (v := .ref q_1) (ty := .array .int) (C := RX7) (T := TX7) (N := 4) hx hb hq inX7 tyX7 tyX7_ok nmX7 hown hK hP hD hS 0 rfl rfl 0 (by decide) (hq _ qw_159) (fun _ h9 => h9) rfl (by decide +kernel) rfl rfl (Nat.le_of_ble_eq_true rfl) dX7_init_8 (fun H locs hP hD hS => ?_)
  have hP : va_P (dC, dI) classes [(h0, .inr (7, [.ref q_1, .int 0, .int 0, .int 0])), (q_1, .inl (k_2, 0, .inl (fun _ => 0)))] H := hP
  have hD : va_D A [(h0, .inr (7, [.ref q_1, .int 0, .int 0, .int 0])), (q_1, .inl (k_2, 0, .inl (fun _ => 0)))] := hD
  have hP9 := hP.sub (ws' := [(h0, .inr (7, [.ref q_1, .int 0, .int 0, .int 0]))]) [0] rfl
  have hD9 := hD.sub (ws' := [(h0, .inr (7, [.ref q_1, .int 0, .int 0, .int 0]))]) [0] (by decide) rfl
  have hK9 := hK.sub (tys' := []) [] rfl
  refine W.widen (k := 1) (n := 0) (Nat.le_of_ble_eq_true rfl) (Nat.le_of_ble_eq_true rfl) ?_
  exact W.vret hx hb hr (fun t ht hW => ⟨⟨(), rfl, trivial, q_1, by rw [ht]; exact hP9, va_K.moved hW.alike hK9, hD9⟩, hS.F ht⟩) hS.2.2 dX7_init_11

set_option maxHeartbeats 4000000 in
set_option maxRecDepth 100000 in
/-- c_Rule_init -/
theorem c_Rule_init (l : Launch) (dC : Nat → ClassId) (dI : Nat → Nat → Nat) (sz : Nat) (h0 : Nat) : Met l yX9_init (.code yX9_init cX9_init 1 none :: wsA) ({ frames := 1, cells := 1, slots := 400, locals := 12 }) (va_Pc [.ref h0] (fun U => U.heap.size = sz ∧ va_P (dC, dI) classes [(h0, .inr (9, [.null, .int 0, .int 0]))] U.heap ∧ va_K (dC, dI) classes [] U ∧ va_D (fun _ => True) [(h0, .inr (9, [.null, .int 0, .int 0]))] ∧ xE U)) (va_Qv (fun (_ : Unit) => True) (fun _ t => ∃ (o_q_1 : Nat), va_P (dC, dI) classes [(h0, .inr (9, [.ref o_q_1, .int 0, .int 0]))] t.heap ∧ va_K (dC, dI) classes [] t ∧ va_D (va_A [(h0, .inr (9, [.null, .int 0, .int 0]))] sz) [(h0, .inr (9, [.ref o_q_1, .int 0, .int 0]))]) (va_A [(h0, .inr (9, [.null, .int 0, .int 0]))] sz)) 1 400 (va_A [(h0, .inr (9, [.null, .int 0, .int 0]))] sz) := by
  refine Met.ofW (cc := cX9_init) (maxL := 1) (ret := none) (by decide) rfl ?_
  intro p e s m args below meth c s₁ B hml hv
  obtain ⟨rfl, hsz, hP, hK, hD0, hE⟩ := hv
  have hx := B.exec
  have hb := B.bytes
  have hr := B.returns
  have hts := atoms_spec (ws := .code yX9_init cX9_init 1 none :: wsA) B.pre
  have hq : ∀ w ∈ wsA, w.before _ s = true := fun w h => hts w (List.mem_cons_of_mem _ h)
  have hown : s.vm.findClass RX9 = some m.cls := findClass_of_methodNamed B.named
  have hlocks := B.notSynchronized
  have hin : meth.name = "<init>" := (name_of_methodNamed B.named B.method).1
  subst hsz
  have hD := hD0.self (sz := s.heap.size)
  generalize hAe : va_A [(h0, .inr (9, [.null, .int 0, .int 0]))] s.heap.size = A at hD ⊢
  have hA : ∀ q : Nat, s.heap.size ≤ q → A q := fun q h => by rw [← hAe]; exact Or.inr h
  have hS : va_S A s.heap s.heap [] := va_S.rf
  have hl := lv_entry ([.ref h0]) (n := 1) (Nat.le_of_ble_eq_true rfl)
  rw [lg_entry_eq]
  generalize (lg_sl ([.ref h0]) ++ List.replicate (1 - (lg_sl ([.ref h0])).length) Slot.unset).toArray = ls at hl ⊢
  have hl : lv_has ls 1 [(0, .ref h0)] := hl
  refine lv_aload_n hx hb dX9_init_0 rfl (lv_at hl 0 rfl) ?_
  refine W.objInit hx hb hown (hq _ qw_194) (hq _ qw_145) (hq _ qw_146) rfl (by rw [hml]; exact hl.1) rfl dX9_init_1 (Nat.le_of_ble_eq_true rfl) (Nat.le_of_ble_eq_true rfl) ?_
  refine W.eq (g2 := F0 m 4 ls []) rfl ?_
  refine lv_aload_n hx hb dX9_init_4 rfl (lv_at hl 0 rfl) ?_
  refine lv_sipush (v := 400) hx hb dX9_init_5 (by decide) ?_
  refine va_newa (atype := .int) (ty := .int) (N' := 400) (a0 := (400, .inl (fun _ => 0))) hx hb (hq _ qw_176) rfl hK hP hD hS hA (fun _ => rfl) (by decide) (by decide) (Nat.le_of_ble_eq_true rfl) (Nat.le_of_ble_eq_true rfl) (Nat.le_of_ble_eq_true rfl) dX9_init_8 (fun q_1 k_2 H hK hP hD hS => ?_)
  have hP : va_P (dC, dI) classes [(h0, .inr (9, [.null, .int 0, .int 0])), (q_1, .inl (k_2, 400, .inl (fun _ => 0)))] H := hP
  have hD : va_D A [(h0, .inr (9, [.null, .int 0, .int 0])), (q_1, .inl (k_2, 400, .inl (fun _ => 0)))] := hD
  have hK : va_K (dC, dI) classes [(k_2, .int)] s := hK
  refine W.widen (k := 1) (n := 400) (Nat.le_of_ble_eq_true rfl) (Nat.le_of_ble_eq_true rfl) ?_
  refine va_putF (D := (dC, dI)) (ci := 9) (v := .ref q_1) (ty := .array .int) (C := RX9) (T := TX9) (N := 3) hx hb hq inX9 tyX9 tyX9_ok nmX9 hown hK hP hD hS 0 rfl rfl 0 (by decide) (hq _ qw_195) (fun _ h9 => h9) rfl hin rfl (by decide +kernel) rfl rfl (Nat.le_of_ble_eq_true rfl) dX9_init_10 (fun H locs hP hD hS => ?_)
  have hP : va_P (dC, dI) classes [(h0, .inr (9, [.ref q_1, .int 0, .int 0])), (q_1, .inl (k_2, 400, .inl (fun _ => 0)))] H := hP
  have hD : va_D A [(h0, .inr (9, [.ref q_1, .int 0, .int 0])), (q_1, .inl (k_2, 400, .inl (fun _ => 0)))] := hD
  have hP9 := hP.sub (ws' := [(h0, .inr (9, [.ref q_1, .int 0, .int 0]))]) [0] rfl
  have hD9 := hD.sub (ws' := [(h0, .inr (9, [.ref q_1, .int 0, .int 0]))]) [0] (by decide) rfl
  have hK9 := hK.sub (tys' := []) [] rfl
  refine W.widen (k := 1) (n := 400) (Nat.le_of_ble_eq_true rfl) (Nat.le_of_ble_eq_true rfl) ?_
  exact W.vret hx hb hr (fun t ht hW => ⟨⟨(), rfl, trivial, q_1, by rw [ht]; exact hP9, va_K.moved hW.alike hK9, hD9⟩, hS.F ht⟩) hS.2.2 dX9_init_13

set_option maxHeartbeats 4000000 in
set_option maxRecDepth 100000 in
/-- c_DinnerReader_init -/
theorem c_DinnerReader_init (l : Launch) (dC : Nat → ClassId) (dI : Nat → Nat → Nat) (sz : Nat) (h0 : Nat) : Met l yX2_init (.code yX2_init cX2_init 1 none :: wsA) ({ frames := 2, cells := 2, slots := 4, locals := 32 }) (va_Pc [.ref h0] (fun U => U.heap.size = sz ∧ va_P (dC, dI) classes [(h0, .inr (2, [.null]))] U.heap ∧ va_K (dC, dI) classes [] U ∧ va_D (fun _ => True) [(h0, .inr (2, [.null]))] ∧ xE U)) (va_Qv (fun (_ : Unit) => True) (fun _ t => ∃ (o_q_1 : Nat) (o_q_3 : Nat), va_P (dC, dI) classes [(h0, .inr (2, [.ref o_q_1])), (o_q_1, .inr (7, [.ref o_q_3, .int 0, .int 0, .int 0]))] t.heap ∧ va_K (dC, dI) classes [] t ∧ va_D (va_A [(h0, .inr (2, [.null]))] sz) [(h0, .inr (2, [.ref o_q_1])), (o_q_1, .inr (7, [.ref o_q_3, .int 0, .int 0, .int 0]))]) (va_A [(h0, .inr (2, [.null]))] sz)) 2 4 (va_A [(h0, .inr (2, [.null]))] sz) := by
  refine Met.ofW (cc := cX2_init) (maxL := 1) (ret := none) (by decide) rfl ?_
  intro p e s m args below meth c s₁ B hml hv
  obtain ⟨rfl, hsz, hP, hK, hD0, hE⟩ := hv
  have hx := B.exec
  have hb := B.bytes
  have hr := B.returns
  have hts := atoms_spec (ws := .code yX2_init cX2_init 1 none :: wsA) B.pre
  have hq : ∀ w ∈ wsA, w.before _ s = true := fun w h => hts w (List.mem_cons_of_mem _ h)
  have hown : s.vm.findClass RX2 = some m.cls := findClass_of_methodNamed B.named
  have hlocks := B.notSynchronized
  have hin : meth.name = "<init>" := (name_of_methodNamed B.named B.method).1
  subst hsz
  have hD := hD0.self (sz := s.heap.size)
  generalize hAe : va_A [(h0, .inr (2, [.null]))] s.heap.size = A at hD ⊢
  have hA : ∀ q : Nat, s.heap.size ≤ q → A q := fun q h => by rw [← hAe]; exact Or.inr h
  have hS : va_S A s.heap s.heap [] := va_S.rf
  have hl := lv_entry ([.ref h0]) (n := 1) (Nat.le_of_ble_eq_true rfl)
  rw [lg_entry_eq]
  generalize (lg_sl ([.ref h0]) ++ List.replicate (1 - (lg_sl ([.ref h0])).length) Slot.unset).toArray = ls at hl ⊢
  have hl : lv_has ls 1 [(0, .ref h0)] := hl
  refine lv_aload_n hx hb dX2_init_0 rfl (lv_at hl 0 rfl) ?_
  refine W.objInit hx hb hown (hq _ qw_152) (hq _ qw_145) (hq _ qw_146) rfl (by rw [hml]; exact hl.1) rfl dX2_init_1 (Nat.le_of_ble_eq_true rfl) (Nat.le_of_ble_eq_true rfl) ?_
  refine W.eq (g2 := F0 m 4 ls []) rfl ?_
  refine lv_aload_n hx hb dX2_init_4 rfl (lv_at hl 0 rfl) ?_
  refine va_new (ci := 7) (fs := [.null, .int 0, .int 0, .int 0]) (C := RX7) (T := TX7) (N := 4) hx hb hq inX7 tyX7 tyX7_ok hown (hq _ qw_153) (hq _ qw_154) (hq _ qw_121) hK hP hD hS hA rfl (dfl_ok rfl) (Nat.le_of_ble_eq_true rfl) (Nat.le_of_ble_eq_true rfl) dX2_init_5 (fun q_1 H hP hD hS => ?_)
  have hP : va_P (dC, dI) classes [(h0, .inr (2, [.null])), (q_1, .inr (7, [.null, .int 0, .int 0, .int 0]))] H := hP
  have hD : va_D A [(h0, .inr (2, [.null])), (q_1, .inr (7, [.null, .int 0, .int 0, .int 0]))] := hD
  refine W.widen (k := 1) (n := 4) (Nat.le_of_ble_eq_true rfl) (Nat.le_of_ble_eq_true rfl) ?_
  refine lv_dup hx hb dX2_init_8 rfl ?_
  have hPc := hP.sub (ws' := [(q_1, .inr (7, [.null, .int 0, .int 0, .int 0]))]) [1] rfl
  have hDc := hD.sub (ws' := [(q_1, .inr (7, [.null, .int 0, .int 0, .int 0]))]) [1] (by decide) rfl
  have hKc := hK.sub (tys' := []) [] rfl
  have hFc := va_free (wc := [(q_1, .inr (7, [.null, .int 0, .int 0, .int 0]))]) hD hS hA [1] rfl
  refine va_callv (va_runIN (As := []) (rest := [.ref q_1, .ref h0]) ⟨hx, hb, hml, hown, hq⟩ (c_Reader_init l dC dI _ q_1 ) ⟨va_cnB (host := "SpokenBite") 0 hq (gC qw_157) rfl rfl rfl (xE_n hE (k := 1) rfl) (hq _ qw_121) (by decide +kernel) ⟨Nat.le_of_ble_eq_true rfl, Nat.le_of_ble_eq_true rfl⟩, rfl, (hq _ qw_156)⟩ ⟨fun a U g mk q => by obtain ⟨q0, q1, qP, qK, qD, qE⟩ := q; exact ⟨q0, q1, qP, va_K.moved (u := U) (U := U.calling g mk a) (Vm.Alike.refl U.vm) qK, qD, xE.same rfl qE⟩, fun U hU hW => ⟨rfl, by rw [hU], by rw [hU]; exact hPc, va_K.moved hW.alike hKc, hDc.weaken (fun _ _ _ _ => trivial), xE.warm hW hE⟩⟩ rfl rfl hl.1 rfl (lv_room (Nat.le_of_ble_eq_true rfl)) dX2_init_9 ⟨Nat.le_of_ble_eq_true rfl, Nat.le_of_ble_eq_true rfl⟩) hS (fun q _ h => hFc q h) hFc (fun u t H1 locs ht hvm hw hB hz1 hk1 hS => ?_)
  obtain ⟨q_3, hP1, hK1, hD1⟩ := hB
  rw [ht] at hP1
  have hK1 := va_K.moved hvm.symm hK1
  obtain ⟨hP, hD⟩ := va_join (wr := [(h0, .inr (2, [.null]))]) (w1 := [(q_1, .inr (7, [.ref q_3, .int 0, .int 0, .int 0]))]) hP hD [1] [0] rfl rfl (by decide) (by decide) hk1 hFc hP1 hD1
  generalize H1 = H at hP hS ⊢
  have hP : va_P (dC, dI) classes [(h0, .inr (2, [.null])), (q_1, .inr (7, [.ref q_3, .int 0, .int 0, .int 0]))] H := hP
  have hD : va_D A [(h0, .inr (2, [.null])), (q_1, .inr (7, [.ref q_3, .int 0, .int 0, .int 0]))] := hD
  refine W.widen (k := 2) (n := 4) (Nat.le_of_ble_eq_true rfl) (Nat.le_of_ble_eq_true rfl) ?_
  refine va_putF (D := (dC, dI)) (ci := 2) (v := .ref q_1) (ty := .object "SpokenBite$Reade\x72") (C := RX2) (T := TX2) (N := 1) hx hb hq inX2 tyX2 tyX2_ok nmX2 hown hK hP hD hS 0 rfl rfl 0 (by decide) (hq _ qw_177) (fun _ h9 => h9) rfl hin rfl (by decide +kernel) rfl rfl (Nat.le_of_ble_eq_true rfl) dX2_init_12 (fun H locs hP hD hS => ?_)
  have hP : va_P (dC, dI) classes [(h0, .inr (2, [.ref q_1])), (q_1, .inr (7, [.ref q_3, .int 0, .int 0, .int 0]))] H := hP
  have hD : va_D A [(h0, .inr (2, [.ref q_1])), (q_1, .inr (7, [.ref q_3, .int 0, .int 0, .int 0]))] := hD
  have hP9 := hP.sub (ws' := [(h0, .inr (2, [.ref q_1])), (q_1, .inr (7, [.ref q_3, .int 0, .int 0, .int 0]))]) [0, 1] rfl
  have hD9 := hD.sub (ws' := [(h0, .inr (2, [.ref q_1])), (q_1, .inr (7, [.ref q_3, .int 0, .int 0, .int 0]))]) [0, 1] (by decide) rfl
  have hK9 := hK.sub (tys' := []) [] rfl
  refine W.widen (k := 2) (n := 4) (Nat.le_of_ble_eq_true rfl) (Nat.le_of_ble_eq_true rfl) ?_
  exact W.vret hx hb hr (fun t ht hW => ⟨⟨(), rfl, trivial, q_1, q_3, by rw [ht]; exact hP9, va_K.moved hW.alike hK9, hD9⟩, hS.F ht⟩) hS.2.2 dX2_init_15

set_option maxHeartbeats 4000000 in
set_option maxRecDepth 100000 in
/-- c_RuleReader_init -/
theorem c_RuleReader_init (l : Launch) (dC : Nat → ClassId) (dI : Nat → Nat → Nat) (sz : Nat) (h0 : Nat) : Met l yX10_init (.code yX10_init cX10_init 1 none :: wsA) ({ frames := 2, cells := 4, slots := 407, locals := 32 }) (va_Pc [.ref h0] (fun U => U.heap.size = sz ∧ va_P (dC, dI) classes [(h0, .inr (10, [.null, .null, .int 0]))] U.heap ∧ va_K (dC, dI) classes [] U ∧ va_D (fun _ => True) [(h0, .inr (10, [.null, .null, .int 0]))] ∧ xE U)) (va_Qv (fun (_ : Unit) => True) (fun _ t => ∃ (o_q_1 : Nat) (o_q_4 : Nat) (o_q_3 : Nat), va_P (dC, dI) classes [(h0, .inr (10, [.ref o_q_1, .ref o_q_4, .int 0])), (o_q_1, .inr (7, [.ref o_q_3, .int 0, .int 0, .int 0]))] t.heap ∧ va_K (dC, dI) classes [] t ∧ va_D (va_A [(h0, .inr (10, [.null, .null, .int 0]))] sz) [(h0, .inr (10, [.ref o_q_1, .ref o_q_4, .int 0])), (o_q_1, .inr (7, [.ref o_q_3, .int 0, .int 0, .int 0]))]) (va_A [(h0, .inr (10, [.null, .null, .int 0]))] sz)) 4 407 (va_A [(h0, .inr (10, [.null, .null, .int 0]))] sz) := by
  refine Met.ofW (cc := cX10_init) (maxL := 1) (ret := none) (by decide) rfl ?_
  intro p e s m args below meth c s₁ B hml hv
  obtain ⟨rfl, hsz, hP, hK, hD0, hE⟩ := hv
  have hx := B.exec
  have hb := B.bytes
  have hr := B.returns
  have hts := atoms_spec (ws := .code yX10_init cX10_init 1 none :: wsA) B.pre
  have hq : ∀ w ∈ wsA, w.before _ s = true := fun w h => hts w (List.mem_cons_of_mem _ h)
  have hown : s.vm.findClass RX10 = some m.cls := findClass_of_methodNamed B.named
  have hlocks := B.notSynchronized
  have hin : meth.name = "<init>" := (name_of_methodNamed B.named B.method).1
  subst hsz
  have hD := hD0.self (sz := s.heap.size)
  generalize hAe : va_A [(h0, .inr (10, [.null, .null, .int 0]))] s.heap.size = A at hD ⊢
  have hA : ∀ q : Nat, s.heap.size ≤ q → A q := fun q h => by rw [← hAe]; exact Or.inr h
  have hS : va_S A s.heap s.heap [] := va_S.rf
  have hl := lv_entry ([.ref h0]) (n := 1) (Nat.le_of_ble_eq_true rfl)
  rw [lg_entry_eq]
  generalize (lg_sl ([.ref h0]) ++ List.replicate (1 - (lg_sl ([.ref h0])).length) Slot.unset).toArray = ls at hl ⊢
  have hl : lv_has ls 1 [(0, .ref h0)] := hl
  refine lv_aload_n hx hb dX10_init_0 rfl (lv_at hl 0 rfl) ?_
  refine W.objInit hx hb hown (hq _ qw_186) (hq _ qw_145) (hq _ qw_146) rfl (by rw [hml]; exact hl.1) rfl dX10_init_1 (Nat.le_of_ble_eq_true rfl) (Nat.le_of_ble_eq_true rfl) ?_
  refine W.eq (g2 := F0 m 4 ls []) rfl ?_
  refine lv_aload_n hx hb dX10_init_4 rfl (lv_at hl 0 rfl) ?_
  refine va_new (ci := 7) (fs := [.null, .int 0, .int 0, .int 0]) (C := RX7) (T := TX7) (N := 4) hx hb hq inX7 tyX7 tyX7_ok hown (hq _ qw_187) (hq _ qw_154) (hq _ qw_121) hK hP hD hS hA rfl (dfl_ok rfl) (Nat.le_of_ble_eq_true rfl) (Nat.le_of_ble_eq_true rfl) dX10_init_5 (fun q_1 H hP hD hS => ?_)
  have hP : va_P (dC, dI) classes [(h0, .inr (10, [.null, .null, .int 0])), (q_1, .inr (7, [.null, .int 0, .int 0, .int 0]))] H := hP
  have hD : va_D A [(h0, .inr (10, [.null, .null, .int 0])), (q_1, .inr (7, [.null, .int 0, .int 0, .int 0]))] := hD
  refine W.widen (k := 1) (n := 4) (Nat.le_of_ble_eq_true rfl) (Nat.le_of_ble_eq_true rfl) ?_
  refine lv_dup hx hb dX10_init_8 rfl ?_
  have hPc := hP.sub (ws' := [(q_1, .inr (7, [.null, .int 0, .int 0, .int 0]))]) [1] rfl
  have hDc := hD.sub (ws' := [(q_1, .inr (7, [.null, .int 0, .int 0, .int 0]))]) [1] (by decide) rfl
  have hKc := hK.sub (tys' := []) [] rfl
  have hFc := va_free (wc := [(q_1, .inr (7, [.null, .int 0, .int 0, .int 0]))]) hD hS hA [1] rfl
  refine va_callv (va_runIN (As := []) (rest := [.ref q_1, .ref h0]) ⟨hx, hb, hml, hown, hq⟩ (c_Reader_init l dC dI _ q_1 ) ⟨va_cnB (host := "SpokenBite") 0 hq (gC qw_157) rfl rfl rfl (xE_n hE (k := 3) rfl) (hq _ qw_121) (by decide +kernel) ⟨Nat.le_of_ble_eq_true rfl, Nat.le_of_ble_eq_true rfl⟩, rfl, (hq _ qw_156)⟩ ⟨fun a U g mk q => by obtain ⟨q0, q1, qP, qK, qD, qE⟩ := q; exact ⟨q0, q1, qP, va_K.moved (u := U) (U := U.calling g mk a) (Vm.Alike.refl U.vm) qK, qD, xE.same rfl qE⟩, fun U hU hW => ⟨rfl, by rw [hU], by rw [hU]; exact hPc, va_K.moved hW.alike hKc, hDc.weaken (fun _ _ _ _ => trivial), xE.warm hW hE⟩⟩ rfl rfl hl.1 rfl (lv_room (Nat.le_of_ble_eq_true rfl)) dX10_init_9 ⟨Nat.le_of_ble_eq_true rfl, Nat.le_of_ble_eq_true rfl⟩) hS (fun q _ h => hFc q h) hFc (fun u t H1 locs ht hvm hw hB hz1 hk1 hS => ?_)
  obtain ⟨q_3, hP1, hK1, hD1⟩ := hB
  rw [ht] at hP1
  have hK1 := va_K.moved hvm.symm hK1
  obtain ⟨hP, hD⟩ := va_join (wr := [(h0, .inr (10, [.null, .null, .int 0]))]) (w1 := [(q_1, .inr (7, [.ref q_3, .int 0, .int 0, .int 0]))]) hP hD [1] [0] rfl rfl (by decide) (by decide) hk1 hFc hP1 hD1
  generalize H1 = H at hP hS ⊢
  have hP : va_P (dC, dI) classes [(h0, .inr (10, [.null, .null, .int 0])), (q_1, .inr (7, [.ref q_3, .int 0, .int 0, .int 0]))] H := hP
  have hD : va_D A [(h0, .inr (10, [.null, .null, .int 0])), (q_1, .inr (7, [.ref q_3, .int 0, .int 0, .int 0]))] := hD
  refine W.widen (k := 2) (n := 4) (Nat.le_of_ble_eq_true rfl) (Nat.le_of_ble_eq_true rfl) ?_
  refine va_putF (D := (dC, dI)) (ci := 10) (v := .ref q_1) (ty := .object "SpokenBite$Reade\x72") (C := RX10) (T := TX10) (N := 3) hx hb hq inX10 tyX10 tyX10_ok nmX10 hown hK hP hD hS 0 rfl rfl 0 (by decide) (hq _ qw_206) (fun _ h9 => h9) rfl hin rfl (by decide +kernel) rfl rfl (Nat.le_of_ble_eq_true rfl) dX10_init_12 (fun H locs hP hD hS => ?_)
  have hP : va_P (dC, dI) classes [(h0, .inr (10, [.ref q_1, .null, .int 0])), (q_1, .inr (7, [.ref q_3, .int 0, .int 0, .int 0]))] H := hP
  have hD : va_D A [(h0, .inr (10, [.ref q_1, .null, .int 0])), (q_1, .inr (7, [.ref q_3, .int 0, .int 0, .int 0]))] := hD
  refine lv_aload_n hx hb dX10_init_15 rfl (lv_at hl 0 rfl) ?_
  refine va_new (ci := 9) (fs := [.null, .int 0, .int 0]) (C := RX9) (T := TX9) (N := 3) hx hb hq inX9 tyX9 tyX9_ok hown (hq _ qw_189) (hq _ qw_190) (hq _ qw_123) hK hP hD hS hA rfl (dfl_ok rfl) (Nat.le_of_ble_eq_true rfl) (Nat.le_of_ble_eq_true rfl) dX10_init_16 (fun q_4 H hP hD hS => ?_)
  have hP : va_P (dC, dI) classes [(h0, .inr (10, [.ref q_1, .null, .int 0])), (q_1, .inr (7, [.ref q_3, .int 0, .int 0, .int 0])), (q_4, .inr (9, [.null, .int 0, .int 0]))] H := hP
  have hD : va_D A [(h0, .inr (10, [.ref q_1, .null, .int 0])), (q_1, .inr (7, [.ref q_3, .int 0, .int 0, .int 0])), (q_4, .inr (9, [.null, .int 0, .int 0]))] := hD
  refine W.widen (k := 3) (n := 7) (Nat.le_of_ble_eq_true rfl) (Nat.le_of_ble_eq_true rfl) ?_
  refine lv_dup hx hb dX10_init_19 rfl ?_
  have hPc := hP.sub (ws' := [(q_4, .inr (9, [.null, .int 0, .int 0]))]) [2] rfl
  have hDc := hD.sub (ws' := [(q_4, .inr (9, [.null, .int 0, .int 0]))]) [2] (by decide) rfl
  have hKc := hK.sub (tys' := []) [] rfl
  have hFc := va_free (wc := [(q_4, .inr (9, [.null, .int 0, .int 0]))]) hD hS hA [2] rfl
  refine va_callv (va_runIN (As := []) (rest := [.ref q_4, .ref h0]) ⟨hx, hb, hml, hown, hq⟩ (c_Rule_init l dC dI _ q_4 ) ⟨va_cnB (host := "SpokenBite") 0 hq (gC qw_193) rfl rfl rfl (xE_n hE (k := 4) rfl) (hq _ qw_123) (by decide +kernel) ⟨Nat.le_of_ble_eq_true rfl, Nat.le_of_ble_eq_true rfl⟩, rfl, (hq _ qw_192)⟩ ⟨fun a U g mk q => by obtain ⟨q0, q1, qP, qK, qD, qE⟩ := q; exact ⟨q0, q1, qP, va_K.moved (u := U) (U := U.calling g mk a) (Vm.Alike.refl U.vm) qK, qD, xE.same rfl qE⟩, fun U hU hW => ⟨rfl, by rw [hU], by rw [hU]; exact hPc, va_K.moved hW.alike hKc, hDc.weaken (fun _ _ _ _ => trivial), xE.warm hW hE⟩⟩ rfl rfl hl.1 rfl (lv_room (Nat.le_of_ble_eq_true rfl)) dX10_init_20 ⟨Nat.le_of_ble_eq_true rfl, Nat.le_of_ble_eq_true rfl⟩) hS (fun q _ h => hFc q h) hFc (fun u t H1 locs ht hvm hw hB hz1 hk1 hS => ?_)
  obtain ⟨q_6, hP1, hK1, hD1⟩ := hB
  rw [ht] at hP1
  have hK1 := va_K.moved hvm.symm hK1
  obtain ⟨hP, hD⟩ := va_join (wr := [(h0, .inr (10, [.ref q_1, .null, .int 0])), (q_1, .inr (7, [.ref q_3, .int 0, .int 0, .int 0]))]) (w1 := [(q_4, .inr (9, [.ref q_6, .int 0, .int 0]))]) hP hD [2] [0, 1] rfl rfl (by decide) (by decide) hk1 hFc hP1 hD1
  generalize H1 = H at hP hS ⊢
  have hP : va_P (dC, dI) classes [(h0, .inr (10, [.ref q_1, .null, .int 0])), (q_1, .inr (7, [.ref q_3, .int 0, .int 0, .int 0])), (q_4, .inr (9, [.ref q_6, .int 0, .int 0]))] H := hP
  have hD : va_D A [(h0, .inr (10, [.ref q_1, .null, .int 0])), (q_1, .inr (7, [.ref q_3, .int 0, .int 0, .int 0])), (q_4, .inr (9, [.ref q_6, .int 0, .int 0]))] := hD
  refine W.widen (k := 4) (n := 407) (Nat.le_of_ble_eq_true rfl) (Nat.le_of_ble_eq_true rfl) ?_
  refine va_put (D := (dC, dI)) (ci := 10) (v := .ref q_4) (ty := .object "SpokenBite$Rule") (C := RX10) (T := TX10) (N := 3) hx hb hq inX10 tyX10 tyX10_ok nmX10 hown hK hP hD hS 0 rfl rfl 1 (by decide) (hq _ qw_207) (fun _ h9 => h9) rfl (by decide +kernel) rfl rfl (Nat.le_of_ble_eq_true rfl) dX10_init_23 (fun H locs hP hD hS => ?_)
  have hP : va_P (dC, dI) classes [(h0, .inr (10, [.ref q_1, .ref q_4, .int 0])), (q_1, .inr (7, [.ref q_3, .int 0, .int 0, .int 0])), (q_4, .inr (9, [.ref q_6, .int 0, .int 0]))] H := hP
  have hD : va_D A [(h0, .inr (10, [.ref q_1, .ref q_4, .int 0])), (q_1, .inr (7, [.ref q_3, .int 0, .int 0, .int 0])), (q_4, .inr (9, [.ref q_6, .int 0, .int 0]))] := hD
  have hP := hP.sub (ws' := [(h0, .inr (10, [.ref q_1, .ref q_4, .int 0])), (q_1, .inr (7, [.ref q_3, .int 0, .int 0, .int 0]))]) [0, 1] rfl
  have hD := hD.sub (ws' := [(h0, .inr (10, [.ref q_1, .ref q_4, .int 0])), (q_1, .inr (7, [.ref q_3, .int 0, .int 0, .int 0]))]) [0, 1] (by decide) rfl
  have hP9 := hP.sub (ws' := [(h0, .inr (10, [.ref q_1, .ref q_4, .int 0])), (q_1, .inr (7, [.ref q_3, .int 0, .int 0, .int 0]))]) [0, 1] rfl
  have hD9 := hD.sub (ws' := [(h0, .inr (10, [.ref q_1, .ref q_4, .int 0])), (q_1, .inr (7, [.ref q_3, .int 0, .int 0, .int 0]))]) [0, 1] (by decide) rfl
  have hK9 := hK.sub (tys' := []) [] rfl
  refine W.widen (k := 4) (n := 407) (Nat.le_of_ble_eq_true rfl) (Nat.le_of_ble_eq_true rfl) ?_
  exact W.vret hx hb hr (fun t ht hW => ⟨⟨(), rfl, trivial, q_1, q_4, q_3, by rw [ht]; exact hP9, va_K.moved hW.alike hK9, hD9⟩, hS.F ht⟩) hS.2.2 dX10_init_26

set_option maxHeartbeats 4000000 in
set_option maxRecDepth 100000 in
/-- c_Notes_init -/
theorem c_Notes_init (l : Launch) (dC : Nat → ClassId) (dI : Nat → Nat → Nat) (sz : Nat) (h0 : Nat) : Met l yX5_init (.code yX5_init cX5_init 1 none :: wsA) ({ frames := 1, cells := 4, slots := 40, locals := 12 }) (va_Pc [.ref h0] (fun U => U.heap.size = sz ∧ va_P (dC, dI) classes [(h0, .inr (5, [.int 0, .null, .null, .null, .null]))] U.heap ∧ va_K (dC, dI) classes [] U ∧ va_D (fun _ => True) [(h0, .inr (5, [.int 0, .null, .null, .null, .null]))] ∧ xE U)) (va_Qv (fun (_ : Unit) => True) (fun _ t => ∃ (o_q_1 : Nat) (o_q_3 : Nat) (o_q_5 : Nat) (o_q_7 : Nat) (o_k_2 : ClassId) (o_k_4 : ClassId) (o_k_6 : ClassId) (o_k_8 : ClassId), va_P (dC, dI) classes [(h0, .inr (5, [.int 0, .ref o_q_1, .ref o_q_3, .ref o_q_5, .ref o_q_7])), (o_q_1, .inl (o_k_2, 10, .inl (fun _ => 0))), (o_q_3, .inl (o_k_4, 10, .inl (fun _ => 0))), (o_q_5, .inl (o_k_6, 10, .inl (fun _ => 0))), (o_q_7, .inl (o_k_8, 10, .inl (fun _ => 0)))] t.heap ∧ va_K (dC, dI) classes [(o_k_2, .int), (o_k_4, .int), (o_k_6, .int), (o_k_8, .int)] t ∧ va_D (va_A [(h0, .inr (5, [.int 0, .null, .null, .null, .null]))] sz) [(h0, .inr (5, [.int 0, .ref o_q_1, .ref o_q_3, .ref o_q_5, .ref o_q_7])), (o_q_1, .inl (o_k_2, 10, .inl (fun _ => 0))), (o_q_3, .inl (o_k_4, 10, .inl (fun _ => 0))), (o_q_5, .inl (o_k_6, 10, .inl (fun _ => 0))), (o_q_7, .inl (o_k_8, 10, .inl (fun _ => 0)))]) (va_A [(h0, .inr (5, [.int 0, .null, .null, .null, .null]))] sz)) 4 40 (va_A [(h0, .inr (5, [.int 0, .null, .null, .null, .null]))] sz) := by
  refine Met.ofW (cc := cX5_init) (maxL := 1) (ret := none) (by decide) rfl ?_
  intro p e s m args below meth c s₁ B hml hv
  obtain ⟨rfl, hsz, hP, hK, hD0, hE⟩ := hv
  have hx := B.exec
  have hb := B.bytes
  have hr := B.returns
  have hts := atoms_spec (ws := .code yX5_init cX5_init 1 none :: wsA) B.pre
  have hq : ∀ w ∈ wsA, w.before _ s = true := fun w h => hts w (List.mem_cons_of_mem _ h)
  have hown : s.vm.findClass RX5 = some m.cls := findClass_of_methodNamed B.named
  have hlocks := B.notSynchronized
  have hin : meth.name = "<init>" := (name_of_methodNamed B.named B.method).1
  subst hsz
  have hD := hD0.self (sz := s.heap.size)
  generalize hAe : va_A [(h0, .inr (5, [.int 0, .null, .null, .null, .null]))] s.heap.size = A at hD ⊢
  have hA : ∀ q : Nat, s.heap.size ≤ q → A q := fun q h => by rw [← hAe]; exact Or.inr h
  have hS : va_S A s.heap s.heap [] := va_S.rf
  have hl := lv_entry ([.ref h0]) (n := 1) (Nat.le_of_ble_eq_true rfl)
  rw [lg_entry_eq]
  generalize (lg_sl ([.ref h0]) ++ List.replicate (1 - (lg_sl ([.ref h0])).length) Slot.unset).toArray = ls at hl ⊢
  have hl : lv_has ls 1 [(0, .ref h0)] := hl
  refine lv_aload_n hx hb dX5_init_0 rfl (lv_at hl 0 rfl) ?_
  refine W.objInit hx hb hown (hq _ qw_306) (hq _ qw_145) (hq _ qw_146) rfl (by rw [hml]; exact hl.1) rfl dX5_init_1 (Nat.le_of_ble_eq_true rfl) (Nat.le_of_ble_eq_true rfl) ?_
  refine W.eq (g2 := F0 m 4 ls []) rfl ?_
  refine lv_aload_n hx hb dX5_init_4 rfl (lv_at hl 0 rfl) ?_
  refine lv_bipush (v := 10) hx hb dX5_init_5 (by decide) ?_
  refine va_newa (atype := .int) (ty := .int) (N' := 10) (a0 := (10, .inl (fun _ => 0))) hx hb (hq _ qw_176) rfl hK hP hD hS hA (fun _ => rfl) (by decide) (by decide) (Nat.le_of_ble_eq_true rfl) (Nat.le_of_ble_eq_true rfl) (Nat.le_of_ble_eq_true rfl) dX5_init_7 (fun q_1 k_2 H hK hP hD hS => ?_)
  have hP : va_P (dC, dI) classes [(h0, .inr (5, [.int 0, .null, .null, .null, .null])), (q_1, .inl (k_2, 10, .inl (fun _ => 0)))] H := hP
  have hD : va_D A [(h0, .inr (5, [.int 0, .null, .null, .null, .null])), (q_1, .inl (k_2, 10, .inl (fun _ => 0)))] := hD
  have hK : va_K (dC, dI) classes [(k_2, .int)] s := hK
  refine W.widen (k := 1) (n := 10) (Nat.le_of_ble_eq_true rfl) (Nat.le_of_ble_eq_true rfl) ?_
  refine va_putF (D := (dC, dI)) (ci := 5) (v := .ref q_1) (ty := .array .int) (C := RX5) (T := TX5) (N := 5) hx hb hq inX5 tyX5 tyX5_ok nmX5 hown hK hP hD hS 0 rfl rfl 1 (by decide) (hq _ qw_309) (fun _ h9 => h9) rfl hin rfl (by decide +kernel) rfl rfl (Nat.le_of_ble_eq_true rfl) dX5_init_9 (fun H locs hP hD hS => ?_)
  have hP : va_P (dC, dI) classes [(h0, .inr (5, [.int 0, .ref q_1, .null, .null, .null])), (q_1, .inl (k_2, 10, .inl (fun _ => 0)))] H := hP
  have hD : va_D A [(h0, .inr (5, [.int 0, .ref q_1, .null, .null, .null])), (q_1, .inl (k_2, 10, .inl (fun _ => 0)))] := hD
  refine lv_aload_n hx hb dX5_init_12 rfl (lv_at hl 0 rfl) ?_
  refine lv_bipush (v := 10) hx hb dX5_init_13 (by decide) ?_
  refine va_newa (atype := .int) (ty := .int) (N' := 10) (a0 := (10, .inl (fun _ => 0))) hx hb (hq _ qw_176) rfl hK hP hD hS hA (fun _ => rfl) (by decide) (by decide) (Nat.le_of_ble_eq_true rfl) (Nat.le_of_ble_eq_true rfl) (Nat.le_of_ble_eq_true rfl) dX5_init_15 (fun q_3 k_4 H hK hP hD hS => ?_)
  have hP : va_P (dC, dI) classes [(h0, .inr (5, [.int 0, .ref q_1, .null, .null, .null])), (q_1, .inl (k_2, 10, .inl (fun _ => 0))), (q_3, .inl (k_4, 10, .inl (fun _ => 0)))] H := hP
  have hD : va_D A [(h0, .inr (5, [.int 0, .ref q_1, .null, .null, .null])), (q_1, .inl (k_2, 10, .inl (fun _ => 0))), (q_3, .inl (k_4, 10, .inl (fun _ => 0)))] := hD
  have hK : va_K (dC, dI) classes [(k_2, .int), (k_4, .int)] s := hK
  refine W.widen (k := 2) (n := 20) (Nat.le_of_ble_eq_true rfl) (Nat.le_of_ble_eq_true rfl) ?_
  refine va_putF (D := (dC, dI)) (ci := 5) (v := .ref q_3) (ty := .array .int) (C := RX5) (T := TX5) (N := 5) hx hb hq inX5 tyX5 tyX5_ok nmX5 hown hK hP hD hS 0 rfl rfl 2 (by decide) (hq _ qw_310) (fun _ h9 => h9) rfl hin rfl (by decide +kernel) rfl rfl (Nat.le_of_ble_eq_true rfl) dX5_init_17 (fun H locs hP hD hS => ?_)
  have hP : va_P (dC, dI) classes [(h0, .inr (5, [.int 0, .ref q_1, .ref q_3, .null, .null])), (q_1, .inl (k_2, 10, .inl (fun _ => 0))), (q_3, .inl (k_4, 10, .inl (fun _ => 0)))] H := hP
  have hD : va_D A [(h0, .inr (5, [.int 0, .ref q_1, .ref q_3, .null, .null])), (q_1, .inl (k_2, 10, .inl (fun _ => 0))), (q_3, .inl (k_4, 10, .inl (fun _ => 0)))] := hD
  refine lv_aload_n hx hb dX5_init_20 rfl (lv_at hl 0 rfl) ?_
  refine lv_bipush (v := 10) hx hb dX5_init_21 (by decide) ?_
  refine va_newa (atype := .int) (ty := .int) (N' := 10) (a0 := (10, .inl (fun _ => 0))) hx hb (hq _ qw_176) rfl hK hP hD hS hA (fun _ => rfl) (by decide) (by decide) (Nat.le_of_ble_eq_true rfl) (Nat.le_of_ble_eq_true rfl) (Nat.le_of_ble_eq_true rfl) dX5_init_23 (fun q_5 k_6 H hK hP hD hS => ?_)
  have hP : va_P (dC, dI) classes [(h0, .inr (5, [.int 0, .ref q_1, .ref q_3, .null, .null])), (q_1, .inl (k_2, 10, .inl (fun _ => 0))), (q_3, .inl (k_4, 10, .inl (fun _ => 0))), (q_5, .inl (k_6, 10, .inl (fun _ => 0)))] H := hP
  have hD : va_D A [(h0, .inr (5, [.int 0, .ref q_1, .ref q_3, .null, .null])), (q_1, .inl (k_2, 10, .inl (fun _ => 0))), (q_3, .inl (k_4, 10, .inl (fun _ => 0))), (q_5, .inl (k_6, 10, .inl (fun _ => 0)))] := hD
  have hK : va_K (dC, dI) classes [(k_2, .int), (k_4, .int), (k_6, .int)] s := hK
  refine W.widen (k := 3) (n := 30) (Nat.le_of_ble_eq_true rfl) (Nat.le_of_ble_eq_true rfl) ?_
  refine va_putF (D := (dC, dI)) (ci := 5) (v := .ref q_5) (ty := .array .int) (C := RX5) (T := TX5) (N := 5) hx hb hq inX5 tyX5 tyX5_ok nmX5 hown hK hP hD hS 0 rfl rfl 3 (by decide) (hq _ qw_311) (fun _ h9 => h9) rfl hin rfl (by decide +kernel) rfl rfl (Nat.le_of_ble_eq_true rfl) dX5_init_25 (fun H locs hP hD hS => ?_)
  have hP : va_P (dC, dI) classes [(h0, .inr (5, [.int 0, .ref q_1, .ref q_3, .ref q_5, .null])), (q_1, .inl (k_2, 10, .inl (fun _ => 0))), (q_3, .inl (k_4, 10, .inl (fun _ => 0))), (q_5, .inl (k_6, 10, .inl (fun _ => 0)))] H := hP
  have hD : va_D A [(h0, .inr (5, [.int 0, .ref q_1, .ref q_3, .ref q_5, .null])), (q_1, .inl (k_2, 10, .inl (fun _ => 0))), (q_3, .inl (k_4, 10, .inl (fun _ => 0))), (q_5, .inl (k_6, 10, .inl (fun _ => 0)))] := hD
  refine lv_aload_n hx hb dX5_init_28 rfl (lv_at hl 0 rfl) ?_
  refine lv_bipush (v := 10) hx hb dX5_init_29 (by decide) ?_
  refine va_newa (atype := .int) (ty := .int) (N' := 10) (a0 := (10, .inl (fun _ => 0))) hx hb (hq _ qw_176) rfl hK hP hD hS hA (fun _ => rfl) (by decide) (by decide) (Nat.le_of_ble_eq_true rfl) (Nat.le_of_ble_eq_true rfl) (Nat.le_of_ble_eq_true rfl) dX5_init_31 (fun q_7 k_8 H hK hP hD hS => ?_)
  have hP : va_P (dC, dI) classes [(h0, .inr (5, [.int 0, .ref q_1, .ref q_3, .ref q_5, .null])), (q_1, .inl (k_2, 10, .inl (fun _ => 0))), (q_3, .inl (k_4, 10, .inl (fun _ => 0))), (q_5, .inl (k_6, 10, .inl (fun _ => 0))), (q_7, .inl (k_8, 10, .inl (fun _ => 0)))] H := hP
  have hD : va_D A [(h0, .inr (5, [.int 0, .ref q_1, .ref q_3, .ref q_5, .null])), (q_1, .inl (k_2, 10, .inl (fun _ => 0))), (q_3, .inl (k_4, 10, .inl (fun _ => 0))), (q_5, .inl (k_6, 10, .inl (fun _ => 0))), (q_7, .inl (k_8, 10, .inl (fun _ => 0)))] := hD
  have hK : va_K (dC, dI) classes [(k_2, .int), (k_4, .int), (k_6, .int), (k_8, .int)] s := hK
  refine W.widen (k := 4) (n := 40) (Nat.le_of_ble_eq_true rfl) (Nat.le_of_ble_eq_true rfl) ?_
  refine va_putF (D := (dC, dI)) (ci := 5) (v := .ref q_7) (ty := .array .int) (C := RX5) (T := TX5) (N := 5) hx hb hq inX5 tyX5 tyX5_ok nmX5 hown hK hP hD hS 0 rfl rfl 4 (by decide) (hq _ qw_312) (fun _ h9 => h9) rfl hin rfl (by decide +kernel) rfl rfl (Nat.le_of_ble_eq_true rfl) dX5_init_33 (fun H locs hP hD hS => ?_)
  have hP : va_P (dC, dI) classes [(h0, .inr (5, [.int 0, .ref q_1, .ref q_3, .ref q_5, .ref q_7])), (q_1, .inl (k_2, 10, .inl (fun _ => 0))), (q_3, .inl (k_4, 10, .inl (fun _ => 0))), (q_5, .inl (k_6, 10, .inl (fun _ => 0))), (q_7, .inl (k_8, 10, .inl (fun _ => 0)))] H := hP
  have hD : va_D A [(h0, .inr (5, [.int 0, .ref q_1, .ref q_3, .ref q_5, .ref q_7])), (q_1, .inl (k_2, 10, .inl (fun _ => 0))), (q_3, .inl (k_4, 10, .inl (fun _ => 0))), (q_5, .inl (k_6, 10, .inl (fun _ => 0))), (q_7, .inl (k_8, 10, .inl (fun _ => 0)))] := hD
  have hP9 := hP.sub (ws' := [(h0, .inr (5, [.int 0, .ref q_1, .ref q_3, .ref q_5, .ref q_7])), (q_1, .inl (k_2, 10, .inl (fun _ => 0))), (q_3, .inl (k_4, 10, .inl (fun _ => 0))), (q_5, .inl (k_6, 10, .inl (fun _ => 0))), (q_7, .inl (k_8, 10, .inl (fun _ => 0)))]) [0, 1, 2, 3, 4] rfl
  have hD9 := hD.sub (ws' := [(h0, .inr (5, [.int 0, .ref q_1, .ref q_3, .ref q_5, .ref q_7])), (q_1, .inl (k_2, 10, .inl (fun _ => 0))), (q_3, .inl (k_4, 10, .inl (fun _ => 0))), (q_5, .inl (k_6, 10, .inl (fun _ => 0))), (q_7, .inl (k_8, 10, .inl (fun _ => 0)))]) [0, 1, 2, 3, 4] (by decide) rfl
  have hK9 := hK.sub (tys' := [(k_2, .int), (k_4, .int), (k_6, .int), (k_8, .int)]) [0, 1, 2, 3] rfl
  refine W.widen (k := 4) (n := 40) (Nat.le_of_ble_eq_true rfl) (Nat.le_of_ble_eq_true rfl) ?_
  exact W.vret hx hb hr (fun t ht hW => ⟨⟨(), rfl, trivial, q_1, q_3, q_5, q_7, k_2, k_4, k_6, k_8, by rw [ht]; exact hP9, va_K.moved hW.alike hK9, hD9⟩, hS.F ht⟩) hS.2.2 dX5_init_36

set_option maxHeartbeats 4000000 in
set_option maxRecDepth 100000 in
/-- c_Past_init -/
theorem c_Past_init (l : Launch) (dC : Nat → ClassId) (dI : Nat → Nat → Nat) (sz : Nat) (h0 : Nat) : Met l yX6_init (.code yX6_init cX6_init 2 none :: wsA) ({ frames := 2, cells := 21, slots := 140, locals := 32 }) (va_Pc [.ref h0] (fun U => U.heap.size = sz ∧ va_P (dC, dI) classes [(h0, .inr (6, [.null, .int 0, .int 0]))] U.heap ∧ va_K (dC, dI) classes [] U ∧ va_D (fun _ => True) [(h0, .inr (6, [.null, .int 0, .int 0]))] ∧ xE U)) (va_Qv (fun (_ : Unit) => True) (fun _ t => ∃ (o_q_1 : Nat), va_P (dC, dI) classes [(h0, .inr (6, [.ref o_q_1, .int 0, .int 0]))] t.heap ∧ va_K (dC, dI) classes [] t ∧ va_D (va_A [(h0, .inr (6, [.null, .int 0, .int 0]))] sz) [(h0, .inr (6, [.ref o_q_1, .int 0, .int 0]))]) (va_A [(h0, .inr (6, [.null, .int 0, .int 0]))] sz)) 21 140 (va_A [(h0, .inr (6, [.null, .int 0, .int 0]))] sz) := by
  refine Met.ofW (cc := cX6_init) (maxL := 2) (ret := none) (by decide) rfl ?_
  intro p e s m args below meth c s₁ B hml hv
  obtain ⟨rfl, hsz, hP, hK, hD0, hE⟩ := hv
  have hx := B.exec
  have hb := B.bytes
  have hr := B.returns
  have hts := atoms_spec (ws := .code yX6_init cX6_init 2 none :: wsA) B.pre
  have hq : ∀ w ∈ wsA, w.before _ s = true := fun w h => hts w (List.mem_cons_of_mem _ h)
  have hown : s.vm.findClass RX6 = some m.cls := findClass_of_methodNamed B.named
  have hlocks := B.notSynchronized
  have hin : meth.name = "<init>" := (name_of_methodNamed B.named B.method).1
  subst hsz
  have hD := hD0.self (sz := s.heap.size)
  generalize hAe : va_A [(h0, .inr (6, [.null, .int 0, .int 0]))] s.heap.size = A at hD ⊢
  have hA : ∀ q : Nat, s.heap.size ≤ q → A q := fun q h => by rw [← hAe]; exact Or.inr h
  have hS : va_S A s.heap s.heap [] := va_S.rf
  have hl := lv_entry ([.ref h0]) (n := 2) (Nat.le_of_ble_eq_true rfl)
  rw [lg_entry_eq]
  generalize (lg_sl ([.ref h0]) ++ List.replicate (2 - (lg_sl ([.ref h0])).length) Slot.unset).toArray = ls at hl ⊢
  have hl : lv_has ls 2 [(0, .ref h0)] := hl
  refine lv_aload_n hx hb dX6_init_0 rfl (lv_at hl 0 rfl) ?_
  refine W.objInit hx hb hown (hq _ qw_329) (hq _ qw_145) (hq _ qw_146) rfl (by rw [hml]; exact hl.1) rfl dX6_init_1 (Nat.le_of_ble_eq_true rfl) (Nat.le_of_ble_eq_true rfl) ?_
  refine W.eq (g2 := F0 m 4 ls []) rfl ?_
  refine lv_aload_n hx hb dX6_init_4 rfl (lv_at hl 0 rfl) ?_
  refine lv_bipush (v := 20) hx hb dX6_init_5 (by decide) ?_
  refine va_newq (C := RX3) (N' := 20) hx hb hown (hq _ qw_330) (xE_X3 hE) hK hP hD hS hA (by decide) (by decide) (Nat.le_of_ble_eq_true rfl) (Nat.le_of_ble_eq_true rfl) (Nat.le_of_ble_eq_true rfl) dX6_init_7 (fun q_1 k_2 H hK hP hD hS => ?_)
  have hP : va_P (dC, dI) classes [(h0, .inr (6, [.null, .int 0, .int 0])), (q_1, .inl (k_2, 20, .inr (.inr (.inr (.inr (fun _ => none))))))] H := hP
  have hD : va_D A [(h0, .inr (6, [.null, .int 0, .int 0])), (q_1, .inl (k_2, 20, .inr (.inr (.inr (.inr (fun _ => none))))))] := hD
  have hK : va_K (dC, dI) classes [(k_2, .object RX3)] s := hK
  refine W.widen (k := 1) (n := 20) (Nat.le_of_ble_eq_true rfl) (Nat.le_of_ble_eq_true rfl) ?_
  refine va_putF (D := (dC, dI)) (ci := 6) (v := .ref q_1) (ty := .array (.object "SpokenBite$Evening")) (C := RX6) (T := TX6) (N := 3) hx hb hq inX6 tyX6 tyX6_ok nmX6 hown hK hP hD hS 0 rfl rfl 0 (by decide) (hq _ qw_333) (fun _ h9 => h9) rfl hin rfl (by decide +kernel) rfl rfl (Nat.le_of_ble_eq_true rfl) dX6_init_10 (fun H locs hP hD hS => ?_)
  have hP : va_P (dC, dI) classes [(h0, .inr (6, [.ref q_1, .int 0, .int 0])), (q_1, .inl (k_2, 20, .inr (.inr (.inr (.inr (fun _ => none))))))] H := hP
  have hD : va_D A [(h0, .inr (6, [.ref q_1, .int 0, .int 0])), (q_1, .inl (k_2, 20, .inr (.inr (.inr (.inr (fun _ => none))))))] := hD
  refine lv_iconst (v := 0) hx hb dX6_init_13 (by decide) ?_
  refine lv_istore_n (lv' := [(1, .int 0), (0, .ref h0)]) hx hb dX6_init_14 rfl hl (by decide) rfl (fun ls hl => ?_)
  refine lv_iload_n hx hb dX6_init_15 rfl (lv_at hl 0 rfl) ?_
  refine lv_bipush (v := 20) hx hb dX6_init_16 (by decide) ?_
  refine lv_icmp_ge (tgt := 40) hx hb dX6_init_18 (by decide) (fun c9 => absurd c9 (by decide)) (fun _ => ?_)
  refine lv_aload_n hx hb dX6_init_21 rfl (lv_at hl 1 rfl) ?_
  refine va_get (D := (dC, dI)) (ci := 6) (v := .ref q_1) (C := RX6) (T := TX6) (N := 3) hx hb hq inX6 hown hK hP 0 rfl rfl 0 (by decide) (hq _ qw_333) (fun _ h9 => h9) rfl dX6_init_22 ?_
  refine lv_iload_n hx hb dX6_init_25 rfl (lv_at hl 0 rfl) ?_
  refine va_new (ci := 3) (fs := [.int 0, .int 0, .int 0, .int 0, .int 0, .long 0]) (C := RX3) (T := TX3) (N := 6) hx hb hq inX3 tyX3 tyX3_ok hown (hq _ qw_330) (hq _ qw_264) (hq _ qw_125) hK hP hD hS hA rfl (dfl_ok rfl) (Nat.le_of_ble_eq_true rfl) (Nat.le_of_ble_eq_true rfl) dX6_init_26 (fun q_3 H hP hD hS => ?_)
  have hP : va_P (dC, dI) classes [(h0, .inr (6, [.ref q_1, .int 0, .int 0])), (q_1, .inl (k_2, 20, .inr (.inr (.inr (.inr (fun _ => none)))))), (q_3, .inr (3, [.int 0, .int 0, .int 0, .int 0, .int 0, .long 0]))] H := hP
  have hD : va_D A [(h0, .inr (6, [.ref q_1, .int 0, .int 0])), (q_1, .inl (k_2, 20, .inr (.inr (.inr (.inr (fun _ => none)))))), (q_3, .inr (3, [.int 0, .int 0, .int 0, .int 0, .int 0, .long 0]))] := hD
  refine W.widen (k := 2) (n := 26) (Nat.le_of_ble_eq_true rfl) (Nat.le_of_ble_eq_true rfl) ?_
  refine lv_dup hx hb dX6_init_29 rfl ?_
  have hPc := hP.sub (ws' := [(q_3, .inr (3, [.int 0, .int 0, .int 0, .int 0, .int 0, .long 0]))]) [2] rfl
  have hDc := hD.sub (ws' := [(q_3, .inr (3, [.int 0, .int 0, .int 0, .int 0, .int 0, .long 0]))]) [2] (by decide) rfl
  have hKc := hK.sub (tys' := []) [] rfl
  have hFc := va_free (wc := [(q_3, .inr (3, [.int 0, .int 0, .int 0, .int 0, .int 0, .long 0]))]) hD hS hA [2] rfl
  refine va_callv (va_runIN (As := []) (rest := [.ref q_3, .int 0, .ref q_1]) ⟨hx, hb, hml, hown, hq⟩ (c_Evening_init l dC dI _ q_3 ) ⟨va_cnB (host := "SpokenBite") 0 hq (gC qw_267) rfl rfl rfl (xE_n hE (k := 8) rfl) (hq _ qw_125) (by decide +kernel) ⟨Nat.le_of_ble_eq_true rfl, Nat.le_of_ble_eq_true rfl⟩, rfl, (hq _ qw_266)⟩ ⟨fun a U g mk q => by obtain ⟨q0, q1, qP, qK, qD, qE⟩ := q; exact ⟨q0, q1, qP, va_K.moved (u := U) (U := U.calling g mk a) (Vm.Alike.refl U.vm) qK, qD, xE.same rfl qE⟩, fun U hU hW => ⟨rfl, by rw [hU], by rw [hU]; exact hPc, va_K.moved hW.alike hKc, hDc.weaken (fun _ _ _ _ => trivial), xE.warm hW hE⟩⟩ rfl rfl hl.1 rfl (lv_room (Nat.le_of_ble_eq_true rfl)) dX6_init_30 ⟨Nat.le_of_ble_eq_true rfl, Nat.le_of_ble_eq_true rfl⟩) hS (fun q _ h => hFc q h) hFc (fun u t H1 locs ht hvm hw hB hz1 hk1 hS => ?_)
  obtain ⟨hP1, hK1, hD1⟩ := hB
  rw [ht] at hP1
  have hK1 := va_K.moved hvm.symm hK1
  obtain ⟨hP, hD⟩ := va_join (wr := [(h0, .inr (6, [.ref q_1, .int 0, .int 0])), (q_1, .inl (k_2, 20, .inr (.inr (.inr (.inr (fun _ => none))))))]) (w1 := [(q_3, .inr (3, [.int 0, .int (-1), .int 0, .int 0, .int 0, .long 0]))]) hP hD [2] [0, 1] rfl rfl (by decide) (by decide) hk1 hFc hP1 hD1
  generalize H1 = H at hP hS ⊢
  have hP : va_P (dC, dI) classes [(h0, .inr (6, [.ref q_1, .int 0, .int 0])), (q_1, .inl (k_2, 20, .inr (.inr (.inr (.inr (fun _ => none)))))), (q_3, .inr (3, [.int 0, .int (-1), .int 0, .int 0, .int 0, .long 0]))] H := hP
  have hD : va_D A [(h0, .inr (6, [.ref q_1, .int 0, .int 0])), (q_1, .inl (k_2, 20, .inr (.inr (.inr (.inr (fun _ => none)))))), (q_3, .inr (3, [.int 0, .int (-1), .int 0, .int 0, .int 0, .long 0]))] := hD
  refine va_astq hx hb hK hP hD hS 1 0 2 3 rfl rfl rfl rfl (inr_ok rfl) dX6_init_33 (fun H locs hP hD hS => ?_)
  generalize va_up (fun _ => none) (Int32.toNatClampNeg 0) (some q_3) = f_5 at hP hD
  have hP : va_P (dC, dI) classes [(h0, .inr (6, [.ref q_1, .int 0, .int 0])), (q_1, .inl (k_2, 20, .inr (.inr (.inr (.inr f_5))))), (q_3, .inr (3, [.int 0, .int (-1), .int 0, .int 0, .int 0, .long 0]))] H := hP
  have hD : va_D A [(h0, .inr (6, [.ref q_1, .int 0, .int 0])), (q_1, .inl (k_2, 20, .inr (.inr (.inr (.inr f_5))))), (q_3, .inr (3, [.int 0, .int (-1), .int 0, .int 0, .int 0, .long 0]))] := hD
  have hP := hP.sub (ws' := [(h0, .inr (6, [.ref q_1, .int 0, .int 0])), (q_1, .inl (k_2, 20, .inr (.inr (.inr (.inr f_5)))))]) [0, 1] rfl
  have hD := hD.sub (ws' := [(h0, .inr (6, [.ref q_1, .int 0, .int 0])), (q_1, .inl (k_2, 20, .inr (.inr (.inr (.inr f_5)))))]) [0, 1] (by decide) rfl
  refine lv_iinc (v := 1) (lv' := [(1, .int 1), (0, .ref h0)]) hx hb dX6_init_34 hl (k := 0) rfl (by decide) (by decide) rfl (fun ls hl => ?_)
  refine lv_goto (tgt := 15) hx hb dX6_init_37 (by decide) ?_
  refine lv_iload_n hx hb dX6_init_15 rfl (lv_at hl 0 rfl) ?_
  refine lv_bipush (v := 20) hx hb dX6_init_16 (by decide) ?_
  refine lv_icmp_ge (tgt := 40) hx hb dX6_init_18 (by decide) (fun c9 => absurd c9 (by decide)) (fun _ => ?_)
  refine lv_aload_n hx hb dX6_init_21 rfl (lv_at hl 1 rfl) ?_
  refine va_get (D := (dC, dI)) (ci := 6) (v := .ref q_1) (C := RX6) (T := TX6) (N := 3) hx hb hq inX6 hown hK hP 0 rfl rfl 0 (by decide) (hq _ qw_333) (fun _ h9 => h9) rfl dX6_init_22 ?_
  refine lv_iload_n hx hb dX6_init_25 rfl (lv_at hl 0 rfl) ?_
  refine va_new (ci := 3) (fs := [.int 0, .int 0, .int 0, .int 0, .int 0, .long 0]) (C := RX3) (T := TX3) (N := 6) hx hb hq inX3 tyX3 tyX3_ok hown (hq _ qw_330) (hq _ qw_264) (hq _ qw_125) hK hP hD hS hA rfl (dfl_ok rfl) (Nat.le_of_ble_eq_true rfl) (Nat.le_of_ble_eq_true rfl) dX6_init_26 (fun q_6 H hP hD hS => ?_)
  have hP : va_P (dC, dI) classes [(h0, .inr (6, [.ref q_1, .int 0, .int 0])), (q_1, .inl (k_2, 20, .inr (.inr (.inr (.inr f_5))))), (q_6, .inr (3, [.int 0, .int 0, .int 0, .int 0, .int 0, .long 0]))] H := hP
  have hD : va_D A [(h0, .inr (6, [.ref q_1, .int 0, .int 0])), (q_1, .inl (k_2, 20, .inr (.inr (.inr (.inr f_5))))), (q_6, .inr (3, [.int 0, .int 0, .int 0, .int 0, .int 0, .long 0]))] := hD
  refine W.widen (k := 3) (n := 32) (Nat.le_of_ble_eq_true rfl) (Nat.le_of_ble_eq_true rfl) ?_
  refine lv_dup hx hb dX6_init_29 rfl ?_
  have hPc := hP.sub (ws' := [(q_6, .inr (3, [.int 0, .int 0, .int 0, .int 0, .int 0, .long 0]))]) [2] rfl
  have hDc := hD.sub (ws' := [(q_6, .inr (3, [.int 0, .int 0, .int 0, .int 0, .int 0, .long 0]))]) [2] (by decide) rfl
  have hKc := hK.sub (tys' := []) [] rfl
  have hFc := va_free (wc := [(q_6, .inr (3, [.int 0, .int 0, .int 0, .int 0, .int 0, .long 0]))]) hD hS hA [2] rfl
  refine va_callv (va_runIN (As := []) (rest := [.ref q_6, .int 1, .ref q_1]) ⟨hx, hb, hml, hown, hq⟩ (c_Evening_init l dC dI _ q_6 ) ⟨va_cnB (host := "SpokenBite") 0 hq (gC qw_267) rfl rfl rfl (xE_n hE (k := 8) rfl) (hq _ qw_125) (by decide +kernel) ⟨Nat.le_of_ble_eq_true rfl, Nat.le_of_ble_eq_true rfl⟩, rfl, (hq _ qw_266)⟩ ⟨fun a U g mk q => by obtain ⟨q0, q1, qP, qK, qD, qE⟩ := q; exact ⟨q0, q1, qP, va_K.moved (u := U) (U := U.calling g mk a) (Vm.Alike.refl U.vm) qK, qD, xE.same rfl qE⟩, fun U hU hW => ⟨rfl, by rw [hU], by rw [hU]; exact hPc, va_K.moved hW.alike hKc, hDc.weaken (fun _ _ _ _ => trivial), xE.warm hW hE⟩⟩ rfl rfl hl.1 rfl (lv_room (Nat.le_of_ble_eq_true rfl)) dX6_init_30 ⟨Nat.le_of_ble_eq_true rfl, Nat.le_of_ble_eq_true rfl⟩) hS (fun q _ h => hFc q h) hFc (fun u t H1 locs ht hvm hw hB hz1 hk1 hS => ?_)
  obtain ⟨hP1, hK1, hD1⟩ := hB
  rw [ht] at hP1
  have hK1 := va_K.moved hvm.symm hK1
  obtain ⟨hP, hD⟩ := va_join (wr := [(h0, .inr (6, [.ref q_1, .int 0, .int 0])), (q_1, .inl (k_2, 20, .inr (.inr (.inr (.inr f_5)))))]) (w1 := [(q_6, .inr (3, [.int 0, .int (-1), .int 0, .int 0, .int 0, .long 0]))]) hP hD [2] [0, 1] rfl rfl (by decide) (by decide) hk1 hFc hP1 hD1
  generalize H1 = H at hP hS ⊢
  have hP : va_P (dC, dI) classes [(h0, .inr (6, [.ref q_1, .int 0, .int 0])), (q_1, .inl (k_2, 20, .inr (.inr (.inr (.inr f_5))))), (q_6, .inr (3, [.int 0, .int (-1), .int 0, .int 0, .int 0, .long 0]))] H := hP
  have hD : va_D A [(h0, .inr (6, [.ref q_1, .int 0, .int 0])), (q_1, .inl (k_2, 20, .inr (.inr (.inr (.inr f_5))))), (q_6, .inr (3, [.int 0, .int (-1), .int 0, .int 0, .int 0, .long 0]))] := hD
  refine va_astq hx hb hK hP hD hS 1 0 2 3 rfl rfl rfl rfl (inr_ok rfl) dX6_init_33 (fun H locs hP hD hS => ?_)
  generalize va_up f_5 (Int32.toNatClampNeg 1) (some q_6) = f_8 at hP hD
  have hP : va_P (dC, dI) classes [(h0, .inr (6, [.ref q_1, .int 0, .int 0])), (q_1, .inl (k_2, 20, .inr (.inr (.inr (.inr f_8))))), (q_6, .inr (3, [.int 0, .int (-1), .int 0, .int 0, .int 0, .long 0]))] H := hP
  have hD : va_D A [(h0, .inr (6, [.ref q_1, .int 0, .int 0])), (q_1, .inl (k_2, 20, .inr (.inr (.inr (.inr f_8))))), (q_6, .inr (3, [.int 0, .int (-1), .int 0, .int 0, .int 0, .long 0]))] := hD
  have hP := hP.sub (ws' := [(h0, .inr (6, [.ref q_1, .int 0, .int 0])), (q_1, .inl (k_2, 20, .inr (.inr (.inr (.inr f_8)))))]) [0, 1] rfl
  have hD := hD.sub (ws' := [(h0, .inr (6, [.ref q_1, .int 0, .int 0])), (q_1, .inl (k_2, 20, .inr (.inr (.inr (.inr f_8)))))]) [0, 1] (by decide) rfl
  refine lv_iinc (v := 2) (lv' := [(1, .int 2), (0, .ref h0)]) hx hb dX6_init_34 hl (k := 0) rfl (by decide) (by decide) rfl (fun ls hl => ?_)
  refine lv_goto (tgt := 15) hx hb dX6_init_37 (by decide) ?_
  refine lv_iload_n hx hb dX6_init_15 rfl (lv_at hl 0 rfl) ?_
  refine lv_bipush (v := 20) hx hb dX6_init_16 (by decide) ?_
  refine lv_icmp_ge (tgt := 40) hx hb dX6_init_18 (by decide) (fun c9 => absurd c9 (by decide)) (fun _ => ?_)
  refine lv_aload_n hx hb dX6_init_21 rfl (lv_at hl 1 rfl) ?_
  refine va_get (D := (dC, dI)) (ci := 6) (v := .ref q_1) (C := RX6) (T := TX6) (N := 3) hx hb hq inX6 hown hK hP 0 rfl rfl 0 (by decide) (hq _ qw_333) (fun _ h9 => h9) rfl dX6_init_22 ?_
  refine lv_iload_n hx hb dX6_init_25 rfl (lv_at hl 0 rfl) ?_
  refine va_new (ci := 3) (fs := [.int 0, .int 0, .int 0, .int 0, .int 0, .long 0]) (C := RX3) (T := TX3) (N := 6) hx hb hq inX3 tyX3 tyX3_ok hown (hq _ qw_330) (hq _ qw_264) (hq _ qw_125) hK hP hD hS hA rfl (dfl_ok rfl) (Nat.le_of_ble_eq_true rfl) (Nat.le_of_ble_eq_true rfl) dX6_init_26 (fun q_9 H hP hD hS => ?_)
  have hP : va_P (dC, dI) classes [(h0, .inr (6, [.ref q_1, .int 0, .int 0])), (q_1, .inl (k_2, 20, .inr (.inr (.inr (.inr f_8))))), (q_9, .inr (3, [.int 0, .int 0, .int 0, .int 0, .int 0, .long 0]))] H := hP
  have hD : va_D A [(h0, .inr (6, [.ref q_1, .int 0, .int 0])), (q_1, .inl (k_2, 20, .inr (.inr (.inr (.inr f_8))))), (q_9, .inr (3, [.int 0, .int 0, .int 0, .int 0, .int 0, .long 0]))] := hD
  refine W.widen (k := 4) (n := 38) (Nat.le_of_ble_eq_true rfl) (Nat.le_of_ble_eq_true rfl) ?_
  refine lv_dup hx hb dX6_init_29 rfl ?_
  have hPc := hP.sub (ws' := [(q_9, .inr (3, [.int 0, .int 0, .int 0, .int 0, .int 0, .long 0]))]) [2] rfl
  have hDc := hD.sub (ws' := [(q_9, .inr (3, [.int 0, .int 0, .int 0, .int 0, .int 0, .long 0]))]) [2] (by decide) rfl
  have hKc := hK.sub (tys' := []) [] rfl
  have hFc := va_free (wc := [(q_9, .inr (3, [.int 0, .int 0, .int 0, .int 0, .int 0, .long 0]))]) hD hS hA [2] rfl
  refine va_callv (va_runIN (As := []) (rest := [.ref q_9, .int 2, .ref q_1]) ⟨hx, hb, hml, hown, hq⟩ (c_Evening_init l dC dI _ q_9 ) ⟨va_cnB (host := "SpokenBite") 0 hq (gC qw_267) rfl rfl rfl (xE_n hE (k := 8) rfl) (hq _ qw_125) (by decide +kernel) ⟨Nat.le_of_ble_eq_true rfl, Nat.le_of_ble_eq_true rfl⟩, rfl, (hq _ qw_266)⟩ ⟨fun a U g mk q => by obtain ⟨q0, q1, qP, qK, qD, qE⟩ := q; exact ⟨q0, q1, qP, va_K.moved (u := U) (U := U.calling g mk a) (Vm.Alike.refl U.vm) qK, qD, xE.same rfl qE⟩, fun U hU hW => ⟨rfl, by rw [hU], by rw [hU]; exact hPc, va_K.moved hW.alike hKc, hDc.weaken (fun _ _ _ _ => trivial), xE.warm hW hE⟩⟩ rfl rfl hl.1 rfl (lv_room (Nat.le_of_ble_eq_true rfl)) dX6_init_30 ⟨Nat.le_of_ble_eq_true rfl, Nat.le_of_ble_eq_true rfl⟩) hS (fun q _ h => hFc q h) hFc (fun u t H1 locs ht hvm hw hB hz1 hk1 hS => ?_)
  obtain ⟨hP1, hK1, hD1⟩ := hB
  rw [ht] at hP1
  have hK1 := va_K.moved hvm.symm hK1
  obtain ⟨hP, hD⟩ := va_join (wr := [(h0, .inr (6, [.ref q_1, .int 0, .int 0])), (q_1, .inl (k_2, 20, .inr (.inr (.inr (.inr f_8)))))]) (w1 := [(q_9, .inr (3, [.int 0, .int (-1), .int 0, .int 0, .int 0, .long 0]))]) hP hD [2] [0, 1] rfl rfl (by decide) (by decide) hk1 hFc hP1 hD1
  generalize H1 = H at hP hS ⊢
  have hP : va_P (dC, dI) classes [(h0, .inr (6, [.ref q_1, .int 0, .int 0])), (q_1, .inl (k_2, 20, .inr (.inr (.inr (.inr f_8))))), (q_9, .inr (3, [.int 0, .int (-1), .int 0, .int 0, .int 0, .long 0]))] H := hP
  have hD : va_D A [(h0, .inr (6, [.ref q_1, .int 0, .int 0])), (q_1, .inl (k_2, 20, .inr (.inr (.inr (.inr f_8))))), (q_9, .inr (3, [.int 0, .int (-1), .int 0, .int 0, .int 0, .long 0]))] := hD
  refine va_astq hx hb hK hP hD hS 1 0 2 3 rfl rfl rfl rfl (inr_ok rfl) dX6_init_33 (fun H locs hP hD hS => ?_)
  generalize va_up f_8 (Int32.toNatClampNeg 2) (some q_9) = f_11 at hP hD
  have hP : va_P (dC, dI) classes [(h0, .inr (6, [.ref q_1, .int 0, .int 0])), (q_1, .inl (k_2, 20, .inr (.inr (.inr (.inr f_11))))), (q_9, .inr (3, [.int 0, .int (-1), .int 0, .int 0, .int 0, .long 0]))] H := hP
  have hD : va_D A [(h0, .inr (6, [.ref q_1, .int 0, .int 0])), (q_1, .inl (k_2, 20, .inr (.inr (.inr (.inr f_11))))), (q_9, .inr (3, [.int 0, .int (-1), .int 0, .int 0, .int 0, .long 0]))] := hD
  have hP := hP.sub (ws' := [(h0, .inr (6, [.ref q_1, .int 0, .int 0])), (q_1, .inl (k_2, 20, .inr (.inr (.inr (.inr f_11)))))]) [0, 1] rfl
  have hD := hD.sub (ws' := [(h0, .inr (6, [.ref q_1, .int 0, .int 0])), (q_1, .inl (k_2, 20, .inr (.inr (.inr (.inr f_11)))))]) [0, 1] (by decide) rfl
  refine lv_iinc (v := 3) (lv' := [(1, .int 3), (0, .ref h0)]) hx hb dX6_init_34 hl (k := 0) rfl (by decide) (by decide) rfl (fun ls hl => ?_)
  refine lv_goto (tgt := 15) hx hb dX6_init_37 (by decide) ?_
  refine lv_iload_n hx hb dX6_init_15 rfl (lv_at hl 0 rfl) ?_
  refine lv_bipush (v := 20) hx hb dX6_init_16 (by decide) ?_
  refine lv_icmp_ge (tgt := 40) hx hb dX6_init_18 (by decide) (fun c9 => absurd c9 (by decide)) (fun _ => ?_)
  refine lv_aload_n hx hb dX6_init_21 rfl (lv_at hl 1 rfl) ?_
  refine va_get (D := (dC, dI)) (ci := 6) (v := .ref q_1) (C := RX6) (T := TX6) (N := 3) hx hb hq inX6 hown hK hP 0 rfl rfl 0 (by decide) (hq _ qw_333) (fun _ h9 => h9) rfl dX6_init_22 ?_
  refine lv_iload_n hx hb dX6_init_25 rfl (lv_at hl 0 rfl) ?_
  refine va_new (ci := 3) (fs := [.int 0, .int 0, .int 0, .int 0, .int 0, .long 0]) (C := RX3) (T := TX3) (N := 6) hx hb hq inX3 tyX3 tyX3_ok hown (hq _ qw_330) (hq _ qw_264) (hq _ qw_125) hK hP hD hS hA rfl (dfl_ok rfl) (Nat.le_of_ble_eq_true rfl) (Nat.le_of_ble_eq_true rfl) dX6_init_26 (fun q_12 H hP hD hS => ?_)
  have hP : va_P (dC, dI) classes [(h0, .inr (6, [.ref q_1, .int 0, .int 0])), (q_1, .inl (k_2, 20, .inr (.inr (.inr (.inr f_11))))), (q_12, .inr (3, [.int 0, .int 0, .int 0, .int 0, .int 0, .long 0]))] H := hP
  have hD : va_D A [(h0, .inr (6, [.ref q_1, .int 0, .int 0])), (q_1, .inl (k_2, 20, .inr (.inr (.inr (.inr f_11))))), (q_12, .inr (3, [.int 0, .int 0, .int 0, .int 0, .int 0, .long 0]))] := hD
  refine W.widen (k := 5) (n := 44) (Nat.le_of_ble_eq_true rfl) (Nat.le_of_ble_eq_true rfl) ?_
  refine lv_dup hx hb dX6_init_29 rfl ?_
  have hPc := hP.sub (ws' := [(q_12, .inr (3, [.int 0, .int 0, .int 0, .int 0, .int 0, .long 0]))]) [2] rfl
  have hDc := hD.sub (ws' := [(q_12, .inr (3, [.int 0, .int 0, .int 0, .int 0, .int 0, .long 0]))]) [2] (by decide) rfl
  have hKc := hK.sub (tys' := []) [] rfl
  have hFc := va_free (wc := [(q_12, .inr (3, [.int 0, .int 0, .int 0, .int 0, .int 0, .long 0]))]) hD hS hA [2] rfl
  refine va_callv (va_runIN (As := []) (rest := [.ref q_12, .int 3, .ref q_1]) ⟨hx, hb, hml, hown, hq⟩ (c_Evening_init l dC dI _ q_12 ) ⟨va_cnB (host := "SpokenBite") 0 hq (gC qw_267) rfl rfl rfl (xE_n hE (k := 8) rfl) (hq _ qw_125) (by decide +kernel) ⟨Nat.le_of_ble_eq_true rfl, Nat.le_of_ble_eq_true rfl⟩, rfl, (hq _ qw_266)⟩ ⟨fun a U g mk q => by obtain ⟨q0, q1, qP, qK, qD, qE⟩ := q; exact ⟨q0, q1, qP, va_K.moved (u := U) (U := U.calling g mk a) (Vm.Alike.refl U.vm) qK, qD, xE.same rfl qE⟩, fun U hU hW => ⟨rfl, by rw [hU], by rw [hU]; exact hPc, va_K.moved hW.alike hKc, hDc.weaken (fun _ _ _ _ => trivial), xE.warm hW hE⟩⟩ rfl rfl hl.1 rfl (lv_room (Nat.le_of_ble_eq_true rfl)) dX6_init_30 ⟨Nat.le_of_ble_eq_true rfl, Nat.le_of_ble_eq_true rfl⟩) hS (fun q _ h => hFc q h) hFc (fun u t H1 locs ht hvm hw hB hz1 hk1 hS => ?_)
  obtain ⟨hP1, hK1, hD1⟩ := hB
  rw [ht] at hP1
  have hK1 := va_K.moved hvm.symm hK1
  obtain ⟨hP, hD⟩ := va_join (wr := [(h0, .inr (6, [.ref q_1, .int 0, .int 0])), (q_1, .inl (k_2, 20, .inr (.inr (.inr (.inr f_11)))))]) (w1 := [(q_12, .inr (3, [.int 0, .int (-1), .int 0, .int 0, .int 0, .long 0]))]) hP hD [2] [0, 1] rfl rfl (by decide) (by decide) hk1 hFc hP1 hD1
  generalize H1 = H at hP hS ⊢
  have hP : va_P (dC, dI) classes [(h0, .inr (6, [.ref q_1, .int 0, .int 0])), (q_1, .inl (k_2, 20, .inr (.inr (.inr (.inr f_11))))), (q_12, .inr (3, [.int 0, .int (-1), .int 0, .int 0, .int 0, .long 0]))] H := hP
  have hD : va_D A [(h0, .inr (6, [.ref q_1, .int 0, .int 0])), (q_1, .inl (k_2, 20, .inr (.inr (.inr (.inr f_11))))), (q_12, .inr (3, [.int 0, .int (-1), .int 0, .int 0, .int 0, .long 0]))] := hD
  refine va_astq hx hb hK hP hD hS 1 0 2 3 rfl rfl rfl rfl (inr_ok rfl) dX6_init_33 (fun H locs hP hD hS => ?_)
  generalize va_up f_11 (Int32.toNatClampNeg 3) (some q_12) = f_14 at hP hD
  have hP : va_P (dC, dI) classes [(h0, .inr (6, [.ref q_1, .int 0, .int 0])), (q_1, .inl (k_2, 20, .inr (.inr (.inr (.inr f_14))))), (q_12, .inr (3, [.int 0, .int (-1), .int 0, .int 0, .int 0, .long 0]))] H := hP
  have hD : va_D A [(h0, .inr (6, [.ref q_1, .int 0, .int 0])), (q_1, .inl (k_2, 20, .inr (.inr (.inr (.inr f_14))))), (q_12, .inr (3, [.int 0, .int (-1), .int 0, .int 0, .int 0, .long 0]))] := hD
  have hP := hP.sub (ws' := [(h0, .inr (6, [.ref q_1, .int 0, .int 0])), (q_1, .inl (k_2, 20, .inr (.inr (.inr (.inr f_14)))))]) [0, 1] rfl
  have hD := hD.sub (ws' := [(h0, .inr (6, [.ref q_1, .int 0, .int 0])), (q_1, .inl (k_2, 20, .inr (.inr (.inr (.inr f_14)))))]) [0, 1] (by decide) rfl
  refine lv_iinc (v := 4) (lv' := [(1, .int 4), (0, .ref h0)]) hx hb dX6_init_34 hl (k := 0) rfl (by decide) (by decide) rfl (fun ls hl => ?_)
  refine lv_goto (tgt := 15) hx hb dX6_init_37 (by decide) ?_
  refine lv_iload_n hx hb dX6_init_15 rfl (lv_at hl 0 rfl) ?_
  refine lv_bipush (v := 20) hx hb dX6_init_16 (by decide) ?_
  refine lv_icmp_ge (tgt := 40) hx hb dX6_init_18 (by decide) (fun c9 => absurd c9 (by decide)) (fun _ => ?_)
  refine lv_aload_n hx hb dX6_init_21 rfl (lv_at hl 1 rfl) ?_
  refine va_get (D := (dC, dI)) (ci := 6) (v := .ref q_1) (C := RX6) (T := TX6) (N := 3) hx hb hq inX6 hown hK hP 0 rfl rfl 0 (by decide) (hq _ qw_333) (fun _ h9 => h9) rfl dX6_init_22 ?_
  refine lv_iload_n hx hb dX6_init_25 rfl (lv_at hl 0 rfl) ?_
  refine va_new (ci := 3) (fs := [.int 0, .int 0, .int 0, .int 0, .int 0, .long 0]) (C := RX3) (T := TX3) (N := 6) hx hb hq inX3 tyX3 tyX3_ok hown (hq _ qw_330) (hq _ qw_264) (hq _ qw_125) hK hP hD hS hA rfl (dfl_ok rfl) (Nat.le_of_ble_eq_true rfl) (Nat.le_of_ble_eq_true rfl) dX6_init_26 (fun q_15 H hP hD hS => ?_)
  have hP : va_P (dC, dI) classes [(h0, .inr (6, [.ref q_1, .int 0, .int 0])), (q_1, .inl (k_2, 20, .inr (.inr (.inr (.inr f_14))))), (q_15, .inr (3, [.int 0, .int 0, .int 0, .int 0, .int 0, .long 0]))] H := hP
  have hD : va_D A [(h0, .inr (6, [.ref q_1, .int 0, .int 0])), (q_1, .inl (k_2, 20, .inr (.inr (.inr (.inr f_14))))), (q_15, .inr (3, [.int 0, .int 0, .int 0, .int 0, .int 0, .long 0]))] := hD
  refine W.widen (k := 6) (n := 50) (Nat.le_of_ble_eq_true rfl) (Nat.le_of_ble_eq_true rfl) ?_
  refine lv_dup hx hb dX6_init_29 rfl ?_
  have hPc := hP.sub (ws' := [(q_15, .inr (3, [.int 0, .int 0, .int 0, .int 0, .int 0, .long 0]))]) [2] rfl
  have hDc := hD.sub (ws' := [(q_15, .inr (3, [.int 0, .int 0, .int 0, .int 0, .int 0, .long 0]))]) [2] (by decide) rfl
  have hKc := hK.sub (tys' := []) [] rfl
  have hFc := va_free (wc := [(q_15, .inr (3, [.int 0, .int 0, .int 0, .int 0, .int 0, .long 0]))]) hD hS hA [2] rfl
  refine va_callv (va_runIN (As := []) (rest := [.ref q_15, .int 4, .ref q_1]) ⟨hx, hb, hml, hown, hq⟩ (c_Evening_init l dC dI _ q_15 ) ⟨va_cnB (host := "SpokenBite") 0 hq (gC qw_267) rfl rfl rfl (xE_n hE (k := 8) rfl) (hq _ qw_125) (by decide +kernel) ⟨Nat.le_of_ble_eq_true rfl, Nat.le_of_ble_eq_true rfl⟩, rfl, (hq _ qw_266)⟩ ⟨fun a U g mk q => by obtain ⟨q0, q1, qP, qK, qD, qE⟩ := q; exact ⟨q0, q1, qP, va_K.moved (u := U) (U := U.calling g mk a) (Vm.Alike.refl U.vm) qK, qD, xE.same rfl qE⟩, fun U hU hW => ⟨rfl, by rw [hU], by rw [hU]; exact hPc, va_K.moved hW.alike hKc, hDc.weaken (fun _ _ _ _ => trivial), xE.warm hW hE⟩⟩ rfl rfl hl.1 rfl (lv_room (Nat.le_of_ble_eq_true rfl)) dX6_init_30 ⟨Nat.le_of_ble_eq_true rfl, Nat.le_of_ble_eq_true rfl⟩) hS (fun q _ h => hFc q h) hFc (fun u t H1 locs ht hvm hw hB hz1 hk1 hS => ?_)
  obtain ⟨hP1, hK1, hD1⟩ := hB
  rw [ht] at hP1
  have hK1 := va_K.moved hvm.symm hK1
  obtain ⟨hP, hD⟩ := va_join (wr := [(h0, .inr (6, [.ref q_1, .int 0, .int 0])), (q_1, .inl (k_2, 20, .inr (.inr (.inr (.inr f_14)))))]) (w1 := [(q_15, .inr (3, [.int 0, .int (-1), .int 0, .int 0, .int 0, .long 0]))]) hP hD [2] [0, 1] rfl rfl (by decide) (by decide) hk1 hFc hP1 hD1
  generalize H1 = H at hP hS ⊢
  have hP : va_P (dC, dI) classes [(h0, .inr (6, [.ref q_1, .int 0, .int 0])), (q_1, .inl (k_2, 20, .inr (.inr (.inr (.inr f_14))))), (q_15, .inr (3, [.int 0, .int (-1), .int 0, .int 0, .int 0, .long 0]))] H := hP
  have hD : va_D A [(h0, .inr (6, [.ref q_1, .int 0, .int 0])), (q_1, .inl (k_2, 20, .inr (.inr (.inr (.inr f_14))))), (q_15, .inr (3, [.int 0, .int (-1), .int 0, .int 0, .int 0, .long 0]))] := hD
  refine va_astq hx hb hK hP hD hS 1 0 2 3 rfl rfl rfl rfl (inr_ok rfl) dX6_init_33 (fun H locs hP hD hS => ?_)
  generalize va_up f_14 (Int32.toNatClampNeg 4) (some q_15) = f_17 at hP hD
  have hP : va_P (dC, dI) classes [(h0, .inr (6, [.ref q_1, .int 0, .int 0])), (q_1, .inl (k_2, 20, .inr (.inr (.inr (.inr f_17))))), (q_15, .inr (3, [.int 0, .int (-1), .int 0, .int 0, .int 0, .long 0]))] H := hP
  have hD : va_D A [(h0, .inr (6, [.ref q_1, .int 0, .int 0])), (q_1, .inl (k_2, 20, .inr (.inr (.inr (.inr f_17))))), (q_15, .inr (3, [.int 0, .int (-1), .int 0, .int 0, .int 0, .long 0]))] := hD
  have hP := hP.sub (ws' := [(h0, .inr (6, [.ref q_1, .int 0, .int 0])), (q_1, .inl (k_2, 20, .inr (.inr (.inr (.inr f_17)))))]) [0, 1] rfl
  have hD := hD.sub (ws' := [(h0, .inr (6, [.ref q_1, .int 0, .int 0])), (q_1, .inl (k_2, 20, .inr (.inr (.inr (.inr f_17)))))]) [0, 1] (by decide) rfl
  refine lv_iinc (v := 5) (lv' := [(1, .int 5), (0, .ref h0)]) hx hb dX6_init_34 hl (k := 0) rfl (by decide) (by decide) rfl (fun ls hl => ?_)
  refine lv_goto (tgt := 15) hx hb dX6_init_37 (by decide) ?_
  refine lv_iload_n hx hb dX6_init_15 rfl (lv_at hl 0 rfl) ?_
  refine lv_bipush (v := 20) hx hb dX6_init_16 (by decide) ?_
  refine lv_icmp_ge (tgt := 40) hx hb dX6_init_18 (by decide) (fun c9 => absurd c9 (by decide)) (fun _ => ?_)
  refine lv_aload_n hx hb dX6_init_21 rfl (lv_at hl 1 rfl) ?_
  refine va_get (D := (dC, dI)) (ci := 6) (v := .ref q_1) (C := RX6) (T := TX6) (N := 3) hx hb hq inX6 hown hK hP 0 rfl rfl 0 (by decide) (hq _ qw_333) (fun _ h9 => h9) rfl dX6_init_22 ?_
  refine lv_iload_n hx hb dX6_init_25 rfl (lv_at hl 0 rfl) ?_
  refine va_new (ci := 3) (fs := [.int 0, .int 0, .int 0, .int 0, .int 0, .long 0]) (C := RX3) (T := TX3) (N := 6) hx hb hq inX3 tyX3 tyX3_ok hown (hq _ qw_330) (hq _ qw_264) (hq _ qw_125) hK hP hD hS hA rfl (dfl_ok rfl) (Nat.le_of_ble_eq_true rfl) (Nat.le_of_ble_eq_true rfl) dX6_init_26 (fun q_18 H hP hD hS => ?_)
  have hP : va_P (dC, dI) classes [(h0, .inr (6, [.ref q_1, .int 0, .int 0])), (q_1, .inl (k_2, 20, .inr (.inr (.inr (.inr f_17))))), (q_18, .inr (3, [.int 0, .int 0, .int 0, .int 0, .int 0, .long 0]))] H := hP
  have hD : va_D A [(h0, .inr (6, [.ref q_1, .int 0, .int 0])), (q_1, .inl (k_2, 20, .inr (.inr (.inr (.inr f_17))))), (q_18, .inr (3, [.int 0, .int 0, .int 0, .int 0, .int 0, .long 0]))] := hD
  refine W.widen (k := 7) (n := 56) (Nat.le_of_ble_eq_true rfl) (Nat.le_of_ble_eq_true rfl) ?_
  refine lv_dup hx hb dX6_init_29 rfl ?_
  have hPc := hP.sub (ws' := [(q_18, .inr (3, [.int 0, .int 0, .int 0, .int 0, .int 0, .long 0]))]) [2] rfl
  have hDc := hD.sub (ws' := [(q_18, .inr (3, [.int 0, .int 0, .int 0, .int 0, .int 0, .long 0]))]) [2] (by decide) rfl
  have hKc := hK.sub (tys' := []) [] rfl
  have hFc := va_free (wc := [(q_18, .inr (3, [.int 0, .int 0, .int 0, .int 0, .int 0, .long 0]))]) hD hS hA [2] rfl
  refine va_callv (va_runIN (As := []) (rest := [.ref q_18, .int 5, .ref q_1]) ⟨hx, hb, hml, hown, hq⟩ (c_Evening_init l dC dI _ q_18 ) ⟨va_cnB (host := "SpokenBite") 0 hq (gC qw_267) rfl rfl rfl (xE_n hE (k := 8) rfl) (hq _ qw_125) (by decide +kernel) ⟨Nat.le_of_ble_eq_true rfl, Nat.le_of_ble_eq_true rfl⟩, rfl, (hq _ qw_266)⟩ ⟨fun a U g mk q => by obtain ⟨q0, q1, qP, qK, qD, qE⟩ := q; exact ⟨q0, q1, qP, va_K.moved (u := U) (U := U.calling g mk a) (Vm.Alike.refl U.vm) qK, qD, xE.same rfl qE⟩, fun U hU hW => ⟨rfl, by rw [hU], by rw [hU]; exact hPc, va_K.moved hW.alike hKc, hDc.weaken (fun _ _ _ _ => trivial), xE.warm hW hE⟩⟩ rfl rfl hl.1 rfl (lv_room (Nat.le_of_ble_eq_true rfl)) dX6_init_30 ⟨Nat.le_of_ble_eq_true rfl, Nat.le_of_ble_eq_true rfl⟩) hS (fun q _ h => hFc q h) hFc (fun u t H1 locs ht hvm hw hB hz1 hk1 hS => ?_)
  obtain ⟨hP1, hK1, hD1⟩ := hB
  rw [ht] at hP1
  have hK1 := va_K.moved hvm.symm hK1
  obtain ⟨hP, hD⟩ := va_join (wr := [(h0, .inr (6, [.ref q_1, .int 0, .int 0])), (q_1, .inl (k_2, 20, .inr (.inr (.inr (.inr f_17)))))]) (w1 := [(q_18, .inr (3, [.int 0, .int (-1), .int 0, .int 0, .int 0, .long 0]))]) hP hD [2] [0, 1] rfl rfl (by decide) (by decide) hk1 hFc hP1 hD1
  generalize H1 = H at hP hS ⊢
  have hP : va_P (dC, dI) classes [(h0, .inr (6, [.ref q_1, .int 0, .int 0])), (q_1, .inl (k_2, 20, .inr (.inr (.inr (.inr f_17))))), (q_18, .inr (3, [.int 0, .int (-1), .int 0, .int 0, .int 0, .long 0]))] H := hP
  have hD : va_D A [(h0, .inr (6, [.ref q_1, .int 0, .int 0])), (q_1, .inl (k_2, 20, .inr (.inr (.inr (.inr f_17))))), (q_18, .inr (3, [.int 0, .int (-1), .int 0, .int 0, .int 0, .long 0]))] := hD
  refine va_astq hx hb hK hP hD hS 1 0 2 3 rfl rfl rfl rfl (inr_ok rfl) dX6_init_33 (fun H locs hP hD hS => ?_)
  generalize va_up f_17 (Int32.toNatClampNeg 5) (some q_18) = f_20 at hP hD
  have hP : va_P (dC, dI) classes [(h0, .inr (6, [.ref q_1, .int 0, .int 0])), (q_1, .inl (k_2, 20, .inr (.inr (.inr (.inr f_20))))), (q_18, .inr (3, [.int 0, .int (-1), .int 0, .int 0, .int 0, .long 0]))] H := hP
  have hD : va_D A [(h0, .inr (6, [.ref q_1, .int 0, .int 0])), (q_1, .inl (k_2, 20, .inr (.inr (.inr (.inr f_20))))), (q_18, .inr (3, [.int 0, .int (-1), .int 0, .int 0, .int 0, .long 0]))] := hD
  have hP := hP.sub (ws' := [(h0, .inr (6, [.ref q_1, .int 0, .int 0])), (q_1, .inl (k_2, 20, .inr (.inr (.inr (.inr f_20)))))]) [0, 1] rfl
  have hD := hD.sub (ws' := [(h0, .inr (6, [.ref q_1, .int 0, .int 0])), (q_1, .inl (k_2, 20, .inr (.inr (.inr (.inr f_20)))))]) [0, 1] (by decide) rfl
  refine lv_iinc (v := 6) (lv' := [(1, .int 6), (0, .ref h0)]) hx hb dX6_init_34 hl (k := 0) rfl (by decide) (by decide) rfl (fun ls hl => ?_)
  refine lv_goto (tgt := 15) hx hb dX6_init_37 (by decide) ?_
  refine lv_iload_n hx hb dX6_init_15 rfl (lv_at hl 0 rfl) ?_
  refine lv_bipush (v := 20) hx hb dX6_init_16 (by decide) ?_
  refine lv_icmp_ge (tgt := 40) hx hb dX6_init_18 (by decide) (fun c9 => absurd c9 (by decide)) (fun _ => ?_)
  refine lv_aload_n hx hb dX6_init_21 rfl (lv_at hl 1 rfl) ?_
  refine va_get (D := (dC, dI)) (ci := 6) (v := .ref q_1) (C := RX6) (T := TX6) (N := 3) hx hb hq inX6 hown hK hP 0 rfl rfl 0 (by decide) (hq _ qw_333) (fun _ h9 => h9) rfl dX6_init_22 ?_
  refine lv_iload_n hx hb dX6_init_25 rfl (lv_at hl 0 rfl) ?_
  refine va_new (ci := 3) (fs := [.int 0, .int 0, .int 0, .int 0, .int 0, .long 0]) (C := RX3) (T := TX3) (N := 6) hx hb hq inX3 tyX3 tyX3_ok hown (hq _ qw_330) (hq _ qw_264) (hq _ qw_125) hK hP hD hS hA rfl (dfl_ok rfl) (Nat.le_of_ble_eq_true rfl) (Nat.le_of_ble_eq_true rfl) dX6_init_26 (fun q_21 H hP hD hS => ?_)
  have hP : va_P (dC, dI) classes [(h0, .inr (6, [.ref q_1, .int 0, .int 0])), (q_1, .inl (k_2, 20, .inr (.inr (.inr (.inr f_20))))), (q_21, .inr (3, [.int 0, .int 0, .int 0, .int 0, .int 0, .long 0]))] H := hP
  have hD : va_D A [(h0, .inr (6, [.ref q_1, .int 0, .int 0])), (q_1, .inl (k_2, 20, .inr (.inr (.inr (.inr f_20))))), (q_21, .inr (3, [.int 0, .int 0, .int 0, .int 0, .int 0, .long 0]))] := hD
  refine W.widen (k := 8) (n := 62) (Nat.le_of_ble_eq_true rfl) (Nat.le_of_ble_eq_true rfl) ?_
  refine lv_dup hx hb dX6_init_29 rfl ?_
  have hPc := hP.sub (ws' := [(q_21, .inr (3, [.int 0, .int 0, .int 0, .int 0, .int 0, .long 0]))]) [2] rfl
  have hDc := hD.sub (ws' := [(q_21, .inr (3, [.int 0, .int 0, .int 0, .int 0, .int 0, .long 0]))]) [2] (by decide) rfl
  have hKc := hK.sub (tys' := []) [] rfl
  have hFc := va_free (wc := [(q_21, .inr (3, [.int 0, .int 0, .int 0, .int 0, .int 0, .long 0]))]) hD hS hA [2] rfl
  refine va_callv (va_runIN (As := []) (rest := [.ref q_21, .int 6, .ref q_1]) ⟨hx, hb, hml, hown, hq⟩ (c_Evening_init l dC dI _ q_21 ) ⟨va_cnB (host := "SpokenBite") 0 hq (gC qw_267) rfl rfl rfl (xE_n hE (k := 8) rfl) (hq _ qw_125) (by decide +kernel) ⟨Nat.le_of_ble_eq_true rfl, Nat.le_of_ble_eq_true rfl⟩, rfl, (hq _ qw_266)⟩ ⟨fun a U g mk q => by obtain ⟨q0, q1, qP, qK, qD, qE⟩ := q; exact ⟨q0, q1, qP, va_K.moved (u := U) (U := U.calling g mk a) (Vm.Alike.refl U.vm) qK, qD, xE.same rfl qE⟩, fun U hU hW => ⟨rfl, by rw [hU], by rw [hU]; exact hPc, va_K.moved hW.alike hKc, hDc.weaken (fun _ _ _ _ => trivial), xE.warm hW hE⟩⟩ rfl rfl hl.1 rfl (lv_room (Nat.le_of_ble_eq_true rfl)) dX6_init_30 ⟨Nat.le_of_ble_eq_true rfl, Nat.le_of_ble_eq_true rfl⟩) hS (fun q _ h => hFc q h) hFc (fun u t H1 locs ht hvm hw hB hz1 hk1 hS => ?_)
  obtain ⟨hP1, hK1, hD1⟩ := hB
  rw [ht] at hP1
  have hK1 := va_K.moved hvm.symm hK1
  obtain ⟨hP, hD⟩ := va_join (wr := [(h0, .inr (6, [.ref q_1, .int 0, .int 0])), (q_1, .inl (k_2, 20, .inr (.inr (.inr (.inr f_20)))))]) (w1 := [(q_21, .inr (3, [.int 0, .int (-1), .int 0, .int 0, .int 0, .long 0]))]) hP hD [2] [0, 1] rfl rfl (by decide) (by decide) hk1 hFc hP1 hD1
  generalize H1 = H at hP hS ⊢
  have hP : va_P (dC, dI) classes [(h0, .inr (6, [.ref q_1, .int 0, .int 0])), (q_1, .inl (k_2, 20, .inr (.inr (.inr (.inr f_20))))), (q_21, .inr (3, [.int 0, .int (-1), .int 0, .int 0, .int 0, .long 0]))] H := hP
  have hD : va_D A [(h0, .inr (6, [.ref q_1, .int 0, .int 0])), (q_1, .inl (k_2, 20, .inr (.inr (.inr (.inr f_20))))), (q_21, .inr (3, [.int 0, .int (-1), .int 0, .int 0, .int 0, .long 0]))] := hD
  refine va_astq hx hb hK hP hD hS 1 0 2 3 rfl rfl rfl rfl (inr_ok rfl) dX6_init_33 (fun H locs hP hD hS => ?_)
  generalize va_up f_20 (Int32.toNatClampNeg 6) (some q_21) = f_23 at hP hD
  have hP : va_P (dC, dI) classes [(h0, .inr (6, [.ref q_1, .int 0, .int 0])), (q_1, .inl (k_2, 20, .inr (.inr (.inr (.inr f_23))))), (q_21, .inr (3, [.int 0, .int (-1), .int 0, .int 0, .int 0, .long 0]))] H := hP
  have hD : va_D A [(h0, .inr (6, [.ref q_1, .int 0, .int 0])), (q_1, .inl (k_2, 20, .inr (.inr (.inr (.inr f_23))))), (q_21, .inr (3, [.int 0, .int (-1), .int 0, .int 0, .int 0, .long 0]))] := hD
  have hP := hP.sub (ws' := [(h0, .inr (6, [.ref q_1, .int 0, .int 0])), (q_1, .inl (k_2, 20, .inr (.inr (.inr (.inr f_23)))))]) [0, 1] rfl
  have hD := hD.sub (ws' := [(h0, .inr (6, [.ref q_1, .int 0, .int 0])), (q_1, .inl (k_2, 20, .inr (.inr (.inr (.inr f_23)))))]) [0, 1] (by decide) rfl
  refine lv_iinc (v := 7) (lv' := [(1, .int 7), (0, .ref h0)]) hx hb dX6_init_34 hl (k := 0) rfl (by decide) (by decide) rfl (fun ls hl => ?_)
  refine lv_goto (tgt := 15) hx hb dX6_init_37 (by decide) ?_
  refine lv_iload_n hx hb dX6_init_15 rfl (lv_at hl 0 rfl) ?_
  refine lv_bipush (v := 20) hx hb dX6_init_16 (by decide) ?_
  refine lv_icmp_ge (tgt := 40) hx hb dX6_init_18 (by decide) (fun c9 => absurd c9 (by decide)) (fun _ => ?_)
  refine lv_aload_n hx hb dX6_init_21 rfl (lv_at hl 1 rfl) ?_
  refine va_get (D := (dC, dI)) (ci := 6) (v := .ref q_1) (C := RX6) (T := TX6) (N := 3) hx hb hq inX6 hown hK hP 0 rfl rfl 0 (by decide) (hq _ qw_333) (fun _ h9 => h9) rfl dX6_init_22 ?_
  refine lv_iload_n hx hb dX6_init_25 rfl (lv_at hl 0 rfl) ?_
  refine va_new (ci := 3) (fs := [.int 0, .int 0, .int 0, .int 0, .int 0, .long 0]) (C := RX3) (T := TX3) (N := 6) hx hb hq inX3 tyX3 tyX3_ok hown (hq _ qw_330) (hq _ qw_264) (hq _ qw_125) hK hP hD hS hA rfl (dfl_ok rfl) (Nat.le_of_ble_eq_true rfl) (Nat.le_of_ble_eq_true rfl) dX6_init_26 (fun q_24 H hP hD hS => ?_)
  have hP : va_P (dC, dI) classes [(h0, .inr (6, [.ref q_1, .int 0, .int 0])), (q_1, .inl (k_2, 20, .inr (.inr (.inr (.inr f_23))))), (q_24, .inr (3, [.int 0, .int 0, .int 0, .int 0, .int 0, .long 0]))] H := hP
  have hD : va_D A [(h0, .inr (6, [.ref q_1, .int 0, .int 0])), (q_1, .inl (k_2, 20, .inr (.inr (.inr (.inr f_23))))), (q_24, .inr (3, [.int 0, .int 0, .int 0, .int 0, .int 0, .long 0]))] := hD
  refine W.widen (k := 9) (n := 68) (Nat.le_of_ble_eq_true rfl) (Nat.le_of_ble_eq_true rfl) ?_
  refine lv_dup hx hb dX6_init_29 rfl ?_
  have hPc := hP.sub (ws' := [(q_24, .inr (3, [.int 0, .int 0, .int 0, .int 0, .int 0, .long 0]))]) [2] rfl
  have hDc := hD.sub (ws' := [(q_24, .inr (3, [.int 0, .int 0, .int 0, .int 0, .int 0, .long 0]))]) [2] (by decide) rfl
  have hKc := hK.sub (tys' := []) [] rfl
  have hFc := va_free (wc := [(q_24, .inr (3, [.int 0, .int 0, .int 0, .int 0, .int 0, .long 0]))]) hD hS hA [2] rfl
  refine va_callv (va_runIN (As := []) (rest := [.ref q_24, .int 7, .ref q_1]) ⟨hx, hb, hml, hown, hq⟩ (c_Evening_init l dC dI _ q_24 ) ⟨va_cnB (host := "SpokenBite") 0 hq (gC qw_267) rfl rfl rfl (xE_n hE (k := 8) rfl) (hq _ qw_125) (by decide +kernel) ⟨Nat.le_of_ble_eq_true rfl, Nat.le_of_ble_eq_true rfl⟩, rfl, (hq _ qw_266)⟩ ⟨fun a U g mk q => by obtain ⟨q0, q1, qP, qK, qD, qE⟩ := q; exact ⟨q0, q1, qP, va_K.moved (u := U) (U := U.calling g mk a) (Vm.Alike.refl U.vm) qK, qD, xE.same rfl qE⟩, fun U hU hW => ⟨rfl, by rw [hU], by rw [hU]; exact hPc, va_K.moved hW.alike hKc, hDc.weaken (fun _ _ _ _ => trivial), xE.warm hW hE⟩⟩ rfl rfl hl.1 rfl (lv_room (Nat.le_of_ble_eq_true rfl)) dX6_init_30 ⟨Nat.le_of_ble_eq_true rfl, Nat.le_of_ble_eq_true rfl⟩) hS (fun q _ h => hFc q h) hFc (fun u t H1 locs ht hvm hw hB hz1 hk1 hS => ?_)
  obtain ⟨hP1, hK1, hD1⟩ := hB
  rw [ht] at hP1
  have hK1 := va_K.moved hvm.symm hK1
  obtain ⟨hP, hD⟩ := va_join (wr := [(h0, .inr (6, [.ref q_1, .int 0, .int 0])), (q_1, .inl (k_2, 20, .inr (.inr (.inr (.inr f_23)))))]) (w1 := [(q_24, .inr (3, [.int 0, .int (-1), .int 0, .int 0, .int 0, .long 0]))]) hP hD [2] [0, 1] rfl rfl (by decide) (by decide) hk1 hFc hP1 hD1
  generalize H1 = H at hP hS ⊢
  have hP : va_P (dC, dI) classes [(h0, .inr (6, [.ref q_1, .int 0, .int 0])), (q_1, .inl (k_2, 20, .inr (.inr (.inr (.inr f_23))))), (q_24, .inr (3, [.int 0, .int (-1), .int 0, .int 0, .int 0, .long 0]))] H := hP
  have hD : va_D A [(h0, .inr (6, [.ref q_1, .int 0, .int 0])), (q_1, .inl (k_2, 20, .inr (.inr (.inr (.inr f_23))))), (q_24, .inr (3, [.int 0, .int (-1), .int 0, .int 0, .int 0, .long 0]))] := hD
  refine va_astq hx hb hK hP hD hS 1 0 2 3 rfl rfl rfl rfl (inr_ok rfl) dX6_init_33 (fun H locs hP hD hS => ?_)
  generalize va_up f_23 (Int32.toNatClampNeg 7) (some q_24) = f_26 at hP hD
  have hP : va_P (dC, dI) classes [(h0, .inr (6, [.ref q_1, .int 0, .int 0])), (q_1, .inl (k_2, 20, .inr (.inr (.inr (.inr f_26))))), (q_24, .inr (3, [.int 0, .int (-1), .int 0, .int 0, .int 0, .long 0]))] H := hP
  have hD : va_D A [(h0, .inr (6, [.ref q_1, .int 0, .int 0])), (q_1, .inl (k_2, 20, .inr (.inr (.inr (.inr f_26))))), (q_24, .inr (3, [.int 0, .int (-1), .int 0, .int 0, .int 0, .long 0]))] := hD
  have hP := hP.sub (ws' := [(h0, .inr (6, [.ref q_1, .int 0, .int 0])), (q_1, .inl (k_2, 20, .inr (.inr (.inr (.inr f_26)))))]) [0, 1] rfl
  have hD := hD.sub (ws' := [(h0, .inr (6, [.ref q_1, .int 0, .int 0])), (q_1, .inl (k_2, 20, .inr (.inr (.inr (.inr f_26)))))]) [0, 1] (by decide) rfl
  refine lv_iinc (v := 8) (lv' := [(1, .int 8), (0, .ref h0)]) hx hb dX6_init_34 hl (k := 0) rfl (by decide) (by decide) rfl (fun ls hl => ?_)
  refine lv_goto (tgt := 15) hx hb dX6_init_37 (by decide) ?_
  refine lv_iload_n hx hb dX6_init_15 rfl (lv_at hl 0 rfl) ?_
  refine lv_bipush (v := 20) hx hb dX6_init_16 (by decide) ?_
  refine lv_icmp_ge (tgt := 40) hx hb dX6_init_18 (by decide) (fun c9 => absurd c9 (by decide)) (fun _ => ?_)
  refine lv_aload_n hx hb dX6_init_21 rfl (lv_at hl 1 rfl) ?_
  refine va_get (D := (dC, dI)) (ci := 6) (v := .ref q_1) (C := RX6) (T := TX6) (N := 3) hx hb hq inX6 hown hK hP 0 rfl rfl 0 (by decide) (hq _ qw_333) (fun _ h9 => h9) rfl dX6_init_22 ?_
  refine lv_iload_n hx hb dX6_init_25 rfl (lv_at hl 0 rfl) ?_
  refine va_new (ci := 3) (fs := [.int 0, .int 0, .int 0, .int 0, .int 0, .long 0]) (C := RX3) (T := TX3) (N := 6) hx hb hq inX3 tyX3 tyX3_ok hown (hq _ qw_330) (hq _ qw_264) (hq _ qw_125) hK hP hD hS hA rfl (dfl_ok rfl) (Nat.le_of_ble_eq_true rfl) (Nat.le_of_ble_eq_true rfl) dX6_init_26 (fun q_27 H hP hD hS => ?_)
  have hP : va_P (dC, dI) classes [(h0, .inr (6, [.ref q_1, .int 0, .int 0])), (q_1, .inl (k_2, 20, .inr (.inr (.inr (.inr f_26))))), (q_27, .inr (3, [.int 0, .int 0, .int 0, .int 0, .int 0, .long 0]))] H := hP
  have hD : va_D A [(h0, .inr (6, [.ref q_1, .int 0, .int 0])), (q_1, .inl (k_2, 20, .inr (.inr (.inr (.inr f_26))))), (q_27, .inr (3, [.int 0, .int 0, .int 0, .int 0, .int 0, .long 0]))] := hD
  refine W.widen (k := 10) (n := 74) (Nat.le_of_ble_eq_true rfl) (Nat.le_of_ble_eq_true rfl) ?_
  refine lv_dup hx hb dX6_init_29 rfl ?_
  have hPc := hP.sub (ws' := [(q_27, .inr (3, [.int 0, .int 0, .int 0, .int 0, .int 0, .long 0]))]) [2] rfl
  have hDc := hD.sub (ws' := [(q_27, .inr (3, [.int 0, .int 0, .int 0, .int 0, .int 0, .long 0]))]) [2] (by decide) rfl
  have hKc := hK.sub (tys' := []) [] rfl
  have hFc := va_free (wc := [(q_27, .inr (3, [.int 0, .int 0, .int 0, .int 0, .int 0, .long 0]))]) hD hS hA [2] rfl
  refine va_callv (va_runIN (As := []) (rest := [.ref q_27, .int 8, .ref q_1]) ⟨hx, hb, hml, hown, hq⟩ (c_Evening_init l dC dI _ q_27 ) ⟨va_cnB (host := "SpokenBite") 0 hq (gC qw_267) rfl rfl rfl (xE_n hE (k := 8) rfl) (hq _ qw_125) (by decide +kernel) ⟨Nat.le_of_ble_eq_true rfl, Nat.le_of_ble_eq_true rfl⟩, rfl, (hq _ qw_266)⟩ ⟨fun a U g mk q => by obtain ⟨q0, q1, qP, qK, qD, qE⟩ := q; exact ⟨q0, q1, qP, va_K.moved (u := U) (U := U.calling g mk a) (Vm.Alike.refl U.vm) qK, qD, xE.same rfl qE⟩, fun U hU hW => ⟨rfl, by rw [hU], by rw [hU]; exact hPc, va_K.moved hW.alike hKc, hDc.weaken (fun _ _ _ _ => trivial), xE.warm hW hE⟩⟩ rfl rfl hl.1 rfl (lv_room (Nat.le_of_ble_eq_true rfl)) dX6_init_30 ⟨Nat.le_of_ble_eq_true rfl, Nat.le_of_ble_eq_true rfl⟩) hS (fun q _ h => hFc q h) hFc (fun u t H1 locs ht hvm hw hB hz1 hk1 hS => ?_)
  obtain ⟨hP1, hK1, hD1⟩ := hB
  rw [ht] at hP1
  have hK1 := va_K.moved hvm.symm hK1
  obtain ⟨hP, hD⟩ := va_join (wr := [(h0, .inr (6, [.ref q_1, .int 0, .int 0])), (q_1, .inl (k_2, 20, .inr (.inr (.inr (.inr f_26)))))]) (w1 := [(q_27, .inr (3, [.int 0, .int (-1), .int 0, .int 0, .int 0, .long 0]))]) hP hD [2] [0, 1] rfl rfl (by decide) (by decide) hk1 hFc hP1 hD1
  generalize H1 = H at hP hS ⊢
  have hP : va_P (dC, dI) classes [(h0, .inr (6, [.ref q_1, .int 0, .int 0])), (q_1, .inl (k_2, 20, .inr (.inr (.inr (.inr f_26))))), (q_27, .inr (3, [.int 0, .int (-1), .int 0, .int 0, .int 0, .long 0]))] H := hP
  have hD : va_D A [(h0, .inr (6, [.ref q_1, .int 0, .int 0])), (q_1, .inl (k_2, 20, .inr (.inr (.inr (.inr f_26))))), (q_27, .inr (3, [.int 0, .int (-1), .int 0, .int 0, .int 0, .long 0]))] := hD
  refine va_astq hx hb hK hP hD hS 1 0 2 3 rfl rfl rfl rfl (inr_ok rfl) dX6_init_33 (fun H locs hP hD hS => ?_)
  generalize va_up f_26 (Int32.toNatClampNeg 8) (some q_27) = f_29 at hP hD
  have hP : va_P (dC, dI) classes [(h0, .inr (6, [.ref q_1, .int 0, .int 0])), (q_1, .inl (k_2, 20, .inr (.inr (.inr (.inr f_29))))), (q_27, .inr (3, [.int 0, .int (-1), .int 0, .int 0, .int 0, .long 0]))] H := hP
  have hD : va_D A [(h0, .inr (6, [.ref q_1, .int 0, .int 0])), (q_1, .inl (k_2, 20, .inr (.inr (.inr (.inr f_29))))), (q_27, .inr (3, [.int 0, .int (-1), .int 0, .int 0, .int 0, .long 0]))] := hD
  have hP := hP.sub (ws' := [(h0, .inr (6, [.ref q_1, .int 0, .int 0])), (q_1, .inl (k_2, 20, .inr (.inr (.inr (.inr f_29)))))]) [0, 1] rfl
  have hD := hD.sub (ws' := [(h0, .inr (6, [.ref q_1, .int 0, .int 0])), (q_1, .inl (k_2, 20, .inr (.inr (.inr (.inr f_29)))))]) [0, 1] (by decide) rfl
  refine lv_iinc (v := 9) (lv' := [(1, .int 9), (0, .ref h0)]) hx hb dX6_init_34 hl (k := 0) rfl (by decide) (by decide) rfl (fun ls hl => ?_)
  refine lv_goto (tgt := 15) hx hb dX6_init_37 (by decide) ?_
  refine lv_iload_n hx hb dX6_init_15 rfl (lv_at hl 0 rfl) ?_
  refine lv_bipush (v := 20) hx hb dX6_init_16 (by decide) ?_
  refine lv_icmp_ge (tgt := 40) hx hb dX6_init_18 (by decide) (fun c9 => absurd c9 (by decide)) (fun _ => ?_)
  refine lv_aload_n hx hb dX6_init_21 rfl (lv_at hl 1 rfl) ?_
  refine va_get (D := (dC, dI)) (ci := 6) (v := .ref q_1) (C := RX6) (T := TX6) (N := 3) hx hb hq inX6 hown hK hP 0 rfl rfl 0 (by decide) (hq _ qw_333) (fun _ h9 => h9) rfl dX6_init_22 ?_
  refine lv_iload_n hx hb dX6_init_25 rfl (lv_at hl 0 rfl) ?_
  refine va_new (ci := 3) (fs := [.int 0, .int 0, .int 0, .int 0, .int 0, .long 0]) (C := RX3) (T := TX3) (N := 6) hx hb hq inX3 tyX3 tyX3_ok hown (hq _ qw_330) (hq _ qw_264) (hq _ qw_125) hK hP hD hS hA rfl (dfl_ok rfl) (Nat.le_of_ble_eq_true rfl) (Nat.le_of_ble_eq_true rfl) dX6_init_26 (fun q_30 H hP hD hS => ?_)
  have hP : va_P (dC, dI) classes [(h0, .inr (6, [.ref q_1, .int 0, .int 0])), (q_1, .inl (k_2, 20, .inr (.inr (.inr (.inr f_29))))), (q_30, .inr (3, [.int 0, .int 0, .int 0, .int 0, .int 0, .long 0]))] H := hP
  have hD : va_D A [(h0, .inr (6, [.ref q_1, .int 0, .int 0])), (q_1, .inl (k_2, 20, .inr (.inr (.inr (.inr f_29))))), (q_30, .inr (3, [.int 0, .int 0, .int 0, .int 0, .int 0, .long 0]))] := hD
  refine W.widen (k := 11) (n := 80) (Nat.le_of_ble_eq_true rfl) (Nat.le_of_ble_eq_true rfl) ?_
  refine lv_dup hx hb dX6_init_29 rfl ?_
  have hPc := hP.sub (ws' := [(q_30, .inr (3, [.int 0, .int 0, .int 0, .int 0, .int 0, .long 0]))]) [2] rfl
  have hDc := hD.sub (ws' := [(q_30, .inr (3, [.int 0, .int 0, .int 0, .int 0, .int 0, .long 0]))]) [2] (by decide) rfl
  have hKc := hK.sub (tys' := []) [] rfl
  have hFc := va_free (wc := [(q_30, .inr (3, [.int 0, .int 0, .int 0, .int 0, .int 0, .long 0]))]) hD hS hA [2] rfl
  refine va_callv (va_runIN (As := []) (rest := [.ref q_30, .int 9, .ref q_1]) ⟨hx, hb, hml, hown, hq⟩ (c_Evening_init l dC dI _ q_30 ) ⟨va_cnB (host := "SpokenBite") 0 hq (gC qw_267) rfl rfl rfl (xE_n hE (k := 8) rfl) (hq _ qw_125) (by decide +kernel) ⟨Nat.le_of_ble_eq_true rfl, Nat.le_of_ble_eq_true rfl⟩, rfl, (hq _ qw_266)⟩ ⟨fun a U g mk q => by obtain ⟨q0, q1, qP, qK, qD, qE⟩ := q; exact ⟨q0, q1, qP, va_K.moved (u := U) (U := U.calling g mk a) (Vm.Alike.refl U.vm) qK, qD, xE.same rfl qE⟩, fun U hU hW => ⟨rfl, by rw [hU], by rw [hU]; exact hPc, va_K.moved hW.alike hKc, hDc.weaken (fun _ _ _ _ => trivial), xE.warm hW hE⟩⟩ rfl rfl hl.1 rfl (lv_room (Nat.le_of_ble_eq_true rfl)) dX6_init_30 ⟨Nat.le_of_ble_eq_true rfl, Nat.le_of_ble_eq_true rfl⟩) hS (fun q _ h => hFc q h) hFc (fun u t H1 locs ht hvm hw hB hz1 hk1 hS => ?_)
  obtain ⟨hP1, hK1, hD1⟩ := hB
  rw [ht] at hP1
  have hK1 := va_K.moved hvm.symm hK1
  obtain ⟨hP, hD⟩ := va_join (wr := [(h0, .inr (6, [.ref q_1, .int 0, .int 0])), (q_1, .inl (k_2, 20, .inr (.inr (.inr (.inr f_29)))))]) (w1 := [(q_30, .inr (3, [.int 0, .int (-1), .int 0, .int 0, .int 0, .long 0]))]) hP hD [2] [0, 1] rfl rfl (by decide) (by decide) hk1 hFc hP1 hD1
  generalize H1 = H at hP hS ⊢
  have hP : va_P (dC, dI) classes [(h0, .inr (6, [.ref q_1, .int 0, .int 0])), (q_1, .inl (k_2, 20, .inr (.inr (.inr (.inr f_29))))), (q_30, .inr (3, [.int 0, .int (-1), .int 0, .int 0, .int 0, .long 0]))] H := hP
  have hD : va_D A [(h0, .inr (6, [.ref q_1, .int 0, .int 0])), (q_1, .inl (k_2, 20, .inr (.inr (.inr (.inr f_29))))), (q_30, .inr (3, [.int 0, .int (-1), .int 0, .int 0, .int 0, .long 0]))] := hD
  refine va_astq hx hb hK hP hD hS 1 0 2 3 rfl rfl rfl rfl (inr_ok rfl) dX6_init_33 (fun H locs hP hD hS => ?_)
  generalize va_up f_29 (Int32.toNatClampNeg 9) (some q_30) = f_32 at hP hD
  have hP : va_P (dC, dI) classes [(h0, .inr (6, [.ref q_1, .int 0, .int 0])), (q_1, .inl (k_2, 20, .inr (.inr (.inr (.inr f_32))))), (q_30, .inr (3, [.int 0, .int (-1), .int 0, .int 0, .int 0, .long 0]))] H := hP
  have hD : va_D A [(h0, .inr (6, [.ref q_1, .int 0, .int 0])), (q_1, .inl (k_2, 20, .inr (.inr (.inr (.inr f_32))))), (q_30, .inr (3, [.int 0, .int (-1), .int 0, .int 0, .int 0, .long 0]))] := hD
  have hP := hP.sub (ws' := [(h0, .inr (6, [.ref q_1, .int 0, .int 0])), (q_1, .inl (k_2, 20, .inr (.inr (.inr (.inr f_32)))))]) [0, 1] rfl
  have hD := hD.sub (ws' := [(h0, .inr (6, [.ref q_1, .int 0, .int 0])), (q_1, .inl (k_2, 20, .inr (.inr (.inr (.inr f_32)))))]) [0, 1] (by decide) rfl
  refine lv_iinc (v := 10) (lv' := [(1, .int 10), (0, .ref h0)]) hx hb dX6_init_34 hl (k := 0) rfl (by decide) (by decide) rfl (fun ls hl => ?_)
  refine lv_goto (tgt := 15) hx hb dX6_init_37 (by decide) ?_
  refine lv_iload_n hx hb dX6_init_15 rfl (lv_at hl 0 rfl) ?_
  refine lv_bipush (v := 20) hx hb dX6_init_16 (by decide) ?_
  refine lv_icmp_ge (tgt := 40) hx hb dX6_init_18 (by decide) (fun c9 => absurd c9 (by decide)) (fun _ => ?_)
  refine lv_aload_n hx hb dX6_init_21 rfl (lv_at hl 1 rfl) ?_
  refine va_get (D := (dC, dI)) (ci := 6) (v := .ref q_1) (C := RX6) (T := TX6) (N := 3) hx hb hq inX6 hown hK hP 0 rfl rfl 0 (by decide) (hq _ qw_333) (fun _ h9 => h9) rfl dX6_init_22 ?_
  refine lv_iload_n hx hb dX6_init_25 rfl (lv_at hl 0 rfl) ?_
  refine va_new (ci := 3) (fs := [.int 0, .int 0, .int 0, .int 0, .int 0, .long 0]) (C := RX3) (T := TX3) (N := 6) hx hb hq inX3 tyX3 tyX3_ok hown (hq _ qw_330) (hq _ qw_264) (hq _ qw_125) hK hP hD hS hA rfl (dfl_ok rfl) (Nat.le_of_ble_eq_true rfl) (Nat.le_of_ble_eq_true rfl) dX6_init_26 (fun q_33 H hP hD hS => ?_)
  have hP : va_P (dC, dI) classes [(h0, .inr (6, [.ref q_1, .int 0, .int 0])), (q_1, .inl (k_2, 20, .inr (.inr (.inr (.inr f_32))))), (q_33, .inr (3, [.int 0, .int 0, .int 0, .int 0, .int 0, .long 0]))] H := hP
  have hD : va_D A [(h0, .inr (6, [.ref q_1, .int 0, .int 0])), (q_1, .inl (k_2, 20, .inr (.inr (.inr (.inr f_32))))), (q_33, .inr (3, [.int 0, .int 0, .int 0, .int 0, .int 0, .long 0]))] := hD
  refine W.widen (k := 12) (n := 86) (Nat.le_of_ble_eq_true rfl) (Nat.le_of_ble_eq_true rfl) ?_
  refine lv_dup hx hb dX6_init_29 rfl ?_
  have hPc := hP.sub (ws' := [(q_33, .inr (3, [.int 0, .int 0, .int 0, .int 0, .int 0, .long 0]))]) [2] rfl
  have hDc := hD.sub (ws' := [(q_33, .inr (3, [.int 0, .int 0, .int 0, .int 0, .int 0, .long 0]))]) [2] (by decide) rfl
  have hKc := hK.sub (tys' := []) [] rfl
  have hFc := va_free (wc := [(q_33, .inr (3, [.int 0, .int 0, .int 0, .int 0, .int 0, .long 0]))]) hD hS hA [2] rfl
  refine va_callv (va_runIN (As := []) (rest := [.ref q_33, .int 10, .ref q_1]) ⟨hx, hb, hml, hown, hq⟩ (c_Evening_init l dC dI _ q_33 ) ⟨va_cnB (host := "SpokenBite") 0 hq (gC qw_267) rfl rfl rfl (xE_n hE (k := 8) rfl) (hq _ qw_125) (by decide +kernel) ⟨Nat.le_of_ble_eq_true rfl, Nat.le_of_ble_eq_true rfl⟩, rfl, (hq _ qw_266)⟩ ⟨fun a U g mk q => by obtain ⟨q0, q1, qP, qK, qD, qE⟩ := q; exact ⟨q0, q1, qP, va_K.moved (u := U) (U := U.calling g mk a) (Vm.Alike.refl U.vm) qK, qD, xE.same rfl qE⟩, fun U hU hW => ⟨rfl, by rw [hU], by rw [hU]; exact hPc, va_K.moved hW.alike hKc, hDc.weaken (fun _ _ _ _ => trivial), xE.warm hW hE⟩⟩ rfl rfl hl.1 rfl (lv_room (Nat.le_of_ble_eq_true rfl)) dX6_init_30 ⟨Nat.le_of_ble_eq_true rfl, Nat.le_of_ble_eq_true rfl⟩) hS (fun q _ h => hFc q h) hFc (fun u t H1 locs ht hvm hw hB hz1 hk1 hS => ?_)
  obtain ⟨hP1, hK1, hD1⟩ := hB
  rw [ht] at hP1
  have hK1 := va_K.moved hvm.symm hK1
  obtain ⟨hP, hD⟩ := va_join (wr := [(h0, .inr (6, [.ref q_1, .int 0, .int 0])), (q_1, .inl (k_2, 20, .inr (.inr (.inr (.inr f_32)))))]) (w1 := [(q_33, .inr (3, [.int 0, .int (-1), .int 0, .int 0, .int 0, .long 0]))]) hP hD [2] [0, 1] rfl rfl (by decide) (by decide) hk1 hFc hP1 hD1
  generalize H1 = H at hP hS ⊢
  have hP : va_P (dC, dI) classes [(h0, .inr (6, [.ref q_1, .int 0, .int 0])), (q_1, .inl (k_2, 20, .inr (.inr (.inr (.inr f_32))))), (q_33, .inr (3, [.int 0, .int (-1), .int 0, .int 0, .int 0, .long 0]))] H := hP
  have hD : va_D A [(h0, .inr (6, [.ref q_1, .int 0, .int 0])), (q_1, .inl (k_2, 20, .inr (.inr (.inr (.inr f_32))))), (q_33, .inr (3, [.int 0, .int (-1), .int 0, .int 0, .int 0, .long 0]))] := hD
  refine va_astq hx hb hK hP hD hS 1 0 2 3 rfl rfl rfl rfl (inr_ok rfl) dX6_init_33 (fun H locs hP hD hS => ?_)
  generalize va_up f_32 (Int32.toNatClampNeg 10) (some q_33) = f_35 at hP hD
  have hP : va_P (dC, dI) classes [(h0, .inr (6, [.ref q_1, .int 0, .int 0])), (q_1, .inl (k_2, 20, .inr (.inr (.inr (.inr f_35))))), (q_33, .inr (3, [.int 0, .int (-1), .int 0, .int 0, .int 0, .long 0]))] H := hP
  have hD : va_D A [(h0, .inr (6, [.ref q_1, .int 0, .int 0])), (q_1, .inl (k_2, 20, .inr (.inr (.inr (.inr f_35))))), (q_33, .inr (3, [.int 0, .int (-1), .int 0, .int 0, .int 0, .long 0]))] := hD
  have hP := hP.sub (ws' := [(h0, .inr (6, [.ref q_1, .int 0, .int 0])), (q_1, .inl (k_2, 20, .inr (.inr (.inr (.inr f_35)))))]) [0, 1] rfl
  have hD := hD.sub (ws' := [(h0, .inr (6, [.ref q_1, .int 0, .int 0])), (q_1, .inl (k_2, 20, .inr (.inr (.inr (.inr f_35)))))]) [0, 1] (by decide) rfl
  refine lv_iinc (v := 11) (lv' := [(1, .int 11), (0, .ref h0)]) hx hb dX6_init_34 hl (k := 0) rfl (by decide) (by decide) rfl (fun ls hl => ?_)
  refine lv_goto (tgt := 15) hx hb dX6_init_37 (by decide) ?_
  refine lv_iload_n hx hb dX6_init_15 rfl (lv_at hl 0 rfl) ?_
  refine lv_bipush (v := 20) hx hb dX6_init_16 (by decide) ?_
  refine lv_icmp_ge (tgt := 40) hx hb dX6_init_18 (by decide) (fun c9 => absurd c9 (by decide)) (fun _ => ?_)
  refine lv_aload_n hx hb dX6_init_21 rfl (lv_at hl 1 rfl) ?_
  refine va_get (D := (dC, dI)) (ci := 6) (v := .ref q_1) (C := RX6) (T := TX6) (N := 3) hx hb hq inX6 hown hK hP 0 rfl rfl 0 (by decide) (hq _ qw_333) (fun _ h9 => h9) rfl dX6_init_22 ?_
  refine lv_iload_n hx hb dX6_init_25 rfl (lv_at hl 0 rfl) ?_
  refine va_new (ci := 3) (fs := [.int 0, .int 0, .int 0, .int 0, .int 0, .long 0]) (C := RX3) (T := TX3) (N := 6) hx hb hq inX3 tyX3 tyX3_ok hown (hq _ qw_330) (hq _ qw_264) (hq _ qw_125) hK hP hD hS hA rfl (dfl_ok rfl) (Nat.le_of_ble_eq_true rfl) (Nat.le_of_ble_eq_true rfl) dX6_init_26 (fun q_36 H hP hD hS => ?_)
  have hP : va_P (dC, dI) classes [(h0, .inr (6, [.ref q_1, .int 0, .int 0])), (q_1, .inl (k_2, 20, .inr (.inr (.inr (.inr f_35))))), (q_36, .inr (3, [.int 0, .int 0, .int 0, .int 0, .int 0, .long 0]))] H := hP
  have hD : va_D A [(h0, .inr (6, [.ref q_1, .int 0, .int 0])), (q_1, .inl (k_2, 20, .inr (.inr (.inr (.inr f_35))))), (q_36, .inr (3, [.int 0, .int 0, .int 0, .int 0, .int 0, .long 0]))] := hD
  refine W.widen (k := 13) (n := 92) (Nat.le_of_ble_eq_true rfl) (Nat.le_of_ble_eq_true rfl) ?_
  refine lv_dup hx hb dX6_init_29 rfl ?_
  have hPc := hP.sub (ws' := [(q_36, .inr (3, [.int 0, .int 0, .int 0, .int 0, .int 0, .long 0]))]) [2] rfl
  have hDc := hD.sub (ws' := [(q_36, .inr (3, [.int 0, .int 0, .int 0, .int 0, .int 0, .long 0]))]) [2] (by decide) rfl
  have hKc := hK.sub (tys' := []) [] rfl
  have hFc := va_free (wc := [(q_36, .inr (3, [.int 0, .int 0, .int 0, .int 0, .int 0, .long 0]))]) hD hS hA [2] rfl
  refine va_callv (va_runIN (As := []) (rest := [.ref q_36, .int 11, .ref q_1]) ⟨hx, hb, hml, hown, hq⟩ (c_Evening_init l dC dI _ q_36 ) ⟨va_cnB (host := "SpokenBite") 0 hq (gC qw_267) rfl rfl rfl (xE_n hE (k := 8) rfl) (hq _ qw_125) (by decide +kernel) ⟨Nat.le_of_ble_eq_true rfl, Nat.le_of_ble_eq_true rfl⟩, rfl, (hq _ qw_266)⟩ ⟨fun a U g mk q => by obtain ⟨q0, q1, qP, qK, qD, qE⟩ := q; exact ⟨q0, q1, qP, va_K.moved (u := U) (U := U.calling g mk a) (Vm.Alike.refl U.vm) qK, qD, xE.same rfl qE⟩, fun U hU hW => ⟨rfl, by rw [hU], by rw [hU]; exact hPc, va_K.moved hW.alike hKc, hDc.weaken (fun _ _ _ _ => trivial), xE.warm hW hE⟩⟩ rfl rfl hl.1 rfl (lv_room (Nat.le_of_ble_eq_true rfl)) dX6_init_30 ⟨Nat.le_of_ble_eq_true rfl, Nat.le_of_ble_eq_true rfl⟩) hS (fun q _ h => hFc q h) hFc (fun u t H1 locs ht hvm hw hB hz1 hk1 hS => ?_)
  obtain ⟨hP1, hK1, hD1⟩ := hB
  rw [ht] at hP1
  have hK1 := va_K.moved hvm.symm hK1
  obtain ⟨hP, hD⟩ := va_join (wr := [(h0, .inr (6, [.ref q_1, .int 0, .int 0])), (q_1, .inl (k_2, 20, .inr (.inr (.inr (.inr f_35)))))]) (w1 := [(q_36, .inr (3, [.int 0, .int (-1), .int 0, .int 0, .int 0, .long 0]))]) hP hD [2] [0, 1] rfl rfl (by decide) (by decide) hk1 hFc hP1 hD1
  generalize H1 = H at hP hS ⊢
  have hP : va_P (dC, dI) classes [(h0, .inr (6, [.ref q_1, .int 0, .int 0])), (q_1, .inl (k_2, 20, .inr (.inr (.inr (.inr f_35))))), (q_36, .inr (3, [.int 0, .int (-1), .int 0, .int 0, .int 0, .long 0]))] H := hP
  have hD : va_D A [(h0, .inr (6, [.ref q_1, .int 0, .int 0])), (q_1, .inl (k_2, 20, .inr (.inr (.inr (.inr f_35))))), (q_36, .inr (3, [.int 0, .int (-1), .int 0, .int 0, .int 0, .long 0]))] := hD
  refine va_astq hx hb hK hP hD hS 1 0 2 3 rfl rfl rfl rfl (inr_ok rfl) dX6_init_33 (fun H locs hP hD hS => ?_)
  generalize va_up f_35 (Int32.toNatClampNeg 11) (some q_36) = f_38 at hP hD
  have hP : va_P (dC, dI) classes [(h0, .inr (6, [.ref q_1, .int 0, .int 0])), (q_1, .inl (k_2, 20, .inr (.inr (.inr (.inr f_38))))), (q_36, .inr (3, [.int 0, .int (-1), .int 0, .int 0, .int 0, .long 0]))] H := hP
  have hD : va_D A [(h0, .inr (6, [.ref q_1, .int 0, .int 0])), (q_1, .inl (k_2, 20, .inr (.inr (.inr (.inr f_38))))), (q_36, .inr (3, [.int 0, .int (-1), .int 0, .int 0, .int 0, .long 0]))] := hD
  have hP := hP.sub (ws' := [(h0, .inr (6, [.ref q_1, .int 0, .int 0])), (q_1, .inl (k_2, 20, .inr (.inr (.inr (.inr f_38)))))]) [0, 1] rfl
  have hD := hD.sub (ws' := [(h0, .inr (6, [.ref q_1, .int 0, .int 0])), (q_1, .inl (k_2, 20, .inr (.inr (.inr (.inr f_38)))))]) [0, 1] (by decide) rfl
  refine lv_iinc (v := 12) (lv' := [(1, .int 12), (0, .ref h0)]) hx hb dX6_init_34 hl (k := 0) rfl (by decide) (by decide) rfl (fun ls hl => ?_)
  refine lv_goto (tgt := 15) hx hb dX6_init_37 (by decide) ?_
  refine lv_iload_n hx hb dX6_init_15 rfl (lv_at hl 0 rfl) ?_
  refine lv_bipush (v := 20) hx hb dX6_init_16 (by decide) ?_
  refine lv_icmp_ge (tgt := 40) hx hb dX6_init_18 (by decide) (fun c9 => absurd c9 (by decide)) (fun _ => ?_)
  refine lv_aload_n hx hb dX6_init_21 rfl (lv_at hl 1 rfl) ?_
  refine va_get (D := (dC, dI)) (ci := 6) (v := .ref q_1) (C := RX6) (T := TX6) (N := 3) hx hb hq inX6 hown hK hP 0 rfl rfl 0 (by decide) (hq _ qw_333) (fun _ h9 => h9) rfl dX6_init_22 ?_
  refine lv_iload_n hx hb dX6_init_25 rfl (lv_at hl 0 rfl) ?_
  refine va_new (ci := 3) (fs := [.int 0, .int 0, .int 0, .int 0, .int 0, .long 0]) (C := RX3) (T := TX3) (N := 6) hx hb hq inX3 tyX3 tyX3_ok hown (hq _ qw_330) (hq _ qw_264) (hq _ qw_125) hK hP hD hS hA rfl (dfl_ok rfl) (Nat.le_of_ble_eq_true rfl) (Nat.le_of_ble_eq_true rfl) dX6_init_26 (fun q_39 H hP hD hS => ?_)
  have hP : va_P (dC, dI) classes [(h0, .inr (6, [.ref q_1, .int 0, .int 0])), (q_1, .inl (k_2, 20, .inr (.inr (.inr (.inr f_38))))), (q_39, .inr (3, [.int 0, .int 0, .int 0, .int 0, .int 0, .long 0]))] H := hP
  have hD : va_D A [(h0, .inr (6, [.ref q_1, .int 0, .int 0])), (q_1, .inl (k_2, 20, .inr (.inr (.inr (.inr f_38))))), (q_39, .inr (3, [.int 0, .int 0, .int 0, .int 0, .int 0, .long 0]))] := hD
  refine W.widen (k := 14) (n := 98) (Nat.le_of_ble_eq_true rfl) (Nat.le_of_ble_eq_true rfl) ?_
  refine lv_dup hx hb dX6_init_29 rfl ?_
  have hPc := hP.sub (ws' := [(q_39, .inr (3, [.int 0, .int 0, .int 0, .int 0, .int 0, .long 0]))]) [2] rfl
  have hDc := hD.sub (ws' := [(q_39, .inr (3, [.int 0, .int 0, .int 0, .int 0, .int 0, .long 0]))]) [2] (by decide) rfl
  have hKc := hK.sub (tys' := []) [] rfl
  have hFc := va_free (wc := [(q_39, .inr (3, [.int 0, .int 0, .int 0, .int 0, .int 0, .long 0]))]) hD hS hA [2] rfl
  refine va_callv (va_runIN (As := []) (rest := [.ref q_39, .int 12, .ref q_1]) ⟨hx, hb, hml, hown, hq⟩ (c_Evening_init l dC dI _ q_39 ) ⟨va_cnB (host := "SpokenBite") 0 hq (gC qw_267) rfl rfl rfl (xE_n hE (k := 8) rfl) (hq _ qw_125) (by decide +kernel) ⟨Nat.le_of_ble_eq_true rfl, Nat.le_of_ble_eq_true rfl⟩, rfl, (hq _ qw_266)⟩ ⟨fun a U g mk q => by obtain ⟨q0, q1, qP, qK, qD, qE⟩ := q; exact ⟨q0, q1, qP, va_K.moved (u := U) (U := U.calling g mk a) (Vm.Alike.refl U.vm) qK, qD, xE.same rfl qE⟩, fun U hU hW => ⟨rfl, by rw [hU], by rw [hU]; exact hPc, va_K.moved hW.alike hKc, hDc.weaken (fun _ _ _ _ => trivial), xE.warm hW hE⟩⟩ rfl rfl hl.1 rfl (lv_room (Nat.le_of_ble_eq_true rfl)) dX6_init_30 ⟨Nat.le_of_ble_eq_true rfl, Nat.le_of_ble_eq_true rfl⟩) hS (fun q _ h => hFc q h) hFc (fun u t H1 locs ht hvm hw hB hz1 hk1 hS => ?_)
  obtain ⟨hP1, hK1, hD1⟩ := hB
  rw [ht] at hP1
  have hK1 := va_K.moved hvm.symm hK1
  obtain ⟨hP, hD⟩ := va_join (wr := [(h0, .inr (6, [.ref q_1, .int 0, .int 0])), (q_1, .inl (k_2, 20, .inr (.inr (.inr (.inr f_38)))))]) (w1 := [(q_39, .inr (3, [.int 0, .int (-1), .int 0, .int 0, .int 0, .long 0]))]) hP hD [2] [0, 1] rfl rfl (by decide) (by decide) hk1 hFc hP1 hD1
  generalize H1 = H at hP hS ⊢
  have hP : va_P (dC, dI) classes [(h0, .inr (6, [.ref q_1, .int 0, .int 0])), (q_1, .inl (k_2, 20, .inr (.inr (.inr (.inr f_38))))), (q_39, .inr (3, [.int 0, .int (-1), .int 0, .int 0, .int 0, .long 0]))] H := hP
  have hD : va_D A [(h0, .inr (6, [.ref q_1, .int 0, .int 0])), (q_1, .inl (k_2, 20, .inr (.inr (.inr (.inr f_38))))), (q_39, .inr (3, [.int 0, .int (-1), .int 0, .int 0, .int 0, .long 0]))] := hD
  refine va_astq hx hb hK hP hD hS 1 0 2 3 rfl rfl rfl rfl (inr_ok rfl) dX6_init_33 (fun H locs hP hD hS => ?_)
  generalize va_up f_38 (Int32.toNatClampNeg 12) (some q_39) = f_41 at hP hD
  have hP : va_P (dC, dI) classes [(h0, .inr (6, [.ref q_1, .int 0, .int 0])), (q_1, .inl (k_2, 20, .inr (.inr (.inr (.inr f_41))))), (q_39, .inr (3, [.int 0, .int (-1), .int 0, .int 0, .int 0, .long 0]))] H := hP
  have hD : va_D A [(h0, .inr (6, [.ref q_1, .int 0, .int 0])), (q_1, .inl (k_2, 20, .inr (.inr (.inr (.inr f_41))))), (q_39, .inr (3, [.int 0, .int (-1), .int 0, .int 0, .int 0, .long 0]))] := hD
  have hP := hP.sub (ws' := [(h0, .inr (6, [.ref q_1, .int 0, .int 0])), (q_1, .inl (k_2, 20, .inr (.inr (.inr (.inr f_41)))))]) [0, 1] rfl
  have hD := hD.sub (ws' := [(h0, .inr (6, [.ref q_1, .int 0, .int 0])), (q_1, .inl (k_2, 20, .inr (.inr (.inr (.inr f_41)))))]) [0, 1] (by decide) rfl
  refine lv_iinc (v := 13) (lv' := [(1, .int 13), (0, .ref h0)]) hx hb dX6_init_34 hl (k := 0) rfl (by decide) (by decide) rfl (fun ls hl => ?_)
  refine lv_goto (tgt := 15) hx hb dX6_init_37 (by decide) ?_
  refine lv_iload_n hx hb dX6_init_15 rfl (lv_at hl 0 rfl) ?_
  refine lv_bipush (v := 20) hx hb dX6_init_16 (by decide) ?_
  refine lv_icmp_ge (tgt := 40) hx hb dX6_init_18 (by decide) (fun c9 => absurd c9 (by decide)) (fun _ => ?_)
  refine lv_aload_n hx hb dX6_init_21 rfl (lv_at hl 1 rfl) ?_
  refine va_get (D := (dC, dI)) (ci := 6) (v := .ref q_1) (C := RX6) (T := TX6) (N := 3) hx hb hq inX6 hown hK hP 0 rfl rfl 0 (by decide) (hq _ qw_333) (fun _ h9 => h9) rfl dX6_init_22 ?_
  refine lv_iload_n hx hb dX6_init_25 rfl (lv_at hl 0 rfl) ?_
  refine va_new (ci := 3) (fs := [.int 0, .int 0, .int 0, .int 0, .int 0, .long 0]) (C := RX3) (T := TX3) (N := 6) hx hb hq inX3 tyX3 tyX3_ok hown (hq _ qw_330) (hq _ qw_264) (hq _ qw_125) hK hP hD hS hA rfl (dfl_ok rfl) (Nat.le_of_ble_eq_true rfl) (Nat.le_of_ble_eq_true rfl) dX6_init_26 (fun q_42 H hP hD hS => ?_)
  have hP : va_P (dC, dI) classes [(h0, .inr (6, [.ref q_1, .int 0, .int 0])), (q_1, .inl (k_2, 20, .inr (.inr (.inr (.inr f_41))))), (q_42, .inr (3, [.int 0, .int 0, .int 0, .int 0, .int 0, .long 0]))] H := hP
  have hD : va_D A [(h0, .inr (6, [.ref q_1, .int 0, .int 0])), (q_1, .inl (k_2, 20, .inr (.inr (.inr (.inr f_41))))), (q_42, .inr (3, [.int 0, .int 0, .int 0, .int 0, .int 0, .long 0]))] := hD
  refine W.widen (k := 15) (n := 104) (Nat.le_of_ble_eq_true rfl) (Nat.le_of_ble_eq_true rfl) ?_
  refine lv_dup hx hb dX6_init_29 rfl ?_
  have hPc := hP.sub (ws' := [(q_42, .inr (3, [.int 0, .int 0, .int 0, .int 0, .int 0, .long 0]))]) [2] rfl
  have hDc := hD.sub (ws' := [(q_42, .inr (3, [.int 0, .int 0, .int 0, .int 0, .int 0, .long 0]))]) [2] (by decide) rfl
  have hKc := hK.sub (tys' := []) [] rfl
  have hFc := va_free (wc := [(q_42, .inr (3, [.int 0, .int 0, .int 0, .int 0, .int 0, .long 0]))]) hD hS hA [2] rfl
  refine va_callv (va_runIN (As := []) (rest := [.ref q_42, .int 13, .ref q_1]) ⟨hx, hb, hml, hown, hq⟩ (c_Evening_init l dC dI _ q_42 ) ⟨va_cnB (host := "SpokenBite") 0 hq (gC qw_267) rfl rfl rfl (xE_n hE (k := 8) rfl) (hq _ qw_125) (by decide +kernel) ⟨Nat.le_of_ble_eq_true rfl, Nat.le_of_ble_eq_true rfl⟩, rfl, (hq _ qw_266)⟩ ⟨fun a U g mk q => by obtain ⟨q0, q1, qP, qK, qD, qE⟩ := q; exact ⟨q0, q1, qP, va_K.moved (u := U) (U := U.calling g mk a) (Vm.Alike.refl U.vm) qK, qD, xE.same rfl qE⟩, fun U hU hW => ⟨rfl, by rw [hU], by rw [hU]; exact hPc, va_K.moved hW.alike hKc, hDc.weaken (fun _ _ _ _ => trivial), xE.warm hW hE⟩⟩ rfl rfl hl.1 rfl (lv_room (Nat.le_of_ble_eq_true rfl)) dX6_init_30 ⟨Nat.le_of_ble_eq_true rfl, Nat.le_of_ble_eq_true rfl⟩) hS (fun q _ h => hFc q h) hFc (fun u t H1 locs ht hvm hw hB hz1 hk1 hS => ?_)
  obtain ⟨hP1, hK1, hD1⟩ := hB
  rw [ht] at hP1
  have hK1 := va_K.moved hvm.symm hK1
  obtain ⟨hP, hD⟩ := va_join (wr := [(h0, .inr (6, [.ref q_1, .int 0, .int 0])), (q_1, .inl (k_2, 20, .inr (.inr (.inr (.inr f_41)))))]) (w1 := [(q_42, .inr (3, [.int 0, .int (-1), .int 0, .int 0, .int 0, .long 0]))]) hP hD [2] [0, 1] rfl rfl (by decide) (by decide) hk1 hFc hP1 hD1
  generalize H1 = H at hP hS ⊢
  have hP : va_P (dC, dI) classes [(h0, .inr (6, [.ref q_1, .int 0, .int 0])), (q_1, .inl (k_2, 20, .inr (.inr (.inr (.inr f_41))))), (q_42, .inr (3, [.int 0, .int (-1), .int 0, .int 0, .int 0, .long 0]))] H := hP
  have hD : va_D A [(h0, .inr (6, [.ref q_1, .int 0, .int 0])), (q_1, .inl (k_2, 20, .inr (.inr (.inr (.inr f_41))))), (q_42, .inr (3, [.int 0, .int (-1), .int 0, .int 0, .int 0, .long 0]))] := hD
  refine va_astq hx hb hK hP hD hS 1 0 2 3 rfl rfl rfl rfl (inr_ok rfl) dX6_init_33 (fun H locs hP hD hS => ?_)
  generalize va_up f_41 (Int32.toNatClampNeg 13) (some q_42) = f_44 at hP hD
  have hP : va_P (dC, dI) classes [(h0, .inr (6, [.ref q_1, .int 0, .int 0])), (q_1, .inl (k_2, 20, .inr (.inr (.inr (.inr f_44))))), (q_42, .inr (3, [.int 0, .int (-1), .int 0, .int 0, .int 0, .long 0]))] H := hP
  have hD : va_D A [(h0, .inr (6, [.ref q_1, .int 0, .int 0])), (q_1, .inl (k_2, 20, .inr (.inr (.inr (.inr f_44))))), (q_42, .inr (3, [.int 0, .int (-1), .int 0, .int 0, .int 0, .long 0]))] := hD
  have hP := hP.sub (ws' := [(h0, .inr (6, [.ref q_1, .int 0, .int 0])), (q_1, .inl (k_2, 20, .inr (.inr (.inr (.inr f_44)))))]) [0, 1] rfl
  have hD := hD.sub (ws' := [(h0, .inr (6, [.ref q_1, .int 0, .int 0])), (q_1, .inl (k_2, 20, .inr (.inr (.inr (.inr f_44)))))]) [0, 1] (by decide) rfl
  refine lv_iinc (v := 14) (lv' := [(1, .int 14), (0, .ref h0)]) hx hb dX6_init_34 hl (k := 0) rfl (by decide) (by decide) rfl (fun ls hl => ?_)
  refine lv_goto (tgt := 15) hx hb dX6_init_37 (by decide) ?_
  refine lv_iload_n hx hb dX6_init_15 rfl (lv_at hl 0 rfl) ?_
  refine lv_bipush (v := 20) hx hb dX6_init_16 (by decide) ?_
  refine lv_icmp_ge (tgt := 40) hx hb dX6_init_18 (by decide) (fun c9 => absurd c9 (by decide)) (fun _ => ?_)
  refine lv_aload_n hx hb dX6_init_21 rfl (lv_at hl 1 rfl) ?_
  refine va_get (D := (dC, dI)) (ci := 6) (v := .ref q_1) (C := RX6) (T := TX6) (N := 3) hx hb hq inX6 hown hK hP 0 rfl rfl 0 (by decide) (hq _ qw_333) (fun _ h9 => h9) rfl dX6_init_22 ?_
  refine lv_iload_n hx hb dX6_init_25 rfl (lv_at hl 0 rfl) ?_
  refine va_new (ci := 3) (fs := [.int 0, .int 0, .int 0, .int 0, .int 0, .long 0]) (C := RX3) (T := TX3) (N := 6) hx hb hq inX3 tyX3 tyX3_ok hown (hq _ qw_330) (hq _ qw_264) (hq _ qw_125) hK hP hD hS hA rfl (dfl_ok rfl) (Nat.le_of_ble_eq_true rfl) (Nat.le_of_ble_eq_true rfl) dX6_init_26 (fun q_45 H hP hD hS => ?_)
  have hP : va_P (dC, dI) classes [(h0, .inr (6, [.ref q_1, .int 0, .int 0])), (q_1, .inl (k_2, 20, .inr (.inr (.inr (.inr f_44))))), (q_45, .inr (3, [.int 0, .int 0, .int 0, .int 0, .int 0, .long 0]))] H := hP
  have hD : va_D A [(h0, .inr (6, [.ref q_1, .int 0, .int 0])), (q_1, .inl (k_2, 20, .inr (.inr (.inr (.inr f_44))))), (q_45, .inr (3, [.int 0, .int 0, .int 0, .int 0, .int 0, .long 0]))] := hD
  refine W.widen (k := 16) (n := 110) (Nat.le_of_ble_eq_true rfl) (Nat.le_of_ble_eq_true rfl) ?_
  refine lv_dup hx hb dX6_init_29 rfl ?_
  have hPc := hP.sub (ws' := [(q_45, .inr (3, [.int 0, .int 0, .int 0, .int 0, .int 0, .long 0]))]) [2] rfl
  have hDc := hD.sub (ws' := [(q_45, .inr (3, [.int 0, .int 0, .int 0, .int 0, .int 0, .long 0]))]) [2] (by decide) rfl
  have hKc := hK.sub (tys' := []) [] rfl
  have hFc := va_free (wc := [(q_45, .inr (3, [.int 0, .int 0, .int 0, .int 0, .int 0, .long 0]))]) hD hS hA [2] rfl
  refine va_callv (va_runIN (As := []) (rest := [.ref q_45, .int 14, .ref q_1]) ⟨hx, hb, hml, hown, hq⟩ (c_Evening_init l dC dI _ q_45 ) ⟨va_cnB (host := "SpokenBite") 0 hq (gC qw_267) rfl rfl rfl (xE_n hE (k := 8) rfl) (hq _ qw_125) (by decide +kernel) ⟨Nat.le_of_ble_eq_true rfl, Nat.le_of_ble_eq_true rfl⟩, rfl, (hq _ qw_266)⟩ ⟨fun a U g mk q => by obtain ⟨q0, q1, qP, qK, qD, qE⟩ := q; exact ⟨q0, q1, qP, va_K.moved (u := U) (U := U.calling g mk a) (Vm.Alike.refl U.vm) qK, qD, xE.same rfl qE⟩, fun U hU hW => ⟨rfl, by rw [hU], by rw [hU]; exact hPc, va_K.moved hW.alike hKc, hDc.weaken (fun _ _ _ _ => trivial), xE.warm hW hE⟩⟩ rfl rfl hl.1 rfl (lv_room (Nat.le_of_ble_eq_true rfl)) dX6_init_30 ⟨Nat.le_of_ble_eq_true rfl, Nat.le_of_ble_eq_true rfl⟩) hS (fun q _ h => hFc q h) hFc (fun u t H1 locs ht hvm hw hB hz1 hk1 hS => ?_)
  obtain ⟨hP1, hK1, hD1⟩ := hB
  rw [ht] at hP1
  have hK1 := va_K.moved hvm.symm hK1
  obtain ⟨hP, hD⟩ := va_join (wr := [(h0, .inr (6, [.ref q_1, .int 0, .int 0])), (q_1, .inl (k_2, 20, .inr (.inr (.inr (.inr f_44)))))]) (w1 := [(q_45, .inr (3, [.int 0, .int (-1), .int 0, .int 0, .int 0, .long 0]))]) hP hD [2] [0, 1] rfl rfl (by decide) (by decide) hk1 hFc hP1 hD1
  generalize H1 = H at hP hS ⊢
  have hP : va_P (dC, dI) classes [(h0, .inr (6, [.ref q_1, .int 0, .int 0])), (q_1, .inl (k_2, 20, .inr (.inr (.inr (.inr f_44))))), (q_45, .inr (3, [.int 0, .int (-1), .int 0, .int 0, .int 0, .long 0]))] H := hP
  have hD : va_D A [(h0, .inr (6, [.ref q_1, .int 0, .int 0])), (q_1, .inl (k_2, 20, .inr (.inr (.inr (.inr f_44))))), (q_45, .inr (3, [.int 0, .int (-1), .int 0, .int 0, .int 0, .long 0]))] := hD
  refine va_astq hx hb hK hP hD hS 1 0 2 3 rfl rfl rfl rfl (inr_ok rfl) dX6_init_33 (fun H locs hP hD hS => ?_)
  generalize va_up f_44 (Int32.toNatClampNeg 14) (some q_45) = f_47 at hP hD
  have hP : va_P (dC, dI) classes [(h0, .inr (6, [.ref q_1, .int 0, .int 0])), (q_1, .inl (k_2, 20, .inr (.inr (.inr (.inr f_47))))), (q_45, .inr (3, [.int 0, .int (-1), .int 0, .int 0, .int 0, .long 0]))] H := hP
  have hD : va_D A [(h0, .inr (6, [.ref q_1, .int 0, .int 0])), (q_1, .inl (k_2, 20, .inr (.inr (.inr (.inr f_47))))), (q_45, .inr (3, [.int 0, .int (-1), .int 0, .int 0, .int 0, .long 0]))] := hD
  have hP := hP.sub (ws' := [(h0, .inr (6, [.ref q_1, .int 0, .int 0])), (q_1, .inl (k_2, 20, .inr (.inr (.inr (.inr f_47)))))]) [0, 1] rfl
  have hD := hD.sub (ws' := [(h0, .inr (6, [.ref q_1, .int 0, .int 0])), (q_1, .inl (k_2, 20, .inr (.inr (.inr (.inr f_47)))))]) [0, 1] (by decide) rfl
  refine lv_iinc (v := 15) (lv' := [(1, .int 15), (0, .ref h0)]) hx hb dX6_init_34 hl (k := 0) rfl (by decide) (by decide) rfl (fun ls hl => ?_)
  refine lv_goto (tgt := 15) hx hb dX6_init_37 (by decide) ?_
  refine lv_iload_n hx hb dX6_init_15 rfl (lv_at hl 0 rfl) ?_
  refine lv_bipush (v := 20) hx hb dX6_init_16 (by decide) ?_
  refine lv_icmp_ge (tgt := 40) hx hb dX6_init_18 (by decide) (fun c9 => absurd c9 (by decide)) (fun _ => ?_)
  refine lv_aload_n hx hb dX6_init_21 rfl (lv_at hl 1 rfl) ?_
  refine va_get (D := (dC, dI)) (ci := 6) (v := .ref q_1) (C := RX6) (T := TX6) (N := 3) hx hb hq inX6 hown hK hP 0 rfl rfl 0 (by decide) (hq _ qw_333) (fun _ h9 => h9) rfl dX6_init_22 ?_
  refine lv_iload_n hx hb dX6_init_25 rfl (lv_at hl 0 rfl) ?_
  refine va_new (ci := 3) (fs := [.int 0, .int 0, .int 0, .int 0, .int 0, .long 0]) (C := RX3) (T := TX3) (N := 6) hx hb hq inX3 tyX3 tyX3_ok hown (hq _ qw_330) (hq _ qw_264) (hq _ qw_125) hK hP hD hS hA rfl (dfl_ok rfl) (Nat.le_of_ble_eq_true rfl) (Nat.le_of_ble_eq_true rfl) dX6_init_26 (fun q_48 H hP hD hS => ?_)
  have hP : va_P (dC, dI) classes [(h0, .inr (6, [.ref q_1, .int 0, .int 0])), (q_1, .inl (k_2, 20, .inr (.inr (.inr (.inr f_47))))), (q_48, .inr (3, [.int 0, .int 0, .int 0, .int 0, .int 0, .long 0]))] H := hP
  have hD : va_D A [(h0, .inr (6, [.ref q_1, .int 0, .int 0])), (q_1, .inl (k_2, 20, .inr (.inr (.inr (.inr f_47))))), (q_48, .inr (3, [.int 0, .int 0, .int 0, .int 0, .int 0, .long 0]))] := hD
  refine W.widen (k := 17) (n := 116) (Nat.le_of_ble_eq_true rfl) (Nat.le_of_ble_eq_true rfl) ?_
  refine lv_dup hx hb dX6_init_29 rfl ?_
  have hPc := hP.sub (ws' := [(q_48, .inr (3, [.int 0, .int 0, .int 0, .int 0, .int 0, .long 0]))]) [2] rfl
  have hDc := hD.sub (ws' := [(q_48, .inr (3, [.int 0, .int 0, .int 0, .int 0, .int 0, .long 0]))]) [2] (by decide) rfl
  have hKc := hK.sub (tys' := []) [] rfl
  have hFc := va_free (wc := [(q_48, .inr (3, [.int 0, .int 0, .int 0, .int 0, .int 0, .long 0]))]) hD hS hA [2] rfl
  refine va_callv (va_runIN (As := []) (rest := [.ref q_48, .int 15, .ref q_1]) ⟨hx, hb, hml, hown, hq⟩ (c_Evening_init l dC dI _ q_48 ) ⟨va_cnB (host := "SpokenBite") 0 hq (gC qw_267) rfl rfl rfl (xE_n hE (k := 8) rfl) (hq _ qw_125) (by decide +kernel) ⟨Nat.le_of_ble_eq_true rfl, Nat.le_of_ble_eq_true rfl⟩, rfl, (hq _ qw_266)⟩ ⟨fun a U g mk q => by obtain ⟨q0, q1, qP, qK, qD, qE⟩ := q; exact ⟨q0, q1, qP, va_K.moved (u := U) (U := U.calling g mk a) (Vm.Alike.refl U.vm) qK, qD, xE.same rfl qE⟩, fun U hU hW => ⟨rfl, by rw [hU], by rw [hU]; exact hPc, va_K.moved hW.alike hKc, hDc.weaken (fun _ _ _ _ => trivial), xE.warm hW hE⟩⟩ rfl rfl hl.1 rfl (lv_room (Nat.le_of_ble_eq_true rfl)) dX6_init_30 ⟨Nat.le_of_ble_eq_true rfl, Nat.le_of_ble_eq_true rfl⟩) hS (fun q _ h => hFc q h) hFc (fun u t H1 locs ht hvm hw hB hz1 hk1 hS => ?_)
  obtain ⟨hP1, hK1, hD1⟩ := hB
  rw [ht] at hP1
  have hK1 := va_K.moved hvm.symm hK1
  obtain ⟨hP, hD⟩ := va_join (wr := [(h0, .inr (6, [.ref q_1, .int 0, .int 0])), (q_1, .inl (k_2, 20, .inr (.inr (.inr (.inr f_47)))))]) (w1 := [(q_48, .inr (3, [.int 0, .int (-1), .int 0, .int 0, .int 0, .long 0]))]) hP hD [2] [0, 1] rfl rfl (by decide) (by decide) hk1 hFc hP1 hD1
  generalize H1 = H at hP hS ⊢
  have hP : va_P (dC, dI) classes [(h0, .inr (6, [.ref q_1, .int 0, .int 0])), (q_1, .inl (k_2, 20, .inr (.inr (.inr (.inr f_47))))), (q_48, .inr (3, [.int 0, .int (-1), .int 0, .int 0, .int 0, .long 0]))] H := hP
  have hD : va_D A [(h0, .inr (6, [.ref q_1, .int 0, .int 0])), (q_1, .inl (k_2, 20, .inr (.inr (.inr (.inr f_47))))), (q_48, .inr (3, [.int 0, .int (-1), .int 0, .int 0, .int 0, .long 0]))] := hD
  refine va_astq hx hb hK hP hD hS 1 0 2 3 rfl rfl rfl rfl (inr_ok rfl) dX6_init_33 (fun H locs hP hD hS => ?_)
  generalize va_up f_47 (Int32.toNatClampNeg 15) (some q_48) = f_50 at hP hD
  have hP : va_P (dC, dI) classes [(h0, .inr (6, [.ref q_1, .int 0, .int 0])), (q_1, .inl (k_2, 20, .inr (.inr (.inr (.inr f_50))))), (q_48, .inr (3, [.int 0, .int (-1), .int 0, .int 0, .int 0, .long 0]))] H := hP
  have hD : va_D A [(h0, .inr (6, [.ref q_1, .int 0, .int 0])), (q_1, .inl (k_2, 20, .inr (.inr (.inr (.inr f_50))))), (q_48, .inr (3, [.int 0, .int (-1), .int 0, .int 0, .int 0, .long 0]))] := hD
  have hP := hP.sub (ws' := [(h0, .inr (6, [.ref q_1, .int 0, .int 0])), (q_1, .inl (k_2, 20, .inr (.inr (.inr (.inr f_50)))))]) [0, 1] rfl
  have hD := hD.sub (ws' := [(h0, .inr (6, [.ref q_1, .int 0, .int 0])), (q_1, .inl (k_2, 20, .inr (.inr (.inr (.inr f_50)))))]) [0, 1] (by decide) rfl
  refine lv_iinc (v := 16) (lv' := [(1, .int 16), (0, .ref h0)]) hx hb dX6_init_34 hl (k := 0) rfl (by decide) (by decide) rfl (fun ls hl => ?_)
  refine lv_goto (tgt := 15) hx hb dX6_init_37 (by decide) ?_
  refine lv_iload_n hx hb dX6_init_15 rfl (lv_at hl 0 rfl) ?_
  refine lv_bipush (v := 20) hx hb dX6_init_16 (by decide) ?_
  refine lv_icmp_ge (tgt := 40) hx hb dX6_init_18 (by decide) (fun c9 => absurd c9 (by decide)) (fun _ => ?_)
  refine lv_aload_n hx hb dX6_init_21 rfl (lv_at hl 1 rfl) ?_
  refine va_get (D := (dC, dI)) (ci := 6) (v := .ref q_1) (C := RX6) (T := TX6) (N := 3) hx hb hq inX6 hown hK hP 0 rfl rfl 0 (by decide) (hq _ qw_333) (fun _ h9 => h9) rfl dX6_init_22 ?_
  refine lv_iload_n hx hb dX6_init_25 rfl (lv_at hl 0 rfl) ?_
  refine va_new (ci := 3) (fs := [.int 0, .int 0, .int 0, .int 0, .int 0, .long 0]) (C := RX3) (T := TX3) (N := 6) hx hb hq inX3 tyX3 tyX3_ok hown (hq _ qw_330) (hq _ qw_264) (hq _ qw_125) hK hP hD hS hA rfl (dfl_ok rfl) (Nat.le_of_ble_eq_true rfl) (Nat.le_of_ble_eq_true rfl) dX6_init_26 (fun q_51 H hP hD hS => ?_)
  have hP : va_P (dC, dI) classes [(h0, .inr (6, [.ref q_1, .int 0, .int 0])), (q_1, .inl (k_2, 20, .inr (.inr (.inr (.inr f_50))))), (q_51, .inr (3, [.int 0, .int 0, .int 0, .int 0, .int 0, .long 0]))] H := hP
  have hD : va_D A [(h0, .inr (6, [.ref q_1, .int 0, .int 0])), (q_1, .inl (k_2, 20, .inr (.inr (.inr (.inr f_50))))), (q_51, .inr (3, [.int 0, .int 0, .int 0, .int 0, .int 0, .long 0]))] := hD
  refine W.widen (k := 18) (n := 122) (Nat.le_of_ble_eq_true rfl) (Nat.le_of_ble_eq_true rfl) ?_
  refine lv_dup hx hb dX6_init_29 rfl ?_
  have hPc := hP.sub (ws' := [(q_51, .inr (3, [.int 0, .int 0, .int 0, .int 0, .int 0, .long 0]))]) [2] rfl
  have hDc := hD.sub (ws' := [(q_51, .inr (3, [.int 0, .int 0, .int 0, .int 0, .int 0, .long 0]))]) [2] (by decide) rfl
  have hKc := hK.sub (tys' := []) [] rfl
  have hFc := va_free (wc := [(q_51, .inr (3, [.int 0, .int 0, .int 0, .int 0, .int 0, .long 0]))]) hD hS hA [2] rfl
  refine va_callv (va_runIN (As := []) (rest := [.ref q_51, .int 16, .ref q_1]) ⟨hx, hb, hml, hown, hq⟩ (c_Evening_init l dC dI _ q_51 ) ⟨va_cnB (host := "SpokenBite") 0 hq (gC qw_267) rfl rfl rfl (xE_n hE (k := 8) rfl) (hq _ qw_125) (by decide +kernel) ⟨Nat.le_of_ble_eq_true rfl, Nat.le_of_ble_eq_true rfl⟩, rfl, (hq _ qw_266)⟩ ⟨fun a U g mk q => by obtain ⟨q0, q1, qP, qK, qD, qE⟩ := q; exact ⟨q0, q1, qP, va_K.moved (u := U) (U := U.calling g mk a) (Vm.Alike.refl U.vm) qK, qD, xE.same rfl qE⟩, fun U hU hW => ⟨rfl, by rw [hU], by rw [hU]; exact hPc, va_K.moved hW.alike hKc, hDc.weaken (fun _ _ _ _ => trivial), xE.warm hW hE⟩⟩ rfl rfl hl.1 rfl (lv_room (Nat.le_of_ble_eq_true rfl)) dX6_init_30 ⟨Nat.le_of_ble_eq_true rfl, Nat.le_of_ble_eq_true rfl⟩) hS (fun q _ h => hFc q h) hFc (fun u t H1 locs ht hvm hw hB hz1 hk1 hS => ?_)
  obtain ⟨hP1, hK1, hD1⟩ := hB
  rw [ht] at hP1
  have hK1 := va_K.moved hvm.symm hK1
  obtain ⟨hP, hD⟩ := va_join (wr := [(h0, .inr (6, [.ref q_1, .int 0, .int 0])), (q_1, .inl (k_2, 20, .inr (.inr (.inr (.inr f_50)))))]) (w1 := [(q_51, .inr (3, [.int 0, .int (-1), .int 0, .int 0, .int 0, .long 0]))]) hP hD [2] [0, 1] rfl rfl (by decide) (by decide) hk1 hFc hP1 hD1
  generalize H1 = H at hP hS ⊢
  have hP : va_P (dC, dI) classes [(h0, .inr (6, [.ref q_1, .int 0, .int 0])), (q_1, .inl (k_2, 20, .inr (.inr (.inr (.inr f_50))))), (q_51, .inr (3, [.int 0, .int (-1), .int 0, .int 0, .int 0, .long 0]))] H := hP
  have hD : va_D A [(h0, .inr (6, [.ref q_1, .int 0, .int 0])), (q_1, .inl (k_2, 20, .inr (.inr (.inr (.inr f_50))))), (q_51, .inr (3, [.int 0, .int (-1), .int 0, .int 0, .int 0, .long 0]))] := hD
  refine va_astq hx hb hK hP hD hS 1 0 2 3 rfl rfl rfl rfl (inr_ok rfl) dX6_init_33 (fun H locs hP hD hS => ?_)
  generalize va_up f_50 (Int32.toNatClampNeg 16) (some q_51) = f_53 at hP hD
  have hP : va_P (dC, dI) classes [(h0, .inr (6, [.ref q_1, .int 0, .int 0])), (q_1, .inl (k_2, 20, .inr (.inr (.inr (.inr f_53))))), (q_51, .inr (3, [.int 0, .int (-1), .int 0, .int 0, .int 0, .long 0]))] H := hP
  have hD : va_D A [(h0, .inr (6, [.ref q_1, .int 0, .int 0])), (q_1, .inl (k_2, 20, .inr (.inr (.inr (.inr f_53))))), (q_51, .inr (3, [.int 0, .int (-1), .int 0, .int 0, .int 0, .long 0]))] := hD
  have hP := hP.sub (ws' := [(h0, .inr (6, [.ref q_1, .int 0, .int 0])), (q_1, .inl (k_2, 20, .inr (.inr (.inr (.inr f_53)))))]) [0, 1] rfl
  have hD := hD.sub (ws' := [(h0, .inr (6, [.ref q_1, .int 0, .int 0])), (q_1, .inl (k_2, 20, .inr (.inr (.inr (.inr f_53)))))]) [0, 1] (by decide) rfl
  refine lv_iinc (v := 17) (lv' := [(1, .int 17), (0, .ref h0)]) hx hb dX6_init_34 hl (k := 0) rfl (by decide) (by decide) rfl (fun ls hl => ?_)
  refine lv_goto (tgt := 15) hx hb dX6_init_37 (by decide) ?_
  refine lv_iload_n hx hb dX6_init_15 rfl (lv_at hl 0 rfl) ?_
  refine lv_bipush (v := 20) hx hb dX6_init_16 (by decide) ?_
  refine lv_icmp_ge (tgt := 40) hx hb dX6_init_18 (by decide) (fun c9 => absurd c9 (by decide)) (fun _ => ?_)
  refine lv_aload_n hx hb dX6_init_21 rfl (lv_at hl 1 rfl) ?_
  refine va_get (D := (dC, dI)) (ci := 6) (v := .ref q_1) (C := RX6) (T := TX6) (N := 3) hx hb hq inX6 hown hK hP 0 rfl rfl 0 (by decide) (hq _ qw_333) (fun _ h9 => h9) rfl dX6_init_22 ?_
  refine lv_iload_n hx hb dX6_init_25 rfl (lv_at hl 0 rfl) ?_
  refine va_new (ci := 3) (fs := [.int 0, .int 0, .int 0, .int 0, .int 0, .long 0]) (C := RX3) (T := TX3) (N := 6) hx hb hq inX3 tyX3 tyX3_ok hown (hq _ qw_330) (hq _ qw_264) (hq _ qw_125) hK hP hD hS hA rfl (dfl_ok rfl) (Nat.le_of_ble_eq_true rfl) (Nat.le_of_ble_eq_true rfl) dX6_init_26 (fun q_54 H hP hD hS => ?_)
  have hP : va_P (dC, dI) classes [(h0, .inr (6, [.ref q_1, .int 0, .int 0])), (q_1, .inl (k_2, 20, .inr (.inr (.inr (.inr f_53))))), (q_54, .inr (3, [.int 0, .int 0, .int 0, .int 0, .int 0, .long 0]))] H := hP
  have hD : va_D A [(h0, .inr (6, [.ref q_1, .int 0, .int 0])), (q_1, .inl (k_2, 20, .inr (.inr (.inr (.inr f_53))))), (q_54, .inr (3, [.int 0, .int 0, .int 0, .int 0, .int 0, .long 0]))] := hD
  refine W.widen (k := 19) (n := 128) (Nat.le_of_ble_eq_true rfl) (Nat.le_of_ble_eq_true rfl) ?_
  refine lv_dup hx hb dX6_init_29 rfl ?_
  have hPc := hP.sub (ws' := [(q_54, .inr (3, [.int 0, .int 0, .int 0, .int 0, .int 0, .long 0]))]) [2] rfl
  have hDc := hD.sub (ws' := [(q_54, .inr (3, [.int 0, .int 0, .int 0, .int 0, .int 0, .long 0]))]) [2] (by decide) rfl
  have hKc := hK.sub (tys' := []) [] rfl
  have hFc := va_free (wc := [(q_54, .inr (3, [.int 0, .int 0, .int 0, .int 0, .int 0, .long 0]))]) hD hS hA [2] rfl
  refine va_callv (va_runIN (As := []) (rest := [.ref q_54, .int 17, .ref q_1]) ⟨hx, hb, hml, hown, hq⟩ (c_Evening_init l dC dI _ q_54 ) ⟨va_cnB (host := "SpokenBite") 0 hq (gC qw_267) rfl rfl rfl (xE_n hE (k := 8) rfl) (hq _ qw_125) (by decide +kernel) ⟨Nat.le_of_ble_eq_true rfl, Nat.le_of_ble_eq_true rfl⟩, rfl, (hq _ qw_266)⟩ ⟨fun a U g mk q => by obtain ⟨q0, q1, qP, qK, qD, qE⟩ := q; exact ⟨q0, q1, qP, va_K.moved (u := U) (U := U.calling g mk a) (Vm.Alike.refl U.vm) qK, qD, xE.same rfl qE⟩, fun U hU hW => ⟨rfl, by rw [hU], by rw [hU]; exact hPc, va_K.moved hW.alike hKc, hDc.weaken (fun _ _ _ _ => trivial), xE.warm hW hE⟩⟩ rfl rfl hl.1 rfl (lv_room (Nat.le_of_ble_eq_true rfl)) dX6_init_30 ⟨Nat.le_of_ble_eq_true rfl, Nat.le_of_ble_eq_true rfl⟩) hS (fun q _ h => hFc q h) hFc (fun u t H1 locs ht hvm hw hB hz1 hk1 hS => ?_)
  obtain ⟨hP1, hK1, hD1⟩ := hB
  rw [ht] at hP1
  have hK1 := va_K.moved hvm.symm hK1
  obtain ⟨hP, hD⟩ := va_join (wr := [(h0, .inr (6, [.ref q_1, .int 0, .int 0])), (q_1, .inl (k_2, 20, .inr (.inr (.inr (.inr f_53)))))]) (w1 := [(q_54, .inr (3, [.int 0, .int (-1), .int 0, .int 0, .int 0, .long 0]))]) hP hD [2] [0, 1] rfl rfl (by decide) (by decide) hk1 hFc hP1 hD1
  generalize H1 = H at hP hS ⊢
  have hP : va_P (dC, dI) classes [(h0, .inr (6, [.ref q_1, .int 0, .int 0])), (q_1, .inl (k_2, 20, .inr (.inr (.inr (.inr f_53))))), (q_54, .inr (3, [.int 0, .int (-1), .int 0, .int 0, .int 0, .long 0]))] H := hP
  have hD : va_D A [(h0, .inr (6, [.ref q_1, .int 0, .int 0])), (q_1, .inl (k_2, 20, .inr (.inr (.inr (.inr f_53))))), (q_54, .inr (3, [.int 0, .int (-1), .int 0, .int 0, .int 0, .long 0]))] := hD
  refine va_astq hx hb hK hP hD hS 1 0 2 3 rfl rfl rfl rfl (inr_ok rfl) dX6_init_33 (fun H locs hP hD hS => ?_)
  generalize va_up f_53 (Int32.toNatClampNeg 17) (some q_54) = f_56 at hP hD
  have hP : va_P (dC, dI) classes [(h0, .inr (6, [.ref q_1, .int 0, .int 0])), (q_1, .inl (k_2, 20, .inr (.inr (.inr (.inr f_56))))), (q_54, .inr (3, [.int 0, .int (-1), .int 0, .int 0, .int 0, .long 0]))] H := hP
  have hD : va_D A [(h0, .inr (6, [.ref q_1, .int 0, .int 0])), (q_1, .inl (k_2, 20, .inr (.inr (.inr (.inr f_56))))), (q_54, .inr (3, [.int 0, .int (-1), .int 0, .int 0, .int 0, .long 0]))] := hD
  have hP := hP.sub (ws' := [(h0, .inr (6, [.ref q_1, .int 0, .int 0])), (q_1, .inl (k_2, 20, .inr (.inr (.inr (.inr f_56)))))]) [0, 1] rfl
  have hD := hD.sub (ws' := [(h0, .inr (6, [.ref q_1, .int 0, .int 0])), (q_1, .inl (k_2, 20, .inr (.inr (.inr (.inr f_56)))))]) [0, 1] (by decide) rfl
  refine lv_iinc (v := 18) (lv' := [(1, .int 18), (0, .ref h0)]) hx hb dX6_init_34 hl (k := 0) rfl (by decide) (by decide) rfl (fun ls hl => ?_)
  refine lv_goto (tgt := 15) hx hb dX6_init_37 (by decide) ?_
  refine lv_iload_n hx hb dX6_init_15 rfl (lv_at hl 0 rfl) ?_
  refine lv_bipush (v := 20) hx hb dX6_init_16 (by decide) ?_
  refine lv_icmp_ge (tgt := 40) hx hb dX6_init_18 (by decide) (fun c9 => absurd c9 (by decide)) (fun _ => ?_)
  refine lv_aload_n hx hb dX6_init_21 rfl (lv_at hl 1 rfl) ?_
  refine va_get (D := (dC, dI)) (ci := 6) (v := .ref q_1) (C := RX6) (T := TX6) (N := 3) hx hb hq inX6 hown hK hP 0 rfl rfl 0 (by decide) (hq _ qw_333) (fun _ h9 => h9) rfl dX6_init_22 ?_
  refine lv_iload_n hx hb dX6_init_25 rfl (lv_at hl 0 rfl) ?_
  refine va_new (ci := 3) (fs := [.int 0, .int 0, .int 0, .int 0, .int 0, .long 0]) (C := RX3) (T := TX3) (N := 6) hx hb hq inX3 tyX3 tyX3_ok hown (hq _ qw_330) (hq _ qw_264) (hq _ qw_125) hK hP hD hS hA rfl (dfl_ok rfl) (Nat.le_of_ble_eq_true rfl) (Nat.le_of_ble_eq_true rfl) dX6_init_26 (fun q_57 H hP hD hS => ?_)
  have hP : va_P (dC, dI) classes [(h0, .inr (6, [.ref q_1, .int 0, .int 0])), (q_1, .inl (k_2, 20, .inr (.inr (.inr (.inr f_56))))), (q_57, .inr (3, [.int 0, .int 0, .int 0, .int 0, .int 0, .long 0]))] H := hP
  have hD : va_D A [(h0, .inr (6, [.ref q_1, .int 0, .int 0])), (q_1, .inl (k_2, 20, .inr (.inr (.inr (.inr f_56))))), (q_57, .inr (3, [.int 0, .int 0, .int 0, .int 0, .int 0, .long 0]))] := hD
  refine W.widen (k := 20) (n := 134) (Nat.le_of_ble_eq_true rfl) (Nat.le_of_ble_eq_true rfl) ?_
  refine lv_dup hx hb dX6_init_29 rfl ?_
  have hPc := hP.sub (ws' := [(q_57, .inr (3, [.int 0, .int 0, .int 0, .int 0, .int 0, .long 0]))]) [2] rfl
  have hDc := hD.sub (ws' := [(q_57, .inr (3, [.int 0, .int 0, .int 0, .int 0, .int 0, .long 0]))]) [2] (by decide) rfl
  have hKc := hK.sub (tys' := []) [] rfl
  have hFc := va_free (wc := [(q_57, .inr (3, [.int 0, .int 0, .int 0, .int 0, .int 0, .long 0]))]) hD hS hA [2] rfl
  refine va_callv (va_runIN (As := []) (rest := [.ref q_57, .int 18, .ref q_1]) ⟨hx, hb, hml, hown, hq⟩ (c_Evening_init l dC dI _ q_57 ) ⟨va_cnB (host := "SpokenBite") 0 hq (gC qw_267) rfl rfl rfl (xE_n hE (k := 8) rfl) (hq _ qw_125) (by decide +kernel) ⟨Nat.le_of_ble_eq_true rfl, Nat.le_of_ble_eq_true rfl⟩, rfl, (hq _ qw_266)⟩ ⟨fun a U g mk q => by obtain ⟨q0, q1, qP, qK, qD, qE⟩ := q; exact ⟨q0, q1, qP, va_K.moved (u := U) (U := U.calling g mk a) (Vm.Alike.refl U.vm) qK, qD, xE.same rfl qE⟩, fun U hU hW => ⟨rfl, by rw [hU], by rw [hU]; exact hPc, va_K.moved hW.alike hKc, hDc.weaken (fun _ _ _ _ => trivial), xE.warm hW hE⟩⟩ rfl rfl hl.1 rfl (lv_room (Nat.le_of_ble_eq_true rfl)) dX6_init_30 ⟨Nat.le_of_ble_eq_true rfl, Nat.le_of_ble_eq_true rfl⟩) hS (fun q _ h => hFc q h) hFc (fun u t H1 locs ht hvm hw hB hz1 hk1 hS => ?_)
  obtain ⟨hP1, hK1, hD1⟩ := hB
  rw [ht] at hP1
  have hK1 := va_K.moved hvm.symm hK1
  obtain ⟨hP, hD⟩ := va_join (wr := [(h0, .inr (6, [.ref q_1, .int 0, .int 0])), (q_1, .inl (k_2, 20, .inr (.inr (.inr (.inr f_56)))))]) (w1 := [(q_57, .inr (3, [.int 0, .int (-1), .int 0, .int 0, .int 0, .long 0]))]) hP hD [2] [0, 1] rfl rfl (by decide) (by decide) hk1 hFc hP1 hD1
  generalize H1 = H at hP hS ⊢
  have hP : va_P (dC, dI) classes [(h0, .inr (6, [.ref q_1, .int 0, .int 0])), (q_1, .inl (k_2, 20, .inr (.inr (.inr (.inr f_56))))), (q_57, .inr (3, [.int 0, .int (-1), .int 0, .int 0, .int 0, .long 0]))] H := hP
  have hD : va_D A [(h0, .inr (6, [.ref q_1, .int 0, .int 0])), (q_1, .inl (k_2, 20, .inr (.inr (.inr (.inr f_56))))), (q_57, .inr (3, [.int 0, .int (-1), .int 0, .int 0, .int 0, .long 0]))] := hD
  refine va_astq hx hb hK hP hD hS 1 0 2 3 rfl rfl rfl rfl (inr_ok rfl) dX6_init_33 (fun H locs hP hD hS => ?_)
  generalize va_up f_56 (Int32.toNatClampNeg 18) (some q_57) = f_59 at hP hD
  have hP : va_P (dC, dI) classes [(h0, .inr (6, [.ref q_1, .int 0, .int 0])), (q_1, .inl (k_2, 20, .inr (.inr (.inr (.inr f_59))))), (q_57, .inr (3, [.int 0, .int (-1), .int 0, .int 0, .int 0, .long 0]))] H := hP
  have hD : va_D A [(h0, .inr (6, [.ref q_1, .int 0, .int 0])), (q_1, .inl (k_2, 20, .inr (.inr (.inr (.inr f_59))))), (q_57, .inr (3, [.int 0, .int (-1), .int 0, .int 0, .int 0, .long 0]))] := hD
  have hP := hP.sub (ws' := [(h0, .inr (6, [.ref q_1, .int 0, .int 0])), (q_1, .inl (k_2, 20, .inr (.inr (.inr (.inr f_59)))))]) [0, 1] rfl
  have hD := hD.sub (ws' := [(h0, .inr (6, [.ref q_1, .int 0, .int 0])), (q_1, .inl (k_2, 20, .inr (.inr (.inr (.inr f_59)))))]) [0, 1] (by decide) rfl
  refine lv_iinc (v := 19) (lv' := [(1, .int 19), (0, .ref h0)]) hx hb dX6_init_34 hl (k := 0) rfl (by decide) (by decide) rfl (fun ls hl => ?_)
  refine lv_goto (tgt := 15) hx hb dX6_init_37 (by decide) ?_
  refine lv_iload_n hx hb dX6_init_15 rfl (lv_at hl 0 rfl) ?_
  refine lv_bipush (v := 20) hx hb dX6_init_16 (by decide) ?_
  refine lv_icmp_ge (tgt := 40) hx hb dX6_init_18 (by decide) (fun c9 => absurd c9 (by decide)) (fun _ => ?_)
  refine lv_aload_n hx hb dX6_init_21 rfl (lv_at hl 1 rfl) ?_
  refine va_get (D := (dC, dI)) (ci := 6) (v := .ref q_1) (C := RX6) (T := TX6) (N := 3) hx hb hq inX6 hown hK hP 0 rfl rfl 0 (by decide) (hq _ qw_333) (fun _ h9 => h9) rfl dX6_init_22 ?_
  refine lv_iload_n hx hb dX6_init_25 rfl (lv_at hl 0 rfl) ?_
  refine va_new (ci := 3) (fs := [.int 0, .int 0, .int 0, .int 0, .int 0, .long 0]) (C := RX3) (T := TX3) (N := 6) hx hb hq inX3 tyX3 tyX3_ok hown (hq _ qw_330) (hq _ qw_264) (hq _ qw_125) hK hP hD hS hA rfl (dfl_ok rfl) (Nat.le_of_ble_eq_true rfl) (Nat.le_of_ble_eq_true rfl) dX6_init_26 (fun q_60 H hP hD hS => ?_)
  have hP : va_P (dC, dI) classes [(h0, .inr (6, [.ref q_1, .int 0, .int 0])), (q_1, .inl (k_2, 20, .inr (.inr (.inr (.inr f_59))))), (q_60, .inr (3, [.int 0, .int 0, .int 0, .int 0, .int 0, .long 0]))] H := hP
  have hD : va_D A [(h0, .inr (6, [.ref q_1, .int 0, .int 0])), (q_1, .inl (k_2, 20, .inr (.inr (.inr (.inr f_59))))), (q_60, .inr (3, [.int 0, .int 0, .int 0, .int 0, .int 0, .long 0]))] := hD
  refine W.widen (k := 21) (n := 140) (Nat.le_of_ble_eq_true rfl) (Nat.le_of_ble_eq_true rfl) ?_
  refine lv_dup hx hb dX6_init_29 rfl ?_
  have hPc := hP.sub (ws' := [(q_60, .inr (3, [.int 0, .int 0, .int 0, .int 0, .int 0, .long 0]))]) [2] rfl
  have hDc := hD.sub (ws' := [(q_60, .inr (3, [.int 0, .int 0, .int 0, .int 0, .int 0, .long 0]))]) [2] (by decide) rfl
  have hKc := hK.sub (tys' := []) [] rfl
  have hFc := va_free (wc := [(q_60, .inr (3, [.int 0, .int 0, .int 0, .int 0, .int 0, .long 0]))]) hD hS hA [2] rfl
  refine va_callv (va_runIN (As := []) (rest := [.ref q_60, .int 19, .ref q_1]) ⟨hx, hb, hml, hown, hq⟩ (c_Evening_init l dC dI _ q_60 ) ⟨va_cnB (host := "SpokenBite") 0 hq (gC qw_267) rfl rfl rfl (xE_n hE (k := 8) rfl) (hq _ qw_125) (by decide +kernel) ⟨Nat.le_of_ble_eq_true rfl, Nat.le_of_ble_eq_true rfl⟩, rfl, (hq _ qw_266)⟩ ⟨fun a U g mk q => by obtain ⟨q0, q1, qP, qK, qD, qE⟩ := q; exact ⟨q0, q1, qP, va_K.moved (u := U) (U := U.calling g mk a) (Vm.Alike.refl U.vm) qK, qD, xE.same rfl qE⟩, fun U hU hW => ⟨rfl, by rw [hU], by rw [hU]; exact hPc, va_K.moved hW.alike hKc, hDc.weaken (fun _ _ _ _ => trivial), xE.warm hW hE⟩⟩ rfl rfl hl.1 rfl (lv_room (Nat.le_of_ble_eq_true rfl)) dX6_init_30 ⟨Nat.le_of_ble_eq_true rfl, Nat.le_of_ble_eq_true rfl⟩) hS (fun q _ h => hFc q h) hFc (fun u t H1 locs ht hvm hw hB hz1 hk1 hS => ?_)
  obtain ⟨hP1, hK1, hD1⟩ := hB
  rw [ht] at hP1
  have hK1 := va_K.moved hvm.symm hK1
  obtain ⟨hP, hD⟩ := va_join (wr := [(h0, .inr (6, [.ref q_1, .int 0, .int 0])), (q_1, .inl (k_2, 20, .inr (.inr (.inr (.inr f_59)))))]) (w1 := [(q_60, .inr (3, [.int 0, .int (-1), .int 0, .int 0, .int 0, .long 0]))]) hP hD [2] [0, 1] rfl rfl (by decide) (by decide) hk1 hFc hP1 hD1
  generalize H1 = H at hP hS ⊢
  have hP : va_P (dC, dI) classes [(h0, .inr (6, [.ref q_1, .int 0, .int 0])), (q_1, .inl (k_2, 20, .inr (.inr (.inr (.inr f_59))))), (q_60, .inr (3, [.int 0, .int (-1), .int 0, .int 0, .int 0, .long 0]))] H := hP
  have hD : va_D A [(h0, .inr (6, [.ref q_1, .int 0, .int 0])), (q_1, .inl (k_2, 20, .inr (.inr (.inr (.inr f_59))))), (q_60, .inr (3, [.int 0, .int (-1), .int 0, .int 0, .int 0, .long 0]))] := hD
  refine va_astq hx hb hK hP hD hS 1 0 2 3 rfl rfl rfl rfl (inr_ok rfl) dX6_init_33 (fun H locs hP hD hS => ?_)
  generalize va_up f_59 (Int32.toNatClampNeg 19) (some q_60) = f_62 at hP hD
  have hP : va_P (dC, dI) classes [(h0, .inr (6, [.ref q_1, .int 0, .int 0])), (q_1, .inl (k_2, 20, .inr (.inr (.inr (.inr f_62))))), (q_60, .inr (3, [.int 0, .int (-1), .int 0, .int 0, .int 0, .long 0]))] H := hP
  have hD : va_D A [(h0, .inr (6, [.ref q_1, .int 0, .int 0])), (q_1, .inl (k_2, 20, .inr (.inr (.inr (.inr f_62))))), (q_60, .inr (3, [.int 0, .int (-1), .int 0, .int 0, .int 0, .long 0]))] := hD
  have hP := hP.sub (ws' := [(h0, .inr (6, [.ref q_1, .int 0, .int 0])), (q_1, .inl (k_2, 20, .inr (.inr (.inr (.inr f_62)))))]) [0, 1] rfl
  have hD := hD.sub (ws' := [(h0, .inr (6, [.ref q_1, .int 0, .int 0])), (q_1, .inl (k_2, 20, .inr (.inr (.inr (.inr f_62)))))]) [0, 1] (by decide) rfl
  refine lv_iinc (v := 20) (lv' := [(1, .int 20), (0, .ref h0)]) hx hb dX6_init_34 hl (k := 0) rfl (by decide) (by decide) rfl (fun ls hl => ?_)
  refine lv_goto (tgt := 15) hx hb dX6_init_37 (by decide) ?_
  refine lv_iload_n hx hb dX6_init_15 rfl (lv_at hl 0 rfl) ?_
  refine lv_bipush (v := 20) hx hb dX6_init_16 (by decide) ?_
  refine lv_icmp_ge (tgt := 40) hx hb dX6_init_18 (by decide) (fun _ => ?_) (fun c9 => absurd c9 (by decide))
  have hP9 := hP.sub (ws' := [(h0, .inr (6, [.ref q_1, .int 0, .int 0]))]) [0] rfl
  have hD9 := hD.sub (ws' := [(h0, .inr (6, [.ref q_1, .int 0, .int 0]))]) [0] (by decide) rfl
  have hK9 := hK.sub (tys' := []) [] rfl
  refine W.widen (k := 21) (n := 140) (Nat.le_of_ble_eq_true rfl) (Nat.le_of_ble_eq_true rfl) ?_
  exact W.vret hx hb hr (fun t ht hW => ⟨⟨(), rfl, trivial, q_1, by rw [ht]; exact hP9, va_K.moved hW.alike hK9, hD9⟩, hS.F ht⟩) hS.2.2 dX6_init_40

set_option maxHeartbeats 4000000 in
set_option maxRecDepth 100000 in
/-- c_Course_init -/
theorem c_Course_init (l : Launch) (dC : Nat → ClassId) (dI : Nat → Nat → Nat) (sz : Nat) (h0 : Nat) : Met l yX0_init (.code yX0_init cX0_init 1 none :: wsA) ({ frames := 2, cells := 7, slots := 81, locals := 32 }) (va_Pc [.ref h0] (fun U => U.heap.size = sz ∧ va_P (dC, dI) classes [(h0, .inr (0, [.null, .null, .null, .null, .int 0, .int 0, .int 0, .int 0]))] U.heap ∧ va_K (dC, dI) classes [] U ∧ va_D (fun _ => True) [(h0, .inr (0, [.null, .null, .null, .null, .int 0, .int 0, .int 0, .int 0]))] ∧ xE U)) (va_Qv (fun (_ : Unit) => True) (fun _ _ => True) (va_A [(h0, .inr (0, [.null, .null, .null, .null, .int 0, .int 0, .int 0, .int 0]))] sz)) 7 81 (va_A [(h0, .inr (0, [.null, .null, .null, .null, .int 0, .int 0, .int 0, .int 0]))] sz) := by
  refine Met.ofW (cc := cX0_init) (maxL := 1) (ret := none) (by decide) rfl ?_
  intro p e s m args below meth c s₁ B hml hv
  obtain ⟨rfl, hsz, hP, hK, hD0, hE⟩ := hv
  have hx := B.exec
  have hb := B.bytes
  have hr := B.returns
  have hts := atoms_spec (ws := .code yX0_init cX0_init 1 none :: wsA) B.pre
  have hq : ∀ w ∈ wsA, w.before _ s = true := fun w h => hts w (List.mem_cons_of_mem _ h)
  have hown : s.vm.findClass RX0 = some m.cls := findClass_of_methodNamed B.named
  have hlocks := B.notSynchronized
  have hin : meth.name = "<init>" := (name_of_methodNamed B.named B.method).1
  subst hsz
  have hD := hD0.self (sz := s.heap.size)
  generalize hAe : va_A [(h0, .inr (0, [.null, .null, .null, .null, .int 0, .int 0, .int 0, .int 0]))] s.heap.size = A at hD ⊢
  have hA : ∀ q : Nat, s.heap.size ≤ q → A q := fun q h => by rw [← hAe]; exact Or.inr h
  have hS : va_S A s.heap s.heap [] := va_S.rf
  have hl := lv_entry ([.ref h0]) (n := 1) (Nat.le_of_ble_eq_true rfl)
  rw [lg_entry_eq]
  generalize (lg_sl ([.ref h0]) ++ List.replicate (1 - (lg_sl ([.ref h0])).length) Slot.unset).toArray = ls at hl ⊢
  have hl : lv_has ls 1 [(0, .ref h0)] := hl
  refine lv_aload_n hx hb dX0_init_0 rfl (lv_at hl 0 rfl) ?_
  refine W.objInit hx hb hown (hq _ qw_351) (hq _ qw_145) (hq _ qw_146) rfl (by rw [hml]; exact hl.1) rfl dX0_init_1 (Nat.le_of_ble_eq_true rfl) (Nat.le_of_ble_eq_true rfl) ?_
  refine W.eq (g2 := F0 m 4 ls []) rfl ?_
  refine lv_aload_n hx hb dX0_init_4 rfl (lv_at hl 0 rfl) ?_
  refine va_new (ci := 1) (fs := [.int 0, .int 0, .int 0, .null, .null, .null, .null]) (C := RX1) (T := TX1) (N := 7) hx hb hq inX1 tyX1 tyX1_ok hown (hq _ qw_352) (hq _ qw_219) (hq _ qw_124) hK hP hD hS hA rfl (dfl_ok rfl) (Nat.le_of_ble_eq_true rfl) (Nat.le_of_ble_eq_true rfl) dX0_init_5 (fun q_1 H hP hD hS => ?_)
  have hP : va_P (dC, dI) classes [(h0, .inr (0, [.null, .null, .null, .null, .int 0, .int 0, .int 0, .int 0])), (q_1, .inr (1, [.int 0, .int 0, .int 0, .null, .null, .null, .null]))] H := hP
  have hD : va_D A [(h0, .inr (0, [.null, .null, .null, .null, .int 0, .int 0, .int 0, .int 0])), (q_1, .inr (1, [.int 0, .int 0, .int 0, .null, .null, .null, .null]))] := hD
  refine W.widen (k := 1) (n := 7) (Nat.le_of_ble_eq_true rfl) (Nat.le_of_ble_eq_true rfl) ?_
  refine lv_dup hx hb dX0_init_8 rfl ?_
  have hPc := hP.sub (ws' := [(q_1, .inr (1, [.int 0, .int 0, .int 0, .null, .null, .null, .null]))]) [1] rfl
  have hDc := hD.sub (ws' := [(q_1, .inr (1, [.int 0, .int 0, .int 0, .null, .null, .null, .null]))]) [1] (by decide) rfl
  have hKc := hK.sub (tys' := []) [] rfl
  have hFc := va_free (wc := [(q_1, .inr (1, [.int 0, .int 0, .int 0, .null, .null, .null, .null]))]) hD hS hA [1] rfl
  refine va_callv (va_runIN (As := []) (rest := [.ref q_1, .ref h0]) ⟨hx, hb, hml, hown, hq⟩ (c_Dinner_init l dC dI _ q_1 ) ⟨va_cnB (host := "SpokenBite") 0 hq (gC qw_222) rfl rfl rfl (xE_n hE (k := 10) rfl) (hq _ qw_124) (by decide +kernel) ⟨Nat.le_of_ble_eq_true rfl, Nat.le_of_ble_eq_true rfl⟩, rfl, (hq _ qw_221)⟩ ⟨fun a U g mk q => by obtain ⟨q0, q1, qP, qK, qD, qE⟩ := q; exact ⟨q0, q1, qP, va_K.moved (u := U) (U := U.calling g mk a) (Vm.Alike.refl U.vm) qK, qD, xE.same rfl qE⟩, fun U hU hW => ⟨rfl, by rw [hU], by rw [hU]; exact hPc, va_K.moved hW.alike hKc, hDc.weaken (fun _ _ _ _ => trivial), xE.warm hW hE⟩⟩ rfl rfl hl.1 rfl (lv_room (Nat.le_of_ble_eq_true rfl)) dX0_init_9 ⟨Nat.le_of_ble_eq_true rfl, Nat.le_of_ble_eq_true rfl⟩) hS (fun q _ h => hFc q h) hFc (fun u t H1 locs ht hvm hw hB hz1 hk1 hS => ?_)
  obtain ⟨q_3, q_4, q_5, q_6, k_7, k_8, k_9, k_10, hP1, hK1, hD1⟩ := hB
  rw [ht] at hP1
  have hK1 := va_K.moved hvm.symm hK1
  obtain ⟨hP, hD⟩ := va_join (wr := [(h0, .inr (0, [.null, .null, .null, .null, .int 0, .int 0, .int 0, .int 0]))]) (w1 := [(q_1, .inr (1, [.int 0, .int 0, .int 0, .ref q_3, .ref q_4, .ref q_5, .ref q_6])), (q_3, .inl (k_7, 8, .inl (fun _ => 0))), (q_4, .inl (k_8, 8, .inl (fun _ => 0))), (q_5, .inl (k_9, 8, .inl (fun _ => 0))), (q_6, .inl (k_10, 8, .inl (fun _ => 0)))]) hP hD [1] [0] rfl rfl (by decide) (by decide) hk1 hFc hP1 hD1
  have hK := hK.app (hK1.sub (tys' := [(k_7, .int), (k_8, .int), (k_9, .int), (k_10, .int)]) [0, 1, 2, 3] rfl)
  have hK : va_K (dC, dI) classes [(k_7, .int), (k_8, .int), (k_9, .int), (k_10, .int)] s := hK
  generalize H1 = H at hP hS ⊢
  have hP : va_P (dC, dI) classes [(h0, .inr (0, [.null, .null, .null, .null, .int 0, .int 0, .int 0, .int 0])), (q_1, .inr (1, [.int 0, .int 0, .int 0, .ref q_3, .ref q_4, .ref q_5, .ref q_6])), (q_3, .inl (k_7, 8, .inl (fun _ => 0))), (q_4, .inl (k_8, 8, .inl (fun _ => 0))), (q_5, .inl (k_9, 8, .inl (fun _ => 0))), (q_6, .inl (k_10, 8, .inl (fun _ => 0)))] H := hP
  have hD : va_D A [(h0, .inr (0, [.null, .null, .null, .null, .int 0, .int 0, .int 0, .int 0])), (q_1, .inr (1, [.int 0, .int 0, .int 0, .ref q_3, .ref q_4, .ref q_5, .ref q_6])), (q_3, .inl (k_7, 8, .inl (fun _ => 0))), (q_4, .inl (k_8, 8, .inl (fun _ => 0))), (q_5, .inl (k_9, 8, .inl (fun _ => 0))), (q_6, .inl (k_10, 8, .inl (fun _ => 0)))] := hD
  refine W.widen (k := 5) (n := 39) (Nat.le_of_ble_eq_true rfl) (Nat.le_of_ble_eq_true rfl) ?_
  refine va_put (D := (dC, dI)) (ci := 0) (v := .ref q_1) (ty := .object "SpokenBite$Dinne\x72") (C := RX0) (T := TX0) (N := 8) hx hb hq inX0 tyX0 tyX0_ok nmX0 hown hK hP hD hS 0 rfl rfl 0 (by decide) (hq _ qw_354) (fun _ h9 => h9) rfl (by decide +kernel) rfl rfl (Nat.le_of_ble_eq_true rfl) dX0_init_12 (fun H locs hP hD hS => ?_)
  have hP : va_P (dC, dI) classes [(h0, .inr (0, [.ref q_1, .null, .null, .null, .int 0, .int 0, .int 0, .int 0])), (q_1, .inr (1, [.int 0, .int 0, .int 0, .ref q_3, .ref q_4, .ref q_5, .ref q_6])), (q_3, .inl (k_7, 8, .inl (fun _ => 0))), (q_4, .inl (k_8, 8, .inl (fun _ => 0))), (q_5, .inl (k_9, 8, .inl (fun _ => 0))), (q_6, .inl (k_10, 8, .inl (fun _ => 0)))] H := hP
  have hD : va_D A [(h0, .inr (0, [.ref q_1, .null, .null, .null, .int 0, .int 0, .int 0, .int 0])), (q_1, .inr (1, [.int 0, .int 0, .int 0, .ref q_3, .ref q_4, .ref q_5, .ref q_6])), (q_3, .inl (k_7, 8, .inl (fun _ => 0))), (q_4, .inl (k_8, 8, .inl (fun _ => 0))), (q_5, .inl (k_9, 8, .inl (fun _ => 0))), (q_6, .inl (k_10, 8, .inl (fun _ => 0)))] := hD
  have hP := hP.sub (ws' := [(h0, .inr (0, [.ref q_1, .null, .null, .null, .int 0, .int 0, .int 0, .int 0]))]) [0] rfl
  have hD := hD.sub (ws' := [(h0, .inr (0, [.ref q_1, .null, .null, .null, .int 0, .int 0, .int 0, .int 0]))]) [0] (by decide) rfl
  refine lv_aload_n hx hb dX0_init_15 rfl (lv_at hl 0 rfl) ?_
  refine lv_bipush (v := 10) hx hb dX0_init_16 (by decide) ?_
  refine va_newa (atype := .long) (ty := .long) (N' := 10) (a0 := (10, .inr (.inl (fun _ => 0)))) hx hb (hq _ qw_382) rfl hK hP hD hS hA (fun _ => rfl) (by decide) (by decide) (Nat.le_of_ble_eq_true rfl) (Nat.le_of_ble_eq_true rfl) (Nat.le_of_ble_eq_true rfl) dX0_init_18 (fun q_11 k_12 H hK hP hD hS => ?_)
  have hP : va_P (dC, dI) classes [(h0, .inr (0, [.ref q_1, .null, .null, .null, .int 0, .int 0, .int 0, .int 0])), (q_11, .inl (k_12, 10, .inr (.inl (fun _ => 0))))] H := hP
  have hD : va_D A [(h0, .inr (0, [.ref q_1, .null, .null, .null, .int 0, .int 0, .int 0, .int 0])), (q_11, .inl (k_12, 10, .inr (.inl (fun _ => 0))))] := hD
  have hK : va_K (dC, dI) classes [(k_7, .int), (k_8, .int), (k_9, .int), (k_10, .int), (k_12, .long)] s := hK
  refine W.widen (k := 6) (n := 49) (Nat.le_of_ble_eq_true rfl) (Nat.le_of_ble_eq_true rfl) ?_
  refine va_putF (D := (dC, dI)) (ci := 0) (v := .ref q_11) (ty := .array .long) (C := RX0) (T := TX0) (N := 8) hx hb hq inX0 tyX0 tyX0_ok nmX0 hown hK hP hD hS 0 rfl rfl 2 (by decide) (hq _ qw_356) (fun _ h9 => h9) rfl hin rfl (by decide +kernel) rfl rfl (Nat.le_of_ble_eq_true rfl) dX0_init_20 (fun H locs hP hD hS => ?_)
  have hP : va_P (dC, dI) classes [(h0, .inr (0, [.ref q_1, .null, .ref q_11, .null, .int 0, .int 0, .int 0, .int 0])), (q_11, .inl (k_12, 10, .inr (.inl (fun _ => 0))))] H := hP
  have hD : va_D A [(h0, .inr (0, [.ref q_1, .null, .ref q_11, .null, .int 0, .int 0, .int 0, .int 0])), (q_11, .inl (k_12, 10, .inr (.inl (fun _ => 0))))] := hD
  have hP := hP.sub (ws' := [(h0, .inr (0, [.ref q_1, .null, .ref q_11, .null, .int 0, .int 0, .int 0, .int 0]))]) [0] rfl
  have hD := hD.sub (ws' := [(h0, .inr (0, [.ref q_1, .null, .ref q_11, .null, .int 0, .int 0, .int 0, .int 0]))]) [0] (by decide) rfl
  refine lv_aload_n hx hb dX0_init_23 rfl (lv_at hl 0 rfl) ?_
  refine lv_bipush (v := 32) hx hb dX0_init_24 (by decide) ?_
  refine va_newa (atype := .long) (ty := .long) (N' := 32) (a0 := (32, .inr (.inl (fun _ => 0)))) hx hb (hq _ qw_382) rfl hK hP hD hS hA (fun _ => rfl) (by decide) (by decide) (Nat.le_of_ble_eq_true rfl) (Nat.le_of_ble_eq_true rfl) (Nat.le_of_ble_eq_true rfl) dX0_init_26 (fun q_13 k_14 H hK hP hD hS => ?_)
  have hP : va_P (dC, dI) classes [(h0, .inr (0, [.ref q_1, .null, .ref q_11, .null, .int 0, .int 0, .int 0, .int 0])), (q_13, .inl (k_14, 32, .inr (.inl (fun _ => 0))))] H := hP
  have hD : va_D A [(h0, .inr (0, [.ref q_1, .null, .ref q_11, .null, .int 0, .int 0, .int 0, .int 0])), (q_13, .inl (k_14, 32, .inr (.inl (fun _ => 0))))] := hD
  have hK : va_K (dC, dI) classes [(k_7, .int), (k_8, .int), (k_9, .int), (k_10, .int), (k_12, .long), (k_14, .long)] s := hK
  refine W.widen (k := 7) (n := 81) (Nat.le_of_ble_eq_true rfl) (Nat.le_of_ble_eq_true rfl) ?_
  refine va_putF (D := (dC, dI)) (ci := 0) (v := .ref q_13) (ty := .array .long) (C := RX0) (T := TX0) (N := 8) hx hb hq inX0 tyX0 tyX0_ok nmX0 hown hK hP hD hS 0 rfl rfl 3 (by decide) (hq _ qw_357) (fun _ h9 => h9) rfl hin rfl (by decide +kernel) rfl rfl (Nat.le_of_ble_eq_true rfl) dX0_init_28 (fun H locs hP hD hS => ?_)
  have hP : va_P (dC, dI) classes [(h0, .inr (0, [.ref q_1, .null, .ref q_11, .ref q_13, .int 0, .int 0, .int 0, .int 0])), (q_13, .inl (k_14, 32, .inr (.inl (fun _ => 0))))] H := hP
  have hD : va_D A [(h0, .inr (0, [.ref q_1, .null, .ref q_11, .ref q_13, .int 0, .int 0, .int 0, .int 0])), (q_13, .inl (k_14, 32, .inr (.inl (fun _ => 0))))] := hD
  have hP := hP.sub (ws' := [(h0, .inr (0, [.ref q_1, .null, .ref q_11, .ref q_13, .int 0, .int 0, .int 0, .int 0]))]) [0] rfl
  have hD := hD.sub (ws' := [(h0, .inr (0, [.ref q_1, .null, .ref q_11, .ref q_13, .int 0, .int 0, .int 0, .int 0]))]) [0] (by decide) rfl
  refine W.widen (k := 7) (n := 81) (Nat.le_of_ble_eq_true rfl) (Nat.le_of_ble_eq_true rfl) ?_
  exact W.vret hx hb hr (fun t ht hW => ⟨⟨(), rfl, trivial, trivial⟩, hS.F ht⟩) hS.2.2 dX0_init_31

set_option maxHeartbeats 4000000 in
set_option maxRecDepth 100000 in
/-- c_Image_init -/
theorem c_Image_init (l : Launch) (dC : Nat → ClassId) (dI : Nat → Nat → Nat) (sz : Nat) (h0 : Nat) : Met l yX4_init (.code yX4_init cX4_init 1 none :: wsA) ({ frames := 2, cells := 11, slots := 90, locals := 32 }) (va_Pc [.ref h0] (fun U => U.heap.size = sz ∧ va_P (dC, dI) classes [(h0, .inr (4, [.int 0, .null, .null, .null, .int 0, .int 0]))] U.heap ∧ va_K (dC, dI) classes [] U ∧ va_D (fun _ => True) [(h0, .inr (4, [.int 0, .null, .null, .null, .int 0, .int 0]))] ∧ xE U)) (va_Qv (fun (_ : Unit) => True) (fun _ t => ∃ (o_q_1 : Nat) (o_q_3 : Nat) (o_q_4 : Nat) (o_q_5 : Nat) (o_q_6 : Nat) (o_q_11 : Nat) (o_q_13 : Nat) (o_q_15 : Nat) (o_q_16 : Nat) (o_q_17 : Nat) (o_q_18 : Nat) (o_k_7 : ClassId) (o_k_8 : ClassId) (o_k_9 : ClassId) (o_k_10 : ClassId) (o_k_19 : ClassId) (o_k_20 : ClassId) (o_k_21 : ClassId) (o_k_22 : ClassId), va_P (dC, dI) classes [(h0, .inr (4, [.int 0, .ref o_q_1, .ref o_q_11, .ref o_q_13, .int (-1), .int 0])), (o_q_1, .inr (1, [.int 0, .int 0, .int 0, .ref o_q_3, .ref o_q_4, .ref o_q_5, .ref o_q_6])), (o_q_3, .inl (o_k_7, 8, .inl (fun _ => 0))), (o_q_4, .inl (o_k_8, 8, .inl (fun _ => 0))), (o_q_5, .inl (o_k_9, 8, .inl (fun _ => 0))), (o_q_6, .inl (o_k_10, 8, .inl (fun _ => 0))), (o_q_11, .inr (3, [.int 0, .int (-1), .int 0, .int 0, .int 0, .long 0])), (o_q_13, .inr (5, [.int 0, .ref o_q_15, .ref o_q_16, .ref o_q_17, .ref o_q_18])), (o_q_15, .inl (o_k_19, 10, .inl (fun _ => 0))), (o_q_16, .inl (o_k_20, 10, .inl (fun _ => 0))), (o_q_17, .inl (o_k_21, 10, .inl (fun _ => 0))), (o_q_18, .inl (o_k_22, 10, .inl (fun _ => 0)))] t.heap ∧ va_K (dC, dI) classes [(o_k_7, .int), (o_k_8, .int), (o_k_9, .int), (o_k_10, .int), (o_k_19, .int), (o_k_20, .int), (o_k_21, .int), (o_k_22, .int)] t ∧ va_D (va_A [(h0, .inr (4, [.int 0, .null, .null, .null, .int 0, .int 0]))] sz) [(h0, .inr (4, [.int 0, .ref o_q_1, .ref o_q_11, .ref o_q_13, .int (-1), .int 0])), (o_q_1, .inr (1, [.int 0, .int 0, .int 0, .ref o_q_3, .ref o_q_4, .ref o_q_5, .ref o_q_6])), (o_q_3, .inl (o_k_7, 8, .inl (fun _ => 0))), (o_q_4, .inl (o_k_8, 8, .inl (fun _ => 0))), (o_q_5, .inl (o_k_9, 8, .inl (fun _ => 0))), (o_q_6, .inl (o_k_10, 8, .inl (fun _ => 0))), (o_q_11, .inr (3, [.int 0, .int (-1), .int 0, .int 0, .int 0, .long 0])), (o_q_13, .inr (5, [.int 0, .ref o_q_15, .ref o_q_16, .ref o_q_17, .ref o_q_18])), (o_q_15, .inl (o_k_19, 10, .inl (fun _ => 0))), (o_q_16, .inl (o_k_20, 10, .inl (fun _ => 0))), (o_q_17, .inl (o_k_21, 10, .inl (fun _ => 0))), (o_q_18, .inl (o_k_22, 10, .inl (fun _ => 0)))]) (va_A [(h0, .inr (4, [.int 0, .null, .null, .null, .int 0, .int 0]))] sz)) 11 90 (va_A [(h0, .inr (4, [.int 0, .null, .null, .null, .int 0, .int 0]))] sz) := by
  refine Met.ofW (cc := cX4_init) (maxL := 1) (ret := none) (by decide) rfl ?_
  intro p e s m args below meth c s₁ B hml hv
  obtain ⟨rfl, hsz, hP, hK, hD0, hE⟩ := hv
  have hx := B.exec
  have hb := B.bytes
  have hr := B.returns
  have hts := atoms_spec (ws := .code yX4_init cX4_init 1 none :: wsA) B.pre
  have hq : ∀ w ∈ wsA, w.before _ s = true := fun w h => hts w (List.mem_cons_of_mem _ h)
  have hown : s.vm.findClass RX4 = some m.cls := findClass_of_methodNamed B.named
  have hlocks := B.notSynchronized
  have hin : meth.name = "<init>" := (name_of_methodNamed B.named B.method).1
  subst hsz
  have hD := hD0.self (sz := s.heap.size)
  generalize hAe : va_A [(h0, .inr (4, [.int 0, .null, .null, .null, .int 0, .int 0]))] s.heap.size = A at hD ⊢
  have hA : ∀ q : Nat, s.heap.size ≤ q → A q := fun q h => by rw [← hAe]; exact Or.inr h
  have hS : va_S A s.heap s.heap [] := va_S.rf
  have hl := lv_entry ([.ref h0]) (n := 1) (Nat.le_of_ble_eq_true rfl)
  rw [lg_entry_eq]
  generalize (lg_sl ([.ref h0]) ++ List.replicate (1 - (lg_sl ([.ref h0])).length) Slot.unset).toArray = ls at hl ⊢
  have hl : lv_has ls 1 [(0, .ref h0)] := hl
  refine lv_aload_n hx hb dX4_init_0 rfl (lv_at hl 0 rfl) ?_
  refine W.objInit hx hb hown (hq _ qw_419) (hq _ qw_145) (hq _ qw_146) rfl (by rw [hml]; exact hl.1) rfl dX4_init_1 (Nat.le_of_ble_eq_true rfl) (Nat.le_of_ble_eq_true rfl) ?_
  refine W.eq (g2 := F0 m 4 ls []) rfl ?_
  refine lv_aload_n hx hb dX4_init_4 rfl (lv_at hl 0 rfl) ?_
  refine va_new (ci := 1) (fs := [.int 0, .int 0, .int 0, .null, .null, .null, .null]) (C := RX1) (T := TX1) (N := 7) hx hb hq inX1 tyX1 tyX1_ok hown (hq _ qw_420) (hq _ qw_219) (hq _ qw_124) hK hP hD hS hA rfl (dfl_ok rfl) (Nat.le_of_ble_eq_true rfl) (Nat.le_of_ble_eq_true rfl) dX4_init_5 (fun q_1 H hP hD hS => ?_)
  have hP : va_P (dC, dI) classes [(h0, .inr (4, [.int 0, .null, .null, .null, .int 0, .int 0])), (q_1, .inr (1, [.int 0, .int 0, .int 0, .null, .null, .null, .null]))] H := hP
  have hD : va_D A [(h0, .inr (4, [.int 0, .null, .null, .null, .int 0, .int 0])), (q_1, .inr (1, [.int 0, .int 0, .int 0, .null, .null, .null, .null]))] := hD
  refine W.widen (k := 1) (n := 7) (Nat.le_of_ble_eq_true rfl) (Nat.le_of_ble_eq_true rfl) ?_
  refine lv_dup hx hb dX4_init_8 rfl ?_
  have hPc := hP.sub (ws' := [(q_1, .inr (1, [.int 0, .int 0, .int 0, .null, .null, .null, .null]))]) [1] rfl
  have hDc := hD.sub (ws' := [(q_1, .inr (1, [.int 0, .int 0, .int 0, .null, .null, .null, .null]))]) [1] (by decide) rfl
  have hKc := hK.sub (tys' := []) [] rfl
  have hFc := va_free (wc := [(q_1, .inr (1, [.int 0, .int 0, .int 0, .null, .null, .null, .null]))]) hD hS hA [1] rfl
  refine va_callv (va_runIN (As := []) (rest := [.ref q_1, .ref h0]) ⟨hx, hb, hml, hown, hq⟩ (c_Dinner_init l dC dI _ q_1 ) ⟨va_cnB (host := "SpokenBite") 0 hq (gC qw_222) rfl rfl rfl (xE_n hE (k := 14) rfl) (hq _ qw_124) (by decide +kernel) ⟨Nat.le_of_ble_eq_true rfl, Nat.le_of_ble_eq_true rfl⟩, rfl, (hq _ qw_221)⟩ ⟨fun a U g mk q => by obtain ⟨q0, q1, qP, qK, qD, qE⟩ := q; exact ⟨q0, q1, qP, va_K.moved (u := U) (U := U.calling g mk a) (Vm.Alike.refl U.vm) qK, qD, xE.same rfl qE⟩, fun U hU hW => ⟨rfl, by rw [hU], by rw [hU]; exact hPc, va_K.moved hW.alike hKc, hDc.weaken (fun _ _ _ _ => trivial), xE.warm hW hE⟩⟩ rfl rfl hl.1 rfl (lv_room (Nat.le_of_ble_eq_true rfl)) dX4_init_9 ⟨Nat.le_of_ble_eq_true rfl, Nat.le_of_ble_eq_true rfl⟩) hS (fun q _ h => hFc q h) hFc (fun u t H1 locs ht hvm hw hB hz1 hk1 hS => ?_)
  obtain ⟨q_3, q_4, q_5, q_6, k_7, k_8, k_9, k_10, hP1, hK1, hD1⟩ := hB
  rw [ht] at hP1
  have hK1 := va_K.moved hvm.symm hK1
  obtain ⟨hP, hD⟩ := va_join (wr := [(h0, .inr (4, [.int 0, .null, .null, .null, .int 0, .int 0]))]) (w1 := [(q_1, .inr (1, [.int 0, .int 0, .int 0, .ref q_3, .ref q_4, .ref q_5, .ref q_6])), (q_3, .inl (k_7, 8, .inl (fun _ => 0))), (q_4, .inl (k_8, 8, .inl (fun _ => 0))), (q_5, .inl (k_9, 8, .inl (fun _ => 0))), (q_6, .inl (k_10, 8, .inl (fun _ => 0)))]) hP hD [1] [0] rfl rfl (by decide) (by decide) hk1 hFc hP1 hD1
  have hK := hK.app (hK1.sub (tys' := [(k_7, .int), (k_8, .int), (k_9, .int), (k_10, .int)]) [0, 1, 2, 3] rfl)
  have hK : va_K (dC, dI) classes [(k_7, .int), (k_8, .int), (k_9, .int), (k_10, .int)] s := hK
  generalize H1 = H at hP hS ⊢
  have hP : va_P (dC, dI) classes [(h0, .inr (4, [.int 0, .null, .null, .null, .int 0, .int 0])), (q_1, .inr (1, [.int 0, .int 0, .int 0, .ref q_3, .ref q_4, .ref q_5, .ref q_6])), (q_3, .inl (k_7, 8, .inl (fun _ => 0))), (q_4, .inl (k_8, 8, .inl (fun _ => 0))), (q_5, .inl (k_9, 8, .inl (fun _ => 0))), (q_6, .inl (k_10, 8, .inl (fun _ => 0)))] H := hP
  have hD : va_D A [(h0, .inr (4, [.int 0, .null, .null, .null, .int 0, .int 0])), (q_1, .inr (1, [.int 0, .int 0, .int 0, .ref q_3, .ref q_4, .ref q_5, .ref q_6])), (q_3, .inl (k_7, 8, .inl (fun _ => 0))), (q_4, .inl (k_8, 8, .inl (fun _ => 0))), (q_5, .inl (k_9, 8, .inl (fun _ => 0))), (q_6, .inl (k_10, 8, .inl (fun _ => 0)))] := hD
  refine W.widen (k := 5) (n := 39) (Nat.le_of_ble_eq_true rfl) (Nat.le_of_ble_eq_true rfl) ?_
  refine va_putF (D := (dC, dI)) (ci := 4) (v := .ref q_1) (ty := .object "SpokenBite$Dinne\x72") (C := RX4) (T := TX4) (N := 6) hx hb hq inX4 tyX4 tyX4_ok nmX4 hown hK hP hD hS 0 rfl rfl 1 (by decide) (hq _ qw_427) (fun _ h9 => h9) rfl hin rfl (by decide +kernel) rfl rfl (Nat.le_of_ble_eq_true rfl) dX4_init_12 (fun H locs hP hD hS => ?_)
  have hP : va_P (dC, dI) classes [(h0, .inr (4, [.int 0, .ref q_1, .null, .null, .int 0, .int 0])), (q_1, .inr (1, [.int 0, .int 0, .int 0, .ref q_3, .ref q_4, .ref q_5, .ref q_6])), (q_3, .inl (k_7, 8, .inl (fun _ => 0))), (q_4, .inl (k_8, 8, .inl (fun _ => 0))), (q_5, .inl (k_9, 8, .inl (fun _ => 0))), (q_6, .inl (k_10, 8, .inl (fun _ => 0)))] H := hP
  have hD : va_D A [(h0, .inr (4, [.int 0, .ref q_1, .null, .null, .int 0, .int 0])), (q_1, .inr (1, [.int 0, .int 0, .int 0, .ref q_3, .ref q_4, .ref q_5, .ref q_6])), (q_3, .inl (k_7, 8, .inl (fun _ => 0))), (q_4, .inl (k_8, 8, .inl (fun _ => 0))), (q_5, .inl (k_9, 8, .inl (fun _ => 0))), (q_6, .inl (k_10, 8, .inl (fun _ => 0)))] := hD
  refine lv_aload_n hx hb dX4_init_15 rfl (lv_at hl 0 rfl) ?_
  refine va_new (ci := 3) (fs := [.int 0, .int 0, .int 0, .int 0, .int 0, .long 0]) (C := RX3) (T := TX3) (N := 6) hx hb hq inX3 tyX3 tyX3_ok hown (hq _ qw_422) (hq _ qw_264) (hq _ qw_125) hK hP hD hS hA rfl (dfl_ok rfl) (Nat.le_of_ble_eq_true rfl) (Nat.le_of_ble_eq_true rfl) dX4_init_16 (fun q_11 H hP hD hS => ?_)
  have hP : va_P (dC, dI) classes [(h0, .inr (4, [.int 0, .ref q_1, .null, .null, .int 0, .int 0])), (q_1, .inr (1, [.int 0, .int 0, .int 0, .ref q_3, .ref q_4, .ref q_5, .ref q_6])), (q_3, .inl (k_7, 8, .inl (fun _ => 0))), (q_4, .inl (k_8, 8, .inl (fun _ => 0))), (q_5, .inl (k_9, 8, .inl (fun _ => 0))), (q_6, .inl (k_10, 8, .inl (fun _ => 0))), (q_11, .inr (3, [.int 0, .int 0, .int 0, .int 0, .int 0, .long 0]))] H := hP
  have hD : va_D A [(h0, .inr (4, [.int 0, .ref q_1, .null, .null, .int 0, .int 0])), (q_1, .inr (1, [.int 0, .int 0, .int 0, .ref q_3, .ref q_4, .ref q_5, .ref q_6])), (q_3, .inl (k_7, 8, .inl (fun _ => 0))), (q_4, .inl (k_8, 8, .inl (fun _ => 0))), (q_5, .inl (k_9, 8, .inl (fun _ => 0))), (q_6, .inl (k_10, 8, .inl (fun _ => 0))), (q_11, .inr (3, [.int 0, .int 0, .int 0, .int 0, .int 0, .long 0]))] := hD
  refine W.widen (k := 6) (n := 45) (Nat.le_of_ble_eq_true rfl) (Nat.le_of_ble_eq_true rfl) ?_
  refine lv_dup hx hb dX4_init_19 rfl ?_
  have hPc := hP.sub (ws' := [(q_11, .inr (3, [.int 0, .int 0, .int 0, .int 0, .int 0, .long 0]))]) [6] rfl
  have hDc := hD.sub (ws' := [(q_11, .inr (3, [.int 0, .int 0, .int 0, .int 0, .int 0, .long 0]))]) [6] (by decide) rfl
  have hKc := hK.sub (tys' := []) [] rfl
  have hFc := va_free (wc := [(q_11, .inr (3, [.int 0, .int 0, .int 0, .int 0, .int 0, .long 0]))]) hD hS hA [6] rfl
  refine va_callv (va_runIN (As := []) (rest := [.ref q_11, .ref h0]) ⟨hx, hb, hml, hown, hq⟩ (c_Evening_init l dC dI _ q_11 ) ⟨va_cnB (host := "SpokenBite") 0 hq (gC qw_267) rfl rfl rfl (xE_n hE (k := 15) rfl) (hq _ qw_125) (by decide +kernel) ⟨Nat.le_of_ble_eq_true rfl, Nat.le_of_ble_eq_true rfl⟩, rfl, (hq _ qw_266)⟩ ⟨fun a U g mk q => by obtain ⟨q0, q1, qP, qK, qD, qE⟩ := q; exact ⟨q0, q1, qP, va_K.moved (u := U) (U := U.calling g mk a) (Vm.Alike.refl U.vm) qK, qD, xE.same rfl qE⟩, fun U hU hW => ⟨rfl, by rw [hU], by rw [hU]; exact hPc, va_K.moved hW.alike hKc, hDc.weaken (fun _ _ _ _ => trivial), xE.warm hW hE⟩⟩ rfl rfl hl.1 rfl (lv_room (Nat.le_of_ble_eq_true rfl)) dX4_init_20 ⟨Nat.le_of_ble_eq_true rfl, Nat.le_of_ble_eq_true rfl⟩) hS (fun q _ h => hFc q h) hFc (fun u t H1 locs ht hvm hw hB hz1 hk1 hS => ?_)
  obtain ⟨hP1, hK1, hD1⟩ := hB
  rw [ht] at hP1
  have hK1 := va_K.moved hvm.symm hK1
  obtain ⟨hP, hD⟩ := va_join (wr := [(h0, .inr (4, [.int 0, .ref q_1, .null, .null, .int 0, .int 0])), (q_1, .inr (1, [.int 0, .int 0, .int 0, .ref q_3, .ref q_4, .ref q_5, .ref q_6])), (q_3, .inl (k_7, 8, .inl (fun _ => 0))), (q_4, .inl (k_8, 8, .inl (fun _ => 0))), (q_5, .inl (k_9, 8, .inl (fun _ => 0))), (q_6, .inl (k_10, 8, .inl (fun _ => 0)))]) (w1 := [(q_11, .inr (3, [.int 0, .int (-1), .int 0, .int 0, .int 0, .long 0]))]) hP hD [6] [0, 1, 2, 3, 4, 5] rfl rfl (by decide) (by decide) hk1 hFc hP1 hD1
  generalize H1 = H at hP hS ⊢
  have hP : va_P (dC, dI) classes [(h0, .inr (4, [.int 0, .ref q_1, .null, .null, .int 0, .int 0])), (q_1, .inr (1, [.int 0, .int 0, .int 0, .ref q_3, .ref q_4, .ref q_5, .ref q_6])), (q_3, .inl (k_7, 8, .inl (fun _ => 0))), (q_4, .inl (k_8, 8, .inl (fun _ => 0))), (q_5, .inl (k_9, 8, .inl (fun _ => 0))), (q_6, .inl (k_10, 8, .inl (fun _ => 0))), (q_11, .inr (3, [.int 0, .int (-1), .int 0, .int 0, .int 0, .long 0]))] H := hP
  have hD : va_D A [(h0, .inr (4, [.int 0, .ref q_1, .null, .null, .int 0, .int 0])), (q_1, .inr (1, [.int 0, .int 0, .int 0, .ref q_3, .ref q_4, .ref q_5, .ref q_6])), (q_3, .inl (k_7, 8, .inl (fun _ => 0))), (q_4, .inl (k_8, 8, .inl (fun _ => 0))), (q_5, .inl (k_9, 8, .inl (fun _ => 0))), (q_6, .inl (k_10, 8, .inl (fun _ => 0))), (q_11, .inr (3, [.int 0, .int (-1), .int 0, .int 0, .int 0, .long 0]))] := hD
  refine va_putF (D := (dC, dI)) (ci := 4) (v := .ref q_11) (ty := .object "SpokenBite$Evening") (C := RX4) (T := TX4) (N := 6) hx hb hq inX4 tyX4 tyX4_ok nmX4 hown hK hP hD hS 0 rfl rfl 2 (by decide) (hq _ qw_429) (fun _ h9 => h9) rfl hin rfl (by decide +kernel) rfl rfl (Nat.le_of_ble_eq_true rfl) dX4_init_23 (fun H locs hP hD hS => ?_)
  have hP : va_P (dC, dI) classes [(h0, .inr (4, [.int 0, .ref q_1, .ref q_11, .null, .int 0, .int 0])), (q_1, .inr (1, [.int 0, .int 0, .int 0, .ref q_3, .ref q_4, .ref q_5, .ref q_6])), (q_3, .inl (k_7, 8, .inl (fun _ => 0))), (q_4, .inl (k_8, 8, .inl (fun _ => 0))), (q_5, .inl (k_9, 8, .inl (fun _ => 0))), (q_6, .inl (k_10, 8, .inl (fun _ => 0))), (q_11, .inr (3, [.int 0, .int (-1), .int 0, .int 0, .int 0, .long 0]))] H := hP
  have hD : va_D A [(h0, .inr (4, [.int 0, .ref q_1, .ref q_11, .null, .int 0, .int 0])), (q_1, .inr (1, [.int 0, .int 0, .int 0, .ref q_3, .ref q_4, .ref q_5, .ref q_6])), (q_3, .inl (k_7, 8, .inl (fun _ => 0))), (q_4, .inl (k_8, 8, .inl (fun _ => 0))), (q_5, .inl (k_9, 8, .inl (fun _ => 0))), (q_6, .inl (k_10, 8, .inl (fun _ => 0))), (q_11, .inr (3, [.int 0, .int (-1), .int 0, .int 0, .int 0, .long 0]))] := hD
  refine lv_aload_n hx hb dX4_init_26 rfl (lv_at hl 0 rfl) ?_
  refine va_new (ci := 5) (fs := [.int 0, .null, .null, .null, .null]) (C := RX5) (T := TX5) (N := 5) hx hb hq inX5 tyX5 tyX5_ok hown (hq _ qw_424) (hq _ qw_302) (hq _ qw_126) hK hP hD hS hA rfl (dfl_ok rfl) (Nat.le_of_ble_eq_true rfl) (Nat.le_of_ble_eq_true rfl) dX4_init_27 (fun q_13 H hP hD hS => ?_)
  have hP : va_P (dC, dI) classes [(h0, .inr (4, [.int 0, .ref q_1, .ref q_11, .null, .int 0, .int 0])), (q_1, .inr (1, [.int 0, .int 0, .int 0, .ref q_3, .ref q_4, .ref q_5, .ref q_6])), (q_3, .inl (k_7, 8, .inl (fun _ => 0))), (q_4, .inl (k_8, 8, .inl (fun _ => 0))), (q_5, .inl (k_9, 8, .inl (fun _ => 0))), (q_6, .inl (k_10, 8, .inl (fun _ => 0))), (q_11, .inr (3, [.int 0, .int (-1), .int 0, .int 0, .int 0, .long 0])), (q_13, .inr (5, [.int 0, .null, .null, .null, .null]))] H := hP
  have hD : va_D A [(h0, .inr (4, [.int 0, .ref q_1, .ref q_11, .null, .int 0, .int 0])), (q_1, .inr (1, [.int 0, .int 0, .int 0, .ref q_3, .ref q_4, .ref q_5, .ref q_6])), (q_3, .inl (k_7, 8, .inl (fun _ => 0))), (q_4, .inl (k_8, 8, .inl (fun _ => 0))), (q_5, .inl (k_9, 8, .inl (fun _ => 0))), (q_6, .inl (k_10, 8, .inl (fun _ => 0))), (q_11, .inr (3, [.int 0, .int (-1), .int 0, .int 0, .int 0, .long 0])), (q_13, .inr (5, [.int 0, .null, .null, .null, .null]))] := hD
  refine W.widen (k := 7) (n := 50) (Nat.le_of_ble_eq_true rfl) (Nat.le_of_ble_eq_true rfl) ?_
  refine lv_dup hx hb dX4_init_30 rfl ?_
  have hPc := hP.sub (ws' := [(q_13, .inr (5, [.int 0, .null, .null, .null, .null]))]) [7] rfl
  have hDc := hD.sub (ws' := [(q_13, .inr (5, [.int 0, .null, .null, .null, .null]))]) [7] (by decide) rfl
  have hKc := hK.sub (tys' := []) [] rfl
  have hFc := va_free (wc := [(q_13, .inr (5, [.int 0, .null, .null, .null, .null]))]) hD hS hA [7] rfl
  refine va_callv (va_runIN (As := []) (rest := [.ref q_13, .ref h0]) ⟨hx, hb, hml, hown, hq⟩ (c_Notes_init l dC dI _ q_13 ) ⟨va_cnB (host := "SpokenBite") 0 hq (gC qw_305) rfl rfl rfl (xE_n hE (k := 16) rfl) (hq _ qw_126) (by decide +kernel) ⟨Nat.le_of_ble_eq_true rfl, Nat.le_of_ble_eq_true rfl⟩, rfl, (hq _ qw_304)⟩ ⟨fun a U g mk q => by obtain ⟨q0, q1, qP, qK, qD, qE⟩ := q; exact ⟨q0, q1, qP, va_K.moved (u := U) (U := U.calling g mk a) (Vm.Alike.refl U.vm) qK, qD, xE.same rfl qE⟩, fun U hU hW => ⟨rfl, by rw [hU], by rw [hU]; exact hPc, va_K.moved hW.alike hKc, hDc.weaken (fun _ _ _ _ => trivial), xE.warm hW hE⟩⟩ rfl rfl hl.1 rfl (lv_room (Nat.le_of_ble_eq_true rfl)) dX4_init_31 ⟨Nat.le_of_ble_eq_true rfl, Nat.le_of_ble_eq_true rfl⟩) hS (fun q _ h => hFc q h) hFc (fun u t H1 locs ht hvm hw hB hz1 hk1 hS => ?_)
  obtain ⟨q_15, q_16, q_17, q_18, k_19, k_20, k_21, k_22, hP1, hK1, hD1⟩ := hB
  rw [ht] at hP1
  have hK1 := va_K.moved hvm.symm hK1
  obtain ⟨hP, hD⟩ := va_join (wr := [(h0, .inr (4, [.int 0, .ref q_1, .ref q_11, .null, .int 0, .int 0])), (q_1, .inr (1, [.int 0, .int 0, .int 0, .ref q_3, .ref q_4, .ref q_5, .ref q_6])), (q_3, .inl (k_7, 8, .inl (fun _ => 0))), (q_4, .inl (k_8, 8, .inl (fun _ => 0))), (q_5, .inl (k_9, 8, .inl (fun _ => 0))), (q_6, .inl (k_10, 8, .inl (fun _ => 0))), (q_11, .inr (3, [.int 0, .int (-1), .int 0, .int 0, .int 0, .long 0]))]) (w1 := [(q_13, .inr (5, [.int 0, .ref q_15, .ref q_16, .ref q_17, .ref q_18])), (q_15, .inl (k_19, 10, .inl (fun _ => 0))), (q_16, .inl (k_20, 10, .inl (fun _ => 0))), (q_17, .inl (k_21, 10, .inl (fun _ => 0))), (q_18, .inl (k_22, 10, .inl (fun _ => 0)))]) hP hD [7] [0, 1, 2, 3, 4, 5, 6] rfl rfl (by decide) (by decide) hk1 hFc hP1 hD1
  have hK := hK.app (hK1.sub (tys' := [(k_19, .int), (k_20, .int), (k_21, .int), (k_22, .int)]) [0, 1, 2, 3] rfl)
  have hK : va_K (dC, dI) classes [(k_7, .int), (k_8, .int), (k_9, .int), (k_10, .int), (k_19, .int), (k_20, .int), (k_21, .int), (k_22, .int)] s := hK
  generalize H1 = H at hP hS ⊢
  have hP : va_P (dC, dI) classes [(h0, .inr (4, [.int 0, .ref q_1, .ref q_11, .null, .int 0, .int 0])), (q_1, .inr (1, [.int 0, .int 0, .int 0, .ref q_3, .ref q_4, .ref q_5, .ref q_6])), (q_3, .inl (k_7, 8, .inl (fun _ => 0))), (q_4, .inl (k_8, 8, .inl (fun _ => 0))), (q_5, .inl (k_9, 8, .inl (fun _ => 0))), (q_6, .inl (k_10, 8, .inl (fun _ => 0))), (q_11, .inr (3, [.int 0, .int (-1), .int 0, .int 0, .int 0, .long 0])), (q_13, .inr (5, [.int 0, .ref q_15, .ref q_16, .ref q_17, .ref q_18])), (q_15, .inl (k_19, 10, .inl (fun _ => 0))), (q_16, .inl (k_20, 10, .inl (fun _ => 0))), (q_17, .inl (k_21, 10, .inl (fun _ => 0))), (q_18, .inl (k_22, 10, .inl (fun _ => 0)))] H := hP
  have hD : va_D A [(h0, .inr (4, [.int 0, .ref q_1, .ref q_11, .null, .int 0, .int 0])), (q_1, .inr (1, [.int 0, .int 0, .int 0, .ref q_3, .ref q_4, .ref q_5, .ref q_6])), (q_3, .inl (k_7, 8, .inl (fun _ => 0))), (q_4, .inl (k_8, 8, .inl (fun _ => 0))), (q_5, .inl (k_9, 8, .inl (fun _ => 0))), (q_6, .inl (k_10, 8, .inl (fun _ => 0))), (q_11, .inr (3, [.int 0, .int (-1), .int 0, .int 0, .int 0, .long 0])), (q_13, .inr (5, [.int 0, .ref q_15, .ref q_16, .ref q_17, .ref q_18])), (q_15, .inl (k_19, 10, .inl (fun _ => 0))), (q_16, .inl (k_20, 10, .inl (fun _ => 0))), (q_17, .inl (k_21, 10, .inl (fun _ => 0))), (q_18, .inl (k_22, 10, .inl (fun _ => 0)))] := hD
  refine W.widen (k := 11) (n := 90) (Nat.le_of_ble_eq_true rfl) (Nat.le_of_ble_eq_true rfl) ?_
  refine va_putF (D := (dC, dI)) (ci := 4) (v := .ref q_13) (ty := .object "SpokenBite$Notes") (C := RX4) (T := TX4) (N := 6) hx hb hq inX4 tyX4 tyX4_ok nmX4 hown hK hP hD hS 0 rfl rfl 3 (by decide) (hq _ qw_431) (fun _ h9 => h9) rfl hin rfl (by decide +kernel) rfl rfl (Nat.le_of_ble_eq_true rfl) dX4_init_34 (fun H locs hP hD hS => ?_)
  have hP : va_P (dC, dI) classes [(h0, .inr (4, [.int 0, .ref q_1, .ref q_11, .ref q_13, .int 0, .int 0])), (q_1, .inr (1, [.int 0, .int 0, .int 0, .ref q_3, .ref q_4, .ref q_5, .ref q_6])), (q_3, .inl (k_7, 8, .inl (fun _ => 0))), (q_4, .inl (k_8, 8, .inl (fun _ => 0))), (q_5, .inl (k_9, 8, .inl (fun _ => 0))), (q_6, .inl (k_10, 8, .inl (fun _ => 0))), (q_11, .inr (3, [.int 0, .int (-1), .int 0, .int 0, .int 0, .long 0])), (q_13, .inr (5, [.int 0, .ref q_15, .ref q_16, .ref q_17, .ref q_18])), (q_15, .inl (k_19, 10, .inl (fun _ => 0))), (q_16, .inl (k_20, 10, .inl (fun _ => 0))), (q_17, .inl (k_21, 10, .inl (fun _ => 0))), (q_18, .inl (k_22, 10, .inl (fun _ => 0)))] H := hP
  have hD : va_D A [(h0, .inr (4, [.int 0, .ref q_1, .ref q_11, .ref q_13, .int 0, .int 0])), (q_1, .inr (1, [.int 0, .int 0, .int 0, .ref q_3, .ref q_4, .ref q_5, .ref q_6])), (q_3, .inl (k_7, 8, .inl (fun _ => 0))), (q_4, .inl (k_8, 8, .inl (fun _ => 0))), (q_5, .inl (k_9, 8, .inl (fun _ => 0))), (q_6, .inl (k_10, 8, .inl (fun _ => 0))), (q_11, .inr (3, [.int 0, .int (-1), .int 0, .int 0, .int 0, .long 0])), (q_13, .inr (5, [.int 0, .ref q_15, .ref q_16, .ref q_17, .ref q_18])), (q_15, .inl (k_19, 10, .inl (fun _ => 0))), (q_16, .inl (k_20, 10, .inl (fun _ => 0))), (q_17, .inl (k_21, 10, .inl (fun _ => 0))), (q_18, .inl (k_22, 10, .inl (fun _ => 0)))] := hD
  refine lv_aload_n hx hb dX4_init_37 rfl (lv_at hl 0 rfl) ?_
  refine lv_iconst (v := (-1)) hx hb dX4_init_38 (by decide) ?_
  refine va_put (D := (dC, dI)) (ci := 4) (v := .int (-1)) (ty := .int) (C := RX4) (T := TX4) (N := 6) hx hb hq inX4 tyX4 tyX4_ok nmX4 hown hK hP hD hS 0 rfl rfl 4 (by decide) (hq _ qw_433) (fun _ h9 => h9) rfl (by decide +kernel) rfl rfl (Nat.le_of_ble_eq_true rfl) dX4_init_39 (fun H locs hP hD hS => ?_)
  have hP : va_P (dC, dI) classes [(h0, .inr (4, [.int 0, .ref q_1, .ref q_11, .ref q_13, .int (-1), .int 0])), (q_1, .inr (1, [.int 0, .int 0, .int 0, .ref q_3, .ref q_4, .ref q_5, .ref q_6])), (q_3, .inl (k_7, 8, .inl (fun _ => 0))), (q_4, .inl (k_8, 8, .inl (fun _ => 0))), (q_5, .inl (k_9, 8, .inl (fun _ => 0))), (q_6, .inl (k_10, 8, .inl (fun _ => 0))), (q_11, .inr (3, [.int 0, .int (-1), .int 0, .int 0, .int 0, .long 0])), (q_13, .inr (5, [.int 0, .ref q_15, .ref q_16, .ref q_17, .ref q_18])), (q_15, .inl (k_19, 10, .inl (fun _ => 0))), (q_16, .inl (k_20, 10, .inl (fun _ => 0))), (q_17, .inl (k_21, 10, .inl (fun _ => 0))), (q_18, .inl (k_22, 10, .inl (fun _ => 0)))] H := hP
  have hD : va_D A [(h0, .inr (4, [.int 0, .ref q_1, .ref q_11, .ref q_13, .int (-1), .int 0])), (q_1, .inr (1, [.int 0, .int 0, .int 0, .ref q_3, .ref q_4, .ref q_5, .ref q_6])), (q_3, .inl (k_7, 8, .inl (fun _ => 0))), (q_4, .inl (k_8, 8, .inl (fun _ => 0))), (q_5, .inl (k_9, 8, .inl (fun _ => 0))), (q_6, .inl (k_10, 8, .inl (fun _ => 0))), (q_11, .inr (3, [.int 0, .int (-1), .int 0, .int 0, .int 0, .long 0])), (q_13, .inr (5, [.int 0, .ref q_15, .ref q_16, .ref q_17, .ref q_18])), (q_15, .inl (k_19, 10, .inl (fun _ => 0))), (q_16, .inl (k_20, 10, .inl (fun _ => 0))), (q_17, .inl (k_21, 10, .inl (fun _ => 0))), (q_18, .inl (k_22, 10, .inl (fun _ => 0)))] := hD
  have hP9 := hP.sub (ws' := [(h0, .inr (4, [.int 0, .ref q_1, .ref q_11, .ref q_13, .int (-1), .int 0])), (q_1, .inr (1, [.int 0, .int 0, .int 0, .ref q_3, .ref q_4, .ref q_5, .ref q_6])), (q_3, .inl (k_7, 8, .inl (fun _ => 0))), (q_4, .inl (k_8, 8, .inl (fun _ => 0))), (q_5, .inl (k_9, 8, .inl (fun _ => 0))), (q_6, .inl (k_10, 8, .inl (fun _ => 0))), (q_11, .inr (3, [.int 0, .int (-1), .int 0, .int 0, .int 0, .long 0])), (q_13, .inr (5, [.int 0, .ref q_15, .ref q_16, .ref q_17, .ref q_18])), (q_15, .inl (k_19, 10, .inl (fun _ => 0))), (q_16, .inl (k_20, 10, .inl (fun _ => 0))), (q_17, .inl (k_21, 10, .inl (fun _ => 0))), (q_18, .inl (k_22, 10, .inl (fun _ => 0)))]) [0, 1, 2, 3, 4, 5, 6, 7, 8, 9, 10, 11] rfl
  have hD9 := hD.sub (ws' := [(h0, .inr (4, [.int 0, .ref q_1, .ref q_11, .ref q_13, .int (-1), .int 0])), (q_1, .inr (1, [.int 0, .int 0, .int 0, .ref q_3, .ref q_4, .ref q_5, .ref q_6])), (q_3, .inl (k_7, 8, .inl (fun _ => 0))), (q_4, .inl (k_8, 8, .inl (fun _ => 0))), (q_5, .inl (k_9, 8, .inl (fun _ => 0))), (q_6, .inl (k_10, 8, .inl (fun _ => 0))), (q_11, .inr (3, [.int 0, .int (-1), .int 0, .int 0, .int 0, .long 0])), (q_13, .inr (5, [.int 0, .ref q_15, .ref q_16, .ref q_17, .ref q_18])), (q_15, .inl (k_19, 10, .inl (fun _ => 0))), (q_16, .inl (k_20, 10, .inl (fun _ => 0))), (q_17, .inl (k_21, 10, .inl (fun _ => 0))), (q_18, .inl (k_22, 10, .inl (fun _ => 0)))]) [0, 1, 2, 3, 4, 5, 6, 7, 8, 9, 10, 11] (by decide) rfl
  have hK9 := hK.sub (tys' := [(k_7, .int), (k_8, .int), (k_9, .int), (k_10, .int), (k_19, .int), (k_20, .int), (k_21, .int), (k_22, .int)]) [0, 1, 2, 3, 4, 5, 6, 7] rfl
  refine W.widen (k := 11) (n := 90) (Nat.le_of_ble_eq_true rfl) (Nat.le_of_ble_eq_true rfl) ?_
  exact W.vret hx hb hr (fun t ht hW => ⟨⟨(), rfl, trivial, q_1, q_3, q_4, q_5, q_6, q_11, q_13, q_15, q_16, q_17, q_18, k_7, k_8, k_9, k_10, k_19, k_20, k_21, k_22, by rw [ht]; exact hP9, va_K.moved hW.alike hK9, hD9⟩, hS.F ht⟩) hS.2.2 dX4_init_42

set_option maxHeartbeats 4000000 in
set_option maxRecDepth 100000 in
/-- c_RowSearch_init -/
theorem c_RowSearch_init (l : Launch) (dC : Nat → ClassId) (dI : Nat → Nat → Nat) (sz : Nat) (h0 : Nat) : Met l yX8_init (.code yX8_init cX8_init 2 none :: wsA) ({ frames := 2, cells := 8, slots := 43, locals := 32 }) (va_Pc [.ref h0] (fun U => U.heap.size = sz ∧ va_P (dC, dI) classes [(h0, .inr (8, [.null, .null, .null, .int 0, .int 0, .int 0, .int 0]))] U.heap ∧ va_K (dC, dI) classes [] U ∧ va_D (fun _ => True) [(h0, .inr (8, [.null, .null, .null, .int 0, .int 0, .int 0, .int 0]))] ∧ xE U)) (va_Qv (fun (_ : Unit) => True) (fun _ _ => True) (va_A [(h0, .inr (8, [.null, .null, .null, .int 0, .int 0, .int 0, .int 0]))] sz)) 8 43 (va_A [(h0, .inr (8, [.null, .null, .null, .int 0, .int 0, .int 0, .int 0]))] sz) := by
  refine Met.ofW (cc := cX8_init) (maxL := 2) (ret := none) (by decide) rfl ?_
  intro p e s m args below meth c s₁ B hml hv
  obtain ⟨rfl, hsz, hP, hK, hD0, hE⟩ := hv
  have hx := B.exec
  have hb := B.bytes
  have hr := B.returns
  have hts := atoms_spec (ws := .code yX8_init cX8_init 2 none :: wsA) B.pre
  have hq : ∀ w ∈ wsA, w.before _ s = true := fun w h => hts w (List.mem_cons_of_mem _ h)
  have hown : s.vm.findClass RX8 = some m.cls := findClass_of_methodNamed B.named
  have hlocks := B.notSynchronized
  have hin : meth.name = "<init>" := (name_of_methodNamed B.named B.method).1
  subst hsz
  have hD := hD0.self (sz := s.heap.size)
  generalize hAe : va_A [(h0, .inr (8, [.null, .null, .null, .int 0, .int 0, .int 0, .int 0]))] s.heap.size = A at hD ⊢
  have hA : ∀ q : Nat, s.heap.size ≤ q → A q := fun q h => by rw [← hAe]; exact Or.inr h
  have hS : va_S A s.heap s.heap [] := va_S.rf
  have hl := lv_entry ([.ref h0]) (n := 2) (Nat.le_of_ble_eq_true rfl)
  rw [lg_entry_eq]
  generalize (lg_sl ([.ref h0]) ++ List.replicate (2 - (lg_sl ([.ref h0])).length) Slot.unset).toArray = ls at hl ⊢
  have hl : lv_has ls 2 [(0, .ref h0)] := hl
  refine lv_aload_n hx hb dX8_init_0 rfl (lv_at hl 0 rfl) ?_
  refine W.objInit hx hb hown (hq _ qw_388) (hq _ qw_145) (hq _ qw_146) rfl (by rw [hml]; exact hl.1) rfl dX8_init_1 (Nat.le_of_ble_eq_true rfl) (Nat.le_of_ble_eq_true rfl) ?_
  refine W.eq (g2 := F0 m 4 ls []) rfl ?_
  refine lv_aload_n hx hb dX8_init_4 rfl (lv_at hl 0 rfl) ?_
  refine lv_iconst (v := 5) hx hb dX8_init_5 (by decide) ?_
  refine va_newq (C := RX3) (N' := 5) hx hb hown (hq _ qw_389) (xE_X3 hE) hK hP hD hS hA (by decide) (by decide) (Nat.le_of_ble_eq_true rfl) (Nat.le_of_ble_eq_true rfl) (Nat.le_of_ble_eq_true rfl) dX8_init_6 (fun q_1 k_2 H hK hP hD hS => ?_)
  have hP : va_P (dC, dI) classes [(h0, .inr (8, [.null, .null, .null, .int 0, .int 0, .int 0, .int 0])), (q_1, .inl (k_2, 5, .inr (.inr (.inr (.inr (fun _ => none))))))] H := hP
  have hD : va_D A [(h0, .inr (8, [.null, .null, .null, .int 0, .int 0, .int 0, .int 0])), (q_1, .inl (k_2, 5, .inr (.inr (.inr (.inr (fun _ => none))))))] := hD
  have hK : va_K (dC, dI) classes [(k_2, .object RX3)] s := hK
  refine W.widen (k := 1) (n := 5) (Nat.le_of_ble_eq_true rfl) (Nat.le_of_ble_eq_true rfl) ?_
  refine va_putF (D := (dC, dI)) (ci := 8) (v := .ref q_1) (ty := .array (.object "SpokenBite$Evening")) (C := RX8) (T := TX8) (N := 7) hx hb hq inX8 tyX8 tyX8_ok nmX8 hown hK hP hD hS 0 rfl rfl 0 (by decide) (hq _ qw_391) (fun _ h9 => h9) rfl hin rfl (by decide +kernel) rfl rfl (Nat.le_of_ble_eq_true rfl) dX8_init_9 (fun H locs hP hD hS => ?_)
  have hP : va_P (dC, dI) classes [(h0, .inr (8, [.ref q_1, .null, .null, .int 0, .int 0, .int 0, .int 0])), (q_1, .inl (k_2, 5, .inr (.inr (.inr (.inr (fun _ => none))))))] H := hP
  have hD : va_D A [(h0, .inr (8, [.ref q_1, .null, .null, .int 0, .int 0, .int 0, .int 0])), (q_1, .inl (k_2, 5, .inr (.inr (.inr (.inr (fun _ => none))))))] := hD
  refine lv_aload_n hx hb dX8_init_12 rfl (lv_at hl 0 rfl) ?_
  refine lv_iconst (v := 4) hx hb dX8_init_13 (by decide) ?_
  refine va_newa (atype := .int) (ty := .int) (N' := 4) (a0 := (4, .inl (fun _ => 0))) hx hb (hq _ qw_176) rfl hK hP hD hS hA (fun _ => rfl) (by decide) (by decide) (Nat.le_of_ble_eq_true rfl) (Nat.le_of_ble_eq_true rfl) (Nat.le_of_ble_eq_true rfl) dX8_init_14 (fun q_3 k_4 H hK hP hD hS => ?_)
  have hP : va_P (dC, dI) classes [(h0, .inr (8, [.ref q_1, .null, .null, .int 0, .int 0, .int 0, .int 0])), (q_1, .inl (k_2, 5, .inr (.inr (.inr (.inr (fun _ => none)))))), (q_3, .inl (k_4, 4, .inl (fun _ => 0)))] H := hP
  have hD : va_D A [(h0, .inr (8, [.ref q_1, .null, .null, .int 0, .int 0, .int 0, .int 0])), (q_1, .inl (k_2, 5, .inr (.inr (.inr (.inr (fun _ => none)))))), (q_3, .inl (k_4, 4, .inl (fun _ => 0)))] := hD
  have hK : va_K (dC, dI) classes [(k_2, .object RX3), (k_4, .int)] s := hK
  refine W.widen (k := 2) (n := 9) (Nat.le_of_ble_eq_true rfl) (Nat.le_of_ble_eq_true rfl) ?_
  refine va_putF (D := (dC, dI)) (ci := 8) (v := .ref q_3) (ty := .array .int) (C := RX8) (T := TX8) (N := 7) hx hb hq inX8 tyX8 tyX8_ok nmX8 hown hK hP hD hS 0 rfl rfl 1 (by decide) (hq _ qw_392) (fun _ h9 => h9) rfl hin rfl (by decide +kernel) rfl rfl (Nat.le_of_ble_eq_true rfl) dX8_init_16 (fun H locs hP hD hS => ?_)
  have hP : va_P (dC, dI) classes [(h0, .inr (8, [.ref q_1, .ref q_3, .null, .int 0, .int 0, .int 0, .int 0])), (q_1, .inl (k_2, 5, .inr (.inr (.inr (.inr (fun _ => none)))))), (q_3, .inl (k_4, 4, .inl (fun _ => 0)))] H := hP
  have hD : va_D A [(h0, .inr (8, [.ref q_1, .ref q_3, .null, .int 0, .int 0, .int 0, .int 0])), (q_1, .inl (k_2, 5, .inr (.inr (.inr (.inr (fun _ => none)))))), (q_3, .inl (k_4, 4, .inl (fun _ => 0)))] := hD
  have hP := hP.sub (ws' := [(h0, .inr (8, [.ref q_1, .ref q_3, .null, .int 0, .int 0, .int 0, .int 0])), (q_1, .inl (k_2, 5, .inr (.inr (.inr (.inr (fun _ => none))))))]) [0, 1] rfl
  have hD := hD.sub (ws' := [(h0, .inr (8, [.ref q_1, .ref q_3, .null, .int 0, .int 0, .int 0, .int 0])), (q_1, .inl (k_2, 5, .inr (.inr (.inr (.inr (fun _ => none))))))]) [0, 1] (by decide) rfl
  refine lv_aload_n hx hb dX8_init_19 rfl (lv_at hl 0 rfl) ?_
  refine lv_iconst (v := 4) hx hb dX8_init_20 (by decide) ?_
  refine va_newa (atype := .int) (ty := .int) (N' := 4) (a0 := (4, .inl (fun _ => 0))) hx hb (hq _ qw_176) rfl hK hP hD hS hA (fun _ => rfl) (by decide) (by decide) (Nat.le_of_ble_eq_true rfl) (Nat.le_of_ble_eq_true rfl) (Nat.le_of_ble_eq_true rfl) dX8_init_21 (fun q_5 k_6 H hK hP hD hS => ?_)
  have hP : va_P (dC, dI) classes [(h0, .inr (8, [.ref q_1, .ref q_3, .null, .int 0, .int 0, .int 0, .int 0])), (q_1, .inl (k_2, 5, .inr (.inr (.inr (.inr (fun _ => none)))))), (q_5, .inl (k_6, 4, .inl (fun _ => 0)))] H := hP
  have hD : va_D A [(h0, .inr (8, [.ref q_1, .ref q_3, .null, .int 0, .int 0, .int 0, .int 0])), (q_1, .inl (k_2, 5, .inr (.inr (.inr (.inr (fun _ => none)))))), (q_5, .inl (k_6, 4, .inl (fun _ => 0)))] := hD
  have hK : va_K (dC, dI) classes [(k_2, .object RX3), (k_4, .int), (k_6, .int)] s := hK
  refine W.widen (k := 3) (n := 13) (Nat.le_of_ble_eq_true rfl) (Nat.le_of_ble_eq_true rfl) ?_
  refine va_putF (D := (dC, dI)) (ci := 8) (v := .ref q_5) (ty := .array .int) (C := RX8) (T := TX8) (N := 7) hx hb hq inX8 tyX8 tyX8_ok nmX8 hown hK hP hD hS 0 rfl rfl 2 (by decide) (hq _ qw_393) (fun _ h9 => h9) rfl hin rfl (by decide +kernel) rfl rfl (Nat.le_of_ble_eq_true rfl) dX8_init_23 (fun H locs hP hD hS => ?_)
  have hP : va_P (dC, dI) classes [(h0, .inr (8, [.ref q_1, .ref q_3, .ref q_5, .int 0, .int 0, .int 0, .int 0])), (q_1, .inl (k_2, 5, .inr (.inr (.inr (.inr (fun _ => none)))))), (q_5, .inl (k_6, 4, .inl (fun _ => 0)))] H := hP
  have hD : va_D A [(h0, .inr (8, [.ref q_1, .ref q_3, .ref q_5, .int 0, .int 0, .int 0, .int 0])), (q_1, .inl (k_2, 5, .inr (.inr (.inr (.inr (fun _ => none)))))), (q_5, .inl (k_6, 4, .inl (fun _ => 0)))] := hD
  have hP := hP.sub (ws' := [(h0, .inr (8, [.ref q_1, .ref q_3, .ref q_5, .int 0, .int 0, .int 0, .int 0])), (q_1, .inl (k_2, 5, .inr (.inr (.inr (.inr (fun _ => none))))))]) [0, 1] rfl
  have hD := hD.sub (ws' := [(h0, .inr (8, [.ref q_1, .ref q_3, .ref q_5, .int 0, .int 0, .int 0, .int 0])), (q_1, .inl (k_2, 5, .inr (.inr (.inr (.inr (fun _ => none))))))]) [0, 1] (by decide) rfl
  refine lv_iconst (v := 0) hx hb dX8_init_26 (by decide) ?_
  refine lv_istore_n (lv' := [(1, .int 0), (0, .ref h0)]) hx hb dX8_init_27 rfl hl (by decide) rfl (fun ls hl => ?_)
  refine lv_iload_n hx hb dX8_init_28 rfl (lv_at hl 0 rfl) ?_
  refine lv_iconst (v := 4) hx hb dX8_init_29 (by decide) ?_
  refine lv_icmp_gt (tgt := 52) hx hb dX8_init_30 (by decide) (fun c9 => absurd c9 (by decide)) (fun _ => ?_)
  refine lv_aload_n hx hb dX8_init_33 rfl (lv_at hl 1 rfl) ?_
  refine va_get (D := (dC, dI)) (ci := 8) (v := .ref q_1) (C := RX8) (T := TX8) (N := 7) hx hb hq inX8 hown hK hP 0 rfl rfl 0 (by decide) (hq _ qw_391) (fun _ h9 => h9) rfl dX8_init_34 ?_
  refine lv_iload_n hx hb dX8_init_37 rfl (lv_at hl 0 rfl) ?_
  refine va_new (ci := 3) (fs := [.int 0, .int 0, .int 0, .int 0, .int 0, .long 0]) (C := RX3) (T := TX3) (N := 6) hx hb hq inX3 tyX3 tyX3_ok hown (hq _ qw_389) (hq _ qw_264) (hq _ qw_125) hK hP hD hS hA rfl (dfl_ok rfl) (Nat.le_of_ble_eq_true rfl) (Nat.le_of_ble_eq_true rfl) dX8_init_38 (fun q_7 H hP hD hS => ?_)
  have hP : va_P (dC, dI) classes [(h0, .inr (8, [.ref q_1, .ref q_3, .ref q_5, .int 0, .int 0, .int 0, .int 0])), (q_1, .inl (k_2, 5, .inr (.inr (.inr (.inr (fun _ => none)))))), (q_7, .inr (3, [.int 0, .int 0, .int 0, .int 0, .int 0, .long 0]))] H := hP
  have hD : va_D A [(h0, .inr (8, [.ref q_1, .ref q_3, .ref q_5, .int 0, .int 0, .int 0, .int 0])), (q_1, .inl (k_2, 5, .inr (.inr (.inr (.inr (fun _ => none)))))), (q_7, .inr (3, [.int 0, .int 0, .int 0, .int 0, .int 0, .long 0]))] := hD
  refine W.widen (k := 4) (n := 19) (Nat.le_of_ble_eq_true rfl) (Nat.le_of_ble_eq_true rfl) ?_
  refine lv_dup hx hb dX8_init_41 rfl ?_
  have hPc := hP.sub (ws' := [(q_7, .inr (3, [.int 0, .int 0, .int 0, .int 0, .int 0, .long 0]))]) [2] rfl
  have hDc := hD.sub (ws' := [(q_7, .inr (3, [.int 0, .int 0, .int 0, .int 0, .int 0, .long 0]))]) [2] (by decide) rfl
  have hKc := hK.sub (tys' := []) [] rfl
  have hFc := va_free (wc := [(q_7, .inr (3, [.int 0, .int 0, .int 0, .int 0, .int 0, .long 0]))]) hD hS hA [2] rfl
  refine va_callv (va_runIN (As := []) (rest := [.ref q_7, .int 0, .ref q_1]) ⟨hx, hb, hml, hown, hq⟩ (c_Evening_init l dC dI _ q_7 ) ⟨va_cnB (host := "SpokenBite") 0 hq (gC qw_267) rfl rfl rfl (xE_n hE (k := 11) rfl) (hq _ qw_125) (by decide +kernel) ⟨Nat.le_of_ble_eq_true rfl, Nat.le_of_ble_eq_true rfl⟩, rfl, (hq _ qw_266)⟩ ⟨fun a U g mk q => by obtain ⟨q0, q1, qP, qK, qD, qE⟩ := q; exact ⟨q0, q1, qP, va_K.moved (u := U) (U := U.calling g mk a) (Vm.Alike.refl U.vm) qK, qD, xE.same rfl qE⟩, fun U hU hW => ⟨rfl, by rw [hU], by rw [hU]; exact hPc, va_K.moved hW.alike hKc, hDc.weaken (fun _ _ _ _ => trivial), xE.warm hW hE⟩⟩ rfl rfl hl.1 rfl (lv_room (Nat.le_of_ble_eq_true rfl)) dX8_init_42 ⟨Nat.le_of_ble_eq_true rfl, Nat.le_of_ble_eq_true rfl⟩) hS (fun q _ h => hFc q h) hFc (fun u t H1 locs ht hvm hw hB hz1 hk1 hS => ?_)
  obtain ⟨hP1, hK1, hD1⟩ := hB
  rw [ht] at hP1
  have hK1 := va_K.moved hvm.symm hK1
  obtain ⟨hP, hD⟩ := va_join (wr := [(h0, .inr (8, [.ref q_1, .ref q_3, .ref q_5, .int 0, .int 0, .int 0, .int 0])), (q_1, .inl (k_2, 5, .inr (.inr (.inr (.inr (fun _ => none))))))]) (w1 := [(q_7, .inr (3, [.int 0, .int (-1), .int 0, .int 0, .int 0, .long 0]))]) hP hD [2] [0, 1] rfl rfl (by decide) (by decide) hk1 hFc hP1 hD1
  generalize H1 = H at hP hS ⊢
  have hP : va_P (dC, dI) classes [(h0, .inr (8, [.ref q_1, .ref q_3, .ref q_5, .int 0, .int 0, .int 0, .int 0])), (q_1, .inl (k_2, 5, .inr (.inr (.inr (.inr (fun _ => none)))))), (q_7, .inr (3, [.int 0, .int (-1), .int 0, .int 0, .int 0, .long 0]))] H := hP
  have hD : va_D A [(h0, .inr (8, [.ref q_1, .ref q_3, .ref q_5, .int 0, .int 0, .int 0, .int 0])), (q_1, .inl (k_2, 5, .inr (.inr (.inr (.inr (fun _ => none)))))), (q_7, .inr (3, [.int 0, .int (-1), .int 0, .int 0, .int 0, .long 0]))] := hD
  refine va_astq hx hb hK hP hD hS 1 0 2 3 rfl rfl rfl rfl (inr_ok rfl) dX8_init_45 (fun H locs hP hD hS => ?_)
  generalize va_up (fun _ => none) (Int32.toNatClampNeg 0) (some q_7) = f_9 at hP hD
  have hP : va_P (dC, dI) classes [(h0, .inr (8, [.ref q_1, .ref q_3, .ref q_5, .int 0, .int 0, .int 0, .int 0])), (q_1, .inl (k_2, 5, .inr (.inr (.inr (.inr f_9))))), (q_7, .inr (3, [.int 0, .int (-1), .int 0, .int 0, .int 0, .long 0]))] H := hP
  have hD : va_D A [(h0, .inr (8, [.ref q_1, .ref q_3, .ref q_5, .int 0, .int 0, .int 0, .int 0])), (q_1, .inl (k_2, 5, .inr (.inr (.inr (.inr f_9))))), (q_7, .inr (3, [.int 0, .int (-1), .int 0, .int 0, .int 0, .long 0]))] := hD
  have hP := hP.sub (ws' := [(h0, .inr (8, [.ref q_1, .ref q_3, .ref q_5, .int 0, .int 0, .int 0, .int 0])), (q_1, .inl (k_2, 5, .inr (.inr (.inr (.inr f_9)))))]) [0, 1] rfl
  have hD := hD.sub (ws' := [(h0, .inr (8, [.ref q_1, .ref q_3, .ref q_5, .int 0, .int 0, .int 0, .int 0])), (q_1, .inl (k_2, 5, .inr (.inr (.inr (.inr f_9)))))]) [0, 1] (by decide) rfl
  refine lv_iinc (v := 1) (lv' := [(1, .int 1), (0, .ref h0)]) hx hb dX8_init_46 hl (k := 0) rfl (by decide) (by decide) rfl (fun ls hl => ?_)
  refine lv_goto (tgt := 28) hx hb dX8_init_49 (by decide) ?_
  refine lv_iload_n hx hb dX8_init_28 rfl (lv_at hl 0 rfl) ?_
  refine lv_iconst (v := 4) hx hb dX8_init_29 (by decide) ?_
  refine lv_icmp_gt (tgt := 52) hx hb dX8_init_30 (by decide) (fun c9 => absurd c9 (by decide)) (fun _ => ?_)
  refine lv_aload_n hx hb dX8_init_33 rfl (lv_at hl 1 rfl) ?_
  refine va_get (D := (dC, dI)) (ci := 8) (v := .ref q_1) (C := RX8) (T := TX8) (N := 7) hx hb hq inX8 hown hK hP 0 rfl rfl 0 (by decide) (hq _ qw_391) (fun _ h9 => h9) rfl dX8_init_34 ?_
  refine lv_iload_n hx hb dX8_init_37 rfl (lv_at hl 0 rfl) ?_
  refine va_new (ci := 3) (fs := [.int 0, .int 0, .int 0, .int 0, .int 0, .long 0]) (C := RX3) (T := TX3) (N := 6) hx hb hq inX3 tyX3 tyX3_ok hown (hq _ qw_389) (hq _ qw_264) (hq _ qw_125) hK hP hD hS hA rfl (dfl_ok rfl) (Nat.le_of_ble_eq_true rfl) (Nat.le_of_ble_eq_true rfl) dX8_init_38 (fun q_10 H hP hD hS => ?_)
  have hP : va_P (dC, dI) classes [(h0, .inr (8, [.ref q_1, .ref q_3, .ref q_5, .int 0, .int 0, .int 0, .int 0])), (q_1, .inl (k_2, 5, .inr (.inr (.inr (.inr f_9))))), (q_10, .inr (3, [.int 0, .int 0, .int 0, .int 0, .int 0, .long 0]))] H := hP
  have hD : va_D A [(h0, .inr (8, [.ref q_1, .ref q_3, .ref q_5, .int 0, .int 0, .int 0, .int 0])), (q_1, .inl (k_2, 5, .inr (.inr (.inr (.inr f_9))))), (q_10, .inr (3, [.int 0, .int 0, .int 0, .int 0, .int 0, .long 0]))] := hD
  refine W.widen (k := 5) (n := 25) (Nat.le_of_ble_eq_true rfl) (Nat.le_of_ble_eq_true rfl) ?_
  refine lv_dup hx hb dX8_init_41 rfl ?_
  have hPc := hP.sub (ws' := [(q_10, .inr (3, [.int 0, .int 0, .int 0, .int 0, .int 0, .long 0]))]) [2] rfl
  have hDc := hD.sub (ws' := [(q_10, .inr (3, [.int 0, .int 0, .int 0, .int 0, .int 0, .long 0]))]) [2] (by decide) rfl
  have hKc := hK.sub (tys' := []) [] rfl
  have hFc := va_free (wc := [(q_10, .inr (3, [.int 0, .int 0, .int 0, .int 0, .int 0, .long 0]))]) hD hS hA [2] rfl
  refine va_callv (va_runIN (As := []) (rest := [.ref q_10, .int 1, .ref q_1]) ⟨hx, hb, hml, hown, hq⟩ (c_Evening_init l dC dI _ q_10 ) ⟨va_cnB (host := "SpokenBite") 0 hq (gC qw_267) rfl rfl rfl (xE_n hE (k := 11) rfl) (hq _ qw_125) (by decide +kernel) ⟨Nat.le_of_ble_eq_true rfl, Nat.le_of_ble_eq_true rfl⟩, rfl, (hq _ qw_266)⟩ ⟨fun a U g mk q => by obtain ⟨q0, q1, qP, qK, qD, qE⟩ := q; exact ⟨q0, q1, qP, va_K.moved (u := U) (U := U.calling g mk a) (Vm.Alike.refl U.vm) qK, qD, xE.same rfl qE⟩, fun U hU hW => ⟨rfl, by rw [hU], by rw [hU]; exact hPc, va_K.moved hW.alike hKc, hDc.weaken (fun _ _ _ _ => trivial), xE.warm hW hE⟩⟩ rfl rfl hl.1 rfl (lv_room (Nat.le_of_ble_eq_true rfl)) dX8_init_42 ⟨Nat.le_of_ble_eq_true rfl, Nat.le_of_ble_eq_true rfl⟩) hS (fun q _ h => hFc q h) hFc (fun u t H1 locs ht hvm hw hB hz1 hk1 hS => ?_)
  obtain ⟨hP1, hK1, hD1⟩ := hB
  rw [ht] at hP1
  have hK1 := va_K.moved hvm.symm hK1
  obtain ⟨hP, hD⟩ := va_join (wr := [(h0, .inr (8, [.ref q_1, .ref q_3, .ref q_5, .int 0, .int 0, .int 0, .int 0])), (q_1, .inl (k_2, 5, .inr (.inr (.inr (.inr f_9)))))]) (w1 := [(q_10, .inr (3, [.int 0, .int (-1), .int 0, .int 0, .int 0, .long 0]))]) hP hD [2] [0, 1] rfl rfl (by decide) (by decide) hk1 hFc hP1 hD1
  generalize H1 = H at hP hS ⊢
  have hP : va_P (dC, dI) classes [(h0, .inr (8, [.ref q_1, .ref q_3, .ref q_5, .int 0, .int 0, .int 0, .int 0])), (q_1, .inl (k_2, 5, .inr (.inr (.inr (.inr f_9))))), (q_10, .inr (3, [.int 0, .int (-1), .int 0, .int 0, .int 0, .long 0]))] H := hP
  have hD : va_D A [(h0, .inr (8, [.ref q_1, .ref q_3, .ref q_5, .int 0, .int 0, .int 0, .int 0])), (q_1, .inl (k_2, 5, .inr (.inr (.inr (.inr f_9))))), (q_10, .inr (3, [.int 0, .int (-1), .int 0, .int 0, .int 0, .long 0]))] := hD
  refine va_astq hx hb hK hP hD hS 1 0 2 3 rfl rfl rfl rfl (inr_ok rfl) dX8_init_45 (fun H locs hP hD hS => ?_)
  generalize va_up f_9 (Int32.toNatClampNeg 1) (some q_10) = f_12 at hP hD
  have hP : va_P (dC, dI) classes [(h0, .inr (8, [.ref q_1, .ref q_3, .ref q_5, .int 0, .int 0, .int 0, .int 0])), (q_1, .inl (k_2, 5, .inr (.inr (.inr (.inr f_12))))), (q_10, .inr (3, [.int 0, .int (-1), .int 0, .int 0, .int 0, .long 0]))] H := hP
  have hD : va_D A [(h0, .inr (8, [.ref q_1, .ref q_3, .ref q_5, .int 0, .int 0, .int 0, .int 0])), (q_1, .inl (k_2, 5, .inr (.inr (.inr (.inr f_12))))), (q_10, .inr (3, [.int 0, .int (-1), .int 0, .int 0, .int 0, .long 0]))] := hD
  have hP := hP.sub (ws' := [(h0, .inr (8, [.ref q_1, .ref q_3, .ref q_5, .int 0, .int 0, .int 0, .int 0])), (q_1, .inl (k_2, 5, .inr (.inr (.inr (.inr f_12)))))]) [0, 1] rfl
  have hD := hD.sub (ws' := [(h0, .inr (8, [.ref q_1, .ref q_3, .ref q_5, .int 0, .int 0, .int 0, .int 0])), (q_1, .inl (k_2, 5, .inr (.inr (.inr (.inr f_12)))))]) [0, 1] (by decide) rfl
  refine lv_iinc (v := 2) (lv' := [(1, .int 2), (0, .ref h0)]) hx hb dX8_init_46 hl (k := 0) rfl (by decide) (by decide) rfl (fun ls hl => ?_)
  refine lv_goto (tgt := 28) hx hb dX8_init_49 (by decide) ?_
  refine lv_iload_n hx hb dX8_init_28 rfl (lv_at hl 0 rfl) ?_
  refine lv_iconst (v := 4) hx hb dX8_init_29 (by decide) ?_
  refine lv_icmp_gt (tgt := 52) hx hb dX8_init_30 (by decide) (fun c9 => absurd c9 (by decide)) (fun _ => ?_)
  refine lv_aload_n hx hb dX8_init_33 rfl (lv_at hl 1 rfl) ?_
  refine va_get (D := (dC, dI)) (ci := 8) (v := .ref q_1) (C := RX8) (T := TX8) (N := 7) hx hb hq inX8 hown hK hP 0 rfl rfl 0 (by decide) (hq _ qw_391) (fun _ h9 => h9) rfl dX8_init_34 ?_
  refine lv_iload_n hx hb dX8_init_37 rfl (lv_at hl 0 rfl) ?_
  refine va_new (ci := 3) (fs := [.int 0, .int 0, .int 0, .int 0, .int 0, .long 0]) (C := RX3) (T := TX3) (N := 6) hx hb hq inX3 tyX3 tyX3_ok hown (hq _ qw_389) (hq _ qw_264) (hq _ qw_125) hK hP hD hS hA rfl (dfl_ok rfl) (Nat.le_of_ble_eq_true rfl) (Nat.le_of_ble_eq_true rfl) dX8_init_38 (fun q_13 H hP hD hS => ?_)
  have hP : va_P (dC, dI) classes [(h0, .inr (8, [.ref q_1, .ref q_3, .ref q_5, .int 0, .int 0, .int 0, .int 0])), (q_1, .inl (k_2, 5, .inr (.inr (.inr (.inr f_12))))), (q_13, .inr (3, [.int 0, .int 0, .int 0, .int 0, .int 0, .long 0]))] H := hP
  have hD : va_D A [(h0, .inr (8, [.ref q_1, .ref q_3, .ref q_5, .int 0, .int 0, .int 0, .int 0])), (q_1, .inl (k_2, 5, .inr (.inr (.inr (.inr f_12))))), (q_13, .inr (3, [.int 0, .int 0, .int 0, .int 0, .int 0, .long 0]))] := hD
  refine W.widen (k := 6) (n := 31) (Nat.le_of_ble_eq_true rfl) (Nat.le_of_ble_eq_true rfl) ?_
  refine lv_dup hx hb dX8_init_41 rfl ?_
  have hPc := hP.sub (ws' := [(q_13, .inr (3, [.int 0, .int 0, .int 0, .int 0, .int 0, .long 0]))]) [2] rfl
  have hDc := hD.sub (ws' := [(q_13, .inr (3, [.int 0, .int 0, .int 0, .int 0, .int 0, .long 0]))]) [2] (by decide) rfl
  have hKc := hK.sub (tys' := []) [] rfl
  have hFc := va_free (wc := [(q_13, .inr (3, [.int 0, .int 0, .int 0, .int 0, .int 0, .long 0]))]) hD hS hA [2] rfl
  refine va_callv (va_runIN (As := []) (rest := [.ref q_13, .int 2, .ref q_1]) ⟨hx, hb, hml, hown, hq⟩ (c_Evening_init l dC dI _ q_13 ) ⟨va_cnB (host := "SpokenBite") 0 hq (gC qw_267) rfl rfl rfl (xE_n hE (k := 11) rfl) (hq _ qw_125) (by decide +kernel) ⟨Nat.le_of_ble_eq_true rfl, Nat.le_of_ble_eq_true rfl⟩, rfl, (hq _ qw_266)⟩ ⟨fun a U g mk q => by obtain ⟨q0, q1, qP, qK, qD, qE⟩ := q; exact ⟨q0, q1, qP, va_K.moved (u := U) (U := U.calling g mk a) (Vm.Alike.refl U.vm) qK, qD, xE.same rfl qE⟩, fun U hU hW => ⟨rfl, by rw [hU], by rw [hU]; exact hPc, va_K.moved hW.alike hKc, hDc.weaken (fun _ _ _ _ => trivial), xE.warm hW hE⟩⟩ rfl rfl hl.1 rfl (lv_room (Nat.le_of_ble_eq_true rfl)) dX8_init_42 ⟨Nat.le_of_ble_eq_true rfl, Nat.le_of_ble_eq_true rfl⟩) hS (fun q _ h => hFc q h) hFc (fun u t H1 locs ht hvm hw hB hz1 hk1 hS => ?_)
  obtain ⟨hP1, hK1, hD1⟩ := hB
  rw [ht] at hP1
  have hK1 := va_K.moved hvm.symm hK1
  obtain ⟨hP, hD⟩ := va_join (wr := [(h0, .inr (8, [.ref q_1, .ref q_3, .ref q_5, .int 0, .int 0, .int 0, .int 0])), (q_1, .inl (k_2, 5, .inr (.inr (.inr (.inr f_12)))))]) (w1 := [(q_13, .inr (3, [.int 0, .int (-1), .int 0, .int 0, .int 0, .long 0]))]) hP hD [2] [0, 1] rfl rfl (by decide) (by decide) hk1 hFc hP1 hD1
  generalize H1 = H at hP hS ⊢
  have hP : va_P (dC, dI) classes [(h0, .inr (8, [.ref q_1, .ref q_3, .ref q_5, .int 0, .int 0, .int 0, .int 0])), (q_1, .inl (k_2, 5, .inr (.inr (.inr (.inr f_12))))), (q_13, .inr (3, [.int 0, .int (-1), .int 0, .int 0, .int 0, .long 0]))] H := hP
  have hD : va_D A [(h0, .inr (8, [.ref q_1, .ref q_3, .ref q_5, .int 0, .int 0, .int 0, .int 0])), (q_1, .inl (k_2, 5, .inr (.inr (.inr (.inr f_12))))), (q_13, .inr (3, [.int 0, .int (-1), .int 0, .int 0, .int 0, .long 0]))] := hD
  refine va_astq hx hb hK hP hD hS 1 0 2 3 rfl rfl rfl rfl (inr_ok rfl) dX8_init_45 (fun H locs hP hD hS => ?_)
  generalize va_up f_12 (Int32.toNatClampNeg 2) (some q_13) = f_15 at hP hD
  have hP : va_P (dC, dI) classes [(h0, .inr (8, [.ref q_1, .ref q_3, .ref q_5, .int 0, .int 0, .int 0, .int 0])), (q_1, .inl (k_2, 5, .inr (.inr (.inr (.inr f_15))))), (q_13, .inr (3, [.int 0, .int (-1), .int 0, .int 0, .int 0, .long 0]))] H := hP
  have hD : va_D A [(h0, .inr (8, [.ref q_1, .ref q_3, .ref q_5, .int 0, .int 0, .int 0, .int 0])), (q_1, .inl (k_2, 5, .inr (.inr (.inr (.inr f_15))))), (q_13, .inr (3, [.int 0, .int (-1), .int 0, .int 0, .int 0, .long 0]))] := hD
  have hP := hP.sub (ws' := [(h0, .inr (8, [.ref q_1, .ref q_3, .ref q_5, .int 0, .int 0, .int 0, .int 0])), (q_1, .inl (k_2, 5, .inr (.inr (.inr (.inr f_15)))))]) [0, 1] rfl
  have hD := hD.sub (ws' := [(h0, .inr (8, [.ref q_1, .ref q_3, .ref q_5, .int 0, .int 0, .int 0, .int 0])), (q_1, .inl (k_2, 5, .inr (.inr (.inr (.inr f_15)))))]) [0, 1] (by decide) rfl
  refine lv_iinc (v := 3) (lv' := [(1, .int 3), (0, .ref h0)]) hx hb dX8_init_46 hl (k := 0) rfl (by decide) (by decide) rfl (fun ls hl => ?_)
  refine lv_goto (tgt := 28) hx hb dX8_init_49 (by decide) ?_
  refine lv_iload_n hx hb dX8_init_28 rfl (lv_at hl 0 rfl) ?_
  refine lv_iconst (v := 4) hx hb dX8_init_29 (by decide) ?_
  refine lv_icmp_gt (tgt := 52) hx hb dX8_init_30 (by decide) (fun c9 => absurd c9 (by decide)) (fun _ => ?_)
  refine lv_aload_n hx hb dX8_init_33 rfl (lv_at hl 1 rfl) ?_
  refine va_get (D := (dC, dI)) (ci := 8) (v := .ref q_1) (C := RX8) (T := TX8) (N := 7) hx hb hq inX8 hown hK hP 0 rfl rfl 0 (by decide) (hq _ qw_391) (fun _ h9 => h9) rfl dX8_init_34 ?_
  refine lv_iload_n hx hb dX8_init_37 rfl (lv_at hl 0 rfl) ?_
  refine va_new (ci := 3) (fs := [.int 0, .int 0, .int 0, .int 0, .int 0, .long 0]) (C := RX3) (T := TX3) (N := 6) hx hb hq inX3 tyX3 tyX3_ok hown (hq _ qw_389) (hq _ qw_264) (hq _ qw_125) hK hP hD hS hA rfl (dfl_ok rfl) (Nat.le_of_ble_eq_true rfl) (Nat.le_of_ble_eq_true rfl) dX8_init_38 (fun q_16 H hP hD hS => ?_)
  have hP : va_P (dC, dI) classes [(h0, .inr (8, [.ref q_1, .ref q_3, .ref q_5, .int 0, .int 0, .int 0, .int 0])), (q_1, .inl (k_2, 5, .inr (.inr (.inr (.inr f_15))))), (q_16, .inr (3, [.int 0, .int 0, .int 0, .int 0, .int 0, .long 0]))] H := hP
  have hD : va_D A [(h0, .inr (8, [.ref q_1, .ref q_3, .ref q_5, .int 0, .int 0, .int 0, .int 0])), (q_1, .inl (k_2, 5, .inr (.inr (.inr (.inr f_15))))), (q_16, .inr (3, [.int 0, .int 0, .int 0, .int 0, .int 0, .long 0]))] := hD
  refine W.widen (k := 7) (n := 37) (Nat.le_of_ble_eq_true rfl) (Nat.le_of_ble_eq_true rfl) ?_
  refine lv_dup hx hb dX8_init_41 rfl ?_
  have hPc := hP.sub (ws' := [(q_16, .inr (3, [.int 0, .int 0, .int 0, .int 0, .int 0, .long 0]))]) [2] rfl
  have hDc := hD.sub (ws' := [(q_16, .inr (3, [.int 0, .int 0, .int 0, .int 0, .int 0, .long 0]))]) [2] (by decide) rfl
  have hKc := hK.sub (tys' := []) [] rfl
  have hFc := va_free (wc := [(q_16, .inr (3, [.int 0, .int 0, .int 0, .int 0, .int 0, .long 0]))]) hD hS hA [2] rfl
  refine va_callv (va_runIN (As := []) (rest := [.ref q_16, .int 3, .ref q_1]) ⟨hx, hb, hml, hown, hq⟩ (c_Evening_init l dC dI _ q_16 ) ⟨va_cnB (host := "SpokenBite") 0 hq (gC qw_267) rfl rfl rfl (xE_n hE (k := 11) rfl) (hq _ qw_125) (by decide +kernel) ⟨Nat.le_of_ble_eq_true rfl, Nat.le_of_ble_eq_true rfl⟩, rfl, (hq _ qw_266)⟩ ⟨fun a U g mk q => by obtain ⟨q0, q1, qP, qK, qD, qE⟩ := q; exact ⟨q0, q1, qP, va_K.moved (u := U) (U := U.calling g mk a) (Vm.Alike.refl U.vm) qK, qD, xE.same rfl qE⟩, fun U hU hW => ⟨rfl, by rw [hU], by rw [hU]; exact hPc, va_K.moved hW.alike hKc, hDc.weaken (fun _ _ _ _ => trivial), xE.warm hW hE⟩⟩ rfl rfl hl.1 rfl (lv_room (Nat.le_of_ble_eq_true rfl)) dX8_init_42 ⟨Nat.le_of_ble_eq_true rfl, Nat.le_of_ble_eq_true rfl⟩) hS (fun q _ h => hFc q h) hFc (fun u t H1 locs ht hvm hw hB hz1 hk1 hS => ?_)
  obtain ⟨hP1, hK1, hD1⟩ := hB
  rw [ht] at hP1
  have hK1 := va_K.moved hvm.symm hK1
  obtain ⟨hP, hD⟩ := va_join (wr := [(h0, .inr (8, [.ref q_1, .ref q_3, .ref q_5, .int 0, .int 0, .int 0, .int 0])), (q_1, .inl (k_2, 5, .inr (.inr (.inr (.inr f_15)))))]) (w1 := [(q_16, .inr (3, [.int 0, .int (-1), .int 0, .int 0, .int 0, .long 0]))]) hP hD [2] [0, 1] rfl rfl (by decide) (by decide) hk1 hFc hP1 hD1
  generalize H1 = H at hP hS ⊢
  have hP : va_P (dC, dI) classes [(h0, .inr (8, [.ref q_1, .ref q_3, .ref q_5, .int 0, .int 0, .int 0, .int 0])), (q_1, .inl (k_2, 5, .inr (.inr (.inr (.inr f_15))))), (q_16, .inr (3, [.int 0, .int (-1), .int 0, .int 0, .int 0, .long 0]))] H := hP
  have hD : va_D A [(h0, .inr (8, [.ref q_1, .ref q_3, .ref q_5, .int 0, .int 0, .int 0, .int 0])), (q_1, .inl (k_2, 5, .inr (.inr (.inr (.inr f_15))))), (q_16, .inr (3, [.int 0, .int (-1), .int 0, .int 0, .int 0, .long 0]))] := hD
  refine va_astq hx hb hK hP hD hS 1 0 2 3 rfl rfl rfl rfl (inr_ok rfl) dX8_init_45 (fun H locs hP hD hS => ?_)
  generalize va_up f_15 (Int32.toNatClampNeg 3) (some q_16) = f_18 at hP hD
  have hP : va_P (dC, dI) classes [(h0, .inr (8, [.ref q_1, .ref q_3, .ref q_5, .int 0, .int 0, .int 0, .int 0])), (q_1, .inl (k_2, 5, .inr (.inr (.inr (.inr f_18))))), (q_16, .inr (3, [.int 0, .int (-1), .int 0, .int 0, .int 0, .long 0]))] H := hP
  have hD : va_D A [(h0, .inr (8, [.ref q_1, .ref q_3, .ref q_5, .int 0, .int 0, .int 0, .int 0])), (q_1, .inl (k_2, 5, .inr (.inr (.inr (.inr f_18))))), (q_16, .inr (3, [.int 0, .int (-1), .int 0, .int 0, .int 0, .long 0]))] := hD
  have hP := hP.sub (ws' := [(h0, .inr (8, [.ref q_1, .ref q_3, .ref q_5, .int 0, .int 0, .int 0, .int 0])), (q_1, .inl (k_2, 5, .inr (.inr (.inr (.inr f_18)))))]) [0, 1] rfl
  have hD := hD.sub (ws' := [(h0, .inr (8, [.ref q_1, .ref q_3, .ref q_5, .int 0, .int 0, .int 0, .int 0])), (q_1, .inl (k_2, 5, .inr (.inr (.inr (.inr f_18)))))]) [0, 1] (by decide) rfl
  refine lv_iinc (v := 4) (lv' := [(1, .int 4), (0, .ref h0)]) hx hb dX8_init_46 hl (k := 0) rfl (by decide) (by decide) rfl (fun ls hl => ?_)
  refine lv_goto (tgt := 28) hx hb dX8_init_49 (by decide) ?_
  refine lv_iload_n hx hb dX8_init_28 rfl (lv_at hl 0 rfl) ?_
  refine lv_iconst (v := 4) hx hb dX8_init_29 (by decide) ?_
  refine lv_icmp_gt (tgt := 52) hx hb dX8_init_30 (by decide) (fun c9 => absurd c9 (by decide)) (fun _ => ?_)
  refine lv_aload_n hx hb dX8_init_33 rfl (lv_at hl 1 rfl) ?_
  refine va_get (D := (dC, dI)) (ci := 8) (v := .ref q_1) (C := RX8) (T := TX8) (N := 7) hx hb hq inX8 hown hK hP 0 rfl rfl 0 (by decide) (hq _ qw_391) (fun _ h9 => h9) rfl dX8_init_34 ?_
  refine lv_iload_n hx hb dX8_init_37 rfl (lv_at hl 0 rfl) ?_
  refine va_new (ci := 3) (fs := [.int 0, .int 0, .int 0, .int 0, .int 0, .long 0]) (C := RX3) (T := TX3) (N := 6) hx hb hq inX3 tyX3 tyX3_ok hown (hq _ qw_389) (hq _ qw_264) (hq _ qw_125) hK hP hD hS hA rfl (dfl_ok rfl) (Nat.le_of_ble_eq_true rfl) (Nat.le_of_ble_eq_true rfl) dX8_init_38 (fun q_19 H hP hD hS => ?_)
  have hP : va_P (dC, dI) classes [(h0, .inr (8, [.ref q_1, .ref q_3, .ref q_5, .int 0, .int 0, .int 0, .int 0])), (q_1, .inl (k_2, 5, .inr (.inr (.inr (.inr f_18))))), (q_19, .inr (3, [.int 0, .int 0, .int 0, .int 0, .int 0, .long 0]))] H := hP
  have hD : va_D A [(h0, .inr (8, [.ref q_1, .ref q_3, .ref q_5, .int 0, .int 0, .int 0, .int 0])), (q_1, .inl (k_2, 5, .inr (.inr (.inr (.inr f_18))))), (q_19, .inr (3, [.int 0, .int 0, .int 0, .int 0, .int 0, .long 0]))] := hD
  refine W.widen (k := 8) (n := 43) (Nat.le_of_ble_eq_true rfl) (Nat.le_of_ble_eq_true rfl) ?_
  refine lv_dup hx hb dX8_init_41 rfl ?_
  have hPc := hP.sub (ws' := [(q_19, .inr (3, [.int 0, .int 0, .int 0, .int 0, .int 0, .long 0]))]) [2] rfl
  have hDc := hD.sub (ws' := [(q_19, .inr (3, [.int 0, .int 0, .int 0, .int 0, .int 0, .long 0]))]) [2] (by decide) rfl
  have hKc := hK.sub (tys' := []) [] rfl
  have hFc := va_free (wc := [(q_19, .inr (3, [.int 0, .int 0, .int 0, .int 0, .int 0, .long 0]))]) hD hS hA [2] rfl
  refine va_callv (va_runIN (As := []) (rest := [.ref q_19, .int 4, .ref q_1]) ⟨hx, hb, hml, hown, hq⟩ (c_Evening_init l dC dI _ q_19 ) ⟨va_cnB (host := "SpokenBite") 0 hq (gC qw_267) rfl rfl rfl (xE_n hE (k := 11) rfl) (hq _ qw_125) (by decide +kernel) ⟨Nat.le_of_ble_eq_true rfl, Nat.le_of_ble_eq_true rfl⟩, rfl, (hq _ qw_266)⟩ ⟨fun a U g mk q => by obtain ⟨q0, q1, qP, qK, qD, qE⟩ := q; exact ⟨q0, q1, qP, va_K.moved (u := U) (U := U.calling g mk a) (Vm.Alike.refl U.vm) qK, qD, xE.same rfl qE⟩, fun U hU hW => ⟨rfl, by rw [hU], by rw [hU]; exact hPc, va_K.moved hW.alike hKc, hDc.weaken (fun _ _ _ _ => trivial), xE.warm hW hE⟩⟩ rfl rfl hl.1 rfl (lv_room (Nat.le_of_ble_eq_true rfl)) dX8_init_42 ⟨Nat.le_of_ble_eq_true rfl, Nat.le_of_ble_eq_true rfl⟩) hS (fun q _ h => hFc q h) hFc (fun u t H1 locs ht hvm hw hB hz1 hk1 hS => ?_)
  obtain ⟨hP1, hK1, hD1⟩ := hB
  rw [ht] at hP1
  have hK1 := va_K.moved hvm.symm hK1
  obtain ⟨hP, hD⟩ := va_join (wr := [(h0, .inr (8, [.ref q_1, .ref q_3, .ref q_5, .int 0, .int 0, .int 0, .int 0])), (q_1, .inl (k_2, 5, .inr (.inr (.inr (.inr f_18)))))]) (w1 := [(q_19, .inr (3, [.int 0, .int (-1), .int 0, .int 0, .int 0, .long 0]))]) hP hD [2] [0, 1] rfl rfl (by decide) (by decide) hk1 hFc hP1 hD1
  generalize H1 = H at hP hS ⊢
  have hP : va_P (dC, dI) classes [(h0, .inr (8, [.ref q_1, .ref q_3, .ref q_5, .int 0, .int 0, .int 0, .int 0])), (q_1, .inl (k_2, 5, .inr (.inr (.inr (.inr f_18))))), (q_19, .inr (3, [.int 0, .int (-1), .int 0, .int 0, .int 0, .long 0]))] H := hP
  have hD : va_D A [(h0, .inr (8, [.ref q_1, .ref q_3, .ref q_5, .int 0, .int 0, .int 0, .int 0])), (q_1, .inl (k_2, 5, .inr (.inr (.inr (.inr f_18))))), (q_19, .inr (3, [.int 0, .int (-1), .int 0, .int 0, .int 0, .long 0]))] := hD
  refine va_astq hx hb hK hP hD hS 1 0 2 3 rfl rfl rfl rfl (inr_ok rfl) dX8_init_45 (fun H locs hP hD hS => ?_)
  generalize va_up f_18 (Int32.toNatClampNeg 4) (some q_19) = f_21 at hP hD
  have hP : va_P (dC, dI) classes [(h0, .inr (8, [.ref q_1, .ref q_3, .ref q_5, .int 0, .int 0, .int 0, .int 0])), (q_1, .inl (k_2, 5, .inr (.inr (.inr (.inr f_21))))), (q_19, .inr (3, [.int 0, .int (-1), .int 0, .int 0, .int 0, .long 0]))] H := hP
  have hD : va_D A [(h0, .inr (8, [.ref q_1, .ref q_3, .ref q_5, .int 0, .int 0, .int 0, .int 0])), (q_1, .inl (k_2, 5, .inr (.inr (.inr (.inr f_21))))), (q_19, .inr (3, [.int 0, .int (-1), .int 0, .int 0, .int 0, .long 0]))] := hD
  have hP := hP.sub (ws' := [(h0, .inr (8, [.ref q_1, .ref q_3, .ref q_5, .int 0, .int 0, .int 0, .int 0])), (q_1, .inl (k_2, 5, .inr (.inr (.inr (.inr f_21)))))]) [0, 1] rfl
  have hD := hD.sub (ws' := [(h0, .inr (8, [.ref q_1, .ref q_3, .ref q_5, .int 0, .int 0, .int 0, .int 0])), (q_1, .inl (k_2, 5, .inr (.inr (.inr (.inr f_21)))))]) [0, 1] (by decide) rfl
  refine lv_iinc (v := 5) (lv' := [(1, .int 5), (0, .ref h0)]) hx hb dX8_init_46 hl (k := 0) rfl (by decide) (by decide) rfl (fun ls hl => ?_)
  refine lv_goto (tgt := 28) hx hb dX8_init_49 (by decide) ?_
  refine lv_iload_n hx hb dX8_init_28 rfl (lv_at hl 0 rfl) ?_
  refine lv_iconst (v := 4) hx hb dX8_init_29 (by decide) ?_
  refine lv_icmp_gt (tgt := 52) hx hb dX8_init_30 (by decide) (fun _ => ?_) (fun c9 => absurd c9 (by decide))
  refine W.widen (k := 8) (n := 43) (Nat.le_of_ble_eq_true rfl) (Nat.le_of_ble_eq_true rfl) ?_
  exact W.vret hx hb hr (fun t ht hW => ⟨⟨(), rfl, trivial, trivial⟩, hS.F ht⟩) hS.2.2 dX8_init_52
