theorem qw_4 : (.selects RX11 yX11_ruleAt yX11_ruleAt : Cond) ∈ wsA := mA (i := 4) (by decide +kernel) rfl
theorem qw_138 : (.initialized RJ13 : Cond) ∈ wsA := mA (i := 138) (by decide +kernel) rfl
theorem qw_162 : (.fieldLink RX2 37 "SpokenBite$Reade\x72" "place" "I" : Cond) ∈ wsA := mA (i := 162) (by decide +kernel) rfl
theorem qw_163 : (.fieldLink RX10 46 "SpokenBite$Reade\x72" "place" "I" : Cond) ∈ wsA := mA (i := 163) (by decide +kernel) rfl
theorem qw_165 : (.fieldLink RX10 59 "SpokenBite$Reade\x72" "fault" "I" : Cond) ∈ wsA := mA (i := 165) (by decide +kernel) rfl
theorem qw_166 : (.fieldLink RX2 60 "SpokenBite$Reade\x72" "fault" "I" : Cond) ∈ wsA := mA (i := 166) (by decide +kernel) rfl
theorem qw_196 : (.fieldLink RX9 15 "SpokenBite$Rule" "steps" "I" : Cond) ∈ wsA := mA (i := 196) (by decide +kernel) rfl
theorem qw_197 : (.fieldLink RX9 19 "SpokenBite$Rule" "asksMinute" "Z" : Cond) ∈ wsA := mA (i := 197) (by decide +kernel) rfl
theorem qw_208 : (.fieldLink RX10 32 "SpokenBite$RuleReade\x72" "values" "I" : Cond) ∈ wsA := mA (i := 208) (by decide +kernel) rfl
theorem qw_274 : (.fieldLink RX11 203 "SpokenBite$Evening" "offered" "I" : Cond) ∈ wsA := mA (i := 274) (by decide +kernel) rfl
theorem qw_278 : (.fieldLink RX11 206 "SpokenBite$Evening" "table" "I" : Cond) ∈ wsA := mA (i := 278) (by decide +kernel) rfl
theorem qw_281 : (.fieldLink RX11 212 "SpokenBite$Evening" "sitting" "I" : Cond) ∈ wsA := mA (i := 281) (by decide +kernel) rfl
theorem qw_287 : (.fieldLink RX11 281 "SpokenBite$Evening" "knows" "J" : Cond) ∈ wsA := mA (i := 287) (by decide +kernel) rfl
theorem qw_308 : (.fieldLink RX11 315 "SpokenBite$Notes" "kept" "I" : Cond) ∈ wsA := mA (i := 308) (by decide +kernel) rfl
theorem qw_336 : (.fieldLink RX11 223 "SpokenBite$Past" "kept" "I" : Cond) ∈ wsA := mA (i := 336) (by decide +kernel) rfl
theorem qw_523 : (.methodLink RX11 107 yX2_read : Cond) ∈ wsA := mA (i := 523) (by decide +kernel) rfl
theorem qw_524 : (.instanceMethod yX2_read : Cond) ∈ wsA := mA (i := 524) (by decide +kernel) rfl
theorem qw_525 : (.selects RX2 yX2_read yX2_read : Cond) ∈ wsA := mA (i := 525) (by decide +kernel) rfl
theorem qw_526 : (.code yX2_read cX2_read 6 (some .int) : Cond) ∈ wsA := mA (i := 526) (by decide +kernel) rfl
theorem qw_527 : (.methodLink RX2 18 yX7_open : Cond) ∈ wsA := mA (i := 527) (by decide +kernel) rfl
theorem qw_528 : (.instanceMethod yX7_open : Cond) ∈ wsA := mA (i := 528) (by decide +kernel) rfl
theorem qw_529 : (.selects RX7 yX7_open yX7_open : Cond) ∈ wsA := mA (i := 529) (by decide +kernel) rfl
theorem qw_530 : (.code yX7_open cX7_open 3 none : Cond) ∈ wsA := mA (i := 530) (by decide +kernel) rfl
theorem qw_534 : (.methodLink RX2 22 yX1_clear : Cond) ∈ wsA := mA (i := 534) (by decide +kernel) rfl
theorem qw_535 : (.instanceMethod yX1_clear : Cond) ∈ wsA := mA (i := 535) (by decide +kernel) rfl
theorem qw_536 : (.selects RX1 yX1_clear yX1_clear : Cond) ∈ wsA := mA (i := 536) (by decide +kernel) rfl
theorem qw_537 : (.code yX1_clear cX1_clear 2 none : Cond) ∈ wsA := mA (i := 537) (by decide +kernel) rfl
theorem qw_538 : (.methodLink RX2 27 yX7_sign : Cond) ∈ wsA := mA (i := 538) (by decide +kernel) rfl
theorem qw_547 : (.methodLink RX2 33 yX7_wordAmong : Cond) ∈ wsA := mA (i := 547) (by decide +kernel) rfl
theorem qw_548 : (.instanceMethod yX7_wordAmong : Cond) ∈ wsA := mA (i := 548) (by decide +kernel) rfl
theorem qw_549 : (.selects RX7 yX7_wordAmong yX7_wordAmong : Cond) ∈ wsA := mA (i := 549) (by decide +kernel) rfl
theorem qw_550 : (.code yX7_wordAmong cX7_wordAmong 7 (some .int) : Cond) ∈ wsA := mA (i := 550) (by decide +kernel) rfl
theorem qw_602 : (.methodLink RX2 41 yX7_blame : Cond) ∈ wsA := mA (i := 602) (by decide +kernel) rfl
theorem qw_603 : (.instanceMethod yX7_blame : Cond) ∈ wsA := mA (i := 603) (by decide +kernel) rfl
theorem qw_604 : (.selects RX7 yX7_blame yX7_blame : Cond) ∈ wsA := mA (i := 604) (by decide +kernel) rfl
theorem qw_605 : (.code yX7_blame cX7_blame 3 none : Cond) ∈ wsA := mA (i := 605) (by decide +kernel) rfl
theorem qw_641 : (.methodLink RX2 56 yX7_goesOn : Cond) ∈ wsA := mA (i := 641) (by decide +kernel) rfl
theorem qw_642 : (.instanceMethod yX7_goesOn : Cond) ∈ wsA := mA (i := 642) (by decide +kernel) rfl
theorem qw_643 : (.selects RX7 yX7_goesOn yX7_goesOn : Cond) ∈ wsA := mA (i := 643) (by decide +kernel) rfl
theorem qw_644 : (.code yX7_goesOn cX7_goesOn 2 (some .boolean) : Cond) ∈ wsA := mA (i := 644) (by decide +kernel) rfl
theorem qw_667 : (.methodLink RX11 128 yX11_ruleAt : Cond) ∈ wsA := mA (i := 667) (by decide +kernel) rfl
theorem qw_669 : (.instanceMethod yX11_ruleAt : Cond) ∈ wsA := mA (i := 669) (by decide +kernel) rfl
theorem qw_670 : (.code yX11_ruleAt cX11_ruleAt 2 (some (.object "SpokenBite$Rule")) : Cond) ∈ wsA := mA (i := 670) (by decide +kernel) rfl
theorem qw_671 : (.methodLink RX11 132 yX10_read : Cond) ∈ wsA := mA (i := 671) (by decide +kernel) rfl
theorem qw_672 : (.instanceMethod yX10_read : Cond) ∈ wsA := mA (i := 672) (by decide +kernel) rfl
theorem qw_673 : (.selects RX10 yX10_read yX10_read : Cond) ∈ wsA := mA (i := 673) (by decide +kernel) rfl
theorem qw_674 : (.code yX10_read cX10_read 6 (some .int) : Cond) ∈ wsA := mA (i := 674) (by decide +kernel) rfl
theorem qw_675 : (.methodLink RX10 25 yX7_open : Cond) ∈ wsA := mA (i := 675) (by decide +kernel) rfl
theorem qw_676 : (.methodLink RX10 29 yX9_clear : Cond) ∈ wsA := mA (i := 676) (by decide +kernel) rfl
theorem qw_677 : (.instanceMethod yX9_clear : Cond) ∈ wsA := mA (i := 677) (by decide +kernel) rfl
theorem qw_678 : (.selects RX9 yX9_clear yX9_clear : Cond) ∈ wsA := mA (i := 678) (by decide +kernel) rfl
theorem qw_679 : (.code yX9_clear cX9_clear 1 none : Cond) ∈ wsA := mA (i := 679) (by decide +kernel) rfl
theorem qw_680 : (.methodLink RX10 36 yX7_sign : Cond) ∈ wsA := mA (i := 680) (by decide +kernel) rfl
theorem qw_682 : (.methodLink RX10 42 yX7_wordAmong : Cond) ∈ wsA := mA (i := 682) (by decide +kernel) rfl
theorem qw_683 : (.methodLink RX10 49 yX7_blame : Cond) ∈ wsA := mA (i := 683) (by decide +kernel) rfl
theorem qw_730 : (.methodLink RX10 71 yX7_goesOn : Cond) ∈ wsA := mA (i := 730) (by decide +kernel) rfl
theorem qw_999 : (.static yJ13_bitCount_95d88 : Cond) ∈ wsA := mA (i := 999) (by decide +kernel) rfl
theorem qw_1000 : (.code yJ13_bitCount_95d88 cJ13_bitCount_95d88 2 (some .int) : Cond) ∈ wsA := mA (i := 1000) (by decide +kernel) rfl
theorem qw_1001 : (.constantLong RJ13 314 (6148914691236517205) : Cond) ∈ wsA := mA (i := 1001) (by decide +kernel) rfl
theorem qw_1002 : (.constantLong RJ13 316 (3689348814741910323) : Cond) ∈ wsA := mA (i := 1002) (by decide +kernel) rfl
theorem qw_1003 : (.constantLong RJ13 318 (1085102592571150095) : Cond) ∈ wsA := mA (i := 1003) (by decide +kernel) rfl
theorem qw_1047 : (.methodLink RX11 285 yJ13_bitCount_95d88 : Cond) ∈ wsA := mA (i := 1047) (by decide +kernel) rfl
theorem dJ13_bitCount_95d88_0 : decode cJ13_bitCount_95d88 0 = .ok (.lload_n 0, 1) := by decide +kernel
theorem dJ13_bitCount_95d88_1 : decode cJ13_bitCount_95d88 1 = .ok (.lload_n 0, 1) := by decide +kernel
theorem dJ13_bitCount_95d88_2 : decode cJ13_bitCount_95d88 2 = .ok (.iconst 1, 1) := by decide +kernel
theorem dJ13_bitCount_95d88_3 : decode cJ13_bitCount_95d88 3 = .ok (.lushr, 1) := by decide +kernel
theorem dJ13_bitCount_95d88_4 : decode cJ13_bitCount_95d88 4 = .ok (.ldc2_w 314, 3) := by decide +kernel
theorem dJ13_bitCount_95d88_7 : decode cJ13_bitCount_95d88 7 = .ok (.land, 1) := by decide +kernel
theorem dJ13_bitCount_95d88_8 : decode cJ13_bitCount_95d88 8 = .ok (.lsub, 1) := by decide +kernel
theorem dJ13_bitCount_95d88_9 : decode cJ13_bitCount_95d88 9 = .ok (.lstore_n 0, 1) := by decide +kernel
theorem dJ13_bitCount_95d88_10 : decode cJ13_bitCount_95d88 10 = .ok (.lload_n 0, 1) := by decide +kernel
theorem dJ13_bitCount_95d88_11 : decode cJ13_bitCount_95d88 11 = .ok (.ldc2_w 316, 3) := by decide +kernel
theorem dJ13_bitCount_95d88_14 : decode cJ13_bitCount_95d88 14 = .ok (.land, 1) := by decide +kernel
theorem dJ13_bitCount_95d88_15 : decode cJ13_bitCount_95d88 15 = .ok (.lload_n 0, 1) := by decide +kernel
theorem dJ13_bitCount_95d88_16 : decode cJ13_bitCount_95d88 16 = .ok (.iconst 2, 1) := by decide +kernel
theorem dJ13_bitCount_95d88_17 : decode cJ13_bitCount_95d88 17 = .ok (.lushr, 1) := by decide +kernel
theorem dJ13_bitCount_95d88_18 : decode cJ13_bitCount_95d88 18 = .ok (.ldc2_w 316, 3) := by decide +kernel
theorem dJ13_bitCount_95d88_21 : decode cJ13_bitCount_95d88 21 = .ok (.land, 1) := by decide +kernel
theorem dJ13_bitCount_95d88_22 : decode cJ13_bitCount_95d88 22 = .ok (.ladd, 1) := by decide +kernel
theorem dJ13_bitCount_95d88_23 : decode cJ13_bitCount_95d88 23 = .ok (.lstore_n 0, 1) := by decide +kernel
theorem dJ13_bitCount_95d88_24 : decode cJ13_bitCount_95d88 24 = .ok (.lload_n 0, 1) := by decide +kernel
theorem dJ13_bitCount_95d88_25 : decode cJ13_bitCount_95d88 25 = .ok (.lload_n 0, 1) := by decide +kernel
theorem dJ13_bitCount_95d88_26 : decode cJ13_bitCount_95d88 26 = .ok (.iconst 4, 1) := by decide +kernel
theorem dJ13_bitCount_95d88_27 : decode cJ13_bitCount_95d88 27 = .ok (.lushr, 1) := by decide +kernel
theorem dJ13_bitCount_95d88_28 : decode cJ13_bitCount_95d88 28 = .ok (.ladd, 1) := by decide +kernel
theorem dJ13_bitCount_95d88_29 : decode cJ13_bitCount_95d88 29 = .ok (.ldc2_w 318, 3) := by decide +kernel
theorem dJ13_bitCount_95d88_32 : decode cJ13_bitCount_95d88 32 = .ok (.land, 1) := by decide +kernel
theorem dJ13_bitCount_95d88_33 : decode cJ13_bitCount_95d88 33 = .ok (.lstore_n 0, 1) := by decide +kernel
theorem dJ13_bitCount_95d88_34 : decode cJ13_bitCount_95d88 34 = .ok (.lload_n 0, 1) := by decide +kernel
theorem dJ13_bitCount_95d88_35 : decode cJ13_bitCount_95d88 35 = .ok (.lload_n 0, 1) := by decide +kernel
theorem dJ13_bitCount_95d88_36 : decode cJ13_bitCount_95d88 36 = .ok (.bipush 8, 2) := by decide +kernel
theorem dJ13_bitCount_95d88_38 : decode cJ13_bitCount_95d88 38 = .ok (.lushr, 1) := by decide +kernel
theorem dJ13_bitCount_95d88_39 : decode cJ13_bitCount_95d88 39 = .ok (.ladd, 1) := by decide +kernel
theorem dJ13_bitCount_95d88_40 : decode cJ13_bitCount_95d88 40 = .ok (.lstore_n 0, 1) := by decide +kernel
theorem dJ13_bitCount_95d88_41 : decode cJ13_bitCount_95d88 41 = .ok (.lload_n 0, 1) := by decide +kernel
theorem dJ13_bitCount_95d88_42 : decode cJ13_bitCount_95d88 42 = .ok (.lload_n 0, 1) := by decide +kernel
theorem dJ13_bitCount_95d88_43 : decode cJ13_bitCount_95d88 43 = .ok (.bipush 16, 2) := by decide +kernel
theorem dJ13_bitCount_95d88_45 : decode cJ13_bitCount_95d88 45 = .ok (.lushr, 1) := by decide +kernel
theorem dJ13_bitCount_95d88_46 : decode cJ13_bitCount_95d88 46 = .ok (.ladd, 1) := by decide +kernel
theorem dJ13_bitCount_95d88_47 : decode cJ13_bitCount_95d88 47 = .ok (.lstore_n 0, 1) := by decide +kernel
theorem dJ13_bitCount_95d88_48 : decode cJ13_bitCount_95d88 48 = .ok (.lload_n 0, 1) := by decide +kernel
theorem dJ13_bitCount_95d88_49 : decode cJ13_bitCount_95d88 49 = .ok (.lload_n 0, 1) := by decide +kernel
theorem dJ13_bitCount_95d88_50 : decode cJ13_bitCount_95d88 50 = .ok (.bipush 32, 2) := by decide +kernel
theorem dJ13_bitCount_95d88_52 : decode cJ13_bitCount_95d88 52 = .ok (.lushr, 1) := by decide +kernel
theorem dJ13_bitCount_95d88_53 : decode cJ13_bitCount_95d88 53 = .ok (.ladd, 1) := by decide +kernel
theorem dJ13_bitCount_95d88_54 : decode cJ13_bitCount_95d88 54 = .ok (.lstore_n 0, 1) := by decide +kernel
theorem dJ13_bitCount_95d88_55 : decode cJ13_bitCount_95d88 55 = .ok (.lload_n 0, 1) := by decide +kernel
theorem dJ13_bitCount_95d88_56 : decode cJ13_bitCount_95d88 56 = .ok (.l2i, 1) := by decide +kernel
theorem dJ13_bitCount_95d88_57 : decode cJ13_bitCount_95d88 57 = .ok (.bipush 127, 2) := by decide +kernel
theorem dJ13_bitCount_95d88_59 : decode cJ13_bitCount_95d88 59 = .ok (.iand, 1) := by decide +kernel
theorem dJ13_bitCount_95d88_60 : decode cJ13_bitCount_95d88 60 = .ok (.ireturn, 1) := by decide +kernel
theorem dX10_read_0 : decode cX10_read 0 = .ok (.aload_n 0, 1) := by decide +kernel
theorem dX10_read_1 : decode cX10_read 1 = .ok (.getfield 12, 3) := by decide +kernel
theorem dX10_read_4 : decode cX10_read 4 = .ok (.aload_n 1, 1) := by decide +kernel
theorem dX10_read_5 : decode cX10_read 5 = .ok (.iload_n 2, 1) := by decide +kernel
theorem dX10_read_6 : decode cX10_read 6 = .ok (.invokevirtual 25, 3) := by decide +kernel
theorem dX10_read_9 : decode cX10_read 9 = .ok (.aload_n 0, 1) := by decide +kernel
theorem dX10_read_10 : decode cX10_read 10 = .ok (.aload_n 3, 1) := by decide +kernel
theorem dX10_read_11 : decode cX10_read 11 = .ok (.putfield 21, 3) := by decide +kernel
theorem dX10_read_14 : decode cX10_read 14 = .ok (.aload_n 0, 1) := by decide +kernel
theorem dX10_read_15 : decode cX10_read 15 = .ok (.getfield 21, 3) := by decide +kernel
theorem dX10_read_18 : decode cX10_read 18 = .ok (.invokevirtual 29, 3) := by decide +kernel
theorem dX10_read_21 : decode cX10_read 21 = .ok (.aload_n 0, 1) := by decide +kernel
theorem dX10_read_22 : decode cX10_read 22 = .ok (.iconst 0, 1) := by decide +kernel
theorem dX10_read_23 : decode cX10_read 23 = .ok (.putfield 32, 3) := by decide +kernel
theorem dX10_read_26 : decode cX10_read 26 = .ok (.iconst 0, 1) := by decide +kernel
theorem dX10_read_27 : decode cX10_read 27 = .ok (.istore 4, 2) := by decide +kernel
theorem dX10_read_29 : decode cX10_read 29 = .ok (.iload 4, 2) := by decide +kernel
theorem dX10_read_31 : decode cX10_read 31 = .ok (.bipush 12, 2) := by decide +kernel
theorem dX10_read_33 : decode cX10_read 33 = .ok (.if_icmp .gt 171, 3) := by decide +kernel
theorem dX10_read_36 : decode cX10_read 36 = .ok (.aload_n 0, 1) := by decide +kernel
theorem dX10_read_37 : decode cX10_read 37 = .ok (.getfield 12, 3) := by decide +kernel
theorem dX10_read_40 : decode cX10_read 40 = .ok (.invokevirtual 36, 3) := by decide +kernel
theorem dX10_read_43 : decode cX10_read 43 = .ok (.pop, 1) := by decide +kernel
theorem dX10_read_44 : decode cX10_read 44 = .ok (.aload_n 0, 1) := by decide +kernel
theorem dX10_read_45 : decode cX10_read 45 = .ok (.getfield 12, 3) := by decide +kernel
theorem dX10_read_48 : decode cX10_read 48 = .ok (.ldc 40, 2) := by decide +kernel
theorem dX10_read_50 : decode cX10_read 50 = .ok (.invokevirtual 42, 3) := by decide +kernel
theorem dX10_read_53 : decode cX10_read 53 = .ok (.iconst (-1), 1) := by decide +kernel
theorem dX10_read_54 : decode cX10_read 54 = .ok (.if_icmp .ne 21, 3) := by decide +kernel
theorem dX10_read_57 : decode cX10_read 57 = .ok (.aload_n 0, 1) := by decide +kernel
theorem dX10_read_58 : decode cX10_read 58 = .ok (.getfield 12, 3) := by decide +kernel
theorem dX10_read_61 : decode cX10_read 61 = .ok (.aload_n 0, 1) := by decide +kernel
theorem dX10_read_62 : decode cX10_read 62 = .ok (.getfield 12, 3) := by decide +kernel
theorem dX10_read_65 : decode cX10_read 65 = .ok (.getfield 46, 3) := by decide +kernel
theorem dX10_read_68 : decode cX10_read 68 = .ok (.iconst 0, 1) := by decide +kernel
theorem dX10_read_69 : decode cX10_read 69 = .ok (.invokevirtual 49, 3) := by decide +kernel
theorem dX10_read_72 : decode cX10_read 72 = .ok (.goto 113, 3) := by decide +kernel
theorem dX10_read_185 : decode cX10_read 185 = .ok (.aload_n 0, 1) := by decide +kernel
theorem dX10_read_186 : decode cX10_read 186 = .ok (.getfield 12, 3) := by decide +kernel
theorem dX10_read_189 : decode cX10_read 189 = .ok (.invokevirtual 71, 3) := by decide +kernel
theorem dX10_read_192 : decode cX10_read 192 = .ok (.ifCond .ne 6, 3) := by decide +kernel
theorem dX10_read_195 : decode cX10_read 195 = .ok (.goto 9, 3) := by decide +kernel
theorem dX10_read_204 : decode cX10_read 204 = .ok (.aload_n 0, 1) := by decide +kernel
theorem dX10_read_205 : decode cX10_read 205 = .ok (.getfield 12, 3) := by decide +kernel
theorem dX10_read_208 : decode cX10_read 208 = .ok (.getfield 59, 3) := by decide +kernel
theorem dX10_read_211 : decode cX10_read 211 = .ok (.ireturn, 1) := by decide +kernel
theorem dX11_count_0 : decode cX11_count 0 = .ok (.iload_n 1, 1) := by decide +kernel
theorem dX11_count_1 : decode cX11_count 1 = .ok (.tableswitch 174 0 13 #[71, 79, 87, 95, 100, 105, 113, 121, 129, 140, 148, 156, 164, 169], 71) := by decide +kernel
theorem dX11_count_72 : decode cX11_count 72 = .ok (.aload_n 0, 1) := by decide +kernel
theorem dX11_count_73 : decode cX11_count 73 = .ok (.getfield 40, 3) := by decide +kernel
theorem dX11_count_76 : decode cX11_count 76 = .ok (.getfield 135, 3) := by decide +kernel
theorem dX11_count_79 : decode cX11_count 79 = .ok (.ireturn, 1) := by decide +kernel
theorem dX11_count_80 : decode cX11_count 80 = .ok (.aload_n 0, 1) := by decide +kernel
theorem dX11_count_81 : decode cX11_count 81 = .ok (.getfield 40, 3) := by decide +kernel
theorem dX11_count_84 : decode cX11_count 84 = .ok (.getfield 122, 3) := by decide +kernel
theorem dX11_count_87 : decode cX11_count 87 = .ok (.ireturn, 1) := by decide +kernel
theorem dX11_count_88 : decode cX11_count 88 = .ok (.aload_n 0, 1) := by decide +kernel
theorem dX11_count_89 : decode cX11_count 89 = .ok (.getfield 40, 3) := by decide +kernel
theorem dX11_count_92 : decode cX11_count 92 = .ok (.getfield 138, 3) := by decide +kernel
theorem dX11_count_95 : decode cX11_count 95 = .ok (.ireturn, 1) := by decide +kernel
theorem dX11_count_96 : decode cX11_count 96 = .ok (.aload_n 0, 1) := by decide +kernel
theorem dX11_count_97 : decode cX11_count 97 = .ok (.getfield 125, 3) := by decide +kernel
theorem dX11_count_100 : decode cX11_count 100 = .ok (.ireturn, 1) := by decide +kernel
theorem dX11_count_101 : decode cX11_count 101 = .ok (.aload_n 0, 1) := by decide +kernel
theorem dX11_count_102 : decode cX11_count 102 = .ok (.getfield 33, 3) := by decide +kernel
theorem dX11_count_105 : decode cX11_count 105 = .ok (.ireturn, 1) := by decide +kernel
theorem dX11_count_106 : decode cX11_count 106 = .ok (.aload_n 0, 1) := by decide +kernel
theorem dX11_count_107 : decode cX11_count 107 = .ok (.getfield 50, 3) := by decide +kernel
theorem dX11_count_110 : decode cX11_count 110 = .ok (.getfield 187, 3) := by decide +kernel
theorem dX11_count_113 : decode cX11_count 113 = .ok (.ireturn, 1) := by decide +kernel
theorem dX11_count_114 : decode cX11_count 114 = .ok (.aload_n 0, 1) := by decide +kernel
theorem dX11_count_115 : decode cX11_count 115 = .ok (.getfield 50, 3) := by decide +kernel
theorem dX11_count_118 : decode cX11_count 118 = .ok (.getfield 206, 3) := by decide +kernel
theorem dX11_count_121 : decode cX11_count 121 = .ok (.ireturn, 1) := by decide +kernel
theorem dX11_count_122 : decode cX11_count 122 = .ok (.aload_n 0, 1) := by decide +kernel
theorem dX11_count_123 : decode cX11_count 123 = .ok (.getfield 50, 3) := by decide +kernel
theorem dX11_count_126 : decode cX11_count 126 = .ok (.getfield 212, 3) := by decide +kernel
theorem dX11_count_129 : decode cX11_count 129 = .ok (.ireturn, 1) := by decide +kernel
theorem dX11_count_130 : decode cX11_count 130 = .ok (.aload_n 0, 1) := by decide +kernel
theorem dX11_count_131 : decode cX11_count 131 = .ok (.getfield 50, 3) := by decide +kernel
theorem dX11_count_134 : decode cX11_count 134 = .ok (.getfield 281, 3) := by decide +kernel
theorem dX11_count_137 : decode cX11_count 137 = .ok (.invokestatic 285, 3) := by decide +kernel
theorem dX11_count_140 : decode cX11_count 140 = .ok (.ireturn, 1) := by decide +kernel
theorem dX11_count_141 : decode cX11_count 141 = .ok (.aload_n 0, 1) := by decide +kernel
theorem dX11_count_142 : decode cX11_count 142 = .ok (.getfield 50, 3) := by decide +kernel
theorem dX11_count_145 : decode cX11_count 145 = .ok (.getfield 203, 3) := by decide +kernel
theorem dX11_count_148 : decode cX11_count 148 = .ok (.ireturn, 1) := by decide +kernel
theorem dX11_count_149 : decode cX11_count 149 = .ok (.aload_n 0, 1) := by decide +kernel
theorem dX11_count_150 : decode cX11_count 150 = .ok (.getfield 60, 3) := by decide +kernel
theorem dX11_count_153 : decode cX11_count 153 = .ok (.getfield 315, 3) := by decide +kernel
theorem dX11_count_156 : decode cX11_count 156 = .ok (.ireturn, 1) := by decide +kernel
theorem dX11_count_157 : decode cX11_count 157 = .ok (.aload_n 0, 1) := by decide +kernel
theorem dX11_count_158 : decode cX11_count 158 = .ok (.getfield 67, 3) := by decide +kernel
theorem dX11_count_161 : decode cX11_count 161 = .ok (.getfield 223, 3) := by decide +kernel
theorem dX11_count_164 : decode cX11_count 164 = .ok (.ireturn, 1) := by decide +kernel
theorem dX11_count_165 : decode cX11_count 165 = .ok (.aload_n 0, 1) := by decide +kernel
theorem dX11_count_166 : decode cX11_count 166 = .ok (.getfield 336, 3) := by decide +kernel
theorem dX11_count_169 : decode cX11_count 169 = .ok (.ireturn, 1) := by decide +kernel
theorem dX11_count_170 : decode cX11_count 170 = .ok (.aload_n 0, 1) := by decide +kernel
theorem dX11_count_171 : decode cX11_count 171 = .ok (.getfield 100, 3) := by decide +kernel
theorem dX11_count_174 : decode cX11_count 174 = .ok (.ireturn, 1) := by decide +kernel
theorem dX11_count_175 : decode cX11_count 175 = .ok (.iconst (-1), 1) := by decide +kernel
theorem dX11_count_176 : decode cX11_count 176 = .ok (.ireturn, 1) := by decide +kernel
theorem dX11_dinner_0 : decode cX11_dinner 0 = .ok (.aload_n 0, 1) := by decide +kernel
theorem dX11_dinner_1 : decode cX11_dinner 1 = .ok (.getfield 16, 3) := by decide +kernel
theorem dX11_dinner_4 : decode cX11_dinner 4 = .ok (.aload_n 0, 1) := by decide +kernel
theorem dX11_dinner_5 : decode cX11_dinner 5 = .ok (.getfield 9, 3) := by decide +kernel
theorem dX11_dinner_8 : decode cX11_dinner 8 = .ok (.aload_n 0, 1) := by decide +kernel
theorem dX11_dinner_9 : decode cX11_dinner 9 = .ok (.getfield 100, 3) := by decide +kernel
theorem dX11_dinner_12 : decode cX11_dinner 12 = .ok (.aload_n 0, 1) := by decide +kernel
theorem dX11_dinner_13 : decode cX11_dinner 13 = .ok (.getfield 44, 3) := by decide +kernel
theorem dX11_dinner_16 : decode cX11_dinner 16 = .ok (.invokevirtual 107, 3) := by decide +kernel
theorem dX11_dinner_19 : decode cX11_dinner 19 = .ok (.istore_n 1, 1) := by decide +kernel
theorem dX11_dinner_20 : decode cX11_dinner 20 = .ok (.iload_n 1, 1) := by decide +kernel
theorem dX11_dinner_21 : decode cX11_dinner 21 = .ok (.ifCond .eq 8, 3) := by decide +kernel
theorem dX11_dinner_24 : decode cX11_dinner 24 = .ok (.bipush (-2), 2) := by decide +kernel
theorem dX11_dinner_26 : decode cX11_dinner 26 = .ok (.iload_n 1, 1) := by decide +kernel
theorem dX11_dinner_27 : decode cX11_dinner 27 = .ok (.isub, 1) := by decide +kernel
theorem dX11_dinner_28 : decode cX11_dinner 28 = .ok (.ireturn, 1) := by decide +kernel
theorem dX11_rule_0 : decode cX11_rule 0 = .ok (.aload_n 0, 1) := by decide +kernel
theorem dX11_rule_1 : decode cX11_rule 1 = .ok (.aload_n 0, 1) := by decide +kernel
theorem dX11_rule_2 : decode cX11_rule 2 = .ok (.getfield 125, 3) := by decide +kernel
theorem dX11_rule_5 : decode cX11_rule 5 = .ok (.invokevirtual 128, 3) := by decide +kernel
theorem dX11_rule_8 : decode cX11_rule 8 = .ok (.astore_n 1, 1) := by decide +kernel
theorem dX11_rule_9 : decode cX11_rule 9 = .ok (.aload_n 1, 1) := by decide +kernel
theorem dX11_rule_10 : decode cX11_rule 10 = .ok (.ifnonnull 5, 3) := by decide +kernel
theorem dX11_rule_15 : decode cX11_rule 15 = .ok (.aload_n 0, 1) := by decide +kernel
theorem dX11_rule_16 : decode cX11_rule 16 = .ok (.getfield 23, 3) := by decide +kernel
theorem dX11_rule_19 : decode cX11_rule 19 = .ok (.aload_n 0, 1) := by decide +kernel
theorem dX11_rule_20 : decode cX11_rule 20 = .ok (.getfield 9, 3) := by decide +kernel
theorem dX11_rule_23 : decode cX11_rule 23 = .ok (.aload_n 0, 1) := by decide +kernel
theorem dX11_rule_24 : decode cX11_rule 24 = .ok (.getfield 100, 3) := by decide +kernel
theorem dX11_rule_27 : decode cX11_rule 27 = .ok (.aload_n 1, 1) := by decide +kernel
theorem dX11_rule_28 : decode cX11_rule 28 = .ok (.invokevirtual 132, 3) := by decide +kernel
theorem dX11_rule_31 : decode cX11_rule 31 = .ok (.istore_n 2, 1) := by decide +kernel
theorem dX11_rule_32 : decode cX11_rule 32 = .ok (.iload_n 2, 1) := by decide +kernel
theorem dX11_rule_33 : decode cX11_rule 33 = .ok (.ifCond .eq 8, 3) := by decide +kernel
theorem dX11_rule_36 : decode cX11_rule 36 = .ok (.bipush (-2), 2) := by decide +kernel
theorem dX11_rule_38 : decode cX11_rule 38 = .ok (.iload_n 2, 1) := by decide +kernel
theorem dX11_rule_39 : decode cX11_rule 39 = .ok (.isub, 1) := by decide +kernel
theorem dX11_rule_40 : decode cX11_rule 40 = .ok (.ireturn, 1) := by decide +kernel
theorem dX11_ruleAt_0 : decode cX11_ruleAt 0 = .ok (.iload_n 1, 1) := by decide +kernel
theorem dX11_ruleAt_1 : decode cX11_ruleAt 1 = .ok (.ifCond .lt 21, 3) := by decide +kernel
theorem dX11_ruleAt_4 : decode cX11_ruleAt 4 = .ok (.iload_n 1, 1) := by decide +kernel
theorem dX11_ruleAt_5 : decode cX11_ruleAt 5 = .ok (.aload_n 0, 1) := by decide +kernel
theorem dX11_ruleAt_6 : decode cX11_ruleAt 6 = .ok (.getfield 29, 3) := by decide +kernel
theorem dX11_ruleAt_9 : decode cX11_ruleAt 9 = .ok (.arraylength, 1) := by decide +kernel
theorem dX11_ruleAt_10 : decode cX11_ruleAt 10 = .ok (.if_icmp .ge 12, 3) := by decide +kernel
theorem dX11_ruleAt_13 : decode cX11_ruleAt 13 = .ok (.aload_n 0, 1) := by decide +kernel
theorem dX11_ruleAt_14 : decode cX11_ruleAt 14 = .ok (.getfield 29, 3) := by decide +kernel
theorem dX11_ruleAt_17 : decode cX11_ruleAt 17 = .ok (.iload_n 1, 1) := by decide +kernel
theorem dX11_ruleAt_18 : decode cX11_ruleAt 18 = .ok (.aaload, 1) := by decide +kernel
theorem dX11_ruleAt_19 : decode cX11_ruleAt 19 = .ok (.goto 4, 3) := by decide +kernel
theorem dX11_ruleAt_23 : decode cX11_ruleAt 23 = .ok (.areturn, 1) := by decide +kernel
theorem dX1_clear_0 : decode cX1_clear 0 = .ok (.aload_n 0, 1) := by decide +kernel
theorem dX1_clear_1 : decode cX1_clear 1 = .ok (.iconst 0, 1) := by decide +kernel
theorem dX1_clear_2 : decode cX1_clear 2 = .ok (.putfield 24, 3) := by decide +kernel
theorem dX1_clear_5 : decode cX1_clear 5 = .ok (.aload_n 0, 1) := by decide +kernel
theorem dX1_clear_6 : decode cX1_clear 6 = .ok (.iconst 0, 1) := by decide +kernel
theorem dX1_clear_7 : decode cX1_clear 7 = .ok (.putfield 28, 3) := by decide +kernel
theorem dX1_clear_10 : decode cX1_clear 10 = .ok (.aload_n 0, 1) := by decide +kernel
theorem dX1_clear_11 : decode cX1_clear 11 = .ok (.iconst 0, 1) := by decide +kernel
theorem dX1_clear_12 : decode cX1_clear 12 = .ok (.putfield 31, 3) := by decide +kernel
theorem dX1_clear_15 : decode cX1_clear 15 = .ok (.iconst 0, 1) := by decide +kernel
theorem dX1_clear_16 : decode cX1_clear 16 = .ok (.istore_n 1, 1) := by decide +kernel
theorem dX1_clear_17 : decode cX1_clear 17 = .ok (.iload_n 1, 1) := by decide +kernel
theorem dX1_clear_18 : decode cX1_clear 18 = .ok (.bipush 8, 2) := by decide +kernel
theorem dX1_clear_20 : decode cX1_clear 20 = .ok (.if_icmp .ge 16, 3) := by decide +kernel
theorem dX1_clear_23 : decode cX1_clear 23 = .ok (.aload_n 0, 1) := by decide +kernel
theorem dX1_clear_24 : decode cX1_clear 24 = .ok (.getfield 21, 3) := by decide +kernel
theorem dX1_clear_27 : decode cX1_clear 27 = .ok (.iload_n 1, 1) := by decide +kernel
theorem dX1_clear_28 : decode cX1_clear 28 = .ok (.iconst 0, 1) := by decide +kernel
theorem dX1_clear_29 : decode cX1_clear 29 = .ok (.iastore, 1) := by decide +kernel
theorem dX1_clear_30 : decode cX1_clear 30 = .ok (.iinc 1 1, 3) := by decide +kernel
theorem dX1_clear_33 : decode cX1_clear 33 = .ok (.goto (-16), 3) := by decide +kernel
theorem dX1_clear_36 : decode cX1_clear 36 = .ok (.return_, 1) := by decide +kernel
theorem dX2_read_0 : decode cX2_read 0 = .ok (.aload_n 0, 1) := by decide +kernel
theorem dX2_read_1 : decode cX2_read 1 = .ok (.getfield 12, 3) := by decide +kernel
theorem dX2_read_4 : decode cX2_read 4 = .ok (.aload_n 1, 1) := by decide +kernel
theorem dX2_read_5 : decode cX2_read 5 = .ok (.iload_n 2, 1) := by decide +kernel
theorem dX2_read_6 : decode cX2_read 6 = .ok (.invokevirtual 18, 3) := by decide +kernel
theorem dX2_read_9 : decode cX2_read 9 = .ok (.aload_n 3, 1) := by decide +kernel
theorem dX2_read_10 : decode cX2_read 10 = .ok (.invokevirtual 22, 3) := by decide +kernel
theorem dX2_read_13 : decode cX2_read 13 = .ok (.iconst 0, 1) := by decide +kernel
theorem dX2_read_14 : decode cX2_read 14 = .ok (.istore 4, 2) := by decide +kernel
theorem dX2_read_16 : decode cX2_read 16 = .ok (.iload 4, 2) := by decide +kernel
theorem dX2_read_18 : decode cX2_read 18 = .ok (.bipush 40, 2) := by decide +kernel
theorem dX2_read_20 : decode cX2_read 20 = .ok (.if_icmp .gt 115, 3) := by decide +kernel
theorem dX2_read_23 : decode cX2_read 23 = .ok (.aload_n 0, 1) := by decide +kernel
theorem dX2_read_24 : decode cX2_read 24 = .ok (.getfield 12, 3) := by decide +kernel
theorem dX2_read_27 : decode cX2_read 27 = .ok (.invokevirtual 27, 3) := by decide +kernel
theorem dX2_read_30 : decode cX2_read 30 = .ok (.pop, 1) := by decide +kernel
theorem dX2_read_31 : decode cX2_read 31 = .ok (.aload_n 0, 1) := by decide +kernel
theorem dX2_read_32 : decode cX2_read 32 = .ok (.getfield 12, 3) := by decide +kernel
theorem dX2_read_35 : decode cX2_read 35 = .ok (.ldc 31, 2) := by decide +kernel
theorem dX2_read_37 : decode cX2_read 37 = .ok (.invokevirtual 33, 3) := by decide +kernel
theorem dX2_read_40 : decode cX2_read 40 = .ok (.istore 5, 2) := by decide +kernel
theorem dX2_read_42 : decode cX2_read 42 = .ok (.iload 5, 2) := by decide +kernel
theorem dX2_read_44 : decode cX2_read 44 = .ok (.iconst (-1), 1) := by decide +kernel
theorem dX2_read_45 : decode cX2_read 45 = .ok (.if_icmp .ne 21, 3) := by decide +kernel
theorem dX2_read_48 : decode cX2_read 48 = .ok (.aload_n 0, 1) := by decide +kernel
theorem dX2_read_49 : decode cX2_read 49 = .ok (.getfield 12, 3) := by decide +kernel
theorem dX2_read_52 : decode cX2_read 52 = .ok (.aload_n 0, 1) := by decide +kernel
theorem dX2_read_53 : decode cX2_read 53 = .ok (.getfield 12, 3) := by decide +kernel
theorem dX2_read_56 : decode cX2_read 56 = .ok (.getfield 37, 3) := by decide +kernel
theorem dX2_read_59 : decode cX2_read 59 = .ok (.iconst 0, 1) := by decide +kernel
theorem dX2_read_60 : decode cX2_read 60 = .ok (.invokevirtual 41, 3) := by decide +kernel
theorem dX2_read_63 : decode cX2_read 63 = .ok (.goto 53, 3) := by decide +kernel
theorem dX2_read_116 : decode cX2_read 116 = .ok (.aload_n 0, 1) := by decide +kernel
theorem dX2_read_117 : decode cX2_read 117 = .ok (.getfield 12, 3) := by decide +kernel
theorem dX2_read_120 : decode cX2_read 120 = .ok (.invokevirtual 56, 3) := by decide +kernel
theorem dX2_read_123 : decode cX2_read 123 = .ok (.ifCond .ne 6, 3) := by decide +kernel
theorem dX2_read_126 : decode cX2_read 126 = .ok (.goto 9, 3) := by decide +kernel
theorem dX2_read_135 : decode cX2_read 135 = .ok (.aload_n 0, 1) := by decide +kernel
theorem dX2_read_136 : decode cX2_read 136 = .ok (.getfield 12, 3) := by decide +kernel
theorem dX2_read_139 : decode cX2_read 139 = .ok (.getfield 60, 3) := by decide +kernel
theorem dX2_read_142 : decode cX2_read 142 = .ok (.ireturn, 1) := by decide +kernel
theorem dX9_clear_0 : decode cX9_clear 0 = .ok (.aload_n 0, 1) := by decide +kernel
theorem dX9_clear_1 : decode cX9_clear 1 = .ok (.iconst 0, 1) := by decide +kernel
theorem dX9_clear_2 : decode cX9_clear 2 = .ok (.putfield 15, 3) := by decide +kernel
theorem dX9_clear_5 : decode cX9_clear 5 = .ok (.aload_n 0, 1) := by decide +kernel
theorem dX9_clear_6 : decode cX9_clear 6 = .ok (.iconst 0, 1) := by decide +kernel
theorem dX9_clear_7 : decode cX9_clear 7 = .ok (.putfield 19, 3) := by decide +kernel
theorem dX9_clear_10 : decode cX9_clear 10 = .ok (.return_, 1) := by decide +kernel
set_option maxHeartbeats 4000000 in
set_option maxRecDepth 100000 in
/-- c_Dinner_clear -/
theorem c_Dinner_clear (l : Launch) (dC : Nat → ClassId) (dI : Nat → Nat → Nat) (sz : Nat) (h0 : Nat) (a1 : Nat) (a2 : Nat) (a3 : Nat) (a4 : Nat) (k4 : ClassId) (g4 : Nat → Int32) : Met l yX1_clear (.code yX1_clear cX1_clear 2 none :: wsA) ({ frames := 0, cells := 0, slots := 0, locals := 0 }) (va_Pc [.ref h0] (fun U => U.heap.size = sz ∧ va_P (dC, dI) classes [(h0, .inr (1, [.int 0, .int 0, .int 0, .ref a1, .ref a2, .ref a3, .ref a4])), (a4, .inl (k4, 8, .inl g4))] U.heap ∧ va_K (dC, dI) classes [(k4, .int)] U ∧ va_D (fun _ => True) [(h0, .inr (1, [.int 0, .int 0, .int 0, .ref a1, .ref a2, .ref a3, .ref a4])), (a4, .inl (k4, 8, .inl g4))] ∧ xE U)) (va_Qv (fun (_ : Unit) => True) (fun _ t => ∃ (o_f_8 : Nat → Int32), va_P (dC, dI) classes [(h0, .inr (1, [.int 0, .int 0, .int 0, .ref a1, .ref a2, .ref a3, .ref a4])), (a4, .inl (k4, 8, .inl o_f_8))] t.heap ∧ va_K (dC, dI) classes [(k4, .int)] t ∧ va_D (va_A [(h0, .inr (1, [.int 0, .int 0, .int 0, .ref a1, .ref a2, .ref a3, .ref a4])), (a4, .inl (k4, 8, .inl g4))] sz) [(h0, .inr (1, [.int 0, .int 0, .int 0, .ref a1, .ref a2, .ref a3, .ref a4])), (a4, .inl (k4, 8, .inl o_f_8))]) (va_A [(h0, .inr (1, [.int 0, .int 0, .int 0, .ref a1, .ref a2, .ref a3, .ref a4])), (a4, .inl (k4, 8, .inl g4))] sz)) 0 0 (va_A [(h0, .inr (1, [.int 0, .int 0, .int 0, .ref a1, .ref a2, .ref a3, .ref a4])), (a4, .inl (k4, 8, .inl g4))] sz) := by
  refine Met.ofW (cc := cX1_clear) (maxL := 2) (ret := none) (by decide) rfl ?_
  intro p e s m args below meth c s₁ B hml hv
  obtain ⟨rfl, hsz, hP, hK, hD0, hE⟩ := hv
  have hx := B.exec
  have hb := B.bytes
  have hr := B.returns
  have hts := atoms_spec (ws := .code yX1_clear cX1_clear 2 none :: wsA) B.pre
  have hq : ∀ w ∈ wsA, w.before _ s = true := fun w h => hts w (List.mem_cons_of_mem _ h)
  have hown : s.vm.findClass RX1 = some m.cls := findClass_of_methodNamed B.named
  have hlocks := B.notSynchronized
  subst hsz
  have hD := hD0.self (sz := s.heap.size)
  generalize hAe : va_A [(h0, .inr (1, [.int 0, .int 0, .int 0, .ref a1, .ref a2, .ref a3, .ref a4])), (a4, .inl (k4, 8, .inl g4))] s.heap.size = A at hD ⊢
  have hA : ∀ q : Nat, s.heap.size ≤ q → A q := fun q h => by rw [← hAe]; exact Or.inr h
  have hS : va_S A s.heap s.heap [] := va_S.rf
  have hl := lv_entry ([.ref h0]) (n := 2) (Nat.le_of_ble_eq_true rfl)
  rw [lg_entry_eq]
  generalize (lg_sl ([.ref h0]) ++ List.replicate (2 - (lg_sl ([.ref h0])).length) Slot.unset).toArray = ls at hl ⊢
  have hl : lv_has ls 2 [(0, .ref h0)] := hl
  refine lv_aload_n hx hb dX1_clear_0 rfl (lv_at hl 0 rfl) ?_
  refine lv_iconst (v := 0) hx hb dX1_clear_1 (by decide) ?_
  refine va_put (D := (dC, dI)) (ci := 1) (v := .int 0) (ty := .int) (C := RX1) (T := TX1) (N := 7) hx hb hq inX1 tyX1 tyX1_ok nmX1 hown hK hP hD hS 0 rfl rfl 0 (by decide) (hq _ qw_224) (fun _ h9 => h9) rfl (by decide +kernel) rfl rfl (Nat.le_of_ble_eq_true rfl) dX1_clear_2 (fun H locs hP hD hS => ?_)
  have hP : va_P (dC, dI) classes [(h0, .inr (1, [.int 0, .int 0, .int 0, .ref a1, .ref a2, .ref a3, .ref a4])), (a4, .inl (k4, 8, .inl g4))] H := hP
  have hD : va_D A [(h0, .inr (1, [.int 0, .int 0, .int 0, .ref a1, .ref a2, .ref a3, .ref a4])), (a4, .inl (k4, 8, .inl g4))] := hD
  refine lv_aload_n hx hb dX1_clear_5 rfl (lv_at hl 0 rfl) ?_
  refine lv_iconst (v := 0) hx hb dX1_clear_6 (by decide) ?_
  refine va_put (D := (dC, dI)) (ci := 1) (v := .int 0) (ty := .int) (C := RX1) (T := TX1) (N := 7) hx hb hq inX1 tyX1 tyX1_ok nmX1 hown hK hP hD hS 0 rfl rfl 1 (by decide) (hq _ qw_228) (fun _ h9 => h9) rfl (by decide +kernel) rfl rfl (Nat.le_of_ble_eq_true rfl) dX1_clear_7 (fun H locs hP hD hS => ?_)
  have hP : va_P (dC, dI) classes [(h0, .inr (1, [.int 0, .int 0, .int 0, .ref a1, .ref a2, .ref a3, .ref a4])), (a4, .inl (k4, 8, .inl g4))] H := hP
  have hD : va_D A [(h0, .inr (1, [.int 0, .int 0, .int 0, .ref a1, .ref a2, .ref a3, .ref a4])), (a4, .inl (k4, 8, .inl g4))] := hD
  refine lv_aload_n hx hb dX1_clear_10 rfl (lv_at hl 0 rfl) ?_
  refine lv_iconst (v := 0) hx hb dX1_clear_11 (by decide) ?_
  refine va_put (D := (dC, dI)) (ci := 1) (v := .int 0) (ty := .int) (C := RX1) (T := TX1) (N := 7) hx hb hq inX1 tyX1 tyX1_ok nmX1 hown hK hP hD hS 0 rfl rfl 2 (by decide) (hq _ qw_232) (fun _ h9 => h9) rfl (by decide +kernel) rfl rfl (Nat.le_of_ble_eq_true rfl) dX1_clear_12 (fun H locs hP hD hS => ?_)
  have hP : va_P (dC, dI) classes [(h0, .inr (1, [.int 0, .int 0, .int 0, .ref a1, .ref a2, .ref a3, .ref a4])), (a4, .inl (k4, 8, .inl g4))] H := hP
  have hD : va_D A [(h0, .inr (1, [.int 0, .int 0, .int 0, .ref a1, .ref a2, .ref a3, .ref a4])), (a4, .inl (k4, 8, .inl g4))] := hD
  refine lv_iconst (v := 0) hx hb dX1_clear_15 (by decide) ?_
  refine lv_istore_n (lv' := [(1, .int 0), (0, .ref h0)]) hx hb dX1_clear_16 rfl hl (by decide) rfl (fun ls hl => ?_)
  refine lv_iload_n hx hb dX1_clear_17 rfl (lv_at hl 0 rfl) ?_
  refine lv_bipush (v := 8) hx hb dX1_clear_18 (by decide) ?_
  refine lv_icmp_ge (tgt := 36) hx hb dX1_clear_20 (by decide) (fun c9 => absurd c9 (by decide)) (fun _ => ?_)
  refine lv_aload_n hx hb dX1_clear_23 rfl (lv_at hl 1 rfl) ?_
  refine va_get (D := (dC, dI)) (ci := 1) (v := .ref a4) (C := RX1) (T := TX1) (N := 7) hx hb hq inX1 hown hK hP 0 rfl rfl 6 (by decide) (hq _ qw_245) (fun _ h9 => h9) rfl dX1_clear_24 ?_
  refine lv_iload_n hx hb dX1_clear_27 rfl (lv_at hl 0 rfl) ?_
  refine lv_iconst (v := 0) hx hb dX1_clear_28 (by decide) ?_
  refine va_iast hx hb hK hP hD hS 1 0 rfl rfl (inr_ok rfl) dX1_clear_29 (fun H locs hP hD hS => ?_)
  generalize upd g4 (Int32.toNatClampNeg 0) 0 = f_1 at hP hD
  have hP : va_P (dC, dI) classes [(h0, .inr (1, [.int 0, .int 0, .int 0, .ref a1, .ref a2, .ref a3, .ref a4])), (a4, .inl (k4, 8, .inl f_1))] H := hP
  have hD : va_D A [(h0, .inr (1, [.int 0, .int 0, .int 0, .ref a1, .ref a2, .ref a3, .ref a4])), (a4, .inl (k4, 8, .inl f_1))] := hD
  refine lv_iinc (v := 1) (lv' := [(1, .int 1), (0, .ref h0)]) hx hb dX1_clear_30 hl (k := 0) rfl (by decide) (by decide) rfl (fun ls hl => ?_)
  refine lv_goto (tgt := 17) hx hb dX1_clear_33 (by decide) ?_
  refine lv_iload_n hx hb dX1_clear_17 rfl (lv_at hl 0 rfl) ?_
  refine lv_bipush (v := 8) hx hb dX1_clear_18 (by decide) ?_
  refine lv_icmp_ge (tgt := 36) hx hb dX1_clear_20 (by decide) (fun c9 => absurd c9 (by decide)) (fun _ => ?_)
  refine lv_aload_n hx hb dX1_clear_23 rfl (lv_at hl 1 rfl) ?_
  refine va_get (D := (dC, dI)) (ci := 1) (v := .ref a4) (C := RX1) (T := TX1) (N := 7) hx hb hq inX1 hown hK hP 0 rfl rfl 6 (by decide) (hq _ qw_245) (fun _ h9 => h9) rfl dX1_clear_24 ?_
  refine lv_iload_n hx hb dX1_clear_27 rfl (lv_at hl 0 rfl) ?_
  refine lv_iconst (v := 0) hx hb dX1_clear_28 (by decide) ?_
  refine va_iast hx hb hK hP hD hS 1 0 rfl rfl (inr_ok rfl) dX1_clear_29 (fun H locs hP hD hS => ?_)
  generalize upd f_1 (Int32.toNatClampNeg 1) 0 = f_2 at hP hD
  have hP : va_P (dC, dI) classes [(h0, .inr (1, [.int 0, .int 0, .int 0, .ref a1, .ref a2, .ref a3, .ref a4])), (a4, .inl (k4, 8, .inl f_2))] H := hP
  have hD : va_D A [(h0, .inr (1, [.int 0, .int 0, .int 0, .ref a1, .ref a2, .ref a3, .ref a4])), (a4, .inl (k4, 8, .inl f_2))] := hD
  refine lv_iinc (v := 2) (lv' := [(1, .int 2), (0, .ref h0)]) hx hb dX1_clear_30 hl (k := 0) rfl (by decide) (by decide) rfl (fun ls hl => ?_)
  refine lv_goto (tgt := 17) hx hb dX1_clear_33 (by decide) ?_
  refine lv_iload_n hx hb dX1_clear_17 rfl (lv_at hl 0 rfl) ?_
  refine lv_bipush (v := 8) hx hb dX1_clear_18 (by decide) ?_
  refine lv_icmp_ge (tgt := 36) hx hb dX1_clear_20 (by decide) (fun c9 => absurd c9 (by decide)) (fun _ => ?_)
  refine lv_aload_n hx hb dX1_clear_23 rfl (lv_at hl 1 rfl) ?_
  refine va_get (D := (dC, dI)) (ci := 1) (v := .ref a4) (C := RX1) (T := TX1) (N := 7) hx hb hq inX1 hown hK hP 0 rfl rfl 6 (by decide) (hq _ qw_245) (fun _ h9 => h9) rfl dX1_clear_24 ?_
  refine lv_iload_n hx hb dX1_clear_27 rfl (lv_at hl 0 rfl) ?_
  refine lv_iconst (v := 0) hx hb dX1_clear_28 (by decide) ?_
  refine va_iast hx hb hK hP hD hS 1 0 rfl rfl (inr_ok rfl) dX1_clear_29 (fun H locs hP hD hS => ?_)
  generalize upd f_2 (Int32.toNatClampNeg 2) 0 = f_3 at hP hD
  have hP : va_P (dC, dI) classes [(h0, .inr (1, [.int 0, .int 0, .int 0, .ref a1, .ref a2, .ref a3, .ref a4])), (a4, .inl (k4, 8, .inl f_3))] H := hP
  have hD : va_D A [(h0, .inr (1, [.int 0, .int 0, .int 0, .ref a1, .ref a2, .ref a3, .ref a4])), (a4, .inl (k4, 8, .inl f_3))] := hD
  refine lv_iinc (v := 3) (lv' := [(1, .int 3), (0, .ref h0)]) hx hb dX1_clear_30 hl (k := 0) rfl (by decide) (by decide) rfl (fun ls hl => ?_)
  refine lv_goto (tgt := 17) hx hb dX1_clear_33 (by decide) ?_
  refine lv_iload_n hx hb dX1_clear_17 rfl (lv_at hl 0 rfl) ?_
  refine lv_bipush (v := 8) hx hb dX1_clear_18 (by decide) ?_
  refine lv_icmp_ge (tgt := 36) hx hb dX1_clear_20 (by decide) (fun c9 => absurd c9 (by decide)) (fun _ => ?_)
  refine lv_aload_n hx hb dX1_clear_23 rfl (lv_at hl 1 rfl) ?_
  refine va_get (D := (dC, dI)) (ci := 1) (v := .ref a4) (C := RX1) (T := TX1) (N := 7) hx hb hq inX1 hown hK hP 0 rfl rfl 6 (by decide) (hq _ qw_245) (fun _ h9 => h9) rfl dX1_clear_24 ?_
  refine lv_iload_n hx hb dX1_clear_27 rfl (lv_at hl 0 rfl) ?_
  refine lv_iconst (v := 0) hx hb dX1_clear_28 (by decide) ?_
  refine va_iast hx hb hK hP hD hS 1 0 rfl rfl (inr_ok rfl) dX1_clear_29 (fun H locs hP hD hS => ?_)
  generalize upd f_3 (Int32.toNatClampNeg 3) 0 = f_4 at hP hD
  have hP : va_P (dC, dI) classes [(h0, .inr (1, [.int 0, .int 0, .int 0, .ref a1, .ref a2, .ref a3, .ref a4])), (a4, .inl (k4, 8, .inl f_4))] H := hP
  have hD : va_D A [(h0, .inr (1, [.int 0, .int 0, .int 0, .ref a1, .ref a2, .ref a3, .ref a4])), (a4, .inl (k4, 8, .inl f_4))] := hD
  refine lv_iinc (v := 4) (lv' := [(1, .int 4), (0, .ref h0)]) hx hb dX1_clear_30 hl (k := 0) rfl (by decide) (by decide) rfl (fun ls hl => ?_)
  refine lv_goto (tgt := 17) hx hb dX1_clear_33 (by decide) ?_
  refine lv_iload_n hx hb dX1_clear_17 rfl (lv_at hl 0 rfl) ?_
  refine lv_bipush (v := 8) hx hb dX1_clear_18 (by decide) ?_
  refine lv_icmp_ge (tgt := 36) hx hb dX1_clear_20 (by decide) (fun c9 => absurd c9 (by decide)) (fun _ => ?_)
  refine lv_aload_n hx hb dX1_clear_23 rfl (lv_at hl 1 rfl) ?_
  refine va_get (D := (dC, dI)) (ci := 1) (v := .ref a4) (C := RX1) (T := TX1) (N := 7) hx hb hq inX1 hown hK hP 0 rfl rfl 6 (by decide) (hq _ qw_245) (fun _ h9 => h9) rfl dX1_clear_24 ?_
  refine lv_iload_n hx hb dX1_clear_27 rfl (lv_at hl 0 rfl) ?_
  refine lv_iconst (v := 0) hx hb dX1_clear_28 (by decide) ?_
  refine va_iast hx hb hK hP hD hS 1 0 rfl rfl (inr_ok rfl) dX1_clear_29 (fun H locs hP hD hS => ?_)
  generalize upd f_4 (Int32.toNatClampNeg 4) 0 = f_5 at hP hD
  have hP : va_P (dC, dI) classes [(h0, .inr (1, [.int 0, .int 0, .int 0, .ref a1, .ref a2, .ref a3, .ref a4])), (a4, .inl (k4, 8, .inl f_5))] H := hP
  have hD : va_D A [(h0, .inr (1, [.int 0, .int 0, .int 0, .ref a1, .ref a2, .ref a3, .ref a4])), (a4, .inl (k4, 8, .inl f_5))] := hD
  refine lv_iinc (v := 5) (lv' := [(1, .int 5), (0, .ref h0)]) hx hb dX1_clear_30 hl (k := 0) rfl (by decide) (by decide) rfl (fun ls hl => ?_)
  refine lv_goto (tgt := 17) hx hb dX1_clear_33 (by decide) ?_
  refine lv_iload_n hx hb dX1_clear_17 rfl (lv_at hl 0 rfl) ?_
  refine lv_bipush (v := 8) hx hb dX1_clear_18 (by decide) ?_
  refine lv_icmp_ge (tgt := 36) hx hb dX1_clear_20 (by decide) (fun c9 => absurd c9 (by decide)) (fun _ => ?_)
  refine lv_aload_n hx hb dX1_clear_23 rfl (lv_at hl 1 rfl) ?_
  refine va_get (D := (dC, dI)) (ci := 1) (v := .ref a4) (C := RX1) (T := TX1) (N := 7) hx hb hq inX1 hown hK hP 0 rfl rfl 6 (by decide) (hq _ qw_245) (fun _ h9 => h9) rfl dX1_clear_24 ?_
  refine lv_iload_n hx hb dX1_clear_27 rfl (lv_at hl 0 rfl) ?_
  refine lv_iconst (v := 0) hx hb dX1_clear_28 (by decide) ?_
  refine va_iast hx hb hK hP hD hS 1 0 rfl rfl (inr_ok rfl) dX1_clear_29 (fun H locs hP hD hS => ?_)
  generalize upd f_5 (Int32.toNatClampNeg 5) 0 = f_6 at hP hD
  have hP : va_P (dC, dI) classes [(h0, .inr (1, [.int 0, .int 0, .int 0, .ref a1, .ref a2, .ref a3, .ref a4])), (a4, .inl (k4, 8, .inl f_6))] H := hP
  have hD : va_D A [(h0, .inr (1, [.int 0, .int 0, .int 0, .ref a1, .ref a2, .ref a3, .ref a4])), (a4, .inl (k4, 8, .inl f_6))] := hD
  refine lv_iinc (v := 6) (lv' := [(1, .int 6), (0, .ref h0)]) hx hb dX1_clear_30 hl (k := 0) rfl (by decide) (by decide) rfl (fun ls hl => ?_)
  refine lv_goto (tgt := 17) hx hb dX1_clear_33 (by decide) ?_
  refine lv_iload_n hx hb dX1_clear_17 rfl (lv_at hl 0 rfl) ?_
  refine lv_bipush (v := 8) hx hb dX1_clear_18 (by decide) ?_
  refine lv_icmp_ge (tgt := 36) hx hb dX1_clear_20 (by decide) (fun c9 => absurd c9 (by decide)) (fun _ => ?_)
  refine lv_aload_n hx hb dX1_clear_23 rfl (lv_at hl 1 rfl) ?_
  refine va_get (D := (dC, dI)) (ci := 1) (v := .ref a4) (C := RX1) (T := TX1) (N := 7) hx hb hq inX1 hown hK hP 0 rfl rfl 6 (by decide) (hq _ qw_245) (fun _ h9 => h9) rfl dX1_clear_24 ?_
  refine lv_iload_n hx hb dX1_clear_27 rfl (lv_at hl 0 rfl) ?_
  refine lv_iconst (v := 0) hx hb dX1_clear_28 (by decide) ?_
  refine va_iast hx hb hK hP hD hS 1 0 rfl rfl (inr_ok rfl) dX1_clear_29 (fun H locs hP hD hS => ?_)
  generalize upd f_6 (Int32.toNatClampNeg 6) 0 = f_7 at hP hD
  have hP : va_P (dC, dI) classes [(h0, .inr (1, [.int 0, .int 0, .int 0, .ref a1, .ref a2, .ref a3, .ref a4])), (a4, .inl (k4, 8, .inl f_7))] H := hP
  have hD : va_D A [(h0, .inr (1, [.int 0, .int 0, .int 0, .ref a1, .ref a2, .ref a3, .ref a4])), (a4, .inl (k4, 8, .inl f_7))] := hD
  refine lv_iinc (v := 7) (lv' := [(1, .int 7), (0, .ref h0)]) hx hb dX1_clear_30 hl (k := 0) rfl (by decide) (by decide) rfl (fun ls hl => ?_)
  refine lv_goto (tgt := 17) hx hb dX1_clear_33 (by decide) ?_
  refine lv_iload_n hx hb dX1_clear_17 rfl (lv_at hl 0 rfl) ?_
  refine lv_bipush (v := 8) hx hb dX1_clear_18 (by decide) ?_
  refine lv_icmp_ge (tgt := 36) hx hb dX1_clear_20 (by decide) (fun c9 => absurd c9 (by decide)) (fun _ => ?_)
  refine lv_aload_n hx hb dX1_clear_23 rfl (lv_at hl 1 rfl) ?_
  refine va_get (D := (dC, dI)) (ci := 1) (v := .ref a4) (C := RX1) (T := TX1) (N := 7) hx hb hq inX1 hown hK hP 0 rfl rfl 6 (by decide) (hq _ qw_245) (fun _ h9 => h9) rfl dX1_clear_24 ?_
  refine lv_iload_n hx hb dX1_clear_27 rfl (lv_at hl 0 rfl) ?_
  refine lv_iconst (v := 0) hx hb dX1_clear_28 (by decide) ?_
  refine va_iast hx hb hK hP hD hS 1 0 rfl rfl (inr_ok rfl) dX1_clear_29 (fun H locs hP hD hS => ?_)
  generalize upd f_7 (Int32.toNatClampNeg 7) 0 = f_8 at hP hD
  have hP : va_P (dC, dI) classes [(h0, .inr (1, [.int 0, .int 0, .int 0, .ref a1, .ref a2, .ref a3, .ref a4])), (a4, .inl (k4, 8, .inl f_8))] H := hP
  have hD : va_D A [(h0, .inr (1, [.int 0, .int 0, .int 0, .ref a1, .ref a2, .ref a3, .ref a4])), (a4, .inl (k4, 8, .inl f_8))] := hD
  refine lv_iinc (v := 8) (lv' := [(1, .int 8), (0, .ref h0)]) hx hb dX1_clear_30 hl (k := 0) rfl (by decide) (by decide) rfl (fun ls hl => ?_)
  refine lv_goto (tgt := 17) hx hb dX1_clear_33 (by decide) ?_
  refine lv_iload_n hx hb dX1_clear_17 rfl (lv_at hl 0 rfl) ?_
  refine lv_bipush (v := 8) hx hb dX1_clear_18 (by decide) ?_
  refine lv_icmp_ge (tgt := 36) hx hb dX1_clear_20 (by decide) (fun _ => ?_) (fun c9 => absurd c9 (by decide))
  have hP9 := hP.sub (ws' := [(h0, .inr (1, [.int 0, .int 0, .int 0, .ref a1, .ref a2, .ref a3, .ref a4])), (a4, .inl (k4, 8, .inl f_8))]) [0, 1] rfl
  have hD9 := hD.sub (ws' := [(h0, .inr (1, [.int 0, .int 0, .int 0, .ref a1, .ref a2, .ref a3, .ref a4])), (a4, .inl (k4, 8, .inl f_8))]) [0, 1] (by decide) rfl
  have hK9 := hK.sub (tys' := [(k4, .int)]) [0] rfl
  refine W.widen (k := 0) (n := 0) (Nat.le_of_ble_eq_true rfl) (Nat.le_of_ble_eq_true rfl) ?_
  exact W.vret hx hb hr (fun t ht hW => ⟨⟨(), rfl, trivial, f_8, by rw [ht]; exact hP9, va_K.moved hW.alike hK9, hD9⟩, hS.F ht⟩) hS.2.2 dX1_clear_36

set_option maxHeartbeats 4000000 in
set_option maxRecDepth 100000 in
/-- c_Rule_clear -/
theorem c_Rule_clear (l : Launch) (dC : Nat → ClassId) (dI : Nat → Nat → Nat) (sz : Nat) (h0 : Nat) (cd : Nat) : Met l yX9_clear (.code yX9_clear cX9_clear 1 none :: wsA) ({ frames := 0, cells := 0, slots := 0, locals := 0 }) (va_Pc [.ref h0] (fun U => U.heap.size = sz ∧ va_P (dC, dI) classes [(h0, .inr (9, [.ref cd, .int 0, .int 0]))] U.heap ∧ va_K (dC, dI) classes [] U ∧ va_D (fun _ => True) [(h0, .inr (9, [.ref cd, .int 0, .int 0]))] ∧ xE U)) (va_Qv (fun (_ : Unit) => True) (fun _ t => va_P (dC, dI) classes [(h0, .inr (9, [.ref cd, .int 0, .int 0]))] t.heap ∧ va_K (dC, dI) classes [] t ∧ va_D (va_A [(h0, .inr (9, [.ref cd, .int 0, .int 0]))] sz) [(h0, .inr (9, [.ref cd, .int 0, .int 0]))]) (va_A [(h0, .inr (9, [.ref cd, .int 0, .int 0]))] sz)) 0 0 (va_A [(h0, .inr (9, [.ref cd, .int 0, .int 0]))] sz) := by
  refine Met.ofW (cc := cX9_clear) (maxL := 1) (ret := none) (by decide) rfl ?_
  intro p e s m args below meth c s₁ B hml hv
  obtain ⟨rfl, hsz, hP, hK, hD0, hE⟩ := hv
  have hx := B.exec
  have hb := B.bytes
  have hr := B.returns
  have hts := atoms_spec (ws := .code yX9_clear cX9_clear 1 none :: wsA) B.pre
  have hq : ∀ w ∈ wsA, w.before _ s = true := fun w h => hts w (List.mem_cons_of_mem _ h)
  have hown : s.vm.findClass RX9 = some m.cls := findClass_of_methodNamed B.named
  have hlocks := B.notSynchronized
  subst hsz
  have hD := hD0.self (sz := s.heap.size)
  generalize hAe : va_A [(h0, .inr (9, [.ref cd, .int 0, .int 0]))] s.heap.size = A at hD ⊢
  have hA : ∀ q : Nat, s.heap.size ≤ q → A q := fun q h => by rw [← hAe]; exact Or.inr h
  have hS : va_S A s.heap s.heap [] := va_S.rf
  have hl := lv_entry ([.ref h0]) (n := 1) (Nat.le_of_ble_eq_true rfl)
  rw [lg_entry_eq]
  generalize (lg_sl ([.ref h0]) ++ List.replicate (1 - (lg_sl ([.ref h0])).length) Slot.unset).toArray = ls at hl ⊢
  have hl : lv_has ls 1 [(0, .ref h0)] := hl
  refine lv_aload_n hx hb dX9_clear_0 rfl (lv_at hl 0 rfl) ?_
  refine lv_iconst (v := 0) hx hb dX9_clear_1 (by decide) ?_
  refine va_put (D := (dC, dI)) (ci := 9) (v := .int 0) (ty := .int) (C := RX9) (T := TX9) (N := 3) hx hb hq inX9 tyX9 tyX9_ok nmX9 hown hK hP hD hS 0 rfl rfl 1 (by decide) (hq _ qw_196) (fun _ h9 => h9) rfl (by decide +kernel) rfl rfl (Nat.le_of_ble_eq_true rfl) dX9_clear_2 (fun H locs hP hD hS => ?_)
  have hP : va_P (dC, dI) classes [(h0, .inr (9, [.ref cd, .int 0, .int 0]))] H := hP
  have hD : va_D A [(h0, .inr (9, [.ref cd, .int 0, .int 0]))] := hD
  refine lv_aload_n hx hb dX9_clear_5 rfl (lv_at hl 0 rfl) ?_
  refine lv_iconst (v := 0) hx hb dX9_clear_6 (by decide) ?_
  refine va_put (D := (dC, dI)) (ci := 9) (v := .int 0) (ty := .boolean) (C := RX9) (T := TX9) (N := 3) hx hb hq inX9 tyX9 tyX9_ok nmX9 hown hK hP hD hS 0 rfl rfl 2 (by decide) (hq _ qw_197) (fun _ h9 => h9) rfl (by decide +kernel) rfl rfl (Nat.le_of_ble_eq_true rfl) dX9_clear_7 (fun H locs hP hD hS => ?_)
  have hP : va_P (dC, dI) classes [(h0, .inr (9, [.ref cd, .int 0, .int 0]))] H := hP
  have hD : va_D A [(h0, .inr (9, [.ref cd, .int 0, .int 0]))] := hD
  have hP9 := hP.sub (ws' := [(h0, .inr (9, [.ref cd, .int 0, .int 0]))]) [0] rfl
  have hD9 := hD.sub (ws' := [(h0, .inr (9, [.ref cd, .int 0, .int 0]))]) [0] (by decide) rfl
  have hK9 := hK.sub (tys' := []) [] rfl
  refine W.widen (k := 0) (n := 0) (Nat.le_of_ble_eq_true rfl) (Nat.le_of_ble_eq_true rfl) ?_
  exact W.vret hx hb hr (fun t ht hW => ⟨⟨(), rfl, trivial, by rw [ht]; exact hP9, va_K.moved hW.alike hK9, hD9⟩, hS.F ht⟩) hS.2.2 dX9_clear_10

set_option maxHeartbeats 4000000 in
set_option maxRecDepth 100000 in
/-- c_DR_read -/
theorem c_DR_read (l : Launch) (dC : Nat → ClassId) (dI : Nat → Nat → Nat) (sz : Nat) (kA vA : Nat → Nat) (h0 : Nat) (h1 : Nat) (tx : Nat) (h2 : Nat) (h3 : Nat) (a1 : Nat) (a2 : Nat) (a3 : Nat) (a4 : Nat) (kt : ClassId) (gt : Nat → Int32) (k4 : ClassId) (g4 : Nat → Int32) : Met l yX2_read (.code yX2_read cX2_read 6 (some .int) :: wsA) ({ frames := 5, cells := 0, slots := 0, locals := 111 }) (va_Pc [.ref h0, .ref h2, .int 0, .ref h3] (fun U => U.heap.size = sz ∧ va_P (dC, dI) classes [(h0, .inr (2, [.ref h1])), (h1, .inr (7, [.ref tx, .int 0, .int 0, .int 0])), (h2, .inl (kt, 400, .inl gt)), (h3, .inr (1, [.int 0, .int 0, .int 0, .ref a1, .ref a2, .ref a3, .ref a4])), (a4, .inl (k4, 8, .inl g4))] U.heap ∧ va_K (dC, dI) classes [(kt, .int), (k4, .int)] U ∧ va_D (fun _ => True) [(h0, .inr (2, [.ref h1])), (h1, .inr (7, [.ref tx, .int 0, .int 0, .int 0])), (h2, .inl (kt, 400, .inl gt)), (h3, .inr (1, [.int 0, .int 0, .int 0, .ref a1, .ref a2, .ref a3, .ref a4])), (a4, .inl (k4, 8, .inl g4))] ∧ xE U ∧ xT kA vA (va_A [(h0, .inr (2, [.ref h1])), (h1, .inr (7, [.ref tx, .int 0, .int 0, .int 0])), (h2, .inl (kt, 400, .inl gt)), (h3, .inr (1, [.int 0, .int 0, .int 0, .ref a1, .ref a2, .ref a3, .ref a4])), (a4, .inl (k4, 8, .inl g4))] sz) U U.heap)) (va_Qi (fun (r : Int32) (_ : Unit) => r = 1) (fun _ _ => True) (va_A [(h0, .inr (2, [.ref h1])), (h1, .inr (7, [.ref tx, .int 0, .int 0, .int 0])), (h2, .inl (kt, 400, .inl gt)), (h3, .inr (1, [.int 0, .int 0, .int 0, .ref a1, .ref a2, .ref a3, .ref a4])), (a4, .inl (k4, 8, .inl g4))] sz)) 0 0 (va_A [(h0, .inr (2, [.ref h1])), (h1, .inr (7, [.ref tx, .int 0, .int 0, .int 0])), (h2, .inl (kt, 400, .inl gt)), (h3, .inr (1, [.int 0, .int 0, .int 0, .ref a1, .ref a2, .ref a3, .ref a4])), (a4, .inl (k4, 8, .inl g4))] sz) := by
  refine Met.ofW (cc := cX2_read) (maxL := 6) (ret := (some .int)) (by decide) rfl ?_
  intro p e s m args below meth c s₁ B hml hv
  obtain ⟨rfl, hsz, hP, hK, hD0, hE, hT⟩ := hv
  have hx := B.exec
  have hb := B.bytes
  have hr := B.returns
  have hts := atoms_spec (ws := .code yX2_read cX2_read 6 (some .int) :: wsA) B.pre
  have hq : ∀ w ∈ wsA, w.before _ s = true := fun w h => hts w (List.mem_cons_of_mem _ h)
  have hown : s.vm.findClass RX2 = some m.cls := findClass_of_methodNamed B.named
  have hlocks := B.notSynchronized
  subst hsz
  have hD := hD0.self (sz := s.heap.size)
  generalize hAe : va_A [(h0, .inr (2, [.ref h1])), (h1, .inr (7, [.ref tx, .int 0, .int 0, .int 0])), (h2, .inl (kt, 400, .inl gt)), (h3, .inr (1, [.int 0, .int 0, .int 0, .ref a1, .ref a2, .ref a3, .ref a4])), (a4, .inl (k4, 8, .inl g4))] s.heap.size = A at hD hT ⊢
  have hA : ∀ q : Nat, s.heap.size ≤ q → A q := fun q h => by rw [← hAe]; exact Or.inr h
  have hS : va_S A s.heap s.heap [] := va_S.rf
  have hl := lv_entry ([.ref h0, .ref h2, .int 0, .ref h3]) (n := 6) (Nat.le_of_ble_eq_true rfl)
  rw [lg_entry_eq]
  generalize (lg_sl ([.ref h0, .ref h2, .int 0, .ref h3]) ++ List.replicate (6 - (lg_sl ([.ref h0, .ref h2, .int 0, .ref h3])).length) Slot.unset).toArray = ls at hl ⊢
  have hl : lv_has ls 6 [(0, .ref h0), (1, .ref h2), (2, .int 0), (3, .ref h3)] := hl
  refine lv_aload_n hx hb dX2_read_0 rfl (lv_at hl 0 rfl) ?_
  refine va_get (D := (dC, dI)) (ci := 2) (v := .ref h1) (C := RX2) (T := TX2) (N := 1) hx hb hq inX2 hown hK hP 0 rfl rfl 0 (by decide) (hq _ qw_177) (fun _ h9 => h9) rfl dX2_read_1 ?_
  refine lv_aload_n hx hb dX2_read_4 rfl (lv_at hl 1 rfl) ?_
  refine lv_iload_n hx hb dX2_read_5 rfl (lv_at hl 2 rfl) ?_
  have hPc := hP.sub (ws' := [(h1, .inr (7, [.ref tx, .int 0, .int 0, .int 0])), (h2, .inl (kt, 400, .inl gt))]) [1, 2] rfl
  have hDc := hD.sub (ws' := [(h1, .inr (7, [.ref tx, .int 0, .int 0, .int 0])), (h2, .inl (kt, 400, .inl gt))]) [1, 2] (by decide) rfl
  have hKc := hK.sub (tys' := [(kt, .int)]) [0] rfl
  have hFc := va_free (wc := [(h1, .inr (7, [.ref tx, .int 0, .int 0, .int 0])), (h2, .inl (kt, 400, .inl gt))]) hD hS hA [1, 2] rfl
  refine va_callv (va_runV (As := [.ref h2, .int 0]) (rest := []) ⟨hx, hb, hml, hown, hq⟩ (c_Rd_open l dC dI _ h1 tx h2 kt gt ) (cwV 2 hq (gV qw_527 qw_528 qw_529 qw_121 qw_530) rfl rfl rfl (by decide +kernel) ⟨Nat.le_of_ble_eq_true rfl, Nat.le_of_ble_eq_true rfl⟩) ⟨fun a U g mk q => by obtain ⟨q0, q1, qP, qK, qD, qE⟩ := q; exact ⟨q0, q1, qP, va_K.moved (u := U) (U := U.calling g mk a) (Vm.Alike.refl U.vm) qK, qD, xE.same rfl qE⟩, va_recv hKc hPc (ci := 7) (q0 := 0) rfl rfl, fun U hU hW => ⟨rfl, by rw [hU], by rw [hU]; exact hPc, va_K.moved hW.alike hKc, hDc.weaken (fun _ _ _ _ => trivial), xE.warm hW hE⟩⟩ rfl rfl hl.1 rfl (lv_room (Nat.le_of_ble_eq_true rfl)) dX2_read_6 ⟨Nat.le_of_ble_eq_true rfl, Nat.le_of_ble_eq_true rfl⟩) hS (fun q _ h => hFc q h) hFc (fun u t H1 locs ht hvm hw hB hz1 hk1 hS => ?_)
  obtain ⟨hP1, hK1, hD1⟩ := hB
  rw [ht] at hP1
  have hK1 := va_K.moved hvm.symm hK1
  obtain ⟨hP, hD⟩ := va_join (wr := [(h0, .inr (2, [.ref h1])), (h3, .inr (1, [.int 0, .int 0, .int 0, .ref a1, .ref a2, .ref a3, .ref a4])), (a4, .inl (k4, 8, .inl g4))]) (w1 := [(h1, .inr (7, [.ref h2, .int 0, .int 0, .int 0])), (h2, .inl (kt, 400, .inl gt))]) hP hD [1, 2] [0, 3, 4] rfl rfl (by decide) (by decide) hk1 hFc hP1 hD1
  generalize H1 = H at hP hS ⊢
  have hP : va_P (dC, dI) classes [(h0, .inr (2, [.ref h1])), (h3, .inr (1, [.int 0, .int 0, .int 0, .ref a1, .ref a2, .ref a3, .ref a4])), (a4, .inl (k4, 8, .inl g4)), (h1, .inr (7, [.ref h2, .int 0, .int 0, .int 0])), (h2, .inl (kt, 400, .inl gt))] H := hP
  have hD : va_D A [(h0, .inr (2, [.ref h1])), (h3, .inr (1, [.int 0, .int 0, .int 0, .ref a1, .ref a2, .ref a3, .ref a4])), (a4, .inl (k4, 8, .inl g4)), (h1, .inr (7, [.ref h2, .int 0, .int 0, .int 0])), (h2, .inl (kt, 400, .inl gt))] := hD
  refine lv_aload_n hx hb dX2_read_9 rfl (lv_at hl 3 rfl) ?_
  have hPc := hP.sub (ws' := [(h3, .inr (1, [.int 0, .int 0, .int 0, .ref a1, .ref a2, .ref a3, .ref a4])), (a4, .inl (k4, 8, .inl g4))]) [1, 2] rfl
  have hDc := hD.sub (ws' := [(h3, .inr (1, [.int 0, .int 0, .int 0, .ref a1, .ref a2, .ref a3, .ref a4])), (a4, .inl (k4, 8, .inl g4))]) [1, 2] (by decide) rfl
  have hKc := hK.sub (tys' := [(k4, .int)]) [1] rfl
  have hFc := va_free (wc := [(h3, .inr (1, [.int 0, .int 0, .int 0, .ref a1, .ref a2, .ref a3, .ref a4])), (a4, .inl (k4, 8, .inl g4))]) hD hS hA [1, 2] rfl
  refine va_callv (va_runV (As := []) (rest := []) ⟨hx, hb, hml, hown, hq⟩ (c_Dinner_clear l dC dI _ h3 a1 a2 a3 a4 k4 g4 ) (cwV 0 hq (gV qw_534 qw_535 qw_536 qw_124 qw_537) rfl rfl rfl (by decide +kernel) ⟨Nat.le_of_ble_eq_true rfl, Nat.le_of_ble_eq_true rfl⟩) ⟨fun a U g mk q => by obtain ⟨q0, q1, qP, qK, qD, qE⟩ := q; exact ⟨q0, q1, qP, va_K.moved (u := U) (U := U.calling g mk a) (Vm.Alike.refl U.vm) qK, qD, xE.same rfl qE⟩, va_recv hKc hPc (ci := 1) (q0 := 0) rfl rfl, fun U hU hW => ⟨rfl, by rw [hU], by rw [hU]; exact hPc, va_K.moved hW.alike hKc, hDc.weaken (fun _ _ _ _ => trivial), xE.warm hW hE⟩⟩ rfl rfl hl.1 rfl (lv_room (Nat.le_of_ble_eq_true rfl)) dX2_read_10 ⟨Nat.le_of_ble_eq_true rfl, Nat.le_of_ble_eq_true rfl⟩) hS (fun q _ h => hFc q h) hFc (fun u t H1 locs ht hvm hw hB hz1 hk1 hS => ?_)
  obtain ⟨f_3, hP1, hK1, hD1⟩ := hB
  rw [ht] at hP1
  have hK1 := va_K.moved hvm.symm hK1
  obtain ⟨hP, hD⟩ := va_join (wr := [(h0, .inr (2, [.ref h1])), (h1, .inr (7, [.ref h2, .int 0, .int 0, .int 0])), (h2, .inl (kt, 400, .inl gt))]) (w1 := [(h3, .inr (1, [.int 0, .int 0, .int 0, .ref a1, .ref a2, .ref a3, .ref a4])), (a4, .inl (k4, 8, .inl f_3))]) hP hD [1, 2] [0, 3, 4] rfl rfl (by decide) (by decide) hk1 hFc hP1 hD1
  generalize H1 = H at hP hS ⊢
  have hP : va_P (dC, dI) classes [(h0, .inr (2, [.ref h1])), (h1, .inr (7, [.ref h2, .int 0, .int 0, .int 0])), (h2, .inl (kt, 400, .inl gt)), (h3, .inr (1, [.int 0, .int 0, .int 0, .ref a1, .ref a2, .ref a3, .ref a4])), (a4, .inl (k4, 8, .inl f_3))] H := hP
  have hD : va_D A [(h0, .inr (2, [.ref h1])), (h1, .inr (7, [.ref h2, .int 0, .int 0, .int 0])), (h2, .inl (kt, 400, .inl gt)), (h3, .inr (1, [.int 0, .int 0, .int 0, .ref a1, .ref a2, .ref a3, .ref a4])), (a4, .inl (k4, 8, .inl f_3))] := hD
  refine lv_iconst (v := 0) hx hb dX2_read_13 (by decide) ?_
  refine lv_istore (lv' := [(4, .int 0), (0, .ref h0), (1, .ref h2), (2, .int 0), (3, .ref h3)]) hx hb dX2_read_14 hl (by decide) rfl (fun ls hl => ?_)
  refine lv_iload hx hb dX2_read_16 (lv_at hl 0 rfl) ?_
  refine lv_bipush (v := 40) hx hb dX2_read_18 (by decide) ?_
  refine lv_icmp_gt (tgt := 135) hx hb dX2_read_20 (by decide) (fun c9 => absurd c9 (by decide)) (fun _ => ?_)
  refine lv_aload_n hx hb dX2_read_23 rfl (lv_at hl 1 rfl) ?_
  refine va_get (D := (dC, dI)) (ci := 2) (v := .ref h1) (C := RX2) (T := TX2) (N := 1) hx hb hq inX2 hown hK hP 0 rfl rfl 0 (by decide) (hq _ qw_177) (fun _ h9 => h9) rfl dX2_read_24 ?_
  have hPc := hP.sub (ws' := [(h1, .inr (7, [.ref h2, .int 0, .int 0, .int 0]))]) [1] rfl
  have hDc := hD.sub (ws' := [(h1, .inr (7, [.ref h2, .int 0, .int 0, .int 0]))]) [1] (by decide) rfl
  have hKc := hK.sub (tys' := []) [] rfl
  have hFc := va_free (wc := [(h1, .inr (7, [.ref h2, .int 0, .int 0, .int 0]))]) hD hS hA [1] rfl
  refine va_calli (va_runV (As := []) (rest := []) ⟨hx, hb, hml, hown, hq⟩ (c_Rd_sign l dC dI _ h1 h2 0 ) (cwV 0 hq (gV qw_538 qw_539 qw_540 qw_121 qw_541) rfl rfl rfl (by decide +kernel) ⟨Nat.le_of_ble_eq_true rfl, Nat.le_of_ble_eq_true rfl⟩) ⟨fun a U g mk q => by obtain ⟨q0, q1, qP, qK, qD, qE⟩ := q; exact ⟨q0, q1, qP, va_K.moved (u := U) (U := U.calling g mk a) (Vm.Alike.refl U.vm) qK, qD, xE.same rfl qE⟩, va_recv hKc hPc (ci := 7) (q0 := 0) rfl rfl, fun U hU hW => ⟨rfl, by rw [hU], by rw [hU]; exact hPc, va_K.moved hW.alike hKc, hDc.weaken (fun _ _ _ _ => trivial), xE.warm hW hE⟩⟩ rfl rfl hl.1 rfl (lv_room (Nat.le_of_ble_eq_true rfl)) dX2_read_27 ⟨Nat.le_of_ble_eq_true rfl, Nat.le_of_ble_eq_true rfl⟩) hS (fun q _ h => hFc q h) hFc (fun r_4 u t H1 locs ht hvm hw hB hz1 hk1 hS => ?_)
  obtain ⟨hP1, hK1, hD1⟩ := hB
  rw [ht] at hP1
  have hK1 := va_K.moved hvm.symm hK1
  obtain ⟨hP, hD⟩ := va_join (wr := [(h0, .inr (2, [.ref h1])), (h2, .inl (kt, 400, .inl gt)), (h3, .inr (1, [.int 0, .int 0, .int 0, .ref a1, .ref a2, .ref a3, .ref a4])), (a4, .inl (k4, 8, .inl f_3))]) (w1 := [(h1, .inr (7, [.ref h2, .int 0, .int 0, .int 0]))]) hP hD [1] [0, 2, 3, 4] rfl rfl (by decide) (by decide) hk1 hFc hP1 hD1
  generalize H1 = H at hP hS ⊢
  have hP : va_P (dC, dI) classes [(h0, .inr (2, [.ref h1])), (h2, .inl (kt, 400, .inl gt)), (h3, .inr (1, [.int 0, .int 0, .int 0, .ref a1, .ref a2, .ref a3, .ref a4])), (a4, .inl (k4, 8, .inl f_3)), (h1, .inr (7, [.ref h2, .int 0, .int 0, .int 0]))] H := hP
  have hD : va_D A [(h0, .inr (2, [.ref h1])), (h2, .inl (kt, 400, .inl gt)), (h3, .inr (1, [.int 0, .int 0, .int 0, .ref a1, .ref a2, .ref a3, .ref a4])), (a4, .inl (k4, 8, .inl f_3)), (h1, .inr (7, [.ref h2, .int 0, .int 0, .int 0]))] := hD
  obtain rfl : r_4 = (-1) := hw
  refine lv_pop hx hb dX2_read_30 rfl ?_
  refine lv_aload_n hx hb dX2_read_31 rfl (lv_at hl 1 rfl) ?_
  refine va_get (D := (dC, dI)) (ci := 2) (v := .ref h1) (C := RX2) (T := TX2) (N := 1) hx hb hq inX2 hown hK hP 0 rfl rfl 0 (by decide) (hq _ qw_177) (fun _ h9 => h9) rfl dX2_read_32 ?_
  refine va_ldcS hx hb hown (xT_R0 hT) dX2_read_35 ?_
  have hPc := hP.sub (ws' := [(h1, .inr (7, [.ref h2, .int 0, .int 0, .int 0]))]) [4] rfl
  have hDc := hD.sub (ws' := [(h1, .inr (7, [.ref h2, .int 0, .int 0, .int 0]))]) [4] (by decide) rfl
  have hKc := hK.sub (tys' := []) [] rfl
  have hFc := va_free (wc := [(h1, .inr (7, [.ref h2, .int 0, .int 0, .int 0]))]) hD hS hA [4] rfl
  refine va_calli (va_runV (As := [.ref (kA 0)]) (rest := []) ⟨hx, hb, hml, hown, hq⟩ (c_Rd_word_0 l dC dI _ kA vA h1 h2 ) (cwV 1 hq (gV qw_547 qw_548 qw_549 qw_121 qw_550) rfl rfl rfl (by decide +kernel) ⟨Nat.le_of_ble_eq_true rfl, Nat.le_of_ble_eq_true rfl⟩) ⟨fun a U g mk q => by obtain ⟨q0, q1, qP, qK, qD, qE, qT⟩ := q; exact ⟨q0, q1, qP, va_K.moved (u := U) (U := U.calling g mk a) (Vm.Alike.refl U.vm) qK, qD, xE.same rfl qE, xT.same rfl qT⟩, va_recv hKc hPc (ci := 7) (q0 := 0) rfl rfl, fun U hU hW => ⟨rfl, by rw [hU], by rw [hU]; exact hPc, va_K.moved hW.alike hKc, hDc.weaken (fun _ _ _ _ => trivial), xE.warm hW hE, by rw [hU]; exact xT.call hW hT hS hFc⟩⟩ rfl rfl hl.1 rfl (lv_room (Nat.le_of_ble_eq_true rfl)) dX2_read_37 ⟨Nat.le_of_ble_eq_true rfl, Nat.le_of_ble_eq_true rfl⟩) hS (fun q _ h => hFc q h) hFc (fun r_5 u t H1 locs ht hvm hw hB hz1 hk1 hS => ?_)
  obtain ⟨hP1, hK1, hD1⟩ := hB
  rw [ht] at hP1
  have hK1 := va_K.moved hvm.symm hK1
  obtain ⟨hP, hD⟩ := va_join (wr := [(h0, .inr (2, [.ref h1])), (h2, .inl (kt, 400, .inl gt)), (h3, .inr (1, [.int 0, .int 0, .int 0, .ref a1, .ref a2, .ref a3, .ref a4])), (a4, .inl (k4, 8, .inl f_3))]) (w1 := [(h1, .inr (7, [.ref h2, .int 0, .int 0, .int 0]))]) hP hD [4] [0, 1, 2, 3] rfl rfl (by decide) (by decide) hk1 hFc hP1 hD1
  generalize H1 = H at hP hS ⊢
  have hP : va_P (dC, dI) classes [(h0, .inr (2, [.ref h1])), (h2, .inl (kt, 400, .inl gt)), (h3, .inr (1, [.int 0, .int 0, .int 0, .ref a1, .ref a2, .ref a3, .ref a4])), (a4, .inl (k4, 8, .inl f_3)), (h1, .inr (7, [.ref h2, .int 0, .int 0, .int 0]))] H := hP
  have hD : va_D A [(h0, .inr (2, [.ref h1])), (h2, .inl (kt, 400, .inl gt)), (h3, .inr (1, [.int 0, .int 0, .int 0, .ref a1, .ref a2, .ref a3, .ref a4])), (a4, .inl (k4, 8, .inl f_3)), (h1, .inr (7, [.ref h2, .int 0, .int 0, .int 0]))] := hD
  obtain rfl : r_5 = (-1) := hw
  refine lv_istore (lv' := [(5, .int (-1)), (4, .int 0), (0, .ref h0), (1, .ref h2), (2, .int 0), (3, .ref h3)]) hx hb dX2_read_40 hl (by decide) rfl (fun ls hl => ?_)
  refine lv_iload hx hb dX2_read_42 (lv_at hl 0 rfl) ?_
  refine lv_iconst (v := (-1)) hx hb dX2_read_44 (by decide) ?_
  refine lv_icmp_ne (tgt := 66) hx hb dX2_read_45 (by decide) (fun c9 => absurd c9 (by decide)) (fun _ => ?_)
  refine lv_aload_n hx hb dX2_read_48 rfl (lv_at hl 2 rfl) ?_
  refine va_get (D := (dC, dI)) (ci := 2) (v := .ref h1) (C := RX2) (T := TX2) (N := 1) hx hb hq inX2 hown hK hP 0 rfl rfl 0 (by decide) (hq _ qw_177) (fun _ h9 => h9) rfl dX2_read_49 ?_
  refine lv_aload_n hx hb dX2_read_52 rfl (lv_at hl 2 rfl) ?_
  refine va_get (D := (dC, dI)) (ci := 2) (v := .ref h1) (C := RX2) (T := TX2) (N := 1) hx hb hq inX2 hown hK hP 0 rfl rfl 0 (by decide) (hq _ qw_177) (fun _ h9 => h9) rfl dX2_read_53 ?_
  refine va_get (D := (dC, dI)) (ci := 7) (v := .int 0) (C := RX7) (T := TX7) (N := 4) hx hb hq inX7 hown hK hP 4 rfl rfl 2 (by decide) (hq _ qw_162) (fun _ h9 => h9) rfl dX2_read_56 ?_
  refine lv_iconst (v := 0) hx hb dX2_read_59 (by decide) ?_
  have hPc := hP.sub (ws' := [(h1, .inr (7, [.ref h2, .int 0, .int 0, .int 0]))]) [4] rfl
  have hDc := hD.sub (ws' := [(h1, .inr (7, [.ref h2, .int 0, .int 0, .int 0]))]) [4] (by decide) rfl
  have hKc := hK.sub (tys' := []) [] rfl
  have hFc := va_free (wc := [(h1, .inr (7, [.ref h2, .int 0, .int 0, .int 0]))]) hD hS hA [4] rfl
  refine va_callv (va_runV (As := [.int 0, .int 0]) (rest := []) ⟨hx, hb, hml, hown, hq⟩ (c_Rd_blame l dC dI _ h1 h2 ) (cwV 2 hq (gV qw_602 qw_603 qw_604 qw_121 qw_605) rfl rfl rfl (by decide +kernel) ⟨Nat.le_of_ble_eq_true rfl, Nat.le_of_ble_eq_true rfl⟩) ⟨fun a U g mk q => by obtain ⟨q0, q1, qP, qK, qD, qE⟩ := q; exact ⟨q0, q1, qP, va_K.moved (u := U) (U := U.calling g mk a) (Vm.Alike.refl U.vm) qK, qD, xE.same rfl qE⟩, va_recv hKc hPc (ci := 7) (q0 := 0) rfl rfl, fun U hU hW => ⟨rfl, by rw [hU], by rw [hU]; exact hPc, va_K.moved hW.alike hKc, hDc.weaken (fun _ _ _ _ => trivial), xE.warm hW hE⟩⟩ rfl rfl hl.1 rfl (lv_room (Nat.le_of_ble_eq_true rfl)) dX2_read_60 ⟨Nat.le_of_ble_eq_true rfl, Nat.le_of_ble_eq_true rfl⟩) hS (fun q _ h => hFc q h) hFc (fun u t H1 locs ht hvm hw hB hz1 hk1 hS => ?_)
  obtain ⟨hP1, hK1, hD1⟩ := hB
  rw [ht] at hP1
  have hK1 := va_K.moved hvm.symm hK1
  obtain ⟨hP, hD⟩ := va_join (wr := [(h0, .inr (2, [.ref h1])), (h2, .inl (kt, 400, .inl gt)), (h3, .inr (1, [.int 0, .int 0, .int 0, .ref a1, .ref a2, .ref a3, .ref a4])), (a4, .inl (k4, 8, .inl f_3))]) (w1 := [(h1, .inr (7, [.ref h2, .int 0, .int 0, .int 1]))]) hP hD [4] [0, 1, 2, 3] rfl rfl (by decide) (by decide) hk1 hFc hP1 hD1
  generalize H1 = H at hP hS ⊢
  have hP : va_P (dC, dI) classes [(h0, .inr (2, [.ref h1])), (h2, .inl (kt, 400, .inl gt)), (h3, .inr (1, [.int 0, .int 0, .int 0, .ref a1, .ref a2, .ref a3, .ref a4])), (a4, .inl (k4, 8, .inl f_3)), (h1, .inr (7, [.ref h2, .int 0, .int 0, .int 1]))] H := hP
  have hD : va_D A [(h0, .inr (2, [.ref h1])), (h2, .inl (kt, 400, .inl gt)), (h3, .inr (1, [.int 0, .int 0, .int 0, .ref a1, .ref a2, .ref a3, .ref a4])), (a4, .inl (k4, 8, .inl f_3)), (h1, .inr (7, [.ref h2, .int 0, .int 0, .int 1]))] := hD
  refine lv_goto (tgt := 116) hx hb dX2_read_63 (by decide) ?_
  refine lv_aload_n hx hb dX2_read_116 rfl (lv_at hl 2 rfl) ?_
  refine va_get (D := (dC, dI)) (ci := 2) (v := .ref h1) (C := RX2) (T := TX2) (N := 1) hx hb hq inX2 hown hK hP 0 rfl rfl 0 (by decide) (hq _ qw_177) (fun _ h9 => h9) rfl dX2_read_117 ?_
  have hPc := hP.sub (ws' := [(h1, .inr (7, [.ref h2, .int 0, .int 0, .int 1]))]) [4] rfl
  have hDc := hD.sub (ws' := [(h1, .inr (7, [.ref h2, .int 0, .int 0, .int 1]))]) [4] (by decide) rfl
  have hKc := hK.sub (tys' := []) [] rfl
  have hFc := va_free (wc := [(h1, .inr (7, [.ref h2, .int 0, .int 0, .int 1]))]) hD hS hA [4] rfl
  refine va_calli (va_runV (As := []) (rest := []) ⟨hx, hb, hml, hown, hq⟩ (c_Rd_goesOn l dC dI _ h1 h2 ) (cwV 0 hq (gV qw_641 qw_642 qw_643 qw_121 qw_644) rfl rfl rfl (by decide +kernel) ⟨Nat.le_of_ble_eq_true rfl, Nat.le_of_ble_eq_true rfl⟩) ⟨fun a U g mk q => by obtain ⟨q0, q1, qP, qK, qD, qE⟩ := q; exact ⟨q0, q1, qP, va_K.moved (u := U) (U := U.calling g mk a) (Vm.Alike.refl U.vm) qK, qD, xE.same rfl qE⟩, va_recv hKc hPc (ci := 7) (q0 := 0) rfl rfl, fun U hU hW => ⟨rfl, by rw [hU], by rw [hU]; exact hPc, va_K.moved hW.alike hKc, hDc.weaken (fun _ _ _ _ => trivial), xE.warm hW hE⟩⟩ rfl rfl hl.1 rfl (lv_room (Nat.le_of_ble_eq_true rfl)) dX2_read_120 ⟨Nat.le_of_ble_eq_true rfl, Nat.le_of_ble_eq_true rfl⟩) hS (fun q _ h => hFc q h) hFc (fun r_7 u t H1 locs ht hvm hw hB hz1 hk1 hS => ?_)
  obtain ⟨hP1, hK1, hD1⟩ := hB
  rw [ht] at hP1
  have hK1 := va_K.moved hvm.symm hK1
  obtain ⟨hP, hD⟩ := va_join (wr := [(h0, .inr (2, [.ref h1])), (h2, .inl (kt, 400, .inl gt)), (h3, .inr (1, [.int 0, .int 0, .int 0, .ref a1, .ref a2, .ref a3, .ref a4])), (a4, .inl (k4, 8, .inl f_3))]) (w1 := [(h1, .inr (7, [.ref h2, .int 0, .int 0, .int 1]))]) hP hD [4] [0, 1, 2, 3] rfl rfl (by decide) (by decide) hk1 hFc hP1 hD1
  generalize H1 = H at hP hS ⊢
  have hP : va_P (dC, dI) classes [(h0, .inr (2, [.ref h1])), (h2, .inl (kt, 400, .inl gt)), (h3, .inr (1, [.int 0, .int 0, .int 0, .ref a1, .ref a2, .ref a3, .ref a4])), (a4, .inl (k4, 8, .inl f_3)), (h1, .inr (7, [.ref h2, .int 0, .int 0, .int 1]))] H := hP
  have hD : va_D A [(h0, .inr (2, [.ref h1])), (h2, .inl (kt, 400, .inl gt)), (h3, .inr (1, [.int 0, .int 0, .int 0, .ref a1, .ref a2, .ref a3, .ref a4])), (a4, .inl (k4, 8, .inl f_3)), (h1, .inr (7, [.ref h2, .int 0, .int 0, .int 1]))] := hD
  obtain rfl : r_7 = 0 := hw
  refine lv_if_ne (tgt := 129) hx hb dX2_read_123 (by decide) (fun c9 => absurd c9 (by decide)) (fun _ => ?_)
  refine lv_goto (tgt := 135) hx hb dX2_read_126 (by decide) ?_
  refine lv_aload_n hx hb dX2_read_135 rfl (lv_at hl 2 rfl) ?_
  refine va_get (D := (dC, dI)) (ci := 2) (v := .ref h1) (C := RX2) (T := TX2) (N := 1) hx hb hq inX2 hown hK hP 0 rfl rfl 0 (by decide) (hq _ qw_177) (fun _ h9 => h9) rfl dX2_read_136 ?_
  refine va_get (D := (dC, dI)) (ci := 7) (v := .int 1) (C := RX7) (T := TX7) (N := 4) hx hb hq inX7 hown hK hP 4 rfl rfl 3 (by decide) (hq _ qw_166) (fun _ h9 => h9) rfl dX2_read_139 ?_
  refine W.widen (k := 0) (n := 0) (Nat.le_of_ble_eq_true rfl) (Nat.le_of_ble_eq_true rfl) ?_
  exact W.iret (v := 1) hx hb hr (fun t ht hW => ⟨⟨1, (), rfl, rfl, trivial⟩, hS.F ht⟩) hS.2.2 dX2_read_142

set_option maxHeartbeats 4000000 in
set_option maxRecDepth 100000 in
/-- c_RR_read -/
theorem c_RR_read (l : Launch) (dC : Nat → ClassId) (dI : Nat → Nat → Nat) (sz : Nat) (kA vA : Nat → Nat) (h0 : Nat) (h1 : Nat) (tx : Nat) (ol : Nat) (h2 : Nat) (h3 : Nat) (cd : Nat) (kt : ClassId) (gt : Nat → Int32) : Met l yX10_read (.code yX10_read cX10_read 6 (some .int) :: wsA) ({ frames := 5, cells := 0, slots := 0, locals := 111 }) (va_Pc [.ref h0, .ref h2, .int 0, .ref h3] (fun U => U.heap.size = sz ∧ va_P (dC, dI) classes [(h0, .inr (10, [.ref h1, .ref ol, .int 0])), (h1, .inr (7, [.ref tx, .int 0, .int 0, .int 0])), (h2, .inl (kt, 400, .inl gt)), (h3, .inr (9, [.ref cd, .int 0, .int 0]))] U.heap ∧ va_K (dC, dI) classes [(kt, .int)] U ∧ va_D (fun _ => True) [(h0, .inr (10, [.ref h1, .ref ol, .int 0])), (h1, .inr (7, [.ref tx, .int 0, .int 0, .int 0])), (h2, .inl (kt, 400, .inl gt)), (h3, .inr (9, [.ref cd, .int 0, .int 0]))] ∧ xE U ∧ xT kA vA (va_A [(h0, .inr (10, [.ref h1, .ref ol, .int 0])), (h1, .inr (7, [.ref tx, .int 0, .int 0, .int 0])), (h2, .inl (kt, 400, .inl gt)), (h3, .inr (9, [.ref cd, .int 0, .int 0]))] sz) U U.heap)) (va_Qi (fun (r : Int32) (_ : Unit) => r = 1) (fun _ _ => True) (va_A [(h0, .inr (10, [.ref h1, .ref ol, .int 0])), (h1, .inr (7, [.ref tx, .int 0, .int 0, .int 0])), (h2, .inl (kt, 400, .inl gt)), (h3, .inr (9, [.ref cd, .int 0, .int 0]))] sz)) 0 0 (va_A [(h0, .inr (10, [.ref h1, .ref ol, .int 0])), (h1, .inr (7, [.ref tx, .int 0, .int 0, .int 0])), (h2, .inl (kt, 400, .inl gt)), (h3, .inr (9, [.ref cd, .int 0, .int 0]))] sz) := by
  refine Met.ofW (cc := cX10_read) (maxL := 6) (ret := (some .int)) (by decide) rfl ?_
  intro p e s m args below meth c s₁ B hml hv
  obtain ⟨rfl, hsz, hP, hK, hD0, hE, hT⟩ := hv
  have hx := B.exec
  have hb := B.bytes
  have hr := B.returns
  have hts := atoms_spec (ws := .code yX10_read cX10_read 6 (some .int) :: wsA) B.pre
  have hq : ∀ w ∈ wsA, w.before _ s = true := fun w h => hts w (List.mem_cons_of_mem _ h)
  have hown : s.vm.findClass RX10 = some m.cls := findClass_of_methodNamed B.named
  have hlocks := B.notSynchronized
  subst hsz
  have hD := hD0.self (sz := s.heap.size)
  generalize hAe : va_A [(h0, .inr (10, [.ref h1, .ref ol, .int 0])), (h1, .inr (7, [.ref tx, .int 0, .int 0, .int 0])), (h2, .inl (kt, 400, .inl gt)), (h3, .inr (9, [.ref cd, .int 0, .int 0]))] s.heap.size = A at hD hT ⊢
  have hA : ∀ q : Nat, s.heap.size ≤ q → A q := fun q h => by rw [← hAe]; exact Or.inr h
  have hS : va_S A s.heap s.heap [] := va_S.rf
  have hl := lv_entry ([.ref h0, .ref h2, .int 0, .ref h3]) (n := 6) (Nat.le_of_ble_eq_true rfl)
  rw [lg_entry_eq]
  generalize (lg_sl ([.ref h0, .ref h2, .int 0, .ref h3]) ++ List.replicate (6 - (lg_sl ([.ref h0, .ref h2, .int 0, .ref h3])).length) Slot.unset).toArray = ls at hl ⊢
  have hl : lv_has ls 6 [(0, .ref h0), (1, .ref h2), (2, .int 0), (3, .ref h3)] := hl
  refine lv_aload_n hx hb dX10_read_0 rfl (lv_at hl 0 rfl) ?_
  refine va_get (D := (dC, dI)) (ci := 10) (v := .ref h1) (C := RX10) (T := TX10) (N := 3) hx hb hq inX10 hown hK hP 0 rfl rfl 0 (by decide) (hq _ qw_206) (fun _ h9 => h9) rfl dX10_read_1 ?_
  refine lv_aload_n hx hb dX10_read_4 rfl (lv_at hl 1 rfl) ?_
  refine lv_iload_n hx hb dX10_read_5 rfl (lv_at hl 2 rfl) ?_
  have hPc := hP.sub (ws' := [(h1, .inr (7, [.ref tx, .int 0, .int 0, .int 0])), (h2, .inl (kt, 400, .inl gt))]) [1, 2] rfl
  have hDc := hD.sub (ws' := [(h1, .inr (7, [.ref tx, .int 0, .int 0, .int 0])), (h2, .inl (kt, 400, .inl gt))]) [1, 2] (by decide) rfl
  have hKc := hK.sub (tys' := [(kt, .int)]) [0] rfl
  have hFc := va_free (wc := [(h1, .inr (7, [.ref tx, .int 0, .int 0, .int 0])), (h2, .inl (kt, 400, .inl gt))]) hD hS hA [1, 2] rfl
  refine va_callv (va_runV (As := [.ref h2, .int 0]) (rest := []) ⟨hx, hb, hml, hown, hq⟩ (c_Rd_open l dC dI _ h1 tx h2 kt gt ) (cwV 2 hq (gV qw_675 qw_528 qw_529 qw_121 qw_530) rfl rfl rfl (by decide +kernel) ⟨Nat.le_of_ble_eq_true rfl, Nat.le_of_ble_eq_true rfl⟩) ⟨fun a U g mk q => by obtain ⟨q0, q1, qP, qK, qD, qE⟩ := q; exact ⟨q0, q1, qP, va_K.moved (u := U) (U := U.calling g mk a) (Vm.Alike.refl U.vm) qK, qD, xE.same rfl qE⟩, va_recv hKc hPc (ci := 7) (q0 := 0) rfl rfl, fun U hU hW => ⟨rfl, by rw [hU], by rw [hU]; exact hPc, va_K.moved hW.alike hKc, hDc.weaken (fun _ _ _ _ => trivial), xE.warm hW hE⟩⟩ rfl rfl hl.1 rfl (lv_room (Nat.le_of_ble_eq_true rfl)) dX10_read_6 ⟨Nat.le_of_ble_eq_true rfl, Nat.le_of_ble_eq_true rfl⟩) hS (fun q _ h => hFc q h) hFc (fun u t H1 locs ht hvm hw hB hz1 hk1 hS => ?_)
  obtain ⟨hP1, hK1, hD1⟩ := hB
  rw [ht] at hP1
  have hK1 := va_K.moved hvm.symm hK1
  obtain ⟨hP, hD⟩ := va_join (wr := [(h0, .inr (10, [.ref h1, .ref ol, .int 0])), (h3, .inr (9, [.ref cd, .int 0, .int 0]))]) (w1 := [(h1, .inr (7, [.ref h2, .int 0, .int 0, .int 0])), (h2, .inl (kt, 400, .inl gt))]) hP hD [1, 2] [0, 3] rfl rfl (by decide) (by decide) hk1 hFc hP1 hD1
  generalize H1 = H at hP hS ⊢
  have hP : va_P (dC, dI) classes [(h0, .inr (10, [.ref h1, .ref ol, .int 0])), (h3, .inr (9, [.ref cd, .int 0, .int 0])), (h1, .inr (7, [.ref h2, .int 0, .int 0, .int 0])), (h2, .inl (kt, 400, .inl gt))] H := hP
  have hD : va_D A [(h0, .inr (10, [.ref h1, .ref ol, .int 0])), (h3, .inr (9, [.ref cd, .int 0, .int 0])), (h1, .inr (7, [.ref h2, .int 0, .int 0, .int 0])), (h2, .inl (kt, 400, .inl gt))] := hD
  refine lv_aload_n hx hb dX10_read_9 rfl (lv_at hl 0 rfl) ?_
  refine lv_aload_n hx hb dX10_read_10 rfl (lv_at hl 3 rfl) ?_
  refine va_put (D := (dC, dI)) (ci := 10) (v := .ref h3) (ty := .object "SpokenBite$Rule") (C := RX10) (T := TX10) (N := 3) hx hb hq inX10 tyX10 tyX10_ok nmX10 hown hK hP hD hS 0 rfl rfl 1 (by decide) (hq _ qw_207) (fun _ h9 => h9) rfl (by decide +kernel) rfl rfl (Nat.le_of_ble_eq_true rfl) dX10_read_11 (fun H locs hP hD hS => ?_)
  have hP : va_P (dC, dI) classes [(h0, .inr (10, [.ref h1, .ref h3, .int 0])), (h3, .inr (9, [.ref cd, .int 0, .int 0])), (h1, .inr (7, [.ref h2, .int 0, .int 0, .int 0])), (h2, .inl (kt, 400, .inl gt))] H := hP
  have hD : va_D A [(h0, .inr (10, [.ref h1, .ref h3, .int 0])), (h3, .inr (9, [.ref cd, .int 0, .int 0])), (h1, .inr (7, [.ref h2, .int 0, .int 0, .int 0])), (h2, .inl (kt, 400, .inl gt))] := hD
  refine lv_aload_n hx hb dX10_read_14 rfl (lv_at hl 0 rfl) ?_
  refine va_get (D := (dC, dI)) (ci := 10) (v := .ref h3) (C := RX10) (T := TX10) (N := 3) hx hb hq inX10 hown hK hP 0 rfl rfl 1 (by decide) (hq _ qw_207) (fun _ h9 => h9) rfl dX10_read_15 ?_
  have hPc := hP.sub (ws' := [(h3, .inr (9, [.ref cd, .int 0, .int 0]))]) [1] rfl
  have hDc := hD.sub (ws' := [(h3, .inr (9, [.ref cd, .int 0, .int 0]))]) [1] (by decide) rfl
  have hKc := hK.sub (tys' := []) [] rfl
  have hFc := va_free (wc := [(h3, .inr (9, [.ref cd, .int 0, .int 0]))]) hD hS hA [1] rfl
  refine va_callv (va_runV (As := []) (rest := []) ⟨hx, hb, hml, hown, hq⟩ (c_Rule_clear l dC dI _ h3 cd ) (cwV 0 hq (gV qw_676 qw_677 qw_678 qw_123 qw_679) rfl rfl rfl (by decide +kernel) ⟨Nat.le_of_ble_eq_true rfl, Nat.le_of_ble_eq_true rfl⟩) ⟨fun a U g mk q => by obtain ⟨q0, q1, qP, qK, qD, qE⟩ := q; exact ⟨q0, q1, qP, va_K.moved (u := U) (U := U.calling g mk a) (Vm.Alike.refl U.vm) qK, qD, xE.same rfl qE⟩, va_recv hKc hPc (ci := 9) (q0 := 0) rfl rfl, fun U hU hW => ⟨rfl, by rw [hU], by rw [hU]; exact hPc, va_K.moved hW.alike hKc, hDc.weaken (fun _ _ _ _ => trivial), xE.warm hW hE⟩⟩ rfl rfl hl.1 rfl (lv_room (Nat.le_of_ble_eq_true rfl)) dX10_read_18 ⟨Nat.le_of_ble_eq_true rfl, Nat.le_of_ble_eq_true rfl⟩) hS (fun q _ h => hFc q h) hFc (fun u t H1 locs ht hvm hw hB hz1 hk1 hS => ?_)
  obtain ⟨hP1, hK1, hD1⟩ := hB
  rw [ht] at hP1
  have hK1 := va_K.moved hvm.symm hK1
  obtain ⟨hP, hD⟩ := va_join (wr := [(h0, .inr (10, [.ref h1, .ref h3, .int 0])), (h1, .inr (7, [.ref h2, .int 0, .int 0, .int 0])), (h2, .inl (kt, 400, .inl gt))]) (w1 := [(h3, .inr (9, [.ref cd, .int 0, .int 0]))]) hP hD [1] [0, 2, 3] rfl rfl (by decide) (by decide) hk1 hFc hP1 hD1
  generalize H1 = H at hP hS ⊢
  have hP : va_P (dC, dI) classes [(h0, .inr (10, [.ref h1, .ref h3, .int 0])), (h1, .inr (7, [.ref h2, .int 0, .int 0, .int 0])), (h2, .inl (kt, 400, .inl gt)), (h3, .inr (9, [.ref cd, .int 0, .int 0]))] H := hP
  have hD : va_D A [(h0, .inr (10, [.ref h1, .ref h3, .int 0])), (h1, .inr (7, [.ref h2, .int 0, .int 0, .int 0])), (h2, .inl (kt, 400, .inl gt)), (h3, .inr (9, [.ref cd, .int 0, .int 0]))] := hD
  refine lv_aload_n hx hb dX10_read_21 rfl (lv_at hl 0 rfl) ?_
  refine lv_iconst (v := 0) hx hb dX10_read_22 (by decide) ?_
  refine va_put (D := (dC, dI)) (ci := 10) (v := .int 0) (ty := .int) (C := RX10) (T := TX10) (N := 3) hx hb hq inX10 tyX10 tyX10_ok nmX10 hown hK hP hD hS 0 rfl rfl 2 (by decide) (hq _ qw_208) (fun _ h9 => h9) rfl (by decide +kernel) rfl rfl (Nat.le_of_ble_eq_true rfl) dX10_read_23 (fun H locs hP hD hS => ?_)
  have hP : va_P (dC, dI) classes [(h0, .inr (10, [.ref h1, .ref h3, .int 0])), (h1, .inr (7, [.ref h2, .int 0, .int 0, .int 0])), (h2, .inl (kt, 400, .inl gt)), (h3, .inr (9, [.ref cd, .int 0, .int 0]))] H := hP
  have hD : va_D A [(h0, .inr (10, [.ref h1, .ref h3, .int 0])), (h1, .inr (7, [.ref h2, .int 0, .int 0, .int 0])), (h2, .inl (kt, 400, .inl gt)), (h3, .inr (9, [.ref cd, .int 0, .int 0]))] := hD
  refine lv_iconst (v := 0) hx hb dX10_read_26 (by decide) ?_
  refine lv_istore (lv' := [(4, .int 0), (0, .ref h0), (1, .ref h2), (2, .int 0), (3, .ref h3)]) hx hb dX10_read_27 hl (by decide) rfl (fun ls hl => ?_)
  refine lv_iload hx hb dX10_read_29 (lv_at hl 0 rfl) ?_
  refine lv_bipush (v := 12) hx hb dX10_read_31 (by decide) ?_
  refine lv_icmp_gt (tgt := 204) hx hb dX10_read_33 (by decide) (fun c9 => absurd c9 (by decide)) (fun _ => ?_)
  refine lv_aload_n hx hb dX10_read_36 rfl (lv_at hl 1 rfl) ?_
  refine va_get (D := (dC, dI)) (ci := 10) (v := .ref h1) (C := RX10) (T := TX10) (N := 3) hx hb hq inX10 hown hK hP 0 rfl rfl 0 (by decide) (hq _ qw_206) (fun _ h9 => h9) rfl dX10_read_37 ?_
  have hPc := hP.sub (ws' := [(h1, .inr (7, [.ref h2, .int 0, .int 0, .int 0]))]) [1] rfl
  have hDc := hD.sub (ws' := [(h1, .inr (7, [.ref h2, .int 0, .int 0, .int 0]))]) [1] (by decide) rfl
  have hKc := hK.sub (tys' := []) [] rfl
  have hFc := va_free (wc := [(h1, .inr (7, [.ref h2, .int 0, .int 0, .int 0]))]) hD hS hA [1] rfl
  refine va_calli (va_runV (As := []) (rest := []) ⟨hx, hb, hml, hown, hq⟩ (c_Rd_sign l dC dI _ h1 h2 0 ) (cwV 0 hq (gV qw_680 qw_539 qw_540 qw_121 qw_541) rfl rfl rfl (by decide +kernel) ⟨Nat.le_of_ble_eq_true rfl, Nat.le_of_ble_eq_true rfl⟩) ⟨fun a U g mk q => by obtain ⟨q0, q1, qP, qK, qD, qE⟩ := q; exact ⟨q0, q1, qP, va_K.moved (u := U) (U := U.calling g mk a) (Vm.Alike.refl U.vm) qK, qD, xE.same rfl qE⟩, va_recv hKc hPc (ci := 7) (q0 := 0) rfl rfl, fun U hU hW => ⟨rfl, by rw [hU], by rw [hU]; exact hPc, va_K.moved hW.alike hKc, hDc.weaken (fun _ _ _ _ => trivial), xE.warm hW hE⟩⟩ rfl rfl hl.1 rfl (lv_room (Nat.le_of_ble_eq_true rfl)) dX10_read_40 ⟨Nat.le_of_ble_eq_true rfl, Nat.le_of_ble_eq_true rfl⟩) hS (fun q _ h => hFc q h) hFc (fun r_3 u t H1 locs ht hvm hw hB hz1 hk1 hS => ?_)
  obtain ⟨hP1, hK1, hD1⟩ := hB
  rw [ht] at hP1
  have hK1 := va_K.moved hvm.symm hK1
  obtain ⟨hP, hD⟩ := va_join (wr := [(h0, .inr (10, [.ref h1, .ref h3, .int 0])), (h2, .inl (kt, 400, .inl gt)), (h3, .inr (9, [.ref cd, .int 0, .int 0]))]) (w1 := [(h1, .inr (7, [.ref h2, .int 0, .int 0, .int 0]))]) hP hD [1] [0, 2, 3] rfl rfl (by decide) (by decide) hk1 hFc hP1 hD1
  generalize H1 = H at hP hS ⊢
  have hP : va_P (dC, dI) classes [(h0, .inr (10, [.ref h1, .ref h3, .int 0])), (h2, .inl (kt, 400, .inl gt)), (h3, .inr (9, [.ref cd, .int 0, .int 0])), (h1, .inr (7, [.ref h2, .int 0, .int 0, .int 0]))] H := hP
  have hD : va_D A [(h0, .inr (10, [.ref h1, .ref h3, .int 0])), (h2, .inl (kt, 400, .inl gt)), (h3, .inr (9, [.ref cd, .int 0, .int 0])), (h1, .inr (7, [.ref h2, .int 0, .int 0, .int 0]))] := hD
  obtain rfl : r_3 = (-1) := hw
  refine lv_pop hx hb dX10_read_43 rfl ?_
  refine lv_aload_n hx hb dX10_read_44 rfl (lv_at hl 1 rfl) ?_
  refine va_get (D := (dC, dI)) (ci := 10) (v := .ref h1) (C := RX10) (T := TX10) (N := 3) hx hb hq inX10 hown hK hP 0 rfl rfl 0 (by decide) (hq _ qw_206) (fun _ h9 => h9) rfl dX10_read_45 ?_
  refine va_ldcS hx hb hown (xT_R1 hT) dX10_read_48 ?_
  have hPc := hP.sub (ws' := [(h1, .inr (7, [.ref h2, .int 0, .int 0, .int 0]))]) [3] rfl
  have hDc := hD.sub (ws' := [(h1, .inr (7, [.ref h2, .int 0, .int 0, .int 0]))]) [3] (by decide) rfl
  have hKc := hK.sub (tys' := []) [] rfl
  have hFc := va_free (wc := [(h1, .inr (7, [.ref h2, .int 0, .int 0, .int 0]))]) hD hS hA [3] rfl
  refine va_calli (va_runV (As := [.ref (kA 1)]) (rest := []) ⟨hx, hb, hml, hown, hq⟩ (c_Rd_word_1 l dC dI _ kA vA h1 h2 ) (cwV 1 hq (gV qw_682 qw_548 qw_549 qw_121 qw_550) rfl rfl rfl (by decide +kernel) ⟨Nat.le_of_ble_eq_true rfl, Nat.le_of_ble_eq_true rfl⟩) ⟨fun a U g mk q => by obtain ⟨q0, q1, qP, qK, qD, qE, qT⟩ := q; exact ⟨q0, q1, qP, va_K.moved (u := U) (U := U.calling g mk a) (Vm.Alike.refl U.vm) qK, qD, xE.same rfl qE, xT.same rfl qT⟩, va_recv hKc hPc (ci := 7) (q0 := 0) rfl rfl, fun U hU hW => ⟨rfl, by rw [hU], by rw [hU]; exact hPc, va_K.moved hW.alike hKc, hDc.weaken (fun _ _ _ _ => trivial), xE.warm hW hE, by rw [hU]; exact xT.call hW hT hS hFc⟩⟩ rfl rfl hl.1 rfl (lv_room (Nat.le_of_ble_eq_true rfl)) dX10_read_50 ⟨Nat.le_of_ble_eq_true rfl, Nat.le_of_ble_eq_true rfl⟩) hS (fun q _ h => hFc q h) hFc (fun r_4 u t H1 locs ht hvm hw hB hz1 hk1 hS => ?_)
  obtain ⟨hP1, hK1, hD1⟩ := hB
  rw [ht] at hP1
  have hK1 := va_K.moved hvm.symm hK1
  obtain ⟨hP, hD⟩ := va_join (wr := [(h0, .inr (10, [.ref h1, .ref h3, .int 0])), (h2, .inl (kt, 400, .inl gt)), (h3, .inr (9, [.ref cd, .int 0, .int 0]))]) (w1 := [(h1, .inr (7, [.ref h2, .int 0, .int 0, .int 0]))]) hP hD [3] [0, 1, 2] rfl rfl (by decide) (by decide) hk1 hFc hP1 hD1
  generalize H1 = H at hP hS ⊢
  have hP : va_P (dC, dI) classes [(h0, .inr (10, [.ref h1, .ref h3, .int 0])), (h2, .inl (kt, 400, .inl gt)), (h3, .inr (9, [.ref cd, .int 0, .int 0])), (h1, .inr (7, [.ref h2, .int 0, .int 0, .int 0]))] H := hP
  have hD : va_D A [(h0, .inr (10, [.ref h1, .ref h3, .int 0])), (h2, .inl (kt, 400, .inl gt)), (h3, .inr (9, [.ref cd, .int 0, .int 0])), (h1, .inr (7, [.ref h2, .int 0, .int 0, .int 0]))] := hD
  obtain rfl : r_4 = (-1) := hw
  refine lv_iconst (v := (-1)) hx hb dX10_read_53 (by decide) ?_
  refine lv_icmp_ne (tgt := 75) hx hb dX10_read_54 (by decide) (fun c9 => absurd c9 (by decide)) (fun _ => ?_)
  refine lv_aload_n hx hb dX10_read_57 rfl (lv_at hl 1 rfl) ?_
  refine va_get (D := (dC, dI)) (ci := 10) (v := .ref h1) (C := RX10) (T := TX10) (N := 3) hx hb hq inX10 hown hK hP 0 rfl rfl 0 (by decide) (hq _ qw_206) (fun _ h9 => h9) rfl dX10_read_58 ?_
  refine lv_aload_n hx hb dX10_read_61 rfl (lv_at hl 1 rfl) ?_
  refine va_get (D := (dC, dI)) (ci := 10) (v := .ref h1) (C := RX10) (T := TX10) (N := 3) hx hb hq inX10 hown hK hP 0 rfl rfl 0 (by decide) (hq _ qw_206) (fun _ h9 => h9) rfl dX10_read_62 ?_
  refine va_get (D := (dC, dI)) (ci := 7) (v := .int 0) (C := RX7) (T := TX7) (N := 4) hx hb hq inX7 hown hK hP 3 rfl rfl 2 (by decide) (hq _ qw_163) (fun _ h9 => h9) rfl dX10_read_65 ?_
  refine lv_iconst (v := 0) hx hb dX10_read_68 (by decide) ?_
  have hPc := hP.sub (ws' := [(h1, .inr (7, [.ref h2, .int 0, .int 0, .int 0]))]) [3] rfl
  have hDc := hD.sub (ws' := [(h1, .inr (7, [.ref h2, .int 0, .int 0, .int 0]))]) [3] (by decide) rfl
  have hKc := hK.sub (tys' := []) [] rfl
  have hFc := va_free (wc := [(h1, .inr (7, [.ref h2, .int 0, .int 0, .int 0]))]) hD hS hA [3] rfl
  refine va_callv (va_runV (As := [.int 0, .int 0]) (rest := []) ⟨hx, hb, hml, hown, hq⟩ (c_Rd_blame l dC dI _ h1 h2 ) (cwV 2 hq (gV qw_683 qw_603 qw_604 qw_121 qw_605) rfl rfl rfl (by decide +kernel) ⟨Nat.le_of_ble_eq_true rfl, Nat.le_of_ble_eq_true rfl⟩) ⟨fun a U g mk q => by obtain ⟨q0, q1, qP, qK, qD, qE⟩ := q; exact ⟨q0, q1, qP, va_K.moved (u := U) (U := U.calling g mk a) (Vm.Alike.refl U.vm) qK, qD, xE.same rfl qE⟩, va_recv hKc hPc (ci := 7) (q0 := 0) rfl rfl, fun U hU hW => ⟨rfl, by rw [hU], by rw [hU]; exact hPc, va_K.moved hW.alike hKc, hDc.weaken (fun _ _ _ _ => trivial), xE.warm hW hE⟩⟩ rfl rfl hl.1 rfl (lv_room (Nat.le_of_ble_eq_true rfl)) dX10_read_69 ⟨Nat.le_of_ble_eq_true rfl, Nat.le_of_ble_eq_true rfl⟩) hS (fun q _ h => hFc q h) hFc (fun u t H1 locs ht hvm hw hB hz1 hk1 hS => ?_)
  obtain ⟨hP1, hK1, hD1⟩ := hB
  rw [ht] at hP1
  have hK1 := va_K.moved hvm.symm hK1
  obtain ⟨hP, hD⟩ := va_join (wr := [(h0, .inr (10, [.ref h1, .ref h3, .int 0])), (h2, .inl (kt, 400, .inl gt)), (h3, .inr (9, [.ref cd, .int 0, .int 0]))]) (w1 := [(h1, .inr (7, [.ref h2, .int 0, .int 0, .int 1]))]) hP hD [3] [0, 1, 2] rfl rfl (by decide) (by decide) hk1 hFc hP1 hD1
  generalize H1 = H at hP hS ⊢
  have hP : va_P (dC, dI) classes [(h0, .inr (10, [.ref h1, .ref h3, .int 0])), (h2, .inl (kt, 400, .inl gt)), (h3, .inr (9, [.ref cd, .int 0, .int 0])), (h1, .inr (7, [.ref h2, .int 0, .int 0, .int 1]))] H := hP
  have hD : va_D A [(h0, .inr (10, [.ref h1, .ref h3, .int 0])), (h2, .inl (kt, 400, .inl gt)), (h3, .inr (9, [.ref cd, .int 0, .int 0])), (h1, .inr (7, [.ref h2, .int 0, .int 0, .int 1]))] := hD
  refine lv_goto (tgt := 185) hx hb dX10_read_72 (by decide) ?_
  refine lv_aload_n hx hb dX10_read_185 rfl (lv_at hl 1 rfl) ?_
  refine va_get (D := (dC, dI)) (ci := 10) (v := .ref h1) (C := RX10) (T := TX10) (N := 3) hx hb hq inX10 hown hK hP 0 rfl rfl 0 (by decide) (hq _ qw_206) (fun _ h9 => h9) rfl dX10_read_186 ?_
  have hPc := hP.sub (ws' := [(h1, .inr (7, [.ref h2, .int 0, .int 0, .int 1]))]) [3] rfl
  have hDc := hD.sub (ws' := [(h1, .inr (7, [.ref h2, .int 0, .int 0, .int 1]))]) [3] (by decide) rfl
  have hKc := hK.sub (tys' := []) [] rfl
  have hFc := va_free (wc := [(h1, .inr (7, [.ref h2, .int 0, .int 0, .int 1]))]) hD hS hA [3] rfl
  refine va_calli (va_runV (As := []) (rest := []) ⟨hx, hb, hml, hown, hq⟩ (c_Rd_goesOn l dC dI _ h1 h2 ) (cwV 0 hq (gV qw_730 qw_642 qw_643 qw_121 qw_644) rfl rfl rfl (by decide +kernel) ⟨Nat.le_of_ble_eq_true rfl, Nat.le_of_ble_eq_true rfl⟩) ⟨fun a U g mk q => by obtain ⟨q0, q1, qP, qK, qD, qE⟩ := q; exact ⟨q0, q1, qP, va_K.moved (u := U) (U := U.calling g mk a) (Vm.Alike.refl U.vm) qK, qD, xE.same rfl qE⟩, va_recv hKc hPc (ci := 7) (q0 := 0) rfl rfl, fun U hU hW => ⟨rfl, by rw [hU], by rw [hU]; exact hPc, va_K.moved hW.alike hKc, hDc.weaken (fun _ _ _ _ => trivial), xE.warm hW hE⟩⟩ rfl rfl hl.1 rfl (lv_room (Nat.le_of_ble_eq_true rfl)) dX10_read_189 ⟨Nat.le_of_ble_eq_true rfl, Nat.le_of_ble_eq_true rfl⟩) hS (fun q _ h => hFc q h) hFc (fun r_6 u t H1 locs ht hvm hw hB hz1 hk1 hS => ?_)
  obtain ⟨hP1, hK1, hD1⟩ := hB
  rw [ht] at hP1
  have hK1 := va_K.moved hvm.symm hK1
  obtain ⟨hP, hD⟩ := va_join (wr := [(h0, .inr (10, [.ref h1, .ref h3, .int 0])), (h2, .inl (kt, 400, .inl gt)), (h3, .inr (9, [.ref cd, .int 0, .int 0]))]) (w1 := [(h1, .inr (7, [.ref h2, .int 0, .int 0, .int 1]))]) hP hD [3] [0, 1, 2] rfl rfl (by decide) (by decide) hk1 hFc hP1 hD1
  generalize H1 = H at hP hS ⊢
  have hP : va_P (dC, dI) classes [(h0, .inr (10, [.ref h1, .ref h3, .int 0])), (h2, .inl (kt, 400, .inl gt)), (h3, .inr (9, [.ref cd, .int 0, .int 0])), (h1, .inr (7, [.ref h2, .int 0, .int 0, .int 1]))] H := hP
  have hD : va_D A [(h0, .inr (10, [.ref h1, .ref h3, .int 0])), (h2, .inl (kt, 400, .inl gt)), (h3, .inr (9, [.ref cd, .int 0, .int 0])), (h1, .inr (7, [.ref h2, .int 0, .int 0, .int 1]))] := hD
  obtain rfl : r_6 = 0 := hw
  refine lv_if_ne (tgt := 198) hx hb dX10_read_192 (by decide) (fun c9 => absurd c9 (by decide)) (fun _ => ?_)
  refine lv_goto (tgt := 204) hx hb dX10_read_195 (by decide) ?_
  refine lv_aload_n hx hb dX10_read_204 rfl (lv_at hl 1 rfl) ?_
  refine va_get (D := (dC, dI)) (ci := 10) (v := .ref h1) (C := RX10) (T := TX10) (N := 3) hx hb hq inX10 hown hK hP 0 rfl rfl 0 (by decide) (hq _ qw_206) (fun _ h9 => h9) rfl dX10_read_205 ?_
  refine va_get (D := (dC, dI)) (ci := 7) (v := .int 1) (C := RX7) (T := TX7) (N := 4) hx hb hq inX7 hown hK hP 3 rfl rfl 3 (by decide) (hq _ qw_165) (fun _ h9 => h9) rfl dX10_read_208 ?_
  refine W.widen (k := 0) (n := 0) (Nat.le_of_ble_eq_true rfl) (Nat.le_of_ble_eq_true rfl) ?_
  exact W.iret (v := 1) hx hb hr (fun t ht hW => ⟨⟨1, (), rfl, rfl, trivial⟩, hS.F ht⟩) hS.2.2 dX10_read_211

set_option maxHeartbeats 4000000 in
set_option maxRecDepth 100000 in
/-- c_SB_dinner -/
theorem c_SB_dinner (l : Launch) (dC : Nat → ClassId) (dI : Nat → Nat → Nat) (sz : Nat) (kA vA : Nat → Nat) (h0 : Nat) (s0 : Nat) (s2 : Nat) (s3 : Nat) (s4 : Nat) (s7 : Nat) (s8 : Nat) (s9 : Nat) (s10 : Nat) (s11 : Nat) (s12 : Nat) (s13 : Nat) (s14 : Nat) (s15 : Nat) (s16 : Nat) (s17 : Nat) (h1 : Nat) (tx : Nat) (a1 : Nat) (a2 : Nat) (a3 : Nat) (a4 : Nat) (kt : ClassId) (gt : Nat → Int32) (k4 : ClassId) (g4 : Nat → Int32) : Met l yX11_dinner (.code yX11_dinner cX11_dinner 2 (some .int) :: wsA) ({ frames := 6, cells := 0, slots := 0, locals := 136 }) (va_Pc [.ref h0] (fun U => U.heap.size = sz ∧ va_P (dC, dI) classes [(h0, .inr (11, [.ref s0, .int 0, .ref s2, .ref s3, .ref s4, .int 0, .int (-1), .ref s7, .ref s8, .ref s9, .ref s10, .ref s11, .ref s12, .ref s13, .ref s14, .ref s15, .ref s16, .ref s17, .int 0])), (s2, .inr (2, [.ref h1])), (h1, .inr (7, [.ref tx, .int 0, .int 0, .int 0])), (s0, .inl (kt, 400, .inl gt)), (s8, .inr (1, [.int 0, .int 0, .int 0, .ref a1, .ref a2, .ref a3, .ref a4])), (a4, .inl (k4, 8, .inl g4))] U.heap ∧ va_K (dC, dI) classes [(kt, .int), (k4, .int)] U ∧ va_D (fun _ => True) [(h0, .inr (11, [.ref s0, .int 0, .ref s2, .ref s3, .ref s4, .int 0, .int (-1), .ref s7, .ref s8, .ref s9, .ref s10, .ref s11, .ref s12, .ref s13, .ref s14, .ref s15, .ref s16, .ref s17, .int 0])), (s2, .inr (2, [.ref h1])), (h1, .inr (7, [.ref tx, .int 0, .int 0, .int 0])), (s0, .inl (kt, 400, .inl gt)), (s8, .inr (1, [.int 0, .int 0, .int 0, .ref a1, .ref a2, .ref a3, .ref a4])), (a4, .inl (k4, 8, .inl g4))] ∧ xE U ∧ xT kA vA (va_A [(h0, .inr (11, [.ref s0, .int 0, .ref s2, .ref s3, .ref s4, .int 0, .int (-1), .ref s7, .ref s8, .ref s9, .ref s10, .ref s11, .ref s12, .ref s13, .ref s14, .ref s15, .ref s16, .ref s17, .int 0])), (s2, .inr (2, [.ref h1])), (h1, .inr (7, [.ref tx, .int 0, .int 0, .int 0])), (s0, .inl (kt, 400, .inl gt)), (s8, .inr (1, [.int 0, .int 0, .int 0, .ref a1, .ref a2, .ref a3, .ref a4])), (a4, .inl (k4, 8, .inl g4))] sz) U U.heap)) (va_Qi (fun (r : Int32) (_ : Unit) => r = (-3)) (fun _ _ => True) (va_A [(h0, .inr (11, [.ref s0, .int 0, .ref s2, .ref s3, .ref s4, .int 0, .int (-1), .ref s7, .ref s8, .ref s9, .ref s10, .ref s11, .ref s12, .ref s13, .ref s14, .ref s15, .ref s16, .ref s17, .int 0])), (s2, .inr (2, [.ref h1])), (h1, .inr (7, [.ref tx, .int 0, .int 0, .int 0])), (s0, .inl (kt, 400, .inl gt)), (s8, .inr (1, [.int 0, .int 0, .int 0, .ref a1, .ref a2, .ref a3, .ref a4])), (a4, .inl (k4, 8, .inl g4))] sz)) 0 0 (va_A [(h0, .inr (11, [.ref s0, .int 0, .ref s2, .ref s3, .ref s4, .int 0, .int (-1), .ref s7, .ref s8, .ref s9, .ref s10, .ref s11, .ref s12, .ref s13, .ref s14, .ref s15, .ref s16, .ref s17, .int 0])), (s2, .inr (2, [.ref h1])), (h1, .inr (7, [.ref tx, .int 0, .int 0, .int 0])), (s0, .inl (kt, 400, .inl gt)), (s8, .inr (1, [.int 0, .int 0, .int 0, .ref a1, .ref a2, .ref a3, .ref a4])), (a4, .inl (k4, 8, .inl g4))] sz) := by
  refine Met.ofW (cc := cX11_dinner) (maxL := 2) (ret := (some .int)) (by decide) rfl ?_
  intro p e s m args below meth c s₁ B hml hv
  obtain ⟨rfl, hsz, hP, hK, hD0, hE, hT⟩ := hv
  have hx := B.exec
  have hb := B.bytes
  have hr := B.returns
  have hts := atoms_spec (ws := .code yX11_dinner cX11_dinner 2 (some .int) :: wsA) B.pre
  have hq : ∀ w ∈ wsA, w.before _ s = true := fun w h => hts w (List.mem_cons_of_mem _ h)
  have hown : s.vm.findClass RX11 = some m.cls := findClass_of_methodNamed B.named
  have hlocks := B.notSynchronized
  subst hsz
  have hD := hD0.self (sz := s.heap.size)
  generalize hAe : va_A [(h0, .inr (11, [.ref s0, .int 0, .ref s2, .ref s3, .ref s4, .int 0, .int (-1), .ref s7, .ref s8, .ref s9, .ref s10, .ref s11, .ref s12, .ref s13, .ref s14, .ref s15, .ref s16, .ref s17, .int 0])), (s2, .inr (2, [.ref h1])), (h1, .inr (7, [.ref tx, .int 0, .int 0, .int 0])), (s0, .inl (kt, 400, .inl gt)), (s8, .inr (1, [.int 0, .int 0, .int 0, .ref a1, .ref a2, .ref a3, .ref a4])), (a4, .inl (k4, 8, .inl g4))] s.heap.size = A at hD hT ⊢
  have hA : ∀ q : Nat, s.heap.size ≤ q → A q := fun q h => by rw [← hAe]; exact Or.inr h
  have hS : va_S A s.heap s.heap [] := va_S.rf
  have hl := lv_entry ([.ref h0]) (n := 2) (Nat.le_of_ble_eq_true rfl)
  rw [lg_entry_eq]
  generalize (lg_sl ([.ref h0]) ++ List.replicate (2 - (lg_sl ([.ref h0])).length) Slot.unset).toArray = ls at hl ⊢
  have hl : lv_has ls 2 [(0, .ref h0)] := hl
  refine lv_aload_n hx hb dX11_dinner_0 rfl (lv_at hl 0 rfl) ?_
  refine va_get (D := (dC, dI)) (ci := 11) (v := .ref s2) (C := RX11) (T := TX11) (N := 19) hx hb hq inX11 hown hK hP 0 rfl rfl 2 (by decide) (hq _ qw_451) (fun _ h9 => h9) rfl dX11_dinner_1 ?_
  refine lv_aload_n hx hb dX11_dinner_4 rfl (lv_at hl 0 rfl) ?_
  refine va_get (D := (dC, dI)) (ci := 11) (v := .ref s0) (C := RX11) (T := TX11) (N := 19) hx hb hq inX11 hown hK hP 0 rfl rfl 0 (by decide) (hq _ qw_449) (fun _ h9 => h9) rfl dX11_dinner_5 ?_
  refine lv_aload_n hx hb dX11_dinner_8 rfl (lv_at hl 0 rfl) ?_
  refine va_get (D := (dC, dI)) (ci := 11) (v := .int 0) (C := RX11) (T := TX11) (N := 19) hx hb hq inX11 hown hK hP 0 rfl rfl 1 (by decide) (hq _ qw_450) (fun _ h9 => h9) rfl dX11_dinner_9 ?_
  refine lv_aload_n hx hb dX11_dinner_12 rfl (lv_at hl 0 rfl) ?_
  refine va_get (D := (dC, dI)) (ci := 11) (v := .ref s8) (C := RX11) (T := TX11) (N := 19) hx hb hq inX11 hown hK hP 0 rfl rfl 8 (by decide) (hq _ qw_457) (fun _ h9 => h9) rfl dX11_dinner_13 ?_
  have hPc := hP.sub (ws' := [(s2, .inr (2, [.ref h1])), (h1, .inr (7, [.ref tx, .int 0, .int 0, .int 0])), (s0, .inl (kt, 400, .inl gt)), (s8, .inr (1, [.int 0, .int 0, .int 0, .ref a1, .ref a2, .ref a3, .ref a4])), (a4, .inl (k4, 8, .inl g4))]) [1, 2, 3, 4, 5] rfl
  have hDc := hD.sub (ws' := [(s2, .inr (2, [.ref h1])), (h1, .inr (7, [.ref tx, .int 0, .int 0, .int 0])), (s0, .inl (kt, 400, .inl gt)), (s8, .inr (1, [.int 0, .int 0, .int 0, .ref a1, .ref a2, .ref a3, .ref a4])), (a4, .inl (k4, 8, .inl g4))]) [1, 2, 3, 4, 5] (by decide) rfl
  have hKc := hK.sub (tys' := [(kt, .int), (k4, .int)]) [0, 1] rfl
  have hFc := va_free (wc := [(s2, .inr (2, [.ref h1])), (h1, .inr (7, [.ref tx, .int 0, .int 0, .int 0])), (s0, .inl (kt, 400, .inl gt)), (s8, .inr (1, [.int 0, .int 0, .int 0, .ref a1, .ref a2, .ref a3, .ref a4])), (a4, .inl (k4, 8, .inl g4))]) hD hS hA [1, 2, 3, 4, 5] rfl
  refine va_calli (va_runV (As := [.ref s0, .int 0, .ref s8]) (rest := []) ⟨hx, hb, hml, hown, hq⟩ (c_DR_read l dC dI _ kA vA s2 h1 tx s0 s8 a1 a2 a3 a4 kt gt k4 g4 ) (cwV 3 hq (gV qw_523 qw_524 qw_525 qw_120 qw_526) rfl rfl rfl (by decide +kernel) ⟨Nat.le_of_ble_eq_true rfl, Nat.le_of_ble_eq_true rfl⟩) ⟨fun a U g mk q => by obtain ⟨q0, q1, qP, qK, qD, qE, qT⟩ := q; exact ⟨q0, q1, qP, va_K.moved (u := U) (U := U.calling g mk a) (Vm.Alike.refl U.vm) qK, qD, xE.same rfl qE, xT.same rfl qT⟩, va_recv hKc hPc (ci := 2) (q0 := 0) rfl rfl, fun U hU hW => ⟨rfl, by rw [hU], by rw [hU]; exact hPc, va_K.moved hW.alike hKc, hDc.weaken (fun _ _ _ _ => trivial), xE.warm hW hE, by rw [hU]; exact xT.call hW hT hS hFc⟩⟩ rfl rfl hl.1 rfl (lv_room (Nat.le_of_ble_eq_true rfl)) dX11_dinner_16 ⟨Nat.le_of_ble_eq_true rfl, Nat.le_of_ble_eq_true rfl⟩) hS (fun q _ h => hFc q h) hFc (fun r_1 u t H1 locs ht hvm hw hB hz1 hk1 hS => ?_)
  have hP1 : va_P (dC, dI) classes [] H1 := vP_nil
  have hD1 : va_D (va_A [(s2, .inr (2, [.ref h1])), (h1, .inr (7, [.ref tx, .int 0, .int 0, .int 0])), (s0, .inl (kt, 400, .inl gt)), (s8, .inr (1, [.int 0, .int 0, .int 0, .ref a1, .ref a2, .ref a3, .ref a4])), (a4, .inl (k4, 8, .inl g4))] s.heap.size) [] := vD_nil
  obtain ⟨hP, hD⟩ := va_join (wr := [(h0, .inr (11, [.ref s0, .int 0, .ref s2, .ref s3, .ref s4, .int 0, .int (-1), .ref s7, .ref s8, .ref s9, .ref s10, .ref s11, .ref s12, .ref s13, .ref s14, .ref s15, .ref s16, .ref s17, .int 0]))]) (w1 := []) hP hD [1, 2, 3, 4, 5] [0] rfl rfl (by decide) (by decide) hk1 hFc hP1 hD1
  generalize H1 = H at hP hS ⊢
  have hP : va_P (dC, dI) classes [(h0, .inr (11, [.ref s0, .int 0, .ref s2, .ref s3, .ref s4, .int 0, .int (-1), .ref s7, .ref s8, .ref s9, .ref s10, .ref s11, .ref s12, .ref s13, .ref s14, .ref s15, .ref s16, .ref s17, .int 0]))] H := hP
  have hD : va_D A [(h0, .inr (11, [.ref s0, .int 0, .ref s2, .ref s3, .ref s4, .int 0, .int (-1), .ref s7, .ref s8, .ref s9, .ref s10, .ref s11, .ref s12, .ref s13, .ref s14, .ref s15, .ref s16, .ref s17, .int 0]))] := hD
  obtain rfl : r_1 = 1 := hw
  refine lv_istore_n (lv' := [(1, .int 1), (0, .ref h0)]) hx hb dX11_dinner_19 rfl hl (by decide) rfl (fun ls hl => ?_)
  refine lv_iload_n hx hb dX11_dinner_20 rfl (lv_at hl 0 rfl) ?_
  refine lv_if_eq (tgt := 29) hx hb dX11_dinner_21 (by decide) (fun c9 => absurd c9 (by decide)) (fun _ => ?_)
  refine lv_bipush (v := (-2)) hx hb dX11_dinner_24 (by decide) ?_
  refine lv_iload_n hx hb dX11_dinner_26 rfl (lv_at hl 0 rfl) ?_
  refine lv_isub hx hb dX11_dinner_27 ?_
  refine lv_topi (fun y_2 ey_2 => ?_)
  obtain rfl : y_2 = (-3) := ey_2.trans (by decide)
  refine W.widen (k := 0) (n := 0) (Nat.le_of_ble_eq_true rfl) (Nat.le_of_ble_eq_true rfl) ?_
  exact W.iret (v := (-3)) hx hb hr (fun t ht hW => ⟨⟨(-3), (), rfl, rfl, trivial⟩, hS.F ht⟩) hS.2.2 dX11_dinner_28

set_option maxHeartbeats 4000000 in
set_option maxRecDepth 100000 in
/-- c_SB_ruleAt_0 -/
theorem c_SB_ruleAt_0 (l : Launch) (dC : Nat → ClassId) (dI : Nat → Nat → Nat) (sz : Nat) (h0 : Nat) (s0 : Nat) (s2 : Nat) (s3 : Nat) (s4 : Nat) (s7 : Nat) (s8 : Nat) (s9 : Nat) (s10 : Nat) (s11 : Nat) (s12 : Nat) (s13 : Nat) (s14 : Nat) (s15 : Nat) (s16 : Nat) (s17 : Nat) (krl : ClassId) (fi : Nat → Option Nat) (i0 : Nat) (hf : fi 0 = some i0) : Met l yX11_ruleAt (.code yX11_ruleAt cX11_ruleAt 2 (some (.object "SpokenBite$Rule")) :: wsA) ({ frames := 0, cells := 0, slots := 0, locals := 0 }) (va_Pc [.ref h0, .int 0] (fun U => U.heap.size = sz ∧ va_P (dC, dI) classes [(h0, .inr (11, [.ref s0, .int 0, .ref s2, .ref s3, .ref s4, .int 0, .int (-1), .ref s7, .ref s8, .ref s9, .ref s10, .ref s11, .ref s12, .ref s13, .ref s14, .ref s15, .ref s16, .ref s17, .int 0])), (s4, .inl (krl, 6, .inr (.inr (.inr (.inr fi)))))] U.heap ∧ va_K (dC, dI) classes [(krl, .object RX9)] U ∧ va_D (fun _ => True) [(h0, .inr (11, [.ref s0, .int 0, .ref s2, .ref s3, .ref s4, .int 0, .int (-1), .ref s7, .ref s8, .ref s9, .ref s10, .ref s11, .ref s12, .ref s13, .ref s14, .ref s15, .ref s16, .ref s17, .int 0])), (s4, .inl (krl, 6, .inr (.inr (.inr (.inr fi)))))] ∧ xE U)) (va_Qq (fun (r : Option Nat) (_ : Unit) => r = some i0) (fun _ t => va_P (dC, dI) classes [(h0, .inr (11, [.ref s0, .int 0, .ref s2, .ref s3, .ref s4, .int 0, .int (-1), .ref s7, .ref s8, .ref s9, .ref s10, .ref s11, .ref s12, .ref s13, .ref s14, .ref s15, .ref s16, .ref s17, .int 0])), (s4, .inl (krl, 6, .inr (.inr (.inr (.inr fi)))))] t.heap ∧ va_K (dC, dI) classes [(krl, .object RX9)] t ∧ va_D (va_A [(h0, .inr (11, [.ref s0, .int 0, .ref s2, .ref s3, .ref s4, .int 0, .int (-1), .ref s7, .ref s8, .ref s9, .ref s10, .ref s11, .ref s12, .ref s13, .ref s14, .ref s15, .ref s16, .ref s17, .int 0])), (s4, .inl (krl, 6, .inr (.inr (.inr (.inr fi)))))] sz) [(h0, .inr (11, [.ref s0, .int 0, .ref s2, .ref s3, .ref s4, .int 0, .int (-1), .ref s7, .ref s8, .ref s9, .ref s10, .ref s11, .ref s12, .ref s13, .ref s14, .ref s15, .ref s16, .ref s17, .int 0])), (s4, .inl (krl, 6, .inr (.inr (.inr (.inr fi)))))]) (va_A [(h0, .inr (11, [.ref s0, .int 0, .ref s2, .ref s3, .ref s4, .int 0, .int (-1), .ref s7, .ref s8, .ref s9, .ref s10, .ref s11, .ref s12, .ref s13, .ref s14, .ref s15, .ref s16, .ref s17, .int 0])), (s4, .inl (krl, 6, .inr (.inr (.inr (.inr fi)))))] sz)) 0 0 (va_A [(h0, .inr (11, [.ref s0, .int 0, .ref s2, .ref s3, .ref s4, .int 0, .int (-1), .ref s7, .ref s8, .ref s9, .ref s10, .ref s11, .ref s12, .ref s13, .ref s14, .ref s15, .ref s16, .ref s17, .int 0])), (s4, .inl (krl, 6, .inr (.inr (.inr (.inr fi)))))] sz) := by
  refine Met.ofW (cc := cX11_ruleAt) (maxL := 2) (ret := (some (.object "SpokenBite$Rule"))) (by decide) rfl ?_
  intro p e s m args below meth c s₁ B hml hv
  obtain ⟨rfl, hsz, hP, hK, hD0, hE⟩ := hv
  have hx := B.exec
  have hb := B.bytes
  have hr := B.returns
  have hts := atoms_spec (ws := .code yX11_ruleAt cX11_ruleAt 2 (some (.object "SpokenBite$Rule")) :: wsA) B.pre
  have hq : ∀ w ∈ wsA, w.before _ s = true := fun w h => hts w (List.mem_cons_of_mem _ h)
  have hown : s.vm.findClass RX11 = some m.cls := findClass_of_methodNamed B.named
  have hlocks := B.notSynchronized
  subst hsz
  have hD := hD0.self (sz := s.heap.size)
  generalize hAe : va_A [(h0, .inr (11, [.ref s0, .int 0, .ref s2, .ref s3, .ref s4, .int 0, .int (-1), .ref s7, .ref s8, .ref s9, .ref s10, .ref s11, .ref s12, .ref s13, .ref s14, .ref s15, .ref s16, .ref s17, .int 0])), (s4, .inl (krl, 6, .inr (.inr (.inr (.inr fi)))))] s.heap.size = A at hD ⊢
  have hA : ∀ q : Nat, s.heap.size ≤ q → A q := fun q h => by rw [← hAe]; exact Or.inr h
  have hS : va_S A s.heap s.heap [] := va_S.rf
  have hl := lv_entry ([.ref h0, .int 0]) (n := 2) (Nat.le_of_ble_eq_true rfl)
  rw [lg_entry_eq]
  generalize (lg_sl ([.ref h0, .int 0]) ++ List.replicate (2 - (lg_sl ([.ref h0, .int 0])).length) Slot.unset).toArray = ls at hl ⊢
  have hl : lv_has ls 2 [(0, .ref h0), (1, .int 0)] := hl
  refine lv_iload_n hx hb dX11_ruleAt_0 rfl (lv_at hl 1 rfl) ?_
  refine lv_if_lt (tgt := 22) hx hb dX11_ruleAt_1 (by decide) (fun c9 => absurd c9 (by decide)) (fun _ => ?_)
  refine lv_iload_n hx hb dX11_ruleAt_4 rfl (lv_at hl 1 rfl) ?_
  refine lv_aload_n hx hb dX11_ruleAt_5 rfl (lv_at hl 0 rfl) ?_
  refine va_get (D := (dC, dI)) (ci := 11) (v := .ref s4) (C := RX11) (T := TX11) (N := 19) hx hb hq inX11 hown hK hP 0 rfl rfl 4 (by decide) (hq _ qw_453) (fun _ h9 => h9) rfl dX11_ruleAt_6 ?_
  refine va_alen (v := 6) hx hb hK hP 1 0 rfl rfl rfl dX11_ruleAt_9 ?_
  refine lv_icmp_ge (tgt := 22) hx hb dX11_ruleAt_10 (by decide) (fun c9 => absurd c9 (by decide)) (fun _ => ?_)
  refine lv_aload_n hx hb dX11_ruleAt_13 rfl (lv_at hl 0 rfl) ?_
  refine va_get (D := (dC, dI)) (ci := 11) (v := .ref s4) (C := RX11) (T := TX11) (N := 19) hx hb hq inX11 hown hK hP 0 rfl rfl 4 (by decide) (hq _ qw_453) (fun _ h9 => h9) rfl dX11_ruleAt_14 ?_
  refine lv_iload_n hx hb dX11_ruleAt_17 rfl (lv_at hl 1 rfl) ?_
  refine va_aldq hx hb hK hP 1 0 rfl rfl (inr_ok rfl) dX11_ruleAt_18 ?_
  refine W.eq (g2 := F0 m 19 ls [.ref i0]) (by rw [show fi (Int32.toNatClampNeg 0) = some i0 from hf]; rfl) ?_
  refine lv_goto (tgt := 23) hx hb dX11_ruleAt_19 (by decide) ?_
  have hP9 := hP.sub (ws' := [(h0, .inr (11, [.ref s0, .int 0, .ref s2, .ref s3, .ref s4, .int 0, .int (-1), .ref s7, .ref s8, .ref s9, .ref s10, .ref s11, .ref s12, .ref s13, .ref s14, .ref s15, .ref s16, .ref s17, .int 0])), (s4, .inl (krl, 6, .inr (.inr (.inr (.inr fi)))))]) [0, 1] rfl
  have hD9 := hD.sub (ws' := [(h0, .inr (11, [.ref s0, .int 0, .ref s2, .ref s3, .ref s4, .int 0, .int (-1), .ref s7, .ref s8, .ref s9, .ref s10, .ref s11, .ref s12, .ref s13, .ref s14, .ref s15, .ref s16, .ref s17, .int 0])), (s4, .inl (krl, 6, .inr (.inr (.inr (.inr fi)))))]) [0, 1] (by decide) rfl
  have hK9 := hK.sub (tys' := [(krl, .object RX9)]) [0] rfl
  refine W.widen (k := 0) (n := 0) (Nat.le_of_ble_eq_true rfl) (Nat.le_of_ble_eq_true rfl) ?_
  exact W.aret (v := .ref i0) hx hb hr (by first | exact Or.inl ⟨_, rfl⟩ | exact Or.inr ⟨_, rfl⟩) (Or.inr ⟨_, rfl⟩) (fun t ht hW => ⟨⟨some i0, (), rfl, rfl, by rw [ht]; exact hP9, va_K.moved hW.alike hK9, hD9⟩, hS.F ht⟩) hS.2.2 dX11_ruleAt_23

set_option maxHeartbeats 4000000 in
set_option maxRecDepth 100000 in
/-- c_SB_rule -/
theorem c_SB_rule (l : Launch) (dC : Nat → ClassId) (dI : Nat → Nat → Nat) (sz : Nat) (kA vA : Nat → Nat) (h0 : Nat) (s0 : Nat) (s2 : Nat) (s3 : Nat) (s4 : Nat) (s7 : Nat) (s8 : Nat) (s9 : Nat) (s10 : Nat) (s11 : Nat) (s12 : Nat) (s13 : Nat) (s14 : Nat) (s15 : Nat) (s16 : Nat) (s17 : Nat) (krl : ClassId) (fi : Nat → Option Nat) (i0 : Nat) (cd : Nat) (h1 : Nat) (tx : Nat) (ol : Nat) (kt : ClassId) (gt : Nat → Int32) (hf : fi 0 = some i0) : Met l yX11_rule (.code yX11_rule cX11_rule 3 (some .int) :: wsA) ({ frames := 6, cells := 0, slots := 0, locals := 136 }) (va_Pc [.ref h0] (fun U => U.heap.size = sz ∧ va_P (dC, dI) classes [(h0, .inr (11, [.ref s0, .int 0, .ref s2, .ref s3, .ref s4, .int 0, .int (-1), .ref s7, .ref s8, .ref s9, .ref s10, .ref s11, .ref s12, .ref s13, .ref s14, .ref s15, .ref s16, .ref s17, .int 0])), (s4, .inl (krl, 6, .inr (.inr (.inr (.inr fi))))), (i0, .inr (9, [.ref cd, .int 0, .int 0])), (s3, .inr (10, [.ref h1, .ref ol, .int 0])), (h1, .inr (7, [.ref tx, .int 0, .int 0, .int 0])), (s0, .inl (kt, 400, .inl gt))] U.heap ∧ va_K (dC, dI) classes [(krl, .object RX9), (kt, .int)] U ∧ va_D (fun _ => True) [(h0, .inr (11, [.ref s0, .int 0, .ref s2, .ref s3, .ref s4, .int 0, .int (-1), .ref s7, .ref s8, .ref s9, .ref s10, .ref s11, .ref s12, .ref s13, .ref s14, .ref s15, .ref s16, .ref s17, .int 0])), (s4, .inl (krl, 6, .inr (.inr (.inr (.inr fi))))), (i0, .inr (9, [.ref cd, .int 0, .int 0])), (s3, .inr (10, [.ref h1, .ref ol, .int 0])), (h1, .inr (7, [.ref tx, .int 0, .int 0, .int 0])), (s0, .inl (kt, 400, .inl gt))] ∧ xE U ∧ xT kA vA (va_A [(h0, .inr (11, [.ref s0, .int 0, .ref s2, .ref s3, .ref s4, .int 0, .int (-1), .ref s7, .ref s8, .ref s9, .ref s10, .ref s11, .ref s12, .ref s13, .ref s14, .ref s15, .ref s16, .ref s17, .int 0])), (s4, .inl (krl, 6, .inr (.inr (.inr (.inr fi))))), (i0, .inr (9, [.ref cd, .int 0, .int 0])), (s3, .inr (10, [.ref h1, .ref ol, .int 0])), (h1, .inr (7, [.ref tx, .int 0, .int 0, .int 0])), (s0, .inl (kt, 400, .inl gt))] sz) U U.heap)) (va_Qi (fun (r : Int32) (_ : Unit) => r = (-3)) (fun _ _ => True) (va_A [(h0, .inr (11, [.ref s0, .int 0, .ref s2, .ref s3, .ref s4, .int 0, .int (-1), .ref s7, .ref s8, .ref s9, .ref s10, .ref s11, .ref s12, .ref s13, .ref s14, .ref s15, .ref s16, .ref s17, .int 0])), (s4, .inl (krl, 6, .inr (.inr (.inr (.inr fi))))), (i0, .inr (9, [.ref cd, .int 0, .int 0])), (s3, .inr (10, [.ref h1, .ref ol, .int 0])), (h1, .inr (7, [.ref tx, .int 0, .int 0, .int 0])), (s0, .inl (kt, 400, .inl gt))] sz)) 0 0 (va_A [(h0, .inr (11, [.ref s0, .int 0, .ref s2, .ref s3, .ref s4, .int 0, .int (-1), .ref s7, .ref s8, .ref s9, .ref s10, .ref s11, .ref s12, .ref s13, .ref s14, .ref s15, .ref s16, .ref s17, .int 0])), (s4, .inl (krl, 6, .inr (.inr (.inr (.inr fi))))), (i0, .inr (9, [.ref cd, .int 0, .int 0])), (s3, .inr (10, [.ref h1, .ref ol, .int 0])), (h1, .inr (7, [.ref tx, .int 0, .int 0, .int 0])), (s0, .inl (kt, 400, .inl gt))] sz) := by
  refine Met.ofW (cc := cX11_rule) (maxL := 3) (ret := (some .int)) (by decide) rfl ?_
  intro p e s m args below meth c s₁ B hml hv
  obtain ⟨rfl, hsz, hP, hK, hD0, hE, hT⟩ := hv
  have hx := B.exec
  have hb := B.bytes
  have hr := B.returns
  have hts := atoms_spec (ws := .code yX11_rule cX11_rule 3 (some .int) :: wsA) B.pre
  have hq : ∀ w ∈ wsA, w.before _ s = true := fun w h => hts w (List.mem_cons_of_mem _ h)
  have hown : s.vm.findClass RX11 = some m.cls := findClass_of_methodNamed B.named
  have hlocks := B.notSynchronized
  subst hsz
  have hD := hD0.self (sz := s.heap.size)
  generalize hAe : va_A [(h0, .inr (11, [.ref s0, .int 0, .ref s2, .ref s3, .ref s4, .int 0, .int (-1), .ref s7, .ref s8, .ref s9, .ref s10, .ref s11, .ref s12, .ref s13, .ref s14, .ref s15, .ref s16, .ref s17, .int 0])), (s4, .inl (krl, 6, .inr (.inr (.inr (.inr fi))))), (i0, .inr (9, [.ref cd, .int 0, .int 0])), (s3, .inr (10, [.ref h1, .ref ol, .int 0])), (h1, .inr (7, [.ref tx, .int 0, .int 0, .int 0])), (s0, .inl (kt, 400, .inl gt))] s.heap.size = A at hD hT ⊢
  have hA : ∀ q : Nat, s.heap.size ≤ q → A q := fun q h => by rw [← hAe]; exact Or.inr h
  have hS : va_S A s.heap s.heap [] := va_S.rf
  have hl := lv_entry ([.ref h0]) (n := 3) (Nat.le_of_ble_eq_true rfl)
  rw [lg_entry_eq]
  generalize (lg_sl ([.ref h0]) ++ List.replicate (3 - (lg_sl ([.ref h0])).length) Slot.unset).toArray = ls at hl ⊢
  have hl : lv_has ls 3 [(0, .ref h0)] := hl
  refine lv_aload_n hx hb dX11_rule_0 rfl (lv_at hl 0 rfl) ?_
  refine lv_aload_n hx hb dX11_rule_1 rfl (lv_at hl 0 rfl) ?_
  refine va_get (D := (dC, dI)) (ci := 11) (v := .int 0) (C := RX11) (T := TX11) (N := 19) hx hb hq inX11 hown hK hP 0 rfl rfl 5 (by decide) (hq _ qw_454) (fun _ h9 => h9) rfl dX11_rule_2 ?_
  have hPc := hP.sub (ws' := [(h0, .inr (11, [.ref s0, .int 0, .ref s2, .ref s3, .ref s4, .int 0, .int (-1), .ref s7, .ref s8, .ref s9, .ref s10, .ref s11, .ref s12, .ref s13, .ref s14, .ref s15, .ref s16, .ref s17, .int 0])), (s4, .inl (krl, 6, .inr (.inr (.inr (.inr fi)))))]) [0, 1] rfl
  have hDc := hD.sub (ws' := [(h0, .inr (11, [.ref s0, .int 0, .ref s2, .ref s3, .ref s4, .int 0, .int (-1), .ref s7, .ref s8, .ref s9, .ref s10, .ref s11, .ref s12, .ref s13, .ref s14, .ref s15, .ref s16, .ref s17, .int 0])), (s4, .inl (krl, 6, .inr (.inr (.inr (.inr fi)))))]) [0, 1] (by decide) rfl
  have hKc := hK.sub (tys' := [(krl, .object RX9)]) [0] rfl
  have hFc := va_free (wc := [(h0, .inr (11, [.ref s0, .int 0, .ref s2, .ref s3, .ref s4, .int 0, .int (-1), .ref s7, .ref s8, .ref s9, .ref s10, .ref s11, .ref s12, .ref s13, .ref s14, .ref s15, .ref s16, .ref s17, .int 0])), (s4, .inl (krl, 6, .inr (.inr (.inr (.inr fi)))))]) hD hS hA [0, 1] rfl
  refine va_callq (va_runV (As := [.int 0]) (rest := []) ⟨hx, hb, hml, hown, hq⟩ (c_SB_ruleAt_0 l dC dI _ h0 s0 s2 s3 s4 s7 s8 s9 s10 s11 s12 s13 s14 s15 s16 s17 krl fi i0 (hf)) (cwV 1 hq (gV qw_667 qw_669 qw_4 qw_119 qw_670) rfl rfl rfl (by decide +kernel) ⟨Nat.le_of_ble_eq_true rfl, Nat.le_of_ble_eq_true rfl⟩) ⟨fun a U g mk q => by obtain ⟨q0, q1, qP, qK, qD, qE⟩ := q; exact ⟨q0, q1, qP, va_K.moved (u := U) (U := U.calling g mk a) (Vm.Alike.refl U.vm) qK, qD, xE.same rfl qE⟩, va_recv hKc hPc (ci := 11) (q0 := 0) rfl rfl, fun U hU hW => ⟨rfl, by rw [hU], by rw [hU]; exact hPc, va_K.moved hW.alike hKc, hDc.weaken (fun _ _ _ _ => trivial), xE.warm hW hE⟩⟩ rfl rfl hl.1 rfl (lv_room (Nat.le_of_ble_eq_true rfl)) dX11_rule_5 ⟨Nat.le_of_ble_eq_true rfl, Nat.le_of_ble_eq_true rfl⟩) hS (fun q _ h => hFc q h) hFc (fun r_1 u t H1 locs ht hvm hw hB hz1 hk1 hS => ?_)
  obtain ⟨hP1, hK1, hD1⟩ := hB
  rw [ht] at hP1
  have hK1 := va_K.moved hvm.symm hK1
  obtain ⟨hP, hD⟩ := va_join (wr := [(i0, .inr (9, [.ref cd, .int 0, .int 0])), (s3, .inr (10, [.ref h1, .ref ol, .int 0])), (h1, .inr (7, [.ref tx, .int 0, .int 0, .int 0])), (s0, .inl (kt, 400, .inl gt))]) (w1 := [(h0, .inr (11, [.ref s0, .int 0, .ref s2, .ref s3, .ref s4, .int 0, .int (-1), .ref s7, .ref s8, .ref s9, .ref s10, .ref s11, .ref s12, .ref s13, .ref s14, .ref s15, .ref s16, .ref s17, .int 0])), (s4, .inl (krl, 6, .inr (.inr (.inr (.inr fi)))))]) hP hD [0, 1] [2, 3, 4, 5] rfl rfl (by decide) (by decide) hk1 hFc hP1 hD1
  generalize H1 = H at hP hS ⊢
  have hP : va_P (dC, dI) classes [(i0, .inr (9, [.ref cd, .int 0, .int 0])), (s3, .inr (10, [.ref h1, .ref ol, .int 0])), (h1, .inr (7, [.ref tx, .int 0, .int 0, .int 0])), (s0, .inl (kt, 400, .inl gt)), (h0, .inr (11, [.ref s0, .int 0, .ref s2, .ref s3, .ref s4, .int 0, .int (-1), .ref s7, .ref s8, .ref s9, .ref s10, .ref s11, .ref s12, .ref s13, .ref s14, .ref s15, .ref s16, .ref s17, .int 0])), (s4, .inl (krl, 6, .inr (.inr (.inr (.inr fi)))))] H := hP
  have hD : va_D A [(i0, .inr (9, [.ref cd, .int 0, .int 0])), (s3, .inr (10, [.ref h1, .ref ol, .int 0])), (h1, .inr (7, [.ref tx, .int 0, .int 0, .int 0])), (s0, .inl (kt, 400, .inl gt)), (h0, .inr (11, [.ref s0, .int 0, .ref s2, .ref s3, .ref s4, .int 0, .int (-1), .ref s7, .ref s8, .ref s9, .ref s10, .ref s11, .ref s12, .ref s13, .ref s14, .ref s15, .ref s16, .ref s17, .int 0])), (s4, .inl (krl, 6, .inr (.inr (.inr (.inr fi)))))] := hD
  subst hw
  refine W.eq (g2 := F0 m 8 ls [.ref i0]) rfl ?_
  refine lv_astore_n (lv' := [(1, .ref i0), (0, .ref h0)]) hx hb dX11_rule_8 rfl hl (by decide) rfl (fun ls hl => ?_)
  refine lv_aload_n hx hb dX11_rule_9 rfl (lv_at hl 0 rfl) ?_
  refine lv_ifnonnull (tgt := 15) hx hb dX11_rule_10 (by decide) ?_
  refine lv_aload_n hx hb dX11_rule_15 rfl (lv_at hl 1 rfl) ?_
  refine va_get (D := (dC, dI)) (ci := 11) (v := .ref s3) (C := RX11) (T := TX11) (N := 19) hx hb hq inX11 hown hK hP 4 rfl rfl 3 (by decide) (hq _ qw_452) (fun _ h9 => h9) rfl dX11_rule_16 ?_
  refine lv_aload_n hx hb dX11_rule_19 rfl (lv_at hl 1 rfl) ?_
  refine va_get (D := (dC, dI)) (ci := 11) (v := .ref s0) (C := RX11) (T := TX11) (N := 19) hx hb hq inX11 hown hK hP 4 rfl rfl 0 (by decide) (hq _ qw_449) (fun _ h9 => h9) rfl dX11_rule_20 ?_
  refine lv_aload_n hx hb dX11_rule_23 rfl (lv_at hl 1 rfl) ?_
  refine va_get (D := (dC, dI)) (ci := 11) (v := .int 0) (C := RX11) (T := TX11) (N := 19) hx hb hq inX11 hown hK hP 4 rfl rfl 1 (by decide) (hq _ qw_450) (fun _ h9 => h9) rfl dX11_rule_24 ?_
  refine lv_aload_n hx hb dX11_rule_27 rfl (lv_at hl 0 rfl) ?_
  have hPc := hP.sub (ws' := [(s3, .inr (10, [.ref h1, .ref ol, .int 0])), (h1, .inr (7, [.ref tx, .int 0, .int 0, .int 0])), (s0, .inl (kt, 400, .inl gt)), (i0, .inr (9, [.ref cd, .int 0, .int 0]))]) [1, 2, 3, 0] rfl
  have hDc := hD.sub (ws' := [(s3, .inr (10, [.ref h1, .ref ol, .int 0])), (h1, .inr (7, [.ref tx, .int 0, .int 0, .int 0])), (s0, .inl (kt, 400, .inl gt)), (i0, .inr (9, [.ref cd, .int 0, .int 0]))]) [1, 2, 3, 0] (by decide) rfl
  have hKc := hK.sub (tys' := [(kt, .int)]) [1] rfl
  have hFc := va_free (wc := [(s3, .inr (10, [.ref h1, .ref ol, .int 0])), (h1, .inr (7, [.ref tx, .int 0, .int 0, .int 0])), (s0, .inl (kt, 400, .inl gt)), (i0, .inr (9, [.ref cd, .int 0, .int 0]))]) hD hS hA [1, 2, 3, 0] rfl
  refine va_calli (va_runV (As := [.ref s0, .int 0, .ref i0]) (rest := []) ⟨hx, hb, hml, hown, hq⟩ (c_RR_read l dC dI _ kA vA s3 h1 tx ol s0 i0 cd kt gt ) (cwV 3 hq (gV qw_671 qw_672 qw_673 qw_122 qw_674) rfl rfl rfl (by decide +kernel) ⟨Nat.le_of_ble_eq_true rfl, Nat.le_of_ble_eq_true rfl⟩) ⟨fun a U g mk q => by obtain ⟨q0, q1, qP, qK, qD, qE, qT⟩ := q; exact ⟨q0, q1, qP, va_K.moved (u := U) (U := U.calling g mk a) (Vm.Alike.refl U.vm) qK, qD, xE.same rfl qE, xT.same rfl qT⟩, va_recv hKc hPc (ci := 10) (q0 := 0) rfl rfl, fun U hU hW => ⟨rfl, by rw [hU], by rw [hU]; exact hPc, va_K.moved hW.alike hKc, hDc.weaken (fun _ _ _ _ => trivial), xE.warm hW hE, by rw [hU]; exact xT.call hW hT hS hFc⟩⟩ rfl rfl hl.1 rfl (lv_room (Nat.le_of_ble_eq_true rfl)) dX11_rule_28 ⟨Nat.le_of_ble_eq_true rfl, Nat.le_of_ble_eq_true rfl⟩) hS (fun q _ h => hFc q h) hFc (fun r_2 u t H1 locs ht hvm hw hB hz1 hk1 hS => ?_)
  have hP1 : va_P (dC, dI) classes [] H1 := vP_nil
  have hD1 : va_D (va_A [(s3, .inr (10, [.ref h1, .ref ol, .int 0])), (h1, .inr (7, [.ref tx, .int 0, .int 0, .int 0])), (s0, .inl (kt, 400, .inl gt)), (i0, .inr (9, [.ref cd, .int 0, .int 0]))] H.size) [] := vD_nil
  obtain ⟨hP, hD⟩ := va_join (wr := [(h0, .inr (11, [.ref s0, .int 0, .ref s2, .ref s3, .ref s4, .int 0, .int (-1), .ref s7, .ref s8, .ref s9, .ref s10, .ref s11, .ref s12, .ref s13, .ref s14, .ref s15, .ref s16, .ref s17, .int 0])), (s4, .inl (krl, 6, .inr (.inr (.inr (.inr fi)))))]) (w1 := []) hP hD [1, 2, 3, 0] [4, 5] rfl rfl (by decide) (by decide) hk1 hFc hP1 hD1
  generalize H1 = H at hP hS ⊢
  have hP : va_P (dC, dI) classes [(h0, .inr (11, [.ref s0, .int 0, .ref s2, .ref s3, .ref s4, .int 0, .int (-1), .ref s7, .ref s8, .ref s9, .ref s10, .ref s11, .ref s12, .ref s13, .ref s14, .ref s15, .ref s16, .ref s17, .int 0])), (s4, .inl (krl, 6, .inr (.inr (.inr (.inr fi)))))] H := hP
  have hD : va_D A [(h0, .inr (11, [.ref s0, .int 0, .ref s2, .ref s3, .ref s4, .int 0, .int (-1), .ref s7, .ref s8, .ref s9, .ref s10, .ref s11, .ref s12, .ref s13, .ref s14, .ref s15, .ref s16, .ref s17, .int 0])), (s4, .inl (krl, 6, .inr (.inr (.inr (.inr fi)))))] := hD
  obtain rfl : r_2 = 1 := hw
  refine lv_istore_n (lv' := [(2, .int 1), (1, .ref i0), (0, .ref h0)]) hx hb dX11_rule_31 rfl hl (by decide) rfl (fun ls hl => ?_)
  refine lv_iload_n hx hb dX11_rule_32 rfl (lv_at hl 0 rfl) ?_
  refine lv_if_eq (tgt := 41) hx hb dX11_rule_33 (by decide) (fun c9 => absurd c9 (by decide)) (fun _ => ?_)
  refine lv_bipush (v := (-2)) hx hb dX11_rule_36 (by decide) ?_
  refine lv_iload_n hx hb dX11_rule_38 rfl (lv_at hl 0 rfl) ?_
  refine lv_isub hx hb dX11_rule_39 ?_
  refine lv_topi (fun y_3 ey_3 => ?_)
  obtain rfl : y_3 = (-3) := ey_3.trans (by decide)
  refine W.widen (k := 0) (n := 0) (Nat.le_of_ble_eq_true rfl) (Nat.le_of_ble_eq_true rfl) ?_
  exact W.iret (v := (-3)) hx hb hr (fun t ht hW => ⟨⟨(-3), (), rfl, rfl, trivial⟩, hS.F ht⟩) hS.2.2 dX11_rule_40

set_option maxHeartbeats 4000000 in
set_option maxRecDepth 100000 in
/-- c_J_bits -/
theorem c_J_bits (l : Launch) (dC : Nat → ClassId) (dI : Nat → Nat → Nat) (sz : Nat) : Met l yJ13_bitCount_95d88 (.code yJ13_bitCount_95d88 cJ13_bitCount_95d88 2 (some .int) :: wsA) ({ frames := 0, cells := 0, slots := 0, locals := 0 }) (va_Pc [.long 0] (fun U => U.heap.size = sz ∧ va_P (dC, dI) classes [] U.heap ∧ va_K (dC, dI) classes [] U ∧ va_D (fun _ => True) [] ∧ xE U)) (va_Qi (fun (r : Int32) (_ : Unit) => r = 0) (fun _ t => va_P (dC, dI) classes [] t.heap ∧ va_K (dC, dI) classes [] t ∧ va_D (va_A [] sz) []) (va_A [] sz)) 0 0 (va_A [] sz) := by
  refine Met.ofW (cc := cJ13_bitCount_95d88) (maxL := 2) (ret := (some .int)) (by decide) rfl ?_
  intro p e s m args below meth c s₁ B hml hv
  obtain ⟨rfl, hsz, hP, hK, hD0, hE⟩ := hv
  have hx := B.exec
  have hb := B.bytes
  have hr := B.returns
  have hts := atoms_spec (ws := .code yJ13_bitCount_95d88 cJ13_bitCount_95d88 2 (some .int) :: wsA) B.pre
  have hq : ∀ w ∈ wsA, w.before _ s = true := fun w h => hts w (List.mem_cons_of_mem _ h)
  have hown : s.vm.findClass RJ13 = some m.cls := findClass_of_methodNamed B.named
  have hlocks := B.notSynchronized
  subst hsz
  have hD := hD0.self (sz := s.heap.size)
  generalize hAe : va_A [] s.heap.size = A at hD ⊢
  have hA : ∀ q : Nat, s.heap.size ≤ q → A q := fun q h => by rw [← hAe]; exact Or.inr h
  have hS : va_S A s.heap s.heap [] := va_S.rf
  have hl := lv_entry ([.long 0]) (n := 2) (Nat.le_of_ble_eq_true rfl)
  rw [lg_entry_eq]
  generalize (lg_sl ([.long 0]) ++ List.replicate (2 - (lg_sl ([.long 0])).length) Slot.unset).toArray = ls at hl ⊢
  have hl : lv_has ls 2 [(0, .long 0)] := hl
  refine lv_lload_n hx hb dJ13_bitCount_95d88_0 rfl (lv_at hl 0 rfl) ?_
  refine lv_lload_n hx hb dJ13_bitCount_95d88_1 rfl (lv_at hl 0 rfl) ?_
  refine lv_iconst (v := 1) hx hb dJ13_bitCount_95d88_2 (by decide) ?_
  refine lv_lushr hx hb dJ13_bitCount_95d88_3 rfl ?_
  refine lv_topl (fun y_1 ey_1 => ?_)
  obtain rfl : y_1 = 0 := ey_1.trans (by decide)
  refine lv_ldc2 (v := 6148914691236517205) hx hb hown (hq _ qw_1001) dJ13_bitCount_95d88_4 ?_
  refine lv_land hx hb dJ13_bitCount_95d88_7 ?_
  refine lv_topl (fun y_2 ey_2 => ?_)
  obtain rfl : y_2 = 0 := ey_2.trans (by decide)
  refine lv_lsub hx hb dJ13_bitCount_95d88_8 ?_
  refine lv_topl (fun y_3 ey_3 => ?_)
  obtain rfl : y_3 = 0 := ey_3.trans (by decide)
  refine lv_lstore_n (lv' := [(0, .long 0)]) hx hb dJ13_bitCount_95d88_9 rfl hl (by decide) rfl (fun ls hl => ?_)
  refine lv_lload_n hx hb dJ13_bitCount_95d88_10 rfl (lv_at hl 0 rfl) ?_
  refine lv_ldc2 (v := 3689348814741910323) hx hb hown (hq _ qw_1002) dJ13_bitCount_95d88_11 ?_
  refine lv_land hx hb dJ13_bitCount_95d88_14 ?_
  refine lv_topl (fun y_4 ey_4 => ?_)
  obtain rfl : y_4 = 0 := ey_4.trans (by decide)
  refine lv_lload_n hx hb dJ13_bitCount_95d88_15 rfl (lv_at hl 0 rfl) ?_
  refine lv_iconst (v := 2) hx hb dJ13_bitCount_95d88_16 (by decide) ?_
  refine lv_lushr hx hb dJ13_bitCount_95d88_17 rfl ?_
  refine lv_topl (fun y_5 ey_5 => ?_)
  obtain rfl : y_5 = 0 := ey_5.trans (by decide)
  refine lv_ldc2 (v := 3689348814741910323) hx hb hown (hq _ qw_1002) dJ13_bitCount_95d88_18 ?_
  refine lv_land hx hb dJ13_bitCount_95d88_21 ?_
  refine lv_topl (fun y_6 ey_6 => ?_)
  obtain rfl : y_6 = 0 := ey_6.trans (by decide)
  refine lv_ladd hx hb dJ13_bitCount_95d88_22 ?_
  refine lv_topl (fun y_7 ey_7 => ?_)
  obtain rfl : y_7 = 0 := ey_7.trans (by decide)
  refine lv_lstore_n (lv' := [(0, .long 0)]) hx hb dJ13_bitCount_95d88_23 rfl hl (by decide) rfl (fun ls hl => ?_)
  refine lv_lload_n hx hb dJ13_bitCount_95d88_24 rfl (lv_at hl 0 rfl) ?_
  refine lv_lload_n hx hb dJ13_bitCount_95d88_25 rfl (lv_at hl 0 rfl) ?_
  refine lv_iconst (v := 4) hx hb dJ13_bitCount_95d88_26 (by decide) ?_
  refine lv_lushr hx hb dJ13_bitCount_95d88_27 rfl ?_
  refine lv_topl (fun y_8 ey_8 => ?_)
  obtain rfl : y_8 = 0 := ey_8.trans (by decide)
  refine lv_ladd hx hb dJ13_bitCount_95d88_28 ?_
  refine lv_topl (fun y_9 ey_9 => ?_)
  obtain rfl : y_9 = 0 := ey_9.trans (by decide)
  refine lv_ldc2 (v := 1085102592571150095) hx hb hown (hq _ qw_1003) dJ13_bitCount_95d88_29 ?_
  refine lv_land hx hb dJ13_bitCount_95d88_32 ?_
  refine lv_topl (fun y_10 ey_10 => ?_)
  obtain rfl : y_10 = 0 := ey_10.trans (by decide)
  refine lv_lstore_n (lv' := [(0, .long 0)]) hx hb dJ13_bitCount_95d88_33 rfl hl (by decide) rfl (fun ls hl => ?_)
  refine lv_lload_n hx hb dJ13_bitCount_95d88_34 rfl (lv_at hl 0 rfl) ?_
  refine lv_lload_n hx hb dJ13_bitCount_95d88_35 rfl (lv_at hl 0 rfl) ?_
  refine lv_bipush (v := 8) hx hb dJ13_bitCount_95d88_36 (by decide) ?_
  refine lv_lushr hx hb dJ13_bitCount_95d88_38 rfl ?_
  refine lv_topl (fun y_11 ey_11 => ?_)
  obtain rfl : y_11 = 0 := ey_11.trans (by decide)
  refine lv_ladd hx hb dJ13_bitCount_95d88_39 ?_
  refine lv_topl (fun y_12 ey_12 => ?_)
  obtain rfl : y_12 = 0 := ey_12.trans (by decide)
  refine lv_lstore_n (lv' := [(0, .long 0)]) hx hb dJ13_bitCount_95d88_40 rfl hl (by decide) rfl (fun ls hl => ?_)
  refine lv_lload_n hx hb dJ13_bitCount_95d88_41 rfl (lv_at hl 0 rfl) ?_
  refine lv_lload_n hx hb dJ13_bitCount_95d88_42 rfl (lv_at hl 0 rfl) ?_
  refine lv_bipush (v := 16) hx hb dJ13_bitCount_95d88_43 (by decide) ?_
  refine lv_lushr hx hb dJ13_bitCount_95d88_45 rfl ?_
  refine lv_topl (fun y_13 ey_13 => ?_)
  obtain rfl : y_13 = 0 := ey_13.trans (by decide)
  refine lv_ladd hx hb dJ13_bitCount_95d88_46 ?_
  refine lv_topl (fun y_14 ey_14 => ?_)
  obtain rfl : y_14 = 0 := ey_14.trans (by decide)
  refine lv_lstore_n (lv' := [(0, .long 0)]) hx hb dJ13_bitCount_95d88_47 rfl hl (by decide) rfl (fun ls hl => ?_)
  refine lv_lload_n hx hb dJ13_bitCount_95d88_48 rfl (lv_at hl 0 rfl) ?_
  refine lv_lload_n hx hb dJ13_bitCount_95d88_49 rfl (lv_at hl 0 rfl) ?_
  refine lv_bipush (v := 32) hx hb dJ13_bitCount_95d88_50 (by decide) ?_
  refine lv_lushr hx hb dJ13_bitCount_95d88_52 rfl ?_
  refine lv_topl (fun y_15 ey_15 => ?_)
  obtain rfl : y_15 = 0 := ey_15.trans (by decide)
  refine lv_ladd hx hb dJ13_bitCount_95d88_53 ?_
  refine lv_topl (fun y_16 ey_16 => ?_)
  obtain rfl : y_16 = 0 := ey_16.trans (by decide)
  refine lv_lstore_n (lv' := [(0, .long 0)]) hx hb dJ13_bitCount_95d88_54 rfl hl (by decide) rfl (fun ls hl => ?_)
  refine lv_lload_n hx hb dJ13_bitCount_95d88_55 rfl (lv_at hl 0 rfl) ?_
  refine lv_l2i hx hb dJ13_bitCount_95d88_56 rfl ?_
  refine lv_topi (fun y_17 ey_17 => ?_)
  obtain rfl : y_17 = 0 := ey_17.trans (by decide)
  refine lv_bipush (v := 127) hx hb dJ13_bitCount_95d88_57 (by decide) ?_
  refine lv_iand hx hb dJ13_bitCount_95d88_59 ?_
  refine lv_topi (fun y_18 ey_18 => ?_)
  obtain rfl : y_18 = 0 := ey_18.trans (by decide)
  have hP9 := hP.sub (ws' := []) [] rfl
  have hD9 := hD.sub (ws' := []) [] (by decide) rfl
  have hK9 := hK.sub (tys' := []) [] rfl
  refine W.widen (k := 0) (n := 0) (Nat.le_of_ble_eq_true rfl) (Nat.le_of_ble_eq_true rfl) ?_
  exact W.iret (v := 0) hx hb hr (fun t ht hW => ⟨⟨0, (), rfl, rfl, by rw [ht]; exact hP9, va_K.moved hW.alike hK9, hD9⟩, hS.F ht⟩) hS.2.2 dJ13_bitCount_95d88_60

set_option maxHeartbeats 4000000 in
set_option maxRecDepth 100000 in
/-- c_SB_count -/
theorem c_SB_count (l : Launch) (dC : Nat → ClassId) (dI : Nat → Nat → Nat) (sz : Nat) (h0 : Nat) (s0 : Nat) (s2 : Nat) (s3 : Nat) (s4 : Nat) (s7 : Nat) (s8 : Nat) (s9 : Nat) (s10 : Nat) (s11 : Nat) (s12 : Nat) (s13 : Nat) (s14 : Nat) (s15 : Nat) (s16 : Nat) (s17 : Nat) (t3 : Nat) (t4 : Nat) (t5 : Nat) (t6 : Nat) (n1 : Nat) (n2 : Nat) (n3 : Nat) (n4 : Nat) (u0 : Nat) (x0 : Int32) : Met l yX11_count (.code yX11_count cX11_count 2 (some .int) :: wsA) ({ frames := 1, cells := 0, slots := 0, locals := 21 }) (va_Pc [.ref h0, .int x0] (fun U => U.heap.size = sz ∧ va_P (dC, dI) classes [(h0, .inr (11, [.ref s0, .int 0, .ref s2, .ref s3, .ref s4, .int 0, .int (-1), .ref s7, .ref s8, .ref s9, .ref s10, .ref s11, .ref s12, .ref s13, .ref s14, .ref s15, .ref s16, .ref s17, .int 0])), (s7, .inr (1, [.int 0, .int 0, .int 0, .ref t3, .ref t4, .ref t5, .ref t6])), (s9, .inr (3, [.int 0, .int (-1), .int 0, .int 0, .int 0, .long 0])), (s11, .inr (5, [.int 0, .ref n1, .ref n2, .ref n3, .ref n4])), (s12, .inr (6, [.ref u0, .int 0, .int 0]))] U.heap ∧ va_K (dC, dI) classes [] U ∧ va_D (fun _ => True) [(h0, .inr (11, [.ref s0, .int 0, .ref s2, .ref s3, .ref s4, .int 0, .int (-1), .ref s7, .ref s8, .ref s9, .ref s10, .ref s11, .ref s12, .ref s13, .ref s14, .ref s15, .ref s16, .ref s17, .int 0])), (s7, .inr (1, [.int 0, .int 0, .int 0, .ref t3, .ref t4, .ref t5, .ref t6])), (s9, .inr (3, [.int 0, .int (-1), .int 0, .int 0, .int 0, .long 0])), (s11, .inr (5, [.int 0, .ref n1, .ref n2, .ref n3, .ref n4])), (s12, .inr (6, [.ref u0, .int 0, .int 0]))] ∧ xE U)) (va_Qi (fun (r : Int32) (_ : Unit) => r = fe_count x0) (fun _ _ => True) (va_A [(h0, .inr (11, [.ref s0, .int 0, .ref s2, .ref s3, .ref s4, .int 0, .int (-1), .ref s7, .ref s8, .ref s9, .ref s10, .ref s11, .ref s12, .ref s13, .ref s14, .ref s15, .ref s16, .ref s17, .int 0])), (s7, .inr (1, [.int 0, .int 0, .int 0, .ref t3, .ref t4, .ref t5, .ref t6])), (s9, .inr (3, [.int 0, .int (-1), .int 0, .int 0, .int 0, .long 0])), (s11, .inr (5, [.int 0, .ref n1, .ref n2, .ref n3, .ref n4])), (s12, .inr (6, [.ref u0, .int 0, .int 0]))] sz)) 0 0 (va_A [(h0, .inr (11, [.ref s0, .int 0, .ref s2, .ref s3, .ref s4, .int 0, .int (-1), .ref s7, .ref s8, .ref s9, .ref s10, .ref s11, .ref s12, .ref s13, .ref s14, .ref s15, .ref s16, .ref s17, .int 0])), (s7, .inr (1, [.int 0, .int 0, .int 0, .ref t3, .ref t4, .ref t5, .ref t6])), (s9, .inr (3, [.int 0, .int (-1), .int 0, .int 0, .int 0, .long 0])), (s11, .inr (5, [.int 0, .ref n1, .ref n2, .ref n3, .ref n4])), (s12, .inr (6, [.ref u0, .int 0, .int 0]))] sz) := by
  refine Met.ofW (cc := cX11_count) (maxL := 2) (ret := (some .int)) (by decide) rfl ?_
  intro p e s m args below meth c s₁ B hml hv
  obtain ⟨rfl, hsz, hP, hK, hD0, hE⟩ := hv
  have hx := B.exec
  have hb := B.bytes
  have hr := B.returns
  have hts := atoms_spec (ws := .code yX11_count cX11_count 2 (some .int) :: wsA) B.pre
  have hq : ∀ w ∈ wsA, w.before _ s = true := fun w h => hts w (List.mem_cons_of_mem _ h)
  have hown : s.vm.findClass RX11 = some m.cls := findClass_of_methodNamed B.named
  have hlocks := B.notSynchronized
  subst hsz
  have hD := hD0.self (sz := s.heap.size)
  generalize hAe : va_A [(h0, .inr (11, [.ref s0, .int 0, .ref s2, .ref s3, .ref s4, .int 0, .int (-1), .ref s7, .ref s8, .ref s9, .ref s10, .ref s11, .ref s12, .ref s13, .ref s14, .ref s15, .ref s16, .ref s17, .int 0])), (s7, .inr (1, [.int 0, .int 0, .int 0, .ref t3, .ref t4, .ref t5, .ref t6])), (s9, .inr (3, [.int 0, .int (-1), .int 0, .int 0, .int 0, .long 0])), (s11, .inr (5, [.int 0, .ref n1, .ref n2, .ref n3, .ref n4])), (s12, .inr (6, [.ref u0, .int 0, .int 0]))] s.heap.size = A at hD ⊢
  have hA : ∀ q : Nat, s.heap.size ≤ q → A q := fun q h => by rw [← hAe]; exact Or.inr h
  have hS : va_S A s.heap s.heap [] := va_S.rf
  have hl := lv_entry ([.ref h0, .int x0]) (n := 2) (Nat.le_of_ble_eq_true rfl)
  rw [lg_entry_eq]
  generalize (lg_sl ([.ref h0, .int x0]) ++ List.replicate (2 - (lg_sl ([.ref h0, .int x0])).length) Slot.unset).toArray = ls at hl ⊢
  have hl : lv_has ls 2 [(0, .ref h0), (1, .int x0)] := hl
  rcases c14 x0 with rfl | rfl | rfl | rfl | rfl | rfl | rfl | rfl | rfl | rfl | rfl | rfl | rfl | rfl | hout
  · refine lv_iload_n hx hb dX11_count_0 rfl (lv_at hl 1 rfl) ?_
    refine lv_tableIn (tgt := 72) hx hb dX11_count_1 (by decide) (by decide) (off := 71) (by decide) (by decide) ?_
    refine lv_aload_n hx hb dX11_count_72 rfl (lv_at hl 0 rfl) ?_
    refine va_get (D := (dC, dI)) (ci := 11) (v := .ref s7) (C := RX11) (T := TX11) (N := 19) hx hb hq inX11 hown hK hP 0 rfl rfl 7 (by decide) (hq _ qw_456) (fun _ h9 => h9) rfl dX11_count_73 ?_
    refine va_get (D := (dC, dI)) (ci := 1) (v := .int 0) (C := RX1) (T := TX1) (N := 7) hx hb hq inX1 hown hK hP 1 rfl rfl 0 (by decide) (hq _ qw_227) (fun _ h9 => h9) rfl dX11_count_76 ?_
    refine W.widen (k := 0) (n := 0) (Nat.le_of_ble_eq_true rfl) (Nat.le_of_ble_eq_true rfl) ?_
    exact W.iret (v := 0) hx hb hr (fun t ht hW => ⟨⟨0, (), rfl, by decide, trivial⟩, hS.F ht⟩) hS.2.2 dX11_count_79
  · refine lv_iload_n hx hb dX11_count_0 rfl (lv_at hl 1 rfl) ?_
    refine lv_tableIn (tgt := 80) hx hb dX11_count_1 (by decide) (by decide) (off := 79) (by decide) (by decide) ?_
    refine lv_aload_n hx hb dX11_count_80 rfl (lv_at hl 0 rfl) ?_
    refine va_get (D := (dC, dI)) (ci := 11) (v := .ref s7) (C := RX11) (T := TX11) (N := 19) hx hb hq inX11 hown hK hP 0 rfl rfl 7 (by decide) (hq _ qw_456) (fun _ h9 => h9) rfl dX11_count_81 ?_
    refine va_get (D := (dC, dI)) (ci := 1) (v := .int 0) (C := RX1) (T := TX1) (N := 7) hx hb hq inX1 hown hK hP 1 rfl rfl 1 (by decide) (hq _ qw_231) (fun _ h9 => h9) rfl dX11_count_84 ?_
    refine W.widen (k := 0) (n := 0) (Nat.le_of_ble_eq_true rfl) (Nat.le_of_ble_eq_true rfl) ?_
    exact W.iret (v := 0) hx hb hr (fun t ht hW => ⟨⟨0, (), rfl, by decide, trivial⟩, hS.F ht⟩) hS.2.2 dX11_count_87
  · refine lv_iload_n hx hb dX11_count_0 rfl (lv_at hl 1 rfl) ?_
    refine lv_tableIn (tgt := 88) hx hb dX11_count_1 (by decide) (by decide) (off := 87) (by decide) (by decide) ?_
    refine lv_aload_n hx hb dX11_count_88 rfl (lv_at hl 0 rfl) ?_
    refine va_get (D := (dC, dI)) (ci := 11) (v := .ref s7) (C := RX11) (T := TX11) (N := 19) hx hb hq inX11 hown hK hP 0 rfl rfl 7 (by decide) (hq _ qw_456) (fun _ h9 => h9) rfl dX11_count_89 ?_
    refine va_get (D := (dC, dI)) (ci := 1) (v := .int 0) (C := RX1) (T := TX1) (N := 7) hx hb hq inX1 hown hK hP 1 rfl rfl 2 (by decide) (hq _ qw_235) (fun _ h9 => h9) rfl dX11_count_92 ?_
    refine W.widen (k := 0) (n := 0) (Nat.le_of_ble_eq_true rfl) (Nat.le_of_ble_eq_true rfl) ?_
    exact W.iret (v := 0) hx hb hr (fun t ht hW => ⟨⟨0, (), rfl, by decide, trivial⟩, hS.F ht⟩) hS.2.2 dX11_count_95
  · refine lv_iload_n hx hb dX11_count_0 rfl (lv_at hl 1 rfl) ?_
    refine lv_tableIn (tgt := 96) hx hb dX11_count_1 (by decide) (by decide) (off := 95) (by decide) (by decide) ?_
    refine lv_aload_n hx hb dX11_count_96 rfl (lv_at hl 0 rfl) ?_
    refine va_get (D := (dC, dI)) (ci := 11) (v := .int 0) (C := RX11) (T := TX11) (N := 19) hx hb hq inX11 hown hK hP 0 rfl rfl 5 (by decide) (hq _ qw_454) (fun _ h9 => h9) rfl dX11_count_97 ?_
    refine W.widen (k := 0) (n := 0) (Nat.le_of_ble_eq_true rfl) (Nat.le_of_ble_eq_true rfl) ?_
    exact W.iret (v := 0) hx hb hr (fun t ht hW => ⟨⟨0, (), rfl, by decide, trivial⟩, hS.F ht⟩) hS.2.2 dX11_count_100
  · refine lv_iload_n hx hb dX11_count_0 rfl (lv_at hl 1 rfl) ?_
    refine lv_tableIn (tgt := 101) hx hb dX11_count_1 (by decide) (by decide) (off := 100) (by decide) (by decide) ?_
    refine lv_aload_n hx hb dX11_count_101 rfl (lv_at hl 0 rfl) ?_
    refine va_get (D := (dC, dI)) (ci := 11) (v := .int (-1)) (C := RX11) (T := TX11) (N := 19) hx hb hq inX11 hown hK hP 0 rfl rfl 6 (by decide) (hq _ qw_455) (fun _ h9 => h9) rfl dX11_count_102 ?_
    refine W.widen (k := 0) (n := 0) (Nat.le_of_ble_eq_true rfl) (Nat.le_of_ble_eq_true rfl) ?_
    exact W.iret (v := (-1)) hx hb hr (fun t ht hW => ⟨⟨(-1), (), rfl, by decide, trivial⟩, hS.F ht⟩) hS.2.2 dX11_count_105
  · refine lv_iload_n hx hb dX11_count_0 rfl (lv_at hl 1 rfl) ?_
    refine lv_tableIn (tgt := 106) hx hb dX11_count_1 (by decide) (by decide) (off := 105) (by decide) (by decide) ?_
    refine lv_aload_n hx hb dX11_count_106 rfl (lv_at hl 0 rfl) ?_
    refine va_get (D := (dC, dI)) (ci := 11) (v := .ref s9) (C := RX11) (T := TX11) (N := 19) hx hb hq inX11 hown hK hP 0 rfl rfl 9 (by decide) (hq _ qw_458) (fun _ h9 => h9) rfl dX11_count_107 ?_
    refine va_get (D := (dC, dI)) (ci := 3) (v := .int 0) (C := RX3) (T := TX3) (N := 6) hx hb hq inX3 hown hK hP 2 rfl rfl 0 (by decide) (hq _ qw_271) (fun _ h9 => h9) rfl dX11_count_110 ?_
    refine W.widen (k := 0) (n := 0) (Nat.le_of_ble_eq_true rfl) (Nat.le_of_ble_eq_true rfl) ?_
    exact W.iret (v := 0) hx hb hr (fun t ht hW => ⟨⟨0, (), rfl, by decide, trivial⟩, hS.F ht⟩) hS.2.2 dX11_count_113
  · refine lv_iload_n hx hb dX11_count_0 rfl (lv_at hl 1 rfl) ?_
    refine lv_tableIn (tgt := 114) hx hb dX11_count_1 (by decide) (by decide) (off := 113) (by decide) (by decide) ?_
    refine lv_aload_n hx hb dX11_count_114 rfl (lv_at hl 0 rfl) ?_
    refine va_get (D := (dC, dI)) (ci := 11) (v := .ref s9) (C := RX11) (T := TX11) (N := 19) hx hb hq inX11 hown hK hP 0 rfl rfl 9 (by decide) (hq _ qw_458) (fun _ h9 => h9) rfl dX11_count_115 ?_
    refine va_get (D := (dC, dI)) (ci := 3) (v := .int 0) (C := RX3) (T := TX3) (N := 6) hx hb hq inX3 hown hK hP 2 rfl rfl 2 (by decide) (hq _ qw_278) (fun _ h9 => h9) rfl dX11_count_118 ?_
    refine W.widen (k := 0) (n := 0) (Nat.le_of_ble_eq_true rfl) (Nat.le_of_ble_eq_true rfl) ?_
    exact W.iret (v := 0) hx hb hr (fun t ht hW => ⟨⟨0, (), rfl, by decide, trivial⟩, hS.F ht⟩) hS.2.2 dX11_count_121
  · refine lv_iload_n hx hb dX11_count_0 rfl (lv_at hl 1 rfl) ?_
    refine lv_tableIn (tgt := 122) hx hb dX11_count_1 (by decide) (by decide) (off := 121) (by decide) (by decide) ?_
    refine lv_aload_n hx hb dX11_count_122 rfl (lv_at hl 0 rfl) ?_
    refine va_get (D := (dC, dI)) (ci := 11) (v := .ref s9) (C := RX11) (T := TX11) (N := 19) hx hb hq inX11 hown hK hP 0 rfl rfl 9 (by decide) (hq _ qw_458) (fun _ h9 => h9) rfl dX11_count_123 ?_
    refine va_get (D := (dC, dI)) (ci := 3) (v := .int 0) (C := RX3) (T := TX3) (N := 6) hx hb hq inX3 hown hK hP 2 rfl rfl 3 (by decide) (hq _ qw_281) (fun _ h9 => h9) rfl dX11_count_126 ?_
    refine W.widen (k := 0) (n := 0) (Nat.le_of_ble_eq_true rfl) (Nat.le_of_ble_eq_true rfl) ?_
    exact W.iret (v := 0) hx hb hr (fun t ht hW => ⟨⟨0, (), rfl, by decide, trivial⟩, hS.F ht⟩) hS.2.2 dX11_count_129
  · refine lv_iload_n hx hb dX11_count_0 rfl (lv_at hl 1 rfl) ?_
    refine lv_tableIn (tgt := 130) hx hb dX11_count_1 (by decide) (by decide) (off := 129) (by decide) (by decide) ?_
    refine lv_aload_n hx hb dX11_count_130 rfl (lv_at hl 0 rfl) ?_
    refine va_get (D := (dC, dI)) (ci := 11) (v := .ref s9) (C := RX11) (T := TX11) (N := 19) hx hb hq inX11 hown hK hP 0 rfl rfl 9 (by decide) (hq _ qw_458) (fun _ h9 => h9) rfl dX11_count_131 ?_
    refine va_get (D := (dC, dI)) (ci := 3) (v := .long 0) (C := RX3) (T := TX3) (N := 6) hx hb hq inX3 hown hK hP 2 rfl rfl 5 (by decide) (hq _ qw_287) (fun _ h9 => h9) rfl dX11_count_134 ?_
    have hPc := hP.sub (ws' := []) [] rfl
    have hDc := hD.sub (ws' := []) [] (by decide) rfl
    have hKc := hK.sub (tys' := []) [] rfl
    have hFc := va_free (wc := []) hD hS hA [] rfl
    refine va_calli (va_runS (As := [.long 0]) (rest := []) ⟨hx, hb, hml, hown, hq⟩ (c_J_bits l dC dI _  ) (va_cwS 1 hq (gT qw_1047 qw_999 qw_138 qw_1000) rfl rfl rfl (by decide +kernel) ⟨Nat.le_of_ble_eq_true rfl, Nat.le_of_ble_eq_true rfl⟩) ⟨fun a U g mk q => by obtain ⟨q0, q1, qP, qK, qD, qE⟩ := q; exact ⟨q0, q1, qP, va_K.moved (u := U) (U := U.calling g mk a) (Vm.Alike.refl U.vm) qK, qD, xE.same rfl qE⟩, fun U hU hW => ⟨rfl, by rw [hU], by rw [hU]; exact hPc, va_K.moved hW.alike hKc, hDc.weaken (fun _ _ _ _ => trivial), xE.warm hW hE⟩⟩ rfl rfl hl.1 rfl (lv_room (Nat.le_of_ble_eq_true rfl)) dX11_count_137 ⟨Nat.le_of_ble_eq_true rfl, Nat.le_of_ble_eq_true rfl⟩) hS (fun q _ h => hFc q h) hFc (fun r_1 u t H1 locs ht hvm hw hB hz1 hk1 hS => ?_)
    obtain ⟨hP1, hK1, hD1⟩ := hB
    rw [ht] at hP1
    have hK1 := va_K.moved hvm.symm hK1
    obtain ⟨hP, hD⟩ := va_join (wr := [(h0, .inr (11, [.ref s0, .int 0, .ref s2, .ref s3, .ref s4, .int 0, .int (-1), .ref s7, .ref s8, .ref s9, .ref s10, .ref s11, .ref s12, .ref s13, .ref s14, .ref s15, .ref s16, .ref s17, .int 0])), (s7, .inr (1, [.int 0, .int 0, .int 0, .ref t3, .ref t4, .ref t5, .ref t6])), (s9, .inr (3, [.int 0, .int (-1), .int 0, .int 0, .int 0, .long 0])), (s11, .inr (5, [.int 0, .ref n1, .ref n2, .ref n3, .ref n4])), (s12, .inr (6, [.ref u0, .int 0, .int 0]))]) (w1 := []) hP hD [] [0, 1, 2, 3, 4] rfl rfl (by decide) (by decide) hk1 hFc hP1 hD1
    generalize H1 = H at hP hS ⊢
    have hP : va_P (dC, dI) classes [(h0, .inr (11, [.ref s0, .int 0, .ref s2, .ref s3, .ref s4, .int 0, .int (-1), .ref s7, .ref s8, .ref s9, .ref s10, .ref s11, .ref s12, .ref s13, .ref s14, .ref s15, .ref s16, .ref s17, .int 0])), (s7, .inr (1, [.int 0, .int 0, .int 0, .ref t3, .ref t4, .ref t5, .ref t6])), (s9, .inr (3, [.int 0, .int (-1), .int 0, .int 0, .int 0, .long 0])), (s11, .inr (5, [.int 0, .ref n1, .ref n2, .ref n3, .ref n4])), (s12, .inr (6, [.ref u0, .int 0, .int 0]))] H := hP
    have hD : va_D A [(h0, .inr (11, [.ref s0, .int 0, .ref s2, .ref s3, .ref s4, .int 0, .int (-1), .ref s7, .ref s8, .ref s9, .ref s10, .ref s11, .ref s12, .ref s13, .ref s14, .ref s15, .ref s16, .ref s17, .int 0])), (s7, .inr (1, [.int 0, .int 0, .int 0, .ref t3, .ref t4, .ref t5, .ref t6])), (s9, .inr (3, [.int 0, .int (-1), .int 0, .int 0, .int 0, .long 0])), (s11, .inr (5, [.int 0, .ref n1, .ref n2, .ref n3, .ref n4])), (s12, .inr (6, [.ref u0, .int 0, .int 0]))] := hD
    obtain rfl : r_1 = 0 := hw
    refine W.widen (k := 0) (n := 0) (Nat.le_of_ble_eq_true rfl) (Nat.le_of_ble_eq_true rfl) ?_
    exact W.iret (v := 0) hx hb hr (fun t ht hW => ⟨⟨0, (), rfl, by decide, trivial⟩, hS.F ht⟩) hS.2.2 dX11_count_140
  · refine lv_iload_n hx hb dX11_count_0 rfl (lv_at hl 1 rfl) ?_
    refine lv_tableIn (tgt := 141) hx hb dX11_count_1 (by decide) (by decide) (off := 140) (by decide) (by decide) ?_
    refine lv_aload_n hx hb dX11_count_141 rfl (lv_at hl 0 rfl) ?_
    refine va_get (D := (dC, dI)) (ci := 11) (v := .ref s9) (C := RX11) (T := TX11) (N := 19) hx hb hq inX11 hown hK hP 0 rfl rfl 9 (by decide) (hq _ qw_458) (fun _ h9 => h9) rfl dX11_count_142 ?_
    refine va_get (D := (dC, dI)) (ci := 3) (v := .int (-1)) (C := RX3) (T := TX3) (N := 6) hx hb hq inX3 hown hK hP 2 rfl rfl 1 (by decide) (hq _ qw_274) (fun _ h9 => h9) rfl dX11_count_145 ?_
    refine W.widen (k := 0) (n := 0) (Nat.le_of_ble_eq_true rfl) (Nat.le_of_ble_eq_true rfl) ?_
    exact W.iret (v := (-1)) hx hb hr (fun t ht hW => ⟨⟨(-1), (), rfl, by decide, trivial⟩, hS.F ht⟩) hS.2.2 dX11_count_148
  · refine lv_iload_n hx hb dX11_count_0 rfl (lv_at hl 1 rfl) ?_
    refine lv_tableIn (tgt := 149) hx hb dX11_count_1 (by decide) (by decide) (off := 148) (by decide) (by decide) ?_
    refine lv_aload_n hx hb dX11_count_149 rfl (lv_at hl 0 rfl) ?_
    refine va_get (D := (dC, dI)) (ci := 11) (v := .ref s11) (C := RX11) (T := TX11) (N := 19) hx hb hq inX11 hown hK hP 0 rfl rfl 11 (by decide) (hq _ qw_460) (fun _ h9 => h9) rfl dX11_count_150 ?_
    refine va_get (D := (dC, dI)) (ci := 5) (v := .int 0) (C := RX5) (T := TX5) (N := 5) hx hb hq inX5 hown hK hP 3 rfl rfl 0 (by decide) (hq _ qw_308) (fun _ h9 => h9) rfl dX11_count_153 ?_
    refine W.widen (k := 0) (n := 0) (Nat.le_of_ble_eq_true rfl) (Nat.le_of_ble_eq_true rfl) ?_
    exact W.iret (v := 0) hx hb hr (fun t ht hW => ⟨⟨0, (), rfl, by decide, trivial⟩, hS.F ht⟩) hS.2.2 dX11_count_156
  · refine lv_iload_n hx hb dX11_count_0 rfl (lv_at hl 1 rfl) ?_
    refine lv_tableIn (tgt := 157) hx hb dX11_count_1 (by decide) (by decide) (off := 156) (by decide) (by decide) ?_
    refine lv_aload_n hx hb dX11_count_157 rfl (lv_at hl 0 rfl) ?_
    refine va_get (D := (dC, dI)) (ci := 11) (v := .ref s12) (C := RX11) (T := TX11) (N := 19) hx hb hq inX11 hown hK hP 0 rfl rfl 12 (by decide) (hq _ qw_461) (fun _ h9 => h9) rfl dX11_count_158 ?_
    refine va_get (D := (dC, dI)) (ci := 6) (v := .int 0) (C := RX6) (T := TX6) (N := 3) hx hb hq inX6 hown hK hP 4 rfl rfl 2 (by decide) (hq _ qw_336) (fun _ h9 => h9) rfl dX11_count_161 ?_
    refine W.widen (k := 0) (n := 0) (Nat.le_of_ble_eq_true rfl) (Nat.le_of_ble_eq_true rfl) ?_
    exact W.iret (v := 0) hx hb hr (fun t ht hW => ⟨⟨0, (), rfl, by decide, trivial⟩, hS.F ht⟩) hS.2.2 dX11_count_164
  · refine lv_iload_n hx hb dX11_count_0 rfl (lv_at hl 1 rfl) ?_
    refine lv_tableIn (tgt := 165) hx hb dX11_count_1 (by decide) (by decide) (off := 164) (by decide) (by decide) ?_
    refine lv_aload_n hx hb dX11_count_165 rfl (lv_at hl 0 rfl) ?_
    refine va_get (D := (dC, dI)) (ci := 11) (v := .int 0) (C := RX11) (T := TX11) (N := 19) hx hb hq inX11 hown hK hP 0 rfl rfl 18 (by decide) (hq _ qw_467) (fun _ h9 => h9) rfl dX11_count_166 ?_
    refine W.widen (k := 0) (n := 0) (Nat.le_of_ble_eq_true rfl) (Nat.le_of_ble_eq_true rfl) ?_
    exact W.iret (v := 0) hx hb hr (fun t ht hW => ⟨⟨0, (), rfl, by decide, trivial⟩, hS.F ht⟩) hS.2.2 dX11_count_169
  · refine lv_iload_n hx hb dX11_count_0 rfl (lv_at hl 1 rfl) ?_
    refine lv_tableIn (tgt := 170) hx hb dX11_count_1 (by decide) (by decide) (off := 169) (by decide) (by decide) ?_
    refine lv_aload_n hx hb dX11_count_170 rfl (lv_at hl 0 rfl) ?_
    refine va_get (D := (dC, dI)) (ci := 11) (v := .int 0) (C := RX11) (T := TX11) (N := 19) hx hb hq inX11 hown hK hP 0 rfl rfl 1 (by decide) (hq _ qw_450) (fun _ h9 => h9) rfl dX11_count_171 ?_
    refine W.widen (k := 0) (n := 0) (Nat.le_of_ble_eq_true rfl) (Nat.le_of_ble_eq_true rfl) ?_
    exact W.iret (v := 0) hx hb hr (fun t ht hW => ⟨⟨0, (), rfl, by decide, trivial⟩, hS.F ht⟩) hS.2.2 dX11_count_174
  · refine lv_iload_n hx hb dX11_count_0 rfl (lv_at hl 1 rfl) ?_
    refine lv_tableOut (tgt := 175) hx hb dX11_count_1 (hout) (by decide) ?_
    refine lv_iconst (v := (-1)) hx hb dX11_count_175 (by decide) ?_
    refine W.widen (k := 0) (n := 0) (Nat.le_of_ble_eq_true rfl) (Nat.le_of_ble_eq_true rfl) ?_
    exact W.iret (v := (-1)) hx hb hr (fun t ht hW => ⟨⟨(-1), (), rfl, by unfold fe_count; rw [if_neg (by omega), if_neg (by omega)], trivial⟩, hS.F ht⟩) hS.2.2 dX11_count_176
