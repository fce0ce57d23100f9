theorem qw_0 : (.selects RX11 yX11_addBytes yX11_addBytes : Cond) ∈ wsA := mA (i := 0) (by decide +kernel) rfl
theorem qw_12 : (.selects RX11 yX11_isDish yX11_isDish : Cond) ∈ wsA := mA (i := 12) (by decide +kernel) rfl
theorem qw_13 : (.selects RX11 yX11_isGuest yX11_isGuest : Cond) ∈ wsA := mA (i := 13) (by decide +kernel) rfl
theorem qw_14 : (.selects RX11 yX11_untold yX11_untold : Cond) ∈ wsA := mA (i := 14) (by decide +kernel) rfl
theorem qw_33 : (.selects RX11 yX11_shareOf yX11_shareOf : Cond) ∈ wsA := mA (i := 33) (by decide +kernel) rfl
theorem qw_119 : (.initialized RX11 : Cond) ∈ wsA := mA (i := 119) (by decide +kernel) rfl
theorem qw_227 : (.fieldLink RX11 135 "SpokenBite$Dinne\x72" "deep" "I" : Cond) ∈ wsA := mA (i := 227) (by decide +kernel) rfl
theorem qw_231 : (.fieldLink RX11 122 "SpokenBite$Dinne\x72" "dishes" "I" : Cond) ∈ wsA := mA (i := 231) (by decide +kernel) rfl
theorem qw_235 : (.fieldLink RX11 138 "SpokenBite$Dinne\x72" "guests" "I" : Cond) ∈ wsA := mA (i := 235) (by decide +kernel) rfl
theorem qw_238 : (.fieldLink RX11 149 "SpokenBite$Dinne\x72" "loud" "[I" : Cond) ∈ wsA := mA (i := 238) (by decide +kernel) rfl
theorem qw_241 : (.fieldLink RX11 152 "SpokenBite$Dinne\x72" "says" "[I" : Cond) ∈ wsA := mA (i := 241) (by decide +kernel) rfl
theorem qw_244 : (.fieldLink RX11 165 "SpokenBite$Dinne\x72" "ears" "[I" : Cond) ∈ wsA := mA (i := 244) (by decide +kernel) rfl
theorem qw_247 : (.fieldLink RX11 181 "SpokenBite$Dinne\x72" "clash" "[I" : Cond) ∈ wsA := mA (i := 247) (by decide +kernel) rfl
theorem qw_271 : (.fieldLink RX11 187 "SpokenBite$Evening" "minute" "I" : Cond) ∈ wsA := mA (i := 271) (by decide +kernel) rfl
theorem qw_274 : (.fieldLink RX11 203 "SpokenBite$Evening" "offered" "I" : Cond) ∈ wsA := mA (i := 274) (by decide +kernel) rfl
theorem qw_278 : (.fieldLink RX11 206 "SpokenBite$Evening" "table" "I" : Cond) ∈ wsA := mA (i := 278) (by decide +kernel) rfl
theorem qw_281 : (.fieldLink RX11 212 "SpokenBite$Evening" "sitting" "I" : Cond) ∈ wsA := mA (i := 281) (by decide +kernel) rfl
theorem qw_287 : (.fieldLink RX11 281 "SpokenBite$Evening" "knows" "J" : Cond) ∈ wsA := mA (i := 287) (by decide +kernel) rfl
theorem qw_308 : (.fieldLink RX11 315 "SpokenBite$Notes" "kept" "I" : Cond) ∈ wsA := mA (i := 308) (by decide +kernel) rfl
theorem qw_336 : (.fieldLink RX11 223 "SpokenBite$Past" "kept" "I" : Cond) ∈ wsA := mA (i := 336) (by decide +kernel) rfl
theorem qw_449 : (.fieldLink RX11 9 "SpokenBite" "tape" "[I" : Cond) ∈ wsA := mA (i := 449) (by decide +kernel) rfl
theorem qw_450 : (.fieldLink RX11 100 "SpokenBite" "taped" "I" : Cond) ∈ wsA := mA (i := 450) (by decide +kernel) rfl
theorem qw_453 : (.fieldLink RX11 29 "SpokenBite" "rules" "[LSpokenBite$Rule;" : Cond) ∈ wsA := mA (i := 453) (by decide +kernel) rfl
theorem qw_454 : (.fieldLink RX11 125 "SpokenBite" "ruleCount" "I" : Cond) ∈ wsA := mA (i := 454) (by decide +kernel) rfl
theorem qw_455 : (.fieldLink RX11 33 "SpokenBite" "inForce" "I" : Cond) ∈ wsA := mA (i := 455) (by decide +kernel) rfl
theorem qw_456 : (.fieldLink RX11 40 "SpokenBite" "told" "LSpokenBite$Dinner;" : Cond) ∈ wsA := mA (i := 456) (by decide +kernel) rfl
theorem qw_458 : (.fieldLink RX11 50 "SpokenBite" "now" "LSpokenBite$Evening;" : Cond) ∈ wsA := mA (i := 458) (by decide +kernel) rfl
theorem qw_460 : (.fieldLink RX11 60 "SpokenBite" "notes" "LSpokenBite$Notes;" : Cond) ∈ wsA := mA (i := 460) (by decide +kernel) rfl
theorem qw_461 : (.fieldLink RX11 67 "SpokenBite" "past" "LSpokenBite$Past;" : Cond) ∈ wsA := mA (i := 461) (by decide +kernel) rfl
theorem qw_462 : (.fieldLink RX11 73 "SpokenBite" "images" "[LSpokenBite$Image;" : Cond) ∈ wsA := mA (i := 462) (by decide +kernel) rfl
theorem qw_467 : (.fieldLink RX11 336 "SpokenBite" "x" "I" : Cond) ∈ wsA := mA (i := 467) (by decide +kernel) rfl
theorem qw_511 : (.methodLink RX11 103 yX11_addBytes : Cond) ∈ wsA := mA (i := 511) (by decide +kernel) rfl
theorem qw_513 : (.instanceMethod yX11_addBytes : Cond) ∈ wsA := mA (i := 513) (by decide +kernel) rfl
theorem qw_514 : (.code yX11_addBytes cX11_addBytes 3 none : Cond) ∈ wsA := mA (i := 514) (by decide +kernel) rfl
theorem qw_654 : (.methodLink RX11 118 yX5_clear : Cond) ∈ wsA := mA (i := 654) (by decide +kernel) rfl
theorem qw_655 : (.instanceMethod yX5_clear : Cond) ∈ wsA := mA (i := 655) (by decide +kernel) rfl
theorem qw_656 : (.selects RX5 yX5_clear yX5_clear : Cond) ∈ wsA := mA (i := 656) (by decide +kernel) rfl
theorem qw_657 : (.code yX5_clear cX5_clear 1 none : Cond) ∈ wsA := mA (i := 657) (by decide +kernel) rfl
theorem qw_739 : (.methodLink RX11 141 yX11_isDish : Cond) ∈ wsA := mA (i := 739) (by decide +kernel) rfl
theorem qw_741 : (.instanceMethod yX11_isDish : Cond) ∈ wsA := mA (i := 741) (by decide +kernel) rfl
theorem qw_742 : (.code yX11_isDish cX11_isDish 2 (some .boolean) : Cond) ∈ wsA := mA (i := 742) (by decide +kernel) rfl
theorem qw_743 : (.methodLink RX11 145 yX11_within : Cond) ∈ wsA := mA (i := 743) (by decide +kernel) rfl
theorem qw_744 : (.static yX11_within : Cond) ∈ wsA := mA (i := 744) (by decide +kernel) rfl
theorem qw_745 : (.code yX11_within cX11_within 3 (some .boolean) : Cond) ∈ wsA := mA (i := 745) (by decide +kernel) rfl
theorem qw_746 : (.methodLink RX11 155 yX3_onTable : Cond) ∈ wsA := mA (i := 746) (by decide +kernel) rfl
theorem qw_750 : (.methodLink RX11 158 yX3_placeOf : Cond) ∈ wsA := mA (i := 750) (by decide +kernel) rfl
theorem qw_751 : (.instanceMethod yX3_placeOf : Cond) ∈ wsA := mA (i := 751) (by decide +kernel) rfl
theorem qw_752 : (.selects RX3 yX3_placeOf yX3_placeOf : Cond) ∈ wsA := mA (i := 752) (by decide +kernel) rfl
theorem qw_753 : (.code yX3_placeOf cX3_placeOf 3 (some .int) : Cond) ∈ wsA := mA (i := 753) (by decide +kernel) rfl
theorem qw_762 : (.methodLink RX11 162 yX11_isGuest : Cond) ∈ wsA := mA (i := 762) (by decide +kernel) rfl
theorem qw_764 : (.instanceMethod yX11_isGuest : Cond) ∈ wsA := mA (i := 764) (by decide +kernel) rfl
theorem qw_765 : (.code yX11_isGuest cX11_isGuest 2 (some .boolean) : Cond) ∈ wsA := mA (i := 765) (by decide +kernel) rfl
theorem qw_766 : (.methodLink RX11 168 yX3_knownBy : Cond) ∈ wsA := mA (i := 766) (by decide +kernel) rfl
theorem qw_770 : (.methodLink RX11 171 yX3_sits : Cond) ∈ wsA := mA (i := 770) (by decide +kernel) rfl
theorem qw_778 : (.methodLink RX11 174 yX11_untold : Cond) ∈ wsA := mA (i := 778) (by decide +kernel) rfl
theorem qw_780 : (.instanceMethod yX11_untold : Cond) ∈ wsA := mA (i := 780) (by decide +kernel) rfl
theorem qw_781 : (.code yX11_untold cX11_untold 1 (some .boolean) : Cond) ∈ wsA := mA (i := 781) (by decide +kernel) rfl
theorem qw_782 : (.methodLink RX11 178 yX11_isSecret : Cond) ∈ wsA := mA (i := 782) (by decide +kernel) rfl
theorem qw_783 : (.static yX11_isSecret : Cond) ∈ wsA := mA (i := 783) (by decide +kernel) rfl
theorem qw_784 : (.code yX11_isSecret cX11_isSecret 1 (some .boolean) : Cond) ∈ wsA := mA (i := 784) (by decide +kernel) rfl
theorem qw_789 : (.methodLink RX11 184 yX3_dishIn : Cond) ∈ wsA := mA (i := 789) (by decide +kernel) rfl
theorem qw_1032 : (.methodLink RX11 267 yX3_knownByAny : Cond) ∈ wsA := mA (i := 1032) (by decide +kernel) rfl
theorem qw_1033 : (.methodLink RX11 270 yJ6_bitCount_0f7a4 : Cond) ∈ wsA := mA (i := 1033) (by decide +kernel) rfl
theorem qw_1034 : (.methodLink RX11 275 yX1_isTorn : Cond) ∈ wsA := mA (i := 1034) (by decide +kernel) rfl
theorem qw_1047 : (.methodLink RX11 285 yJ13_bitCount_95d88 : Cond) ∈ wsA := mA (i := 1047) (by decide +kernel) rfl
theorem qw_1072 : (.methodLink RX11 304 yX11_shareOf : Cond) ∈ wsA := mA (i := 1072) (by decide +kernel) rfl
theorem qw_1074 : (.instanceMethod yX11_shareOf : Cond) ∈ wsA := mA (i := 1074) (by decide +kernel) rfl
theorem qw_1075 : (.code yX11_shareOf cX11_shareOf 3 (some .int) : Cond) ∈ wsA := mA (i := 1075) (by decide +kernel) rfl
theorem qw_1084 : (.methodLink RX11 311 yX5_add : Cond) ∈ wsA := mA (i := 1084) (by decide +kernel) rfl
theorem qw_1085 : (.instanceMethod yX5_add : Cond) ∈ wsA := mA (i := 1085) (by decide +kernel) rfl
theorem qw_1086 : (.selects RX5 yX5_add yX5_add : Cond) ∈ wsA := mA (i := 1086) (by decide +kernel) rfl
theorem qw_1087 : (.code yX5_add cX5_add 5 (some .boolean) : Cond) ∈ wsA := mA (i := 1087) (by decide +kernel) rfl
theorem qw_1126 : (.constantLong RX11 349 (1103515245) : Cond) ∈ wsA := mA (i := 1126) (by decide +kernel) rfl
theorem qw_1127 : (.constantLong RX11 351 (12345) : Cond) ∈ wsA := mA (i := 1127) (by decide +kernel) rfl
theorem qw_1128 : (.constantLong RX11 353 (2147483647) : Cond) ∈ wsA := mA (i := 1128) (by decide +kernel) rfl
theorem dX11_addBytes_0 : decode cX11_addBytes 0 = .ok (.bipush 24, 2) := by decide +kernel
theorem dX11_addBytes_2 : decode cX11_addBytes 2 = .ok (.istore_n 2, 1) := by decide +kernel
theorem dX11_addBytes_3 : decode cX11_addBytes 3 = .ok (.iload_n 2, 1) := by decide +kernel
theorem dX11_addBytes_4 : decode cX11_addBytes 4 = .ok (.ifCond .lt 54, 3) := by decide +kernel
theorem dX11_addBytes_7 : decode cX11_addBytes 7 = .ok (.aload_n 0, 1) := by decide +kernel
theorem dX11_addBytes_8 : decode cX11_addBytes 8 = .ok (.getfield 100, 3) := by decide +kernel
theorem dX11_addBytes_11 : decode cX11_addBytes 11 = .ok (.ifCond .lt 41, 3) := by decide +kernel
theorem dX11_addBytes_14 : decode cX11_addBytes 14 = .ok (.aload_n 0, 1) := by decide +kernel
theorem dX11_addBytes_15 : decode cX11_addBytes 15 = .ok (.getfield 100, 3) := by decide +kernel
theorem dX11_addBytes_18 : decode cX11_addBytes 18 = .ok (.aload_n 0, 1) := by decide +kernel
theorem dX11_addBytes_19 : decode cX11_addBytes 19 = .ok (.getfield 9, 3) := by decide +kernel
theorem dX11_addBytes_22 : decode cX11_addBytes 22 = .ok (.arraylength, 1) := by decide +kernel
theorem dX11_addBytes_23 : decode cX11_addBytes 23 = .ok (.if_icmp .ge 29, 3) := by decide +kernel
theorem dX11_addBytes_26 : decode cX11_addBytes 26 = .ok (.aload_n 0, 1) := by decide +kernel
theorem dX11_addBytes_27 : decode cX11_addBytes 27 = .ok (.getfield 9, 3) := by decide +kernel
theorem dX11_addBytes_30 : decode cX11_addBytes 30 = .ok (.aload_n 0, 1) := by decide +kernel
theorem dX11_addBytes_31 : decode cX11_addBytes 31 = .ok (.getfield 100, 3) := by decide +kernel
theorem dX11_addBytes_34 : decode cX11_addBytes 34 = .ok (.iload_n 1, 1) := by decide +kernel
theorem dX11_addBytes_35 : decode cX11_addBytes 35 = .ok (.iload_n 2, 1) := by decide +kernel
theorem dX11_addBytes_36 : decode cX11_addBytes 36 = .ok (.iushr, 1) := by decide +kernel
theorem dX11_addBytes_37 : decode cX11_addBytes 37 = .ok (.sipush 255, 3) := by decide +kernel
theorem dX11_addBytes_40 : decode cX11_addBytes 40 = .ok (.iand, 1) := by decide +kernel
theorem dX11_addBytes_41 : decode cX11_addBytes 41 = .ok (.iastore, 1) := by decide +kernel
theorem dX11_addBytes_42 : decode cX11_addBytes 42 = .ok (.aload_n 0, 1) := by decide +kernel
theorem dX11_addBytes_43 : decode cX11_addBytes 43 = .ok (.dup, 1) := by decide +kernel
theorem dX11_addBytes_44 : decode cX11_addBytes 44 = .ok (.getfield 100, 3) := by decide +kernel
theorem dX11_addBytes_47 : decode cX11_addBytes 47 = .ok (.iconst 1, 1) := by decide +kernel
theorem dX11_addBytes_48 : decode cX11_addBytes 48 = .ok (.iadd, 1) := by decide +kernel
theorem dX11_addBytes_49 : decode cX11_addBytes 49 = .ok (.putfield 100, 3) := by decide +kernel
theorem dX11_addBytes_52 : decode cX11_addBytes 52 = .ok (.iinc 2 (-8), 3) := by decide +kernel
theorem dX11_addBytes_55 : decode cX11_addBytes 55 = .ok (.goto (-52), 3) := by decide +kernel
theorem dX11_addBytes_58 : decode cX11_addBytes 58 = .ok (.return_, 1) := by decide +kernel
theorem dX11_believed_0 : decode cX11_believed 0 = .ok (.aload_n 0, 1) := by decide +kernel
theorem dX11_believed_1 : decode cX11_believed 1 = .ok (.invokevirtual 174, 3) := by decide +kernel
theorem dX11_believed_4 : decode cX11_believed 4 = .ok (.ifCond .ne 12, 3) := by decide +kernel
theorem dX11_believed_7 : decode cX11_believed 7 = .ok (.iload_n 1, 1) := by decide +kernel
theorem dX11_believed_8 : decode cX11_believed 8 = .ok (.iconst 0, 1) := by decide +kernel
theorem dX11_believed_9 : decode cX11_believed 9 = .ok (.iconst 1, 1) := by decide +kernel
theorem dX11_believed_10 : decode cX11_believed 10 = .ok (.invokestatic 145, 3) := by decide +kernel
theorem dX11_believed_13 : decode cX11_believed 13 = .ok (.ifCond .ne 5, 3) := by decide +kernel
theorem dX11_believed_16 : decode cX11_believed 16 = .ok (.iconst (-1), 1) := by decide +kernel
theorem dX11_believed_17 : decode cX11_believed 17 = .ok (.ireturn, 1) := by decide +kernel
theorem dX11_believed_18 : decode cX11_believed 18 = .ok (.aload_n 0, 1) := by decide +kernel
theorem dX11_believed_19 : decode cX11_believed 19 = .ok (.getfield 50, 3) := by decide +kernel
theorem dX11_believed_22 : decode cX11_believed 22 = .ok (.iconst (-1), 1) := by decide +kernel
theorem dX11_believed_23 : decode cX11_believed 23 = .ok (.invokevirtual 267, 3) := by decide +kernel
theorem dX11_believed_26 : decode cX11_believed 26 = .ok (.istore_n 2, 1) := by decide +kernel
theorem dX11_believed_27 : decode cX11_believed 27 = .ok (.iconst 0, 1) := by decide +kernel
theorem dX11_believed_28 : decode cX11_believed 28 = .ok (.istore_n 3, 1) := by decide +kernel
theorem dX11_believed_29 : decode cX11_believed 29 = .ok (.iconst 0, 1) := by decide +kernel
theorem dX11_believed_30 : decode cX11_believed 30 = .ok (.istore 4, 2) := by decide +kernel
theorem dX11_believed_32 : decode cX11_believed 32 = .ok (.iload 4, 2) := by decide +kernel
theorem dX11_believed_34 : decode cX11_believed 34 = .ok (.sipush 256, 3) := by decide +kernel
theorem dX11_believed_37 : decode cX11_believed 37 = .ok (.if_icmp .ge 57, 3) := by decide +kernel
theorem dX11_believed_40 : decode cX11_believed 40 = .ok (.iload 4, 2) := by decide +kernel
theorem dX11_believed_42 : decode cX11_believed 42 = .ok (.invokestatic 270, 3) := by decide +kernel
theorem dX11_believed_45 : decode cX11_believed 45 = .ok (.iload_n 3, 1) := by decide +kernel
theorem dX11_believed_46 : decode cX11_believed 46 = .ok (.invokestatic 270, 3) := by decide +kernel
theorem dX11_believed_49 : decode cX11_believed 49 = .ok (.if_icmp .le 7, 3) := by decide +kernel
theorem dX11_believed_52 : decode cX11_believed 52 = .ok (.iconst 1, 1) := by decide +kernel
theorem dX11_believed_53 : decode cX11_believed 53 = .ok (.goto 4, 3) := by decide +kernel
theorem dX11_believed_56 : decode cX11_believed 56 = .ok (.iconst 0, 1) := by decide +kernel
theorem dX11_believed_57 : decode cX11_believed 57 = .ok (.istore 5, 2) := by decide +kernel
theorem dX11_believed_59 : decode cX11_believed 59 = .ok (.iload 5, 2) := by decide +kernel
theorem dX11_believed_61 : decode cX11_believed 61 = .ok (.ifCond .eq 27, 3) := by decide +kernel
theorem dX11_believed_64 : decode cX11_believed 64 = .ok (.iload 4, 2) := by decide +kernel
theorem dX11_believed_66 : decode cX11_believed 66 = .ok (.iload_n 2, 1) := by decide +kernel
theorem dX11_believed_67 : decode cX11_believed 67 = .ok (.iconst (-1), 1) := by decide +kernel
theorem dX11_believed_68 : decode cX11_believed 68 = .ok (.ixor, 1) := by decide +kernel
theorem dX11_believed_69 : decode cX11_believed 69 = .ok (.iand, 1) := by decide +kernel
theorem dX11_believed_70 : decode cX11_believed 70 = .ok (.ifCond .ne 18, 3) := by decide +kernel
theorem dX11_believed_73 : decode cX11_believed 73 = .ok (.aload_n 0, 1) := by decide +kernel
theorem dX11_believed_74 : decode cX11_believed 74 = .ok (.getfield 40, 3) := by decide +kernel
theorem dX11_believed_77 : decode cX11_believed 77 = .ok (.iload 4, 2) := by decide +kernel
theorem dX11_believed_79 : decode cX11_believed 79 = .ok (.invokevirtual 275, 3) := by decide +kernel
theorem dX11_believed_82 : decode cX11_believed 82 = .ok (.ifCond .ne 6, 3) := by decide +kernel
theorem dX11_believed_85 : decode cX11_believed 85 = .ok (.iload 4, 2) := by decide +kernel
theorem dX11_believed_87 : decode cX11_believed 87 = .ok (.istore_n 3, 1) := by decide +kernel
theorem dX11_believed_88 : decode cX11_believed 88 = .ok (.iinc 4 1, 3) := by decide +kernel
theorem dX11_believed_91 : decode cX11_believed 91 = .ok (.goto (-59), 3) := by decide +kernel
theorem dX11_believed_94 : decode cX11_believed 94 = .ok (.iload_n 1, 1) := by decide +kernel
theorem dX11_believed_95 : decode cX11_believed 95 = .ok (.ifCond .ne 7, 3) := by decide +kernel
theorem dX11_believed_98 : decode cX11_believed 98 = .ok (.iload_n 3, 1) := by decide +kernel
theorem dX11_believed_99 : decode cX11_believed 99 = .ok (.goto 7, 3) := by decide +kernel
theorem dX11_believed_102 : decode cX11_believed 102 = .ok (.iload_n 3, 1) := by decide +kernel
theorem dX11_believed_103 : decode cX11_believed 103 = .ok (.invokestatic 270, 3) := by decide +kernel
theorem dX11_believed_106 : decode cX11_believed 106 = .ok (.ireturn, 1) := by decide +kernel
theorem dX11_clashes_0 : decode cX11_clashes 0 = .ok (.aload_n 0, 1) := by decide +kernel
theorem dX11_clashes_1 : decode cX11_clashes 1 = .ok (.invokevirtual 174, 3) := by decide +kernel
theorem dX11_clashes_4 : decode cX11_clashes 4 = .ok (.ifCond .ne 10, 3) := by decide +kernel
theorem dX11_clashes_7 : decode cX11_clashes 7 = .ok (.iload_n 1, 1) := by decide +kernel
theorem dX11_clashes_8 : decode cX11_clashes 8 = .ok (.invokestatic 178, 3) := by decide +kernel
theorem dX11_clashes_11 : decode cX11_clashes 11 = .ok (.ifCond .ne 5, 3) := by decide +kernel
theorem dX11_clashes_14 : decode cX11_clashes 14 = .ok (.iconst (-1), 1) := by decide +kernel
theorem dX11_clashes_15 : decode cX11_clashes 15 = .ok (.ireturn, 1) := by decide +kernel
theorem dX11_clashes_16 : decode cX11_clashes 16 = .ok (.aload_n 0, 1) := by decide +kernel
theorem dX11_clashes_17 : decode cX11_clashes 17 = .ok (.getfield 40, 3) := by decide +kernel
theorem dX11_clashes_20 : decode cX11_clashes 20 = .ok (.getfield 181, 3) := by decide +kernel
theorem dX11_clashes_23 : decode cX11_clashes 23 = .ok (.iload_n 1, 1) := by decide +kernel
theorem dX11_clashes_24 : decode cX11_clashes 24 = .ok (.bipush 7, 2) := by decide +kernel
theorem dX11_clashes_26 : decode cX11_clashes 26 = .ok (.iand, 1) := by decide +kernel
theorem dX11_clashes_27 : decode cX11_clashes 27 = .ok (.iaload, 1) := by decide +kernel
theorem dX11_clashes_28 : decode cX11_clashes 28 = .ok (.ireturn, 1) := by decide +kernel
theorem dX11_count_0 : decode cX11_count 0 = .ok (.iload_n 1, 1) := by decide +kernel
theorem dX11_count_1 : decode cX11_count 1 = .ok (.tableswitch 174 0 13 #[71, 79, 87, 95, 100, 105, 113, 121, 129, 140, 148, 156, 164, 169], 71) := by decide +kernel
theorem dX11_count_72 : decode cX11_count 72 = .ok (.aload_n 0, 1) := by decide +kernel
theorem dX11_count_73 : decode cX11_count 73 = .ok (.getfield 40, 3) := by decide +kernel
theorem dX11_count_76 : decode cX11_count 76 = .ok (.getfield 135, 3) := by decide +kernel
theorem dX11_count_79 : decode cX11_count 79 = .ok (.ireturn, 1) := by decide +kernel
theorem dX11_count_80 : decode cX11_count 80 = .ok (.aload_n 0, 1) := by decide +kernel
theorem dX11_count_81 : decode cX11_count 81 = .ok (.getfield 40, 3) := by decide +kernel
theorem dX11_count_84 : decode cX11_count 84 = .ok (.getfield 122, 3) := by decide +kernel
theorem dX11_count_87 : decode cX11_count 87 = .ok (.ireturn, 1) := by decide +kernel
theorem dX11_count_88 : decode cX11_count 88 = .ok (.aload_n 0, 1) := by decide +kernel
theorem dX11_count_89 : decode cX11_count 89 = .ok (.getfield 40, 3) := by decide +kernel
theorem dX11_count_92 : decode cX11_count 92 = .ok (.getfield 138, 3) := by decide +kernel
theorem dX11_count_95 : decode cX11_count 95 = .ok (.ireturn, 1) := by decide +kernel
theorem dX11_count_96 : decode cX11_count 96 = .ok (.aload_n 0, 1) := by decide +kernel
theorem dX11_count_97 : decode cX11_count 97 = .ok (.getfield 125, 3) := by decide +kernel
theorem dX11_count_100 : decode cX11_count 100 = .ok (.ireturn, 1) := by decide +kernel
theorem dX11_count_101 : decode cX11_count 101 = .ok (.aload_n 0, 1) := by decide +kernel
theorem dX11_count_102 : decode cX11_count 102 = .ok (.getfield 33, 3) := by decide +kernel
theorem dX11_count_105 : decode cX11_count 105 = .ok (.ireturn, 1) := by decide +kernel
theorem dX11_count_106 : decode cX11_count 106 = .ok (.aload_n 0, 1) := by decide +kernel
theorem dX11_count_107 : decode cX11_count 107 = .ok (.getfield 50, 3) := by decide +kernel
theorem dX11_count_110 : decode cX11_count 110 = .ok (.getfield 187, 3) := by decide +kernel
theorem dX11_count_113 : decode cX11_count 113 = .ok (.ireturn, 1) := by decide +kernel
theorem dX11_count_114 : decode cX11_count 114 = .ok (.aload_n 0, 1) := by decide +kernel
theorem dX11_count_115 : decode cX11_count 115 = .ok (.getfield 50, 3) := by decide +kernel
theorem dX11_count_118 : decode cX11_count 118 = .ok (.getfield 206, 3) := by decide +kernel
theorem dX11_count_121 : decode cX11_count 121 = .ok (.ireturn, 1) := by decide +kernel
theorem dX11_count_122 : decode cX11_count 122 = .ok (.aload_n 0, 1) := by decide +kernel
theorem dX11_count_123 : decode cX11_count 123 = .ok (.getfield 50, 3) := by decide +kernel
theorem dX11_count_126 : decode cX11_count 126 = .ok (.getfield 212, 3) := by decide +kernel
theorem dX11_count_129 : decode cX11_count 129 = .ok (.ireturn, 1) := by decide +kernel
theorem dX11_count_130 : decode cX11_count 130 = .ok (.aload_n 0, 1) := by decide +kernel
theorem dX11_count_131 : decode cX11_count 131 = .ok (.getfield 50, 3) := by decide +kernel
theorem dX11_count_134 : decode cX11_count 134 = .ok (.getfield 281, 3) := by decide +kernel
theorem dX11_count_137 : decode cX11_count 137 = .ok (.invokestatic 285, 3) := by decide +kernel
theorem dX11_count_140 : decode cX11_count 140 = .ok (.ireturn, 1) := by decide +kernel
theorem dX11_count_141 : decode cX11_count 141 = .ok (.aload_n 0, 1) := by decide +kernel
theorem dX11_count_142 : decode cX11_count 142 = .ok (.getfield 50, 3) := by decide +kernel
theorem dX11_count_145 : decode cX11_count 145 = .ok (.getfield 203, 3) := by decide +kernel
theorem dX11_count_148 : decode cX11_count 148 = .ok (.ireturn, 1) := by decide +kernel
theorem dX11_count_149 : decode cX11_count 149 = .ok (.aload_n 0, 1) := by decide +kernel
theorem dX11_count_150 : decode cX11_count 150 = .ok (.getfield 60, 3) := by decide +kernel
theorem dX11_count_153 : decode cX11_count 153 = .ok (.getfield 315, 3) := by decide +kernel
theorem dX11_count_156 : decode cX11_count 156 = .ok (.ireturn, 1) := by decide +kernel
theorem dX11_count_157 : decode cX11_count 157 = .ok (.aload_n 0, 1) := by decide +kernel
theorem dX11_count_158 : decode cX11_count 158 = .ok (.getfield 67, 3) := by decide +kernel
theorem dX11_count_161 : decode cX11_count 161 = .ok (.getfield 223, 3) := by decide +kernel
theorem dX11_count_164 : decode cX11_count 164 = .ok (.ireturn, 1) := by decide +kernel
theorem dX11_count_165 : decode cX11_count 165 = .ok (.aload_n 0, 1) := by decide +kernel
theorem dX11_count_166 : decode cX11_count 166 = .ok (.getfield 336, 3) := by decide +kernel
theorem dX11_count_169 : decode cX11_count 169 = .ok (.ireturn, 1) := by decide +kernel
theorem dX11_count_170 : decode cX11_count 170 = .ok (.aload_n 0, 1) := by decide +kernel
theorem dX11_count_171 : decode cX11_count 171 = .ok (.getfield 100, 3) := by decide +kernel
theorem dX11_count_174 : decode cX11_count 174 = .ok (.ireturn, 1) := by decide +kernel
theorem dX11_count_175 : decode cX11_count 175 = .ok (.iconst (-1), 1) := by decide +kernel
theorem dX11_count_176 : decode cX11_count 176 = .ok (.ireturn, 1) := by decide +kernel
theorem dX11_crumbs_0 : decode cX11_crumbs 0 = .ok (.aload_n 0, 1) := by decide +kernel
theorem dX11_crumbs_1 : decode cX11_crumbs 1 = .ok (.iload_n 2, 1) := by decide +kernel
theorem dX11_crumbs_2 : decode cX11_crumbs 2 = .ok (.invokevirtual 162, 3) := by decide +kernel
theorem dX11_crumbs_5 : decode cX11_crumbs 5 = .ok (.ifCond .eq 14, 3) := by decide +kernel
theorem dX11_crumbs_8 : decode cX11_crumbs 8 = .ok (.iload_n 1, 1) := by decide +kernel
theorem dX11_crumbs_9 : decode cX11_crumbs 9 = .ok (.iconst 0, 1) := by decide +kernel
theorem dX11_crumbs_10 : decode cX11_crumbs 10 = .ok (.sipush 9999, 3) := by decide +kernel
theorem dX11_crumbs_13 : decode cX11_crumbs 13 = .ok (.invokestatic 145, 3) := by decide +kernel
theorem dX11_crumbs_16 : decode cX11_crumbs 16 = .ok (.ifCond .ne 5, 3) := by decide +kernel
theorem dX11_crumbs_19 : decode cX11_crumbs 19 = .ok (.iconst (-1), 1) := by decide +kernel
theorem dX11_crumbs_20 : decode cX11_crumbs 20 = .ok (.ireturn, 1) := by decide +kernel
theorem dX11_crumbs_21 : decode cX11_crumbs 21 = .ok (.aload_n 0, 1) := by decide +kernel
theorem dX11_crumbs_22 : decode cX11_crumbs 22 = .ok (.getfield 50, 3) := by decide +kernel
theorem dX11_crumbs_25 : decode cX11_crumbs 25 = .ok (.getfield 281, 3) := by decide +kernel
theorem dX11_crumbs_28 : decode cX11_crumbs 28 = .ok (.invokestatic 285, 3) := by decide +kernel
theorem dX11_crumbs_31 : decode cX11_crumbs 31 = .ok (.istore_n 3, 1) := by decide +kernel
theorem dX11_crumbs_32 : decode cX11_crumbs 32 = .ok (.iload_n 3, 1) := by decide +kernel
theorem dX11_crumbs_33 : decode cX11_crumbs 33 = .ok (.ifCond .ne 5, 3) := by decide +kernel
theorem dX11_crumbs_36 : decode cX11_crumbs 36 = .ok (.iconst 0, 1) := by decide +kernel
theorem dX11_crumbs_37 : decode cX11_crumbs 37 = .ok (.ireturn, 1) := by decide +kernel
theorem dX11_crumbs_38 : decode cX11_crumbs 38 = .ok (.iload_n 1, 1) := by decide +kernel
theorem dX11_crumbs_39 : decode cX11_crumbs 39 = .ok (.istore 4, 2) := by decide +kernel
theorem dX11_crumbs_41 : decode cX11_crumbs 41 = .ok (.iconst 0, 1) := by decide +kernel
theorem dX11_crumbs_42 : decode cX11_crumbs 42 = .ok (.istore 5, 2) := by decide +kernel
theorem dX11_crumbs_44 : decode cX11_crumbs 44 = .ok (.aload_n 0, 1) := by decide +kernel
theorem dX11_crumbs_45 : decode cX11_crumbs 45 = .ok (.iload_n 1, 1) := by decide +kernel
theorem dX11_crumbs_46 : decode cX11_crumbs 46 = .ok (.iload_n 2, 1) := by decide +kernel
theorem dX11_crumbs_47 : decode cX11_crumbs 47 = .ok (.invokevirtual 304, 3) := by decide +kernel
theorem dX11_crumbs_50 : decode cX11_crumbs 50 = .ok (.iload_n 3, 1) := by decide +kernel
theorem dX11_crumbs_51 : decode cX11_crumbs 51 = .ok (.irem, 1) := by decide +kernel
theorem dX11_crumbs_52 : decode cX11_crumbs 52 = .ok (.istore 6, 2) := by decide +kernel
theorem dX11_crumbs_54 : decode cX11_crumbs 54 = .ok (.iconst 0, 1) := by decide +kernel
theorem dX11_crumbs_55 : decode cX11_crumbs 55 = .ok (.istore 7, 2) := by decide +kernel
theorem dX11_crumbs_57 : decode cX11_crumbs 57 = .ok (.iload 7, 2) := by decide +kernel
theorem dX11_crumbs_59 : decode cX11_crumbs 59 = .ok (.aload_n 0, 1) := by decide +kernel
theorem dX11_crumbs_60 : decode cX11_crumbs 60 = .ok (.getfield 40, 3) := by decide +kernel
theorem dX11_crumbs_63 : decode cX11_crumbs 63 = .ok (.getfield 138, 3) := by decide +kernel
theorem dX11_crumbs_66 : decode cX11_crumbs 66 = .ok (.if_icmp .ge 54, 3) := by decide +kernel
theorem dX11_crumbs_69 : decode cX11_crumbs 69 = .ok (.aload_n 0, 1) := by decide +kernel
theorem dX11_crumbs_70 : decode cX11_crumbs 70 = .ok (.iload_n 1, 1) := by decide +kernel
theorem dX11_crumbs_71 : decode cX11_crumbs 71 = .ok (.iload 7, 2) := by decide +kernel
theorem dX11_crumbs_73 : decode cX11_crumbs 73 = .ok (.invokevirtual 304, 3) := by decide +kernel
theorem dX11_crumbs_76 : decode cX11_crumbs 76 = .ok (.istore 8, 2) := by decide +kernel
theorem dX11_crumbs_78 : decode cX11_crumbs 78 = .ok (.iload 4, 2) := by decide +kernel
theorem dX11_crumbs_80 : decode cX11_crumbs 80 = .ok (.iload 8, 2) := by decide +kernel
theorem dX11_crumbs_82 : decode cX11_crumbs 82 = .ok (.iload_n 3, 1) := by decide +kernel
theorem dX11_crumbs_83 : decode cX11_crumbs 83 = .ok (.idiv, 1) := by decide +kernel
theorem dX11_crumbs_84 : decode cX11_crumbs 84 = .ok (.isub, 1) := by decide +kernel
theorem dX11_crumbs_85 : decode cX11_crumbs 85 = .ok (.istore 4, 2) := by decide +kernel
theorem dX11_crumbs_87 : decode cX11_crumbs 87 = .ok (.iload 8, 2) := by decide +kernel
theorem dX11_crumbs_89 : decode cX11_crumbs 89 = .ok (.iload_n 3, 1) := by decide +kernel
theorem dX11_crumbs_90 : decode cX11_crumbs 90 = .ok (.irem, 1) := by decide +kernel
theorem dX11_crumbs_91 : decode cX11_crumbs 91 = .ok (.iload 6, 2) := by decide +kernel
theorem dX11_crumbs_93 : decode cX11_crumbs 93 = .ok (.if_icmp .gt 18, 3) := by decide +kernel
theorem dX11_crumbs_96 : decode cX11_crumbs 96 = .ok (.iload 8, 2) := by decide +kernel
theorem dX11_crumbs_98 : decode cX11_crumbs 98 = .ok (.iload_n 3, 1) := by decide +kernel
theorem dX11_crumbs_99 : decode cX11_crumbs 99 = .ok (.irem, 1) := by decide +kernel
theorem dX11_crumbs_100 : decode cX11_crumbs 100 = .ok (.iload 6, 2) := by decide +kernel
theorem dX11_crumbs_102 : decode cX11_crumbs 102 = .ok (.if_icmp .ne 12, 3) := by decide +kernel
theorem dX11_crumbs_105 : decode cX11_crumbs 105 = .ok (.iload 7, 2) := by decide +kernel
theorem dX11_crumbs_107 : decode cX11_crumbs 107 = .ok (.iload_n 2, 1) := by decide +kernel
theorem dX11_crumbs_108 : decode cX11_crumbs 108 = .ok (.if_icmp .ge 6, 3) := by decide +kernel
theorem dX11_crumbs_111 : decode cX11_crumbs 111 = .ok (.iinc 5 1, 3) := by decide +kernel
theorem dX11_crumbs_114 : decode cX11_crumbs 114 = .ok (.iinc 7 1, 3) := by decide +kernel
theorem dX11_crumbs_117 : decode cX11_crumbs 117 = .ok (.goto (-60), 3) := by decide +kernel
theorem dX11_crumbs_120 : decode cX11_crumbs 120 = .ok (.aload_n 0, 1) := by decide +kernel
theorem dX11_crumbs_121 : decode cX11_crumbs 121 = .ok (.iload_n 1, 1) := by decide +kernel
theorem dX11_crumbs_122 : decode cX11_crumbs 122 = .ok (.iload_n 2, 1) := by decide +kernel
theorem dX11_crumbs_123 : decode cX11_crumbs 123 = .ok (.invokevirtual 304, 3) := by decide +kernel
theorem dX11_crumbs_126 : decode cX11_crumbs 126 = .ok (.iload_n 3, 1) := by decide +kernel
theorem dX11_crumbs_127 : decode cX11_crumbs 127 = .ok (.idiv, 1) := by decide +kernel
theorem dX11_crumbs_128 : decode cX11_crumbs 128 = .ok (.iload 5, 2) := by decide +kernel
theorem dX11_crumbs_130 : decode cX11_crumbs 130 = .ok (.iload 4, 2) := by decide +kernel
theorem dX11_crumbs_132 : decode cX11_crumbs 132 = .ok (.if_icmp .ge 7, 3) := by decide +kernel
theorem dX11_crumbs_135 : decode cX11_crumbs 135 = .ok (.iconst 1, 1) := by decide +kernel
theorem dX11_crumbs_136 : decode cX11_crumbs 136 = .ok (.goto 4, 3) := by decide +kernel
theorem dX11_crumbs_139 : decode cX11_crumbs 139 = .ok (.iconst 0, 1) := by decide +kernel
theorem dX11_crumbs_140 : decode cX11_crumbs 140 = .ok (.iadd, 1) := by decide +kernel
theorem dX11_crumbs_141 : decode cX11_crumbs 141 = .ok (.ireturn, 1) := by decide +kernel
theorem dX11_dish_0 : decode cX11_dish 0 = .ok (.aload_n 0, 1) := by decide +kernel
theorem dX11_dish_1 : decode cX11_dish 1 = .ok (.iload_n 1, 1) := by decide +kernel
theorem dX11_dish_2 : decode cX11_dish 2 = .ok (.invokevirtual 141, 3) := by decide +kernel
theorem dX11_dish_5 : decode cX11_dish 5 = .ok (.ifCond .eq 12, 3) := by decide +kernel
theorem dX11_dish_8 : decode cX11_dish 8 = .ok (.iload_n 2, 1) := by decide +kernel
theorem dX11_dish_9 : decode cX11_dish 9 = .ok (.iconst 0, 1) := by decide +kernel
theorem dX11_dish_10 : decode cX11_dish 10 = .ok (.iconst 2, 1) := by decide +kernel
theorem dX11_dish_11 : decode cX11_dish 11 = .ok (.invokestatic 145, 3) := by decide +kernel
theorem dX11_dish_14 : decode cX11_dish 14 = .ok (.ifCond .ne 6, 3) := by decide +kernel
theorem dX11_dish_17 : decode cX11_dish 17 = .ok (.bipush (-3), 2) := by decide +kernel
theorem dX11_dish_19 : decode cX11_dish 19 = .ok (.ireturn, 1) := by decide +kernel
theorem dX11_dish_20 : decode cX11_dish 20 = .ok (.iload_n 2, 1) := by decide +kernel
theorem dX11_dish_21 : decode cX11_dish 21 = .ok (.ifCond .ne 16, 3) := by decide +kernel
theorem dX11_dish_24 : decode cX11_dish 24 = .ok (.aload_n 0, 1) := by decide +kernel
theorem dX11_dish_25 : decode cX11_dish 25 = .ok (.getfield 40, 3) := by decide +kernel
theorem dX11_dish_28 : decode cX11_dish 28 = .ok (.getfield 149, 3) := by decide +kernel
theorem dX11_dish_31 : decode cX11_dish 31 = .ok (.iload_n 1, 1) := by decide +kernel
theorem dX11_dish_32 : decode cX11_dish 32 = .ok (.bipush 7, 2) := by decide +kernel
theorem dX11_dish_34 : decode cX11_dish 34 = .ok (.iand, 1) := by decide +kernel
theorem dX11_dish_35 : decode cX11_dish 35 = .ok (.iaload, 1) := by decide +kernel
theorem dX11_dish_36 : decode cX11_dish 36 = .ok (.ireturn, 1) := by decide +kernel
theorem dX11_dish_37 : decode cX11_dish 37 = .ok (.iload_n 2, 1) := by decide +kernel
theorem dX11_dish_38 : decode cX11_dish 38 = .ok (.iconst 1, 1) := by decide +kernel
theorem dX11_dish_39 : decode cX11_dish 39 = .ok (.if_icmp .ne 16, 3) := by decide +kernel
theorem dX11_dish_42 : decode cX11_dish 42 = .ok (.aload_n 0, 1) := by decide +kernel
theorem dX11_dish_43 : decode cX11_dish 43 = .ok (.getfield 40, 3) := by decide +kernel
theorem dX11_dish_46 : decode cX11_dish 46 = .ok (.getfield 152, 3) := by decide +kernel
theorem dX11_dish_49 : decode cX11_dish 49 = .ok (.iload_n 1, 1) := by decide +kernel
theorem dX11_dish_50 : decode cX11_dish 50 = .ok (.bipush 7, 2) := by decide +kernel
theorem dX11_dish_52 : decode cX11_dish 52 = .ok (.iand, 1) := by decide +kernel
theorem dX11_dish_53 : decode cX11_dish 53 = .ok (.iaload, 1) := by decide +kernel
theorem dX11_dish_54 : decode cX11_dish 54 = .ok (.ireturn, 1) := by decide +kernel
theorem dX11_dish_55 : decode cX11_dish 55 = .ok (.aload_n 0, 1) := by decide +kernel
theorem dX11_dish_56 : decode cX11_dish 56 = .ok (.getfield 50, 3) := by decide +kernel
theorem dX11_dish_59 : decode cX11_dish 59 = .ok (.iload_n 1, 1) := by decide +kernel
theorem dX11_dish_60 : decode cX11_dish 60 = .ok (.invokevirtual 155, 3) := by decide +kernel
theorem dX11_dish_63 : decode cX11_dish 63 = .ok (.ifCond .eq 7, 3) := by decide +kernel
theorem dX11_dish_66 : decode cX11_dish 66 = .ok (.iconst (-1), 1) := by decide +kernel
theorem dX11_dish_67 : decode cX11_dish 67 = .ok (.goto 11, 3) := by decide +kernel
theorem dX11_dish_70 : decode cX11_dish 70 = .ok (.aload_n 0, 1) := by decide +kernel
theorem dX11_dish_71 : decode cX11_dish 71 = .ok (.getfield 50, 3) := by decide +kernel
theorem dX11_dish_74 : decode cX11_dish 74 = .ok (.iload_n 1, 1) := by decide +kernel
theorem dX11_dish_75 : decode cX11_dish 75 = .ok (.invokevirtual 158, 3) := by decide +kernel
theorem dX11_dish_78 : decode cX11_dish 78 = .ok (.ireturn, 1) := by decide +kernel
theorem dX11_dropped_0 : decode cX11_dropped 0 = .ok (.aload_n 0, 1) := by decide +kernel
theorem dX11_dropped_1 : decode cX11_dropped 1 = .ok (.invokevirtual 174, 3) := by decide +kernel
theorem dX11_dropped_4 : decode cX11_dropped 4 = .ok (.ifCond .ne 12, 3) := by decide +kernel
theorem dX11_dropped_7 : decode cX11_dropped 7 = .ok (.iload_n 1, 1) := by decide +kernel
theorem dX11_dropped_8 : decode cX11_dropped 8 = .ok (.iconst 0, 1) := by decide +kernel
theorem dX11_dropped_9 : decode cX11_dropped 9 = .ok (.iconst 1, 1) := by decide +kernel
theorem dX11_dropped_10 : decode cX11_dropped 10 = .ok (.invokestatic 145, 3) := by decide +kernel
theorem dX11_dropped_13 : decode cX11_dropped 13 = .ok (.ifCond .ne 5, 3) := by decide +kernel
theorem dX11_dropped_16 : decode cX11_dropped 16 = .ok (.iconst (-1), 1) := by decide +kernel
theorem dX11_dropped_17 : decode cX11_dropped 17 = .ok (.ireturn, 1) := by decide +kernel
theorem dX11_dropped_18 : decode cX11_dropped 18 = .ok (.sipush 255, 3) := by decide +kernel
theorem dX11_dropped_21 : decode cX11_dropped 21 = .ok (.istore_n 2, 1) := by decide +kernel
theorem dX11_dropped_22 : decode cX11_dropped 22 = .ok (.iload_n 2, 1) := by decide +kernel
theorem dX11_dropped_23 : decode cX11_dropped 23 = .ok (.istore_n 3, 1) := by decide +kernel
theorem dX11_dropped_24 : decode cX11_dropped 24 = .ok (.iconst 0, 1) := by decide +kernel
theorem dX11_dropped_25 : decode cX11_dropped 25 = .ok (.istore 4, 2) := by decide +kernel
theorem dX11_dropped_27 : decode cX11_dropped 27 = .ok (.iload 4, 2) := by decide +kernel
theorem dX11_dropped_29 : decode cX11_dropped 29 = .ok (.iload_n 2, 1) := by decide +kernel
theorem dX11_dropped_30 : decode cX11_dropped 30 = .ok (.if_icmp .ge 52, 3) := by decide +kernel
theorem dX11_dropped_33 : decode cX11_dropped 33 = .ok (.iload 4, 2) := by decide +kernel
theorem dX11_dropped_35 : decode cX11_dropped 35 = .ok (.invokestatic 270, 3) := by decide +kernel
theorem dX11_dropped_38 : decode cX11_dropped 38 = .ok (.iload_n 3, 1) := by decide +kernel
theorem dX11_dropped_39 : decode cX11_dropped 39 = .ok (.invokestatic 270, 3) := by decide +kernel
theorem dX11_dropped_42 : decode cX11_dropped 42 = .ok (.if_icmp .ge 7, 3) := by decide +kernel
theorem dX11_dropped_45 : decode cX11_dropped 45 = .ok (.iconst 1, 1) := by decide +kernel
theorem dX11_dropped_46 : decode cX11_dropped 46 = .ok (.goto 4, 3) := by decide +kernel
theorem dX11_dropped_49 : decode cX11_dropped 49 = .ok (.iconst 0, 1) := by decide +kernel
theorem dX11_dropped_50 : decode cX11_dropped 50 = .ok (.istore 5, 2) := by decide +kernel
theorem dX11_dropped_52 : decode cX11_dropped 52 = .ok (.iload 5, 2) := by decide +kernel
theorem dX11_dropped_54 : decode cX11_dropped 54 = .ok (.ifCond .eq 22, 3) := by decide +kernel
theorem dX11_dropped_57 : decode cX11_dropped 57 = .ok (.aload_n 0, 1) := by decide +kernel
theorem dX11_dropped_58 : decode cX11_dropped 58 = .ok (.getfield 40, 3) := by decide +kernel
theorem dX11_dropped_61 : decode cX11_dropped 61 = .ok (.iload_n 2, 1) := by decide +kernel
theorem dX11_dropped_62 : decode cX11_dropped 62 = .ok (.iload 4, 2) := by decide +kernel
theorem dX11_dropped_64 : decode cX11_dropped 64 = .ok (.iconst (-1), 1) := by decide +kernel
theorem dX11_dropped_65 : decode cX11_dropped 65 = .ok (.ixor, 1) := by decide +kernel
theorem dX11_dropped_66 : decode cX11_dropped 66 = .ok (.iand, 1) := by decide +kernel
theorem dX11_dropped_67 : decode cX11_dropped 67 = .ok (.invokevirtual 275, 3) := by decide +kernel
theorem dX11_dropped_70 : decode cX11_dropped 70 = .ok (.ifCond .ne 6, 3) := by decide +kernel
theorem dX11_dropped_73 : decode cX11_dropped 73 = .ok (.iload 4, 2) := by decide +kernel
theorem dX11_dropped_75 : decode cX11_dropped 75 = .ok (.istore_n 3, 1) := by decide +kernel
theorem dX11_dropped_76 : decode cX11_dropped 76 = .ok (.iinc 4 1, 3) := by decide +kernel
theorem dX11_dropped_79 : decode cX11_dropped 79 = .ok (.goto (-52), 3) := by decide +kernel
theorem dX11_dropped_82 : decode cX11_dropped 82 = .ok (.iload_n 1, 1) := by decide +kernel
theorem dX11_dropped_83 : decode cX11_dropped 83 = .ok (.ifCond .ne 7, 3) := by decide +kernel
theorem dX11_dropped_86 : decode cX11_dropped 86 = .ok (.iload_n 3, 1) := by decide +kernel
theorem dX11_dropped_87 : decode cX11_dropped 87 = .ok (.goto 7, 3) := by decide +kernel
theorem dX11_dropped_90 : decode cX11_dropped 90 = .ok (.iload_n 3, 1) := by decide +kernel
theorem dX11_dropped_91 : decode cX11_dropped 91 = .ok (.invokestatic 270, 3) := by decide +kernel
theorem dX11_dropped_94 : decode cX11_dropped 94 = .ok (.ireturn, 1) := by decide +kernel
theorem dX11_end_0 : decode cX11_end 0 = .ok (.iload_n 1, 1) := by decide +kernel
theorem dX11_end_1 : decode cX11_end 1 = .ok (.ifCond .lt 11, 3) := by decide +kernel
theorem dX11_end_4 : decode cX11_end 4 = .ok (.iload_n 1, 1) := by decide +kernel
theorem dX11_end_5 : decode cX11_end 5 = .ok (.aload_n 0, 1) := by decide +kernel
theorem dX11_end_6 : decode cX11_end 6 = .ok (.getfield 100, 3) := by decide +kernel
theorem dX11_end_9 : decode cX11_end 9 = .ok (.if_icmp .le 5, 3) := by decide +kernel
theorem dX11_end_12 : decode cX11_end 12 = .ok (.iconst (-1), 1) := by decide +kernel
theorem dX11_end_13 : decode cX11_end 13 = .ok (.ireturn, 1) := by decide +kernel
theorem dX11_end_14 : decode cX11_end 14 = .ok (.aload_n 0, 1) := by decide +kernel
theorem dX11_end_15 : decode cX11_end 15 = .ok (.iload_n 1, 1) := by decide +kernel
theorem dX11_end_16 : decode cX11_end 16 = .ok (.putfield 100, 3) := by decide +kernel
theorem dX11_end_19 : decode cX11_end 19 = .ok (.iload_n 1, 1) := by decide +kernel
theorem dX11_end_20 : decode cX11_end 20 = .ok (.ireturn, 1) := by decide +kernel
theorem dX11_feed_0 : decode cX11_feed 0 = .ok (.aload_n 0, 1) := by decide +kernel
theorem dX11_feed_1 : decode cX11_feed 1 = .ok (.getfield 100, 3) := by decide +kernel
theorem dX11_feed_4 : decode cX11_feed 4 = .ok (.sipush 380, 3) := by decide +kernel
theorem dX11_feed_7 : decode cX11_feed 7 = .ok (.if_icmp .le 5, 3) := by decide +kernel
theorem dX11_feed_10 : decode cX11_feed 10 = .ok (.iconst (-1), 1) := by decide +kernel
theorem dX11_feed_11 : decode cX11_feed 11 = .ok (.ireturn, 1) := by decide +kernel
theorem dX11_feed_12 : decode cX11_feed 12 = .ok (.aload_n 0, 1) := by decide +kernel
theorem dX11_feed_13 : decode cX11_feed 13 = .ok (.iload_n 1, 1) := by decide +kernel
theorem dX11_feed_14 : decode cX11_feed 14 = .ok (.invokevirtual 103, 3) := by decide +kernel
theorem dX11_feed_17 : decode cX11_feed 17 = .ok (.aload_n 0, 1) := by decide +kernel
theorem dX11_feed_18 : decode cX11_feed 18 = .ok (.iload_n 2, 1) := by decide +kernel
theorem dX11_feed_19 : decode cX11_feed 19 = .ok (.invokevirtual 103, 3) := by decide +kernel
theorem dX11_feed_22 : decode cX11_feed 22 = .ok (.aload_n 0, 1) := by decide +kernel
theorem dX11_feed_23 : decode cX11_feed 23 = .ok (.iload_n 3, 1) := by decide +kernel
theorem dX11_feed_24 : decode cX11_feed 24 = .ok (.invokevirtual 103, 3) := by decide +kernel
theorem dX11_feed_27 : decode cX11_feed 27 = .ok (.aload_n 0, 1) := by decide +kernel
theorem dX11_feed_28 : decode cX11_feed 28 = .ok (.iload 4, 2) := by decide +kernel
theorem dX11_feed_30 : decode cX11_feed 30 = .ok (.invokevirtual 103, 3) := by decide +kernel
theorem dX11_feed_33 : decode cX11_feed 33 = .ok (.aload_n 0, 1) := by decide +kernel
theorem dX11_feed_34 : decode cX11_feed 34 = .ok (.iload 5, 2) := by decide +kernel
theorem dX11_feed_36 : decode cX11_feed 36 = .ok (.invokevirtual 103, 3) := by decide +kernel
theorem dX11_feed_39 : decode cX11_feed 39 = .ok (.aload_n 0, 1) := by decide +kernel
theorem dX11_feed_40 : decode cX11_feed 40 = .ok (.getfield 100, 3) := by decide +kernel
theorem dX11_feed_43 : decode cX11_feed 43 = .ok (.ireturn, 1) := by decide +kernel
theorem dX11_force_0 : decode cX11_force 0 = .ok (.iload_n 1, 1) := by decide +kernel
theorem dX11_force_1 : decode cX11_force 1 = .ok (.iconst (-1), 1) := by decide +kernel
theorem dX11_force_2 : decode cX11_force 2 = .ok (.if_icmp .lt 11, 3) := by decide +kernel
theorem dX11_force_5 : decode cX11_force 5 = .ok (.iload_n 1, 1) := by decide +kernel
theorem dX11_force_6 : decode cX11_force 6 = .ok (.aload_n 0, 1) := by decide +kernel
theorem dX11_force_7 : decode cX11_force 7 = .ok (.getfield 125, 3) := by decide +kernel
theorem dX11_force_10 : decode cX11_force 10 = .ok (.if_icmp .lt 6, 3) := by decide +kernel
theorem dX11_force_13 : decode cX11_force 13 = .ok (.bipush (-2), 2) := by decide +kernel
theorem dX11_force_15 : decode cX11_force 15 = .ok (.ireturn, 1) := by decide +kernel
theorem dX11_force_16 : decode cX11_force 16 = .ok (.aload_n 0, 1) := by decide +kernel
theorem dX11_force_17 : decode cX11_force 17 = .ok (.getfield 33, 3) := by decide +kernel
theorem dX11_force_20 : decode cX11_force 20 = .ok (.istore_n 2, 1) := by decide +kernel
theorem dX11_force_21 : decode cX11_force 21 = .ok (.aload_n 0, 1) := by decide +kernel
theorem dX11_force_22 : decode cX11_force 22 = .ok (.iload_n 1, 1) := by decide +kernel
theorem dX11_force_23 : decode cX11_force 23 = .ok (.putfield 33, 3) := by decide +kernel
theorem dX11_force_26 : decode cX11_force 26 = .ok (.iload_n 2, 1) := by decide +kernel
theorem dX11_force_27 : decode cX11_force 27 = .ok (.ireturn, 1) := by decide +kernel
theorem dX11_guest_0 : decode cX11_guest 0 = .ok (.aload_n 0, 1) := by decide +kernel
theorem dX11_guest_1 : decode cX11_guest 1 = .ok (.iload_n 1, 1) := by decide +kernel
theorem dX11_guest_2 : decode cX11_guest 2 = .ok (.invokevirtual 162, 3) := by decide +kernel
theorem dX11_guest_5 : decode cX11_guest 5 = .ok (.ifCond .eq 12, 3) := by decide +kernel
theorem dX11_guest_8 : decode cX11_guest 8 = .ok (.iload_n 2, 1) := by decide +kernel
theorem dX11_guest_9 : decode cX11_guest 9 = .ok (.iconst 0, 1) := by decide +kernel
theorem dX11_guest_10 : decode cX11_guest 10 = .ok (.iconst 2, 1) := by decide +kernel
theorem dX11_guest_11 : decode cX11_guest 11 = .ok (.invokestatic 145, 3) := by decide +kernel
theorem dX11_guest_14 : decode cX11_guest 14 = .ok (.ifCond .ne 5, 3) := by decide +kernel
theorem dX11_guest_17 : decode cX11_guest 17 = .ok (.iconst (-1), 1) := by decide +kernel
theorem dX11_guest_18 : decode cX11_guest 18 = .ok (.ireturn, 1) := by decide +kernel
theorem dX11_guest_19 : decode cX11_guest 19 = .ok (.iload_n 2, 1) := by decide +kernel
theorem dX11_guest_20 : decode cX11_guest 20 = .ok (.ifCond .ne 16, 3) := by decide +kernel
theorem dX11_guest_23 : decode cX11_guest 23 = .ok (.aload_n 0, 1) := by decide +kernel
theorem dX11_guest_24 : decode cX11_guest 24 = .ok (.getfield 40, 3) := by decide +kernel
theorem dX11_guest_27 : decode cX11_guest 27 = .ok (.getfield 165, 3) := by decide +kernel
theorem dX11_guest_30 : decode cX11_guest 30 = .ok (.iload_n 1, 1) := by decide +kernel
theorem dX11_guest_31 : decode cX11_guest 31 = .ok (.bipush 7, 2) := by decide +kernel
theorem dX11_guest_33 : decode cX11_guest 33 = .ok (.iand, 1) := by decide +kernel
theorem dX11_guest_34 : decode cX11_guest 34 = .ok (.iaload, 1) := by decide +kernel
theorem dX11_guest_35 : decode cX11_guest 35 = .ok (.ireturn, 1) := by decide +kernel
theorem dX11_guest_36 : decode cX11_guest 36 = .ok (.iload_n 2, 1) := by decide +kernel
theorem dX11_guest_37 : decode cX11_guest 37 = .ok (.iconst 1, 1) := by decide +kernel
theorem dX11_guest_38 : decode cX11_guest 38 = .ok (.if_icmp .ne 12, 3) := by decide +kernel
theorem dX11_guest_41 : decode cX11_guest 41 = .ok (.aload_n 0, 1) := by decide +kernel
theorem dX11_guest_42 : decode cX11_guest 42 = .ok (.getfield 50, 3) := by decide +kernel
theorem dX11_guest_45 : decode cX11_guest 45 = .ok (.iload_n 1, 1) := by decide +kernel
theorem dX11_guest_46 : decode cX11_guest 46 = .ok (.invokevirtual 168, 3) := by decide +kernel
theorem dX11_guest_49 : decode cX11_guest 49 = .ok (.ireturn, 1) := by decide +kernel
theorem dX11_guest_50 : decode cX11_guest 50 = .ok (.aload_n 0, 1) := by decide +kernel
theorem dX11_guest_51 : decode cX11_guest 51 = .ok (.getfield 50, 3) := by decide +kernel
theorem dX11_guest_54 : decode cX11_guest 54 = .ok (.iload_n 1, 1) := by decide +kernel
theorem dX11_guest_55 : decode cX11_guest 55 = .ok (.invokevirtual 171, 3) := by decide +kernel
theorem dX11_guest_58 : decode cX11_guest 58 = .ok (.ifCond .eq 7, 3) := by decide +kernel
theorem dX11_guest_61 : decode cX11_guest 61 = .ok (.iconst 1, 1) := by decide +kernel
theorem dX11_guest_62 : decode cX11_guest 62 = .ok (.goto 4, 3) := by decide +kernel
theorem dX11_guest_65 : decode cX11_guest 65 = .ok (.iconst 0, 1) := by decide +kernel
theorem dX11_guest_66 : decode cX11_guest 66 = .ok (.ireturn, 1) := by decide +kernel
theorem dX11_imageAt_0 : decode cX11_imageAt 0 = .ok (.iload_n 1, 1) := by decide +kernel
theorem dX11_imageAt_1 : decode cX11_imageAt 1 = .ok (.ifCond .lt 21, 3) := by decide +kernel
theorem dX11_imageAt_4 : decode cX11_imageAt 4 = .ok (.iload_n 1, 1) := by decide +kernel
theorem dX11_imageAt_5 : decode cX11_imageAt 5 = .ok (.aload_n 0, 1) := by decide +kernel
theorem dX11_imageAt_6 : decode cX11_imageAt 6 = .ok (.getfield 73, 3) := by decide +kernel
theorem dX11_imageAt_9 : decode cX11_imageAt 9 = .ok (.arraylength, 1) := by decide +kernel
theorem dX11_imageAt_10 : decode cX11_imageAt 10 = .ok (.if_icmp .ge 12, 3) := by decide +kernel
theorem dX11_imageAt_13 : decode cX11_imageAt 13 = .ok (.aload_n 0, 1) := by decide +kernel
theorem dX11_imageAt_14 : decode cX11_imageAt 14 = .ok (.getfield 73, 3) := by decide +kernel
theorem dX11_imageAt_17 : decode cX11_imageAt 17 = .ok (.iload_n 1, 1) := by decide +kernel
theorem dX11_imageAt_18 : decode cX11_imageAt 18 = .ok (.aaload, 1) := by decide +kernel
theorem dX11_imageAt_19 : decode cX11_imageAt 19 = .ok (.goto 4, 3) := by decide +kernel
theorem dX11_imageAt_22 : decode cX11_imageAt 22 = .ok (.aconst_null, 1) := by decide +kernel
theorem dX11_imageAt_23 : decode cX11_imageAt 23 = .ok (.areturn, 1) := by decide +kernel
theorem dX11_isDish_0 : decode cX11_isDish 0 = .ok (.iload_n 1, 1) := by decide +kernel
theorem dX11_isDish_1 : decode cX11_isDish 1 = .ok (.ifCond .lt 18, 3) := by decide +kernel
theorem dX11_isDish_4 : decode cX11_isDish 4 = .ok (.iload_n 1, 1) := by decide +kernel
theorem dX11_isDish_5 : decode cX11_isDish 5 = .ok (.aload_n 0, 1) := by decide +kernel
theorem dX11_isDish_6 : decode cX11_isDish 6 = .ok (.getfield 40, 3) := by decide +kernel
theorem dX11_isDish_9 : decode cX11_isDish 9 = .ok (.getfield 122, 3) := by decide +kernel
theorem dX11_isDish_12 : decode cX11_isDish 12 = .ok (.if_icmp .ge 7, 3) := by decide +kernel
theorem dX11_isDish_15 : decode cX11_isDish 15 = .ok (.iconst 1, 1) := by decide +kernel
theorem dX11_isDish_16 : decode cX11_isDish 16 = .ok (.goto 4, 3) := by decide +kernel
theorem dX11_isDish_19 : decode cX11_isDish 19 = .ok (.iconst 0, 1) := by decide +kernel
theorem dX11_isDish_20 : decode cX11_isDish 20 = .ok (.ireturn, 1) := by decide +kernel
theorem dX11_isGuest_0 : decode cX11_isGuest 0 = .ok (.iload_n 1, 1) := by decide +kernel
theorem dX11_isGuest_1 : decode cX11_isGuest 1 = .ok (.ifCond .lt 18, 3) := by decide +kernel
theorem dX11_isGuest_4 : decode cX11_isGuest 4 = .ok (.iload_n 1, 1) := by decide +kernel
theorem dX11_isGuest_5 : decode cX11_isGuest 5 = .ok (.aload_n 0, 1) := by decide +kernel
theorem dX11_isGuest_6 : decode cX11_isGuest 6 = .ok (.getfield 40, 3) := by decide +kernel
theorem dX11_isGuest_9 : decode cX11_isGuest 9 = .ok (.getfield 138, 3) := by decide +kernel
theorem dX11_isGuest_12 : decode cX11_isGuest 12 = .ok (.if_icmp .ge 7, 3) := by decide +kernel
theorem dX11_isGuest_15 : decode cX11_isGuest 15 = .ok (.iconst 1, 1) := by decide +kernel
theorem dX11_isGuest_16 : decode cX11_isGuest 16 = .ok (.goto 4, 3) := by decide +kernel
theorem dX11_isGuest_19 : decode cX11_isGuest 19 = .ok (.iconst 0, 1) := by decide +kernel
theorem dX11_isGuest_20 : decode cX11_isGuest 20 = .ok (.ireturn, 1) := by decide +kernel
theorem dX11_isSecret_0 : decode cX11_isSecret 0 = .ok (.iload_n 0, 1) := by decide +kernel
theorem dX11_isSecret_1 : decode cX11_isSecret 1 = .ok (.ifCond .lt 13, 3) := by decide +kernel
theorem dX11_isSecret_4 : decode cX11_isSecret 4 = .ok (.iload_n 0, 1) := by decide +kernel
theorem dX11_isSecret_5 : decode cX11_isSecret 5 = .ok (.bipush 8, 2) := by decide +kernel
theorem dX11_isSecret_7 : decode cX11_isSecret 7 = .ok (.if_icmp .ge 7, 3) := by decide +kernel
theorem dX11_isSecret_10 : decode cX11_isSecret 10 = .ok (.iconst 1, 1) := by decide +kernel
theorem dX11_isSecret_11 : decode cX11_isSecret 11 = .ok (.goto 4, 3) := by decide +kernel
theorem dX11_isSecret_14 : decode cX11_isSecret 14 = .ok (.iconst 0, 1) := by decide +kernel
theorem dX11_isSecret_15 : decode cX11_isSecret 15 = .ok (.ireturn, 1) := by decide +kernel
theorem dX11_knowing_0 : decode cX11_knowing 0 = .ok (.aload_n 0, 1) := by decide +kernel
theorem dX11_knowing_1 : decode cX11_knowing 1 = .ok (.invokevirtual 174, 3) := by decide +kernel
theorem dX11_knowing_4 : decode cX11_knowing 4 = .ok (.ifCond .ne 10, 3) := by decide +kernel
theorem dX11_knowing_7 : decode cX11_knowing 7 = .ok (.iload_n 1, 1) := by decide +kernel
theorem dX11_knowing_8 : decode cX11_knowing 8 = .ok (.invokestatic 178, 3) := by decide +kernel
theorem dX11_knowing_11 : decode cX11_knowing 11 = .ok (.ifCond .ne 5, 3) := by decide +kernel
theorem dX11_knowing_14 : decode cX11_knowing 14 = .ok (.iconst (-1), 1) := by decide +kernel
theorem dX11_knowing_15 : decode cX11_knowing 15 = .ok (.ireturn, 1) := by decide +kernel
theorem dX11_knowing_16 : decode cX11_knowing 16 = .ok (.iconst 0, 1) := by decide +kernel
theorem dX11_knowing_17 : decode cX11_knowing 17 = .ok (.istore_n 2, 1) := by decide +kernel
theorem dX11_knowing_18 : decode cX11_knowing 18 = .ok (.iconst 0, 1) := by decide +kernel
theorem dX11_knowing_19 : decode cX11_knowing 19 = .ok (.istore_n 3, 1) := by decide +kernel
theorem dX11_knowing_20 : decode cX11_knowing 20 = .ok (.iload_n 3, 1) := by decide +kernel
theorem dX11_knowing_21 : decode cX11_knowing 21 = .ok (.iconst 5, 1) := by decide +kernel
theorem dX11_knowing_22 : decode cX11_knowing 22 = .ok (.if_icmp .ge 26, 3) := by decide +kernel
theorem dX11_knowing_25 : decode cX11_knowing 25 = .ok (.iload_n 2, 1) := by decide +kernel
theorem dX11_knowing_26 : decode cX11_knowing 26 = .ok (.aload_n 0, 1) := by decide +kernel
theorem dX11_knowing_27 : decode cX11_knowing 27 = .ok (.getfield 50, 3) := by decide +kernel
theorem dX11_knowing_30 : decode cX11_knowing 30 = .ok (.iload_n 3, 1) := by decide +kernel
theorem dX11_knowing_31 : decode cX11_knowing 31 = .ok (.invokevirtual 168, 3) := by decide +kernel
theorem dX11_knowing_34 : decode cX11_knowing 34 = .ok (.iload_n 1, 1) := by decide +kernel
theorem dX11_knowing_35 : decode cX11_knowing 35 = .ok (.ishr, 1) := by decide +kernel
theorem dX11_knowing_36 : decode cX11_knowing 36 = .ok (.iconst 1, 1) := by decide +kernel
theorem dX11_knowing_37 : decode cX11_knowing 37 = .ok (.iand, 1) := by decide +kernel
theorem dX11_knowing_38 : decode cX11_knowing 38 = .ok (.iload_n 3, 1) := by decide +kernel
theorem dX11_knowing_39 : decode cX11_knowing 39 = .ok (.ishl, 1) := by decide +kernel
theorem dX11_knowing_40 : decode cX11_knowing 40 = .ok (.ior, 1) := by decide +kernel
theorem dX11_knowing_41 : decode cX11_knowing 41 = .ok (.istore_n 2, 1) := by decide +kernel
theorem dX11_knowing_42 : decode cX11_knowing 42 = .ok (.iinc 3 1, 3) := by decide +kernel
theorem dX11_knowing_45 : decode cX11_knowing 45 = .ok (.goto (-25), 3) := by decide +kernel
theorem dX11_knowing_48 : decode cX11_knowing 48 = .ok (.iload_n 2, 1) := by decide +kernel
theorem dX11_knowing_49 : decode cX11_knowing 49 = .ok (.ireturn, 1) := by decide +kernel
theorem dX11_nextDrawn_0 : decode cX11_nextDrawn 0 = .ok (.iload_n 0, 1) := by decide +kernel
theorem dX11_nextDrawn_1 : decode cX11_nextDrawn 1 = .ok (.i2l, 1) := by decide +kernel
theorem dX11_nextDrawn_2 : decode cX11_nextDrawn 2 = .ok (.ldc2_w 349, 3) := by decide +kernel
theorem dX11_nextDrawn_5 : decode cX11_nextDrawn 5 = .ok (.lmul, 1) := by decide +kernel
theorem dX11_nextDrawn_6 : decode cX11_nextDrawn 6 = .ok (.ldc2_w 351, 3) := by decide +kernel
theorem dX11_nextDrawn_9 : decode cX11_nextDrawn 9 = .ok (.ladd, 1) := by decide +kernel
theorem dX11_nextDrawn_10 : decode cX11_nextDrawn 10 = .ok (.ldc2_w 353, 3) := by decide +kernel
theorem dX11_nextDrawn_13 : decode cX11_nextDrawn 13 = .ok (.land, 1) := by decide +kernel
theorem dX11_nextDrawn_14 : decode cX11_nextDrawn 14 = .ok (.l2i, 1) := by decide +kernel
theorem dX11_nextDrawn_15 : decode cX11_nextDrawn 15 = .ok (.ireturn, 1) := by decide +kernel
theorem dX11_note_0 : decode cX11_note 0 = .ok (.iload_n 1, 1) := by decide +kernel
theorem dX11_note_1 : decode cX11_note 1 = .ok (.iconst (-1), 1) := by decide +kernel
theorem dX11_note_2 : decode cX11_note 2 = .ok (.if_icmp .ne 12, 3) := by decide +kernel
theorem dX11_note_5 : decode cX11_note 5 = .ok (.aload_n 0, 1) := by decide +kernel
theorem dX11_note_6 : decode cX11_note 6 = .ok (.getfield 60, 3) := by decide +kernel
theorem dX11_note_9 : decode cX11_note 9 = .ok (.invokevirtual 118, 3) := by decide +kernel
theorem dX11_note_12 : decode cX11_note 12 = .ok (.iconst 0, 1) := by decide +kernel
theorem dX11_note_13 : decode cX11_note 13 = .ok (.ireturn, 1) := by decide +kernel
theorem dX11_note_14 : decode cX11_note 14 = .ok (.iload_n 1, 1) := by decide +kernel
theorem dX11_note_15 : decode cX11_note 15 = .ok (.iconst 0, 1) := by decide +kernel
theorem dX11_note_16 : decode cX11_note 16 = .ok (.bipush 60, 2) := by decide +kernel
theorem dX11_note_18 : decode cX11_note 18 = .ok (.invokestatic 145, 3) := by decide +kernel
theorem dX11_note_21 : decode cX11_note 21 = .ok (.ifCond .eq 28, 3) := by decide +kernel
theorem dX11_note_24 : decode cX11_note 24 = .ok (.aload_n 0, 1) := by decide +kernel
theorem dX11_note_25 : decode cX11_note 25 = .ok (.iload_n 2, 1) := by decide +kernel
theorem dX11_note_26 : decode cX11_note 26 = .ok (.invokevirtual 162, 3) := by decide +kernel
theorem dX11_note_29 : decode cX11_note 29 = .ok (.ifCond .eq 20, 3) := by decide +kernel
theorem dX11_note_32 : decode cX11_note 32 = .ok (.iload_n 3, 1) := by decide +kernel
theorem dX11_note_33 : decode cX11_note 33 = .ok (.invokestatic 178, 3) := by decide +kernel
theorem dX11_note_36 : decode cX11_note 36 = .ok (.ifCond .eq 13, 3) := by decide +kernel
theorem dX11_note_39 : decode cX11_note 39 = .ok (.iload 4, 2) := by decide +kernel
theorem dX11_note_41 : decode cX11_note 41 = .ok (.iconst 0, 1) := by decide +kernel
theorem dX11_note_42 : decode cX11_note 42 = .ok (.iconst 1, 1) := by decide +kernel
theorem dX11_note_43 : decode cX11_note 43 = .ok (.invokestatic 145, 3) := by decide +kernel
theorem dX11_note_46 : decode cX11_note 46 = .ok (.ifCond .ne 6, 3) := by decide +kernel
theorem dX11_note_49 : decode cX11_note 49 = .ok (.bipush (-2), 2) := by decide +kernel
theorem dX11_note_51 : decode cX11_note 51 = .ok (.ireturn, 1) := by decide +kernel
theorem dX11_note_52 : decode cX11_note 52 = .ok (.aload_n 0, 1) := by decide +kernel
theorem dX11_note_53 : decode cX11_note 53 = .ok (.getfield 60, 3) := by decide +kernel
theorem dX11_note_56 : decode cX11_note 56 = .ok (.iload_n 1, 1) := by decide +kernel
theorem dX11_note_57 : decode cX11_note 57 = .ok (.iload_n 2, 1) := by decide +kernel
theorem dX11_note_58 : decode cX11_note 58 = .ok (.iload_n 3, 1) := by decide +kernel
theorem dX11_note_59 : decode cX11_note 59 = .ok (.iload 4, 2) := by decide +kernel
theorem dX11_note_61 : decode cX11_note 61 = .ok (.invokevirtual 311, 3) := by decide +kernel
theorem dX11_note_64 : decode cX11_note 64 = .ok (.ifCond .eq 13, 3) := by decide +kernel
theorem dX11_note_67 : decode cX11_note 67 = .ok (.aload_n 0, 1) := by decide +kernel
theorem dX11_note_68 : decode cX11_note 68 = .ok (.getfield 60, 3) := by decide +kernel
theorem dX11_note_71 : decode cX11_note 71 = .ok (.getfield 315, 3) := by decide +kernel
theorem dX11_note_74 : decode cX11_note 74 = .ok (.goto 5, 3) := by decide +kernel
theorem dX11_note_77 : decode cX11_note 77 = .ok (.bipush (-2), 2) := by decide +kernel
theorem dX11_note_79 : decode cX11_note 79 = .ok (.ireturn, 1) := by decide +kernel
theorem dX11_ruleAt_0 : decode cX11_ruleAt 0 = .ok (.iload_n 1, 1) := by decide +kernel
theorem dX11_ruleAt_1 : decode cX11_ruleAt 1 = .ok (.ifCond .lt 21, 3) := by decide +kernel
theorem dX11_ruleAt_4 : decode cX11_ruleAt 4 = .ok (.iload_n 1, 1) := by decide +kernel
theorem dX11_ruleAt_5 : decode cX11_ruleAt 5 = .ok (.aload_n 0, 1) := by decide +kernel
theorem dX11_ruleAt_6 : decode cX11_ruleAt 6 = .ok (.getfield 29, 3) := by decide +kernel
theorem dX11_ruleAt_9 : decode cX11_ruleAt 9 = .ok (.arraylength, 1) := by decide +kernel
theorem dX11_ruleAt_10 : decode cX11_ruleAt 10 = .ok (.if_icmp .ge 12, 3) := by decide +kernel
theorem dX11_ruleAt_13 : decode cX11_ruleAt 13 = .ok (.aload_n 0, 1) := by decide +kernel
theorem dX11_ruleAt_14 : decode cX11_ruleAt 14 = .ok (.getfield 29, 3) := by decide +kernel
theorem dX11_ruleAt_17 : decode cX11_ruleAt 17 = .ok (.iload_n 1, 1) := by decide +kernel
theorem dX11_ruleAt_18 : decode cX11_ruleAt 18 = .ok (.aaload, 1) := by decide +kernel
theorem dX11_ruleAt_19 : decode cX11_ruleAt 19 = .ok (.goto 4, 3) := by decide +kernel
theorem dX11_ruleAt_22 : decode cX11_ruleAt 22 = .ok (.aconst_null, 1) := by decide +kernel
theorem dX11_ruleAt_23 : decode cX11_ruleAt 23 = .ok (.areturn, 1) := by decide +kernel
theorem dX11_seed_0 : decode cX11_seed 0 = .ok (.iload_n 1, 1) := by decide +kernel
theorem dX11_seed_1 : decode cX11_seed 1 = .ok (.ifCond .ge 5, 3) := by decide +kernel
theorem dX11_seed_4 : decode cX11_seed 4 = .ok (.iconst (-1), 1) := by decide +kernel
theorem dX11_seed_5 : decode cX11_seed 5 = .ok (.ireturn, 1) := by decide +kernel
theorem dX11_seed_6 : decode cX11_seed 6 = .ok (.aload_n 0, 1) := by decide +kernel
theorem dX11_seed_7 : decode cX11_seed 7 = .ok (.getfield 336, 3) := by decide +kernel
theorem dX11_seed_10 : decode cX11_seed 10 = .ok (.istore_n 2, 1) := by decide +kernel
theorem dX11_seed_11 : decode cX11_seed 11 = .ok (.aload_n 0, 1) := by decide +kernel
theorem dX11_seed_12 : decode cX11_seed 12 = .ok (.iload_n 1, 1) := by decide +kernel
theorem dX11_seed_13 : decode cX11_seed 13 = .ok (.putfield 336, 3) := by decide +kernel
theorem dX11_seed_16 : decode cX11_seed 16 = .ok (.iload_n 2, 1) := by decide +kernel
theorem dX11_seed_17 : decode cX11_seed 17 = .ok (.ireturn, 1) := by decide +kernel
theorem dX11_shareOf_0 : decode cX11_shareOf 0 = .ok (.iload_n 1, 1) := by decide +kernel
theorem dX11_shareOf_1 : decode cX11_shareOf 1 = .ok (.aload_n 0, 1) := by decide +kernel
theorem dX11_shareOf_2 : decode cX11_shareOf 2 = .ok (.getfield 50, 3) := by decide +kernel
theorem dX11_shareOf_5 : decode cX11_shareOf 5 = .ok (.iload_n 2, 1) := by decide +kernel
theorem dX11_shareOf_6 : decode cX11_shareOf 6 = .ok (.invokevirtual 168, 3) := by decide +kernel
theorem dX11_shareOf_9 : decode cX11_shareOf 9 = .ok (.invokestatic 270, 3) := by decide +kernel
theorem dX11_shareOf_12 : decode cX11_shareOf 12 = .ok (.imul, 1) := by decide +kernel
theorem dX11_shareOf_13 : decode cX11_shareOf 13 = .ok (.ireturn, 1) := by decide +kernel
theorem dX11_throat_0 : decode cX11_throat 0 = .ok (.iload_n 1, 1) := by decide +kernel
theorem dX11_throat_1 : decode cX11_throat 1 = .ok (.ifCond .lt 14, 3) := by decide +kernel
theorem dX11_throat_4 : decode cX11_throat 4 = .ok (.iload_n 1, 1) := by decide +kernel
theorem dX11_throat_5 : decode cX11_throat 5 = .ok (.aload_n 0, 1) := by decide +kernel
theorem dX11_throat_6 : decode cX11_throat 6 = .ok (.getfield 40, 3) := by decide +kernel
theorem dX11_throat_9 : decode cX11_throat 9 = .ok (.getfield 135, 3) := by decide +kernel
theorem dX11_throat_12 : decode cX11_throat 12 = .ok (.if_icmp .lt 6, 3) := by decide +kernel
theorem dX11_throat_15 : decode cX11_throat 15 = .ok (.bipush (-2), 2) := by decide +kernel
theorem dX11_throat_17 : decode cX11_throat 17 = .ok (.ireturn, 1) := by decide +kernel
theorem dX11_throat_18 : decode cX11_throat 18 = .ok (.aload_n 0, 1) := by decide +kernel
theorem dX11_throat_19 : decode cX11_throat 19 = .ok (.getfield 50, 3) := by decide +kernel
theorem dX11_throat_22 : decode cX11_throat 22 = .ok (.iload_n 1, 1) := by decide +kernel
theorem dX11_throat_23 : decode cX11_throat 23 = .ok (.invokevirtual 184, 3) := by decide +kernel
theorem dX11_throat_26 : decode cX11_throat 26 = .ok (.ireturn, 1) := by decide +kernel
theorem dX11_untold_0 : decode cX11_untold 0 = .ok (.aload_n 0, 1) := by decide +kernel
theorem dX11_untold_1 : decode cX11_untold 1 = .ok (.getfield 40, 3) := by decide +kernel
theorem dX11_untold_4 : decode cX11_untold 4 = .ok (.getfield 135, 3) := by decide +kernel
theorem dX11_untold_7 : decode cX11_untold 7 = .ok (.ifCond .ne 7, 3) := by decide +kernel
theorem dX11_untold_10 : decode cX11_untold 10 = .ok (.iconst 1, 1) := by decide +kernel
theorem dX11_untold_11 : decode cX11_untold 11 = .ok (.goto 4, 3) := by decide +kernel
theorem dX11_untold_14 : decode cX11_untold 14 = .ok (.iconst 0, 1) := by decide +kernel
theorem dX11_untold_15 : decode cX11_untold 15 = .ok (.ireturn, 1) := by decide +kernel
theorem dX11_within_0 : decode cX11_within 0 = .ok (.iload_n 0, 1) := by decide +kernel
theorem dX11_within_1 : decode cX11_within 1 = .ok (.iload_n 1, 1) := by decide +kernel
theorem dX11_within_2 : decode cX11_within 2 = .ok (.if_icmp .lt 12, 3) := by decide +kernel
theorem dX11_within_5 : decode cX11_within 5 = .ok (.iload_n 0, 1) := by decide +kernel
theorem dX11_within_6 : decode cX11_within 6 = .ok (.iload_n 2, 1) := by decide +kernel
theorem dX11_within_7 : decode cX11_within 7 = .ok (.if_icmp .gt 7, 3) := by decide +kernel
theorem dX11_within_10 : decode cX11_within 10 = .ok (.iconst 1, 1) := by decide +kernel
theorem dX11_within_11 : decode cX11_within 11 = .ok (.goto 4, 3) := by decide +kernel
theorem dX11_within_14 : decode cX11_within 14 = .ok (.iconst 0, 1) := by decide +kernel
theorem dX11_within_15 : decode cX11_within 15 = .ok (.ireturn, 1) := by decide +kernel
set_option maxHeartbeats 4000000 in
set_option maxRecDepth 100000 in
/-- x_within -/
theorem x_within (l : Launch) (dC : Nat → ClassId) (dI : Nat → Nat → Nat) (sz : Nat) (x0 : Int32) (x1 : Int32) (x2 : Int32) : Met l yX11_within (.code yX11_within cX11_within 3 (some .boolean) :: wsA) ({ frames := 0, cells := 0, slots := 0, locals := 0 }) (va_Pc [.int x0, .int x1, .int x2] (fun U => U.heap.size = sz ∧ va_P (dC, dI) classes [] U.heap ∧ va_K (dC, dI) classes [] U ∧ va_D (fun _ => True) [] ∧ xE U)) (va_Qi (fun (r : Int32) (_ : Unit) => True) (fun _ t => va_P (dC, dI) classes [] t.heap ∧ va_K (dC, dI) classes [] t ∧ va_D (va_A [] sz) []) (va_A [] sz)) 0 0 (va_A [] sz) := by
  refine Met.ofW (cc := cX11_within) (maxL := 3) (ret := (some .boolean)) (by decide) rfl ?_
  intro p e s m args below meth c s₁ B hml hv
  obtain ⟨rfl, hsz, hP, hK, hD0, hE⟩ := hv
  have hx := B.exec
  have hb := B.bytes
  have hr := B.returns
  have hts := atoms_spec (ws := .code yX11_within cX11_within 3 (some .boolean) :: wsA) B.pre
  have hq : ∀ w ∈ wsA, w.before _ s = true := fun w h => hts w (List.mem_cons_of_mem _ h)
  have hown : s.vm.findClass RX11 = some m.cls := findClass_of_methodNamed B.named
  have hlocks := B.notSynchronized
  subst hsz
  have hD := hD0.self (sz := s.heap.size)
  generalize hAe : va_A [] s.heap.size = A at hD ⊢
  have hA : ∀ q : Nat, s.heap.size ≤ q → A q := fun q h => by rw [← hAe]; exact Or.inr h
  have hS : va_S A s.heap s.heap [] := va_S.rf
  have hl := lv_entry ([.int x0, .int x1, .int x2]) (n := 3) (Nat.le_of_ble_eq_true rfl)
  rw [lg_entry_eq]
  generalize (lg_sl ([.int x0, .int x1, .int x2]) ++ List.replicate (3 - (lg_sl ([.int x0, .int x1, .int x2])).length) Slot.unset).toArray = ls at hl ⊢
  have hl : lv_has ls 3 [(0, .int x0), (1, .int x1), (2, .int x2)] := hl
  refine lv_iload_n hx hb dX11_within_0 rfl (lv_at hl 0 rfl) ?_
  refine lv_iload_n hx hb dX11_within_1 rfl (lv_at hl 1 rfl) ?_
  refine W.cut (I := fun H locs g => ∃ (ls : Array Slot), va_P (dC, dI) classes [] H ∧ va_D A [] ∧ va_S A s.heap H locs ∧ lv_has ls 3 [] ∧ g = F0 m 14 ls []) (fun H locs g h => ?_) (fun hJ14 => ?_)
  · obtain ⟨ls, hP, hD, hS, hl, rfl⟩ := h
    refine lv_iconst (v := 0) hx hb dX11_within_14 (by decide) ?_
    refine W.widen (k := 0) (n := 0) (Nat.le_of_ble_eq_true rfl) (Nat.le_of_ble_eq_true rfl) ?_
    exact W.zret (v := 0) hx hb hr (by decide) (fun t ht hW => ⟨⟨0, (), rfl, trivial, by rw [ht]; exact hP, va_K.moved hW.alike hK, hD⟩, hS.F ht⟩) hS.2.2 dX11_within_15
  refine lv_icmp_lt (tgt := 14) hx hb dX11_within_2 (by decide) (fun c_5 => ?_) (fun c_5 => ?_)
  · exact hJ14 _ _ _ ⟨_, hP, hD, hS, (lv_sub hl [] rfl), rfl⟩
  · refine lv_iload_n hx hb dX11_within_5 rfl (lv_at hl 0 rfl) ?_
    refine lv_iload_n hx hb dX11_within_6 rfl (lv_at hl 2 rfl) ?_
    refine lv_icmp_gt (tgt := 14) hx hb dX11_within_7 (by decide) (fun c_6 => ?_) (fun c_6 => ?_)
    · exact hJ14 _ _ _ ⟨_, hP, hD, hS, (lv_sub hl [] rfl), rfl⟩
    · refine lv_iconst (v := 1) hx hb dX11_within_10 (by decide) ?_
      refine lv_goto (tgt := 15) hx hb dX11_within_11 (by decide) ?_
      refine W.widen (k := 0) (n := 0) (Nat.le_of_ble_eq_true rfl) (Nat.le_of_ble_eq_true rfl) ?_
      exact W.zret (v := 1) hx hb hr (by decide) (fun t ht hW => ⟨⟨1, (), rfl, trivial, by rw [ht]; exact hP, va_K.moved hW.alike hK, hD⟩, hS.F ht⟩) hS.2.2 dX11_within_15

set_option maxHeartbeats 4000000 in
set_option maxRecDepth 100000 in
/-- x_isSecret -/
theorem x_isSecret (l : Launch) (dC : Nat → ClassId) (dI : Nat → Nat → Nat) (sz : Nat) (x0 : Int32) : Met l yX11_isSecret (.code yX11_isSecret cX11_isSecret 1 (some .boolean) :: wsA) ({ frames := 0, cells := 0, slots := 0, locals := 0 }) (va_Pc [.int x0] (fun U => U.heap.size = sz ∧ va_P (dC, dI) classes [] U.heap ∧ va_K (dC, dI) classes [] U ∧ va_D (fun _ => True) [] ∧ xE U)) (va_Qi (fun (r : Int32) (_ : Unit) => True) (fun _ t => va_P (dC, dI) classes [] t.heap ∧ va_K (dC, dI) classes [] t ∧ va_D (va_A [] sz) []) (va_A [] sz)) 0 0 (va_A [] sz) := by
  refine Met.ofW (cc := cX11_isSecret) (maxL := 1) (ret := (some .boolean)) (by decide) rfl ?_
  intro p e s m args below meth c s₁ B hml hv
  obtain ⟨rfl, hsz, hP, hK, hD0, hE⟩ := hv
  have hx := B.exec
  have hb := B.bytes
  have hr := B.returns
  have hts := atoms_spec (ws := .code yX11_isSecret cX11_isSecret 1 (some .boolean) :: wsA) B.pre
  have hq : ∀ w ∈ wsA, w.before _ s = true := fun w h => hts w (List.mem_cons_of_mem _ h)
  have hown : s.vm.findClass RX11 = some m.cls := findClass_of_methodNamed B.named
  have hlocks := B.notSynchronized
  subst hsz
  have hD := hD0.self (sz := s.heap.size)
  generalize hAe : va_A [] s.heap.size = A at hD ⊢
  have hA : ∀ q : Nat, s.heap.size ≤ q → A q := fun q h => by rw [← hAe]; exact Or.inr h
  have hS : va_S A s.heap s.heap [] := va_S.rf
  have hl := lv_entry ([.int x0]) (n := 1) (Nat.le_of_ble_eq_true rfl)
  rw [lg_entry_eq]
  generalize (lg_sl ([.int x0]) ++ List.replicate (1 - (lg_sl ([.int x0])).length) Slot.unset).toArray = ls at hl ⊢
  have hl : lv_has ls 1 [(0, .int x0)] := hl
  refine lv_iload_n hx hb dX11_isSecret_0 rfl (lv_at hl 0 rfl) ?_
  refine W.cut (I := fun H locs g => ∃ (ls : Array Slot), va_P (dC, dI) classes [] H ∧ va_D A [] ∧ va_S A s.heap H locs ∧ lv_has ls 1 [] ∧ g = F0 m 14 ls []) (fun H locs g h => ?_) (fun hJ14 => ?_)
  · obtain ⟨ls, hP, hD, hS, hl, rfl⟩ := h
    refine lv_iconst (v := 0) hx hb dX11_isSecret_14 (by decide) ?_
    refine W.widen (k := 0) (n := 0) (Nat.le_of_ble_eq_true rfl) (Nat.le_of_ble_eq_true rfl) ?_
    exact W.zret (v := 0) hx hb hr (by decide) (fun t ht hW => ⟨⟨0, (), rfl, trivial, by rw [ht]; exact hP, va_K.moved hW.alike hK, hD⟩, hS.F ht⟩) hS.2.2 dX11_isSecret_15
  refine lv_if_lt (tgt := 14) hx hb dX11_isSecret_1 (by decide) (fun c_5 => ?_) (fun c_5 => ?_)
  · exact hJ14 _ _ _ ⟨_, hP, hD, hS, (lv_sub hl [] rfl), rfl⟩
  · refine lv_iload_n hx hb dX11_isSecret_4 rfl (lv_at hl 0 rfl) ?_
    refine lv_bipush (v := 8) hx hb dX11_isSecret_5 (by decide) ?_
    refine lv_icmp_ge (tgt := 14) hx hb dX11_isSecret_7 (by decide) (fun c_6 => ?_) (fun c_6 => ?_)
    · exact hJ14 _ _ _ ⟨_, hP, hD, hS, (lv_sub hl [] rfl), rfl⟩
    · refine lv_iconst (v := 1) hx hb dX11_isSecret_10 (by decide) ?_
      refine lv_goto (tgt := 15) hx hb dX11_isSecret_11 (by decide) ?_
      refine W.widen (k := 0) (n := 0) (Nat.le_of_ble_eq_true rfl) (Nat.le_of_ble_eq_true rfl) ?_
      exact W.zret (v := 1) hx hb hr (by decide) (fun t ht hW => ⟨⟨1, (), rfl, trivial, by rw [ht]; exact hP, va_K.moved hW.alike hK, hD⟩, hS.F ht⟩) hS.2.2 dX11_isSecret_15

set_option maxHeartbeats 4000000 in
set_option maxRecDepth 100000 in
/-- x_nextDrawn -/
theorem x_nextDrawn (l : Launch) (dC : Nat → ClassId) (dI : Nat → Nat → Nat) (sz : Nat) (x0 : Int32) : Met l yX11_nextDrawn (.code yX11_nextDrawn cX11_nextDrawn 1 (some .int) :: wsA) ({ frames := 0, cells := 0, slots := 0, locals := 0 }) (va_Pc [.int x0] (fun U => U.heap.size = sz ∧ va_P (dC, dI) classes [] U.heap ∧ va_K (dC, dI) classes [] U ∧ va_D (fun _ => True) [] ∧ xE U)) (va_Qi (fun (r : Int32) (_ : Unit) => True) (fun _ t => va_P (dC, dI) classes [] t.heap ∧ va_K (dC, dI) classes [] t ∧ va_D (va_A [] sz) []) (va_A [] sz)) 0 0 (va_A [] sz) := by
  refine Met.ofW (cc := cX11_nextDrawn) (maxL := 1) (ret := (some .int)) (by decide) rfl ?_
  intro p e s m args below meth c s₁ B hml hv
  obtain ⟨rfl, hsz, hP, hK, hD0, hE⟩ := hv
  have hx := B.exec
  have hb := B.bytes
  have hr := B.returns
  have hts := atoms_spec (ws := .code yX11_nextDrawn cX11_nextDrawn 1 (some .int) :: wsA) B.pre
  have hq : ∀ w ∈ wsA, w.before _ s = true := fun w h => hts w (List.mem_cons_of_mem _ h)
  have hown : s.vm.findClass RX11 = some m.cls := findClass_of_methodNamed B.named
  have hlocks := B.notSynchronized
  subst hsz
  have hD := hD0.self (sz := s.heap.size)
  generalize hAe : va_A [] s.heap.size = A at hD ⊢
  have hA : ∀ q : Nat, s.heap.size ≤ q → A q := fun q h => by rw [← hAe]; exact Or.inr h
  have hS : va_S A s.heap s.heap [] := va_S.rf
  have hl := lv_entry ([.int x0]) (n := 1) (Nat.le_of_ble_eq_true rfl)
  rw [lg_entry_eq]
  generalize (lg_sl ([.int x0]) ++ List.replicate (1 - (lg_sl ([.int x0])).length) Slot.unset).toArray = ls at hl ⊢
  have hl : lv_has ls 1 [(0, .int x0)] := hl
  refine lv_iload_n hx hb dX11_nextDrawn_0 rfl (lv_at hl 0 rfl) ?_
  refine lv_i2l hx hb dX11_nextDrawn_1 rfl ?_
  refine lv_topl (fun z_6 ez_6 => ?_)
  refine lv_ldc2 (v := 1103515245) hx hb hown (hq _ qw_1126) dX11_nextDrawn_2 ?_
  refine lv_lmul hx hb dX11_nextDrawn_5 ?_
  refine lv_topl (fun z_7 ez_7 => ?_)
  refine lv_ldc2 (v := 12345) hx hb hown (hq _ qw_1127) dX11_nextDrawn_6 ?_
  refine lv_ladd hx hb dX11_nextDrawn_9 ?_
  refine lv_topl (fun z_8 ez_8 => ?_)
  refine lv_ldc2 (v := 2147483647) hx hb hown (hq _ qw_1128) dX11_nextDrawn_10 ?_
  refine lv_land hx hb dX11_nextDrawn_13 ?_
  refine lv_topl (fun z_9 ez_9 => ?_)
  refine lv_l2i hx hb dX11_nextDrawn_14 rfl ?_
  refine lv_topi (fun y_10 ey_10 => ?_)
  refine W.widen (k := 0) (n := 0) (Nat.le_of_ble_eq_true rfl) (Nat.le_of_ble_eq_true rfl) ?_
  exact W.iret (v := y_10) hx hb hr (fun t ht hW => ⟨⟨y_10, (), rfl, trivial, by rw [ht]; exact hP, va_K.moved hW.alike hK, hD⟩, hS.F ht⟩) hS.2.2 dX11_nextDrawn_15

set_option maxHeartbeats 4000000 in
set_option maxRecDepth 100000 in
/-- x_untold -/
theorem x_untold (l : Launch) (dC : Nat → ClassId) (dI : Nat → Nat → Nat) (sz : Nat) (h0 : Nat) (tp : Nat) (s_taped : Int32) (dr : Nat) (rr : Nat) (rl : Nat) (s_ruleCount : Int32) (s_inForce : Int32) (to : Nat) (df : Nat) (nw : Nat) (tr : Nat) (no : Nat) (pa : Nat) (im : Nat) (co : Nat) (se : Nat) (ga : Nat) (pt : Nat) (s_x : Int32) (to_deep : Int32) (to_dishes : Int32) (to_guests : Int32) (tolo : Nat) (tosa : Nat) (toea : Nat) (tocl : Nat) : Met l yX11_untold (.code yX11_untold cX11_untold 1 (some .boolean) :: wsA) ({ frames := 0, cells := 0, slots := 0, locals := 0 }) (va_Pc [.ref h0] (fun U => U.heap.size = sz ∧ va_P (dC, dI) classes [(h0, .inr (11, [.ref tp, .int s_taped, .ref dr, .ref rr, .ref rl, .int s_ruleCount, .int s_inForce, .ref to, .ref df, .ref nw, .ref tr, .ref no, .ref pa, .ref im, .ref co, .ref se, .ref ga, .ref pt, .int s_x])), (to, .inr (1, [.int to_deep, .int to_dishes, .int to_guests, .ref tolo, .ref tosa, .ref toea, .ref tocl]))] U.heap ∧ va_K (dC, dI) classes [] U ∧ va_D (fun _ => True) [(h0, .inr (11, [.ref tp, .int s_taped, .ref dr, .ref rr, .ref rl, .int s_ruleCount, .int s_inForce, .ref to, .ref df, .ref nw, .ref tr, .ref no, .ref pa, .ref im, .ref co, .ref se, .ref ga, .ref pt, .int s_x])), (to, .inr (1, [.int to_deep, .int to_dishes, .int to_guests, .ref tolo, .ref tosa, .ref toea, .ref tocl]))] ∧ xE U)) (va_Qi (fun (r : Int32) (_ : Unit) => True) (fun _ t => va_P (dC, dI) classes [(h0, .inr (11, [.ref tp, .int s_taped, .ref dr, .ref rr, .ref rl, .int s_ruleCount, .int s_inForce, .ref to, .ref df, .ref nw, .ref tr, .ref no, .ref pa, .ref im, .ref co, .ref se, .ref ga, .ref pt, .int s_x])), (to, .inr (1, [.int to_deep, .int to_dishes, .int to_guests, .ref tolo, .ref tosa, .ref toea, .ref tocl]))] t.heap ∧ va_K (dC, dI) classes [] t ∧ va_D (va_A [(h0, .inr (11, [.ref tp, .int s_taped, .ref dr, .ref rr, .ref rl, .int s_ruleCount, .int s_inForce, .ref to, .ref df, .ref nw, .ref tr, .ref no, .ref pa, .ref im, .ref co, .ref se, .ref ga, .ref pt, .int s_x])), (to, .inr (1, [.int to_deep, .int to_dishes, .int to_guests, .ref tolo, .ref tosa, .ref toea, .ref tocl]))] sz) [(h0, .inr (11, [.ref tp, .int s_taped, .ref dr, .ref rr, .ref rl, .int s_ruleCount, .int s_inForce, .ref to, .ref df, .ref nw, .ref tr, .ref no, .ref pa, .ref im, .ref co, .ref se, .ref ga, .ref pt, .int s_x])), (to, .inr (1, [.int to_deep, .int to_dishes, .int to_guests, .ref tolo, .ref tosa, .ref toea, .ref tocl]))]) (va_A [(h0, .inr (11, [.ref tp, .int s_taped, .ref dr, .ref rr, .ref rl, .int s_ruleCount, .int s_inForce, .ref to, .ref df, .ref nw, .ref tr, .ref no, .ref pa, .ref im, .ref co, .ref se, .ref ga, .ref pt, .int s_x])), (to, .inr (1, [.int to_deep, .int to_dishes, .int to_guests, .ref tolo, .ref tosa, .ref toea, .ref tocl]))] sz)) 0 0 (va_A [(h0, .inr (11, [.ref tp, .int s_taped, .ref dr, .ref rr, .ref rl, .int s_ruleCount, .int s_inForce, .ref to, .ref df, .ref nw, .ref tr, .ref no, .ref pa, .ref im, .ref co, .ref se, .ref ga, .ref pt, .int s_x])), (to, .inr (1, [.int to_deep, .int to_dishes, .int to_guests, .ref tolo, .ref tosa, .ref toea, .ref tocl]))] sz) := by
  refine Met.ofW (cc := cX11_untold) (maxL := 1) (ret := (some .boolean)) (by decide) rfl ?_
  intro p e s m args below meth c s₁ B hml hv
  obtain ⟨rfl, hsz, hP, hK, hD0, hE⟩ := hv
  have hx := B.exec
  have hb := B.bytes
  have hr := B.returns
  have hts := atoms_spec (ws := .code yX11_untold cX11_untold 1 (some .boolean) :: wsA) B.pre
  have hq : ∀ w ∈ wsA, w.before _ s = true := fun w h => hts w (List.mem_cons_of_mem _ h)
  have hown : s.vm.findClass RX11 = some m.cls := findClass_of_methodNamed B.named
  have hlocks := B.notSynchronized
  subst hsz
  have hD := hD0.self (sz := s.heap.size)
  generalize hAe : va_A [(h0, .inr (11, [.ref tp, .int s_taped, .ref dr, .ref rr, .ref rl, .int s_ruleCount, .int s_inForce, .ref to, .ref df, .ref nw, .ref tr, .ref no, .ref pa, .ref im, .ref co, .ref se, .ref ga, .ref pt, .int s_x])), (to, .inr (1, [.int to_deep, .int to_dishes, .int to_guests, .ref tolo, .ref tosa, .ref toea, .ref tocl]))] s.heap.size = A at hD ⊢
  have hA : ∀ q : Nat, s.heap.size ≤ q → A q := fun q h => by rw [← hAe]; exact Or.inr h
  have hS : va_S A s.heap s.heap [] := va_S.rf
  have hl := lv_entry ([.ref h0]) (n := 1) (Nat.le_of_ble_eq_true rfl)
  rw [lg_entry_eq]
  generalize (lg_sl ([.ref h0]) ++ List.replicate (1 - (lg_sl ([.ref h0])).length) Slot.unset).toArray = ls at hl ⊢
  have hl : lv_has ls 1 [(0, .ref h0)] := hl
  refine lv_aload_n hx hb dX11_untold_0 rfl (lv_at hl 0 rfl) ?_
  refine va_get (D := (dC, dI)) (ci := 11) (v := .ref to) (C := RX11) (T := TX11) (N := 19) hx hb hq inX11 hown hK hP 0 rfl rfl 7 (by decide) (hq _ qw_456) (fun _ h9 => h9) rfl dX11_untold_1 ?_
  refine va_get (D := (dC, dI)) (ci := 1) (v := .int to_deep) (C := RX1) (T := TX1) (N := 7) hx hb hq inX1 hown hK hP 1 rfl rfl 0 (by decide) (hq _ qw_227) (fun _ h9 => h9) rfl dX11_untold_4 ?_
  refine lv_if_ne (tgt := 14) hx hb dX11_untold_7 (by decide) (fun c_2 => ?_) (fun c_2 => ?_)
  · refine lv_iconst (v := 0) hx hb dX11_untold_14 (by decide) ?_
    refine W.widen (k := 0) (n := 0) (Nat.le_of_ble_eq_true rfl) (Nat.le_of_ble_eq_true rfl) ?_
    exact W.zret (v := 0) hx hb hr (by decide) (fun t ht hW => ⟨⟨0, (), rfl, trivial, by rw [ht]; exact hP, va_K.moved hW.alike hK, hD⟩, hS.F ht⟩) hS.2.2 dX11_untold_15
  · refine lv_iconst (v := 1) hx hb dX11_untold_10 (by decide) ?_
    refine lv_goto (tgt := 15) hx hb dX11_untold_11 (by decide) ?_
    refine W.widen (k := 0) (n := 0) (Nat.le_of_ble_eq_true rfl) (Nat.le_of_ble_eq_true rfl) ?_
    exact W.zret (v := 1) hx hb hr (by decide) (fun t ht hW => ⟨⟨1, (), rfl, trivial, by rw [ht]; exact hP, va_K.moved hW.alike hK, hD⟩, hS.F ht⟩) hS.2.2 dX11_untold_15

set_option maxHeartbeats 4000000 in
set_option maxRecDepth 100000 in
/-- x_isDish -/
theorem x_isDish (l : Launch) (dC : Nat → ClassId) (dI : Nat → Nat → Nat) (sz : Nat) (h0 : Nat) (tp : Nat) (s_taped : Int32) (dr : Nat) (rr : Nat) (rl : Nat) (s_ruleCount : Int32) (s_inForce : Int32) (to : Nat) (df : Nat) (nw : Nat) (tr : Nat) (no : Nat) (pa : Nat) (im : Nat) (co : Nat) (se : Nat) (ga : Nat) (pt : Nat) (s_x : Int32) (to_deep : Int32) (to_dishes : Int32) (to_guests : Int32) (tolo : Nat) (tosa : Nat) (toea : Nat) (tocl : Nat) (x0 : Int32) : Met l yX11_isDish (.code yX11_isDish cX11_isDish 2 (some .boolean) :: wsA) ({ frames := 0, cells := 0, slots := 0, locals := 0 }) (va_Pc [.ref h0, .int x0] (fun U => U.heap.size = sz ∧ va_P (dC, dI) classes [(h0, .inr (11, [.ref tp, .int s_taped, .ref dr, .ref rr, .ref rl, .int s_ruleCount, .int s_inForce, .ref to, .ref df, .ref nw, .ref tr, .ref no, .ref pa, .ref im, .ref co, .ref se, .ref ga, .ref pt, .int s_x])), (to, .inr (1, [.int to_deep, .int to_dishes, .int to_guests, .ref tolo, .ref tosa, .ref toea, .ref tocl]))] U.heap ∧ va_K (dC, dI) classes [] U ∧ va_D (fun _ => True) [(h0, .inr (11, [.ref tp, .int s_taped, .ref dr, .ref rr, .ref rl, .int s_ruleCount, .int s_inForce, .ref to, .ref df, .ref nw, .ref tr, .ref no, .ref pa, .ref im, .ref co, .ref se, .ref ga, .ref pt, .int s_x])), (to, .inr (1, [.int to_deep, .int to_dishes, .int to_guests, .ref tolo, .ref tosa, .ref toea, .ref tocl]))] ∧ xE U)) (va_Qi (fun (r : Int32) (_ : Unit) => True) (fun _ t => va_P (dC, dI) classes [(h0, .inr (11, [.ref tp, .int s_taped, .ref dr, .ref rr, .ref rl, .int s_ruleCount, .int s_inForce, .ref to, .ref df, .ref nw, .ref tr, .ref no, .ref pa, .ref im, .ref co, .ref se, .ref ga, .ref pt, .int s_x])), (to, .inr (1, [.int to_deep, .int to_dishes, .int to_guests, .ref tolo, .ref tosa, .ref toea, .ref tocl]))] t.heap ∧ va_K (dC, dI) classes [] t ∧ va_D (va_A [(h0, .inr (11, [.ref tp, .int s_taped, .ref dr, .ref rr, .ref rl, .int s_ruleCount, .int s_inForce, .ref to, .ref df, .ref nw, .ref tr, .ref no, .ref pa, .ref im, .ref co, .ref se, .ref ga, .ref pt, .int s_x])), (to, .inr (1, [.int to_deep, .int to_dishes, .int to_guests, .ref tolo, .ref tosa, .ref toea, .ref tocl]))] sz) [(h0, .inr (11, [.ref tp, .int s_taped, .ref dr, .ref rr, .ref rl, .int s_ruleCount, .int s_inForce, .ref to, .ref df, .ref nw, .ref tr, .ref no, .ref pa, .ref im, .ref co, .ref se, .ref ga, .ref pt, .int s_x])), (to, .inr (1, [.int to_deep, .int to_dishes, .int to_guests, .ref tolo, .ref tosa, .ref toea, .ref tocl]))]) (va_A [(h0, .inr (11, [.ref tp, .int s_taped, .ref dr, .ref rr, .ref rl, .int s_ruleCount, .int s_inForce, .ref to, .ref df, .ref nw, .ref tr, .ref no, .ref pa, .ref im, .ref co, .ref se, .ref ga, .ref pt, .int s_x])), (to, .inr (1, [.int to_deep, .int to_dishes, .int to_guests, .ref tolo, .ref tosa, .ref toea, .ref tocl]))] sz)) 0 0 (va_A [(h0, .inr (11, [.ref tp, .int s_taped, .ref dr, .ref rr, .ref rl, .int s_ruleCount, .int s_inForce, .ref to, .ref df, .ref nw, .ref tr, .ref no, .ref pa, .ref im, .ref co, .ref se, .ref ga, .ref pt, .int s_x])), (to, .inr (1, [.int to_deep, .int to_dishes, .int to_guests, .ref tolo, .ref tosa, .ref toea, .ref tocl]))] sz) := by
  refine Met.ofW (cc := cX11_isDish) (maxL := 2) (ret := (some .boolean)) (by decide) rfl ?_
  intro p e s m args below meth c s₁ B hml hv
  obtain ⟨rfl, hsz, hP, hK, hD0, hE⟩ := hv
  have hx := B.exec
  have hb := B.bytes
  have hr := B.returns
  have hts := atoms_spec (ws := .code yX11_isDish cX11_isDish 2 (some .boolean) :: wsA) B.pre
  have hq : ∀ w ∈ wsA, w.before _ s = true := fun w h => hts w (List.mem_cons_of_mem _ h)
  have hown : s.vm.findClass RX11 = some m.cls := findClass_of_methodNamed B.named
  have hlocks := B.notSynchronized
  subst hsz
  have hD := hD0.self (sz := s.heap.size)
  generalize hAe : va_A [(h0, .inr (11, [.ref tp, .int s_taped, .ref dr, .ref rr, .ref rl, .int s_ruleCount, .int s_inForce, .ref to, .ref df, .ref nw, .ref tr, .ref no, .ref pa, .ref im, .ref co, .ref se, .ref ga, .ref pt, .int s_x])), (to, .inr (1, [.int to_deep, .int to_dishes, .int to_guests, .ref tolo, .ref tosa, .ref toea, .ref tocl]))] s.heap.size = A at hD ⊢
  have hA : ∀ q : Nat, s.heap.size ≤ q → A q := fun q h => by rw [← hAe]; exact Or.inr h
  have hS : va_S A s.heap s.heap [] := va_S.rf
  have hl := lv_entry ([.ref h0, .int x0]) (n := 2) (Nat.le_of_ble_eq_true rfl)
  rw [lg_entry_eq]
  generalize (lg_sl ([.ref h0, .int x0]) ++ List.replicate (2 - (lg_sl ([.ref h0, .int x0])).length) Slot.unset).toArray = ls at hl ⊢
  have hl : lv_has ls 2 [(0, .ref h0), (1, .int x0)] := hl
  refine lv_iload_n hx hb dX11_isDish_0 rfl (lv_at hl 1 rfl) ?_
  refine W.cut (I := fun H locs g => ∃ (ls : Array Slot), va_P (dC, dI) classes [(h0, .inr (11, [.ref tp, .int s_taped, .ref dr, .ref rr, .ref rl, .int s_ruleCount, .int s_inForce, .ref to, .ref df, .ref nw, .ref tr, .ref no, .ref pa, .ref im, .ref co, .ref se, .ref ga, .ref pt, .int s_x])), (to, .inr (1, [.int to_deep, .int to_dishes, .int to_guests, .ref tolo, .ref tosa, .ref toea, .ref tocl]))] H ∧ va_D A [(h0, .inr (11, [.ref tp, .int s_taped, .ref dr, .ref rr, .ref rl, .int s_ruleCount, .int s_inForce, .ref to, .ref df, .ref nw, .ref tr, .ref no, .ref pa, .ref im, .ref co, .ref se, .ref ga, .ref pt, .int s_x])), (to, .inr (1, [.int to_deep, .int to_dishes, .int to_guests, .ref tolo, .ref tosa, .ref toea, .ref tocl]))] ∧ va_S A s.heap H locs ∧ lv_has ls 2 [] ∧ g = F0 m 19 ls []) (fun H locs g h => ?_) (fun hJ19 => ?_)
  · obtain ⟨ls, hP, hD, hS, hl, rfl⟩ := h
    refine lv_iconst (v := 0) hx hb dX11_isDish_19 (by decide) ?_
    refine W.widen (k := 0) (n := 0) (Nat.le_of_ble_eq_true rfl) (Nat.le_of_ble_eq_true rfl) ?_
    exact W.zret (v := 0) hx hb hr (by decide) (fun t ht hW => ⟨⟨0, (), rfl, trivial, by rw [ht]; exact hP, va_K.moved hW.alike hK, hD⟩, hS.F ht⟩) hS.2.2 dX11_isDish_20
  refine lv_if_lt (tgt := 19) hx hb dX11_isDish_1 (by decide) (fun c_5 => ?_) (fun c_5 => ?_)
  · exact hJ19 _ _ _ ⟨_, hP, hD, hS, (lv_sub hl [] rfl), rfl⟩
  · refine lv_iload_n hx hb dX11_isDish_4 rfl (lv_at hl 1 rfl) ?_
    refine lv_aload_n hx hb dX11_isDish_5 rfl (lv_at hl 0 rfl) ?_
    refine va_get (D := (dC, dI)) (ci := 11) (v := .ref to) (C := RX11) (T := TX11) (N := 19) hx hb hq inX11 hown hK hP 0 rfl rfl 7 (by decide) (hq _ qw_456) (fun _ h9 => h9) rfl dX11_isDish_6 ?_
    refine va_get (D := (dC, dI)) (ci := 1) (v := .int to_dishes) (C := RX1) (T := TX1) (N := 7) hx hb hq inX1 hown hK hP 1 rfl rfl 1 (by decide) (hq _ qw_231) (fun _ h9 => h9) rfl dX11_isDish_9 ?_
    refine lv_icmp_ge (tgt := 19) hx hb dX11_isDish_12 (by decide) (fun c_6 => ?_) (fun c_6 => ?_)
    · exact hJ19 _ _ _ ⟨_, hP, hD, hS, (lv_sub hl [] rfl), rfl⟩
    · refine lv_iconst (v := 1) hx hb dX11_isDish_15 (by decide) ?_
      refine lv_goto (tgt := 20) hx hb dX11_isDish_16 (by decide) ?_
      refine W.widen (k := 0) (n := 0) (Nat.le_of_ble_eq_true rfl) (Nat.le_of_ble_eq_true rfl) ?_
      exact W.zret (v := 1) hx hb hr (by decide) (fun t ht hW => ⟨⟨1, (), rfl, trivial, by rw [ht]; exact hP, va_K.moved hW.alike hK, hD⟩, hS.F ht⟩) hS.2.2 dX11_isDish_20

set_option maxHeartbeats 4000000 in
set_option maxRecDepth 100000 in
/-- x_isGuest -/
theorem x_isGuest (l : Launch) (dC : Nat → ClassId) (dI : Nat → Nat → Nat) (sz : Nat) (h0 : Nat) (tp : Nat) (s_taped : Int32) (dr : Nat) (rr : Nat) (rl : Nat) (s_ruleCount : Int32) (s_inForce : Int32) (to : Nat) (df : Nat) (nw : Nat) (tr : Nat) (no : Nat) (pa : Nat) (im : Nat) (co : Nat) (se : Nat) (ga : Nat) (pt : Nat) (s_x : Int32) (to_deep : Int32) (to_dishes : Int32) (to_guests : Int32) (tolo : Nat) (tosa : Nat) (toea : Nat) (tocl : Nat) (x0 : Int32) : Met l yX11_isGuest (.code yX11_isGuest cX11_isGuest 2 (some .boolean) :: wsA) ({ frames := 0, cells := 0, slots := 0, locals := 0 }) (va_Pc [.ref h0, .int x0] (fun U => U.heap.size = sz ∧ va_P (dC, dI) classes [(h0, .inr (11, [.ref tp, .int s_taped, .ref dr, .ref rr, .ref rl, .int s_ruleCount, .int s_inForce, .ref to, .ref df, .ref nw, .ref tr, .ref no, .ref pa, .ref im, .ref co, .ref se, .ref ga, .ref pt, .int s_x])), (to, .inr (1, [.int to_deep, .int to_dishes, .int to_guests, .ref tolo, .ref tosa, .ref toea, .ref tocl]))] U.heap ∧ va_K (dC, dI) classes [] U ∧ va_D (fun _ => True) [(h0, .inr (11, [.ref tp, .int s_taped, .ref dr, .ref rr, .ref rl, .int s_ruleCount, .int s_inForce, .ref to, .ref df, .ref nw, .ref tr, .ref no, .ref pa, .ref im, .ref co, .ref se, .ref ga, .ref pt, .int s_x])), (to, .inr (1, [.int to_deep, .int to_dishes, .int to_guests, .ref tolo, .ref tosa, .ref toea, .ref tocl]))] ∧ xE U)) (va_Qi (fun (r : Int32) (_ : Unit) => True) (fun _ t => va_P (dC, dI) classes [(h0, .inr (11, [.ref tp, .int s_taped, .ref dr, .ref rr, .ref rl, .int s_ruleCount, .int s_inForce, .ref to, .ref df, .ref nw, .ref tr, .ref no, .ref pa, .ref im, .ref co, .ref se, .ref ga, .ref pt, .int s_x])), (to, .inr (1, [.int to_deep, .int to_dishes, .int to_guests, .ref tolo, .ref tosa, .ref toea, .ref tocl]))] t.heap ∧ va_K (dC, dI) classes [] t ∧ va_D (va_A [(h0, .inr (11, [.ref tp, .int s_taped, .ref dr, .ref rr, .ref rl, .int s_ruleCount, .int s_inForce, .ref to, .ref df, .ref nw, .ref tr, .ref no, .ref pa, .ref im, .ref co, .ref se, .ref ga, .ref pt, .int s_x])), (to, .inr (1, [.int to_deep, .int to_dishes, .int to_guests, .ref tolo, .ref tosa, .ref toea, .ref tocl]))] sz) [(h0, .inr (11, [.ref tp, .int s_taped, .ref dr, .ref rr, .ref rl, .int s_ruleCount, .int s_inForce, .ref to, .ref df, .ref nw, .ref tr, .ref no, .ref pa, .ref im, .ref co, .ref se, .ref ga, .ref pt, .int s_x])), (to, .inr (1, [.int to_deep, .int to_dishes, .int to_guests, .ref tolo, .ref tosa, .ref toea, .ref tocl]))]) (va_A [(h0, .inr (11, [.ref tp, .int s_taped, .ref dr, .ref rr, .ref rl, .int s_ruleCount, .int s_inForce, .ref to, .ref df, .ref nw, .ref tr, .ref no, .ref pa, .ref im, .ref co, .ref se, .ref ga, .ref pt, .int s_x])), (to, .inr (1, [.int to_deep, .int to_dishes, .int to_guests, .ref tolo, .ref tosa, .ref toea, .ref tocl]))] sz)) 0 0 (va_A [(h0, .inr (11, [.ref tp, .int s_taped, .ref dr, .ref rr, .ref rl, .int s_ruleCount, .int s_inForce, .ref to, .ref df, .ref nw, .ref tr, .ref no, .ref pa, .ref im, .ref co, .ref se, .ref ga, .ref pt, .int s_x])), (to, .inr (1, [.int to_deep, .int to_dishes, .int to_guests, .ref tolo, .ref tosa, .ref toea, .ref tocl]))] sz) := by
  refine Met.ofW (cc := cX11_isGuest) (maxL := 2) (ret := (some .boolean)) (by decide) rfl ?_
  intro p e s m args below meth c s₁ B hml hv
  obtain ⟨rfl, hsz, hP, hK, hD0, hE⟩ := hv
  have hx := B.exec
  have hb := B.bytes
  have hr := B.returns
  have hts := atoms_spec (ws := .code yX11_isGuest cX11_isGuest 2 (some .boolean) :: wsA) B.pre
  have hq : ∀ w ∈ wsA, w.before _ s = true := fun w h => hts w (List.mem_cons_of_mem _ h)
  have hown : s.vm.findClass RX11 = some m.cls := findClass_of_methodNamed B.named
  have hlocks := B.notSynchronized
  subst hsz
  have hD := hD0.self (sz := s.heap.size)
  generalize hAe : va_A [(h0, .inr (11, [.ref tp, .int s_taped, .ref dr, .ref rr, .ref rl, .int s_ruleCount, .int s_inForce, .ref to, .ref df, .ref nw, .ref tr, .ref no, .ref pa, .ref im, .ref co, .ref se, .ref ga, .ref pt, .int s_x])), (to, .inr (1, [.int to_deep, .int to_dishes, .int to_guests, .ref tolo, .ref tosa, .ref toea, .ref tocl]))] s.heap.size = A at hD ⊢
  have hA : ∀ q : Nat, s.heap.size ≤ q → A q := fun q h => by rw [← hAe]; exact Or.inr h
  have hS : va_S A s.heap s.heap [] := va_S.rf
  have hl := lv_entry ([.ref h0, .int x0]) (n := 2) (Nat.le_of_ble_eq_true rfl)
  rw [lg_entry_eq]
  generalize (lg_sl ([.ref h0, .int x0]) ++ List.replicate (2 - (lg_sl ([.ref h0, .int x0])).length) Slot.unset).toArray = ls at hl ⊢
  have hl : lv_has ls 2 [(0, .ref h0), (1, .int x0)] := hl
  refine lv_iload_n hx hb dX11_isGuest_0 rfl (lv_at hl 1 rfl) ?_
  refine W.cut (I := fun H locs g => ∃ (ls : Array Slot), va_P (dC, dI) classes [(h0, .inr (11, [.ref tp, .int s_taped, .ref dr, .ref rr, .ref rl, .int s_ruleCount, .int s_inForce, .ref to, .ref df, .ref nw, .ref tr, .ref no, .ref pa, .ref im, .ref co, .ref se, .ref ga, .ref pt, .int s_x])), (to, .inr (1, [.int to_deep, .int to_dishes, .int to_guests, .ref tolo, .ref tosa, .ref toea, .ref tocl]))] H ∧ va_D A [(h0, .inr (11, [.ref tp, .int s_taped, .ref dr, .ref rr, .ref rl, .int s_ruleCount, .int s_inForce, .ref to, .ref df, .ref nw, .ref tr, .ref no, .ref pa, .ref im, .ref co, .ref se, .ref ga, .ref pt, .int s_x])), (to, .inr (1, [.int to_deep, .int to_dishes, .int to_guests, .ref tolo, .ref tosa, .ref toea, .ref tocl]))] ∧ va_S A s.heap H locs ∧ lv_has ls 2 [] ∧ g = F0 m 19 ls []) (fun H locs g h => ?_) (fun hJ19 => ?_)
  · obtain ⟨ls, hP, hD, hS, hl, rfl⟩ := h
    refine lv_iconst (v := 0) hx hb dX11_isGuest_19 (by decide) ?_
    refine W.widen (k := 0) (n := 0) (Nat.le_of_ble_eq_true rfl) (Nat.le_of_ble_eq_true rfl) ?_
    exact W.zret (v := 0) hx hb hr (by decide) (fun t ht hW => ⟨⟨0, (), rfl, trivial, by rw [ht]; exact hP, va_K.moved hW.alike hK, hD⟩, hS.F ht⟩) hS.2.2 dX11_isGuest_20
  refine lv_if_lt (tgt := 19) hx hb dX11_isGuest_1 (by decide) (fun c_5 => ?_) (fun c_5 => ?_)
  · exact hJ19 _ _ _ ⟨_, hP, hD, hS, (lv_sub hl [] rfl), rfl⟩
  · refine lv_iload_n hx hb dX11_isGuest_4 rfl (lv_at hl 1 rfl) ?_
    refine lv_aload_n hx hb dX11_isGuest_5 rfl (lv_at hl 0 rfl) ?_
    refine va_get (D := (dC, dI)) (ci := 11) (v := .ref to) (C := RX11) (T := TX11) (N := 19) hx hb hq inX11 hown hK hP 0 rfl rfl 7 (by decide) (hq _ qw_456) (fun _ h9 => h9) rfl dX11_isGuest_6 ?_
    refine va_get (D := (dC, dI)) (ci := 1) (v := .int to_guests) (C := RX1) (T := TX1) (N := 7) hx hb hq inX1 hown hK hP 1 rfl rfl 2 (by decide) (hq _ qw_235) (fun _ h9 => h9) rfl dX11_isGuest_9 ?_
    refine lv_icmp_ge (tgt := 19) hx hb dX11_isGuest_12 (by decide) (fun c_6 => ?_) (fun c_6 => ?_)
    · exact hJ19 _ _ _ ⟨_, hP, hD, hS, (lv_sub hl [] rfl), rfl⟩
    · refine lv_iconst (v := 1) hx hb dX11_isGuest_15 (by decide) ?_
      refine lv_goto (tgt := 20) hx hb dX11_isGuest_16 (by decide) ?_
      refine W.widen (k := 0) (n := 0) (Nat.le_of_ble_eq_true rfl) (Nat.le_of_ble_eq_true rfl) ?_
      exact W.zret (v := 1) hx hb hr (by decide) (fun t ht hW => ⟨⟨1, (), rfl, trivial, by rw [ht]; exact hP, va_K.moved hW.alike hK, hD⟩, hS.F ht⟩) hS.2.2 dX11_isGuest_20

set_option maxHeartbeats 4000000 in
set_option maxRecDepth 100000 in
/-- x_ruleAt -/
theorem x_ruleAt (l : Launch) (dC : Nat → ClassId) (dI : Nat → Nat → Nat) (sz : Nat) (h0 : Nat) (tp : Nat) (s_taped : Int32) (dr : Nat) (rr : Nat) (rl : Nat) (s_ruleCount : Int32) (s_inForce : Int32) (to : Nat) (df : Nat) (nw : Nat) (tr : Nat) (no : Nat) (pa : Nat) (im : Nat) (co : Nat) (se : Nat) (ga : Nat) (pt : Nat) (s_x : Int32) (krl : ClassId) (grl : Nat → Option Nat) (ru0 : Nat) (ru1 : Nat) (ru2 : Nat) (ru3 : Nat) (ru4 : Nat) (ru5 : Nat) (x0 : Int32) (fk_grl_0 : grl 0 = some ru0) (fk_grl_1 : grl 1 = some ru1) (fk_grl_2 : grl 2 = some ru2) (fk_grl_3 : grl 3 = some ru3) (fk_grl_4 : grl 4 = some ru4) (fk_grl_5 : grl 5 = some ru5) : Met l yX11_ruleAt (.code yX11_ruleAt cX11_ruleAt 2 (some (.object "SpokenBite$Rule")) :: wsA) ({ frames := 0, cells := 0, slots := 0, locals := 0 }) (va_Pc [.ref h0, .int x0] (fun U => U.heap.size = sz ∧ va_P (dC, dI) classes [(h0, .inr (11, [.ref tp, .int s_taped, .ref dr, .ref rr, .ref rl, .int s_ruleCount, .int s_inForce, .ref to, .ref df, .ref nw, .ref tr, .ref no, .ref pa, .ref im, .ref co, .ref se, .ref ga, .ref pt, .int s_x])), (rl, .inl (krl, 6, .inr (.inr (.inr (.inr grl)))))] U.heap ∧ va_K (dC, dI) classes [(krl, .object RX9)] U ∧ va_D (fun _ => True) [(h0, .inr (11, [.ref tp, .int s_taped, .ref dr, .ref rr, .ref rl, .int s_ruleCount, .int s_inForce, .ref to, .ref df, .ref nw, .ref tr, .ref no, .ref pa, .ref im, .ref co, .ref se, .ref ga, .ref pt, .int s_x])), (rl, .inl (krl, 6, .inr (.inr (.inr (.inr grl)))))] ∧ xE U)) (va_Qq (fun (r : Option Nat) (_ : Unit) => r = none ∨ r = some ru0 ∨ r = some ru1 ∨ r = some ru2 ∨ r = some ru3 ∨ r = some ru4 ∨ r = some ru5) (fun _ t => va_P (dC, dI) classes [(h0, .inr (11, [.ref tp, .int s_taped, .ref dr, .ref rr, .ref rl, .int s_ruleCount, .int s_inForce, .ref to, .ref df, .ref nw, .ref tr, .ref no, .ref pa, .ref im, .ref co, .ref se, .ref ga, .ref pt, .int s_x])), (rl, .inl (krl, 6, .inr (.inr (.inr (.inr grl)))))] t.heap ∧ va_K (dC, dI) classes [(krl, .object RX9)] t ∧ va_D (va_A [(h0, .inr (11, [.ref tp, .int s_taped, .ref dr, .ref rr, .ref rl, .int s_ruleCount, .int s_inForce, .ref to, .ref df, .ref nw, .ref tr, .ref no, .ref pa, .ref im, .ref co, .ref se, .ref ga, .ref pt, .int s_x])), (rl, .inl (krl, 6, .inr (.inr (.inr (.inr grl)))))] sz) [(h0, .inr (11, [.ref tp, .int s_taped, .ref dr, .ref rr, .ref rl, .int s_ruleCount, .int s_inForce, .ref to, .ref df, .ref nw, .ref tr, .ref no, .ref pa, .ref im, .ref co, .ref se, .ref ga, .ref pt, .int s_x])), (rl, .inl (krl, 6, .inr (.inr (.inr (.inr grl)))))]) (va_A [(h0, .inr (11, [.ref tp, .int s_taped, .ref dr, .ref rr, .ref rl, .int s_ruleCount, .int s_inForce, .ref to, .ref df, .ref nw, .ref tr, .ref no, .ref pa, .ref im, .ref co, .ref se, .ref ga, .ref pt, .int s_x])), (rl, .inl (krl, 6, .inr (.inr (.inr (.inr grl)))))] sz)) 0 0 (va_A [(h0, .inr (11, [.ref tp, .int s_taped, .ref dr, .ref rr, .ref rl, .int s_ruleCount, .int s_inForce, .ref to, .ref df, .ref nw, .ref tr, .ref no, .ref pa, .ref im, .ref co, .ref se, .ref ga, .ref pt, .int s_x])), (rl, .inl (krl, 6, .inr (.inr (.inr (.inr grl)))))] sz) := by
  refine Met.ofW (cc := cX11_ruleAt) (maxL := 2) (ret := (some (.object "SpokenBite$Rule"))) (by decide) rfl ?_
  intro p e s m args below meth c s₁ B hml hv
  obtain ⟨rfl, hsz, hP, hK, hD0, hE⟩ := hv
  have hx := B.exec
  have hb := B.bytes
  have hr := B.returns
  have hts := atoms_spec (ws := .code yX11_ruleAt cX11_ruleAt 2 (some (.object "SpokenBite$Rule")) :: wsA) B.pre
  have hq : ∀ w ∈ wsA, w.before _ s = true := fun w h => hts w (List.mem_cons_of_mem _ h)
  have hown : s.vm.findClass RX11 = some m.cls := findClass_of_methodNamed B.named
  have hlocks := B.notSynchronized
  subst hsz
  have hD := hD0.self (sz := s.heap.size)
  generalize hAe : va_A [(h0, .inr (11, [.ref tp, .int s_taped, .ref dr, .ref rr, .ref rl, .int s_ruleCount, .int s_inForce, .ref to, .ref df, .ref nw, .ref tr, .ref no, .ref pa, .ref im, .ref co, .ref se, .ref ga, .ref pt, .int s_x])), (rl, .inl (krl, 6, .inr (.inr (.inr (.inr grl)))))] s.heap.size = A at hD ⊢
  have hA : ∀ q : Nat, s.heap.size ≤ q → A q := fun q h => by rw [← hAe]; exact Or.inr h
  have hS : va_S A s.heap s.heap [] := va_S.rf
  have hl := lv_entry ([.ref h0, .int x0]) (n := 2) (Nat.le_of_ble_eq_true rfl)
  rw [lg_entry_eq]
  generalize (lg_sl ([.ref h0, .int x0]) ++ List.replicate (2 - (lg_sl ([.ref h0, .int x0])).length) Slot.unset).toArray = ls at hl ⊢
  have hl : lv_has ls 2 [(0, .ref h0), (1, .int x0)] := hl
  refine lv_iload_n hx hb dX11_ruleAt_0 rfl (lv_at hl 1 rfl) ?_
  refine W.cut (I := fun H locs g => ∃ (ls : Array Slot), va_P (dC, dI) classes [(h0, .inr (11, [.ref tp, .int s_taped, .ref dr, .ref rr, .ref rl, .int s_ruleCount, .int s_inForce, .ref to, .ref df, .ref nw, .ref tr, .ref no, .ref pa, .ref im, .ref co, .ref se, .ref ga, .ref pt, .int s_x])), (rl, .inl (krl, 6, .inr (.inr (.inr (.inr grl)))))] H ∧ va_D A [(h0, .inr (11, [.ref tp, .int s_taped, .ref dr, .ref rr, .ref rl, .int s_ruleCount, .int s_inForce, .ref to, .ref df, .ref nw, .ref tr, .ref no, .ref pa, .ref im, .ref co, .ref se, .ref ga, .ref pt, .int s_x])), (rl, .inl (krl, 6, .inr (.inr (.inr (.inr grl)))))] ∧ va_S A s.heap H locs ∧ lv_has ls 2 [] ∧ g = F0 m 22 ls []) (fun H locs g h => ?_) (fun hJ22 => ?_)
  · obtain ⟨ls, hP, hD, hS, hl, rfl⟩ := h
    refine lv_null hx hb dX11_ruleAt_22 ?_
    refine W.widen (k := 0) (n := 0) (Nat.le_of_ble_eq_true rfl) (Nat.le_of_ble_eq_true rfl) ?_
    exact W.aret (v := .null) hx hb hr (by first | exact Or.inl ⟨_, rfl⟩ | exact Or.inr ⟨_, rfl⟩) (Or.inl rfl) (fun t ht hW => ⟨⟨none, (), rfl, (Or.inl rfl), by rw [ht]; exact hP, va_K.moved hW.alike hK, hD⟩, hS.F ht⟩) hS.2.2 dX11_ruleAt_23
  refine lv_if_lt (tgt := 22) hx hb dX11_ruleAt_1 (by decide) (fun c_9 => ?_) (fun c_9 => ?_)
  · exact hJ22 _ _ _ ⟨_, hP, hD, hS, (lv_sub hl [] rfl), rfl⟩
  · refine lv_iload_n hx hb dX11_ruleAt_4 rfl (lv_at hl 1 rfl) ?_
    refine lv_aload_n hx hb dX11_ruleAt_5 rfl (lv_at hl 0 rfl) ?_
    refine va_get (D := (dC, dI)) (ci := 11) (v := .ref rl) (C := RX11) (T := TX11) (N := 19) hx hb hq inX11 hown hK hP 0 rfl rfl 4 (by decide) (hq _ qw_453) (fun _ h9 => h9) rfl dX11_ruleAt_6 ?_
    refine va_alen (v := 6) hx hb hK hP 1 0 rfl rfl rfl dX11_ruleAt_9 ?_
    refine lv_icmp_ge (tgt := 22) hx hb dX11_ruleAt_10 (by decide) (fun c_10 => ?_) (fun c_10 => ?_)
    · exact hJ22 _ _ _ ⟨_, hP, hD, hS, (lv_sub hl [] rfl), rfl⟩
    · refine lv_aload_n hx hb dX11_ruleAt_13 rfl (lv_at hl 0 rfl) ?_
      refine va_get (D := (dC, dI)) (ci := 11) (v := .ref rl) (C := RX11) (T := TX11) (N := 19) hx hb hq inX11 hown hK hP 0 rfl rfl 4 (by decide) (hq _ qw_453) (fun _ h9 => h9) rfl dX11_ruleAt_14 ?_
      refine lv_iload_n hx hb dX11_ruleAt_17 rfl (lv_at hl 1 rfl) ?_
      have b_11 : bt 0 2147483647 x0 := rf_le_r (bt_k (x := 0) (c := 0) (by decide)) (bt_all x0) (Int32.not_lt.mp c_9) (by decide)
      have b_12 : bt 0 5 x0 := rf_lt_l b_11 (bt_k (x := 6) (c := 6) (by decide)) (Int32.not_le.mp c_10) (by decide)
      refine va_aldq hx hb hK hP 1 0 rfl rfl (bt_in b_12 (by decide)) dX11_ruleAt_18 ?_
      rcases sp_0_5 b_12 with rfl | rfl | rfl | rfl | rfl | rfl
      · refine W.eq (g2 := F0 m 19 ls [.ref ru0]) (by rw [show grl (Int32.toNatClampNeg 0) = some ru0 from fk_grl_0]; rfl) ?_
        refine lv_goto (tgt := 23) hx hb dX11_ruleAt_19 (by decide) ?_
        refine W.widen (k := 0) (n := 0) (Nat.le_of_ble_eq_true rfl) (Nat.le_of_ble_eq_true rfl) ?_
        exact W.aret (v := .ref ru0) hx hb hr (by first | exact Or.inl ⟨_, rfl⟩ | exact Or.inr ⟨_, rfl⟩) (Or.inr ⟨_, rfl⟩) (fun t ht hW => ⟨⟨some ru0, (), rfl, (Or.inr (Or.inl rfl)), by rw [ht]; exact hP, va_K.moved hW.alike hK, hD⟩, hS.F ht⟩) hS.2.2 dX11_ruleAt_23
      · refine W.eq (g2 := F0 m 19 ls [.ref ru1]) (by rw [show grl (Int32.toNatClampNeg 1) = some ru1 from fk_grl_1]; rfl) ?_
        refine lv_goto (tgt := 23) hx hb dX11_ruleAt_19 (by decide) ?_
        refine W.widen (k := 0) (n := 0) (Nat.le_of_ble_eq_true rfl) (Nat.le_of_ble_eq_true rfl) ?_
        exact W.aret (v := .ref ru1) hx hb hr (by first | exact Or.inl ⟨_, rfl⟩ | exact Or.inr ⟨_, rfl⟩) (Or.inr ⟨_, rfl⟩) (fun t ht hW => ⟨⟨some ru1, (), rfl, (Or.inr (Or.inr (Or.inl rfl))), by rw [ht]; exact hP, va_K.moved hW.alike hK, hD⟩, hS.F ht⟩) hS.2.2 dX11_ruleAt_23
      · refine W.eq (g2 := F0 m 19 ls [.ref ru2]) (by rw [show grl (Int32.toNatClampNeg 2) = some ru2 from fk_grl_2]; rfl) ?_
        refine lv_goto (tgt := 23) hx hb dX11_ruleAt_19 (by decide) ?_
        refine W.widen (k := 0) (n := 0) (Nat.le_of_ble_eq_true rfl) (Nat.le_of_ble_eq_true rfl) ?_
        exact W.aret (v := .ref ru2) hx hb hr (by first | exact Or.inl ⟨_, rfl⟩ | exact Or.inr ⟨_, rfl⟩) (Or.inr ⟨_, rfl⟩) (fun t ht hW => ⟨⟨some ru2, (), rfl, (Or.inr (Or.inr (Or.inr (Or.inl rfl)))), by rw [ht]; exact hP, va_K.moved hW.alike hK, hD⟩, hS.F ht⟩) hS.2.2 dX11_ruleAt_23
      · refine W.eq (g2 := F0 m 19 ls [.ref ru3]) (by rw [show grl (Int32.toNatClampNeg 3) = some ru3 from fk_grl_3]; rfl) ?_
        refine lv_goto (tgt := 23) hx hb dX11_ruleAt_19 (by decide) ?_
        refine W.widen (k := 0) (n := 0) (Nat.le_of_ble_eq_true rfl) (Nat.le_of_ble_eq_true rfl) ?_
        exact W.aret (v := .ref ru3) hx hb hr (by first | exact Or.inl ⟨_, rfl⟩ | exact Or.inr ⟨_, rfl⟩) (Or.inr ⟨_, rfl⟩) (fun t ht hW => ⟨⟨some ru3, (), rfl, (Or.inr (Or.inr (Or.inr (Or.inr (Or.inl rfl))))), by rw [ht]; exact hP, va_K.moved hW.alike hK, hD⟩, hS.F ht⟩) hS.2.2 dX11_ruleAt_23
      · refine W.eq (g2 := F0 m 19 ls [.ref ru4]) (by rw [show grl (Int32.toNatClampNeg 4) = some ru4 from fk_grl_4]; rfl) ?_
        refine lv_goto (tgt := 23) hx hb dX11_ruleAt_19 (by decide) ?_
        refine W.widen (k := 0) (n := 0) (Nat.le_of_ble_eq_true rfl) (Nat.le_of_ble_eq_true rfl) ?_
        exact W.aret (v := .ref ru4) hx hb hr (by first | exact Or.inl ⟨_, rfl⟩ | exact Or.inr ⟨_, rfl⟩) (Or.inr ⟨_, rfl⟩) (fun t ht hW => ⟨⟨some ru4, (), rfl, (Or.inr (Or.inr (Or.inr (Or.inr (Or.inr (Or.inl rfl)))))), by rw [ht]; exact hP, va_K.moved hW.alike hK, hD⟩, hS.F ht⟩) hS.2.2 dX11_ruleAt_23
      · refine W.eq (g2 := F0 m 19 ls [.ref ru5]) (by rw [show grl (Int32.toNatClampNeg 5) = some ru5 from fk_grl_5]; rfl) ?_
        refine lv_goto (tgt := 23) hx hb dX11_ruleAt_19 (by decide) ?_
        refine W.widen (k := 0) (n := 0) (Nat.le_of_ble_eq_true rfl) (Nat.le_of_ble_eq_true rfl) ?_
        exact W.aret (v := .ref ru5) hx hb hr (by first | exact Or.inl ⟨_, rfl⟩ | exact Or.inr ⟨_, rfl⟩) (Or.inr ⟨_, rfl⟩) (fun t ht hW => ⟨⟨some ru5, (), rfl, (Or.inr (Or.inr (Or.inr (Or.inr (Or.inr (Or.inr rfl)))))), by rw [ht]; exact hP, va_K.moved hW.alike hK, hD⟩, hS.F ht⟩) hS.2.2 dX11_ruleAt_23

set_option maxHeartbeats 4000000 in
set_option maxRecDepth 100000 in
/-- x_imageAt_0 -/
theorem x_imageAt_0 (l : Launch) (dC : Nat → ClassId) (dI : Nat → Nat → Nat) (sz : Nat) (h0 : Nat) (tp : Nat) (s_taped : Int32) (dr : Nat) (rr : Nat) (rl : Nat) (s_ruleCount : Int32) (s_inForce : Int32) (to : Nat) (df : Nat) (nw : Nat) (tr : Nat) (no : Nat) (pa : Nat) (im : Nat) (co : Nat) (se : Nat) (ga : Nat) (pt : Nat) (s_x : Int32) (kim : ClassId) (gim : Nat → Option Nat) (i0 : Nat) (i1 : Nat) (i2 : Nat) (i3 : Nat) (fk_gim_0 : gim 0 = some i0) (fk_gim_1 : gim 1 = some i1) (fk_gim_2 : gim 2 = some i2) (fk_gim_3 : gim 3 = some i3) : Met l yX11_imageAt (.code yX11_imageAt cX11_imageAt 2 (some (.object "SpokenBite$Image")) :: wsA) ({ frames := 0, cells := 0, slots := 0, locals := 0 }) (va_Pc [.ref h0, .int 0] (fun U => U.heap.size = sz ∧ va_P (dC, dI) classes [(h0, .inr (11, [.ref tp, .int s_taped, .ref dr, .ref rr, .ref rl, .int s_ruleCount, .int s_inForce, .ref to, .ref df, .ref nw, .ref tr, .ref no, .ref pa, .ref im, .ref co, .ref se, .ref ga, .ref pt, .int s_x])), (im, .inl (kim, 4, .inr (.inr (.inr (.inr gim)))))] U.heap ∧ va_K (dC, dI) classes [(kim, .object RX4)] U ∧ va_D (fun _ => True) [(h0, .inr (11, [.ref tp, .int s_taped, .ref dr, .ref rr, .ref rl, .int s_ruleCount, .int s_inForce, .ref to, .ref df, .ref nw, .ref tr, .ref no, .ref pa, .ref im, .ref co, .ref se, .ref ga, .ref pt, .int s_x])), (im, .inl (kim, 4, .inr (.inr (.inr (.inr gim)))))] ∧ xE U)) (va_Qq (fun (r : Option Nat) (_ : Unit) => r = some i0) (fun _ t => va_P (dC, dI) classes [(h0, .inr (11, [.ref tp, .int s_taped, .ref dr, .ref rr, .ref rl, .int s_ruleCount, .int s_inForce, .ref to, .ref df, .ref nw, .ref tr, .ref no, .ref pa, .ref im, .ref co, .ref se, .ref ga, .ref pt, .int s_x])), (im, .inl (kim, 4, .inr (.inr (.inr (.inr gim)))))] t.heap ∧ va_K (dC, dI) classes [(kim, .object RX4)] t ∧ va_D (va_A [(h0, .inr (11, [.ref tp, .int s_taped, .ref dr, .ref rr, .ref rl, .int s_ruleCount, .int s_inForce, .ref to, .ref df, .ref nw, .ref tr, .ref no, .ref pa, .ref im, .ref co, .ref se, .ref ga, .ref pt, .int s_x])), (im, .inl (kim, 4, .inr (.inr (.inr (.inr gim)))))] sz) [(h0, .inr (11, [.ref tp, .int s_taped, .ref dr, .ref rr, .ref rl, .int s_ruleCount, .int s_inForce, .ref to, .ref df, .ref nw, .ref tr, .ref no, .ref pa, .ref im, .ref co, .ref se, .ref ga, .ref pt, .int s_x])), (im, .inl (kim, 4, .inr (.inr (.inr (.inr gim)))))]) (va_A [(h0, .inr (11, [.ref tp, .int s_taped, .ref dr, .ref rr, .ref rl, .int s_ruleCount, .int s_inForce, .ref to, .ref df, .ref nw, .ref tr, .ref no, .ref pa, .ref im, .ref co, .ref se, .ref ga, .ref pt, .int s_x])), (im, .inl (kim, 4, .inr (.inr (.inr (.inr gim)))))] sz)) 0 0 (va_A [(h0, .inr (11, [.ref tp, .int s_taped, .ref dr, .ref rr, .ref rl, .int s_ruleCount, .int s_inForce, .ref to, .ref df, .ref nw, .ref tr, .ref no, .ref pa, .ref im, .ref co, .ref se, .ref ga, .ref pt, .int s_x])), (im, .inl (kim, 4, .inr (.inr (.inr (.inr gim)))))] sz) := by
  refine Met.ofW (cc := cX11_imageAt) (maxL := 2) (ret := (some (.object "SpokenBite$Image"))) (by decide) rfl ?_
  intro p e s m args below meth c s₁ B hml hv
  obtain ⟨rfl, hsz, hP, hK, hD0, hE⟩ := hv
  have hx := B.exec
  have hb := B.bytes
  have hr := B.returns
  have hts := atoms_spec (ws := .code yX11_imageAt cX11_imageAt 2 (some (.object "SpokenBite$Image")) :: wsA) B.pre
  have hq : ∀ w ∈ wsA, w.before _ s = true := fun w h => hts w (List.mem_cons_of_mem _ h)
  have hown : s.vm.findClass RX11 = some m.cls := findClass_of_methodNamed B.named
  have hlocks := B.notSynchronized
  subst hsz
  have hD := hD0.self (sz := s.heap.size)
  generalize hAe : va_A [(h0, .inr (11, [.ref tp, .int s_taped, .ref dr, .ref rr, .ref rl, .int s_ruleCount, .int s_inForce, .ref to, .ref df, .ref nw, .ref tr, .ref no, .ref pa, .ref im, .ref co, .ref se, .ref ga, .ref pt, .int s_x])), (im, .inl (kim, 4, .inr (.inr (.inr (.inr gim)))))] s.heap.size = A at hD ⊢
  have hA : ∀ q : Nat, s.heap.size ≤ q → A q := fun q h => by rw [← hAe]; exact Or.inr h
  have hS : va_S A s.heap s.heap [] := va_S.rf
  have hl := lv_entry ([.ref h0, .int 0]) (n := 2) (Nat.le_of_ble_eq_true rfl)
  rw [lg_entry_eq]
  generalize (lg_sl ([.ref h0, .int 0]) ++ List.replicate (2 - (lg_sl ([.ref h0, .int 0])).length) Slot.unset).toArray = ls at hl ⊢
  have hl : lv_has ls 2 [(0, .ref h0), (1, .int 0)] := hl
  refine lv_iload_n hx hb dX11_imageAt_0 rfl (lv_at hl 1 rfl) ?_
  refine lv_if_lt (tgt := 22) hx hb dX11_imageAt_1 (by decide) (fun c9 => absurd c9 (by decide)) (fun _ => ?_)
  refine lv_iload_n hx hb dX11_imageAt_4 rfl (lv_at hl 1 rfl) ?_
  refine lv_aload_n hx hb dX11_imageAt_5 rfl (lv_at hl 0 rfl) ?_
  refine va_get (D := (dC, dI)) (ci := 11) (v := .ref im) (C := RX11) (T := TX11) (N := 19) hx hb hq inX11 hown hK hP 0 rfl rfl 13 (by decide) (hq _ qw_462) (fun _ h9 => h9) rfl dX11_imageAt_6 ?_
  refine va_alen (v := 4) hx hb hK hP 1 0 rfl rfl rfl dX11_imageAt_9 ?_
  refine lv_icmp_ge (tgt := 22) hx hb dX11_imageAt_10 (by decide) (fun c9 => absurd c9 (by decide)) (fun _ => ?_)
  refine lv_aload_n hx hb dX11_imageAt_13 rfl (lv_at hl 0 rfl) ?_
  refine va_get (D := (dC, dI)) (ci := 11) (v := .ref im) (C := RX11) (T := TX11) (N := 19) hx hb hq inX11 hown hK hP 0 rfl rfl 13 (by decide) (hq _ qw_462) (fun _ h9 => h9) rfl dX11_imageAt_14 ?_
  refine lv_iload_n hx hb dX11_imageAt_17 rfl (lv_at hl 1 rfl) ?_
  refine va_aldq hx hb hK hP 1 0 rfl rfl (inr_ok rfl) dX11_imageAt_18 ?_
  refine W.eq (g2 := F0 m 19 ls [.ref i0]) (by rw [show gim (Int32.toNatClampNeg 0) = some i0 from fk_gim_0]; rfl) ?_
  refine lv_goto (tgt := 23) hx hb dX11_imageAt_19 (by decide) ?_
  refine W.widen (k := 0) (n := 0) (Nat.le_of_ble_eq_true rfl) (Nat.le_of_ble_eq_true rfl) ?_
  exact W.aret (v := .ref i0) hx hb hr (by first | exact Or.inl ⟨_, rfl⟩ | exact Or.inr ⟨_, rfl⟩) (Or.inr ⟨_, rfl⟩) (fun t ht hW => ⟨⟨some i0, (), rfl, rfl, by rw [ht]; exact hP, va_K.moved hW.alike hK, hD⟩, hS.F ht⟩) hS.2.2 dX11_imageAt_23

set_option maxHeartbeats 4000000 in
set_option maxRecDepth 100000 in
/-- x_imageAt_1 -/
theorem x_imageAt_1 (l : Launch) (dC : Nat → ClassId) (dI : Nat → Nat → Nat) (sz : Nat) (h0 : Nat) (tp : Nat) (s_taped : Int32) (dr : Nat) (rr : Nat) (rl : Nat) (s_ruleCount : Int32) (s_inForce : Int32) (to : Nat) (df : Nat) (nw : Nat) (tr : Nat) (no : Nat) (pa : Nat) (im : Nat) (co : Nat) (se : Nat) (ga : Nat) (pt : Nat) (s_x : Int32) (kim : ClassId) (gim : Nat → Option Nat) (i0 : Nat) (i1 : Nat) (i2 : Nat) (i3 : Nat) (fk_gim_0 : gim 0 = some i0) (fk_gim_1 : gim 1 = some i1) (fk_gim_2 : gim 2 = some i2) (fk_gim_3 : gim 3 = some i3) : Met l yX11_imageAt (.code yX11_imageAt cX11_imageAt 2 (some (.object "SpokenBite$Image")) :: wsA) ({ frames := 0, cells := 0, slots := 0, locals := 0 }) (va_Pc [.ref h0, .int 1] (fun U => U.heap.size = sz ∧ va_P (dC, dI) classes [(h0, .inr (11, [.ref tp, .int s_taped, .ref dr, .ref rr, .ref rl, .int s_ruleCount, .int s_inForce, .ref to, .ref df, .ref nw, .ref tr, .ref no, .ref pa, .ref im, .ref co, .ref se, .ref ga, .ref pt, .int s_x])), (im, .inl (kim, 4, .inr (.inr (.inr (.inr gim)))))] U.heap ∧ va_K (dC, dI) classes [(kim, .object RX4)] U ∧ va_D (fun _ => True) [(h0, .inr (11, [.ref tp, .int s_taped, .ref dr, .ref rr, .ref rl, .int s_ruleCount, .int s_inForce, .ref to, .ref df, .ref nw, .ref tr, .ref no, .ref pa, .ref im, .ref co, .ref se, .ref ga, .ref pt, .int s_x])), (im, .inl (kim, 4, .inr (.inr (.inr (.inr gim)))))] ∧ xE U)) (va_Qq (fun (r : Option Nat) (_ : Unit) => r = some i1) (fun _ t => va_P (dC, dI) classes [(h0, .inr (11, [.ref tp, .int s_taped, .ref dr, .ref rr, .ref rl, .int s_ruleCount, .int s_inForce, .ref to, .ref df, .ref nw, .ref tr, .ref no, .ref pa, .ref im, .ref co, .ref se, .ref ga, .ref pt, .int s_x])), (im, .inl (kim, 4, .inr (.inr (.inr (.inr gim)))))] t.heap ∧ va_K (dC, dI) classes [(kim, .object RX4)] t ∧ va_D (va_A [(h0, .inr (11, [.ref tp, .int s_taped, .ref dr, .ref rr, .ref rl, .int s_ruleCount, .int s_inForce, .ref to, .ref df, .ref nw, .ref tr, .ref no, .ref pa, .ref im, .ref co, .ref se, .ref ga, .ref pt, .int s_x])), (im, .inl (kim, 4, .inr (.inr (.inr (.inr gim)))))] sz) [(h0, .inr (11, [.ref tp, .int s_taped, .ref dr, .ref rr, .ref rl, .int s_ruleCount, .int s_inForce, .ref to, .ref df, .ref nw, .ref tr, .ref no, .ref pa, .ref im, .ref co, .ref se, .ref ga, .ref pt, .int s_x])), (im, .inl (kim, 4, .inr (.inr (.inr (.inr gim)))))]) (va_A [(h0, .inr (11, [.ref tp, .int s_taped, .ref dr, .ref rr, .ref rl, .int s_ruleCount, .int s_inForce, .ref to, .ref df, .ref nw, .ref tr, .ref no, .ref pa, .ref im, .ref co, .ref se, .ref ga, .ref pt, .int s_x])), (im, .inl (kim, 4, .inr (.inr (.inr (.inr gim)))))] sz)) 0 0 (va_A [(h0, .inr (11, [.ref tp, .int s_taped, .ref dr, .ref rr, .ref rl, .int s_ruleCount, .int s_inForce, .ref to, .ref df, .ref nw, .ref tr, .ref no, .ref pa, .ref im, .ref co, .ref se, .ref ga, .ref pt, .int s_x])), (im, .inl (kim, 4, .inr (.inr (.inr (.inr gim)))))] sz) := by
  refine Met.ofW (cc := cX11_imageAt) (maxL := 2) (ret := (some (.object "SpokenBite$Image"))) (by decide) rfl ?_
  intro p e s m args below meth c s₁ B hml hv
  obtain ⟨rfl, hsz, hP, hK, hD0, hE⟩ := hv
  have hx := B.exec
  have hb := B.bytes
  have hr := B.returns
  have hts := atoms_spec (ws := .code yX11_imageAt cX11_imageAt 2 (some (.object "SpokenBite$Image")) :: wsA) B.pre
  have hq : ∀ w ∈ wsA, w.before _ s = true := fun w h => hts w (List.mem_cons_of_mem _ h)
  have hown : s.vm.findClass RX11 = some m.cls := findClass_of_methodNamed B.named
  have hlocks := B.notSynchronized
  subst hsz
  have hD := hD0.self (sz := s.heap.size)
  generalize hAe : va_A [(h0, .inr (11, [.ref tp, .int s_taped, .ref dr, .ref rr, .ref rl, .int s_ruleCount, .int s_inForce, .ref to, .ref df, .ref nw, .ref tr, .ref no, .ref pa, .ref im, .ref co, .ref se, .ref ga, .ref pt, .int s_x])), (im, .inl (kim, 4, .inr (.inr (.inr (.inr gim)))))] s.heap.size = A at hD ⊢
  have hA : ∀ q : Nat, s.heap.size ≤ q → A q := fun q h => by rw [← hAe]; exact Or.inr h
  have hS : va_S A s.heap s.heap [] := va_S.rf
  have hl := lv_entry ([.ref h0, .int 1]) (n := 2) (Nat.le_of_ble_eq_true rfl)
  rw [lg_entry_eq]
  generalize (lg_sl ([.ref h0, .int 1]) ++ List.replicate (2 - (lg_sl ([.ref h0, .int 1])).length) Slot.unset).toArray = ls at hl ⊢
  have hl : lv_has ls 2 [(0, .ref h0), (1, .int 1)] := hl
  refine lv_iload_n hx hb dX11_imageAt_0 rfl (lv_at hl 1 rfl) ?_
  refine lv_if_lt (tgt := 22) hx hb dX11_imageAt_1 (by decide) (fun c9 => absurd c9 (by decide)) (fun _ => ?_)
  refine lv_iload_n hx hb dX11_imageAt_4 rfl (lv_at hl 1 rfl) ?_
  refine lv_aload_n hx hb dX11_imageAt_5 rfl (lv_at hl 0 rfl) ?_
  refine va_get (D := (dC, dI)) (ci := 11) (v := .ref im) (C := RX11) (T := TX11) (N := 19) hx hb hq inX11 hown hK hP 0 rfl rfl 13 (by decide) (hq _ qw_462) (fun _ h9 => h9) rfl dX11_imageAt_6 ?_
  refine va_alen (v := 4) hx hb hK hP 1 0 rfl rfl rfl dX11_imageAt_9 ?_
  refine lv_icmp_ge (tgt := 22) hx hb dX11_imageAt_10 (by decide) (fun c9 => absurd c9 (by decide)) (fun _ => ?_)
  refine lv_aload_n hx hb dX11_imageAt_13 rfl (lv_at hl 0 rfl) ?_
  refine va_get (D := (dC, dI)) (ci := 11) (v := .ref im) (C := RX11) (T := TX11) (N := 19) hx hb hq inX11 hown hK hP 0 rfl rfl 13 (by decide) (hq _ qw_462) (fun _ h9 => h9) rfl dX11_imageAt_14 ?_
  refine lv_iload_n hx hb dX11_imageAt_17 rfl (lv_at hl 1 rfl) ?_
  refine va_aldq hx hb hK hP 1 0 rfl rfl (inr_ok rfl) dX11_imageAt_18 ?_
  refine W.eq (g2 := F0 m 19 ls [.ref i1]) (by rw [show gim (Int32.toNatClampNeg 1) = some i1 from fk_gim_1]; rfl) ?_
  refine lv_goto (tgt := 23) hx hb dX11_imageAt_19 (by decide) ?_
  refine W.widen (k := 0) (n := 0) (Nat.le_of_ble_eq_true rfl) (Nat.le_of_ble_eq_true rfl) ?_
  exact W.aret (v := .ref i1) hx hb hr (by first | exact Or.inl ⟨_, rfl⟩ | exact Or.inr ⟨_, rfl⟩) (Or.inr ⟨_, rfl⟩) (fun t ht hW => ⟨⟨some i1, (), rfl, rfl, by rw [ht]; exact hP, va_K.moved hW.alike hK, hD⟩, hS.F ht⟩) hS.2.2 dX11_imageAt_23

set_option maxHeartbeats 4000000 in
set_option maxRecDepth 100000 in
/-- x_imageAt_2 -/
theorem x_imageAt_2 (l : Launch) (dC : Nat → ClassId) (dI : Nat → Nat → Nat) (sz : Nat) (h0 : Nat) (tp : Nat) (s_taped : Int32) (dr : Nat) (rr : Nat) (rl : Nat) (s_ruleCount : Int32) (s_inForce : Int32) (to : Nat) (df : Nat) (nw : Nat) (tr : Nat) (no : Nat) (pa : Nat) (im : Nat) (co : Nat) (se : Nat) (ga : Nat) (pt : Nat) (s_x : Int32) (kim : ClassId) (gim : Nat → Option Nat) (i0 : Nat) (i1 : Nat) (i2 : Nat) (i3 : Nat) (fk_gim_0 : gim 0 = some i0) (fk_gim_1 : gim 1 = some i1) (fk_gim_2 : gim 2 = some i2) (fk_gim_3 : gim 3 = some i3) : Met l yX11_imageAt (.code yX11_imageAt cX11_imageAt 2 (some (.object "SpokenBite$Image")) :: wsA) ({ frames := 0, cells := 0, slots := 0, locals := 0 }) (va_Pc [.ref h0, .int 2] (fun U => U.heap.size = sz ∧ va_P (dC, dI) classes [(h0, .inr (11, [.ref tp, .int s_taped, .ref dr, .ref rr, .ref rl, .int s_ruleCount, .int s_inForce, .ref to, .ref df, .ref nw, .ref tr, .ref no, .ref pa, .ref im, .ref co, .ref se, .ref ga, .ref pt, .int s_x])), (im, .inl (kim, 4, .inr (.inr (.inr (.inr gim)))))] U.heap ∧ va_K (dC, dI) classes [(kim, .object RX4)] U ∧ va_D (fun _ => True) [(h0, .inr (11, [.ref tp, .int s_taped, .ref dr, .ref rr, .ref rl, .int s_ruleCount, .int s_inForce, .ref to, .ref df, .ref nw, .ref tr, .ref no, .ref pa, .ref im, .ref co, .ref se, .ref ga, .ref pt, .int s_x])), (im, .inl (kim, 4, .inr (.inr (.inr (.inr gim)))))] ∧ xE U)) (va_Qq (fun (r : Option Nat) (_ : Unit) => r = some i2) (fun _ t => va_P (dC, dI) classes [(h0, .inr (11, [.ref tp, .int s_taped, .ref dr, .ref rr, .ref rl, .int s_ruleCount, .int s_inForce, .ref to, .ref df, .ref nw, .ref tr, .ref no, .ref pa, .ref im, .ref co, .ref se, .ref ga, .ref pt, .int s_x])), (im, .inl (kim, 4, .inr (.inr (.inr (.inr gim)))))] t.heap ∧ va_K (dC, dI) classes [(kim, .object RX4)] t ∧ va_D (va_A [(h0, .inr (11, [.ref tp, .int s_taped, .ref dr, .ref rr, .ref rl, .int s_ruleCount, .int s_inForce, .ref to, .ref df, .ref nw, .ref tr, .ref no, .ref pa, .ref im, .ref co, .ref se, .ref ga, .ref pt, .int s_x])), (im, .inl (kim, 4, .inr (.inr (.inr (.inr gim)))))] sz) [(h0, .inr (11, [.ref tp, .int s_taped, .ref dr, .ref rr, .ref rl, .int s_ruleCount, .int s_inForce, .ref to, .ref df, .ref nw, .ref tr, .ref no, .ref pa, .ref im, .ref co, .ref se, .ref ga, .ref pt, .int s_x])), (im, .inl (kim, 4, .inr (.inr (.inr (.inr gim)))))]) (va_A [(h0, .inr (11, [.ref tp, .int s_taped, .ref dr, .ref rr, .ref rl, .int s_ruleCount, .int s_inForce, .ref to, .ref df, .ref nw, .ref tr, .ref no, .ref pa, .ref im, .ref co, .ref se, .ref ga, .ref pt, .int s_x])), (im, .inl (kim, 4, .inr (.inr (.inr (.inr gim)))))] sz)) 0 0 (va_A [(h0, .inr (11, [.ref tp, .int s_taped, .ref dr, .ref rr, .ref rl, .int s_ruleCount, .int s_inForce, .ref to, .ref df, .ref nw, .ref tr, .ref no, .ref pa, .ref im, .ref co, .ref se, .ref ga, .ref pt, .int s_x])), (im, .inl (kim, 4, .inr (.inr (.inr (.inr gim)))))] sz) := by
  refine Met.ofW (cc := cX11_imageAt) (maxL := 2) (ret := (some (.object "SpokenBite$Image"))) (by decide) rfl ?_
  intro p e s m args below meth c s₁ B hml hv
  obtain ⟨rfl, hsz, hP, hK, hD0, hE⟩ := hv
  have hx := B.exec
  have hb := B.bytes
  have hr := B.returns
  have hts := atoms_spec (ws := .code yX11_imageAt cX11_imageAt 2 (some (.object "SpokenBite$Image")) :: wsA) B.pre
  have hq : ∀ w ∈ wsA, w.before _ s = true := fun w h => hts w (List.mem_cons_of_mem _ h)
  have hown : s.vm.findClass RX11 = some m.cls := findClass_of_methodNamed B.named
  have hlocks := B.notSynchronized
  subst hsz
  have hD := hD0.self (sz := s.heap.size)
  generalize hAe : va_A [(h0, .inr (11, [.ref tp, .int s_taped, .ref dr, .ref rr, .ref rl, .int s_ruleCount, .int s_inForce, .ref to, .ref df, .ref nw, .ref tr, .ref no, .ref pa, .ref im, .ref co, .ref se, .ref ga, .ref pt, .int s_x])), (im, .inl (kim, 4, .inr (.inr (.inr (.inr gim)))))] s.heap.size = A at hD ⊢
  have hA : ∀ q : Nat, s.heap.size ≤ q → A q := fun q h => by rw [← hAe]; exact Or.inr h
  have hS : va_S A s.heap s.heap [] := va_S.rf
  have hl := lv_entry ([.ref h0, .int 2]) (n := 2) (Nat.le_of_ble_eq_true rfl)
  rw [lg_entry_eq]
  generalize (lg_sl ([.ref h0, .int 2]) ++ List.replicate (2 - (lg_sl ([.ref h0, .int 2])).length) Slot.unset).toArray = ls at hl ⊢
  have hl : lv_has ls 2 [(0, .ref h0), (1, .int 2)] := hl
  refine lv_iload_n hx hb dX11_imageAt_0 rfl (lv_at hl 1 rfl) ?_
  refine lv_if_lt (tgt := 22) hx hb dX11_imageAt_1 (by decide) (fun c9 => absurd c9 (by decide)) (fun _ => ?_)
  refine lv_iload_n hx hb dX11_imageAt_4 rfl (lv_at hl 1 rfl) ?_
  refine lv_aload_n hx hb dX11_imageAt_5 rfl (lv_at hl 0 rfl) ?_
  refine va_get (D := (dC, dI)) (ci := 11) (v := .ref im) (C := RX11) (T := TX11) (N := 19) hx hb hq inX11 hown hK hP 0 rfl rfl 13 (by decide) (hq _ qw_462) (fun _ h9 => h9) rfl dX11_imageAt_6 ?_
  refine va_alen (v := 4) hx hb hK hP 1 0 rfl rfl rfl dX11_imageAt_9 ?_
  refine lv_icmp_ge (tgt := 22) hx hb dX11_imageAt_10 (by decide) (fun c9 => absurd c9 (by decide)) (fun _ => ?_)
  refine lv_aload_n hx hb dX11_imageAt_13 rfl (lv_at hl 0 rfl) ?_
  refine va_get (D := (dC, dI)) (ci := 11) (v := .ref im) (C := RX11) (T := TX11) (N := 19) hx hb hq inX11 hown hK hP 0 rfl rfl 13 (by decide) (hq _ qw_462) (fun _ h9 => h9) rfl dX11_imageAt_14 ?_
  refine lv_iload_n hx hb dX11_imageAt_17 rfl (lv_at hl 1 rfl) ?_
  refine va_aldq hx hb hK hP 1 0 rfl rfl (inr_ok rfl) dX11_imageAt_18 ?_
  refine W.eq (g2 := F0 m 19 ls [.ref i2]) (by rw [show gim (Int32.toNatClampNeg 2) = some i2 from fk_gim_2]; rfl) ?_
  refine lv_goto (tgt := 23) hx hb dX11_imageAt_19 (by decide) ?_
  refine W.widen (k := 0) (n := 0) (Nat.le_of_ble_eq_true rfl) (Nat.le_of_ble_eq_true rfl) ?_
  exact W.aret (v := .ref i2) hx hb hr (by first | exact Or.inl ⟨_, rfl⟩ | exact Or.inr ⟨_, rfl⟩) (Or.inr ⟨_, rfl⟩) (fun t ht hW => ⟨⟨some i2, (), rfl, rfl, by rw [ht]; exact hP, va_K.moved hW.alike hK, hD⟩, hS.F ht⟩) hS.2.2 dX11_imageAt_23

set_option maxHeartbeats 4000000 in
set_option maxRecDepth 100000 in
/-- x_imageAt_3 -/
theorem x_imageAt_3 (l : Launch) (dC : Nat → ClassId) (dI : Nat → Nat → Nat) (sz : Nat) (h0 : Nat) (tp : Nat) (s_taped : Int32) (dr : Nat) (rr : Nat) (rl : Nat) (s_ruleCount : Int32) (s_inForce : Int32) (to : Nat) (df : Nat) (nw : Nat) (tr : Nat) (no : Nat) (pa : Nat) (im : Nat) (co : Nat) (se : Nat) (ga : Nat) (pt : Nat) (s_x : Int32) (kim : ClassId) (gim : Nat → Option Nat) (i0 : Nat) (i1 : Nat) (i2 : Nat) (i3 : Nat) (fk_gim_0 : gim 0 = some i0) (fk_gim_1 : gim 1 = some i1) (fk_gim_2 : gim 2 = some i2) (fk_gim_3 : gim 3 = some i3) : Met l yX11_imageAt (.code yX11_imageAt cX11_imageAt 2 (some (.object "SpokenBite$Image")) :: wsA) ({ frames := 0, cells := 0, slots := 0, locals := 0 }) (va_Pc [.ref h0, .int 3] (fun U => U.heap.size = sz ∧ va_P (dC, dI) classes [(h0, .inr (11, [.ref tp, .int s_taped, .ref dr, .ref rr, .ref rl, .int s_ruleCount, .int s_inForce, .ref to, .ref df, .ref nw, .ref tr, .ref no, .ref pa, .ref im, .ref co, .ref se, .ref ga, .ref pt, .int s_x])), (im, .inl (kim, 4, .inr (.inr (.inr (.inr gim)))))] U.heap ∧ va_K (dC, dI) classes [(kim, .object RX4)] U ∧ va_D (fun _ => True) [(h0, .inr (11, [.ref tp, .int s_taped, .ref dr, .ref rr, .ref rl, .int s_ruleCount, .int s_inForce, .ref to, .ref df, .ref nw, .ref tr, .ref no, .ref pa, .ref im, .ref co, .ref se, .ref ga, .ref pt, .int s_x])), (im, .inl (kim, 4, .inr (.inr (.inr (.inr gim)))))] ∧ xE U)) (va_Qq (fun (r : Option Nat) (_ : Unit) => r = some i3) (fun _ t => va_P (dC, dI) classes [(h0, .inr (11, [.ref tp, .int s_taped, .ref dr, .ref rr, .ref rl, .int s_ruleCount, .int s_inForce, .ref to, .ref df, .ref nw, .ref tr, .ref no, .ref pa, .ref im, .ref co, .ref se, .ref ga, .ref pt, .int s_x])), (im, .inl (kim, 4, .inr (.inr (.inr (.inr gim)))))] t.heap ∧ va_K (dC, dI) classes [(kim, .object RX4)] t ∧ va_D (va_A [(h0, .inr (11, [.ref tp, .int s_taped, .ref dr, .ref rr, .ref rl, .int s_ruleCount, .int s_inForce, .ref to, .ref df, .ref nw, .ref tr, .ref no, .ref pa, .ref im, .ref co, .ref se, .ref ga, .ref pt, .int s_x])), (im, .inl (kim, 4, .inr (.inr (.inr (.inr gim)))))] sz) [(h0, .inr (11, [.ref tp, .int s_taped, .ref dr, .ref rr, .ref rl, .int s_ruleCount, .int s_inForce, .ref to, .ref df, .ref nw, .ref tr, .ref no, .ref pa, .ref im, .ref co, .ref se, .ref ga, .ref pt, .int s_x])), (im, .inl (kim, 4, .inr (.inr (.inr (.inr gim)))))]) (va_A [(h0, .inr (11, [.ref tp, .int s_taped, .ref dr, .ref rr, .ref rl, .int s_ruleCount, .int s_inForce, .ref to, .ref df, .ref nw, .ref tr, .ref no, .ref pa, .ref im, .ref co, .ref se, .ref ga, .ref pt, .int s_x])), (im, .inl (kim, 4, .inr (.inr (.inr (.inr gim)))))] sz)) 0 0 (va_A [(h0, .inr (11, [.ref tp, .int s_taped, .ref dr, .ref rr, .ref rl, .int s_ruleCount, .int s_inForce, .ref to, .ref df, .ref nw, .ref tr, .ref no, .ref pa, .ref im, .ref co, .ref se, .ref ga, .ref pt, .int s_x])), (im, .inl (kim, 4, .inr (.inr (.inr (.inr gim)))))] sz) := by
  refine Met.ofW (cc := cX11_imageAt) (maxL := 2) (ret := (some (.object "SpokenBite$Image"))) (by decide) rfl ?_
  intro p e s m args below meth c s₁ B hml hv
  obtain ⟨rfl, hsz, hP, hK, hD0, hE⟩ := hv
  have hx := B.exec
  have hb := B.bytes
  have hr := B.returns
  have hts := atoms_spec (ws := .code yX11_imageAt cX11_imageAt 2 (some (.object "SpokenBite$Image")) :: wsA) B.pre
  have hq : ∀ w ∈ wsA, w.before _ s = true := fun w h => hts w (List.mem_cons_of_mem _ h)
  have hown : s.vm.findClass RX11 = some m.cls := findClass_of_methodNamed B.named
  have hlocks := B.notSynchronized
  subst hsz
  have hD := hD0.self (sz := s.heap.size)
  generalize hAe : va_A [(h0, .inr (11, [.ref tp, .int s_taped, .ref dr, .ref rr, .ref rl, .int s_ruleCount, .int s_inForce, .ref to, .ref df, .ref nw, .ref tr, .ref no, .ref pa, .ref im, .ref co, .ref se, .ref ga, .ref pt, .int s_x])), (im, .inl (kim, 4, .inr (.inr (.inr (.inr gim)))))] s.heap.size = A at hD ⊢
  have hA : ∀ q : Nat, s.heap.size ≤ q → A q := fun q h => by rw [← hAe]; exact Or.inr h
  have hS : va_S A s.heap s.heap [] := va_S.rf
  have hl := lv_entry ([.ref h0, .int 3]) (n := 2) (Nat.le_of_ble_eq_true rfl)
  rw [lg_entry_eq]
  generalize (lg_sl ([.ref h0, .int 3]) ++ List.replicate (2 - (lg_sl ([.ref h0, .int 3])).length) Slot.unset).toArray = ls at hl ⊢
  have hl : lv_has ls 2 [(0, .ref h0), (1, .int 3)] := hl
  refine lv_iload_n hx hb dX11_imageAt_0 rfl (lv_at hl 1 rfl) ?_
  refine lv_if_lt (tgt := 22) hx hb dX11_imageAt_1 (by decide) (fun c9 => absurd c9 (by decide)) (fun _ => ?_)
  refine lv_iload_n hx hb dX11_imageAt_4 rfl (lv_at hl 1 rfl) ?_
  refine lv_aload_n hx hb dX11_imageAt_5 rfl (lv_at hl 0 rfl) ?_
  refine va_get (D := (dC, dI)) (ci := 11) (v := .ref im) (C := RX11) (T := TX11) (N := 19) hx hb hq inX11 hown hK hP 0 rfl rfl 13 (by decide) (hq _ qw_462) (fun _ h9 => h9) rfl dX11_imageAt_6 ?_
  refine va_alen (v := 4) hx hb hK hP 1 0 rfl rfl rfl dX11_imageAt_9 ?_
  refine lv_icmp_ge (tgt := 22) hx hb dX11_imageAt_10 (by decide) (fun c9 => absurd c9 (by decide)) (fun _ => ?_)
  refine lv_aload_n hx hb dX11_imageAt_13 rfl (lv_at hl 0 rfl) ?_
  refine va_get (D := (dC, dI)) (ci := 11) (v := .ref im) (C := RX11) (T := TX11) (N := 19) hx hb hq inX11 hown hK hP 0 rfl rfl 13 (by decide) (hq _ qw_462) (fun _ h9 => h9) rfl dX11_imageAt_14 ?_
  refine lv_iload_n hx hb dX11_imageAt_17 rfl (lv_at hl 1 rfl) ?_
  refine va_aldq hx hb hK hP 1 0 rfl rfl (inr_ok rfl) dX11_imageAt_18 ?_
  refine W.eq (g2 := F0 m 19 ls [.ref i3]) (by rw [show gim (Int32.toNatClampNeg 3) = some i3 from fk_gim_3]; rfl) ?_
  refine lv_goto (tgt := 23) hx hb dX11_imageAt_19 (by decide) ?_
  refine W.widen (k := 0) (n := 0) (Nat.le_of_ble_eq_true rfl) (Nat.le_of_ble_eq_true rfl) ?_
  exact W.aret (v := .ref i3) hx hb hr (by first | exact Or.inl ⟨_, rfl⟩ | exact Or.inr ⟨_, rfl⟩) (Or.inr ⟨_, rfl⟩) (fun t ht hW => ⟨⟨some i3, (), rfl, rfl, by rw [ht]; exact hP, va_K.moved hW.alike hK, hD⟩, hS.F ht⟩) hS.2.2 dX11_imageAt_23

set_option maxHeartbeats 4000000 in
set_option maxRecDepth 100000 in
/-- x_imageAt_lo -/
theorem x_imageAt_lo (l : Launch) (dC : Nat → ClassId) (dI : Nat → Nat → Nat) (sz : Nat) (h0 : Nat) (tp : Nat) (s_taped : Int32) (dr : Nat) (rr : Nat) (rl : Nat) (s_ruleCount : Int32) (s_inForce : Int32) (to : Nat) (df : Nat) (nw : Nat) (tr : Nat) (no : Nat) (pa : Nat) (im : Nat) (co : Nat) (se : Nat) (ga : Nat) (pt : Nat) (s_x : Int32) (x0 : Int32) (b_x0 : bt (-2147483648) (-1) x0) : Met l yX11_imageAt (.code yX11_imageAt cX11_imageAt 2 (some (.object "SpokenBite$Image")) :: wsA) ({ frames := 0, cells := 0, slots := 0, locals := 0 }) (va_Pc [.ref h0, .int x0] (fun U => U.heap.size = sz ∧ va_P (dC, dI) classes [(h0, .inr (11, [.ref tp, .int s_taped, .ref dr, .ref rr, .ref rl, .int s_ruleCount, .int s_inForce, .ref to, .ref df, .ref nw, .ref tr, .ref no, .ref pa, .ref im, .ref co, .ref se, .ref ga, .ref pt, .int s_x]))] U.heap ∧ va_K (dC, dI) classes [] U ∧ va_D (fun _ => True) [(h0, .inr (11, [.ref tp, .int s_taped, .ref dr, .ref rr, .ref rl, .int s_ruleCount, .int s_inForce, .ref to, .ref df, .ref nw, .ref tr, .ref no, .ref pa, .ref im, .ref co, .ref se, .ref ga, .ref pt, .int s_x]))] ∧ xE U)) (va_Qq (fun (r : Option Nat) (_ : Unit) => r = none) (fun _ t => va_P (dC, dI) classes [(h0, .inr (11, [.ref tp, .int s_taped, .ref dr, .ref rr, .ref rl, .int s_ruleCount, .int s_inForce, .ref to, .ref df, .ref nw, .ref tr, .ref no, .ref pa, .ref im, .ref co, .ref se, .ref ga, .ref pt, .int s_x]))] t.heap ∧ va_K (dC, dI) classes [] t ∧ va_D (va_A [(h0, .inr (11, [.ref tp, .int s_taped, .ref dr, .ref rr, .ref rl, .int s_ruleCount, .int s_inForce, .ref to, .ref df, .ref nw, .ref tr, .ref no, .ref pa, .ref im, .ref co, .ref se, .ref ga, .ref pt, .int s_x]))] sz) [(h0, .inr (11, [.ref tp, .int s_taped, .ref dr, .ref rr, .ref rl, .int s_ruleCount, .int s_inForce, .ref to, .ref df, .ref nw, .ref tr, .ref no, .ref pa, .ref im, .ref co, .ref se, .ref ga, .ref pt, .int s_x]))]) (va_A [(h0, .inr (11, [.ref tp, .int s_taped, .ref dr, .ref rr, .ref rl, .int s_ruleCount, .int s_inForce, .ref to, .ref df, .ref nw, .ref tr, .ref no, .ref pa, .ref im, .ref co, .ref se, .ref ga, .ref pt, .int s_x]))] sz)) 0 0 (va_A [(h0, .inr (11, [.ref tp, .int s_taped, .ref dr, .ref rr, .ref rl, .int s_ruleCount, .int s_inForce, .ref to, .ref df, .ref nw, .ref tr, .ref no, .ref pa, .ref im, .ref co, .ref se, .ref ga, .ref pt, .int s_x]))] sz) := by
  refine Met.ofW (cc := cX11_imageAt) (maxL := 2) (ret := (some (.object "SpokenBite$Image"))) (by decide) rfl ?_
  intro p e s m args below meth c s₁ B hml hv
  obtain ⟨rfl, hsz, hP, hK, hD0, hE⟩ := hv
  have hx := B.exec
  have hb := B.bytes
  have hr := B.returns
  have hts := atoms_spec (ws := .code yX11_imageAt cX11_imageAt 2 (some (.object "SpokenBite$Image")) :: wsA) B.pre
  have hq : ∀ w ∈ wsA, w.before _ s = true := fun w h => hts w (List.mem_cons_of_mem _ h)
  have hown : s.vm.findClass RX11 = some m.cls := findClass_of_methodNamed B.named
  have hlocks := B.notSynchronized
  subst hsz
  have hD := hD0.self (sz := s.heap.size)
  generalize hAe : va_A [(h0, .inr (11, [.ref tp, .int s_taped, .ref dr, .ref rr, .ref rl, .int s_ruleCount, .int s_inForce, .ref to, .ref df, .ref nw, .ref tr, .ref no, .ref pa, .ref im, .ref co, .ref se, .ref ga, .ref pt, .int s_x]))] s.heap.size = A at hD ⊢
  have hA : ∀ q : Nat, s.heap.size ≤ q → A q := fun q h => by rw [← hAe]; exact Or.inr h
  have hS : va_S A s.heap s.heap [] := va_S.rf
  have hl := lv_entry ([.ref h0, .int x0]) (n := 2) (Nat.le_of_ble_eq_true rfl)
  rw [lg_entry_eq]
  generalize (lg_sl ([.ref h0, .int x0]) ++ List.replicate (2 - (lg_sl ([.ref h0, .int x0])).length) Slot.unset).toArray = ls at hl ⊢
  have hl : lv_has ls 2 [(0, .ref h0), (1, .int x0)] := hl
  refine lv_iload_n hx hb dX11_imageAt_0 rfl (lv_at hl 1 rfl) ?_
  refine W.cut (I := fun H locs g => ∃ (ls : Array Slot), va_P (dC, dI) classes [(h0, .inr (11, [.ref tp, .int s_taped, .ref dr, .ref rr, .ref rl, .int s_ruleCount, .int s_inForce, .ref to, .ref df, .ref nw, .ref tr, .ref no, .ref pa, .ref im, .ref co, .ref se, .ref ga, .ref pt, .int s_x]))] H ∧ va_D A [(h0, .inr (11, [.ref tp, .int s_taped, .ref dr, .ref rr, .ref rl, .int s_ruleCount, .int s_inForce, .ref to, .ref df, .ref nw, .ref tr, .ref no, .ref pa, .ref im, .ref co, .ref se, .ref ga, .ref pt, .int s_x]))] ∧ va_S A s.heap H locs ∧ lv_has ls 2 [] ∧ g = F0 m 22 ls []) (fun H locs g h => ?_) (fun hJ22 => ?_)
  · obtain ⟨ls, hP, hD, hS, hl, rfl⟩ := h
    refine lv_null hx hb dX11_imageAt_22 ?_
    refine W.widen (k := 0) (n := 0) (Nat.le_of_ble_eq_true rfl) (Nat.le_of_ble_eq_true rfl) ?_
    exact W.aret (v := .null) hx hb hr (by first | exact Or.inl ⟨_, rfl⟩ | exact Or.inr ⟨_, rfl⟩) (Or.inl rfl) (fun t ht hW => ⟨⟨none, (), rfl, rfl, by rw [ht]; exact hP, va_K.moved hW.alike hK, hD⟩, hS.F ht⟩) hS.2.2 dX11_imageAt_23
  refine lv_if_lt (tgt := 22) hx hb dX11_imageAt_1 (by decide) (fun c_3 => ?_) (fun c_3 => ?_)
  · exact hJ22 _ _ _ ⟨_, hP, hD, hS, (lv_sub hl [] rfl), rfl⟩
  · exact (rf_le_no (bt_k (x := 0) (c := 0) (by decide)) b_x0 (Int32.not_lt.mp c_3) (by decide)).elim

set_option maxHeartbeats 4000000 in
set_option maxRecDepth 100000 in
/-- x_imageAt_hi -/
theorem x_imageAt_hi (l : Launch) (dC : Nat → ClassId) (dI : Nat → Nat → Nat) (sz : Nat) (h0 : Nat) (tp : Nat) (s_taped : Int32) (dr : Nat) (rr : Nat) (rl : Nat) (s_ruleCount : Int32) (s_inForce : Int32) (to : Nat) (df : Nat) (nw : Nat) (tr : Nat) (no : Nat) (pa : Nat) (im : Nat) (co : Nat) (se : Nat) (ga : Nat) (pt : Nat) (s_x : Int32) (kim : ClassId) (gim : Nat → Option Nat) (i0 : Nat) (i1 : Nat) (i2 : Nat) (i3 : Nat) (x0 : Int32) (b_x0 : bt 4 2147483647 x0) (fk_gim_0 : gim 0 = some i0) (fk_gim_1 : gim 1 = some i1) (fk_gim_2 : gim 2 = some i2) (fk_gim_3 : gim 3 = some i3) : Met l yX11_imageAt (.code yX11_imageAt cX11_imageAt 2 (some (.object "SpokenBite$Image")) :: wsA) ({ frames := 0, cells := 0, slots := 0, locals := 0 }) (va_Pc [.ref h0, .int x0] (fun U => U.heap.size = sz ∧ va_P (dC, dI) classes [(h0, .inr (11, [.ref tp, .int s_taped, .ref dr, .ref rr, .ref rl, .int s_ruleCount, .int s_inForce, .ref to, .ref df, .ref nw, .ref tr, .ref no, .ref pa, .ref im, .ref co, .ref se, .ref ga, .ref pt, .int s_x])), (im, .inl (kim, 4, .inr (.inr (.inr (.inr gim)))))] U.heap ∧ va_K (dC, dI) classes [(kim, .object RX4)] U ∧ va_D (fun _ => True) [(h0, .inr (11, [.ref tp, .int s_taped, .ref dr, .ref rr, .ref rl, .int s_ruleCount, .int s_inForce, .ref to, .ref df, .ref nw, .ref tr, .ref no, .ref pa, .ref im, .ref co, .ref se, .ref ga, .ref pt, .int s_x])), (im, .inl (kim, 4, .inr (.inr (.inr (.inr gim)))))] ∧ xE U)) (va_Qq (fun (r : Option Nat) (_ : Unit) => r = none) (fun _ t => va_P (dC, dI) classes [(h0, .inr (11, [.ref tp, .int s_taped, .ref dr, .ref rr, .ref rl, .int s_ruleCount, .int s_inForce, .ref to, .ref df, .ref nw, .ref tr, .ref no, .ref pa, .ref im, .ref co, .ref se, .ref ga, .ref pt, .int s_x])), (im, .inl (kim, 4, .inr (.inr (.inr (.inr gim)))))] t.heap ∧ va_K (dC, dI) classes [(kim, .object RX4)] t ∧ va_D (va_A [(h0, .inr (11, [.ref tp, .int s_taped, .ref dr, .ref rr, .ref rl, .int s_ruleCount, .int s_inForce, .ref to, .ref df, .ref nw, .ref tr, .ref no, .ref pa, .ref im, .ref co, .ref se, .ref ga, .ref pt, .int s_x])), (im, .inl (kim, 4, .inr (.inr (.inr (.inr gim)))))] sz) [(h0, .inr (11, [.ref tp, .int s_taped, .ref dr, .ref rr, .ref rl, .int s_ruleCount, .int s_inForce, .ref to, .ref df, .ref nw, .ref tr, .ref no, .ref pa, .ref im, .ref co, .ref se, .ref ga, .ref pt, .int s_x])), (im, .inl (kim, 4, .inr (.inr (.inr (.inr gim)))))]) (va_A [(h0, .inr (11, [.ref tp, .int s_taped, .ref dr, .ref rr, .ref rl, .int s_ruleCount, .int s_inForce, .ref to, .ref df, .ref nw, .ref tr, .ref no, .ref pa, .ref im, .ref co, .ref se, .ref ga, .ref pt, .int s_x])), (im, .inl (kim, 4, .inr (.inr (.inr (.inr gim)))))] sz)) 0 0 (va_A [(h0, .inr (11, [.ref tp, .int s_taped, .ref dr, .ref rr, .ref rl, .int s_ruleCount, .int s_inForce, .ref to, .ref df, .ref nw, .ref tr, .ref no, .ref pa, .ref im, .ref co, .ref se, .ref ga, .ref pt, .int s_x])), (im, .inl (kim, 4, .inr (.inr (.inr (.inr gim)))))] sz) := by
  refine Met.ofW (cc := cX11_imageAt) (maxL := 2) (ret := (some (.object "SpokenBite$Image"))) (by decide) rfl ?_
  intro p e s m args below meth c s₁ B hml hv
  obtain ⟨rfl, hsz, hP, hK, hD0, hE⟩ := hv
  have hx := B.exec
  have hb := B.bytes
  have hr := B.returns
  have hts := atoms_spec (ws := .code yX11_imageAt cX11_imageAt 2 (some (.object "SpokenBite$Image")) :: wsA) B.pre
  have hq : ∀ w ∈ wsA, w.before _ s = true := fun w h => hts w (List.mem_cons_of_mem _ h)
  have hown : s.vm.findClass RX11 = some m.cls := findClass_of_methodNamed B.named
  have hlocks := B.notSynchronized
  subst hsz
  have hD := hD0.self (sz := s.heap.size)
  generalize hAe : va_A [(h0, .inr (11, [.ref tp, .int s_taped, .ref dr, .ref rr, .ref rl, .int s_ruleCount, .int s_inForce, .ref to, .ref df, .ref nw, .ref tr, .ref no, .ref pa, .ref im, .ref co, .ref se, .ref ga, .ref pt, .int s_x])), (im, .inl (kim, 4, .inr (.inr (.inr (.inr gim)))))] s.heap.size = A at hD ⊢
  have hA : ∀ q : Nat, s.heap.size ≤ q → A q := fun q h => by rw [← hAe]; exact Or.inr h
  have hS : va_S A s.heap s.heap [] := va_S.rf
  have hl := lv_entry ([.ref h0, .int x0]) (n := 2) (Nat.le_of_ble_eq_true rfl)
  rw [lg_entry_eq]
  generalize (lg_sl ([.ref h0, .int x0]) ++ List.replicate (2 - (lg_sl ([.ref h0, .int x0])).length) Slot.unset).toArray = ls at hl ⊢
  have hl : lv_has ls 2 [(0, .ref h0), (1, .int x0)] := hl
  refine lv_iload_n hx hb dX11_imageAt_0 rfl (lv_at hl 1 rfl) ?_
  refine W.cut (I := fun H locs g => ∃ (ls : Array Slot), va_P (dC, dI) classes [(h0, .inr (11, [.ref tp, .int s_taped, .ref dr, .ref rr, .ref rl, .int s_ruleCount, .int s_inForce, .ref to, .ref df, .ref nw, .ref tr, .ref no, .ref pa, .ref im, .ref co, .ref se, .ref ga, .ref pt, .int s_x])), (im, .inl (kim, 4, .inr (.inr (.inr (.inr gim)))))] H ∧ va_D A [(h0, .inr (11, [.ref tp, .int s_taped, .ref dr, .ref rr, .ref rl, .int s_ruleCount, .int s_inForce, .ref to, .ref df, .ref nw, .ref tr, .ref no, .ref pa, .ref im, .ref co, .ref se, .ref ga, .ref pt, .int s_x])), (im, .inl (kim, 4, .inr (.inr (.inr (.inr gim)))))] ∧ va_S A s.heap H locs ∧ lv_has ls 2 [] ∧ g = F0 m 22 ls []) (fun H locs g h => ?_) (fun hJ22 => ?_)
  · obtain ⟨ls, hP, hD, hS, hl, rfl⟩ := h
    refine lv_null hx hb dX11_imageAt_22 ?_
    refine W.widen (k := 0) (n := 0) (Nat.le_of_ble_eq_true rfl) (Nat.le_of_ble_eq_true rfl) ?_
    exact W.aret (v := .null) hx hb hr (by first | exact Or.inl ⟨_, rfl⟩ | exact Or.inr ⟨_, rfl⟩) (Or.inl rfl) (fun t ht hW => ⟨⟨none, (), rfl, rfl, by rw [ht]; exact hP, va_K.moved hW.alike hK, hD⟩, hS.F ht⟩) hS.2.2 dX11_imageAt_23
  refine lv_if_lt (tgt := 22) hx hb dX11_imageAt_1 (by decide) (fun c_5 => ?_) (fun c_5 => ?_)
  · exact (rf_lt_no b_x0 (bt_k (x := 0) (c := 0) (by decide)) c_5 (by decide)).elim
  · refine lv_iload_n hx hb dX11_imageAt_4 rfl (lv_at hl 1 rfl) ?_
    refine lv_aload_n hx hb dX11_imageAt_5 rfl (lv_at hl 0 rfl) ?_
    refine va_get (D := (dC, dI)) (ci := 11) (v := .ref im) (C := RX11) (T := TX11) (N := 19) hx hb hq inX11 hown hK hP 0 rfl rfl 13 (by decide) (hq _ qw_462) (fun _ h9 => h9) rfl dX11_imageAt_6 ?_
    refine va_alen (v := 4) hx hb hK hP 1 0 rfl rfl rfl dX11_imageAt_9 ?_
    refine lv_icmp_ge (tgt := 22) hx hb dX11_imageAt_10 (by decide) (fun c_6 => ?_) (fun c_6 => ?_)
    · exact hJ22 _ _ _ ⟨_, hP, hD, hS, (lv_sub hl [] rfl), rfl⟩
    · exact (rf_lt_no b_x0 (bt_k (x := 4) (c := 4) (by decide)) (Int32.not_le.mp c_6) (by decide)).elim

set_option maxHeartbeats 4000000 in
set_option maxRecDepth 100000 in
/-- x_addBytes -/
theorem x_addBytes (l : Launch) (dC : Nat → ClassId) (dI : Nat → Nat → Nat) (sz : Nat) (h0 : Nat) (tp : Nat) (s_taped : Int32) (dr : Nat) (rr : Nat) (rl : Nat) (s_ruleCount : Int32) (s_inForce : Int32) (to : Nat) (df : Nat) (nw : Nat) (tr : Nat) (no : Nat) (pa : Nat) (im : Nat) (co : Nat) (se : Nat) (ga : Nat) (pt : Nat) (s_x : Int32) (ktp : ClassId) (gtp : Nat → Int32) (x0 : Int32) : Met l yX11_addBytes (.code yX11_addBytes cX11_addBytes 3 none :: wsA) ({ frames := 0, cells := 0, slots := 0, locals := 0 }) (va_Pc [.ref h0, .int x0] (fun U => U.heap.size = sz ∧ va_P (dC, dI) classes [(h0, .inr (11, [.ref tp, .int s_taped, .ref dr, .ref rr, .ref rl, .int s_ruleCount, .int s_inForce, .ref to, .ref df, .ref nw, .ref tr, .ref no, .ref pa, .ref im, .ref co, .ref se, .ref ga, .ref pt, .int s_x])), (tp, .inl (ktp, 400, .inl gtp))] U.heap ∧ va_K (dC, dI) classes [(ktp, .int)] U ∧ va_D (fun _ => True) [(h0, .inr (11, [.ref tp, .int s_taped, .ref dr, .ref rr, .ref rl, .int s_ruleCount, .int s_inForce, .ref to, .ref df, .ref nw, .ref tr, .ref no, .ref pa, .ref im, .ref co, .ref se, .ref ga, .ref pt, .int s_x])), (tp, .inl (ktp, 400, .inl gtp))] ∧ xE U)) (va_Qv (fun (_ : Unit) => True) (fun _ t => ∃ (f_99 : Nat → Int32) (yy_98 : Nat → Int32), va_P (dC, dI) classes [(h0, .inr (11, [.ref tp, .int (yy_98 0), .ref dr, .ref rr, .ref rl, .int s_ruleCount, .int s_inForce, .ref to, .ref df, .ref nw, .ref tr, .ref no, .ref pa, .ref im, .ref co, .ref se, .ref ga, .ref pt, .int s_x])), (tp, .inl (ktp, 400, .inl f_99))] t.heap ∧ va_K (dC, dI) classes [(ktp, .int)] t ∧ va_D (va_A [(h0, .inr (11, [.ref tp, .int s_taped, .ref dr, .ref rr, .ref rl, .int s_ruleCount, .int s_inForce, .ref to, .ref df, .ref nw, .ref tr, .ref no, .ref pa, .ref im, .ref co, .ref se, .ref ga, .ref pt, .int s_x])), (tp, .inl (ktp, 400, .inl gtp))] sz) [(h0, .inr (11, [.ref tp, .int (yy_98 0), .ref dr, .ref rr, .ref rl, .int s_ruleCount, .int s_inForce, .ref to, .ref df, .ref nw, .ref tr, .ref no, .ref pa, .ref im, .ref co, .ref se, .ref ga, .ref pt, .int s_x])), (tp, .inl (ktp, 400, .inl f_99))]) (va_A [(h0, .inr (11, [.ref tp, .int s_taped, .ref dr, .ref rr, .ref rl, .int s_ruleCount, .int s_inForce, .ref to, .ref df, .ref nw, .ref tr, .ref no, .ref pa, .ref im, .ref co, .ref se, .ref ga, .ref pt, .int s_x])), (tp, .inl (ktp, 400, .inl gtp))] sz)) 0 0 (va_A [(h0, .inr (11, [.ref tp, .int s_taped, .ref dr, .ref rr, .ref rl, .int s_ruleCount, .int s_inForce, .ref to, .ref df, .ref nw, .ref tr, .ref no, .ref pa, .ref im, .ref co, .ref se, .ref ga, .ref pt, .int s_x])), (tp, .inl (ktp, 400, .inl gtp))] sz) := by
  refine Met.ofW (cc := cX11_addBytes) (maxL := 3) (ret := none) (by decide) rfl ?_
  intro p e s m args below meth c s₁ B hml hv
  obtain ⟨rfl, hsz, hP, hK, hD0, hE⟩ := hv
  have hx := B.exec
  have hb := B.bytes
  have hr := B.returns
  have hts := atoms_spec (ws := .code yX11_addBytes cX11_addBytes 3 none :: wsA) B.pre
  have hq : ∀ w ∈ wsA, w.before _ s = true := fun w h => hts w (List.mem_cons_of_mem _ h)
  have hown : s.vm.findClass RX11 = some m.cls := findClass_of_methodNamed B.named
  have hlocks := B.notSynchronized
  subst hsz
  have hD := hD0.self (sz := s.heap.size)
  generalize hAe : va_A [(h0, .inr (11, [.ref tp, .int s_taped, .ref dr, .ref rr, .ref rl, .int s_ruleCount, .int s_inForce, .ref to, .ref df, .ref nw, .ref tr, .ref no, .ref pa, .ref im, .ref co, .ref se, .ref ga, .ref pt, .int s_x])), (tp, .inl (ktp, 400, .inl gtp))] s.heap.size = A at hD ⊢
  have hA : ∀ q : Nat, s.heap.size ≤ q → A q := fun q h => by rw [← hAe]; exact Or.inr h
  have hS : va_S A s.heap s.heap [] := va_S.rf
  have hl := lv_entry ([.ref h0, .int x0]) (n := 3) (Nat.le_of_ble_eq_true rfl)
  rw [lg_entry_eq]
  generalize (lg_sl ([.ref h0, .int x0]) ++ List.replicate (3 - (lg_sl ([.ref h0, .int x0])).length) Slot.unset).toArray = ls at hl ⊢
  have hl : lv_has ls 3 [(0, .ref h0), (1, .int x0)] := hl
  refine lv_bipush (v := 24) hx hb dX11_addBytes_0 (by decide) ?_
  refine lv_istore_n (lv' := [(2, .int 24), (0, .ref h0), (1, .int x0)]) hx hb dX11_addBytes_2 rfl hl (by decide) rfl (fun ls hl => ?_)
  refine W.loop (I := fun n H locs g => ∃ (y_110 : Int32) (f_112 : Nat → Int32) (yy_111 : Nat → Int32) (ls : Array Slot), bt (-8) 24 y_110 ∧ y_110.toInt - (-8) < (n : Int) ∧ va_P (dC, dI) classes [(h0, .inr (11, [.ref tp, .int (yy_111 0), .ref dr, .ref rr, .ref rl, .int s_ruleCount, .int s_inForce, .ref to, .ref df, .ref nw, .ref tr, .ref no, .ref pa, .ref im, .ref co, .ref se, .ref ga, .ref pt, .int s_x])), (tp, .inl (ktp, 400, .inl f_112))] H ∧ va_D A [(h0, .inr (11, [.ref tp, .int (yy_111 0), .ref dr, .ref rr, .ref rl, .int s_ruleCount, .int s_inForce, .ref to, .ref df, .ref nw, .ref tr, .ref no, .ref pa, .ref im, .ref co, .ref se, .ref ga, .ref pt, .int s_x])), (tp, .inl (ktp, 400, .inl f_112))] ∧ va_S A s.heap H locs ∧ lv_has ls 3 [(2, .int y_110), (0, .ref h0), (1, .int x0)] ∧ g = F0 m 3 ls []) (fun H locs g h => ?_) (fun n ih3 H locs g h => ?_) (n := 33) ⟨24, gtp, (fun i => [s_taped].getD i 0), _, (bt_w (bt_k (x := 24) (c := 24) (by decide)) (by decide)), (ms_d0 (bt_k (x := 24) (c := 24) (by decide)) (by decide)), hP, hD, hS, hl, rfl⟩
  · obtain ⟨y_110, f_112, yy_111, ls, bd_v_2, hm, hP, hD, hS, hl, rfl⟩ := h
    exact ms_dz bd_v_2 hm
  · obtain ⟨y_110, f_112, yy_111, ls, bd_v_2, hm3, hP, hD, hS, hl, rfl⟩ := h
    refine lv_iload_n hx hb dX11_addBytes_3 rfl (lv_at hl 0 rfl) ?_
    refine lv_if_lt (tgt := 58) hx hb dX11_addBytes_4 (by decide) (fun c_185 => ?_) (fun c_185 => ?_)
    · refine W.widen (k := 0) (n := 0) (Nat.le_of_ble_eq_true rfl) (Nat.le_of_ble_eq_true rfl) ?_
      exact W.vret hx hb hr (fun t ht hW => ⟨⟨(), rfl, trivial, f_112, (fun i => [(yy_111 0)].getD i 0), by rw [ht]; exact hP, va_K.moved hW.alike hK, hD⟩, hS.F ht⟩) hS.2.2 dX11_addBytes_58
    · refine lv_aload_n hx hb dX11_addBytes_7 rfl (lv_at hl 1 rfl) ?_
      refine va_get (D := (dC, dI)) (ci := 11) (v := .int (yy_111 0)) (C := RX11) (T := TX11) (N := 19) hx hb hq inX11 hown hK hP 0 rfl rfl 1 (by decide) (hq _ qw_450) (fun _ h9 => h9) rfl dX11_addBytes_8 ?_
      refine W.cut (I := fun H locs g => ∃ (f_195 : Nat → Int32) (yy_194 : Nat → Int32) (ls : Array Slot), va_P (dC, dI) classes [(h0, .inr (11, [.ref tp, .int (yy_194 0), .ref dr, .ref rr, .ref rl, .int s_ruleCount, .int s_inForce, .ref to, .ref df, .ref nw, .ref tr, .ref no, .ref pa, .ref im, .ref co, .ref se, .ref ga, .ref pt, .int s_x])), (tp, .inl (ktp, 400, .inl f_195))] H ∧ va_D A [(h0, .inr (11, [.ref tp, .int (yy_194 0), .ref dr, .ref rr, .ref rl, .int s_ruleCount, .int s_inForce, .ref to, .ref df, .ref nw, .ref tr, .ref no, .ref pa, .ref im, .ref co, .ref se, .ref ga, .ref pt, .int s_x])), (tp, .inl (ktp, 400, .inl f_195))] ∧ va_S A s.heap H locs ∧ lv_has ls 3 [(2, .int y_110), (0, .ref h0), (1, .int x0)] ∧ g = F0 m 52 ls []) (fun H locs g h => ?_) (fun hJ52 => ?_)
      · obtain ⟨f_195, yy_194, ls, hP, hD, hS, hl, rfl⟩ := h
        obtain ⟨y_197, ey_197⟩ : ∃ y : Int32, y = y_110 + (-8) := ⟨_, rfl⟩
        refine lv_iinc (v := y_197) (lv' := [(2, .int y_197), (0, .ref h0), (1, .int x0)]) hx hb dX11_addBytes_52 hl (k := 0) rfl (by rw [ey_197]; rfl) (by decide) rfl (fun ls hl => ?_)
        refine lv_goto (tgt := 3) hx hb dX11_addBytes_55 (by decide) ?_
        have b_198 : bt 0 24 y_110 := rf_le_r (bt_k (x := 0) (c := 0) (by decide)) bd_v_2 (Int32.not_lt.mp c_185) (by decide)
        have b_199 : bt (-8) 16 y_197 := bt_add ey_197 b_198 (bt_k (x := (-8)) (c := (-8)) (by decide)) (by decide)
        exact ih3 _ _ _ ⟨y_197, f_195, (fun i => [(yy_194 0)].getD i 0), _, (bt_w b_199 (by decide)), (ms_d ey_197 b_198 hm3 (by decide)), hP, hD, hS, hl, rfl⟩
      refine lv_if_lt (tgt := 52) hx hb dX11_addBytes_11 (by decide) (fun c_200 => ?_) (fun c_200 => ?_)
      · exact hJ52 _ _ _ ⟨f_112, (fun i => [(yy_111 0)].getD i 0), _, hP, hD, hS, hl, rfl⟩
      · refine lv_aload_n hx hb dX11_addBytes_14 rfl (lv_at hl 1 rfl) ?_
        refine va_get (D := (dC, dI)) (ci := 11) (v := .int (yy_111 0)) (C := RX11) (T := TX11) (N := 19) hx hb hq inX11 hown hK hP 0 rfl rfl 1 (by decide) (hq _ qw_450) (fun _ h9 => h9) rfl dX11_addBytes_15 ?_
        refine lv_aload_n hx hb dX11_addBytes_18 rfl (lv_at hl 1 rfl) ?_
        refine va_get (D := (dC, dI)) (ci := 11) (v := .ref tp) (C := RX11) (T := TX11) (N := 19) hx hb hq inX11 hown hK hP 0 rfl rfl 0 (by decide) (hq _ qw_449) (fun _ h9 => h9) rfl dX11_addBytes_19 ?_
        refine va_alen (v := 400) hx hb hK hP 1 0 rfl rfl rfl dX11_addBytes_22 ?_
        refine lv_icmp_ge (tgt := 52) hx hb dX11_addBytes_23 (by decide) (fun c_201 => ?_) (fun c_201 => ?_)
        · exact hJ52 _ _ _ ⟨f_112, (fun i => [(yy_111 0)].getD i 0), _, hP, hD, hS, hl, rfl⟩
        · refine lv_aload_n hx hb dX11_addBytes_26 rfl (lv_at hl 1 rfl) ?_
          refine va_get (D := (dC, dI)) (ci := 11) (v := .ref tp) (C := RX11) (T := TX11) (N := 19) hx hb hq inX11 hown hK hP 0 rfl rfl 0 (by decide) (hq _ qw_449) (fun _ h9 => h9) rfl dX11_addBytes_27 ?_
          refine lv_aload_n hx hb dX11_addBytes_30 rfl (lv_at hl 1 rfl) ?_
          refine va_get (D := (dC, dI)) (ci := 11) (v := .int (yy_111 0)) (C := RX11) (T := TX11) (N := 19) hx hb hq inX11 hown hK hP 0 rfl rfl 1 (by decide) (hq _ qw_450) (fun _ h9 => h9) rfl dX11_addBytes_31 ?_
          refine lv_iload_n hx hb dX11_addBytes_34 rfl (lv_at hl 2 rfl) ?_
          refine lv_iload_n hx hb dX11_addBytes_35 rfl (lv_at hl 0 rfl) ?_
          refine lv_iushr hx hb dX11_addBytes_36 rfl ?_
          refine lv_topi (fun y_202 ey_202 => ?_)
          refine lv_sipush (v := 255) hx hb dX11_addBytes_37 (by decide) ?_
          refine lv_iand hx hb dX11_addBytes_40 ?_
          refine lv_topi (fun y_203 ey_203 => ?_)
          have b_204 : bt 0 2147483647 (yy_111 0) := rf_le_r (bt_k (x := 0) (c := 0) (by decide)) (bt_all (yy_111 0)) (Int32.not_lt.mp c_200) (by decide)
          have b_205 : bt 0 399 (yy_111 0) := rf_lt_l b_204 (bt_k (x := 400) (c := 400) (by decide)) (Int32.not_le.mp c_201) (by decide)
          refine va_iast hx hb hK hP hD hS 1 0 rfl rfl (bt_in b_205 (by decide)) dX11_addBytes_41 (fun H locs hP hD hS => ?_)
          obtain ⟨f_206, ef_206⟩ : ∃ f, f = upd f_112 (Int32.toNatClampNeg (yy_111 0)) y_203 := ⟨_, rfl⟩
          rw [← ef_206] at hP hD
          have hP : va_P (dC, dI) classes [(h0, .inr (11, [.ref tp, .int (yy_111 0), .ref dr, .ref rr, .ref rl, .int s_ruleCount, .int s_inForce, .ref to, .ref df, .ref nw, .ref tr, .ref no, .ref pa, .ref im, .ref co, .ref se, .ref ga, .ref pt, .int s_x])), (tp, .inl (ktp, 400, .inl f_206))] H := hP
          have hD : va_D A [(h0, .inr (11, [.ref tp, .int (yy_111 0), .ref dr, .ref rr, .ref rl, .int s_ruleCount, .int s_inForce, .ref to, .ref df, .ref nw, .ref tr, .ref no, .ref pa, .ref im, .ref co, .ref se, .ref ga, .ref pt, .int s_x])), (tp, .inl (ktp, 400, .inl f_206))] := hD
          refine lv_aload_n hx hb dX11_addBytes_42 rfl (lv_at hl 1 rfl) ?_
          refine lv_dup hx hb dX11_addBytes_43 rfl ?_
          refine va_get (D := (dC, dI)) (ci := 11) (v := .int (yy_111 0)) (C := RX11) (T := TX11) (N := 19) hx hb hq inX11 hown hK hP 0 rfl rfl 1 (by decide) (hq _ qw_450) (fun _ h9 => h9) rfl dX11_addBytes_44 ?_
          refine lv_iconst (v := 1) hx hb dX11_addBytes_47 (by decide) ?_
          refine lv_iadd hx hb dX11_addBytes_48 ?_
          refine lv_topi (fun y_207 ey_207 => ?_)
          refine va_put (D := (dC, dI)) (ci := 11) (v := .int y_207) (ty := .int) (C := RX11) (T := TX11) (N := 19) hx hb hq inX11 tyX11 tyX11_ok nmX11 hown hK hP hD hS 0 rfl rfl 1 (by decide) (hq _ qw_450) (fun _ h9 => h9) rfl (by decide +kernel) rfl rfl (Nat.le_of_ble_eq_true rfl) dX11_addBytes_49 (fun H locs hP hD hS => ?_)
          have hP : va_P (dC, dI) classes [(h0, .inr (11, [.ref tp, .int y_207, .ref dr, .ref rr, .ref rl, .int s_ruleCount, .int s_inForce, .ref to, .ref df, .ref nw, .ref tr, .ref no, .ref pa, .ref im, .ref co, .ref se, .ref ga, .ref pt, .int s_x])), (tp, .inl (ktp, 400, .inl f_206))] H := hP
          have hD : va_D A [(h0, .inr (11, [.ref tp, .int y_207, .ref dr, .ref rr, .ref rl, .int s_ruleCount, .int s_inForce, .ref to, .ref df, .ref nw, .ref tr, .ref no, .ref pa, .ref im, .ref co, .ref se, .ref ga, .ref pt, .int s_x])), (tp, .inl (ktp, 400, .inl f_206))] := hD
          exact hJ52 _ _ _ ⟨f_206, (fun i => [y_207].getD i 0), _, hP, hD, hS, hl, rfl⟩

set_option maxHeartbeats 4000000 in
set_option maxRecDepth 100000 in
/-- x_feed -/
theorem x_feed (l : Launch) (dC : Nat → ClassId) (dI : Nat → Nat → Nat) (sz : Nat) (h0 : Nat) (tp : Nat) (s_taped : Int32) (dr : Nat) (rr : Nat) (rl : Nat) (s_ruleCount : Int32) (s_inForce : Int32) (to : Nat) (df : Nat) (nw : Nat) (tr : Nat) (no : Nat) (pa : Nat) (im : Nat) (co : Nat) (se : Nat) (ga : Nat) (pt : Nat) (s_x : Int32) (ktp : ClassId) (gtp : Nat → Int32) (x0 : Int32) (x1 : Int32) (x2 : Int32) (x3 : Int32) (x4 : Int32) : Met l yX11_feed (.code yX11_feed cX11_feed 6 (some .int) :: wsA) ({ frames := 1, cells := 0, slots := 0, locals := 22 }) (va_Pc [.ref h0, .int x0, .int x1, .int x2, .int x3, .int x4] (fun U => U.heap.size = sz ∧ va_P (dC, dI) classes [(h0, .inr (11, [.ref tp, .int s_taped, .ref dr, .ref rr, .ref rl, .int s_ruleCount, .int s_inForce, .ref to, .ref df, .ref nw, .ref tr, .ref no, .ref pa, .ref im, .ref co, .ref se, .ref ga, .ref pt, .int s_x])), (tp, .inl (ktp, 400, .inl gtp))] U.heap ∧ va_K (dC, dI) classes [(ktp, .int)] U ∧ va_D (fun _ => True) [(h0, .inr (11, [.ref tp, .int s_taped, .ref dr, .ref rr, .ref rl, .int s_ruleCount, .int s_inForce, .ref to, .ref df, .ref nw, .ref tr, .ref no, .ref pa, .ref im, .ref co, .ref se, .ref ga, .ref pt, .int s_x])), (tp, .inl (ktp, 400, .inl gtp))] ∧ xE U)) (va_Qi (fun (r : Int32) (_ : Unit) => True) (fun _ t => ∃ (f_18 : Nat → Int32) (yy_17 : Nat → Int32), va_P (dC, dI) classes [(h0, .inr (11, [.ref tp, .int (yy_17 0), .ref dr, .ref rr, .ref rl, .int s_ruleCount, .int s_inForce, .ref to, .ref df, .ref nw, .ref tr, .ref no, .ref pa, .ref im, .ref co, .ref se, .ref ga, .ref pt, .int s_x])), (tp, .inl (ktp, 400, .inl f_18))] t.heap ∧ va_K (dC, dI) classes [(ktp, .int)] t ∧ va_D (va_A [(h0, .inr (11, [.ref tp, .int s_taped, .ref dr, .ref rr, .ref rl, .int s_ruleCount, .int s_inForce, .ref to, .ref df, .ref nw, .ref tr, .ref no, .ref pa, .ref im, .ref co, .ref se, .ref ga, .ref pt, .int s_x])), (tp, .inl (ktp, 400, .inl gtp))] sz) [(h0, .inr (11, [.ref tp, .int (yy_17 0), .ref dr, .ref rr, .ref rl, .int s_ruleCount, .int s_inForce, .ref to, .ref df, .ref nw, .ref tr, .ref no, .ref pa, .ref im, .ref co, .ref se, .ref ga, .ref pt, .int s_x])), (tp, .inl (ktp, 400, .inl f_18))]) (va_A [(h0, .inr (11, [.ref tp, .int s_taped, .ref dr, .ref rr, .ref rl, .int s_ruleCount, .int s_inForce, .ref to, .ref df, .ref nw, .ref tr, .ref no, .ref pa, .ref im, .ref co, .ref se, .ref ga, .ref pt, .int s_x])), (tp, .inl (ktp, 400, .inl gtp))] sz)) 0 0 (va_A [(h0, .inr (11, [.ref tp, .int s_taped, .ref dr, .ref rr, .ref rl, .int s_ruleCount, .int s_inForce, .ref to, .ref df, .ref nw, .ref tr, .ref no, .ref pa, .ref im, .ref co, .ref se, .ref ga, .ref pt, .int s_x])), (tp, .inl (ktp, 400, .inl gtp))] sz) := by
  refine Met.ofW (cc := cX11_feed) (maxL := 6) (ret := (some .int)) (by decide) rfl ?_
  intro p e s m args below meth c s₁ B hml hv
  obtain ⟨rfl, hsz, hP, hK, hD0, hE⟩ := hv
  have hx := B.exec
  have hb := B.bytes
  have hr := B.returns
  have hts := atoms_spec (ws := .code yX11_feed cX11_feed 6 (some .int) :: wsA) B.pre
  have hq : ∀ w ∈ wsA, w.before _ s = true := fun w h => hts w (List.mem_cons_of_mem _ h)
  have hown : s.vm.findClass RX11 = some m.cls := findClass_of_methodNamed B.named
  have hlocks := B.notSynchronized
  subst hsz
  have hD := hD0.self (sz := s.heap.size)
  generalize hAe : va_A [(h0, .inr (11, [.ref tp, .int s_taped, .ref dr, .ref rr, .ref rl, .int s_ruleCount, .int s_inForce, .ref to, .ref df, .ref nw, .ref tr, .ref no, .ref pa, .ref im, .ref co, .ref se, .ref ga, .ref pt, .int s_x])), (tp, .inl (ktp, 400, .inl gtp))] s.heap.size = A at hD ⊢
  have hA : ∀ q : Nat, s.heap.size ≤ q → A q := fun q h => by rw [← hAe]; exact Or.inr h
  have hS : va_S A s.heap s.heap [] := va_S.rf
  have hl := lv_entry ([.ref h0, .int x0, .int x1, .int x2, .int x3, .int x4]) (n := 6) (Nat.le_of_ble_eq_true rfl)
  rw [lg_entry_eq]
  generalize (lg_sl ([.ref h0, .int x0, .int x1, .int x2, .int x3, .int x4]) ++ List.replicate (6 - (lg_sl ([.ref h0, .int x0, .int x1, .int x2, .int x3, .int x4])).length) Slot.unset).toArray = ls at hl ⊢
  have hl : lv_has ls 6 [(0, .ref h0), (1, .int x0), (2, .int x1), (3, .int x2), (4, .int x3), (5, .int x4)] := hl
  refine lv_aload_n hx hb dX11_feed_0 rfl (lv_at hl 0 rfl) ?_
  refine va_get (D := (dC, dI)) (ci := 11) (v := .int s_taped) (C := RX11) (T := TX11) (N := 19) hx hb hq inX11 hown hK hP 0 rfl rfl 1 (by decide) (hq _ qw_450) (fun _ h9 => h9) rfl dX11_feed_1 ?_
  refine lv_sipush (v := 380) hx hb dX11_feed_4 (by decide) ?_
  refine lv_icmp_le (tgt := 12) hx hb dX11_feed_7 (by decide) (fun c_19 => ?_) (fun c_19 => ?_)
  · refine lv_aload_n hx hb dX11_feed_12 rfl (lv_at hl 0 rfl) ?_
    refine lv_iload_n hx hb dX11_feed_13 rfl (lv_at hl 1 rfl) ?_
    have hPc := hP.sub (ws' := [(h0, .inr (11, [.ref tp, .int s_taped, .ref dr, .ref rr, .ref rl, .int s_ruleCount, .int s_inForce, .ref to, .ref df, .ref nw, .ref tr, .ref no, .ref pa, .ref im, .ref co, .ref se, .ref ga, .ref pt, .int s_x])), (tp, .inl (ktp, 400, .inl gtp))]) [0, 1] rfl
    have hDc := hD.sub (ws' := [(h0, .inr (11, [.ref tp, .int s_taped, .ref dr, .ref rr, .ref rl, .int s_ruleCount, .int s_inForce, .ref to, .ref df, .ref nw, .ref tr, .ref no, .ref pa, .ref im, .ref co, .ref se, .ref ga, .ref pt, .int s_x])), (tp, .inl (ktp, 400, .inl gtp))]) [0, 1] (by decide) rfl
    have hKc := hK.sub (tys' := [(ktp, .int)]) [0] rfl
    have hFc := va_free (wc := [(h0, .inr (11, [.ref tp, .int s_taped, .ref dr, .ref rr, .ref rl, .int s_ruleCount, .int s_inForce, .ref to, .ref df, .ref nw, .ref tr, .ref no, .ref pa, .ref im, .ref co, .ref se, .ref ga, .ref pt, .int s_x])), (tp, .inl (ktp, 400, .inl gtp))]) hD hS hA [0, 1] rfl
    refine va_callv (va_runV (As := [.int x0]) (rest := []) ⟨hx, hb, hml, hown, hq⟩ (x_addBytes l dC dI _ h0 tp s_taped dr rr rl s_ruleCount s_inForce to df nw tr no pa im co se ga pt s_x ktp gtp x0 ) (cwV 1 hq (gV qw_511 qw_513 qw_0 qw_119 qw_514) rfl rfl rfl (by decide +kernel) ⟨Nat.le_of_ble_eq_true rfl, Nat.le_of_ble_eq_true rfl⟩) ⟨fun a U g mk q => by obtain ⟨q0, q1, qP, qK, qD, qE⟩ := q; exact ⟨q0, q1, qP, va_K.moved (u := U) (U := U.calling g mk a) (Vm.Alike.refl U.vm) qK, qD, xE.same rfl qE⟩, va_recv hKc hPc (ci := 11) (q0 := 0) rfl rfl, fun U hU hW => ⟨rfl, by rw [hU], by rw [hU]; exact hPc, va_K.moved hW.alike hKc, hDc.weaken (fun _ _ _ _ => trivial), xE.warm hW hE⟩⟩ rfl rfl hl.1 rfl (lv_room (Nat.le_of_ble_eq_true rfl)) dX11_feed_14 ⟨Nat.le_of_ble_eq_true rfl, Nat.le_of_ble_eq_true rfl⟩) hS (fun q _ h => hFc q h) hFc (fun u t H1 locs ht hvm hw hB hz1 hk1 hS => ?_)
    obtain ⟨f_21, yy_22, hP1, hK1, hD1⟩ := hB
    rw [ht] at hP1
    obtain ⟨hP, hD⟩ := va_join (wr := []) (w1 := [(h0, .inr (11, [.ref tp, .int (yy_22 0), .ref dr, .ref rr, .ref rl, .int s_ruleCount, .int s_inForce, .ref to, .ref df, .ref nw, .ref tr, .ref no, .ref pa, .ref im, .ref co, .ref se, .ref ga, .ref pt, .int s_x])), (tp, .inl (ktp, 400, .inl f_21))]) hP hD [0, 1] [] rfl rfl (by decide) (by decide) hk1 hFc hP1 hD1
    generalize H1 = H at hP hS ⊢
    have hP : va_P (dC, dI) classes [(h0, .inr (11, [.ref tp, .int (yy_22 0), .ref dr, .ref rr, .ref rl, .int s_ruleCount, .int s_inForce, .ref to, .ref df, .ref nw, .ref tr, .ref no, .ref pa, .ref im, .ref co, .ref se, .ref ga, .ref pt, .int s_x])), (tp, .inl (ktp, 400, .inl f_21))] H := hP
    have hD : va_D A [(h0, .inr (11, [.ref tp, .int (yy_22 0), .ref dr, .ref rr, .ref rl, .int s_ruleCount, .int s_inForce, .ref to, .ref df, .ref nw, .ref tr, .ref no, .ref pa, .ref im, .ref co, .ref se, .ref ga, .ref pt, .int s_x])), (tp, .inl (ktp, 400, .inl f_21))] := hD
    refine lv_aload_n hx hb dX11_feed_17 rfl (lv_at hl 0 rfl) ?_
    refine lv_iload_n hx hb dX11_feed_18 rfl (lv_at hl 2 rfl) ?_
    have hPc := hP.sub (ws' := [(h0, .inr (11, [.ref tp, .int (yy_22 0), .ref dr, .ref rr, .ref rl, .int s_ruleCount, .int s_inForce, .ref to, .ref df, .ref nw, .ref tr, .ref no, .ref pa, .ref im, .ref co, .ref se, .ref ga, .ref pt, .int s_x])), (tp, .inl (ktp, 400, .inl f_21))]) [0, 1] rfl
    have hDc := hD.sub (ws' := [(h0, .inr (11, [.ref tp, .int (yy_22 0), .ref dr, .ref rr, .ref rl, .int s_ruleCount, .int s_inForce, .ref to, .ref df, .ref nw, .ref tr, .ref no, .ref pa, .ref im, .ref co, .ref se, .ref ga, .ref pt, .int s_x])), (tp, .inl (ktp, 400, .inl f_21))]) [0, 1] (by decide) rfl
    have hKc := hK.sub (tys' := [(ktp, .int)]) [0] rfl
    have hFc := va_free (wc := [(h0, .inr (11, [.ref tp, .int (yy_22 0), .ref dr, .ref rr, .ref rl, .int s_ruleCount, .int s_inForce, .ref to, .ref df, .ref nw, .ref tr, .ref no, .ref pa, .ref im, .ref co, .ref se, .ref ga, .ref pt, .int s_x])), (tp, .inl (ktp, 400, .inl f_21))]) hD hS hA [0, 1] rfl
    refine va_callv (va_runV (As := [.int x1]) (rest := []) ⟨hx, hb, hml, hown, hq⟩ (x_addBytes l dC dI _ h0 tp (yy_22 0) dr rr rl s_ruleCount s_inForce to df nw tr no pa im co se ga pt s_x ktp f_21 x1 ) (cwV 1 hq (gV qw_511 qw_513 qw_0 qw_119 qw_514) rfl rfl rfl (by decide +kernel) ⟨Nat.le_of_ble_eq_true rfl, Nat.le_of_ble_eq_true rfl⟩) ⟨fun a U g mk q => by obtain ⟨q0, q1, qP, qK, qD, qE⟩ := q; exact ⟨q0, q1, qP, va_K.moved (u := U) (U := U.calling g mk a) (Vm.Alike.refl U.vm) qK, qD, xE.same rfl qE⟩, va_recv hKc hPc (ci := 11) (q0 := 0) rfl rfl, fun U hU hW => ⟨rfl, by rw [hU], by rw [hU]; exact hPc, va_K.moved hW.alike hKc, hDc.weaken (fun _ _ _ _ => trivial), xE.warm hW hE⟩⟩ rfl rfl hl.1 rfl (lv_room (Nat.le_of_ble_eq_true rfl)) dX11_feed_19 ⟨Nat.le_of_ble_eq_true rfl, Nat.le_of_ble_eq_true rfl⟩) hS (fun q _ h => hFc q h) hFc (fun u t H1 locs ht hvm hw hB hz1 hk1 hS => ?_)
    obtain ⟨f_24, yy_25, hP1, hK1, hD1⟩ := hB
    rw [ht] at hP1
    obtain ⟨hP, hD⟩ := va_join (wr := []) (w1 := [(h0, .inr (11, [.ref tp, .int (yy_25 0), .ref dr, .ref rr, .ref rl, .int s_ruleCount, .int s_inForce, .ref to, .ref df, .ref nw, .ref tr, .ref no, .ref pa, .ref im, .ref co, .ref se, .ref ga, .ref pt, .int s_x])), (tp, .inl (ktp, 400, .inl f_24))]) hP hD [0, 1] [] rfl rfl (by decide) (by decide) hk1 hFc hP1 hD1
    generalize H1 = H at hP hS ⊢
    have hP : va_P (dC, dI) classes [(h0, .inr (11, [.ref tp, .int (yy_25 0), .ref dr, .ref rr, .ref rl, .int s_ruleCount, .int s_inForce, .ref to, .ref df, .ref nw, .ref tr, .ref no, .ref pa, .ref im, .ref co, .ref se, .ref ga, .ref pt, .int s_x])), (tp, .inl (ktp, 400, .inl f_24))] H := hP
    have hD : va_D A [(h0, .inr (11, [.ref tp, .int (yy_25 0), .ref dr, .ref rr, .ref rl, .int s_ruleCount, .int s_inForce, .ref to, .ref df, .ref nw, .ref tr, .ref no, .ref pa, .ref im, .ref co, .ref se, .ref ga, .ref pt, .int s_x])), (tp, .inl (ktp, 400, .inl f_24))] := hD
    refine lv_aload_n hx hb dX11_feed_22 rfl (lv_at hl 0 rfl) ?_
    refine lv_iload_n hx hb dX11_feed_23 rfl (lv_at hl 3 rfl) ?_
    have hPc := hP.sub (ws' := [(h0, .inr (11, [.ref tp, .int (yy_25 0), .ref dr, .ref rr, .ref rl, .int s_ruleCount, .int s_inForce, .ref to, .ref df, .ref nw, .ref tr, .ref no, .ref pa, .ref im, .ref co, .ref se, .ref ga, .ref pt, .int s_x])), (tp, .inl (ktp, 400, .inl f_24))]) [0, 1] rfl
    have hDc := hD.sub (ws' := [(h0, .inr (11, [.ref tp, .int (yy_25 0), .ref dr, .ref rr, .ref rl, .int s_ruleCount, .int s_inForce, .ref to, .ref df, .ref nw, .ref tr, .ref no, .ref pa, .ref im, .ref co, .ref se, .ref ga, .ref pt, .int s_x])), (tp, .inl (ktp, 400, .inl f_24))]) [0, 1] (by decide) rfl
    have hKc := hK.sub (tys' := [(ktp, .int)]) [0] rfl
    have hFc := va_free (wc := [(h0, .inr (11, [.ref tp, .int (yy_25 0), .ref dr, .ref rr, .ref rl, .int s_ruleCount, .int s_inForce, .ref to, .ref df, .ref nw, .ref tr, .ref no, .ref pa, .ref im, .ref co, .ref se, .ref ga, .ref pt, .int s_x])), (tp, .inl (ktp, 400, .inl f_24))]) hD hS hA [0, 1] rfl
    refine va_callv (va_runV (As := [.int x2]) (rest := []) ⟨hx, hb, hml, hown, hq⟩ (x_addBytes l dC dI _ h0 tp (yy_25 0) dr rr rl s_ruleCount s_inForce to df nw tr no pa im co se ga pt s_x ktp f_24 x2 ) (cwV 1 hq (gV qw_511 qw_513 qw_0 qw_119 qw_514) rfl rfl rfl (by decide +kernel) ⟨Nat.le_of_ble_eq_true rfl, Nat.le_of_ble_eq_true rfl⟩) ⟨fun a U g mk q => by obtain ⟨q0, q1, qP, qK, qD, qE⟩ := q; exact ⟨q0, q1, qP, va_K.moved (u := U) (U := U.calling g mk a) (Vm.Alike.refl U.vm) qK, qD, xE.same rfl qE⟩, va_recv hKc hPc (ci := 11) (q0 := 0) rfl rfl, fun U hU hW => ⟨rfl, by rw [hU], by rw [hU]; exact hPc, va_K.moved hW.alike hKc, hDc.weaken (fun _ _ _ _ => trivial), xE.warm hW hE⟩⟩ rfl rfl hl.1 rfl (lv_room (Nat.le_of_ble_eq_true rfl)) dX11_feed_24 ⟨Nat.le_of_ble_eq_true rfl, Nat.le_of_ble_eq_true rfl⟩) hS (fun q _ h => hFc q h) hFc (fun u t H1 locs ht hvm hw hB hz1 hk1 hS => ?_)
    obtain ⟨f_27, yy_28, hP1, hK1, hD1⟩ := hB
    rw [ht] at hP1
    obtain ⟨hP, hD⟩ := va_join (wr := []) (w1 := [(h0, .inr (11, [.ref tp, .int (yy_28 0), .ref dr, .ref rr, .ref rl, .int s_ruleCount, .int s_inForce, .ref to, .ref df, .ref nw, .ref tr, .ref no, .ref pa, .ref im, .ref co, .ref se, .ref ga, .ref pt, .int s_x])), (tp, .inl (ktp, 400, .inl f_27))]) hP hD [0, 1] [] rfl rfl (by decide) (by decide) hk1 hFc hP1 hD1
    generalize H1 = H at hP hS ⊢
    have hP : va_P (dC, dI) classes [(h0, .inr (11, [.ref tp, .int (yy_28 0), .ref dr, .ref rr, .ref rl, .int s_ruleCount, .int s_inForce, .ref to, .ref df, .ref nw, .ref tr, .ref no, .ref pa, .ref im, .ref co, .ref se, .ref ga, .ref pt, .int s_x])), (tp, .inl (ktp, 400, .inl f_27))] H := hP
    have hD : va_D A [(h0, .inr (11, [.ref tp, .int (yy_28 0), .ref dr, .ref rr, .ref rl, .int s_ruleCount, .int s_inForce, .ref to, .ref df, .ref nw, .ref tr, .ref no, .ref pa, .ref im, .ref co, .ref se, .ref ga, .ref pt, .int s_x])), (tp, .inl (ktp, 400, .inl f_27))] := hD
    refine lv_aload_n hx hb dX11_feed_27 rfl (lv_at hl 0 rfl) ?_
    refine lv_iload hx hb dX11_feed_28 (lv_at hl 4 rfl) ?_
    have hPc := hP.sub (ws' := [(h0, .inr (11, [.ref tp, .int (yy_28 0), .ref dr, .ref rr, .ref rl, .int s_ruleCount, .int s_inForce, .ref to, .ref df, .ref nw, .ref tr, .ref no, .ref pa, .ref im, .ref co, .ref se, .ref ga, .ref pt, .int s_x])), (tp, .inl (ktp, 400, .inl f_27))]) [0, 1] rfl
    have hDc := hD.sub (ws' := [(h0, .inr (11, [.ref tp, .int (yy_28 0), .ref dr, .ref rr, .ref rl, .int s_ruleCount, .int s_inForce, .ref to, .ref df, .ref nw, .ref tr, .ref no, .ref pa, .ref im, .ref co, .ref se, .ref ga, .ref pt, .int s_x])), (tp, .inl (ktp, 400, .inl f_27))]) [0, 1] (by decide) rfl
    have hKc := hK.sub (tys' := [(ktp, .int)]) [0] rfl
    have hFc := va_free (wc := [(h0, .inr (11, [.ref tp, .int (yy_28 0), .ref dr, .ref rr, .ref rl, .int s_ruleCount, .int s_inForce, .ref to, .ref df, .ref nw, .ref tr, .ref no, .ref pa, .ref im, .ref co, .ref se, .ref ga, .ref pt, .int s_x])), (tp, .inl (ktp, 400, .inl f_27))]) hD hS hA [0, 1] rfl
    refine va_callv (va_runV (As := [.int x3]) (rest := []) ⟨hx, hb, hml, hown, hq⟩ (x_addBytes l dC dI _ h0 tp (yy_28 0) dr rr rl s_ruleCount s_inForce to df nw tr no pa im co se ga pt s_x ktp f_27 x3 ) (cwV 1 hq (gV qw_511 qw_513 qw_0 qw_119 qw_514) rfl rfl rfl (by decide +kernel) ⟨Nat.le_of_ble_eq_true rfl, Nat.le_of_ble_eq_true rfl⟩) ⟨fun a U g mk q => by obtain ⟨q0, q1, qP, qK, qD, qE⟩ := q; exact ⟨q0, q1, qP, va_K.moved (u := U) (U := U.calling g mk a) (Vm.Alike.refl U.vm) qK, qD, xE.same rfl qE⟩, va_recv hKc hPc (ci := 11) (q0 := 0) rfl rfl, fun U hU hW => ⟨rfl, by rw [hU], by rw [hU]; exact hPc, va_K.moved hW.alike hKc, hDc.weaken (fun _ _ _ _ => trivial), xE.warm hW hE⟩⟩ rfl rfl hl.1 rfl (lv_room (Nat.le_of_ble_eq_true rfl)) dX11_feed_30 ⟨Nat.le_of_ble_eq_true rfl, Nat.le_of_ble_eq_true rfl⟩) hS (fun q _ h => hFc q h) hFc (fun u t H1 locs ht hvm hw hB hz1 hk1 hS => ?_)
    obtain ⟨f_30, yy_31, hP1, hK1, hD1⟩ := hB
    rw [ht] at hP1
    obtain ⟨hP, hD⟩ := va_join (wr := []) (w1 := [(h0, .inr (11, [.ref tp, .int (yy_31 0), .ref dr, .ref rr, .ref rl, .int s_ruleCount, .int s_inForce, .ref to, .ref df, .ref nw, .ref tr, .ref no, .ref pa, .ref im, .ref co, .ref se, .ref ga, .ref pt, .int s_x])), (tp, .inl (ktp, 400, .inl f_30))]) hP hD [0, 1] [] rfl rfl (by decide) (by decide) hk1 hFc hP1 hD1
    generalize H1 = H at hP hS ⊢
    have hP : va_P (dC, dI) classes [(h0, .inr (11, [.ref tp, .int (yy_31 0), .ref dr, .ref rr, .ref rl, .int s_ruleCount, .int s_inForce, .ref to, .ref df, .ref nw, .ref tr, .ref no, .ref pa, .ref im, .ref co, .ref se, .ref ga, .ref pt, .int s_x])), (tp, .inl (ktp, 400, .inl f_30))] H := hP
    have hD : va_D A [(h0, .inr (11, [.ref tp, .int (yy_31 0), .ref dr, .ref rr, .ref rl, .int s_ruleCount, .int s_inForce, .ref to, .ref df, .ref nw, .ref tr, .ref no, .ref pa, .ref im, .ref co, .ref se, .ref ga, .ref pt, .int s_x])), (tp, .inl (ktp, 400, .inl f_30))] := hD
    refine lv_aload_n hx hb dX11_feed_33 rfl (lv_at hl 0 rfl) ?_
    refine lv_iload hx hb dX11_feed_34 (lv_at hl 5 rfl) ?_
    have hPc := hP.sub (ws' := [(h0, .inr (11, [.ref tp, .int (yy_31 0), .ref dr, .ref rr, .ref rl, .int s_ruleCount, .int s_inForce, .ref to, .ref df, .ref nw, .ref tr, .ref no, .ref pa, .ref im, .ref co, .ref se, .ref ga, .ref pt, .int s_x])), (tp, .inl (ktp, 400, .inl f_30))]) [0, 1] rfl
    have hDc := hD.sub (ws' := [(h0, .inr (11, [.ref tp, .int (yy_31 0), .ref dr, .ref rr, .ref rl, .int s_ruleCount, .int s_inForce, .ref to, .ref df, .ref nw, .ref tr, .ref no, .ref pa, .ref im, .ref co, .ref se, .ref ga, .ref pt, .int s_x])), (tp, .inl (ktp, 400, .inl f_30))]) [0, 1] (by decide) rfl
    have hKc := hK.sub (tys' := [(ktp, .int)]) [0] rfl
    have hFc := va_free (wc := [(h0, .inr (11, [.ref tp, .int (yy_31 0), .ref dr, .ref rr, .ref rl, .int s_ruleCount, .int s_inForce, .ref to, .ref df, .ref nw, .ref tr, .ref no, .ref pa, .ref im, .ref co, .ref se, .ref ga, .ref pt, .int s_x])), (tp, .inl (ktp, 400, .inl f_30))]) hD hS hA [0, 1] rfl
    refine va_callv (va_runV (As := [.int x4]) (rest := []) ⟨hx, hb, hml, hown, hq⟩ (x_addBytes l dC dI _ h0 tp (yy_31 0) dr rr rl s_ruleCount s_inForce to df nw tr no pa im co se ga pt s_x ktp f_30 x4 ) (cwV 1 hq (gV qw_511 qw_513 qw_0 qw_119 qw_514) rfl rfl rfl (by decide +kernel) ⟨Nat.le_of_ble_eq_true rfl, Nat.le_of_ble_eq_true rfl⟩) ⟨fun a U g mk q => by obtain ⟨q0, q1, qP, qK, qD, qE⟩ := q; exact ⟨q0, q1, qP, va_K.moved (u := U) (U := U.calling g mk a) (Vm.Alike.refl U.vm) qK, qD, xE.same rfl qE⟩, va_recv hKc hPc (ci := 11) (q0 := 0) rfl rfl, fun U hU hW => ⟨rfl, by rw [hU], by rw [hU]; exact hPc, va_K.moved hW.alike hKc, hDc.weaken (fun _ _ _ _ => trivial), xE.warm hW hE⟩⟩ rfl rfl hl.1 rfl (lv_room (Nat.le_of_ble_eq_true rfl)) dX11_feed_36 ⟨Nat.le_of_ble_eq_true rfl, Nat.le_of_ble_eq_true rfl⟩) hS (fun q _ h => hFc q h) hFc (fun u t H1 locs ht hvm hw hB hz1 hk1 hS => ?_)
    obtain ⟨f_33, yy_34, hP1, hK1, hD1⟩ := hB
    rw [ht] at hP1
    obtain ⟨hP, hD⟩ := va_join (wr := []) (w1 := [(h0, .inr (11, [.ref tp, .int (yy_34 0), .ref dr, .ref rr, .ref rl, .int s_ruleCount, .int s_inForce, .ref to, .ref df, .ref nw, .ref tr, .ref no, .ref pa, .ref im, .ref co, .ref se, .ref ga, .ref pt, .int s_x])), (tp, .inl (ktp, 400, .inl f_33))]) hP hD [0, 1] [] rfl rfl (by decide) (by decide) hk1 hFc hP1 hD1
    generalize H1 = H at hP hS ⊢
    have hP : va_P (dC, dI) classes [(h0, .inr (11, [.ref tp, .int (yy_34 0), .ref dr, .ref rr, .ref rl, .int s_ruleCount, .int s_inForce, .ref to, .ref df, .ref nw, .ref tr, .ref no, .ref pa, .ref im, .ref co, .ref se, .ref ga, .ref pt, .int s_x])), (tp, .inl (ktp, 400, .inl f_33))] H := hP
    have hD : va_D A [(h0, .inr (11, [.ref tp, .int (yy_34 0), .ref dr, .ref rr, .ref rl, .int s_ruleCount, .int s_inForce, .ref to, .ref df, .ref nw, .ref tr, .ref no, .ref pa, .ref im, .ref co, .ref se, .ref ga, .ref pt, .int s_x])), (tp, .inl (ktp, 400, .inl f_33))] := hD
    refine lv_aload_n hx hb dX11_feed_39 rfl (lv_at hl 0 rfl) ?_
    refine va_get (D := (dC, dI)) (ci := 11) (v := .int (yy_34 0)) (C := RX11) (T := TX11) (N := 19) hx hb hq inX11 hown hK hP 0 rfl rfl 1 (by decide) (hq _ qw_450) (fun _ h9 => h9) rfl dX11_feed_40 ?_
    refine W.widen (k := 0) (n := 0) (Nat.le_of_ble_eq_true rfl) (Nat.le_of_ble_eq_true rfl) ?_
    exact W.iret (v := (yy_34 0)) hx hb hr (fun t ht hW => ⟨⟨(yy_34 0), (), rfl, trivial, f_33, (fun i => [(yy_34 0)].getD i 0), by rw [ht]; exact hP, va_K.moved hW.alike hK, hD⟩, hS.F ht⟩) hS.2.2 dX11_feed_43
  · refine lv_iconst (v := (-1)) hx hb dX11_feed_10 (by decide) ?_
    refine W.widen (k := 0) (n := 0) (Nat.le_of_ble_eq_true rfl) (Nat.le_of_ble_eq_true rfl) ?_
    exact W.iret (v := (-1)) hx hb hr (fun t ht hW => ⟨⟨(-1), (), rfl, trivial, gtp, (fun i => [s_taped].getD i 0), by rw [ht]; exact hP, va_K.moved hW.alike hK, hD⟩, hS.F ht⟩) hS.2.2 dX11_feed_11

set_option maxHeartbeats 4000000 in
set_option maxRecDepth 100000 in
/-- x_end -/
theorem x_end (l : Launch) (dC : Nat → ClassId) (dI : Nat → Nat → Nat) (sz : Nat) (h0 : Nat) (tp : Nat) (s_taped : Int32) (dr : Nat) (rr : Nat) (rl : Nat) (s_ruleCount : Int32) (s_inForce : Int32) (to : Nat) (df : Nat) (nw : Nat) (tr : Nat) (no : Nat) (pa : Nat) (im : Nat) (co : Nat) (se : Nat) (ga : Nat) (pt : Nat) (s_x : Int32) (x0 : Int32) : Met l yX11_end (.code yX11_end cX11_end 2 (some .int) :: wsA) ({ frames := 0, cells := 0, slots := 0, locals := 0 }) (va_Pc [.ref h0, .int x0] (fun U => U.heap.size = sz ∧ va_P (dC, dI) classes [(h0, .inr (11, [.ref tp, .int s_taped, .ref dr, .ref rr, .ref rl, .int s_ruleCount, .int s_inForce, .ref to, .ref df, .ref nw, .ref tr, .ref no, .ref pa, .ref im, .ref co, .ref se, .ref ga, .ref pt, .int s_x]))] U.heap ∧ va_K (dC, dI) classes [] U ∧ va_D (fun _ => True) [(h0, .inr (11, [.ref tp, .int s_taped, .ref dr, .ref rr, .ref rl, .int s_ruleCount, .int s_inForce, .ref to, .ref df, .ref nw, .ref tr, .ref no, .ref pa, .ref im, .ref co, .ref se, .ref ga, .ref pt, .int s_x]))] ∧ xE U)) (va_Qi (fun (r : Int32) (_ : Unit) => True) (fun _ t => ∃ (yy_3 : Nat → Int32), va_P (dC, dI) classes [(h0, .inr (11, [.ref tp, .int (yy_3 0), .ref dr, .ref rr, .ref rl, .int s_ruleCount, .int s_inForce, .ref to, .ref df, .ref nw, .ref tr, .ref no, .ref pa, .ref im, .ref co, .ref se, .ref ga, .ref pt, .int s_x]))] t.heap ∧ va_K (dC, dI) classes [] t ∧ va_D (va_A [(h0, .inr (11, [.ref tp, .int s_taped, .ref dr, .ref rr, .ref rl, .int s_ruleCount, .int s_inForce, .ref to, .ref df, .ref nw, .ref tr, .ref no, .ref pa, .ref im, .ref co, .ref se, .ref ga, .ref pt, .int s_x]))] sz) [(h0, .inr (11, [.ref tp, .int (yy_3 0), .ref dr, .ref rr, .ref rl, .int s_ruleCount, .int s_inForce, .ref to, .ref df, .ref nw, .ref tr, .ref no, .ref pa, .ref im, .ref co, .ref se, .ref ga, .ref pt, .int s_x]))]) (va_A [(h0, .inr (11, [.ref tp, .int s_taped, .ref dr, .ref rr, .ref rl, .int s_ruleCount, .int s_inForce, .ref to, .ref df, .ref nw, .ref tr, .ref no, .ref pa, .ref im, .ref co, .ref se, .ref ga, .ref pt, .int s_x]))] sz)) 0 0 (va_A [(h0, .inr (11, [.ref tp, .int s_taped, .ref dr, .ref rr, .ref rl, .int s_ruleCount, .int s_inForce, .ref to, .ref df, .ref nw, .ref tr, .ref no, .ref pa, .ref im, .ref co, .ref se, .ref ga, .ref pt, .int s_x]))] sz) := by
  refine Met.ofW (cc := cX11_end) (maxL := 2) (ret := (some .int)) (by decide) rfl ?_
  intro p e s m args below meth c s₁ B hml hv
  obtain ⟨rfl, hsz, hP, hK, hD0, hE⟩ := hv
  have hx := B.exec
  have hb := B.bytes
  have hr := B.returns
  have hts := atoms_spec (ws := .code yX11_end cX11_end 2 (some .int) :: wsA) B.pre
  have hq : ∀ w ∈ wsA, w.before _ s = true := fun w h => hts w (List.mem_cons_of_mem _ h)
  have hown : s.vm.findClass RX11 = some m.cls := findClass_of_methodNamed B.named
  have hlocks := B.notSynchronized
  subst hsz
  have hD := hD0.self (sz := s.heap.size)
  generalize hAe : va_A [(h0, .inr (11, [.ref tp, .int s_taped, .ref dr, .ref rr, .ref rl, .int s_ruleCount, .int s_inForce, .ref to, .ref df, .ref nw, .ref tr, .ref no, .ref pa, .ref im, .ref co, .ref se, .ref ga, .ref pt, .int s_x]))] s.heap.size = A at hD ⊢
  have hA : ∀ q : Nat, s.heap.size ≤ q → A q := fun q h => by rw [← hAe]; exact Or.inr h
  have hS : va_S A s.heap s.heap [] := va_S.rf
  have hl := lv_entry ([.ref h0, .int x0]) (n := 2) (Nat.le_of_ble_eq_true rfl)
  rw [lg_entry_eq]
  generalize (lg_sl ([.ref h0, .int x0]) ++ List.replicate (2 - (lg_sl ([.ref h0, .int x0])).length) Slot.unset).toArray = ls at hl ⊢
  have hl : lv_has ls 2 [(0, .ref h0), (1, .int x0)] := hl
  refine lv_iload_n hx hb dX11_end_0 rfl (lv_at hl 1 rfl) ?_
  refine W.cut (I := fun H locs g => ∃ (ls : Array Slot), va_P (dC, dI) classes [(h0, .inr (11, [.ref tp, .int s_taped, .ref dr, .ref rr, .ref rl, .int s_ruleCount, .int s_inForce, .ref to, .ref df, .ref nw, .ref tr, .ref no, .ref pa, .ref im, .ref co, .ref se, .ref ga, .ref pt, .int s_x]))] H ∧ va_D A [(h0, .inr (11, [.ref tp, .int s_taped, .ref dr, .ref rr, .ref rl, .int s_ruleCount, .int s_inForce, .ref to, .ref df, .ref nw, .ref tr, .ref no, .ref pa, .ref im, .ref co, .ref se, .ref ga, .ref pt, .int s_x]))] ∧ va_S A s.heap H locs ∧ lv_has ls 2 [] ∧ g = F0 m 12 ls []) (fun H locs g h => ?_) (fun hJ12 => ?_)
  · obtain ⟨ls, hP, hD, hS, hl, rfl⟩ := h
    refine lv_iconst (v := (-1)) hx hb dX11_end_12 (by decide) ?_
    refine W.widen (k := 0) (n := 0) (Nat.le_of_ble_eq_true rfl) (Nat.le_of_ble_eq_true rfl) ?_
    exact W.iret (v := (-1)) hx hb hr (fun t ht hW => ⟨⟨(-1), (), rfl, trivial, (fun i => [s_taped].getD i 0), by rw [ht]; exact hP, va_K.moved hW.alike hK, hD⟩, hS.F ht⟩) hS.2.2 dX11_end_13
  refine lv_if_lt (tgt := 12) hx hb dX11_end_1 (by decide) (fun c_6 => ?_) (fun c_6 => ?_)
  · exact hJ12 _ _ _ ⟨_, hP, hD, hS, (lv_sub hl [] rfl), rfl⟩
  · refine lv_iload_n hx hb dX11_end_4 rfl (lv_at hl 1 rfl) ?_
    refine lv_aload_n hx hb dX11_end_5 rfl (lv_at hl 0 rfl) ?_
    refine va_get (D := (dC, dI)) (ci := 11) (v := .int s_taped) (C := RX11) (T := TX11) (N := 19) hx hb hq inX11 hown hK hP 0 rfl rfl 1 (by decide) (hq _ qw_450) (fun _ h9 => h9) rfl dX11_end_6 ?_
    refine lv_icmp_le (tgt := 14) hx hb dX11_end_9 (by decide) (fun c_7 => ?_) (fun c_7 => ?_)
    · refine lv_aload_n hx hb dX11_end_14 rfl (lv_at hl 0 rfl) ?_
      refine lv_iload_n hx hb dX11_end_15 rfl (lv_at hl 1 rfl) ?_
      refine va_put (D := (dC, dI)) (ci := 11) (v := .int x0) (ty := .int) (C := RX11) (T := TX11) (N := 19) hx hb hq inX11 tyX11 tyX11_ok nmX11 hown hK hP hD hS 0 rfl rfl 1 (by decide) (hq _ qw_450) (fun _ h9 => h9) rfl (by decide +kernel) rfl rfl (Nat.le_of_ble_eq_true rfl) dX11_end_16 (fun H locs hP hD hS => ?_)
      have hP : va_P (dC, dI) classes [(h0, .inr (11, [.ref tp, .int x0, .ref dr, .ref rr, .ref rl, .int s_ruleCount, .int s_inForce, .ref to, .ref df, .ref nw, .ref tr, .ref no, .ref pa, .ref im, .ref co, .ref se, .ref ga, .ref pt, .int s_x]))] H := hP
      have hD : va_D A [(h0, .inr (11, [.ref tp, .int x0, .ref dr, .ref rr, .ref rl, .int s_ruleCount, .int s_inForce, .ref to, .ref df, .ref nw, .ref tr, .ref no, .ref pa, .ref im, .ref co, .ref se, .ref ga, .ref pt, .int s_x]))] := hD
      refine lv_iload_n hx hb dX11_end_19 rfl (lv_at hl 1 rfl) ?_
      refine W.widen (k := 0) (n := 0) (Nat.le_of_ble_eq_true rfl) (Nat.le_of_ble_eq_true rfl) ?_
      exact W.iret (v := x0) hx hb hr (fun t ht hW => ⟨⟨x0, (), rfl, trivial, (fun i => [x0].getD i 0), by rw [ht]; exact hP, va_K.moved hW.alike hK, hD⟩, hS.F ht⟩) hS.2.2 dX11_end_20
    · exact hJ12 _ _ _ ⟨_, hP, hD, hS, (lv_sub hl [] rfl), rfl⟩

set_option maxHeartbeats 4000000 in
set_option maxRecDepth 100000 in
/-- x_force -/
theorem x_force (l : Launch) (dC : Nat → ClassId) (dI : Nat → Nat → Nat) (sz : Nat) (h0 : Nat) (tp : Nat) (s_taped : Int32) (dr : Nat) (rr : Nat) (rl : Nat) (s_ruleCount : Int32) (s_inForce : Int32) (to : Nat) (df : Nat) (nw : Nat) (tr : Nat) (no : Nat) (pa : Nat) (im : Nat) (co : Nat) (se : Nat) (ga : Nat) (pt : Nat) (s_x : Int32) (x0 : Int32) : Met l yX11_force (.code yX11_force cX11_force 3 (some .int) :: wsA) ({ frames := 0, cells := 0, slots := 0, locals := 0 }) (va_Pc [.ref h0, .int x0] (fun U => U.heap.size = sz ∧ va_P (dC, dI) classes [(h0, .inr (11, [.ref tp, .int s_taped, .ref dr, .ref rr, .ref rl, .int s_ruleCount, .int s_inForce, .ref to, .ref df, .ref nw, .ref tr, .ref no, .ref pa, .ref im, .ref co, .ref se, .ref ga, .ref pt, .int s_x]))] U.heap ∧ va_K (dC, dI) classes [] U ∧ va_D (fun _ => True) [(h0, .inr (11, [.ref tp, .int s_taped, .ref dr, .ref rr, .ref rl, .int s_ruleCount, .int s_inForce, .ref to, .ref df, .ref nw, .ref tr, .ref no, .ref pa, .ref im, .ref co, .ref se, .ref ga, .ref pt, .int s_x]))] ∧ xE U)) (va_Qi (fun (r : Int32) (_ : Unit) => True) (fun _ t => ∃ (yy_3 : Nat → Int32), va_P (dC, dI) classes [(h0, .inr (11, [.ref tp, .int s_taped, .ref dr, .ref rr, .ref rl, .int s_ruleCount, .int (yy_3 0), .ref to, .ref df, .ref nw, .ref tr, .ref no, .ref pa, .ref im, .ref co, .ref se, .ref ga, .ref pt, .int s_x]))] t.heap ∧ va_K (dC, dI) classes [] t ∧ va_D (va_A [(h0, .inr (11, [.ref tp, .int s_taped, .ref dr, .ref rr, .ref rl, .int s_ruleCount, .int s_inForce, .ref to, .ref df, .ref nw, .ref tr, .ref no, .ref pa, .ref im, .ref co, .ref se, .ref ga, .ref pt, .int s_x]))] sz) [(h0, .inr (11, [.ref tp, .int s_taped, .ref dr, .ref rr, .ref rl, .int s_ruleCount, .int (yy_3 0), .ref to, .ref df, .ref nw, .ref tr, .ref no, .ref pa, .ref im, .ref co, .ref se, .ref ga, .ref pt, .int s_x]))]) (va_A [(h0, .inr (11, [.ref tp, .int s_taped, .ref dr, .ref rr, .ref rl, .int s_ruleCount, .int s_inForce, .ref to, .ref df, .ref nw, .ref tr, .ref no, .ref pa, .ref im, .ref co, .ref se, .ref ga, .ref pt, .int s_x]))] sz)) 0 0 (va_A [(h0, .inr (11, [.ref tp, .int s_taped, .ref dr, .ref rr, .ref rl, .int s_ruleCount, .int s_inForce, .ref to, .ref df, .ref nw, .ref tr, .ref no, .ref pa, .ref im, .ref co, .ref se, .ref ga, .ref pt, .int s_x]))] sz) := by
  refine Met.ofW (cc := cX11_force) (maxL := 3) (ret := (some .int)) (by decide) rfl ?_
  intro p e s m args below meth c s₁ B hml hv
  obtain ⟨rfl, hsz, hP, hK, hD0, hE⟩ := hv
  have hx := B.exec
  have hb := B.bytes
  have hr := B.returns
  have hts := atoms_spec (ws := .code yX11_force cX11_force 3 (some .int) :: wsA) B.pre
  have hq : ∀ w ∈ wsA, w.before _ s = true := fun w h => hts w (List.mem_cons_of_mem _ h)
  have hown : s.vm.findClass RX11 = some m.cls := findClass_of_methodNamed B.named
  have hlocks := B.notSynchronized
  subst hsz
  have hD := hD0.self (sz := s.heap.size)
  generalize hAe : va_A [(h0, .inr (11, [.ref tp, .int s_taped, .ref dr, .ref rr, .ref rl, .int s_ruleCount, .int s_inForce, .ref to, .ref df, .ref nw, .ref tr, .ref no, .ref pa, .ref im, .ref co, .ref se, .ref ga, .ref pt, .int s_x]))] s.heap.size = A at hD ⊢
  have hA : ∀ q : Nat, s.heap.size ≤ q → A q := fun q h => by rw [← hAe]; exact Or.inr h
  have hS : va_S A s.heap s.heap [] := va_S.rf
  have hl := lv_entry ([.ref h0, .int x0]) (n := 3) (Nat.le_of_ble_eq_true rfl)
  rw [lg_entry_eq]
  generalize (lg_sl ([.ref h0, .int x0]) ++ List.replicate (3 - (lg_sl ([.ref h0, .int x0])).length) Slot.unset).toArray = ls at hl ⊢
  have hl : lv_has ls 3 [(0, .ref h0), (1, .int x0)] := hl
  refine lv_iload_n hx hb dX11_force_0 rfl (lv_at hl 1 rfl) ?_
  refine lv_iconst (v := (-1)) hx hb dX11_force_1 (by decide) ?_
  refine W.cut (I := fun H locs g => ∃ (ls : Array Slot), va_P (dC, dI) classes [(h0, .inr (11, [.ref tp, .int s_taped, .ref dr, .ref rr, .ref rl, .int s_ruleCount, .int s_inForce, .ref to, .ref df, .ref nw, .ref tr, .ref no, .ref pa, .ref im, .ref co, .ref se, .ref ga, .ref pt, .int s_x]))] H ∧ va_D A [(h0, .inr (11, [.ref tp, .int s_taped, .ref dr, .ref rr, .ref rl, .int s_ruleCount, .int s_inForce, .ref to, .ref df, .ref nw, .ref tr, .ref no, .ref pa, .ref im, .ref co, .ref se, .ref ga, .ref pt, .int s_x]))] ∧ va_S A s.heap H locs ∧ lv_has ls 3 [] ∧ g = F0 m 13 ls []) (fun H locs g h => ?_) (fun hJ13 => ?_)
  · obtain ⟨ls, hP, hD, hS, hl, rfl⟩ := h
    refine lv_bipush (v := (-2)) hx hb dX11_force_13 (by decide) ?_
    refine W.widen (k := 0) (n := 0) (Nat.le_of_ble_eq_true rfl) (Nat.le_of_ble_eq_true rfl) ?_
    exact W.iret (v := (-2)) hx hb hr (fun t ht hW => ⟨⟨(-2), (), rfl, trivial, (fun i => [s_inForce].getD i 0), by rw [ht]; exact hP, va_K.moved hW.alike hK, hD⟩, hS.F ht⟩) hS.2.2 dX11_force_15
  refine lv_icmp_lt (tgt := 13) hx hb dX11_force_2 (by decide) (fun c_6 => ?_) (fun c_6 => ?_)
  · exact hJ13 _ _ _ ⟨_, hP, hD, hS, (lv_sub hl [] rfl), rfl⟩
  · refine lv_iload_n hx hb dX11_force_5 rfl (lv_at hl 1 rfl) ?_
    refine lv_aload_n hx hb dX11_force_6 rfl (lv_at hl 0 rfl) ?_
    refine va_get (D := (dC, dI)) (ci := 11) (v := .int s_ruleCount) (C := RX11) (T := TX11) (N := 19) hx hb hq inX11 hown hK hP 0 rfl rfl 5 (by decide) (hq _ qw_454) (fun _ h9 => h9) rfl dX11_force_7 ?_
    refine lv_icmp_lt (tgt := 16) hx hb dX11_force_10 (by decide) (fun c_7 => ?_) (fun c_7 => ?_)
    · refine lv_aload_n hx hb dX11_force_16 rfl (lv_at hl 0 rfl) ?_
      refine va_get (D := (dC, dI)) (ci := 11) (v := .int s_inForce) (C := RX11) (T := TX11) (N := 19) hx hb hq inX11 hown hK hP 0 rfl rfl 6 (by decide) (hq _ qw_455) (fun _ h9 => h9) rfl dX11_force_17 ?_
      refine lv_istore_n (lv' := [(2, .int s_inForce), (0, .ref h0), (1, .int x0)]) hx hb dX11_force_20 rfl hl (by decide) rfl (fun ls hl => ?_)
      refine lv_aload_n hx hb dX11_force_21 rfl (lv_at hl 1 rfl) ?_
      refine lv_iload_n hx hb dX11_force_22 rfl (lv_at hl 2 rfl) ?_
      refine va_put (D := (dC, dI)) (ci := 11) (v := .int x0) (ty := .int) (C := RX11) (T := TX11) (N := 19) hx hb hq inX11 tyX11 tyX11_ok nmX11 hown hK hP hD hS 0 rfl rfl 6 (by decide) (hq _ qw_455) (fun _ h9 => h9) rfl (by decide +kernel) rfl rfl (Nat.le_of_ble_eq_true rfl) dX11_force_23 (fun H locs hP hD hS => ?_)
      have hP : va_P (dC, dI) classes [(h0, .inr (11, [.ref tp, .int s_taped, .ref dr, .ref rr, .ref rl, .int s_ruleCount, .int x0, .ref to, .ref df, .ref nw, .ref tr, .ref no, .ref pa, .ref im, .ref co, .ref se, .ref ga, .ref pt, .int s_x]))] H := hP
      have hD : va_D A [(h0, .inr (11, [.ref tp, .int s_taped, .ref dr, .ref rr, .ref rl, .int s_ruleCount, .int x0, .ref to, .ref df, .ref nw, .ref tr, .ref no, .ref pa, .ref im, .ref co, .ref se, .ref ga, .ref pt, .int s_x]))] := hD
      refine lv_iload_n hx hb dX11_force_26 rfl (lv_at hl 0 rfl) ?_
      refine W.widen (k := 0) (n := 0) (Nat.le_of_ble_eq_true rfl) (Nat.le_of_ble_eq_true rfl) ?_
      exact W.iret (v := s_inForce) hx hb hr (fun t ht hW => ⟨⟨s_inForce, (), rfl, trivial, (fun i => [x0].getD i 0), by rw [ht]; exact hP, va_K.moved hW.alike hK, hD⟩, hS.F ht⟩) hS.2.2 dX11_force_27
    · exact hJ13 _ _ _ ⟨_, hP, hD, hS, (lv_sub hl [] rfl), rfl⟩

set_option maxHeartbeats 4000000 in
set_option maxRecDepth 100000 in
/-- x_dish -/
theorem x_dish (l : Launch) (dC : Nat → ClassId) (dI : Nat → Nat → Nat) (sz : Nat) (h0 : Nat) (tp : Nat) (s_taped : Int32) (dr : Nat) (rr : Nat) (rl : Nat) (s_ruleCount : Int32) (s_inForce : Int32) (to : Nat) (df : Nat) (nw : Nat) (tr : Nat) (no : Nat) (pa : Nat) (im : Nat) (co : Nat) (se : Nat) (ga : Nat) (pt : Nat) (s_x : Int32) (to_deep : Int32) (to_dishes : Int32) (to_guests : Int32) (tolo : Nat) (tosa : Nat) (toea : Nat) (tocl : Nat) (ktolo : ClassId) (gtolo : Nat → Int32) (ktosa : ClassId) (gtosa : Nat → Int32) (nw_minute : Int32) (nw_offered : Int32) (nw_table : Int32) (nw_sitting : Int32) (nw_gullet : Int32) (nw_knows : Int64) (x0 : Int32) (x1 : Int32) : Met l yX11_dish (.code yX11_dish cX11_dish 3 (some .int) :: wsA) ({ frames := 2, cells := 0, slots := 0, locals := 43 }) (va_Pc [.ref h0, .int x0, .int x1] (fun U => U.heap.size = sz ∧ va_P (dC, dI) classes [(h0, .inr (11, [.ref tp, .int s_taped, .ref dr, .ref rr, .ref rl, .int s_ruleCount, .int s_inForce, .ref to, .ref df, .ref nw, .ref tr, .ref no, .ref pa, .ref im, .ref co, .ref se, .ref ga, .ref pt, .int s_x])), (to, .inr (1, [.int to_deep, .int to_dishes, .int to_guests, .ref tolo, .ref tosa, .ref toea, .ref tocl])), (tolo, .inl (ktolo, 8, .inl gtolo)), (tosa, .inl (ktosa, 8, .inl gtosa)), (nw, .inr (3, [.int nw_minute, .int nw_offered, .int nw_table, .int nw_sitting, .int nw_gullet, .long nw_knows]))] U.heap ∧ va_K (dC, dI) classes [(ktolo, .int), (ktosa, .int)] U ∧ va_D (fun _ => True) [(h0, .inr (11, [.ref tp, .int s_taped, .ref dr, .ref rr, .ref rl, .int s_ruleCount, .int s_inForce, .ref to, .ref df, .ref nw, .ref tr, .ref no, .ref pa, .ref im, .ref co, .ref se, .ref ga, .ref pt, .int s_x])), (to, .inr (1, [.int to_deep, .int to_dishes, .int to_guests, .ref tolo, .ref tosa, .ref toea, .ref tocl])), (tolo, .inl (ktolo, 8, .inl gtolo)), (tosa, .inl (ktosa, 8, .inl gtosa)), (nw, .inr (3, [.int nw_minute, .int nw_offered, .int nw_table, .int nw_sitting, .int nw_gullet, .long nw_knows]))] ∧ xE U)) (va_Qi (fun (r : Int32) (_ : Unit) => True) (fun _ t => va_P (dC, dI) classes [(h0, .inr (11, [.ref tp, .int s_taped, .ref dr, .ref rr, .ref rl, .int s_ruleCount, .int s_inForce, .ref to, .ref df, .ref nw, .ref tr, .ref no, .ref pa, .ref im, .ref co, .ref se, .ref ga, .ref pt, .int s_x])), (to, .inr (1, [.int to_deep, .int to_dishes, .int to_guests, .ref tolo, .ref tosa, .ref toea, .ref tocl])), (tolo, .inl (ktolo, 8, .inl gtolo)), (tosa, .inl (ktosa, 8, .inl gtosa)), (nw, .inr (3, [.int nw_minute, .int nw_offered, .int nw_table, .int nw_sitting, .int nw_gullet, .long nw_knows]))] t.heap ∧ va_K (dC, dI) classes [(ktolo, .int), (ktosa, .int)] t ∧ va_D (va_A [(h0, .inr (11, [.ref tp, .int s_taped, .ref dr, .ref rr, .ref rl, .int s_ruleCount, .int s_inForce, .ref to, .ref df, .ref nw, .ref tr, .ref no, .ref pa, .ref im, .ref co, .ref se, .ref ga, .ref pt, .int s_x])), (to, .inr (1, [.int to_deep, .int to_dishes, .int to_guests, .ref tolo, .ref tosa, .ref toea, .ref tocl])), (tolo, .inl (ktolo, 8, .inl gtolo)), (tosa, .inl (ktosa, 8, .inl gtosa)), (nw, .inr (3, [.int nw_minute, .int nw_offered, .int nw_table, .int nw_sitting, .int nw_gullet, .long nw_knows]))] sz) [(h0, .inr (11, [.ref tp, .int s_taped, .ref dr, .ref rr, .ref rl, .int s_ruleCount, .int s_inForce, .ref to, .ref df, .ref nw, .ref tr, .ref no, .ref pa, .ref im, .ref co, .ref se, .ref ga, .ref pt, .int s_x])), (to, .inr (1, [.int to_deep, .int to_dishes, .int to_guests, .ref tolo, .ref tosa, .ref toea, .ref tocl])), (tolo, .inl (ktolo, 8, .inl gtolo)), (tosa, .inl (ktosa, 8, .inl gtosa)), (nw, .inr (3, [.int nw_minute, .int nw_offered, .int nw_table, .int nw_sitting, .int nw_gullet, .long nw_knows]))]) (va_A [(h0, .inr (11, [.ref tp, .int s_taped, .ref dr, .ref rr, .ref rl, .int s_ruleCount, .int s_inForce, .ref to, .ref df, .ref nw, .ref tr, .ref no, .ref pa, .ref im, .ref co, .ref se, .ref ga, .ref pt, .int s_x])), (to, .inr (1, [.int to_deep, .int to_dishes, .int to_guests, .ref tolo, .ref tosa, .ref toea, .ref tocl])), (tolo, .inl (ktolo, 8, .inl gtolo)), (tosa, .inl (ktosa, 8, .inl gtosa)), (nw, .inr (3, [.int nw_minute, .int nw_offered, .int nw_table, .int nw_sitting, .int nw_gullet, .long nw_knows]))] sz)) 0 0 (va_A [(h0, .inr (11, [.ref tp, .int s_taped, .ref dr, .ref rr, .ref rl, .int s_ruleCount, .int s_inForce, .ref to, .ref df, .ref nw, .ref tr, .ref no, .ref pa, .ref im, .ref co, .ref se, .ref ga, .ref pt, .int s_x])), (to, .inr (1, [.int to_deep, .int to_dishes, .int to_guests, .ref tolo, .ref tosa, .ref toea, .ref tocl])), (tolo, .inl (ktolo, 8, .inl gtolo)), (tosa, .inl (ktosa, 8, .inl gtosa)), (nw, .inr (3, [.int nw_minute, .int nw_offered, .int nw_table, .int nw_sitting, .int nw_gullet, .long nw_knows]))] sz) := by
  refine Met.ofW (cc := cX11_dish) (maxL := 3) (ret := (some .int)) (by decide) rfl ?_
  intro p e s m args below meth c s₁ B hml hv
  obtain ⟨rfl, hsz, hP, hK, hD0, hE⟩ := hv
  have hx := B.exec
  have hb := B.bytes
  have hr := B.returns
  have hts := atoms_spec (ws := .code yX11_dish cX11_dish 3 (some .int) :: wsA) B.pre
  have hq : ∀ w ∈ wsA, w.before _ s = true := fun w h => hts w (List.mem_cons_of_mem _ h)
  have hown : s.vm.findClass RX11 = some m.cls := findClass_of_methodNamed B.named
  have hlocks := B.notSynchronized
  subst hsz
  have hD := hD0.self (sz := s.heap.size)
  generalize hAe : va_A [(h0, .inr (11, [.ref tp, .int s_taped, .ref dr, .ref rr, .ref rl, .int s_ruleCount, .int s_inForce, .ref to, .ref df, .ref nw, .ref tr, .ref no, .ref pa, .ref im, .ref co, .ref se, .ref ga, .ref pt, .int s_x])), (to, .inr (1, [.int to_deep, .int to_dishes, .int to_guests, .ref tolo, .ref tosa, .ref toea, .ref tocl])), (tolo, .inl (ktolo, 8, .inl gtolo)), (tosa, .inl (ktosa, 8, .inl gtosa)), (nw, .inr (3, [.int nw_minute, .int nw_offered, .int nw_table, .int nw_sitting, .int nw_gullet, .long nw_knows]))] s.heap.size = A at hD ⊢
  have hA : ∀ q : Nat, s.heap.size ≤ q → A q := fun q h => by rw [← hAe]; exact Or.inr h
  have hS : va_S A s.heap s.heap [] := va_S.rf
  have hl := lv_entry ([.ref h0, .int x0, .int x1]) (n := 3) (Nat.le_of_ble_eq_true rfl)
  rw [lg_entry_eq]
  generalize (lg_sl ([.ref h0, .int x0, .int x1]) ++ List.replicate (3 - (lg_sl ([.ref h0, .int x0, .int x1])).length) Slot.unset).toArray = ls at hl ⊢
  have hl : lv_has ls 3 [(0, .ref h0), (1, .int x0), (2, .int x1)] := hl
  refine lv_aload_n hx hb dX11_dish_0 rfl (lv_at hl 0 rfl) ?_
  refine lv_iload_n hx hb dX11_dish_1 rfl (lv_at hl 1 rfl) ?_
  have hPc := hP.sub (ws' := [(h0, .inr (11, [.ref tp, .int s_taped, .ref dr, .ref rr, .ref rl, .int s_ruleCount, .int s_inForce, .ref to, .ref df, .ref nw, .ref tr, .ref no, .ref pa, .ref im, .ref co, .ref se, .ref ga, .ref pt, .int s_x])), (to, .inr (1, [.int to_deep, .int to_dishes, .int to_guests, .ref tolo, .ref tosa, .ref toea, .ref tocl]))]) [0, 1] rfl
  have hDc := hD.sub (ws' := [(h0, .inr (11, [.ref tp, .int s_taped, .ref dr, .ref rr, .ref rl, .int s_ruleCount, .int s_inForce, .ref to, .ref df, .ref nw, .ref tr, .ref no, .ref pa, .ref im, .ref co, .ref se, .ref ga, .ref pt, .int s_x])), (to, .inr (1, [.int to_deep, .int to_dishes, .int to_guests, .ref tolo, .ref tosa, .ref toea, .ref tocl]))]) [0, 1] (by decide) rfl
  have hKc := hK.sub (tys' := []) [] rfl
  have hFc := va_free (wc := [(h0, .inr (11, [.ref tp, .int s_taped, .ref dr, .ref rr, .ref rl, .int s_ruleCount, .int s_inForce, .ref to, .ref df, .ref nw, .ref tr, .ref no, .ref pa, .ref im, .ref co, .ref se, .ref ga, .ref pt, .int s_x])), (to, .inr (1, [.int to_deep, .int to_dishes, .int to_guests, .ref tolo, .ref tosa, .ref toea, .ref tocl]))]) hD hS hA [0, 1] rfl
  refine va_calli (va_runV (As := [.int x0]) (rest := []) ⟨hx, hb, hml, hown, hq⟩ (x_isDish l dC dI _ h0 tp s_taped dr rr rl s_ruleCount s_inForce to df nw tr no pa im co se ga pt s_x to_deep to_dishes to_guests tolo tosa toea tocl x0 ) (cwV 1 hq (gV qw_739 qw_741 qw_12 qw_119 qw_742) rfl rfl rfl (by decide +kernel) ⟨Nat.le_of_ble_eq_true rfl, Nat.le_of_ble_eq_true rfl⟩) ⟨fun a U g mk q => by obtain ⟨q0, q1, qP, qK, qD, qE⟩ := q; exact ⟨q0, q1, qP, va_K.moved (u := U) (U := U.calling g mk a) (Vm.Alike.refl U.vm) qK, qD, xE.same rfl qE⟩, va_recv hKc hPc (ci := 11) (q0 := 0) rfl rfl, fun U hU hW => ⟨rfl, by rw [hU], by rw [hU]; exact hPc, va_K.moved hW.alike hKc, hDc.weaken (fun _ _ _ _ => trivial), xE.warm hW hE⟩⟩ rfl rfl hl.1 rfl (lv_room (Nat.le_of_ble_eq_true rfl)) dX11_dish_2 ⟨Nat.le_of_ble_eq_true rfl, Nat.le_of_ble_eq_true rfl⟩) hS (fun q _ h => hFc q h) hFc (fun r_16 u t H1 locs ht hvm hw hB hz1 hk1 hS => ?_)
  obtain ⟨hP1, hK1, hD1⟩ := hB
  rw [ht] at hP1
  obtain ⟨hP, hD⟩ := va_join (wr := [(tolo, .inl (ktolo, 8, .inl gtolo)), (tosa, .inl (ktosa, 8, .inl gtosa)), (nw, .inr (3, [.int nw_minute, .int nw_offered, .int nw_table, .int nw_sitting, .int nw_gullet, .long nw_knows]))]) (w1 := [(h0, .inr (11, [.ref tp, .int s_taped, .ref dr, .ref rr, .ref rl, .int s_ruleCount, .int s_inForce, .ref to, .ref df, .ref nw, .ref tr, .ref no, .ref pa, .ref im, .ref co, .ref se, .ref ga, .ref pt, .int s_x])), (to, .inr (1, [.int to_deep, .int to_dishes, .int to_guests, .ref tolo, .ref tosa, .ref toea, .ref tocl]))]) hP hD [0, 1] [2, 3, 4] rfl rfl (by decide) (by decide) hk1 hFc hP1 hD1
  generalize H1 = H at hP hS ⊢
  have hP : va_P (dC, dI) classes [(tolo, .inl (ktolo, 8, .inl gtolo)), (tosa, .inl (ktosa, 8, .inl gtosa)), (nw, .inr (3, [.int nw_minute, .int nw_offered, .int nw_table, .int nw_sitting, .int nw_gullet, .long nw_knows])), (h0, .inr (11, [.ref tp, .int s_taped, .ref dr, .ref rr, .ref rl, .int s_ruleCount, .int s_inForce, .ref to, .ref df, .ref nw, .ref tr, .ref no, .ref pa, .ref im, .ref co, .ref se, .ref ga, .ref pt, .int s_x])), (to, .inr (1, [.int to_deep, .int to_dishes, .int to_guests, .ref tolo, .ref tosa, .ref toea, .ref tocl]))] H := hP
  have hD : va_D A [(tolo, .inl (ktolo, 8, .inl gtolo)), (tosa, .inl (ktosa, 8, .inl gtosa)), (nw, .inr (3, [.int nw_minute, .int nw_offered, .int nw_table, .int nw_sitting, .int nw_gullet, .long nw_knows])), (h0, .inr (11, [.ref tp, .int s_taped, .ref dr, .ref rr, .ref rl, .int s_ruleCount, .int s_inForce, .ref to, .ref df, .ref nw, .ref tr, .ref no, .ref pa, .ref im, .ref co, .ref se, .ref ga, .ref pt, .int s_x])), (to, .inr (1, [.int to_deep, .int to_dishes, .int to_guests, .ref tolo, .ref tosa, .ref toea, .ref tocl]))] := hD
  refine W.cut (I := fun H locs g => ∃ (ls : Array Slot), va_P (dC, dI) classes [(tolo, .inl (ktolo, 8, .inl gtolo)), (tosa, .inl (ktosa, 8, .inl gtosa)), (nw, .inr (3, [.int nw_minute, .int nw_offered, .int nw_table, .int nw_sitting, .int nw_gullet, .long nw_knows])), (h0, .inr (11, [.ref tp, .int s_taped, .ref dr, .ref rr, .ref rl, .int s_ruleCount, .int s_inForce, .ref to, .ref df, .ref nw, .ref tr, .ref no, .ref pa, .ref im, .ref co, .ref se, .ref ga, .ref pt, .int s_x])), (to, .inr (1, [.int to_deep, .int to_dishes, .int to_guests, .ref tolo, .ref tosa, .ref toea, .ref tocl]))] H ∧ va_D A [(tolo, .inl (ktolo, 8, .inl gtolo)), (tosa, .inl (ktosa, 8, .inl gtosa)), (nw, .inr (3, [.int nw_minute, .int nw_offered, .int nw_table, .int nw_sitting, .int nw_gullet, .long nw_knows])), (h0, .inr (11, [.ref tp, .int s_taped, .ref dr, .ref rr, .ref rl, .int s_ruleCount, .int s_inForce, .ref to, .ref df, .ref nw, .ref tr, .ref no, .ref pa, .ref im, .ref co, .ref se, .ref ga, .ref pt, .int s_x])), (to, .inr (1, [.int to_deep, .int to_dishes, .int to_guests, .ref tolo, .ref tosa, .ref toea, .ref tocl]))] ∧ va_S A s.heap H locs ∧ lv_has ls 3 [] ∧ g = F0 m 17 ls []) (fun H locs g h => ?_) (fun hJ17 => ?_)
  · obtain ⟨ls, hP, hD, hS, hl, rfl⟩ := h
    refine lv_bipush (v := (-3)) hx hb dX11_dish_17 (by decide) ?_
    refine W.widen (k := 0) (n := 0) (Nat.le_of_ble_eq_true rfl) (Nat.le_of_ble_eq_true rfl) ?_
    exact W.iret (v := (-3)) hx hb hr (fun t ht hW => ⟨⟨(-3), (), rfl, trivial, by rw [ht]; exact (hP.sub (ws' := [(h0, .inr (11, [.ref tp, .int s_taped, .ref dr, .ref rr, .ref rl, .int s_ruleCount, .int s_inForce, .ref to, .ref df, .ref nw, .ref tr, .ref no, .ref pa, .ref im, .ref co, .ref se, .ref ga, .ref pt, .int s_x])), (to, .inr (1, [.int to_deep, .int to_dishes, .int to_guests, .ref tolo, .ref tosa, .ref toea, .ref tocl])), (tolo, .inl (ktolo, 8, .inl gtolo)), (tosa, .inl (ktosa, 8, .inl gtosa)), (nw, .inr (3, [.int nw_minute, .int nw_offered, .int nw_table, .int nw_sitting, .int nw_gullet, .long nw_knows]))]) [3, 4, 0, 1, 2] rfl), va_K.moved hW.alike hK, (hD.sub (ws' := [(h0, .inr (11, [.ref tp, .int s_taped, .ref dr, .ref rr, .ref rl, .int s_ruleCount, .int s_inForce, .ref to, .ref df, .ref nw, .ref tr, .ref no, .ref pa, .ref im, .ref co, .ref se, .ref ga, .ref pt, .int s_x])), (to, .inr (1, [.int to_deep, .int to_dishes, .int to_guests, .ref tolo, .ref tosa, .ref toea, .ref tocl])), (tolo, .inl (ktolo, 8, .inl gtolo)), (tosa, .inl (ktosa, 8, .inl gtosa)), (nw, .inr (3, [.int nw_minute, .int nw_offered, .int nw_table, .int nw_sitting, .int nw_gullet, .long nw_knows]))]) [3, 4, 0, 1, 2] (by decide) rfl)⟩, hS.F ht⟩) hS.2.2 dX11_dish_19
  refine lv_if_eq (tgt := 17) hx hb dX11_dish_5 (by decide) (fun c_31 => ?_) (fun c_31 => ?_)
  · exact hJ17 _ _ _ ⟨_, hP, hD, hS, (lv_sub hl [] rfl), rfl⟩
  · refine lv_iload_n hx hb dX11_dish_8 rfl (lv_at hl 2 rfl) ?_
    refine lv_iconst (v := 0) hx hb dX11_dish_9 (by decide) ?_
    refine lv_iconst (v := 2) hx hb dX11_dish_10 (by decide) ?_
    have hPc := hP.sub (ws' := []) [] rfl
    have hDc := hD.sub (ws' := []) [] (by decide) rfl
    have hKc := hK.sub (tys' := []) [] rfl
    have hFc := va_free (wc := []) hD hS hA [] rfl
    refine va_calli (va_runS (As := [.int x1, .int 0, .int 2]) (rest := []) ⟨hx, hb, hml, hown, hq⟩ (x_within l dC dI _ x1 0 2 ) (cwS 3 hq (gS qw_743 qw_744 qw_119 qw_745) rfl rfl rfl (by decide +kernel) ⟨Nat.le_of_ble_eq_true rfl, Nat.le_of_ble_eq_true rfl⟩) ⟨fun a U g mk q => by obtain ⟨q0, q1, qP, qK, qD, qE⟩ := q; exact ⟨q0, q1, qP, va_K.moved (u := U) (U := U.calling g mk a) (Vm.Alike.refl U.vm) qK, qD, xE.same rfl qE⟩, fun U hU hW => ⟨rfl, by rw [hU], by rw [hU]; exact hPc, va_K.moved hW.alike hKc, hDc.weaken (fun _ _ _ _ => trivial), xE.warm hW hE⟩⟩ rfl rfl hl.1 rfl (lv_room (Nat.le_of_ble_eq_true rfl)) dX11_dish_11 ⟨Nat.le_of_ble_eq_true rfl, Nat.le_of_ble_eq_true rfl⟩) hS (fun q _ h => hFc q h) hFc (fun r_32 u t H1 locs ht hvm hw hB hz1 hk1 hS => ?_)
    obtain ⟨hP1, hK1, hD1⟩ := hB
    rw [ht] at hP1
    obtain ⟨hP, hD⟩ := va_join (wr := [(tolo, .inl (ktolo, 8, .inl gtolo)), (tosa, .inl (ktosa, 8, .inl gtosa)), (nw, .inr (3, [.int nw_minute, .int nw_offered, .int nw_table, .int nw_sitting, .int nw_gullet, .long nw_knows])), (h0, .inr (11, [.ref tp, .int s_taped, .ref dr, .ref rr, .ref rl, .int s_ruleCount, .int s_inForce, .ref to, .ref df, .ref nw, .ref tr, .ref no, .ref pa, .ref im, .ref co, .ref se, .ref ga, .ref pt, .int s_x])), (to, .inr (1, [.int to_deep, .int to_dishes, .int to_guests, .ref tolo, .ref tosa, .ref toea, .ref tocl]))]) (w1 := []) hP hD [] [0, 1, 2, 3, 4] rfl rfl (by decide) (by decide) hk1 hFc hP1 hD1
    generalize H1 = H at hP hS ⊢
    have hP : va_P (dC, dI) classes [(tolo, .inl (ktolo, 8, .inl gtolo)), (tosa, .inl (ktosa, 8, .inl gtosa)), (nw, .inr (3, [.int nw_minute, .int nw_offered, .int nw_table, .int nw_sitting, .int nw_gullet, .long nw_knows])), (h0, .inr (11, [.ref tp, .int s_taped, .ref dr, .ref rr, .ref rl, .int s_ruleCount, .int s_inForce, .ref to, .ref df, .ref nw, .ref tr, .ref no, .ref pa, .ref im, .ref co, .ref se, .ref ga, .ref pt, .int s_x])), (to, .inr (1, [.int to_deep, .int to_dishes, .int to_guests, .ref tolo, .ref tosa, .ref toea, .ref tocl]))] H := hP
    have hD : va_D A [(tolo, .inl (ktolo, 8, .inl gtolo)), (tosa, .inl (ktosa, 8, .inl gtosa)), (nw, .inr (3, [.int nw_minute, .int nw_offered, .int nw_table, .int nw_sitting, .int nw_gullet, .long nw_knows])), (h0, .inr (11, [.ref tp, .int s_taped, .ref dr, .ref rr, .ref rl, .int s_ruleCount, .int s_inForce, .ref to, .ref df, .ref nw, .ref tr, .ref no, .ref pa, .ref im, .ref co, .ref se, .ref ga, .ref pt, .int s_x])), (to, .inr (1, [.int to_deep, .int to_dishes, .int to_guests, .ref tolo, .ref tosa, .ref toea, .ref tocl]))] := hD
    refine lv_if_ne (tgt := 20) hx hb dX11_dish_14 (by decide) (fun c_33 => ?_) (fun c_33 => ?_)
    · refine lv_iload_n hx hb dX11_dish_20 rfl (lv_at hl 2 rfl) ?_
      refine lv_if_ne (tgt := 37) hx hb dX11_dish_21 (by decide) (fun c_34 => ?_) (fun c_34 => ?_)
      · refine lv_iload_n hx hb dX11_dish_37 rfl (lv_at hl 2 rfl) ?_
        refine lv_iconst (v := 1) hx hb dX11_dish_38 (by decide) ?_
        refine lv_icmp_ne (tgt := 55) hx hb dX11_dish_39 (by decide) (fun c_35 => ?_) (fun c_35 => ?_)
        · refine lv_aload_n hx hb dX11_dish_55 rfl (lv_at hl 0 rfl) ?_
          refine va_get (D := (dC, dI)) (ci := 11) (v := .ref nw) (C := RX11) (T := TX11) (N := 19) hx hb hq inX11 hown hK hP 3 rfl rfl 9 (by decide) (hq _ qw_458) (fun _ h9 => h9) rfl dX11_dish_56 ?_
          refine lv_iload_n hx hb dX11_dish_59 rfl (lv_at hl 1 rfl) ?_
          have hPc := hP.sub (ws' := [(nw, .inr (3, [.int nw_minute, .int nw_offered, .int nw_table, .int nw_sitting, .int nw_gullet, .long nw_knows]))]) [2] rfl
          have hDc := hD.sub (ws' := [(nw, .inr (3, [.int nw_minute, .int nw_offered, .int nw_table, .int nw_sitting, .int nw_gullet, .long nw_knows]))]) [2] (by decide) rfl
          have hKc := hK.sub (tys' := []) [] rfl
          have hFc := va_free (wc := [(nw, .inr (3, [.int nw_minute, .int nw_offered, .int nw_table, .int nw_sitting, .int nw_gullet, .long nw_knows]))]) hD hS hA [2] rfl
          refine va_calli (va_runV (As := [.int x0]) (rest := []) ⟨hx, hb, hml, hown, hq⟩ (e_onTable l dC dI _ nw nw_minute nw_offered nw_table nw_sitting nw_gullet nw_knows x0 ) (cwV 1 hq (gV qw_746 qw_747 qw_748 qw_125 qw_749) rfl rfl rfl (by decide +kernel) ⟨Nat.le_of_ble_eq_true rfl, Nat.le_of_ble_eq_true rfl⟩) ⟨fun a U g mk q => by obtain ⟨q0, q1, qP, qK, qD, qE⟩ := q; exact ⟨q0, q1, qP, va_K.moved (u := U) (U := U.calling g mk a) (Vm.Alike.refl U.vm) qK, qD, xE.same rfl qE⟩, va_recv hKc hPc (ci := 3) (q0 := 0) rfl rfl, fun U hU hW => ⟨rfl, by rw [hU], by rw [hU]; exact hPc, va_K.moved hW.alike hKc, hDc.weaken (fun _ _ _ _ => trivial), xE.warm hW hE⟩⟩ rfl rfl hl.1 rfl (lv_room (Nat.le_of_ble_eq_true rfl)) dX11_dish_60 ⟨Nat.le_of_ble_eq_true rfl, Nat.le_of_ble_eq_true rfl⟩) hS (fun q _ h => hFc q h) hFc (fun r_36 u t H1 locs ht hvm hw hB hz1 hk1 hS => ?_)
          obtain ⟨hP1, hK1, hD1⟩ := hB
          rw [ht] at hP1
          obtain ⟨hP, hD⟩ := va_join (wr := [(tolo, .inl (ktolo, 8, .inl gtolo)), (tosa, .inl (ktosa, 8, .inl gtosa)), (h0, .inr (11, [.ref tp, .int s_taped, .ref dr, .ref rr, .ref rl, .int s_ruleCount, .int s_inForce, .ref to, .ref df, .ref nw, .ref tr, .ref no, .ref pa, .ref im, .ref co, .ref se, .ref ga, .ref pt, .int s_x])), (to, .inr (1, [.int to_deep, .int to_dishes, .int to_guests, .ref tolo, .ref tosa, .ref toea, .ref tocl]))]) (w1 := [(nw, .inr (3, [.int nw_minute, .int nw_offered, .int nw_table, .int nw_sitting, .int nw_gullet, .long nw_knows]))]) hP hD [2] [0, 1, 3, 4] rfl rfl (by decide) (by decide) hk1 hFc hP1 hD1
          generalize H1 = H at hP hS ⊢
          have hP : va_P (dC, dI) classes [(tolo, .inl (ktolo, 8, .inl gtolo)), (tosa, .inl (ktosa, 8, .inl gtosa)), (h0, .inr (11, [.ref tp, .int s_taped, .ref dr, .ref rr, .ref rl, .int s_ruleCount, .int s_inForce, .ref to, .ref df, .ref nw, .ref tr, .ref no, .ref pa, .ref im, .ref co, .ref se, .ref ga, .ref pt, .int s_x])), (to, .inr (1, [.int to_deep, .int to_dishes, .int to_guests, .ref tolo, .ref tosa, .ref toea, .ref tocl])), (nw, .inr (3, [.int nw_minute, .int nw_offered, .int nw_table, .int nw_sitting, .int nw_gullet, .long nw_knows]))] H := hP
          have hD : va_D A [(tolo, .inl (ktolo, 8, .inl gtolo)), (tosa, .inl (ktosa, 8, .inl gtosa)), (h0, .inr (11, [.ref tp, .int s_taped, .ref dr, .ref rr, .ref rl, .int s_ruleCount, .int s_inForce, .ref to, .ref df, .ref nw, .ref tr, .ref no, .ref pa, .ref im, .ref co, .ref se, .ref ga, .ref pt, .int s_x])), (to, .inr (1, [.int to_deep, .int to_dishes, .int to_guests, .ref tolo, .ref tosa, .ref toea, .ref tocl])), (nw, .inr (3, [.int nw_minute, .int nw_offered, .int nw_table, .int nw_sitting, .int nw_gullet, .long nw_knows]))] := hD
          refine lv_if_eq (tgt := 70) hx hb dX11_dish_63 (by decide) (fun c_37 => ?_) (fun c_37 => ?_)
          · refine lv_aload_n hx hb dX11_dish_70 rfl (lv_at hl 0 rfl) ?_
            refine va_get (D := (dC, dI)) (ci := 11) (v := .ref nw) (C := RX11) (T := TX11) (N := 19) hx hb hq inX11 hown hK hP 2 rfl rfl 9 (by decide) (hq _ qw_458) (fun _ h9 => h9) rfl dX11_dish_71 ?_
            refine lv_iload_n hx hb dX11_dish_74 rfl (lv_at hl 1 rfl) ?_
            have hPc := hP.sub (ws' := [(nw, .inr (3, [.int nw_minute, .int nw_offered, .int nw_table, .int nw_sitting, .int nw_gullet, .long nw_knows]))]) [4] rfl
            have hDc := hD.sub (ws' := [(nw, .inr (3, [.int nw_minute, .int nw_offered, .int nw_table, .int nw_sitting, .int nw_gullet, .long nw_knows]))]) [4] (by decide) rfl
            have hKc := hK.sub (tys' := []) [] rfl
            have hFc := va_free (wc := [(nw, .inr (3, [.int nw_minute, .int nw_offered, .int nw_table, .int nw_sitting, .int nw_gullet, .long nw_knows]))]) hD hS hA [4] rfl
            refine va_calli (va_runV (As := [.int x0]) (rest := []) ⟨hx, hb, hml, hown, hq⟩ (e_placeOf l dC dI _ nw nw_minute nw_offered nw_table nw_sitting nw_gullet nw_knows x0 ) (cwV 1 hq (gV qw_750 qw_751 qw_752 qw_125 qw_753) rfl rfl rfl (by decide +kernel) ⟨Nat.le_of_ble_eq_true rfl, Nat.le_of_ble_eq_true rfl⟩) ⟨fun a U g mk q => by obtain ⟨q0, q1, qP, qK, qD, qE⟩ := q; exact ⟨q0, q1, qP, va_K.moved (u := U) (U := U.calling g mk a) (Vm.Alike.refl U.vm) qK, qD, xE.same rfl qE⟩, va_recv hKc hPc (ci := 3) (q0 := 0) rfl rfl, fun U hU hW => ⟨rfl, by rw [hU], by rw [hU]; exact hPc, va_K.moved hW.alike hKc, hDc.weaken (fun _ _ _ _ => trivial), xE.warm hW hE⟩⟩ rfl rfl hl.1 rfl (lv_room (Nat.le_of_ble_eq_true rfl)) dX11_dish_75 ⟨Nat.le_of_ble_eq_true rfl, Nat.le_of_ble_eq_true rfl⟩) hS (fun q _ h => hFc q h) hFc (fun r_38 u t H1 locs ht hvm hw hB hz1 hk1 hS => ?_)
            obtain ⟨hP1, hK1, hD1⟩ := hB
            rw [ht] at hP1
            obtain ⟨hP, hD⟩ := va_join (wr := [(tolo, .inl (ktolo, 8, .inl gtolo)), (tosa, .inl (ktosa, 8, .inl gtosa)), (h0, .inr (11, [.ref tp, .int s_taped, .ref dr, .ref rr, .ref rl, .int s_ruleCount, .int s_inForce, .ref to, .ref df, .ref nw, .ref tr, .ref no, .ref pa, .ref im, .ref co, .ref se, .ref ga, .ref pt, .int s_x])), (to, .inr (1, [.int to_deep, .int to_dishes, .int to_guests, .ref tolo, .ref tosa, .ref toea, .ref tocl]))]) (w1 := [(nw, .inr (3, [.int nw_minute, .int nw_offered, .int nw_table, .int nw_sitting, .int nw_gullet, .long nw_knows]))]) hP hD [4] [0, 1, 2, 3] rfl rfl (by decide) (by decide) hk1 hFc hP1 hD1
            generalize H1 = H at hP hS ⊢
            have hP : va_P (dC, dI) classes [(tolo, .inl (ktolo, 8, .inl gtolo)), (tosa, .inl (ktosa, 8, .inl gtosa)), (h0, .inr (11, [.ref tp, .int s_taped, .ref dr, .ref rr, .ref rl, .int s_ruleCount, .int s_inForce, .ref to, .ref df, .ref nw, .ref tr, .ref no, .ref pa, .ref im, .ref co, .ref se, .ref ga, .ref pt, .int s_x])), (to, .inr (1, [.int to_deep, .int to_dishes, .int to_guests, .ref tolo, .ref tosa, .ref toea, .ref tocl])), (nw, .inr (3, [.int nw_minute, .int nw_offered, .int nw_table, .int nw_sitting, .int nw_gullet, .long nw_knows]))] H := hP
            have hD : va_D A [(tolo, .inl (ktolo, 8, .inl gtolo)), (tosa, .inl (ktosa, 8, .inl gtosa)), (h0, .inr (11, [.ref tp, .int s_taped, .ref dr, .ref rr, .ref rl, .int s_ruleCount, .int s_inForce, .ref to, .ref df, .ref nw, .ref tr, .ref no, .ref pa, .ref im, .ref co, .ref se, .ref ga, .ref pt, .int s_x])), (to, .inr (1, [.int to_deep, .int to_dishes, .int to_guests, .ref tolo, .ref tosa, .ref toea, .ref tocl])), (nw, .inr (3, [.int nw_minute, .int nw_offered, .int nw_table, .int nw_sitting, .int nw_gullet, .long nw_knows]))] := hD
            refine W.widen (k := 0) (n := 0) (Nat.le_of_ble_eq_true rfl) (Nat.le_of_ble_eq_true rfl) ?_
            exact W.iret (v := r_38) hx hb hr (fun t ht hW => ⟨⟨r_38, (), rfl, trivial, by rw [ht]; exact (hP.sub (ws' := [(h0, .inr (11, [.ref tp, .int s_taped, .ref dr, .ref rr, .ref rl, .int s_ruleCount, .int s_inForce, .ref to, .ref df, .ref nw, .ref tr, .ref no, .ref pa, .ref im, .ref co, .ref se, .ref ga, .ref pt, .int s_x])), (to, .inr (1, [.int to_deep, .int to_dishes, .int to_guests, .ref tolo, .ref tosa, .ref toea, .ref tocl])), (tolo, .inl (ktolo, 8, .inl gtolo)), (tosa, .inl (ktosa, 8, .inl gtosa)), (nw, .inr (3, [.int nw_minute, .int nw_offered, .int nw_table, .int nw_sitting, .int nw_gullet, .long nw_knows]))]) [2, 3, 0, 1, 4] rfl), va_K.moved hW.alike hK, (hD.sub (ws' := [(h0, .inr (11, [.ref tp, .int s_taped, .ref dr, .ref rr, .ref rl, .int s_ruleCount, .int s_inForce, .ref to, .ref df, .ref nw, .ref tr, .ref no, .ref pa, .ref im, .ref co, .ref se, .ref ga, .ref pt, .int s_x])), (to, .inr (1, [.int to_deep, .int to_dishes, .int to_guests, .ref tolo, .ref tosa, .ref toea, .ref tocl])), (tolo, .inl (ktolo, 8, .inl gtolo)), (tosa, .inl (ktosa, 8, .inl gtosa)), (nw, .inr (3, [.int nw_minute, .int nw_offered, .int nw_table, .int nw_sitting, .int nw_gullet, .long nw_knows]))]) [2, 3, 0, 1, 4] (by decide) rfl)⟩, hS.F ht⟩) hS.2.2 dX11_dish_78
          · refine lv_iconst (v := (-1)) hx hb dX11_dish_66 (by decide) ?_
            refine lv_goto (tgt := 78) hx hb dX11_dish_67 (by decide) ?_
            refine W.widen (k := 0) (n := 0) (Nat.le_of_ble_eq_true rfl) (Nat.le_of_ble_eq_true rfl) ?_
            exact W.iret (v := (-1)) hx hb hr (fun t ht hW => ⟨⟨(-1), (), rfl, trivial, by rw [ht]; exact (hP.sub (ws' := [(h0, .inr (11, [.ref tp, .int s_taped, .ref dr, .ref rr, .ref rl, .int s_ruleCount, .int s_inForce, .ref to, .ref df, .ref nw, .ref tr, .ref no, .ref pa, .ref im, .ref co, .ref se, .ref ga, .ref pt, .int s_x])), (to, .inr (1, [.int to_deep, .int to_dishes, .int to_guests, .ref tolo, .ref tosa, .ref toea, .ref tocl])), (tolo, .inl (ktolo, 8, .inl gtolo)), (tosa, .inl (ktosa, 8, .inl gtosa)), (nw, .inr (3, [.int nw_minute, .int nw_offered, .int nw_table, .int nw_sitting, .int nw_gullet, .long nw_knows]))]) [2, 3, 0, 1, 4] rfl), va_K.moved hW.alike hK, (hD.sub (ws' := [(h0, .inr (11, [.ref tp, .int s_taped, .ref dr, .ref rr, .ref rl, .int s_ruleCount, .int s_inForce, .ref to, .ref df, .ref nw, .ref tr, .ref no, .ref pa, .ref im, .ref co, .ref se, .ref ga, .ref pt, .int s_x])), (to, .inr (1, [.int to_deep, .int to_dishes, .int to_guests, .ref tolo, .ref tosa, .ref toea, .ref tocl])), (tolo, .inl (ktolo, 8, .inl gtolo)), (tosa, .inl (ktosa, 8, .inl gtosa)), (nw, .inr (3, [.int nw_minute, .int nw_offered, .int nw_table, .int nw_sitting, .int nw_gullet, .long nw_knows]))]) [2, 3, 0, 1, 4] (by decide) rfl)⟩, hS.F ht⟩) hS.2.2 dX11_dish_78
        · refine lv_aload_n hx hb dX11_dish_42 rfl (lv_at hl 0 rfl) ?_
          refine va_get (D := (dC, dI)) (ci := 11) (v := .ref to) (C := RX11) (T := TX11) (N := 19) hx hb hq inX11 hown hK hP 3 rfl rfl 7 (by decide) (hq _ qw_456) (fun _ h9 => h9) rfl dX11_dish_43 ?_
          refine va_get (D := (dC, dI)) (ci := 1) (v := .ref tosa) (C := RX1) (T := TX1) (N := 7) hx hb hq inX1 hown hK hP 4 rfl rfl 4 (by decide) (hq _ qw_241) (fun _ h9 => h9) rfl dX11_dish_46 ?_
          refine lv_iload_n hx hb dX11_dish_49 rfl (lv_at hl 1 rfl) ?_
          refine lv_bipush (v := 7) hx hb dX11_dish_50 (by decide) ?_
          refine lv_iand hx hb dX11_dish_52 ?_
          refine lv_topi (fun y_39 ey_39 => ?_)
          have b_40 : bt 0 7 y_39 := bt_andr ey_39 (bt_k (x := 7) (c := 7) (by decide)) (by decide)
          refine va_iald hx hb hK hP 1 1 rfl rfl (bt_in b_40 (by decide)) dX11_dish_53 ?_
          refine lv_topi (fun y_41 ey_41 => ?_)
          refine W.widen (k := 0) (n := 0) (Nat.le_of_ble_eq_true rfl) (Nat.le_of_ble_eq_true rfl) ?_
          exact W.iret (v := y_41) hx hb hr (fun t ht hW => ⟨⟨y_41, (), rfl, trivial, by rw [ht]; exact (hP.sub (ws' := [(h0, .inr (11, [.ref tp, .int s_taped, .ref dr, .ref rr, .ref rl, .int s_ruleCount, .int s_inForce, .ref to, .ref df, .ref nw, .ref tr, .ref no, .ref pa, .ref im, .ref co, .ref se, .ref ga, .ref pt, .int s_x])), (to, .inr (1, [.int to_deep, .int to_dishes, .int to_guests, .ref tolo, .ref tosa, .ref toea, .ref tocl])), (tolo, .inl (ktolo, 8, .inl gtolo)), (tosa, .inl (ktosa, 8, .inl gtosa)), (nw, .inr (3, [.int nw_minute, .int nw_offered, .int nw_table, .int nw_sitting, .int nw_gullet, .long nw_knows]))]) [3, 4, 0, 1, 2] rfl), va_K.moved hW.alike hK, (hD.sub (ws' := [(h0, .inr (11, [.ref tp, .int s_taped, .ref dr, .ref rr, .ref rl, .int s_ruleCount, .int s_inForce, .ref to, .ref df, .ref nw, .ref tr, .ref no, .ref pa, .ref im, .ref co, .ref se, .ref ga, .ref pt, .int s_x])), (to, .inr (1, [.int to_deep, .int to_dishes, .int to_guests, .ref tolo, .ref tosa, .ref toea, .ref tocl])), (tolo, .inl (ktolo, 8, .inl gtolo)), (tosa, .inl (ktosa, 8, .inl gtosa)), (nw, .inr (3, [.int nw_minute, .int nw_offered, .int nw_table, .int nw_sitting, .int nw_gullet, .long nw_knows]))]) [3, 4, 0, 1, 2] (by decide) rfl)⟩, hS.F ht⟩) hS.2.2 dX11_dish_54
      · refine lv_aload_n hx hb dX11_dish_24 rfl (lv_at hl 0 rfl) ?_
        refine va_get (D := (dC, dI)) (ci := 11) (v := .ref to) (C := RX11) (T := TX11) (N := 19) hx hb hq inX11 hown hK hP 3 rfl rfl 7 (by decide) (hq _ qw_456) (fun _ h9 => h9) rfl dX11_dish_25 ?_
        refine va_get (D := (dC, dI)) (ci := 1) (v := .ref tolo) (C := RX1) (T := TX1) (N := 7) hx hb hq inX1 hown hK hP 4 rfl rfl 3 (by decide) (hq _ qw_238) (fun _ h9 => h9) rfl dX11_dish_28 ?_
        refine lv_iload_n hx hb dX11_dish_31 rfl (lv_at hl 1 rfl) ?_
        refine lv_bipush (v := 7) hx hb dX11_dish_32 (by decide) ?_
        refine lv_iand hx hb dX11_dish_34 ?_
        refine lv_topi (fun y_42 ey_42 => ?_)
        have b_43 : bt 0 7 y_42 := bt_andr ey_42 (bt_k (x := 7) (c := 7) (by decide)) (by decide)
        refine va_iald hx hb hK hP 0 0 rfl rfl (bt_in b_43 (by decide)) dX11_dish_35 ?_
        refine lv_topi (fun y_44 ey_44 => ?_)
        refine W.widen (k := 0) (n := 0) (Nat.le_of_ble_eq_true rfl) (Nat.le_of_ble_eq_true rfl) ?_
        exact W.iret (v := y_44) hx hb hr (fun t ht hW => ⟨⟨y_44, (), rfl, trivial, by rw [ht]; exact (hP.sub (ws' := [(h0, .inr (11, [.ref tp, .int s_taped, .ref dr, .ref rr, .ref rl, .int s_ruleCount, .int s_inForce, .ref to, .ref df, .ref nw, .ref tr, .ref no, .ref pa, .ref im, .ref co, .ref se, .ref ga, .ref pt, .int s_x])), (to, .inr (1, [.int to_deep, .int to_dishes, .int to_guests, .ref tolo, .ref tosa, .ref toea, .ref tocl])), (tolo, .inl (ktolo, 8, .inl gtolo)), (tosa, .inl (ktosa, 8, .inl gtosa)), (nw, .inr (3, [.int nw_minute, .int nw_offered, .int nw_table, .int nw_sitting, .int nw_gullet, .long nw_knows]))]) [3, 4, 0, 1, 2] rfl), va_K.moved hW.alike hK, (hD.sub (ws' := [(h0, .inr (11, [.ref tp, .int s_taped, .ref dr, .ref rr, .ref rl, .int s_ruleCount, .int s_inForce, .ref to, .ref df, .ref nw, .ref tr, .ref no, .ref pa, .ref im, .ref co, .ref se, .ref ga, .ref pt, .int s_x])), (to, .inr (1, [.int to_deep, .int to_dishes, .int to_guests, .ref tolo, .ref tosa, .ref toea, .ref tocl])), (tolo, .inl (ktolo, 8, .inl gtolo)), (tosa, .inl (ktosa, 8, .inl gtosa)), (nw, .inr (3, [.int nw_minute, .int nw_offered, .int nw_table, .int nw_sitting, .int nw_gullet, .long nw_knows]))]) [3, 4, 0, 1, 2] (by decide) rfl)⟩, hS.F ht⟩) hS.2.2 dX11_dish_36
    · exact hJ17 _ _ _ ⟨_, hP, hD, hS, (lv_sub hl [] rfl), rfl⟩

set_option maxHeartbeats 4000000 in
set_option maxRecDepth 100000 in
/-- x_guest -/
theorem x_guest (l : Launch) (dC : Nat → ClassId) (dI : Nat → Nat → Nat) (sz : Nat) (h0 : Nat) (tp : Nat) (s_taped : Int32) (dr : Nat) (rr : Nat) (rl : Nat) (s_ruleCount : Int32) (s_inForce : Int32) (to : Nat) (df : Nat) (nw : Nat) (tr : Nat) (no : Nat) (pa : Nat) (im : Nat) (co : Nat) (se : Nat) (ga : Nat) (pt : Nat) (s_x : Int32) (to_deep : Int32) (to_dishes : Int32) (to_guests : Int32) (tolo : Nat) (tosa : Nat) (toea : Nat) (tocl : Nat) (ktoea : ClassId) (gtoea : Nat → Int32) (nw_minute : Int32) (nw_offered : Int32) (nw_table : Int32) (nw_sitting : Int32) (nw_gullet : Int32) (nw_knows : Int64) (x0 : Int32) (x1 : Int32) : Met l yX11_guest (.code yX11_guest cX11_guest 3 (some .int) :: wsA) ({ frames := 1, cells := 0, slots := 0, locals := 22 }) (va_Pc [.ref h0, .int x0, .int x1] (fun U => U.heap.size = sz ∧ va_P (dC, dI) classes [(h0, .inr (11, [.ref tp, .int s_taped, .ref dr, .ref rr, .ref rl, .int s_ruleCount, .int s_inForce, .ref to, .ref df, .ref nw, .ref tr, .ref no, .ref pa, .ref im, .ref co, .ref se, .ref ga, .ref pt, .int s_x])), (to, .inr (1, [.int to_deep, .int to_dishes, .int to_guests, .ref tolo, .ref tosa, .ref toea, .ref tocl])), (toea, .inl (ktoea, 8, .inl gtoea)), (nw, .inr (3, [.int nw_minute, .int nw_offered, .int nw_table, .int nw_sitting, .int nw_gullet, .long nw_knows]))] U.heap ∧ va_K (dC, dI) classes [(ktoea, .int)] U ∧ va_D (fun _ => True) [(h0, .inr (11, [.ref tp, .int s_taped, .ref dr, .ref rr, .ref rl, .int s_ruleCount, .int s_inForce, .ref to, .ref df, .ref nw, .ref tr, .ref no, .ref pa, .ref im, .ref co, .ref se, .ref ga, .ref pt, .int s_x])), (to, .inr (1, [.int to_deep, .int to_dishes, .int to_guests, .ref tolo, .ref tosa, .ref toea, .ref tocl])), (toea, .inl (ktoea, 8, .inl gtoea)), (nw, .inr (3, [.int nw_minute, .int nw_offered, .int nw_table, .int nw_sitting, .int nw_gullet, .long nw_knows]))] ∧ xE U)) (va_Qi (fun (r : Int32) (_ : Unit) => True) (fun _ t => va_P (dC, dI) classes [(h0, .inr (11, [.ref tp, .int s_taped, .ref dr, .ref rr, .ref rl, .int s_ruleCount, .int s_inForce, .ref to, .ref df, .ref nw, .ref tr, .ref no, .ref pa, .ref im, .ref co, .ref se, .ref ga, .ref pt, .int s_x])), (to, .inr (1, [.int to_deep, .int to_dishes, .int to_guests, .ref tolo, .ref tosa, .ref toea, .ref tocl])), (toea, .inl (ktoea, 8, .inl gtoea)), (nw, .inr (3, [.int nw_minute, .int nw_offered, .int nw_table, .int nw_sitting, .int nw_gullet, .long nw_knows]))] t.heap ∧ va_K (dC, dI) classes [(ktoea, .int)] t ∧ va_D (va_A [(h0, .inr (11, [.ref tp, .int s_taped, .ref dr, .ref rr, .ref rl, .int s_ruleCount, .int s_inForce, .ref to, .ref df, .ref nw, .ref tr, .ref no, .ref pa, .ref im, .ref co, .ref se, .ref ga, .ref pt, .int s_x])), (to, .inr (1, [.int to_deep, .int to_dishes, .int to_guests, .ref tolo, .ref tosa, .ref toea, .ref tocl])), (toea, .inl (ktoea, 8, .inl gtoea)), (nw, .inr (3, [.int nw_minute, .int nw_offered, .int nw_table, .int nw_sitting, .int nw_gullet, .long nw_knows]))] sz) [(h0, .inr (11, [.ref tp, .int s_taped, .ref dr, .ref rr, .ref rl, .int s_ruleCount, .int s_inForce, .ref to, .ref df, .ref nw, .ref tr, .ref no, .ref pa, .ref im, .ref co, .ref se, .ref ga, .ref pt, .int s_x])), (to, .inr (1, [.int to_deep, .int to_dishes, .int to_guests, .ref tolo, .ref tosa, .ref toea, .ref tocl])), (toea, .inl (ktoea, 8, .inl gtoea)), (nw, .inr (3, [.int nw_minute, .int nw_offered, .int nw_table, .int nw_sitting, .int nw_gullet, .long nw_knows]))]) (va_A [(h0, .inr (11, [.ref tp, .int s_taped, .ref dr, .ref rr, .ref rl, .int s_ruleCount, .int s_inForce, .ref to, .ref df, .ref nw, .ref tr, .ref no, .ref pa, .ref im, .ref co, .ref se, .ref ga, .ref pt, .int s_x])), (to, .inr (1, [.int to_deep, .int to_dishes, .int to_guests, .ref tolo, .ref tosa, .ref toea, .ref tocl])), (toea, .inl (ktoea, 8, .inl gtoea)), (nw, .inr (3, [.int nw_minute, .int nw_offered, .int nw_table, .int nw_sitting, .int nw_gullet, .long nw_knows]))] sz)) 0 0 (va_A [(h0, .inr (11, [.ref tp, .int s_taped, .ref dr, .ref rr, .ref rl, .int s_ruleCount, .int s_inForce, .ref to, .ref df, .ref nw, .ref tr, .ref no, .ref pa, .ref im, .ref co, .ref se, .ref ga, .ref pt, .int s_x])), (to, .inr (1, [.int to_deep, .int to_dishes, .int to_guests, .ref tolo, .ref tosa, .ref toea, .ref tocl])), (toea, .inl (ktoea, 8, .inl gtoea)), (nw, .inr (3, [.int nw_minute, .int nw_offered, .int nw_table, .int nw_sitting, .int nw_gullet, .long nw_knows]))] sz) := by
  refine Met.ofW (cc := cX11_guest) (maxL := 3) (ret := (some .int)) (by decide) rfl ?_
  intro p e s m args below meth c s₁ B hml hv
  obtain ⟨rfl, hsz, hP, hK, hD0, hE⟩ := hv
  have hx := B.exec
  have hb := B.bytes
  have hr := B.returns
  have hts := atoms_spec (ws := .code yX11_guest cX11_guest 3 (some .int) :: wsA) B.pre
  have hq : ∀ w ∈ wsA, w.before _ s = true := fun w h => hts w (List.mem_cons_of_mem _ h)
  have hown : s.vm.findClass RX11 = some m.cls := findClass_of_methodNamed B.named
  have hlocks := B.notSynchronized
  subst hsz
  have hD := hD0.self (sz := s.heap.size)
  generalize hAe : va_A [(h0, .inr (11, [.ref tp, .int s_taped, .ref dr, .ref rr, .ref rl, .int s_ruleCount, .int s_inForce, .ref to, .ref df, .ref nw, .ref tr, .ref no, .ref pa, .ref im, .ref co, .ref se, .ref ga, .ref pt, .int s_x])), (to, .inr (1, [.int to_deep, .int to_dishes, .int to_guests, .ref tolo, .ref tosa, .ref toea, .ref tocl])), (toea, .inl (ktoea, 8, .inl gtoea)), (nw, .inr (3, [.int nw_minute, .int nw_offered, .int nw_table, .int nw_sitting, .int nw_gullet, .long nw_knows]))] s.heap.size = A at hD ⊢
  have hA : ∀ q : Nat, s.heap.size ≤ q → A q := fun q h => by rw [← hAe]; exact Or.inr h
  have hS : va_S A s.heap s.heap [] := va_S.rf
  have hl := lv_entry ([.ref h0, .int x0, .int x1]) (n := 3) (Nat.le_of_ble_eq_true rfl)
  rw [lg_entry_eq]
  generalize (lg_sl ([.ref h0, .int x0, .int x1]) ++ List.replicate (3 - (lg_sl ([.ref h0, .int x0, .int x1])).length) Slot.unset).toArray = ls at hl ⊢
  have hl : lv_has ls 3 [(0, .ref h0), (1, .int x0), (2, .int x1)] := hl
  refine lv_aload_n hx hb dX11_guest_0 rfl (lv_at hl 0 rfl) ?_
  refine lv_iload_n hx hb dX11_guest_1 rfl (lv_at hl 1 rfl) ?_
  have hPc := hP.sub (ws' := [(h0, .inr (11, [.ref tp, .int s_taped, .ref dr, .ref rr, .ref rl, .int s_ruleCount, .int s_inForce, .ref to, .ref df, .ref nw, .ref tr, .ref no, .ref pa, .ref im, .ref co, .ref se, .ref ga, .ref pt, .int s_x])), (to, .inr (1, [.int to_deep, .int to_dishes, .int to_guests, .ref tolo, .ref tosa, .ref toea, .ref tocl]))]) [0, 1] rfl
  have hDc := hD.sub (ws' := [(h0, .inr (11, [.ref tp, .int s_taped, .ref dr, .ref rr, .ref rl, .int s_ruleCount, .int s_inForce, .ref to, .ref df, .ref nw, .ref tr, .ref no, .ref pa, .ref im, .ref co, .ref se, .ref ga, .ref pt, .int s_x])), (to, .inr (1, [.int to_deep, .int to_dishes, .int to_guests, .ref tolo, .ref tosa, .ref toea, .ref tocl]))]) [0, 1] (by decide) rfl
  have hKc := hK.sub (tys' := []) [] rfl
  have hFc := va_free (wc := [(h0, .inr (11, [.ref tp, .int s_taped, .ref dr, .ref rr, .ref rl, .int s_ruleCount, .int s_inForce, .ref to, .ref df, .ref nw, .ref tr, .ref no, .ref pa, .ref im, .ref co, .ref se, .ref ga, .ref pt, .int s_x])), (to, .inr (1, [.int to_deep, .int to_dishes, .int to_guests, .ref tolo, .ref tosa, .ref toea, .ref tocl]))]) hD hS hA [0, 1] rfl
  refine va_calli (va_runV (As := [.int x0]) (rest := []) ⟨hx, hb, hml, hown, hq⟩ (x_isGuest l dC dI _ h0 tp s_taped dr rr rl s_ruleCount s_inForce to df nw tr no pa im co se ga pt s_x to_deep to_dishes to_guests tolo tosa toea tocl x0 ) (cwV 1 hq (gV qw_762 qw_764 qw_13 qw_119 qw_765) rfl rfl rfl (by decide +kernel) ⟨Nat.le_of_ble_eq_true rfl, Nat.le_of_ble_eq_true rfl⟩) ⟨fun a U g mk q => by obtain ⟨q0, q1, qP, qK, qD, qE⟩ := q; exact ⟨q0, q1, qP, va_K.moved (u := U) (U := U.calling g mk a) (Vm.Alike.refl U.vm) qK, qD, xE.same rfl qE⟩, va_recv hKc hPc (ci := 11) (q0 := 0) rfl rfl, fun U hU hW => ⟨rfl, by rw [hU], by rw [hU]; exact hPc, va_K.moved hW.alike hKc, hDc.weaken (fun _ _ _ _ => trivial), xE.warm hW hE⟩⟩ rfl rfl hl.1 rfl (lv_room (Nat.le_of_ble_eq_true rfl)) dX11_guest_2 ⟨Nat.le_of_ble_eq_true rfl, Nat.le_of_ble_eq_true rfl⟩) hS (fun q _ h => hFc q h) hFc (fun r_13 u t H1 locs ht hvm hw hB hz1 hk1 hS => ?_)
  obtain ⟨hP1, hK1, hD1⟩ := hB
  rw [ht] at hP1
  obtain ⟨hP, hD⟩ := va_join (wr := [(toea, .inl (ktoea, 8, .inl gtoea)), (nw, .inr (3, [.int nw_minute, .int nw_offered, .int nw_table, .int nw_sitting, .int nw_gullet, .long nw_knows]))]) (w1 := [(h0, .inr (11, [.ref tp, .int s_taped, .ref dr, .ref rr, .ref rl, .int s_ruleCount, .int s_inForce, .ref to, .ref df, .ref nw, .ref tr, .ref no, .ref pa, .ref im, .ref co, .ref se, .ref ga, .ref pt, .int s_x])), (to, .inr (1, [.int to_deep, .int to_dishes, .int to_guests, .ref tolo, .ref tosa, .ref toea, .ref tocl]))]) hP hD [0, 1] [2, 3] rfl rfl (by decide) (by decide) hk1 hFc hP1 hD1
  generalize H1 = H at hP hS ⊢
  have hP : va_P (dC, dI) classes [(toea, .inl (ktoea, 8, .inl gtoea)), (nw, .inr (3, [.int nw_minute, .int nw_offered, .int nw_table, .int nw_sitting, .int nw_gullet, .long nw_knows])), (h0, .inr (11, [.ref tp, .int s_taped, .ref dr, .ref rr, .ref rl, .int s_ruleCount, .int s_inForce, .ref to, .ref df, .ref nw, .ref tr, .ref no, .ref pa, .ref im, .ref co, .ref se, .ref ga, .ref pt, .int s_x])), (to, .inr (1, [.int to_deep, .int to_dishes, .int to_guests, .ref tolo, .ref tosa, .ref toea, .ref tocl]))] H := hP
  have hD : va_D A [(toea, .inl (ktoea, 8, .inl gtoea)), (nw, .inr (3, [.int nw_minute, .int nw_offered, .int nw_table, .int nw_sitting, .int nw_gullet, .long nw_knows])), (h0, .inr (11, [.ref tp, .int s_taped, .ref dr, .ref rr, .ref rl, .int s_ruleCount, .int s_inForce, .ref to, .ref df, .ref nw, .ref tr, .ref no, .ref pa, .ref im, .ref co, .ref se, .ref ga, .ref pt, .int s_x])), (to, .inr (1, [.int to_deep, .int to_dishes, .int to_guests, .ref tolo, .ref tosa, .ref toea, .ref tocl]))] := hD
  refine W.cut (I := fun H locs g => ∃ (ls : Array Slot), va_P (dC, dI) classes [(toea, .inl (ktoea, 8, .inl gtoea)), (nw, .inr (3, [.int nw_minute, .int nw_offered, .int nw_table, .int nw_sitting, .int nw_gullet, .long nw_knows])), (h0, .inr (11, [.ref tp, .int s_taped, .ref dr, .ref rr, .ref rl, .int s_ruleCount, .int s_inForce, .ref to, .ref df, .ref nw, .ref tr, .ref no, .ref pa, .ref im, .ref co, .ref se, .ref ga, .ref pt, .int s_x])), (to, .inr (1, [.int to_deep, .int to_dishes, .int to_guests, .ref tolo, .ref tosa, .ref toea, .ref tocl]))] H ∧ va_D A [(toea, .inl (ktoea, 8, .inl gtoea)), (nw, .inr (3, [.int nw_minute, .int nw_offered, .int nw_table, .int nw_sitting, .int nw_gullet, .long nw_knows])), (h0, .inr (11, [.ref tp, .int s_taped, .ref dr, .ref rr, .ref rl, .int s_ruleCount, .int s_inForce, .ref to, .ref df, .ref nw, .ref tr, .ref no, .ref pa, .ref im, .ref co, .ref se, .ref ga, .ref pt, .int s_x])), (to, .inr (1, [.int to_deep, .int to_dishes, .int to_guests, .ref tolo, .ref tosa, .ref toea, .ref tocl]))] ∧ va_S A s.heap H locs ∧ lv_has ls 3 [] ∧ g = F0 m 17 ls []) (fun H locs g h => ?_) (fun hJ17 => ?_)
  · obtain ⟨ls, hP, hD, hS, hl, rfl⟩ := h
    refine lv_iconst (v := (-1)) hx hb dX11_guest_17 (by decide) ?_
    refine W.widen (k := 0) (n := 0) (Nat.le_of_ble_eq_true rfl) (Nat.le_of_ble_eq_true rfl) ?_
    exact W.iret (v := (-1)) hx hb hr (fun t ht hW => ⟨⟨(-1), (), rfl, trivial, by rw [ht]; exact (hP.sub (ws' := [(h0, .inr (11, [.ref tp, .int s_taped, .ref dr, .ref rr, .ref rl, .int s_ruleCount, .int s_inForce, .ref to, .ref df, .ref nw, .ref tr, .ref no, .ref pa, .ref im, .ref co, .ref se, .ref ga, .ref pt, .int s_x])), (to, .inr (1, [.int to_deep, .int to_dishes, .int to_guests, .ref tolo, .ref tosa, .ref toea, .ref tocl])), (toea, .inl (ktoea, 8, .inl gtoea)), (nw, .inr (3, [.int nw_minute, .int nw_offered, .int nw_table, .int nw_sitting, .int nw_gullet, .long nw_knows]))]) [2, 3, 0, 1] rfl), va_K.moved hW.alike hK, (hD.sub (ws' := [(h0, .inr (11, [.ref tp, .int s_taped, .ref dr, .ref rr, .ref rl, .int s_ruleCount, .int s_inForce, .ref to, .ref df, .ref nw, .ref tr, .ref no, .ref pa, .ref im, .ref co, .ref se, .ref ga, .ref pt, .int s_x])), (to, .inr (1, [.int to_deep, .int to_dishes, .int to_guests, .ref tolo, .ref tosa, .ref toea, .ref tocl])), (toea, .inl (ktoea, 8, .inl gtoea)), (nw, .inr (3, [.int nw_minute, .int nw_offered, .int nw_table, .int nw_sitting, .int nw_gullet, .long nw_knows]))]) [2, 3, 0, 1] (by decide) rfl)⟩, hS.F ht⟩) hS.2.2 dX11_guest_18
  refine lv_if_eq (tgt := 17) hx hb dX11_guest_5 (by decide) (fun c_25 => ?_) (fun c_25 => ?_)
  · exact hJ17 _ _ _ ⟨_, hP, hD, hS, (lv_sub hl [] rfl), rfl⟩
  · refine lv_iload_n hx hb dX11_guest_8 rfl (lv_at hl 2 rfl) ?_
    refine lv_iconst (v := 0) hx hb dX11_guest_9 (by decide) ?_
    refine lv_iconst (v := 2) hx hb dX11_guest_10 (by decide) ?_
    have hPc := hP.sub (ws' := []) [] rfl
    have hDc := hD.sub (ws' := []) [] (by decide) rfl
    have hKc := hK.sub (tys' := []) [] rfl
    have hFc := va_free (wc := []) hD hS hA [] rfl
    refine va_calli (va_runS (As := [.int x1, .int 0, .int 2]) (rest := []) ⟨hx, hb, hml, hown, hq⟩ (x_within l dC dI _ x1 0 2 ) (cwS 3 hq (gS qw_743 qw_744 qw_119 qw_745) rfl rfl rfl (by decide +kernel) ⟨Nat.le_of_ble_eq_true rfl, Nat.le_of_ble_eq_true rfl⟩) ⟨fun a U g mk q => by obtain ⟨q0, q1, qP, qK, qD, qE⟩ := q; exact ⟨q0, q1, qP, va_K.moved (u := U) (U := U.calling g mk a) (Vm.Alike.refl U.vm) qK, qD, xE.same rfl qE⟩, fun U hU hW => ⟨rfl, by rw [hU], by rw [hU]; exact hPc, va_K.moved hW.alike hKc, hDc.weaken (fun _ _ _ _ => trivial), xE.warm hW hE⟩⟩ rfl rfl hl.1 rfl (lv_room (Nat.le_of_ble_eq_true rfl)) dX11_guest_11 ⟨Nat.le_of_ble_eq_true rfl, Nat.le_of_ble_eq_true rfl⟩) hS (fun q _ h => hFc q h) hFc (fun r_26 u t H1 locs ht hvm hw hB hz1 hk1 hS => ?_)
    obtain ⟨hP1, hK1, hD1⟩ := hB
    rw [ht] at hP1
    obtain ⟨hP, hD⟩ := va_join (wr := [(toea, .inl (ktoea, 8, .inl gtoea)), (nw, .inr (3, [.int nw_minute, .int nw_offered, .int nw_table, .int nw_sitting, .int nw_gullet, .long nw_knows])), (h0, .inr (11, [.ref tp, .int s_taped, .ref dr, .ref rr, .ref rl, .int s_ruleCount, .int s_inForce, .ref to, .ref df, .ref nw, .ref tr, .ref no, .ref pa, .ref im, .ref co, .ref se, .ref ga, .ref pt, .int s_x])), (to, .inr (1, [.int to_deep, .int to_dishes, .int to_guests, .ref tolo, .ref tosa, .ref toea, .ref tocl]))]) (w1 := []) hP hD [] [0, 1, 2, 3] rfl rfl (by decide) (by decide) hk1 hFc hP1 hD1
    generalize H1 = H at hP hS ⊢
    have hP : va_P (dC, dI) classes [(toea, .inl (ktoea, 8, .inl gtoea)), (nw, .inr (3, [.int nw_minute, .int nw_offered, .int nw_table, .int nw_sitting, .int nw_gullet, .long nw_knows])), (h0, .inr (11, [.ref tp, .int s_taped, .ref dr, .ref rr, .ref rl, .int s_ruleCount, .int s_inForce, .ref to, .ref df, .ref nw, .ref tr, .ref no, .ref pa, .ref im, .ref co, .ref se, .ref ga, .ref pt, .int s_x])), (to, .inr (1, [.int to_deep, .int to_dishes, .int to_guests, .ref tolo, .ref tosa, .ref toea, .ref tocl]))] H := hP
    have hD : va_D A [(toea, .inl (ktoea, 8, .inl gtoea)), (nw, .inr (3, [.int nw_minute, .int nw_offered, .int nw_table, .int nw_sitting, .int nw_gullet, .long nw_knows])), (h0, .inr (11, [.ref tp, .int s_taped, .ref dr, .ref rr, .ref rl, .int s_ruleCount, .int s_inForce, .ref to, .ref df, .ref nw, .ref tr, .ref no, .ref pa, .ref im, .ref co, .ref se, .ref ga, .ref pt, .int s_x])), (to, .inr (1, [.int to_deep, .int to_dishes, .int to_guests, .ref tolo, .ref tosa, .ref toea, .ref tocl]))] := hD
    refine lv_if_ne (tgt := 19) hx hb dX11_guest_14 (by decide) (fun c_27 => ?_) (fun c_27 => ?_)
    · refine lv_iload_n hx hb dX11_guest_19 rfl (lv_at hl 2 rfl) ?_
      refine lv_if_ne (tgt := 36) hx hb dX11_guest_20 (by decide) (fun c_28 => ?_) (fun c_28 => ?_)
      · refine lv_iload_n hx hb dX11_guest_36 rfl (lv_at hl 2 rfl) ?_
        refine lv_iconst (v := 1) hx hb dX11_guest_37 (by decide) ?_
        refine lv_icmp_ne (tgt := 50) hx hb dX11_guest_38 (by decide) (fun c_29 => ?_) (fun c_29 => ?_)
        · refine lv_aload_n hx hb dX11_guest_50 rfl (lv_at hl 0 rfl) ?_
          refine va_get (D := (dC, dI)) (ci := 11) (v := .ref nw) (C := RX11) (T := TX11) (N := 19) hx hb hq inX11 hown hK hP 2 rfl rfl 9 (by decide) (hq _ qw_458) (fun _ h9 => h9) rfl dX11_guest_51 ?_
          refine lv_iload_n hx hb dX11_guest_54 rfl (lv_at hl 1 rfl) ?_
          have hPc := hP.sub (ws' := [(nw, .inr (3, [.int nw_minute, .int nw_offered, .int nw_table, .int nw_sitting, .int nw_gullet, .long nw_knows]))]) [1] rfl
          have hDc := hD.sub (ws' := [(nw, .inr (3, [.int nw_minute, .int nw_offered, .int nw_table, .int nw_sitting, .int nw_gullet, .long nw_knows]))]) [1] (by decide) rfl
          have hKc := hK.sub (tys' := []) [] rfl
          have hFc := va_free (wc := [(nw, .inr (3, [.int nw_minute, .int nw_offered, .int nw_table, .int nw_sitting, .int nw_gullet, .long nw_knows]))]) hD hS hA [1] rfl
          refine va_calli (va_runV (As := [.int x0]) (rest := []) ⟨hx, hb, hml, hown, hq⟩ (e_sits l dC dI _ nw nw_minute nw_offered nw_table nw_sitting nw_gullet nw_knows x0 ) (cwV 1 hq (gV qw_770 qw_771 qw_772 qw_125 qw_773) rfl rfl rfl (by decide +kernel) ⟨Nat.le_of_ble_eq_true rfl, Nat.le_of_ble_eq_true rfl⟩) ⟨fun a U g mk q => by obtain ⟨q0, q1, qP, qK, qD, qE⟩ := q; exact ⟨q0, q1, qP, va_K.moved (u := U) (U := U.calling g mk a) (Vm.Alike.refl U.vm) qK, qD, xE.same rfl qE⟩, va_recv hKc hPc (ci := 3) (q0 := 0) rfl rfl, fun U hU hW => ⟨rfl, by rw [hU], by rw [hU]; exact hPc, va_K.moved hW.alike hKc, hDc.weaken (fun _ _ _ _ => trivial), xE.warm hW hE⟩⟩ rfl rfl hl.1 rfl (lv_room (Nat.le_of_ble_eq_true rfl)) dX11_guest_55 ⟨Nat.le_of_ble_eq_true rfl, Nat.le_of_ble_eq_true rfl⟩) hS (fun q _ h => hFc q h) hFc (fun r_30 u t H1 locs ht hvm hw hB hz1 hk1 hS => ?_)
          obtain ⟨hP1, hK1, hD1⟩ := hB
          rw [ht] at hP1
          obtain ⟨hP, hD⟩ := va_join (wr := [(toea, .inl (ktoea, 8, .inl gtoea)), (h0, .inr (11, [.ref tp, .int s_taped, .ref dr, .ref rr, .ref rl, .int s_ruleCount, .int s_inForce, .ref to, .ref df, .ref nw, .ref tr, .ref no, .ref pa, .ref im, .ref co, .ref se, .ref ga, .ref pt, .int s_x])), (to, .inr (1, [.int to_deep, .int to_dishes, .int to_guests, .ref tolo, .ref tosa, .ref toea, .ref tocl]))]) (w1 := [(nw, .inr (3, [.int nw_minute, .int nw_offered, .int nw_table, .int nw_sitting, .int nw_gullet, .long nw_knows]))]) hP hD [1] [0, 2, 3] rfl rfl (by decide) (by decide) hk1 hFc hP1 hD1
          generalize H1 = H at hP hS ⊢
          have hP : va_P (dC, dI) classes [(toea, .inl (ktoea, 8, .inl gtoea)), (h0, .inr (11, [.ref tp, .int s_taped, .ref dr, .ref rr, .ref rl, .int s_ruleCount, .int s_inForce, .ref to, .ref df, .ref nw, .ref tr, .ref no, .ref pa, .ref im, .ref co, .ref se, .ref ga, .ref pt, .int s_x])), (to, .inr (1, [.int to_deep, .int to_dishes, .int to_guests, .ref tolo, .ref tosa, .ref toea, .ref tocl])), (nw, .inr (3, [.int nw_minute, .int nw_offered, .int nw_table, .int nw_sitting, .int nw_gullet, .long nw_knows]))] H := hP
          have hD : va_D A [(toea, .inl (ktoea, 8, .inl gtoea)), (h0, .inr (11, [.ref tp, .int s_taped, .ref dr, .ref rr, .ref rl, .int s_ruleCount, .int s_inForce, .ref to, .ref df, .ref nw, .ref tr, .ref no, .ref pa, .ref im, .ref co, .ref se, .ref ga, .ref pt, .int s_x])), (to, .inr (1, [.int to_deep, .int to_dishes, .int to_guests, .ref tolo, .ref tosa, .ref toea, .ref tocl])), (nw, .inr (3, [.int nw_minute, .int nw_offered, .int nw_table, .int nw_sitting, .int nw_gullet, .long nw_knows]))] := hD
          refine lv_if_eq (tgt := 65) hx hb dX11_guest_58 (by decide) (fun c_31 => ?_) (fun c_31 => ?_)
          · refine lv_iconst (v := 0) hx hb dX11_guest_65 (by decide) ?_
            refine W.widen (k := 0) (n := 0) (Nat.le_of_ble_eq_true rfl) (Nat.le_of_ble_eq_true rfl) ?_
            exact W.iret (v := 0) hx hb hr (fun t ht hW => ⟨⟨0, (), rfl, trivial, by rw [ht]; exact (hP.sub (ws' := [(h0, .inr (11, [.ref tp, .int s_taped, .ref dr, .ref rr, .ref rl, .int s_ruleCount, .int s_inForce, .ref to, .ref df, .ref nw, .ref tr, .ref no, .ref pa, .ref im, .ref co, .ref se, .ref ga, .ref pt, .int s_x])), (to, .inr (1, [.int to_deep, .int to_dishes, .int to_guests, .ref tolo, .ref tosa, .ref toea, .ref tocl])), (toea, .inl (ktoea, 8, .inl gtoea)), (nw, .inr (3, [.int nw_minute, .int nw_offered, .int nw_table, .int nw_sitting, .int nw_gullet, .long nw_knows]))]) [1, 2, 0, 3] rfl), va_K.moved hW.alike hK, (hD.sub (ws' := [(h0, .inr (11, [.ref tp, .int s_taped, .ref dr, .ref rr, .ref rl, .int s_ruleCount, .int s_inForce, .ref to, .ref df, .ref nw, .ref tr, .ref no, .ref pa, .ref im, .ref co, .ref se, .ref ga, .ref pt, .int s_x])), (to, .inr (1, [.int to_deep, .int to_dishes, .int to_guests, .ref tolo, .ref tosa, .ref toea, .ref tocl])), (toea, .inl (ktoea, 8, .inl gtoea)), (nw, .inr (3, [.int nw_minute, .int nw_offered, .int nw_table, .int nw_sitting, .int nw_gullet, .long nw_knows]))]) [1, 2, 0, 3] (by decide) rfl)⟩, hS.F ht⟩) hS.2.2 dX11_guest_66
          · refine lv_iconst (v := 1) hx hb dX11_guest_61 (by decide) ?_
            refine lv_goto (tgt := 66) hx hb dX11_guest_62 (by decide) ?_
            refine W.widen (k := 0) (n := 0) (Nat.le_of_ble_eq_true rfl) (Nat.le_of_ble_eq_true rfl) ?_
            exact W.iret (v := 1) hx hb hr (fun t ht hW => ⟨⟨1, (), rfl, trivial, by rw [ht]; exact (hP.sub (ws' := [(h0, .inr (11, [.ref tp, .int s_taped, .ref dr, .ref rr, .ref rl, .int s_ruleCount, .int s_inForce, .ref to, .ref df, .ref nw, .ref tr, .ref no, .ref pa, .ref im, .ref co, .ref se, .ref ga, .ref pt, .int s_x])), (to, .inr (1, [.int to_deep, .int to_dishes, .int to_guests, .ref tolo, .ref tosa, .ref toea, .ref tocl])), (toea, .inl (ktoea, 8, .inl gtoea)), (nw, .inr (3, [.int nw_minute, .int nw_offered, .int nw_table, .int nw_sitting, .int nw_gullet, .long nw_knows]))]) [1, 2, 0, 3] rfl), va_K.moved hW.alike hK, (hD.sub (ws' := [(h0, .inr (11, [.ref tp, .int s_taped, .ref dr, .ref rr, .ref rl, .int s_ruleCount, .int s_inForce, .ref to, .ref df, .ref nw, .ref tr, .ref no, .ref pa, .ref im, .ref co, .ref se, .ref ga, .ref pt, .int s_x])), (to, .inr (1, [.int to_deep, .int to_dishes, .int to_guests, .ref tolo, .ref tosa, .ref toea, .ref tocl])), (toea, .inl (ktoea, 8, .inl gtoea)), (nw, .inr (3, [.int nw_minute, .int nw_offered, .int nw_table, .int nw_sitting, .int nw_gullet, .long nw_knows]))]) [1, 2, 0, 3] (by decide) rfl)⟩, hS.F ht⟩) hS.2.2 dX11_guest_66
        · refine lv_aload_n hx hb dX11_guest_41 rfl (lv_at hl 0 rfl) ?_
          refine va_get (D := (dC, dI)) (ci := 11) (v := .ref nw) (C := RX11) (T := TX11) (N := 19) hx hb hq inX11 hown hK hP 2 rfl rfl 9 (by decide) (hq _ qw_458) (fun _ h9 => h9) rfl dX11_guest_42 ?_
          refine lv_iload_n hx hb dX11_guest_45 rfl (lv_at hl 1 rfl) ?_
          have hPc := hP.sub (ws' := [(nw, .inr (3, [.int nw_minute, .int nw_offered, .int nw_table, .int nw_sitting, .int nw_gullet, .long nw_knows]))]) [1] rfl
          have hDc := hD.sub (ws' := [(nw, .inr (3, [.int nw_minute, .int nw_offered, .int nw_table, .int nw_sitting, .int nw_gullet, .long nw_knows]))]) [1] (by decide) rfl
          have hKc := hK.sub (tys' := []) [] rfl
          have hFc := va_free (wc := [(nw, .inr (3, [.int nw_minute, .int nw_offered, .int nw_table, .int nw_sitting, .int nw_gullet, .long nw_knows]))]) hD hS hA [1] rfl
          refine va_calli (va_runV (As := [.int x0]) (rest := []) ⟨hx, hb, hml, hown, hq⟩ (e_knownBy l dC dI _ nw nw_minute nw_offered nw_table nw_sitting nw_gullet nw_knows x0 ) (cwV 1 hq (gV qw_766 qw_767 qw_768 qw_125 qw_769) rfl rfl rfl (by decide +kernel) ⟨Nat.le_of_ble_eq_true rfl, Nat.le_of_ble_eq_true rfl⟩) ⟨fun a U g mk q => by obtain ⟨q0, q1, qP, qK, qD, qE⟩ := q; exact ⟨q0, q1, qP, va_K.moved (u := U) (U := U.calling g mk a) (Vm.Alike.refl U.vm) qK, qD, xE.same rfl qE⟩, va_recv hKc hPc (ci := 3) (q0 := 0) rfl rfl, fun U hU hW => ⟨rfl, by rw [hU], by rw [hU]; exact hPc, va_K.moved hW.alike hKc, hDc.weaken (fun _ _ _ _ => trivial), xE.warm hW hE⟩⟩ rfl rfl hl.1 rfl (lv_room (Nat.le_of_ble_eq_true rfl)) dX11_guest_46 ⟨Nat.le_of_ble_eq_true rfl, Nat.le_of_ble_eq_true rfl⟩) hS (fun q _ h => hFc q h) hFc (fun r_32 u t H1 locs ht hvm hw hB hz1 hk1 hS => ?_)
          obtain ⟨hP1, hK1, hD1⟩ := hB
          rw [ht] at hP1
          obtain ⟨hP, hD⟩ := va_join (wr := [(toea, .inl (ktoea, 8, .inl gtoea)), (h0, .inr (11, [.ref tp, .int s_taped, .ref dr, .ref rr, .ref rl, .int s_ruleCount, .int s_inForce, .ref to, .ref df, .ref nw, .ref tr, .ref no, .ref pa, .ref im, .ref co, .ref se, .ref ga, .ref pt, .int s_x])), (to, .inr (1, [.int to_deep, .int to_dishes, .int to_guests, .ref tolo, .ref tosa, .ref toea, .ref tocl]))]) (w1 := [(nw, .inr (3, [.int nw_minute, .int nw_offered, .int nw_table, .int nw_sitting, .int nw_gullet, .long nw_knows]))]) hP hD [1] [0, 2, 3] rfl rfl (by decide) (by decide) hk1 hFc hP1 hD1
          generalize H1 = H at hP hS ⊢
          have hP : va_P (dC, dI) classes [(toea, .inl (ktoea, 8, .inl gtoea)), (h0, .inr (11, [.ref tp, .int s_taped, .ref dr, .ref rr, .ref rl, .int s_ruleCount, .int s_inForce, .ref to, .ref df, .ref nw, .ref tr, .ref no, .ref pa, .ref im, .ref co, .ref se, .ref ga, .ref pt, .int s_x])), (to, .inr (1, [.int to_deep, .int to_dishes, .int to_guests, .ref tolo, .ref tosa, .ref toea, .ref tocl])), (nw, .inr (3, [.int nw_minute, .int nw_offered, .int nw_table, .int nw_sitting, .int nw_gullet, .long nw_knows]))] H := hP
          have hD : va_D A [(toea, .inl (ktoea, 8, .inl gtoea)), (h0, .inr (11, [.ref tp, .int s_taped, .ref dr, .ref rr, .ref rl, .int s_ruleCount, .int s_inForce, .ref to, .ref df, .ref nw, .ref tr, .ref no, .ref pa, .ref im, .ref co, .ref se, .ref ga, .ref pt, .int s_x])), (to, .inr (1, [.int to_deep, .int to_dishes, .int to_guests, .ref tolo, .ref tosa, .ref toea, .ref tocl])), (nw, .inr (3, [.int nw_minute, .int nw_offered, .int nw_table, .int nw_sitting, .int nw_gullet, .long nw_knows]))] := hD
          refine W.widen (k := 0) (n := 0) (Nat.le_of_ble_eq_true rfl) (Nat.le_of_ble_eq_true rfl) ?_
          exact W.iret (v := r_32) hx hb hr (fun t ht hW => ⟨⟨r_32, (), rfl, trivial, by rw [ht]; exact (hP.sub (ws' := [(h0, .inr (11, [.ref tp, .int s_taped, .ref dr, .ref rr, .ref rl, .int s_ruleCount, .int s_inForce, .ref to, .ref df, .ref nw, .ref tr, .ref no, .ref pa, .ref im, .ref co, .ref se, .ref ga, .ref pt, .int s_x])), (to, .inr (1, [.int to_deep, .int to_dishes, .int to_guests, .ref tolo, .ref tosa, .ref toea, .ref tocl])), (toea, .inl (ktoea, 8, .inl gtoea)), (nw, .inr (3, [.int nw_minute, .int nw_offered, .int nw_table, .int nw_sitting, .int nw_gullet, .long nw_knows]))]) [1, 2, 0, 3] rfl), va_K.moved hW.alike hK, (hD.sub (ws' := [(h0, .inr (11, [.ref tp, .int s_taped, .ref dr, .ref rr, .ref rl, .int s_ruleCount, .int s_inForce, .ref to, .ref df, .ref nw, .ref tr, .ref no, .ref pa, .ref im, .ref co, .ref se, .ref ga, .ref pt, .int s_x])), (to, .inr (1, [.int to_deep, .int to_dishes, .int to_guests, .ref tolo, .ref tosa, .ref toea, .ref tocl])), (toea, .inl (ktoea, 8, .inl gtoea)), (nw, .inr (3, [.int nw_minute, .int nw_offered, .int nw_table, .int nw_sitting, .int nw_gullet, .long nw_knows]))]) [1, 2, 0, 3] (by decide) rfl)⟩, hS.F ht⟩) hS.2.2 dX11_guest_49
      · refine lv_aload_n hx hb dX11_guest_23 rfl (lv_at hl 0 rfl) ?_
        refine va_get (D := (dC, dI)) (ci := 11) (v := .ref to) (C := RX11) (T := TX11) (N := 19) hx hb hq inX11 hown hK hP 2 rfl rfl 7 (by decide) (hq _ qw_456) (fun _ h9 => h9) rfl dX11_guest_24 ?_
        refine va_get (D := (dC, dI)) (ci := 1) (v := .ref toea) (C := RX1) (T := TX1) (N := 7) hx hb hq inX1 hown hK hP 3 rfl rfl 5 (by decide) (hq _ qw_244) (fun _ h9 => h9) rfl dX11_guest_27 ?_
        refine lv_iload_n hx hb dX11_guest_30 rfl (lv_at hl 1 rfl) ?_
        refine lv_bipush (v := 7) hx hb dX11_guest_31 (by decide) ?_
        refine lv_iand hx hb dX11_guest_33 ?_
        refine lv_topi (fun y_33 ey_33 => ?_)
        have b_34 : bt 0 7 y_33 := bt_andr ey_33 (bt_k (x := 7) (c := 7) (by decide)) (by decide)
        refine va_iald hx hb hK hP 0 0 rfl rfl (bt_in b_34 (by decide)) dX11_guest_34 ?_
        refine lv_topi (fun y_35 ey_35 => ?_)
        refine W.widen (k := 0) (n := 0) (Nat.le_of_ble_eq_true rfl) (Nat.le_of_ble_eq_true rfl) ?_
        exact W.iret (v := y_35) hx hb hr (fun t ht hW => ⟨⟨y_35, (), rfl, trivial, by rw [ht]; exact (hP.sub (ws' := [(h0, .inr (11, [.ref tp, .int s_taped, .ref dr, .ref rr, .ref rl, .int s_ruleCount, .int s_inForce, .ref to, .ref df, .ref nw, .ref tr, .ref no, .ref pa, .ref im, .ref co, .ref se, .ref ga, .ref pt, .int s_x])), (to, .inr (1, [.int to_deep, .int to_dishes, .int to_guests, .ref tolo, .ref tosa, .ref toea, .ref tocl])), (toea, .inl (ktoea, 8, .inl gtoea)), (nw, .inr (3, [.int nw_minute, .int nw_offered, .int nw_table, .int nw_sitting, .int nw_gullet, .long nw_knows]))]) [2, 3, 0, 1] rfl), va_K.moved hW.alike hK, (hD.sub (ws' := [(h0, .inr (11, [.ref tp, .int s_taped, .ref dr, .ref rr, .ref rl, .int s_ruleCount, .int s_inForce, .ref to, .ref df, .ref nw, .ref tr, .ref no, .ref pa, .ref im, .ref co, .ref se, .ref ga, .ref pt, .int s_x])), (to, .inr (1, [.int to_deep, .int to_dishes, .int to_guests, .ref tolo, .ref tosa, .ref toea, .ref tocl])), (toea, .inl (ktoea, 8, .inl gtoea)), (nw, .inr (3, [.int nw_minute, .int nw_offered, .int nw_table, .int nw_sitting, .int nw_gullet, .long nw_knows]))]) [2, 3, 0, 1] (by decide) rfl)⟩, hS.F ht⟩) hS.2.2 dX11_guest_35
    · exact hJ17 _ _ _ ⟨_, hP, hD, hS, (lv_sub hl [] rfl), rfl⟩

set_option maxHeartbeats 4000000 in
set_option maxRecDepth 100000 in
/-- x_clashes -/
theorem x_clashes (l : Launch) (dC : Nat → ClassId) (dI : Nat → Nat → Nat) (sz : Nat) (h0 : Nat) (tp : Nat) (s_taped : Int32) (dr : Nat) (rr : Nat) (rl : Nat) (s_ruleCount : Int32) (s_inForce : Int32) (to : Nat) (df : Nat) (nw : Nat) (tr : Nat) (no : Nat) (pa : Nat) (im : Nat) (co : Nat) (se : Nat) (ga : Nat) (pt : Nat) (s_x : Int32) (to_deep : Int32) (to_dishes : Int32) (to_guests : Int32) (tolo : Nat) (tosa : Nat) (toea : Nat) (tocl : Nat) (ktocl : ClassId) (gtocl : Nat → Int32) (x0 : Int32) : Met l yX11_clashes (.code yX11_clashes cX11_clashes 2 (some .int) :: wsA) ({ frames := 1, cells := 0, slots := 0, locals := 20 }) (va_Pc [.ref h0, .int x0] (fun U => U.heap.size = sz ∧ va_P (dC, dI) classes [(h0, .inr (11, [.ref tp, .int s_taped, .ref dr, .ref rr, .ref rl, .int s_ruleCount, .int s_inForce, .ref to, .ref df, .ref nw, .ref tr, .ref no, .ref pa, .ref im, .ref co, .ref se, .ref ga, .ref pt, .int s_x])), (to, .inr (1, [.int to_deep, .int to_dishes, .int to_guests, .ref tolo, .ref tosa, .ref toea, .ref tocl])), (tocl, .inl (ktocl, 8, .inl gtocl))] U.heap ∧ va_K (dC, dI) classes [(ktocl, .int)] U ∧ va_D (fun _ => True) [(h0, .inr (11, [.ref tp, .int s_taped, .ref dr, .ref rr, .ref rl, .int s_ruleCount, .int s_inForce, .ref to, .ref df, .ref nw, .ref tr, .ref no, .ref pa, .ref im, .ref co, .ref se, .ref ga, .ref pt, .int s_x])), (to, .inr (1, [.int to_deep, .int to_dishes, .int to_guests, .ref tolo, .ref tosa, .ref toea, .ref tocl])), (tocl, .inl (ktocl, 8, .inl gtocl))] ∧ xE U)) (va_Qi (fun (r : Int32) (_ : Unit) => True) (fun _ t => va_P (dC, dI) classes [(h0, .inr (11, [.ref tp, .int s_taped, .ref dr, .ref rr, .ref rl, .int s_ruleCount, .int s_inForce, .ref to, .ref df, .ref nw, .ref tr, .ref no, .ref pa, .ref im, .ref co, .ref se, .ref ga, .ref pt, .int s_x])), (to, .inr (1, [.int to_deep, .int to_dishes, .int to_guests, .ref tolo, .ref tosa, .ref toea, .ref tocl])), (tocl, .inl (ktocl, 8, .inl gtocl))] t.heap ∧ va_K (dC, dI) classes [(ktocl, .int)] t ∧ va_D (va_A [(h0, .inr (11, [.ref tp, .int s_taped, .ref dr, .ref rr, .ref rl, .int s_ruleCount, .int s_inForce, .ref to, .ref df, .ref nw, .ref tr, .ref no, .ref pa, .ref im, .ref co, .ref se, .ref ga, .ref pt, .int s_x])), (to, .inr (1, [.int to_deep, .int to_dishes, .int to_guests, .ref tolo, .ref tosa, .ref toea, .ref tocl])), (tocl, .inl (ktocl, 8, .inl gtocl))] sz) [(h0, .inr (11, [.ref tp, .int s_taped, .ref dr, .ref rr, .ref rl, .int s_ruleCount, .int s_inForce, .ref to, .ref df, .ref nw, .ref tr, .ref no, .ref pa, .ref im, .ref co, .ref se, .ref ga, .ref pt, .int s_x])), (to, .inr (1, [.int to_deep, .int to_dishes, .int to_guests, .ref tolo, .ref tosa, .ref toea, .ref tocl])), (tocl, .inl (ktocl, 8, .inl gtocl))]) (va_A [(h0, .inr (11, [.ref tp, .int s_taped, .ref dr, .ref rr, .ref rl, .int s_ruleCount, .int s_inForce, .ref to, .ref df, .ref nw, .ref tr, .ref no, .ref pa, .ref im, .ref co, .ref se, .ref ga, .ref pt, .int s_x])), (to, .inr (1, [.int to_deep, .int to_dishes, .int to_guests, .ref tolo, .ref tosa, .ref toea, .ref tocl])), (tocl, .inl (ktocl, 8, .inl gtocl))] sz)) 0 0 (va_A [(h0, .inr (11, [.ref tp, .int s_taped, .ref dr, .ref rr, .ref rl, .int s_ruleCount, .int s_inForce, .ref to, .ref df, .ref nw, .ref tr, .ref no, .ref pa, .ref im, .ref co, .ref se, .ref ga, .ref pt, .int s_x])), (to, .inr (1, [.int to_deep, .int to_dishes, .int to_guests, .ref tolo, .ref tosa, .ref toea, .ref tocl])), (tocl, .inl (ktocl, 8, .inl gtocl))] sz) := by
  refine Met.ofW (cc := cX11_clashes) (maxL := 2) (ret := (some .int)) (by decide) rfl ?_
  intro p e s m args below meth c s₁ B hml hv
  obtain ⟨rfl, hsz, hP, hK, hD0, hE⟩ := hv
  have hx := B.exec
  have hb := B.bytes
  have hr := B.returns
  have hts := atoms_spec (ws := .code yX11_clashes cX11_clashes 2 (some .int) :: wsA) B.pre
  have hq : ∀ w ∈ wsA, w.before _ s = true := fun w h => hts w (List.mem_cons_of_mem _ h)
  have hown : s.vm.findClass RX11 = some m.cls := findClass_of_methodNamed B.named
  have hlocks := B.notSynchronized
  subst hsz
  have hD := hD0.self (sz := s.heap.size)
  generalize hAe : va_A [(h0, .inr (11, [.ref tp, .int s_taped, .ref dr, .ref rr, .ref rl, .int s_ruleCount, .int s_inForce, .ref to, .ref df, .ref nw, .ref tr, .ref no, .ref pa, .ref im, .ref co, .ref se, .ref ga, .ref pt, .int s_x])), (to, .inr (1, [.int to_deep, .int to_dishes, .int to_guests, .ref tolo, .ref tosa, .ref toea, .ref tocl])), (tocl, .inl (ktocl, 8, .inl gtocl))] s.heap.size = A at hD ⊢
  have hA : ∀ q : Nat, s.heap.size ≤ q → A q := fun q h => by rw [← hAe]; exact Or.inr h
  have hS : va_S A s.heap s.heap [] := va_S.rf
  have hl := lv_entry ([.ref h0, .int x0]) (n := 2) (Nat.le_of_ble_eq_true rfl)
  rw [lg_entry_eq]
  generalize (lg_sl ([.ref h0, .int x0]) ++ List.replicate (2 - (lg_sl ([.ref h0, .int x0])).length) Slot.unset).toArray = ls at hl ⊢
  have hl : lv_has ls 2 [(0, .ref h0), (1, .int x0)] := hl
  refine lv_aload_n hx hb dX11_clashes_0 rfl (lv_at hl 0 rfl) ?_
  have hPc := hP.sub (ws' := [(h0, .inr (11, [.ref tp, .int s_taped, .ref dr, .ref rr, .ref rl, .int s_ruleCount, .int s_inForce, .ref to, .ref df, .ref nw, .ref tr, .ref no, .ref pa, .ref im, .ref co, .ref se, .ref ga, .ref pt, .int s_x])), (to, .inr (1, [.int to_deep, .int to_dishes, .int to_guests, .ref tolo, .ref tosa, .ref toea, .ref tocl]))]) [0, 1] rfl
  have hDc := hD.sub (ws' := [(h0, .inr (11, [.ref tp, .int s_taped, .ref dr, .ref rr, .ref rl, .int s_ruleCount, .int s_inForce, .ref to, .ref df, .ref nw, .ref tr, .ref no, .ref pa, .ref im, .ref co, .ref se, .ref ga, .ref pt, .int s_x])), (to, .inr (1, [.int to_deep, .int to_dishes, .int to_guests, .ref tolo, .ref tosa, .ref toea, .ref tocl]))]) [0, 1] (by decide) rfl
  have hKc := hK.sub (tys' := []) [] rfl
  have hFc := va_free (wc := [(h0, .inr (11, [.ref tp, .int s_taped, .ref dr, .ref rr, .ref rl, .int s_ruleCount, .int s_inForce, .ref to, .ref df, .ref nw, .ref tr, .ref no, .ref pa, .ref im, .ref co, .ref se, .ref ga, .ref pt, .int s_x])), (to, .inr (1, [.int to_deep, .int to_dishes, .int to_guests, .ref tolo, .ref tosa, .ref toea, .ref tocl]))]) hD hS hA [0, 1] rfl
  refine va_calli (va_runV (As := []) (rest := []) ⟨hx, hb, hml, hown, hq⟩ (x_untold l dC dI _ h0 tp s_taped dr rr rl s_ruleCount s_inForce to df nw tr no pa im co se ga pt s_x to_deep to_dishes to_guests tolo tosa toea tocl ) (cwV 0 hq (gV qw_778 qw_780 qw_14 qw_119 qw_781) rfl rfl rfl (by decide +kernel) ⟨Nat.le_of_ble_eq_true rfl, Nat.le_of_ble_eq_true rfl⟩) ⟨fun a U g mk q => by obtain ⟨q0, q1, qP, qK, qD, qE⟩ := q; exact ⟨q0, q1, qP, va_K.moved (u := U) (U := U.calling g mk a) (Vm.Alike.refl U.vm) qK, qD, xE.same rfl qE⟩, va_recv hKc hPc (ci := 11) (q0 := 0) rfl rfl, fun U hU hW => ⟨rfl, by rw [hU], by rw [hU]; exact hPc, va_K.moved hW.alike hKc, hDc.weaken (fun _ _ _ _ => trivial), xE.warm hW hE⟩⟩ rfl rfl hl.1 rfl (lv_room (Nat.le_of_ble_eq_true rfl)) dX11_clashes_1 ⟨Nat.le_of_ble_eq_true rfl, Nat.le_of_ble_eq_true rfl⟩) hS (fun q _ h => hFc q h) hFc (fun r_8 u t H1 locs ht hvm hw hB hz1 hk1 hS => ?_)
  obtain ⟨hP1, hK1, hD1⟩ := hB
  rw [ht] at hP1
  obtain ⟨hP, hD⟩ := va_join (wr := [(tocl, .inl (ktocl, 8, .inl gtocl))]) (w1 := [(h0, .inr (11, [.ref tp, .int s_taped, .ref dr, .ref rr, .ref rl, .int s_ruleCount, .int s_inForce, .ref to, .ref df, .ref nw, .ref tr, .ref no, .ref pa, .ref im, .ref co, .ref se, .ref ga, .ref pt, .int s_x])), (to, .inr (1, [.int to_deep, .int to_dishes, .int to_guests, .ref tolo, .ref tosa, .ref toea, .ref tocl]))]) hP hD [0, 1] [2] rfl rfl (by decide) (by decide) hk1 hFc hP1 hD1
  generalize H1 = H at hP hS ⊢
  have hP : va_P (dC, dI) classes [(tocl, .inl (ktocl, 8, .inl gtocl)), (h0, .inr (11, [.ref tp, .int s_taped, .ref dr, .ref rr, .ref rl, .int s_ruleCount, .int s_inForce, .ref to, .ref df, .ref nw, .ref tr, .ref no, .ref pa, .ref im, .ref co, .ref se, .ref ga, .ref pt, .int s_x])), (to, .inr (1, [.int to_deep, .int to_dishes, .int to_guests, .ref tolo, .ref tosa, .ref toea, .ref tocl]))] H := hP
  have hD : va_D A [(tocl, .inl (ktocl, 8, .inl gtocl)), (h0, .inr (11, [.ref tp, .int s_taped, .ref dr, .ref rr, .ref rl, .int s_ruleCount, .int s_inForce, .ref to, .ref df, .ref nw, .ref tr, .ref no, .ref pa, .ref im, .ref co, .ref se, .ref ga, .ref pt, .int s_x])), (to, .inr (1, [.int to_deep, .int to_dishes, .int to_guests, .ref tolo, .ref tosa, .ref toea, .ref tocl]))] := hD
  refine W.cut (I := fun H locs g => ∃ (ls : Array Slot), va_P (dC, dI) classes [(tocl, .inl (ktocl, 8, .inl gtocl)), (h0, .inr (11, [.ref tp, .int s_taped, .ref dr, .ref rr, .ref rl, .int s_ruleCount, .int s_inForce, .ref to, .ref df, .ref nw, .ref tr, .ref no, .ref pa, .ref im, .ref co, .ref se, .ref ga, .ref pt, .int s_x])), (to, .inr (1, [.int to_deep, .int to_dishes, .int to_guests, .ref tolo, .ref tosa, .ref toea, .ref tocl]))] H ∧ va_D A [(tocl, .inl (ktocl, 8, .inl gtocl)), (h0, .inr (11, [.ref tp, .int s_taped, .ref dr, .ref rr, .ref rl, .int s_ruleCount, .int s_inForce, .ref to, .ref df, .ref nw, .ref tr, .ref no, .ref pa, .ref im, .ref co, .ref se, .ref ga, .ref pt, .int s_x])), (to, .inr (1, [.int to_deep, .int to_dishes, .int to_guests, .ref tolo, .ref tosa, .ref toea, .ref tocl]))] ∧ va_S A s.heap H locs ∧ lv_has ls 2 [] ∧ g = F0 m 14 ls []) (fun H locs g h => ?_) (fun hJ14 => ?_)
  · obtain ⟨ls, hP, hD, hS, hl, rfl⟩ := h
    refine lv_iconst (v := (-1)) hx hb dX11_clashes_14 (by decide) ?_
    refine W.widen (k := 0) (n := 0) (Nat.le_of_ble_eq_true rfl) (Nat.le_of_ble_eq_true rfl) ?_
    exact W.iret (v := (-1)) hx hb hr (fun t ht hW => ⟨⟨(-1), (), rfl, trivial, by rw [ht]; exact (hP.sub (ws' := [(h0, .inr (11, [.ref tp, .int s_taped, .ref dr, .ref rr, .ref rl, .int s_ruleCount, .int s_inForce, .ref to, .ref df, .ref nw, .ref tr, .ref no, .ref pa, .ref im, .ref co, .ref se, .ref ga, .ref pt, .int s_x])), (to, .inr (1, [.int to_deep, .int to_dishes, .int to_guests, .ref tolo, .ref tosa, .ref toea, .ref tocl])), (tocl, .inl (ktocl, 8, .inl gtocl))]) [1, 2, 0] rfl), va_K.moved hW.alike hK, (hD.sub (ws' := [(h0, .inr (11, [.ref tp, .int s_taped, .ref dr, .ref rr, .ref rl, .int s_ruleCount, .int s_inForce, .ref to, .ref df, .ref nw, .ref tr, .ref no, .ref pa, .ref im, .ref co, .ref se, .ref ga, .ref pt, .int s_x])), (to, .inr (1, [.int to_deep, .int to_dishes, .int to_guests, .ref tolo, .ref tosa, .ref toea, .ref tocl])), (tocl, .inl (ktocl, 8, .inl gtocl))]) [1, 2, 0] (by decide) rfl)⟩, hS.F ht⟩) hS.2.2 dX11_clashes_15
  refine lv_if_ne (tgt := 14) hx hb dX11_clashes_4 (by decide) (fun c_15 => ?_) (fun c_15 => ?_)
  · exact hJ14 _ _ _ ⟨_, hP, hD, hS, (lv_sub hl [] rfl), rfl⟩
  · refine lv_iload_n hx hb dX11_clashes_7 rfl (lv_at hl 1 rfl) ?_
    have hPc := hP.sub (ws' := []) [] rfl
    have hDc := hD.sub (ws' := []) [] (by decide) rfl
    have hKc := hK.sub (tys' := []) [] rfl
    have hFc := va_free (wc := []) hD hS hA [] rfl
    refine va_calli (va_runS (As := [.int x0]) (rest := []) ⟨hx, hb, hml, hown, hq⟩ (x_isSecret l dC dI _ x0 ) (cwS 1 hq (gS qw_782 qw_783 qw_119 qw_784) rfl rfl rfl (by decide +kernel) ⟨Nat.le_of_ble_eq_true rfl, Nat.le_of_ble_eq_true rfl⟩) ⟨fun a U g mk q => by obtain ⟨q0, q1, qP, qK, qD, qE⟩ := q; exact ⟨q0, q1, qP, va_K.moved (u := U) (U := U.calling g mk a) (Vm.Alike.refl U.vm) qK, qD, xE.same rfl qE⟩, fun U hU hW => ⟨rfl, by rw [hU], by rw [hU]; exact hPc, va_K.moved hW.alike hKc, hDc.weaken (fun _ _ _ _ => trivial), xE.warm hW hE⟩⟩ rfl rfl hl.1 rfl (lv_room (Nat.le_of_ble_eq_true rfl)) dX11_clashes_8 ⟨Nat.le_of_ble_eq_true rfl, Nat.le_of_ble_eq_true rfl⟩) hS (fun q _ h => hFc q h) hFc (fun r_16 u t H1 locs ht hvm hw hB hz1 hk1 hS => ?_)
    obtain ⟨hP1, hK1, hD1⟩ := hB
    rw [ht] at hP1
    obtain ⟨hP, hD⟩ := va_join (wr := [(tocl, .inl (ktocl, 8, .inl gtocl)), (h0, .inr (11, [.ref tp, .int s_taped, .ref dr, .ref rr, .ref rl, .int s_ruleCount, .int s_inForce, .ref to, .ref df, .ref nw, .ref tr, .ref no, .ref pa, .ref im, .ref co, .ref se, .ref ga, .ref pt, .int s_x])), (to, .inr (1, [.int to_deep, .int to_dishes, .int to_guests, .ref tolo, .ref tosa, .ref toea, .ref tocl]))]) (w1 := []) hP hD [] [0, 1, 2] rfl rfl (by decide) (by decide) hk1 hFc hP1 hD1
    generalize H1 = H at hP hS ⊢
    have hP : va_P (dC, dI) classes [(tocl, .inl (ktocl, 8, .inl gtocl)), (h0, .inr (11, [.ref tp, .int s_taped, .ref dr, .ref rr, .ref rl, .int s_ruleCount, .int s_inForce, .ref to, .ref df, .ref nw, .ref tr, .ref no, .ref pa, .ref im, .ref co, .ref se, .ref ga, .ref pt, .int s_x])), (to, .inr (1, [.int to_deep, .int to_dishes, .int to_guests, .ref tolo, .ref tosa, .ref toea, .ref tocl]))] H := hP
    have hD : va_D A [(tocl, .inl (ktocl, 8, .inl gtocl)), (h0, .inr (11, [.ref tp, .int s_taped, .ref dr, .ref rr, .ref rl, .int s_ruleCount, .int s_inForce, .ref to, .ref df, .ref nw, .ref tr, .ref no, .ref pa, .ref im, .ref co, .ref se, .ref ga, .ref pt, .int s_x])), (to, .inr (1, [.int to_deep, .int to_dishes, .int to_guests, .ref tolo, .ref tosa, .ref toea, .ref tocl]))] := hD
    refine lv_if_ne (tgt := 16) hx hb dX11_clashes_11 (by decide) (fun c_17 => ?_) (fun c_17 => ?_)
    · refine lv_aload_n hx hb dX11_clashes_16 rfl (lv_at hl 0 rfl) ?_
      refine va_get (D := (dC, dI)) (ci := 11) (v := .ref to) (C := RX11) (T := TX11) (N := 19) hx hb hq inX11 hown hK hP 1 rfl rfl 7 (by decide) (hq _ qw_456) (fun _ h9 => h9) rfl dX11_clashes_17 ?_
      refine va_get (D := (dC, dI)) (ci := 1) (v := .ref tocl) (C := RX1) (T := TX1) (N := 7) hx hb hq inX1 hown hK hP 2 rfl rfl 6 (by decide) (hq _ qw_247) (fun _ h9 => h9) rfl dX11_clashes_20 ?_
      refine lv_iload_n hx hb dX11_clashes_23 rfl (lv_at hl 1 rfl) ?_
      refine lv_bipush (v := 7) hx hb dX11_clashes_24 (by decide) ?_
      refine lv_iand hx hb dX11_clashes_26 ?_
      refine lv_topi (fun y_18 ey_18 => ?_)
      have b_19 : bt 0 7 y_18 := bt_andr ey_18 (bt_k (x := 7) (c := 7) (by decide)) (by decide)
      refine va_iald hx hb hK hP 0 0 rfl rfl (bt_in b_19 (by decide)) dX11_clashes_27 ?_
      refine lv_topi (fun y_20 ey_20 => ?_)
      refine W.widen (k := 0) (n := 0) (Nat.le_of_ble_eq_true rfl) (Nat.le_of_ble_eq_true rfl) ?_
      exact W.iret (v := y_20) hx hb hr (fun t ht hW => ⟨⟨y_20, (), rfl, trivial, by rw [ht]; exact (hP.sub (ws' := [(h0, .inr (11, [.ref tp, .int s_taped, .ref dr, .ref rr, .ref rl, .int s_ruleCount, .int s_inForce, .ref to, .ref df, .ref nw, .ref tr, .ref no, .ref pa, .ref im, .ref co, .ref se, .ref ga, .ref pt, .int s_x])), (to, .inr (1, [.int to_deep, .int to_dishes, .int to_guests, .ref tolo, .ref tosa, .ref toea, .ref tocl])), (tocl, .inl (ktocl, 8, .inl gtocl))]) [1, 2, 0] rfl), va_K.moved hW.alike hK, (hD.sub (ws' := [(h0, .inr (11, [.ref tp, .int s_taped, .ref dr, .ref rr, .ref rl, .int s_ruleCount, .int s_inForce, .ref to, .ref df, .ref nw, .ref tr, .ref no, .ref pa, .ref im, .ref co, .ref se, .ref ga, .ref pt, .int s_x])), (to, .inr (1, [.int to_deep, .int to_dishes, .int to_guests, .ref tolo, .ref tosa, .ref toea, .ref tocl])), (tocl, .inl (ktocl, 8, .inl gtocl))]) [1, 2, 0] (by decide) rfl)⟩, hS.F ht⟩) hS.2.2 dX11_clashes_28
    · exact hJ14 _ _ _ ⟨_, hP, hD, hS, (lv_sub hl [] rfl), rfl⟩

set_option maxHeartbeats 4000000 in
set_option maxRecDepth 100000 in
/-- x_throat -/
theorem x_throat (l : Launch) (dC : Nat → ClassId) (dI : Nat → Nat → Nat) (sz : Nat) (h0 : Nat) (tp : Nat) (s_taped : Int32) (dr : Nat) (rr : Nat) (rl : Nat) (s_ruleCount : Int32) (s_inForce : Int32) (to : Nat) (df : Nat) (nw : Nat) (tr : Nat) (no : Nat) (pa : Nat) (im : Nat) (co : Nat) (se : Nat) (ga : Nat) (pt : Nat) (s_x : Int32) (to_deep : Int32) (to_dishes : Int32) (to_guests : Int32) (tolo : Nat) (tosa : Nat) (toea : Nat) (tocl : Nat) (nw_minute : Int32) (nw_offered : Int32) (nw_table : Int32) (nw_sitting : Int32) (nw_gullet : Int32) (nw_knows : Int64) (x0 : Int32) : Met l yX11_throat (.code yX11_throat cX11_throat 2 (some .int) :: wsA) ({ frames := 1, cells := 0, slots := 0, locals := 21 }) (va_Pc [.ref h0, .int x0] (fun U => U.heap.size = sz ∧ va_P (dC, dI) classes [(h0, .inr (11, [.ref tp, .int s_taped, .ref dr, .ref rr, .ref rl, .int s_ruleCount, .int s_inForce, .ref to, .ref df, .ref nw, .ref tr, .ref no, .ref pa, .ref im, .ref co, .ref se, .ref ga, .ref pt, .int s_x])), (to, .inr (1, [.int to_deep, .int to_dishes, .int to_guests, .ref tolo, .ref tosa, .ref toea, .ref tocl])), (nw, .inr (3, [.int nw_minute, .int nw_offered, .int nw_table, .int nw_sitting, .int nw_gullet, .long nw_knows]))] U.heap ∧ va_K (dC, dI) classes [] U ∧ va_D (fun _ => True) [(h0, .inr (11, [.ref tp, .int s_taped, .ref dr, .ref rr, .ref rl, .int s_ruleCount, .int s_inForce, .ref to, .ref df, .ref nw, .ref tr, .ref no, .ref pa, .ref im, .ref co, .ref se, .ref ga, .ref pt, .int s_x])), (to, .inr (1, [.int to_deep, .int to_dishes, .int to_guests, .ref tolo, .ref tosa, .ref toea, .ref tocl])), (nw, .inr (3, [.int nw_minute, .int nw_offered, .int nw_table, .int nw_sitting, .int nw_gullet, .long nw_knows]))] ∧ xE U)) (va_Qi (fun (r : Int32) (_ : Unit) => True) (fun _ t => va_P (dC, dI) classes [(h0, .inr (11, [.ref tp, .int s_taped, .ref dr, .ref rr, .ref rl, .int s_ruleCount, .int s_inForce, .ref to, .ref df, .ref nw, .ref tr, .ref no, .ref pa, .ref im, .ref co, .ref se, .ref ga, .ref pt, .int s_x])), (to, .inr (1, [.int to_deep, .int to_dishes, .int to_guests, .ref tolo, .ref tosa, .ref toea, .ref tocl])), (nw, .inr (3, [.int nw_minute, .int nw_offered, .int nw_table, .int nw_sitting, .int nw_gullet, .long nw_knows]))] t.heap ∧ va_K (dC, dI) classes [] t ∧ va_D (va_A [(h0, .inr (11, [.ref tp, .int s_taped, .ref dr, .ref rr, .ref rl, .int s_ruleCount, .int s_inForce, .ref to, .ref df, .ref nw, .ref tr, .ref no, .ref pa, .ref im, .ref co, .ref se, .ref ga, .ref pt, .int s_x])), (to, .inr (1, [.int to_deep, .int to_dishes, .int to_guests, .ref tolo, .ref tosa, .ref toea, .ref tocl])), (nw, .inr (3, [.int nw_minute, .int nw_offered, .int nw_table, .int nw_sitting, .int nw_gullet, .long nw_knows]))] sz) [(h0, .inr (11, [.ref tp, .int s_taped, .ref dr, .ref rr, .ref rl, .int s_ruleCount, .int s_inForce, .ref to, .ref df, .ref nw, .ref tr, .ref no, .ref pa, .ref im, .ref co, .ref se, .ref ga, .ref pt, .int s_x])), (to, .inr (1, [.int to_deep, .int to_dishes, .int to_guests, .ref tolo, .ref tosa, .ref toea, .ref tocl])), (nw, .inr (3, [.int nw_minute, .int nw_offered, .int nw_table, .int nw_sitting, .int nw_gullet, .long nw_knows]))]) (va_A [(h0, .inr (11, [.ref tp, .int s_taped, .ref dr, .ref rr, .ref rl, .int s_ruleCount, .int s_inForce, .ref to, .ref df, .ref nw, .ref tr, .ref no, .ref pa, .ref im, .ref co, .ref se, .ref ga, .ref pt, .int s_x])), (to, .inr (1, [.int to_deep, .int to_dishes, .int to_guests, .ref tolo, .ref tosa, .ref toea, .ref tocl])), (nw, .inr (3, [.int nw_minute, .int nw_offered, .int nw_table, .int nw_sitting, .int nw_gullet, .long nw_knows]))] sz)) 0 0 (va_A [(h0, .inr (11, [.ref tp, .int s_taped, .ref dr, .ref rr, .ref rl, .int s_ruleCount, .int s_inForce, .ref to, .ref df, .ref nw, .ref tr, .ref no, .ref pa, .ref im, .ref co, .ref se, .ref ga, .ref pt, .int s_x])), (to, .inr (1, [.int to_deep, .int to_dishes, .int to_guests, .ref tolo, .ref tosa, .ref toea, .ref tocl])), (nw, .inr (3, [.int nw_minute, .int nw_offered, .int nw_table, .int nw_sitting, .int nw_gullet, .long nw_knows]))] sz) := by
  refine Met.ofW (cc := cX11_throat) (maxL := 2) (ret := (some .int)) (by decide) rfl ?_
  intro p e s m args below meth c s₁ B hml hv
  obtain ⟨rfl, hsz, hP, hK, hD0, hE⟩ := hv
  have hx := B.exec
  have hb := B.bytes
  have hr := B.returns
  have hts := atoms_spec (ws := .code yX11_throat cX11_throat 2 (some .int) :: wsA) B.pre
  have hq : ∀ w ∈ wsA, w.before _ s = true := fun w h => hts w (List.mem_cons_of_mem _ h)
  have hown : s.vm.findClass RX11 = some m.cls := findClass_of_methodNamed B.named
  have hlocks := B.notSynchronized
  subst hsz
  have hD := hD0.self (sz := s.heap.size)
  generalize hAe : va_A [(h0, .inr (11, [.ref tp, .int s_taped, .ref dr, .ref rr, .ref rl, .int s_ruleCount, .int s_inForce, .ref to, .ref df, .ref nw, .ref tr, .ref no, .ref pa, .ref im, .ref co, .ref se, .ref ga, .ref pt, .int s_x])), (to, .inr (1, [.int to_deep, .int to_dishes, .int to_guests, .ref tolo, .ref tosa, .ref toea, .ref tocl])), (nw, .inr (3, [.int nw_minute, .int nw_offered, .int nw_table, .int nw_sitting, .int nw_gullet, .long nw_knows]))] s.heap.size = A at hD ⊢
  have hA : ∀ q : Nat, s.heap.size ≤ q → A q := fun q h => by rw [← hAe]; exact Or.inr h
  have hS : va_S A s.heap s.heap [] := va_S.rf
  have hl := lv_entry ([.ref h0, .int x0]) (n := 2) (Nat.le_of_ble_eq_true rfl)
  rw [lg_entry_eq]
  generalize (lg_sl ([.ref h0, .int x0]) ++ List.replicate (2 - (lg_sl ([.ref h0, .int x0])).length) Slot.unset).toArray = ls at hl ⊢
  have hl : lv_has ls 2 [(0, .ref h0), (1, .int x0)] := hl
  refine lv_iload_n hx hb dX11_throat_0 rfl (lv_at hl 1 rfl) ?_
  refine W.cut (I := fun H locs g => ∃ (ls : Array Slot), va_P (dC, dI) classes [(h0, .inr (11, [.ref tp, .int s_taped, .ref dr, .ref rr, .ref rl, .int s_ruleCount, .int s_inForce, .ref to, .ref df, .ref nw, .ref tr, .ref no, .ref pa, .ref im, .ref co, .ref se, .ref ga, .ref pt, .int s_x])), (to, .inr (1, [.int to_deep, .int to_dishes, .int to_guests, .ref tolo, .ref tosa, .ref toea, .ref tocl])), (nw, .inr (3, [.int nw_minute, .int nw_offered, .int nw_table, .int nw_sitting, .int nw_gullet, .long nw_knows]))] H ∧ va_D A [(h0, .inr (11, [.ref tp, .int s_taped, .ref dr, .ref rr, .ref rl, .int s_ruleCount, .int s_inForce, .ref to, .ref df, .ref nw, .ref tr, .ref no, .ref pa, .ref im, .ref co, .ref se, .ref ga, .ref pt, .int s_x])), (to, .inr (1, [.int to_deep, .int to_dishes, .int to_guests, .ref tolo, .ref tosa, .ref toea, .ref tocl])), (nw, .inr (3, [.int nw_minute, .int nw_offered, .int nw_table, .int nw_sitting, .int nw_gullet, .long nw_knows]))] ∧ va_S A s.heap H locs ∧ lv_has ls 2 [] ∧ g = F0 m 15 ls []) (fun H locs g h => ?_) (fun hJ15 => ?_)
  · obtain ⟨ls, hP, hD, hS, hl, rfl⟩ := h
    refine lv_bipush (v := (-2)) hx hb dX11_throat_15 (by decide) ?_
    refine W.widen (k := 0) (n := 0) (Nat.le_of_ble_eq_true rfl) (Nat.le_of_ble_eq_true rfl) ?_
    exact W.iret (v := (-2)) hx hb hr (fun t ht hW => ⟨⟨(-2), (), rfl, trivial, by rw [ht]; exact hP, va_K.moved hW.alike hK, hD⟩, hS.F ht⟩) hS.2.2 dX11_throat_17
  refine lv_if_lt (tgt := 15) hx hb dX11_throat_1 (by decide) (fun c_7 => ?_) (fun c_7 => ?_)
  · exact hJ15 _ _ _ ⟨_, hP, hD, hS, (lv_sub hl [] rfl), rfl⟩
  · refine lv_iload_n hx hb dX11_throat_4 rfl (lv_at hl 1 rfl) ?_
    refine lv_aload_n hx hb dX11_throat_5 rfl (lv_at hl 0 rfl) ?_
    refine va_get (D := (dC, dI)) (ci := 11) (v := .ref to) (C := RX11) (T := TX11) (N := 19) hx hb hq inX11 hown hK hP 0 rfl rfl 7 (by decide) (hq _ qw_456) (fun _ h9 => h9) rfl dX11_throat_6 ?_
    refine va_get (D := (dC, dI)) (ci := 1) (v := .int to_deep) (C := RX1) (T := TX1) (N := 7) hx hb hq inX1 hown hK hP 1 rfl rfl 0 (by decide) (hq _ qw_227) (fun _ h9 => h9) rfl dX11_throat_9 ?_
    refine lv_icmp_lt (tgt := 18) hx hb dX11_throat_12 (by decide) (fun c_8 => ?_) (fun c_8 => ?_)
    · refine lv_aload_n hx hb dX11_throat_18 rfl (lv_at hl 0 rfl) ?_
      refine va_get (D := (dC, dI)) (ci := 11) (v := .ref nw) (C := RX11) (T := TX11) (N := 19) hx hb hq inX11 hown hK hP 0 rfl rfl 9 (by decide) (hq _ qw_458) (fun _ h9 => h9) rfl dX11_throat_19 ?_
      refine lv_iload_n hx hb dX11_throat_22 rfl (lv_at hl 1 rfl) ?_
      have hPc := hP.sub (ws' := [(nw, .inr (3, [.int nw_minute, .int nw_offered, .int nw_table, .int nw_sitting, .int nw_gullet, .long nw_knows]))]) [2] rfl
      have hDc := hD.sub (ws' := [(nw, .inr (3, [.int nw_minute, .int nw_offered, .int nw_table, .int nw_sitting, .int nw_gullet, .long nw_knows]))]) [2] (by decide) rfl
      have hKc := hK.sub (tys' := []) [] rfl
      have hFc := va_free (wc := [(nw, .inr (3, [.int nw_minute, .int nw_offered, .int nw_table, .int nw_sitting, .int nw_gullet, .long nw_knows]))]) hD hS hA [2] rfl
      refine va_calli (va_runV (As := [.int x0]) (rest := []) ⟨hx, hb, hml, hown, hq⟩ (e_dishIn l dC dI _ nw nw_minute nw_offered nw_table nw_sitting nw_gullet nw_knows x0 ) (cwV 1 hq (gV qw_789 qw_755 qw_756 qw_125 qw_757) rfl rfl rfl (by decide +kernel) ⟨Nat.le_of_ble_eq_true rfl, Nat.le_of_ble_eq_true rfl⟩) ⟨fun a U g mk q => by obtain ⟨q0, q1, qP, qK, qD, qE⟩ := q; exact ⟨q0, q1, qP, va_K.moved (u := U) (U := U.calling g mk a) (Vm.Alike.refl U.vm) qK, qD, xE.same rfl qE⟩, va_recv hKc hPc (ci := 3) (q0 := 0) rfl rfl, fun U hU hW => ⟨rfl, by rw [hU], by rw [hU]; exact hPc, va_K.moved hW.alike hKc, hDc.weaken (fun _ _ _ _ => trivial), xE.warm hW hE⟩⟩ rfl rfl hl.1 rfl (lv_room (Nat.le_of_ble_eq_true rfl)) dX11_throat_23 ⟨Nat.le_of_ble_eq_true rfl, Nat.le_of_ble_eq_true rfl⟩) hS (fun q _ h => hFc q h) hFc (fun r_9 u t H1 locs ht hvm hw hB hz1 hk1 hS => ?_)
      obtain ⟨hP1, hK1, hD1⟩ := hB
      rw [ht] at hP1
      obtain ⟨hP, hD⟩ := va_join (wr := [(h0, .inr (11, [.ref tp, .int s_taped, .ref dr, .ref rr, .ref rl, .int s_ruleCount, .int s_inForce, .ref to, .ref df, .ref nw, .ref tr, .ref no, .ref pa, .ref im, .ref co, .ref se, .ref ga, .ref pt, .int s_x])), (to, .inr (1, [.int to_deep, .int to_dishes, .int to_guests, .ref tolo, .ref tosa, .ref toea, .ref tocl]))]) (w1 := [(nw, .inr (3, [.int nw_minute, .int nw_offered, .int nw_table, .int nw_sitting, .int nw_gullet, .long nw_knows]))]) hP hD [2] [0, 1] rfl rfl (by decide) (by decide) hk1 hFc hP1 hD1
      generalize H1 = H at hP hS ⊢
      have hP : va_P (dC, dI) classes [(h0, .inr (11, [.ref tp, .int s_taped, .ref dr, .ref rr, .ref rl, .int s_ruleCount, .int s_inForce, .ref to, .ref df, .ref nw, .ref tr, .ref no, .ref pa, .ref im, .ref co, .ref se, .ref ga, .ref pt, .int s_x])), (to, .inr (1, [.int to_deep, .int to_dishes, .int to_guests, .ref tolo, .ref tosa, .ref toea, .ref tocl])), (nw, .inr (3, [.int nw_minute, .int nw_offered, .int nw_table, .int nw_sitting, .int nw_gullet, .long nw_knows]))] H := hP
      have hD : va_D A [(h0, .inr (11, [.ref tp, .int s_taped, .ref dr, .ref rr, .ref rl, .int s_ruleCount, .int s_inForce, .ref to, .ref df, .ref nw, .ref tr, .ref no, .ref pa, .ref im, .ref co, .ref se, .ref ga, .ref pt, .int s_x])), (to, .inr (1, [.int to_deep, .int to_dishes, .int to_guests, .ref tolo, .ref tosa, .ref toea, .ref tocl])), (nw, .inr (3, [.int nw_minute, .int nw_offered, .int nw_table, .int nw_sitting, .int nw_gullet, .long nw_knows]))] := hD
      refine W.widen (k := 0) (n := 0) (Nat.le_of_ble_eq_true rfl) (Nat.le_of_ble_eq_true rfl) ?_
      exact W.iret (v := r_9) hx hb hr (fun t ht hW => ⟨⟨r_9, (), rfl, trivial, by rw [ht]; exact hP, va_K.moved hW.alike hK, hD⟩, hS.F ht⟩) hS.2.2 dX11_throat_26
    · exact hJ15 _ _ _ ⟨_, hP, hD, hS, (lv_sub hl [] rfl), rfl⟩

set_option maxHeartbeats 4000000 in
set_option maxRecDepth 100000 in
/-- x_knowing -/
theorem x_knowing (l : Launch) (dC : Nat → ClassId) (dI : Nat → Nat → Nat) (sz : Nat) (h0 : Nat) (tp : Nat) (s_taped : Int32) (dr : Nat) (rr : Nat) (rl : Nat) (s_ruleCount : Int32) (s_inForce : Int32) (to : Nat) (df : Nat) (nw : Nat) (tr : Nat) (no : Nat) (pa : Nat) (im : Nat) (co : Nat) (se : Nat) (ga : Nat) (pt : Nat) (s_x : Int32) (to_deep : Int32) (to_dishes : Int32) (to_guests : Int32) (tolo : Nat) (tosa : Nat) (toea : Nat) (tocl : Nat) (nw_minute : Int32) (nw_offered : Int32) (nw_table : Int32) (nw_sitting : Int32) (nw_gullet : Int32) (nw_knows : Int64) (x0 : Int32) : Met l yX11_knowing (.code yX11_knowing cX11_knowing 4 (some .int) :: wsA) ({ frames := 1, cells := 0, slots := 0, locals := 21 }) (va_Pc [.ref h0, .int x0] (fun U => U.heap.size = sz ∧ va_P (dC, dI) classes [(h0, .inr (11, [.ref tp, .int s_taped, .ref dr, .ref rr, .ref rl, .int s_ruleCount, .int s_inForce, .ref to, .ref df, .ref nw, .ref tr, .ref no, .ref pa, .ref im, .ref co, .ref se, .ref ga, .ref pt, .int s_x])), (to, .inr (1, [.int to_deep, .int to_dishes, .int to_guests, .ref tolo, .ref tosa, .ref toea, .ref tocl])), (nw, .inr (3, [.int nw_minute, .int nw_offered, .int nw_table, .int nw_sitting, .int nw_gullet, .long nw_knows]))] U.heap ∧ va_K (dC, dI) classes [] U ∧ va_D (fun _ => True) [(h0, .inr (11, [.ref tp, .int s_taped, .ref dr, .ref rr, .ref rl, .int s_ruleCount, .int s_inForce, .ref to, .ref df, .ref nw, .ref tr, .ref no, .ref pa, .ref im, .ref co, .ref se, .ref ga, .ref pt, .int s_x])), (to, .inr (1, [.int to_deep, .int to_dishes, .int to_guests, .ref tolo, .ref tosa, .ref toea, .ref tocl])), (nw, .inr (3, [.int nw_minute, .int nw_offered, .int nw_table, .int nw_sitting, .int nw_gullet, .long nw_knows]))] ∧ xE U)) (va_Qi (fun (r : Int32) (_ : Unit) => True) (fun _ t => va_P (dC, dI) classes [(h0, .inr (11, [.ref tp, .int s_taped, .ref dr, .ref rr, .ref rl, .int s_ruleCount, .int s_inForce, .ref to, .ref df, .ref nw, .ref tr, .ref no, .ref pa, .ref im, .ref co, .ref se, .ref ga, .ref pt, .int s_x])), (to, .inr (1, [.int to_deep, .int to_dishes, .int to_guests, .ref tolo, .ref tosa, .ref toea, .ref tocl])), (nw, .inr (3, [.int nw_minute, .int nw_offered, .int nw_table, .int nw_sitting, .int nw_gullet, .long nw_knows]))] t.heap ∧ va_K (dC, dI) classes [] t ∧ va_D (va_A [(h0, .inr (11, [.ref tp, .int s_taped, .ref dr, .ref rr, .ref rl, .int s_ruleCount, .int s_inForce, .ref to, .ref df, .ref nw, .ref tr, .ref no, .ref pa, .ref im, .ref co, .ref se, .ref ga, .ref pt, .int s_x])), (to, .inr (1, [.int to_deep, .int to_dishes, .int to_guests, .ref tolo, .ref tosa, .ref toea, .ref tocl])), (nw, .inr (3, [.int nw_minute, .int nw_offered, .int nw_table, .int nw_sitting, .int nw_gullet, .long nw_knows]))] sz) [(h0, .inr (11, [.ref tp, .int s_taped, .ref dr, .ref rr, .ref rl, .int s_ruleCount, .int s_inForce, .ref to, .ref df, .ref nw, .ref tr, .ref no, .ref pa, .ref im, .ref co, .ref se, .ref ga, .ref pt, .int s_x])), (to, .inr (1, [.int to_deep, .int to_dishes, .int to_guests, .ref tolo, .ref tosa, .ref toea, .ref tocl])), (nw, .inr (3, [.int nw_minute, .int nw_offered, .int nw_table, .int nw_sitting, .int nw_gullet, .long nw_knows]))]) (va_A [(h0, .inr (11, [.ref tp, .int s_taped, .ref dr, .ref rr, .ref rl, .int s_ruleCount, .int s_inForce, .ref to, .ref df, .ref nw, .ref tr, .ref no, .ref pa, .ref im, .ref co, .ref se, .ref ga, .ref pt, .int s_x])), (to, .inr (1, [.int to_deep, .int to_dishes, .int to_guests, .ref tolo, .ref tosa, .ref toea, .ref tocl])), (nw, .inr (3, [.int nw_minute, .int nw_offered, .int nw_table, .int nw_sitting, .int nw_gullet, .long nw_knows]))] sz)) 0 0 (va_A [(h0, .inr (11, [.ref tp, .int s_taped, .ref dr, .ref rr, .ref rl, .int s_ruleCount, .int s_inForce, .ref to, .ref df, .ref nw, .ref tr, .ref no, .ref pa, .ref im, .ref co, .ref se, .ref ga, .ref pt, .int s_x])), (to, .inr (1, [.int to_deep, .int to_dishes, .int to_guests, .ref tolo, .ref tosa, .ref toea, .ref tocl])), (nw, .inr (3, [.int nw_minute, .int nw_offered, .int nw_table, .int nw_sitting, .int nw_gullet, .long nw_knows]))] sz) := by
  refine Met.ofW (cc := cX11_knowing) (maxL := 4) (ret := (some .int)) (by decide) rfl ?_
  intro p e s m args below meth c s₁ B hml hv
  obtain ⟨rfl, hsz, hP, hK, hD0, hE⟩ := hv
  have hx := B.exec
  have hb := B.bytes
  have hr := B.returns
  have hts := atoms_spec (ws := .code yX11_knowing cX11_knowing 4 (some .int) :: wsA) B.pre
  have hq : ∀ w ∈ wsA, w.before _ s = true := fun w h => hts w (List.mem_cons_of_mem _ h)
  have hown : s.vm.findClass RX11 = some m.cls := findClass_of_methodNamed B.named
  have hlocks := B.notSynchronized
  subst hsz
  have hD := hD0.self (sz := s.heap.size)
  generalize hAe : va_A [(h0, .inr (11, [.ref tp, .int s_taped, .ref dr, .ref rr, .ref rl, .int s_ruleCount, .int s_inForce, .ref to, .ref df, .ref nw, .ref tr, .ref no, .ref pa, .ref im, .ref co, .ref se, .ref ga, .ref pt, .int s_x])), (to, .inr (1, [.int to_deep, .int to_dishes, .int to_guests, .ref tolo, .ref tosa, .ref toea, .ref tocl])), (nw, .inr (3, [.int nw_minute, .int nw_offered, .int nw_table, .int nw_sitting, .int nw_gullet, .long nw_knows]))] s.heap.size = A at hD ⊢
  have hA : ∀ q : Nat, s.heap.size ≤ q → A q := fun q h => by rw [← hAe]; exact Or.inr h
  have hS : va_S A s.heap s.heap [] := va_S.rf
  have hl := lv_entry ([.ref h0, .int x0]) (n := 4) (Nat.le_of_ble_eq_true rfl)
  rw [lg_entry_eq]
  generalize (lg_sl ([.ref h0, .int x0]) ++ List.replicate (4 - (lg_sl ([.ref h0, .int x0])).length) Slot.unset).toArray = ls at hl ⊢
  have hl : lv_has ls 4 [(0, .ref h0), (1, .int x0)] := hl
  refine lv_aload_n hx hb dX11_knowing_0 rfl (lv_at hl 0 rfl) ?_
  have hPc := hP.sub (ws' := [(h0, .inr (11, [.ref tp, .int s_taped, .ref dr, .ref rr, .ref rl, .int s_ruleCount, .int s_inForce, .ref to, .ref df, .ref nw, .ref tr, .ref no, .ref pa, .ref im, .ref co, .ref se, .ref ga, .ref pt, .int s_x])), (to, .inr (1, [.int to_deep, .int to_dishes, .int to_guests, .ref tolo, .ref tosa, .ref toea, .ref tocl]))]) [0, 1] rfl
  have hDc := hD.sub (ws' := [(h0, .inr (11, [.ref tp, .int s_taped, .ref dr, .ref rr, .ref rl, .int s_ruleCount, .int s_inForce, .ref to, .ref df, .ref nw, .ref tr, .ref no, .ref pa, .ref im, .ref co, .ref se, .ref ga, .ref pt, .int s_x])), (to, .inr (1, [.int to_deep, .int to_dishes, .int to_guests, .ref tolo, .ref tosa, .ref toea, .ref tocl]))]) [0, 1] (by decide) rfl
  have hKc := hK.sub (tys' := []) [] rfl
  have hFc := va_free (wc := [(h0, .inr (11, [.ref tp, .int s_taped, .ref dr, .ref rr, .ref rl, .int s_ruleCount, .int s_inForce, .ref to, .ref df, .ref nw, .ref tr, .ref no, .ref pa, .ref im, .ref co, .ref se, .ref ga, .ref pt, .int s_x])), (to, .inr (1, [.int to_deep, .int to_dishes, .int to_guests, .ref tolo, .ref tosa, .ref toea, .ref tocl]))]) hD hS hA [0, 1] rfl
  refine va_calli (va_runV (As := []) (rest := []) ⟨hx, hb, hml, hown, hq⟩ (x_untold l dC dI _ h0 tp s_taped dr rr rl s_ruleCount s_inForce to df nw tr no pa im co se ga pt s_x to_deep to_dishes to_guests tolo tosa toea tocl ) (cwV 0 hq (gV qw_778 qw_780 qw_14 qw_119 qw_781) rfl rfl rfl (by decide +kernel) ⟨Nat.le_of_ble_eq_true rfl, Nat.le_of_ble_eq_true rfl⟩) ⟨fun a U g mk q => by obtain ⟨q0, q1, qP, qK, qD, qE⟩ := q; exact ⟨q0, q1, qP, va_K.moved (u := U) (U := U.calling g mk a) (Vm.Alike.refl U.vm) qK, qD, xE.same rfl qE⟩, va_recv hKc hPc (ci := 11) (q0 := 0) rfl rfl, fun U hU hW => ⟨rfl, by rw [hU], by rw [hU]; exact hPc, va_K.moved hW.alike hKc, hDc.weaken (fun _ _ _ _ => trivial), xE.warm hW hE⟩⟩ rfl rfl hl.1 rfl (lv_room (Nat.le_of_ble_eq_true rfl)) dX11_knowing_1 ⟨Nat.le_of_ble_eq_true rfl, Nat.le_of_ble_eq_true rfl⟩) hS (fun q _ h => hFc q h) hFc (fun r_61 u t H1 locs ht hvm hw hB hz1 hk1 hS => ?_)
  obtain ⟨hP1, hK1, hD1⟩ := hB
  rw [ht] at hP1
  obtain ⟨hP, hD⟩ := va_join (wr := [(nw, .inr (3, [.int nw_minute, .int nw_offered, .int nw_table, .int nw_sitting, .int nw_gullet, .long nw_knows]))]) (w1 := [(h0, .inr (11, [.ref tp, .int s_taped, .ref dr, .ref rr, .ref rl, .int s_ruleCount, .int s_inForce, .ref to, .ref df, .ref nw, .ref tr, .ref no, .ref pa, .ref im, .ref co, .ref se, .ref ga, .ref pt, .int s_x])), (to, .inr (1, [.int to_deep, .int to_dishes, .int to_guests, .ref tolo, .ref tosa, .ref toea, .ref tocl]))]) hP hD [0, 1] [2] rfl rfl (by decide) (by decide) hk1 hFc hP1 hD1
  generalize H1 = H at hP hS ⊢
  have hP : va_P (dC, dI) classes [(nw, .inr (3, [.int nw_minute, .int nw_offered, .int nw_table, .int nw_sitting, .int nw_gullet, .long nw_knows])), (h0, .inr (11, [.ref tp, .int s_taped, .ref dr, .ref rr, .ref rl, .int s_ruleCount, .int s_inForce, .ref to, .ref df, .ref nw, .ref tr, .ref no, .ref pa, .ref im, .ref co, .ref se, .ref ga, .ref pt, .int s_x])), (to, .inr (1, [.int to_deep, .int to_dishes, .int to_guests, .ref tolo, .ref tosa, .ref toea, .ref tocl]))] H := hP
  have hD : va_D A [(nw, .inr (3, [.int nw_minute, .int nw_offered, .int nw_table, .int nw_sitting, .int nw_gullet, .long nw_knows])), (h0, .inr (11, [.ref tp, .int s_taped, .ref dr, .ref rr, .ref rl, .int s_ruleCount, .int s_inForce, .ref to, .ref df, .ref nw, .ref tr, .ref no, .ref pa, .ref im, .ref co, .ref se, .ref ga, .ref pt, .int s_x])), (to, .inr (1, [.int to_deep, .int to_dishes, .int to_guests, .ref tolo, .ref tosa, .ref toea, .ref tocl]))] := hD
  refine W.cut (I := fun H locs g => ∃ (ls : Array Slot), va_P (dC, dI) classes [(nw, .inr (3, [.int nw_minute, .int nw_offered, .int nw_table, .int nw_sitting, .int nw_gullet, .long nw_knows])), (h0, .inr (11, [.ref tp, .int s_taped, .ref dr, .ref rr, .ref rl, .int s_ruleCount, .int s_inForce, .ref to, .ref df, .ref nw, .ref tr, .ref no, .ref pa, .ref im, .ref co, .ref se, .ref ga, .ref pt, .int s_x])), (to, .inr (1, [.int to_deep, .int to_dishes, .int to_guests, .ref tolo, .ref tosa, .ref toea, .ref tocl]))] H ∧ va_D A [(nw, .inr (3, [.int nw_minute, .int nw_offered, .int nw_table, .int nw_sitting, .int nw_gullet, .long nw_knows])), (h0, .inr (11, [.ref tp, .int s_taped, .ref dr, .ref rr, .ref rl, .int s_ruleCount, .int s_inForce, .ref to, .ref df, .ref nw, .ref tr, .ref no, .ref pa, .ref im, .ref co, .ref se, .ref ga, .ref pt, .int s_x])), (to, .inr (1, [.int to_deep, .int to_dishes, .int to_guests, .ref tolo, .ref tosa, .ref toea, .ref tocl]))] ∧ va_S A s.heap H locs ∧ lv_has ls 4 [] ∧ g = F0 m 14 ls []) (fun H locs g h => ?_) (fun hJ14 => ?_)
  · obtain ⟨ls, hP, hD, hS, hl, rfl⟩ := h
    refine lv_iconst (v := (-1)) hx hb dX11_knowing_14 (by decide) ?_
    refine W.widen (k := 0) (n := 0) (Nat.le_of_ble_eq_true rfl) (Nat.le_of_ble_eq_true rfl) ?_
    exact W.iret (v := (-1)) hx hb hr (fun t ht hW => ⟨⟨(-1), (), rfl, trivial, by rw [ht]; exact (hP.sub (ws' := [(h0, .inr (11, [.ref tp, .int s_taped, .ref dr, .ref rr, .ref rl, .int s_ruleCount, .int s_inForce, .ref to, .ref df, .ref nw, .ref tr, .ref no, .ref pa, .ref im, .ref co, .ref se, .ref ga, .ref pt, .int s_x])), (to, .inr (1, [.int to_deep, .int to_dishes, .int to_guests, .ref tolo, .ref tosa, .ref toea, .ref tocl])), (nw, .inr (3, [.int nw_minute, .int nw_offered, .int nw_table, .int nw_sitting, .int nw_gullet, .long nw_knows]))]) [1, 2, 0] rfl), va_K.moved hW.alike hK, (hD.sub (ws' := [(h0, .inr (11, [.ref tp, .int s_taped, .ref dr, .ref rr, .ref rl, .int s_ruleCount, .int s_inForce, .ref to, .ref df, .ref nw, .ref tr, .ref no, .ref pa, .ref im, .ref co, .ref se, .ref ga, .ref pt, .int s_x])), (to, .inr (1, [.int to_deep, .int to_dishes, .int to_guests, .ref tolo, .ref tosa, .ref toea, .ref tocl])), (nw, .inr (3, [.int nw_minute, .int nw_offered, .int nw_table, .int nw_sitting, .int nw_gullet, .long nw_knows]))]) [1, 2, 0] (by decide) rfl)⟩, hS.F ht⟩) hS.2.2 dX11_knowing_15
  refine lv_if_ne (tgt := 14) hx hb dX11_knowing_4 (by decide) (fun c_121 => ?_) (fun c_121 => ?_)
  · exact hJ14 _ _ _ ⟨_, hP, hD, hS, (lv_sub hl [] rfl), rfl⟩
  · refine lv_iload_n hx hb dX11_knowing_7 rfl (lv_at hl 1 rfl) ?_
    have hPc := hP.sub (ws' := []) [] rfl
    have hDc := hD.sub (ws' := []) [] (by decide) rfl
    have hKc := hK.sub (tys' := []) [] rfl
    have hFc := va_free (wc := []) hD hS hA [] rfl
    refine va_calli (va_runS (As := [.int x0]) (rest := []) ⟨hx, hb, hml, hown, hq⟩ (x_isSecret l dC dI _ x0 ) (cwS 1 hq (gS qw_782 qw_783 qw_119 qw_784) rfl rfl rfl (by decide +kernel) ⟨Nat.le_of_ble_eq_true rfl, Nat.le_of_ble_eq_true rfl⟩) ⟨fun a U g mk q => by obtain ⟨q0, q1, qP, qK, qD, qE⟩ := q; exact ⟨q0, q1, qP, va_K.moved (u := U) (U := U.calling g mk a) (Vm.Alike.refl U.vm) qK, qD, xE.same rfl qE⟩, fun U hU hW => ⟨rfl, by rw [hU], by rw [hU]; exact hPc, va_K.moved hW.alike hKc, hDc.weaken (fun _ _ _ _ => trivial), xE.warm hW hE⟩⟩ rfl rfl hl.1 rfl (lv_room (Nat.le_of_ble_eq_true rfl)) dX11_knowing_8 ⟨Nat.le_of_ble_eq_true rfl, Nat.le_of_ble_eq_true rfl⟩) hS (fun q _ h => hFc q h) hFc (fun r_122 u t H1 locs ht hvm hw hB hz1 hk1 hS => ?_)
    obtain ⟨hP1, hK1, hD1⟩ := hB
    rw [ht] at hP1
    obtain ⟨hP, hD⟩ := va_join (wr := [(nw, .inr (3, [.int nw_minute, .int nw_offered, .int nw_table, .int nw_sitting, .int nw_gullet, .long nw_knows])), (h0, .inr (11, [.ref tp, .int s_taped, .ref dr, .ref rr, .ref rl, .int s_ruleCount, .int s_inForce, .ref to, .ref df, .ref nw, .ref tr, .ref no, .ref pa, .ref im, .ref co, .ref se, .ref ga, .ref pt, .int s_x])), (to, .inr (1, [.int to_deep, .int to_dishes, .int to_guests, .ref tolo, .ref tosa, .ref toea, .ref tocl]))]) (w1 := []) hP hD [] [0, 1, 2] rfl rfl (by decide) (by decide) hk1 hFc hP1 hD1
    generalize H1 = H at hP hS ⊢
    have hP : va_P (dC, dI) classes [(nw, .inr (3, [.int nw_minute, .int nw_offered, .int nw_table, .int nw_sitting, .int nw_gullet, .long nw_knows])), (h0, .inr (11, [.ref tp, .int s_taped, .ref dr, .ref rr, .ref rl, .int s_ruleCount, .int s_inForce, .ref to, .ref df, .ref nw, .ref tr, .ref no, .ref pa, .ref im, .ref co, .ref se, .ref ga, .ref pt, .int s_x])), (to, .inr (1, [.int to_deep, .int to_dishes, .int to_guests, .ref tolo, .ref tosa, .ref toea, .ref tocl]))] H := hP
    have hD : va_D A [(nw, .inr (3, [.int nw_minute, .int nw_offered, .int nw_table, .int nw_sitting, .int nw_gullet, .long nw_knows])), (h0, .inr (11, [.ref tp, .int s_taped, .ref dr, .ref rr, .ref rl, .int s_ruleCount, .int s_inForce, .ref to, .ref df, .ref nw, .ref tr, .ref no, .ref pa, .ref im, .ref co, .ref se, .ref ga, .ref pt, .int s_x])), (to, .inr (1, [.int to_deep, .int to_dishes, .int to_guests, .ref tolo, .ref tosa, .ref toea, .ref tocl]))] := hD
    refine lv_if_ne (tgt := 16) hx hb dX11_knowing_11 (by decide) (fun c_123 => ?_) (fun c_123 => ?_)
    · refine lv_iconst (v := 0) hx hb dX11_knowing_16 (by decide) ?_
      refine lv_istore_n (lv' := [(2, .int 0), (0, .ref h0), (1, .int x0)]) hx hb dX11_knowing_17 rfl hl (by decide) rfl (fun ls hl => ?_)
      refine lv_iconst (v := 0) hx hb dX11_knowing_18 (by decide) ?_
      refine lv_istore_n (lv' := [(3, .int 0), (2, .int 0), (0, .ref h0), (1, .int x0)]) hx hb dX11_knowing_19 rfl hl (by decide) rfl (fun ls hl => ?_)
      refine W.loop (I := fun n H locs g => ∃ (y_129 : Int32) (y_130 : Int32) (ls : Array Slot), bt 0 5 y_129 ∧ 5 - y_129.toInt < (n : Int) ∧ va_P (dC, dI) classes [(nw, .inr (3, [.int nw_minute, .int nw_offered, .int nw_table, .int nw_sitting, .int nw_gullet, .long nw_knows])), (h0, .inr (11, [.ref tp, .int s_taped, .ref dr, .ref rr, .ref rl, .int s_ruleCount, .int s_inForce, .ref to, .ref df, .ref nw, .ref tr, .ref no, .ref pa, .ref im, .ref co, .ref se, .ref ga, .ref pt, .int s_x])), (to, .inr (1, [.int to_deep, .int to_dishes, .int to_guests, .ref tolo, .ref tosa, .ref toea, .ref tocl]))] H ∧ va_D A [(nw, .inr (3, [.int nw_minute, .int nw_offered, .int nw_table, .int nw_sitting, .int nw_gullet, .long nw_knows])), (h0, .inr (11, [.ref tp, .int s_taped, .ref dr, .ref rr, .ref rl, .int s_ruleCount, .int s_inForce, .ref to, .ref df, .ref nw, .ref tr, .ref no, .ref pa, .ref im, .ref co, .ref se, .ref ga, .ref pt, .int s_x])), (to, .inr (1, [.int to_deep, .int to_dishes, .int to_guests, .ref tolo, .ref tosa, .ref toea, .ref tocl]))] ∧ va_S A s.heap H locs ∧ lv_has ls 4 [(3, .int y_129), (2, .int y_130), (0, .ref h0), (1, .int x0)] ∧ g = F0 m 20 ls []) (fun H locs g h => ?_) (fun n ih20 H locs g h => ?_) (n := 6) ⟨0, 0, _, (bt_w (bt_k (x := 0) (c := 0) (by decide)) (by decide)), (ms_0 (bt_k (x := 0) (c := 0) (by decide)) (by decide)), hP, hD, hS, hl, rfl⟩
      · obtain ⟨y_129, y_130, ls, bd_v_3, hm, hP, hD, hS, hl, rfl⟩ := h
        exact ms_z bd_v_3 hm
      · obtain ⟨y_129, y_130, ls, bd_v_3, hm20, hP, hD, hS, hl, rfl⟩ := h
        refine lv_iload_n hx hb dX11_knowing_20 rfl (lv_at hl 0 rfl) ?_
        refine lv_iconst (v := 5) hx hb dX11_knowing_21 (by decide) ?_
        refine lv_icmp_ge (tgt := 48) hx hb dX11_knowing_22 (by decide) (fun c_173 => ?_) (fun c_173 => ?_)
        · refine lv_iload_n hx hb dX11_knowing_48 rfl (lv_at hl 1 rfl) ?_
          refine W.widen (k := 0) (n := 0) (Nat.le_of_ble_eq_true rfl) (Nat.le_of_ble_eq_true rfl) ?_
          exact W.iret (v := y_130) hx hb hr (fun t ht hW => ⟨⟨y_130, (), rfl, trivial, by rw [ht]; exact (hP.sub (ws' := [(h0, .inr (11, [.ref tp, .int s_taped, .ref dr, .ref rr, .ref rl, .int s_ruleCount, .int s_inForce, .ref to, .ref df, .ref nw, .ref tr, .ref no, .ref pa, .ref im, .ref co, .ref se, .ref ga, .ref pt, .int s_x])), (to, .inr (1, [.int to_deep, .int to_dishes, .int to_guests, .ref tolo, .ref tosa, .ref toea, .ref tocl])), (nw, .inr (3, [.int nw_minute, .int nw_offered, .int nw_table, .int nw_sitting, .int nw_gullet, .long nw_knows]))]) [1, 2, 0] rfl), va_K.moved hW.alike hK, (hD.sub (ws' := [(h0, .inr (11, [.ref tp, .int s_taped, .ref dr, .ref rr, .ref rl, .int s_ruleCount, .int s_inForce, .ref to, .ref df, .ref nw, .ref tr, .ref no, .ref pa, .ref im, .ref co, .ref se, .ref ga, .ref pt, .int s_x])), (to, .inr (1, [.int to_deep, .int to_dishes, .int to_guests, .ref tolo, .ref tosa, .ref toea, .ref tocl])), (nw, .inr (3, [.int nw_minute, .int nw_offered, .int nw_table, .int nw_sitting, .int nw_gullet, .long nw_knows]))]) [1, 2, 0] (by decide) rfl)⟩, hS.F ht⟩) hS.2.2 dX11_knowing_49
        · refine lv_iload_n hx hb dX11_knowing_25 rfl (lv_at hl 1 rfl) ?_
          refine lv_aload_n hx hb dX11_knowing_26 rfl (lv_at hl 2 rfl) ?_
          refine va_get (D := (dC, dI)) (ci := 11) (v := .ref nw) (C := RX11) (T := TX11) (N := 19) hx hb hq inX11 hown hK hP 1 rfl rfl 9 (by decide) (hq _ qw_458) (fun _ h9 => h9) rfl dX11_knowing_27 ?_
          refine lv_iload_n hx hb dX11_knowing_30 rfl (lv_at hl 0 rfl) ?_
          have hPc := hP.sub (ws' := [(nw, .inr (3, [.int nw_minute, .int nw_offered, .int nw_table, .int nw_sitting, .int nw_gullet, .long nw_knows]))]) [0] rfl
          have hDc := hD.sub (ws' := [(nw, .inr (3, [.int nw_minute, .int nw_offered, .int nw_table, .int nw_sitting, .int nw_gullet, .long nw_knows]))]) [0] (by decide) rfl
          have hKc := hK.sub (tys' := []) [] rfl
          have hFc := va_free (wc := [(nw, .inr (3, [.int nw_minute, .int nw_offered, .int nw_table, .int nw_sitting, .int nw_gullet, .long nw_knows]))]) hD hS hA [0] rfl
          refine va_calli (va_runV (As := [.int y_129]) (rest := [.int y_130]) ⟨hx, hb, hml, hown, hq⟩ (e_knownBy l dC dI _ nw nw_minute nw_offered nw_table nw_sitting nw_gullet nw_knows y_129 ) (cwV 1 hq (gV qw_766 qw_767 qw_768 qw_125 qw_769) rfl rfl rfl (by decide +kernel) ⟨Nat.le_of_ble_eq_true rfl, Nat.le_of_ble_eq_true rfl⟩) ⟨fun a U g mk q => by obtain ⟨q0, q1, qP, qK, qD, qE⟩ := q; exact ⟨q0, q1, qP, va_K.moved (u := U) (U := U.calling g mk a) (Vm.Alike.refl U.vm) qK, qD, xE.same rfl qE⟩, va_recv hKc hPc (ci := 3) (q0 := 0) rfl rfl, fun U hU hW => ⟨rfl, by rw [hU], by rw [hU]; exact hPc, va_K.moved hW.alike hKc, hDc.weaken (fun _ _ _ _ => trivial), xE.warm hW hE⟩⟩ rfl rfl hl.1 rfl (lv_room (Nat.le_of_ble_eq_true rfl)) dX11_knowing_31 ⟨Nat.le_of_ble_eq_true rfl, Nat.le_of_ble_eq_true rfl⟩) hS (fun q _ h => hFc q h) hFc (fun r_174 u t H1 locs ht hvm hw hB hz1 hk1 hS => ?_)
          obtain ⟨hP1, hK1, hD1⟩ := hB
          rw [ht] at hP1
          obtain ⟨hP, hD⟩ := va_join (wr := [(h0, .inr (11, [.ref tp, .int s_taped, .ref dr, .ref rr, .ref rl, .int s_ruleCount, .int s_inForce, .ref to, .ref df, .ref nw, .ref tr, .ref no, .ref pa, .ref im, .ref co, .ref se, .ref ga, .ref pt, .int s_x])), (to, .inr (1, [.int to_deep, .int to_dishes, .int to_guests, .ref tolo, .ref tosa, .ref toea, .ref tocl]))]) (w1 := [(nw, .inr (3, [.int nw_minute, .int nw_offered, .int nw_table, .int nw_sitting, .int nw_gullet, .long nw_knows]))]) hP hD [0] [1, 2] rfl rfl (by decide) (by decide) hk1 hFc hP1 hD1
          generalize H1 = H at hP hS ⊢
          have hP : va_P (dC, dI) classes [(h0, .inr (11, [.ref tp, .int s_taped, .ref dr, .ref rr, .ref rl, .int s_ruleCount, .int s_inForce, .ref to, .ref df, .ref nw, .ref tr, .ref no, .ref pa, .ref im, .ref co, .ref se, .ref ga, .ref pt, .int s_x])), (to, .inr (1, [.int to_deep, .int to_dishes, .int to_guests, .ref tolo, .ref tosa, .ref toea, .ref tocl])), (nw, .inr (3, [.int nw_minute, .int nw_offered, .int nw_table, .int nw_sitting, .int nw_gullet, .long nw_knows]))] H := hP
          have hD : va_D A [(h0, .inr (11, [.ref tp, .int s_taped, .ref dr, .ref rr, .ref rl, .int s_ruleCount, .int s_inForce, .ref to, .ref df, .ref nw, .ref tr, .ref no, .ref pa, .ref im, .ref co, .ref se, .ref ga, .ref pt, .int s_x])), (to, .inr (1, [.int to_deep, .int to_dishes, .int to_guests, .ref tolo, .ref tosa, .ref toea, .ref tocl])), (nw, .inr (3, [.int nw_minute, .int nw_offered, .int nw_table, .int nw_sitting, .int nw_gullet, .long nw_knows]))] := hD
          refine lv_iload_n hx hb dX11_knowing_34 rfl (lv_at hl 3 rfl) ?_
          refine lv_ishr hx hb dX11_knowing_35 ?_
          refine lv_topi (fun y_175 ey_175 => ?_)
          refine lv_iconst (v := 1) hx hb dX11_knowing_36 (by decide) ?_
          refine lv_iand hx hb dX11_knowing_37 ?_
          refine lv_topi (fun y_176 ey_176 => ?_)
          refine lv_iload_n hx hb dX11_knowing_38 rfl (lv_at hl 0 rfl) ?_
          refine lv_ishl hx hb dX11_knowing_39 ?_
          refine lv_topi (fun y_177 ey_177 => ?_)
          refine lv_ior hx hb dX11_knowing_40 ?_
          refine lv_topi (fun y_178 ey_178 => ?_)
          refine lv_istore_n (lv' := [(2, .int y_178), (3, .int y_129), (0, .ref h0), (1, .int x0)]) hx hb dX11_knowing_41 rfl hl (by decide) rfl (fun ls hl => ?_)
          obtain ⟨y_179, ey_179⟩ : ∃ y : Int32, y = y_129 + 1 := ⟨_, rfl⟩
          refine lv_iinc (v := y_179) (lv' := [(3, .int y_179), (2, .int y_178), (0, .ref h0), (1, .int x0)]) hx hb dX11_knowing_42 hl (k := 1) rfl (by rw [ey_179]; rfl) (by decide) rfl (fun ls hl => ?_)
          refine lv_goto (tgt := 20) hx hb dX11_knowing_45 (by decide) ?_
          have b_180 : bt 0 4 y_129 := rf_lt_l bd_v_3 (bt_k (x := 5) (c := 5) (by decide)) (Int32.not_le.mp c_173) (by decide)
          have b_181 : bt 1 5 y_179 := bt_add ey_179 b_180 (bt_k (x := 1) (c := 1) (by decide)) (by decide)
          exact ih20 _ _ _ ⟨y_179, y_178, _, (bt_w b_181 (by decide)), (ms_s ey_179 b_180 hm20 (by decide)), (hP.sub (ws' := [(nw, .inr (3, [.int nw_minute, .int nw_offered, .int nw_table, .int nw_sitting, .int nw_gullet, .long nw_knows])), (h0, .inr (11, [.ref tp, .int s_taped, .ref dr, .ref rr, .ref rl, .int s_ruleCount, .int s_inForce, .ref to, .ref df, .ref nw, .ref tr, .ref no, .ref pa, .ref im, .ref co, .ref se, .ref ga, .ref pt, .int s_x])), (to, .inr (1, [.int to_deep, .int to_dishes, .int to_guests, .ref tolo, .ref tosa, .ref toea, .ref tocl]))]) [2, 0, 1] rfl), (hD.sub (ws' := [(nw, .inr (3, [.int nw_minute, .int nw_offered, .int nw_table, .int nw_sitting, .int nw_gullet, .long nw_knows])), (h0, .inr (11, [.ref tp, .int s_taped, .ref dr, .ref rr, .ref rl, .int s_ruleCount, .int s_inForce, .ref to, .ref df, .ref nw, .ref tr, .ref no, .ref pa, .ref im, .ref co, .ref se, .ref ga, .ref pt, .int s_x])), (to, .inr (1, [.int to_deep, .int to_dishes, .int to_guests, .ref tolo, .ref tosa, .ref toea, .ref tocl]))]) [2, 0, 1] (by decide) rfl), hS, hl, rfl⟩
    · exact hJ14 _ _ _ ⟨_, hP, hD, hS, (lv_sub hl [] rfl), rfl⟩

set_option maxHeartbeats 4000000 in
set_option maxRecDepth 100000 in
/-- x_believed -/
theorem x_believed (l : Launch) (dC : Nat → ClassId) (dI : Nat → Nat → Nat) (sz : Nat) (h0 : Nat) (tp : Nat) (s_taped : Int32) (dr : Nat) (rr : Nat) (rl : Nat) (s_ruleCount : Int32) (s_inForce : Int32) (to : Nat) (df : Nat) (nw : Nat) (tr : Nat) (no : Nat) (pa : Nat) (im : Nat) (co : Nat) (se : Nat) (ga : Nat) (pt : Nat) (s_x : Int32) (to_deep : Int32) (to_dishes : Int32) (to_guests : Int32) (tolo : Nat) (tosa : Nat) (toea : Nat) (tocl : Nat) (ktocl : ClassId) (gtocl : Nat → Int32) (nw_minute : Int32) (nw_offered : Int32) (nw_table : Int32) (nw_sitting : Int32) (nw_gullet : Int32) (nw_knows : Int64) (x0 : Int32) : Met l yX11_believed (.code yX11_believed cX11_believed 6 (some .int) :: wsA) ({ frames := 2, cells := 0, slots := 0, locals := 44 }) (va_Pc [.ref h0, .int x0] (fun U => U.heap.size = sz ∧ va_P (dC, dI) classes [(h0, .inr (11, [.ref tp, .int s_taped, .ref dr, .ref rr, .ref rl, .int s_ruleCount, .int s_inForce, .ref to, .ref df, .ref nw, .ref tr, .ref no, .ref pa, .ref im, .ref co, .ref se, .ref ga, .ref pt, .int s_x])), (to, .inr (1, [.int to_deep, .int to_dishes, .int to_guests, .ref tolo, .ref tosa, .ref toea, .ref tocl])), (tocl, .inl (ktocl, 8, .inl gtocl)), (nw, .inr (3, [.int nw_minute, .int nw_offered, .int nw_table, .int nw_sitting, .int nw_gullet, .long nw_knows]))] U.heap ∧ va_K (dC, dI) classes [(ktocl, .int)] U ∧ va_D (fun _ => True) [(h0, .inr (11, [.ref tp, .int s_taped, .ref dr, .ref rr, .ref rl, .int s_ruleCount, .int s_inForce, .ref to, .ref df, .ref nw, .ref tr, .ref no, .ref pa, .ref im, .ref co, .ref se, .ref ga, .ref pt, .int s_x])), (to, .inr (1, [.int to_deep, .int to_dishes, .int to_guests, .ref tolo, .ref tosa, .ref toea, .ref tocl])), (tocl, .inl (ktocl, 8, .inl gtocl)), (nw, .inr (3, [.int nw_minute, .int nw_offered, .int nw_table, .int nw_sitting, .int nw_gullet, .long nw_knows]))] ∧ xE U)) (va_Qi (fun (r : Int32) (_ : Unit) => True) (fun _ t => va_P (dC, dI) classes [(h0, .inr (11, [.ref tp, .int s_taped, .ref dr, .ref rr, .ref rl, .int s_ruleCount, .int s_inForce, .ref to, .ref df, .ref nw, .ref tr, .ref no, .ref pa, .ref im, .ref co, .ref se, .ref ga, .ref pt, .int s_x])), (to, .inr (1, [.int to_deep, .int to_dishes, .int to_guests, .ref tolo, .ref tosa, .ref toea, .ref tocl])), (tocl, .inl (ktocl, 8, .inl gtocl)), (nw, .inr (3, [.int nw_minute, .int nw_offered, .int nw_table, .int nw_sitting, .int nw_gullet, .long nw_knows]))] t.heap ∧ va_K (dC, dI) classes [(ktocl, .int)] t ∧ va_D (va_A [(h0, .inr (11, [.ref tp, .int s_taped, .ref dr, .ref rr, .ref rl, .int s_ruleCount, .int s_inForce, .ref to, .ref df, .ref nw, .ref tr, .ref no, .ref pa, .ref im, .ref co, .ref se, .ref ga, .ref pt, .int s_x])), (to, .inr (1, [.int to_deep, .int to_dishes, .int to_guests, .ref tolo, .ref tosa, .ref toea, .ref tocl])), (tocl, .inl (ktocl, 8, .inl gtocl)), (nw, .inr (3, [.int nw_minute, .int nw_offered, .int nw_table, .int nw_sitting, .int nw_gullet, .long nw_knows]))] sz) [(h0, .inr (11, [.ref tp, .int s_taped, .ref dr, .ref rr, .ref rl, .int s_ruleCount, .int s_inForce, .ref to, .ref df, .ref nw, .ref tr, .ref no, .ref pa, .ref im, .ref co, .ref se, .ref ga, .ref pt, .int s_x])), (to, .inr (1, [.int to_deep, .int to_dishes, .int to_guests, .ref tolo, .ref tosa, .ref toea, .ref tocl])), (tocl, .inl (ktocl, 8, .inl gtocl)), (nw, .inr (3, [.int nw_minute, .int nw_offered, .int nw_table, .int nw_sitting, .int nw_gullet, .long nw_knows]))]) (va_A [(h0, .inr (11, [.ref tp, .int s_taped, .ref dr, .ref rr, .ref rl, .int s_ruleCount, .int s_inForce, .ref to, .ref df, .ref nw, .ref tr, .ref no, .ref pa, .ref im, .ref co, .ref se, .ref ga, .ref pt, .int s_x])), (to, .inr (1, [.int to_deep, .int to_dishes, .int to_guests, .ref tolo, .ref tosa, .ref toea, .ref tocl])), (tocl, .inl (ktocl, 8, .inl gtocl)), (nw, .inr (3, [.int nw_minute, .int nw_offered, .int nw_table, .int nw_sitting, .int nw_gullet, .long nw_knows]))] sz)) 0 0 (va_A [(h0, .inr (11, [.ref tp, .int s_taped, .ref dr, .ref rr, .ref rl, .int s_ruleCount, .int s_inForce, .ref to, .ref df, .ref nw, .ref tr, .ref no, .ref pa, .ref im, .ref co, .ref se, .ref ga, .ref pt, .int s_x])), (to, .inr (1, [.int to_deep, .int to_dishes, .int to_guests, .ref tolo, .ref tosa, .ref toea, .ref tocl])), (tocl, .inl (ktocl, 8, .inl gtocl)), (nw, .inr (3, [.int nw_minute, .int nw_offered, .int nw_table, .int nw_sitting, .int nw_gullet, .long nw_knows]))] sz) := by
  refine Met.ofW (cc := cX11_believed) (maxL := 6) (ret := (some .int)) (by decide) rfl ?_
  intro p e s m args below meth c s₁ B hml hv
  obtain ⟨rfl, hsz, hP, hK, hD0, hE⟩ := hv
  have hx := B.exec
  have hb := B.bytes
  have hr := B.returns
  have hts := atoms_spec (ws := .code yX11_believed cX11_believed 6 (some .int) :: wsA) B.pre
  have hq : ∀ w ∈ wsA, w.before _ s = true := fun w h => hts w (List.mem_cons_of_mem _ h)
  have hown : s.vm.findClass RX11 = some m.cls := findClass_of_methodNamed B.named
  have hlocks := B.notSynchronized
  subst hsz
  have hD := hD0.self (sz := s.heap.size)
  generalize hAe : va_A [(h0, .inr (11, [.ref tp, .int s_taped, .ref dr, .ref rr, .ref rl, .int s_ruleCount, .int s_inForce, .ref to, .ref df, .ref nw, .ref tr, .ref no, .ref pa, .ref im, .ref co, .ref se, .ref ga, .ref pt, .int s_x])), (to, .inr (1, [.int to_deep, .int to_dishes, .int to_guests, .ref tolo, .ref tosa, .ref toea, .ref tocl])), (tocl, .inl (ktocl, 8, .inl gtocl)), (nw, .inr (3, [.int nw_minute, .int nw_offered, .int nw_table, .int nw_sitting, .int nw_gullet, .long nw_knows]))] s.heap.size = A at hD ⊢
  have hA : ∀ q : Nat, s.heap.size ≤ q → A q := fun q h => by rw [← hAe]; exact Or.inr h
  have hS : va_S A s.heap s.heap [] := va_S.rf
  have hl := lv_entry ([.ref h0, .int x0]) (n := 6) (Nat.le_of_ble_eq_true rfl)
  rw [lg_entry_eq]
  generalize (lg_sl ([.ref h0, .int x0]) ++ List.replicate (6 - (lg_sl ([.ref h0, .int x0])).length) Slot.unset).toArray = ls at hl ⊢
  have hl : lv_has ls 6 [(0, .ref h0), (1, .int x0)] := hl
  refine lv_aload_n hx hb dX11_believed_0 rfl (lv_at hl 0 rfl) ?_
  have hPc := hP.sub (ws' := [(h0, .inr (11, [.ref tp, .int s_taped, .ref dr, .ref rr, .ref rl, .int s_ruleCount, .int s_inForce, .ref to, .ref df, .ref nw, .ref tr, .ref no, .ref pa, .ref im, .ref co, .ref se, .ref ga, .ref pt, .int s_x])), (to, .inr (1, [.int to_deep, .int to_dishes, .int to_guests, .ref tolo, .ref tosa, .ref toea, .ref tocl]))]) [0, 1] rfl
  have hDc := hD.sub (ws' := [(h0, .inr (11, [.ref tp, .int s_taped, .ref dr, .ref rr, .ref rl, .int s_ruleCount, .int s_inForce, .ref to, .ref df, .ref nw, .ref tr, .ref no, .ref pa, .ref im, .ref co, .ref se, .ref ga, .ref pt, .int s_x])), (to, .inr (1, [.int to_deep, .int to_dishes, .int to_guests, .ref tolo, .ref tosa, .ref toea, .ref tocl]))]) [0, 1] (by decide) rfl
  have hKc := hK.sub (tys' := []) [] rfl
  have hFc := va_free (wc := [(h0, .inr (11, [.ref tp, .int s_taped, .ref dr, .ref rr, .ref rl, .int s_ruleCount, .int s_inForce, .ref to, .ref df, .ref nw, .ref tr, .ref no, .ref pa, .ref im, .ref co, .ref se, .ref ga, .ref pt, .int s_x])), (to, .inr (1, [.int to_deep, .int to_dishes, .int to_guests, .ref tolo, .ref tosa, .ref toea, .ref tocl]))]) hD hS hA [0, 1] rfl
  refine va_calli (va_runV (As := []) (rest := []) ⟨hx, hb, hml, hown, hq⟩ (x_untold l dC dI _ h0 tp s_taped dr rr rl s_ruleCount s_inForce to df nw tr no pa im co se ga pt s_x to_deep to_dishes to_guests tolo tosa toea tocl ) (cwV 0 hq (gV qw_778 qw_780 qw_14 qw_119 qw_781) rfl rfl rfl (by decide +kernel) ⟨Nat.le_of_ble_eq_true rfl, Nat.le_of_ble_eq_true rfl⟩) ⟨fun a U g mk q => by obtain ⟨q0, q1, qP, qK, qD, qE⟩ := q; exact ⟨q0, q1, qP, va_K.moved (u := U) (U := U.calling g mk a) (Vm.Alike.refl U.vm) qK, qD, xE.same rfl qE⟩, va_recv hKc hPc (ci := 11) (q0 := 0) rfl rfl, fun U hU hW => ⟨rfl, by rw [hU], by rw [hU]; exact hPc, va_K.moved hW.alike hKc, hDc.weaken (fun _ _ _ _ => trivial), xE.warm hW hE⟩⟩ rfl rfl hl.1 rfl (lv_room (Nat.le_of_ble_eq_true rfl)) dX11_believed_1 ⟨Nat.le_of_ble_eq_true rfl, Nat.le_of_ble_eq_true rfl⟩) hS (fun q _ h => hFc q h) hFc (fun r_111 u t H1 locs ht hvm hw hB hz1 hk1 hS => ?_)
  obtain ⟨hP1, hK1, hD1⟩ := hB
  rw [ht] at hP1
  obtain ⟨hP, hD⟩ := va_join (wr := [(tocl, .inl (ktocl, 8, .inl gtocl)), (nw, .inr (3, [.int nw_minute, .int nw_offered, .int nw_table, .int nw_sitting, .int nw_gullet, .long nw_knows]))]) (w1 := [(h0, .inr (11, [.ref tp, .int s_taped, .ref dr, .ref rr, .ref rl, .int s_ruleCount, .int s_inForce, .ref to, .ref df, .ref nw, .ref tr, .ref no, .ref pa, .ref im, .ref co, .ref se, .ref ga, .ref pt, .int s_x])), (to, .inr (1, [.int to_deep, .int to_dishes, .int to_guests, .ref tolo, .ref tosa, .ref toea, .ref tocl]))]) hP hD [0, 1] [2, 3] rfl rfl (by decide) (by decide) hk1 hFc hP1 hD1
  generalize H1 = H at hP hS ⊢
  have hP : va_P (dC, dI) classes [(tocl, .inl (ktocl, 8, .inl gtocl)), (nw, .inr (3, [.int nw_minute, .int nw_offered, .int nw_table, .int nw_sitting, .int nw_gullet, .long nw_knows])), (h0, .inr (11, [.ref tp, .int s_taped, .ref dr, .ref rr, .ref rl, .int s_ruleCount, .int s_inForce, .ref to, .ref df, .ref nw, .ref tr, .ref no, .ref pa, .ref im, .ref co, .ref se, .ref ga, .ref pt, .int s_x])), (to, .inr (1, [.int to_deep, .int to_dishes, .int to_guests, .ref tolo, .ref tosa, .ref toea, .ref tocl]))] H := hP
  have hD : va_D A [(tocl, .inl (ktocl, 8, .inl gtocl)), (nw, .inr (3, [.int nw_minute, .int nw_offered, .int nw_table, .int nw_sitting, .int nw_gullet, .long nw_knows])), (h0, .inr (11, [.ref tp, .int s_taped, .ref dr, .ref rr, .ref rl, .int s_ruleCount, .int s_inForce, .ref to, .ref df, .ref nw, .ref tr, .ref no, .ref pa, .ref im, .ref co, .ref se, .ref ga, .ref pt, .int s_x])), (to, .inr (1, [.int to_deep, .int to_dishes, .int to_guests, .ref tolo, .ref tosa, .ref toea, .ref tocl]))] := hD
  refine W.cut (I := fun H locs g => ∃ (ls : Array Slot), va_P (dC, dI) classes [(tocl, .inl (ktocl, 8, .inl gtocl)), (nw, .inr (3, [.int nw_minute, .int nw_offered, .int nw_table, .int nw_sitting, .int nw_gullet, .long nw_knows])), (h0, .inr (11, [.ref tp, .int s_taped, .ref dr, .ref rr, .ref rl, .int s_ruleCount, .int s_inForce, .ref to, .ref df, .ref nw, .ref tr, .ref no, .ref pa, .ref im, .ref co, .ref se, .ref ga, .ref pt, .int s_x])), (to, .inr (1, [.int to_deep, .int to_dishes, .int to_guests, .ref tolo, .ref tosa, .ref toea, .ref tocl]))] H ∧ va_D A [(tocl, .inl (ktocl, 8, .inl gtocl)), (nw, .inr (3, [.int nw_minute, .int nw_offered, .int nw_table, .int nw_sitting, .int nw_gullet, .long nw_knows])), (h0, .inr (11, [.ref tp, .int s_taped, .ref dr, .ref rr, .ref rl, .int s_ruleCount, .int s_inForce, .ref to, .ref df, .ref nw, .ref tr, .ref no, .ref pa, .ref im, .ref co, .ref se, .ref ga, .ref pt, .int s_x])), (to, .inr (1, [.int to_deep, .int to_dishes, .int to_guests, .ref tolo, .ref tosa, .ref toea, .ref tocl]))] ∧ va_S A s.heap H locs ∧ lv_has ls 6 [] ∧ g = F0 m 16 ls []) (fun H locs g h => ?_) (fun hJ16 => ?_)
  · obtain ⟨ls, hP, hD, hS, hl, rfl⟩ := h
    refine lv_iconst (v := (-1)) hx hb dX11_believed_16 (by decide) ?_
    refine W.widen (k := 0) (n := 0) (Nat.le_of_ble_eq_true rfl) (Nat.le_of_ble_eq_true rfl) ?_
    exact W.iret (v := (-1)) hx hb hr (fun t ht hW => ⟨⟨(-1), (), rfl, trivial, by rw [ht]; exact (hP.sub (ws' := [(h0, .inr (11, [.ref tp, .int s_taped, .ref dr, .ref rr, .ref rl, .int s_ruleCount, .int s_inForce, .ref to, .ref df, .ref nw, .ref tr, .ref no, .ref pa, .ref im, .ref co, .ref se, .ref ga, .ref pt, .int s_x])), (to, .inr (1, [.int to_deep, .int to_dishes, .int to_guests, .ref tolo, .ref tosa, .ref toea, .ref tocl])), (tocl, .inl (ktocl, 8, .inl gtocl)), (nw, .inr (3, [.int nw_minute, .int nw_offered, .int nw_table, .int nw_sitting, .int nw_gullet, .long nw_knows]))]) [2, 3, 0, 1] rfl), va_K.moved hW.alike hK, (hD.sub (ws' := [(h0, .inr (11, [.ref tp, .int s_taped, .ref dr, .ref rr, .ref rl, .int s_ruleCount, .int s_inForce, .ref to, .ref df, .ref nw, .ref tr, .ref no, .ref pa, .ref im, .ref co, .ref se, .ref ga, .ref pt, .int s_x])), (to, .inr (1, [.int to_deep, .int to_dishes, .int to_guests, .ref tolo, .ref tosa, .ref toea, .ref tocl])), (tocl, .inl (ktocl, 8, .inl gtocl)), (nw, .inr (3, [.int nw_minute, .int nw_offered, .int nw_table, .int nw_sitting, .int nw_gullet, .long nw_knows]))]) [2, 3, 0, 1] (by decide) rfl)⟩, hS.F ht⟩) hS.2.2 dX11_believed_17
  refine lv_if_ne (tgt := 16) hx hb dX11_believed_4 (by decide) (fun c_221 => ?_) (fun c_221 => ?_)
  · exact hJ16 _ _ _ ⟨_, hP, hD, hS, (lv_sub hl [] rfl), rfl⟩
  · refine lv_iload_n hx hb dX11_believed_7 rfl (lv_at hl 1 rfl) ?_
    refine lv_iconst (v := 0) hx hb dX11_believed_8 (by decide) ?_
    refine lv_iconst (v := 1) hx hb dX11_believed_9 (by decide) ?_
    have hPc := hP.sub (ws' := []) [] rfl
    have hDc := hD.sub (ws' := []) [] (by decide) rfl
    have hKc := hK.sub (tys' := []) [] rfl
    have hFc := va_free (wc := []) hD hS hA [] rfl
    refine va_calli (va_runS (As := [.int x0, .int 0, .int 1]) (rest := []) ⟨hx, hb, hml, hown, hq⟩ (x_within l dC dI _ x0 0 1 ) (cwS 3 hq (gS qw_743 qw_744 qw_119 qw_745) rfl rfl rfl (by decide +kernel) ⟨Nat.le_of_ble_eq_true rfl, Nat.le_of_ble_eq_true rfl⟩) ⟨fun a U g mk q => by obtain ⟨q0, q1, qP, qK, qD, qE⟩ := q; exact ⟨q0, q1, qP, va_K.moved (u := U) (U := U.calling g mk a) (Vm.Alike.refl U.vm) qK, qD, xE.same rfl qE⟩, fun U hU hW => ⟨rfl, by rw [hU], by rw [hU]; exact hPc, va_K.moved hW.alike hKc, hDc.weaken (fun _ _ _ _ => trivial), xE.warm hW hE⟩⟩ rfl rfl hl.1 rfl (lv_room (Nat.le_of_ble_eq_true rfl)) dX11_believed_10 ⟨Nat.le_of_ble_eq_true rfl, Nat.le_of_ble_eq_true rfl⟩) hS (fun q _ h => hFc q h) hFc (fun r_222 u t H1 locs ht hvm hw hB hz1 hk1 hS => ?_)
    obtain ⟨hP1, hK1, hD1⟩ := hB
    rw [ht] at hP1
    obtain ⟨hP, hD⟩ := va_join (wr := [(tocl, .inl (ktocl, 8, .inl gtocl)), (nw, .inr (3, [.int nw_minute, .int nw_offered, .int nw_table, .int nw_sitting, .int nw_gullet, .long nw_knows])), (h0, .inr (11, [.ref tp, .int s_taped, .ref dr, .ref rr, .ref rl, .int s_ruleCount, .int s_inForce, .ref to, .ref df, .ref nw, .ref tr, .ref no, .ref pa, .ref im, .ref co, .ref se, .ref ga, .ref pt, .int s_x])), (to, .inr (1, [.int to_deep, .int to_dishes, .int to_guests, .ref tolo, .ref tosa, .ref toea, .ref tocl]))]) (w1 := []) hP hD [] [0, 1, 2, 3] rfl rfl (by decide) (by decide) hk1 hFc hP1 hD1
    generalize H1 = H at hP hS ⊢
    have hP : va_P (dC, dI) classes [(tocl, .inl (ktocl, 8, .inl gtocl)), (nw, .inr (3, [.int nw_minute, .int nw_offered, .int nw_table, .int nw_sitting, .int nw_gullet, .long nw_knows])), (h0, .inr (11, [.ref tp, .int s_taped, .ref dr, .ref rr, .ref rl, .int s_ruleCount, .int s_inForce, .ref to, .ref df, .ref nw, .ref tr, .ref no, .ref pa, .ref im, .ref co, .ref se, .ref ga, .ref pt, .int s_x])), (to, .inr (1, [.int to_deep, .int to_dishes, .int to_guests, .ref tolo, .ref tosa, .ref toea, .ref tocl]))] H := hP
    have hD : va_D A [(tocl, .inl (ktocl, 8, .inl gtocl)), (nw, .inr (3, [.int nw_minute, .int nw_offered, .int nw_table, .int nw_sitting, .int nw_gullet, .long nw_knows])), (h0, .inr (11, [.ref tp, .int s_taped, .ref dr, .ref rr, .ref rl, .int s_ruleCount, .int s_inForce, .ref to, .ref df, .ref nw, .ref tr, .ref no, .ref pa, .ref im, .ref co, .ref se, .ref ga, .ref pt, .int s_x])), (to, .inr (1, [.int to_deep, .int to_dishes, .int to_guests, .ref tolo, .ref tosa, .ref toea, .ref tocl]))] := hD
    refine lv_if_ne (tgt := 18) hx hb dX11_believed_13 (by decide) (fun c_223 => ?_) (fun c_223 => ?_)
    · refine lv_aload_n hx hb dX11_believed_18 rfl (lv_at hl 0 rfl) ?_
      refine va_get (D := (dC, dI)) (ci := 11) (v := .ref nw) (C := RX11) (T := TX11) (N := 19) hx hb hq inX11 hown hK hP 2 rfl rfl 9 (by decide) (hq _ qw_458) (fun _ h9 => h9) rfl dX11_believed_19 ?_
      refine lv_iconst (v := (-1)) hx hb dX11_believed_22 (by decide) ?_
      have hPc := hP.sub (ws' := [(nw, .inr (3, [.int nw_minute, .int nw_offered, .int nw_table, .int nw_sitting, .int nw_gullet, .long nw_knows]))]) [1] rfl
      have hDc := hD.sub (ws' := [(nw, .inr (3, [.int nw_minute, .int nw_offered, .int nw_table, .int nw_sitting, .int nw_gullet, .long nw_knows]))]) [1] (by decide) rfl
      have hKc := hK.sub (tys' := []) [] rfl
      have hFc := va_free (wc := [(nw, .inr (3, [.int nw_minute, .int nw_offered, .int nw_table, .int nw_sitting, .int nw_gullet, .long nw_knows]))]) hD hS hA [1] rfl
      refine va_calli (va_runV (As := [.int (-1)]) (rest := []) ⟨hx, hb, hml, hown, hq⟩ (e_knownByAny l dC dI _ nw nw_minute nw_offered nw_table nw_sitting nw_gullet nw_knows (-1) ) (cwV 1 hq (gV qw_1032 qw_847 qw_848 qw_125 qw_849) rfl rfl rfl (by decide +kernel) ⟨Nat.le_of_ble_eq_true rfl, Nat.le_of_ble_eq_true rfl⟩) ⟨fun a U g mk q => by obtain ⟨q0, q1, qP, qK, qD, qE⟩ := q; exact ⟨q0, q1, qP, va_K.moved (u := U) (U := U.calling g mk a) (Vm.Alike.refl U.vm) qK, qD, xE.same rfl qE⟩, va_recv hKc hPc (ci := 3) (q0 := 0) rfl rfl, fun U hU hW => ⟨rfl, by rw [hU], by rw [hU]; exact hPc, va_K.moved hW.alike hKc, hDc.weaken (fun _ _ _ _ => trivial), xE.warm hW hE⟩⟩ rfl rfl hl.1 rfl (lv_room (Nat.le_of_ble_eq_true rfl)) dX11_believed_23 ⟨Nat.le_of_ble_eq_true rfl, Nat.le_of_ble_eq_true rfl⟩) hS (fun q _ h => hFc q h) hFc (fun r_224 u t H1 locs ht hvm hw hB hz1 hk1 hS => ?_)
      obtain ⟨hP1, hK1, hD1⟩ := hB
      rw [ht] at hP1
      obtain ⟨hP, hD⟩ := va_join (wr := [(tocl, .inl (ktocl, 8, .inl gtocl)), (h0, .inr (11, [.ref tp, .int s_taped, .ref dr, .ref rr, .ref rl, .int s_ruleCount, .int s_inForce, .ref to, .ref df, .ref nw, .ref tr, .ref no, .ref pa, .ref im, .ref co, .ref se, .ref ga, .ref pt, .int s_x])), (to, .inr (1, [.int to_deep, .int to_dishes, .int to_guests, .ref tolo, .ref tosa, .ref toea, .ref tocl]))]) (w1 := [(nw, .inr (3, [.int nw_minute, .int nw_offered, .int nw_table, .int nw_sitting, .int nw_gullet, .long nw_knows]))]) hP hD [1] [0, 2, 3] rfl rfl (by decide) (by decide) hk1 hFc hP1 hD1
      generalize H1 = H at hP hS ⊢
      have hP : va_P (dC, dI) classes [(tocl, .inl (ktocl, 8, .inl gtocl)), (h0, .inr (11, [.ref tp, .int s_taped, .ref dr, .ref rr, .ref rl, .int s_ruleCount, .int s_inForce, .ref to, .ref df, .ref nw, .ref tr, .ref no, .ref pa, .ref im, .ref co, .ref se, .ref ga, .ref pt, .int s_x])), (to, .inr (1, [.int to_deep, .int to_dishes, .int to_guests, .ref tolo, .ref tosa, .ref toea, .ref tocl])), (nw, .inr (3, [.int nw_minute, .int nw_offered, .int nw_table, .int nw_sitting, .int nw_gullet, .long nw_knows]))] H := hP
      have hD : va_D A [(tocl, .inl (ktocl, 8, .inl gtocl)), (h0, .inr (11, [.ref tp, .int s_taped, .ref dr, .ref rr, .ref rl, .int s_ruleCount, .int s_inForce, .ref to, .ref df, .ref nw, .ref tr, .ref no, .ref pa, .ref im, .ref co, .ref se, .ref ga, .ref pt, .int s_x])), (to, .inr (1, [.int to_deep, .int to_dishes, .int to_guests, .ref tolo, .ref tosa, .ref toea, .ref tocl])), (nw, .inr (3, [.int nw_minute, .int nw_offered, .int nw_table, .int nw_sitting, .int nw_gullet, .long nw_knows]))] := hD
      refine lv_istore_n (lv' := [(2, .int r_224), (0, .ref h0), (1, .int x0)]) hx hb dX11_believed_26 rfl hl (by decide) rfl (fun ls hl => ?_)
      refine lv_iconst (v := 0) hx hb dX11_believed_27 (by decide) ?_
      refine lv_istore_n (lv' := [(3, .int 0), (2, .int r_224), (0, .ref h0), (1, .int x0)]) hx hb dX11_believed_28 rfl hl (by decide) rfl (fun ls hl => ?_)
      refine lv_iconst (v := 0) hx hb dX11_believed_29 (by decide) ?_
      refine lv_istore (lv' := [(4, .int 0), (3, .int 0), (2, .int r_224), (0, .ref h0), (1, .int x0)]) hx hb dX11_believed_30 hl (by decide) rfl (fun ls hl => ?_)
      refine W.loop (I := fun n H locs g => ∃ (y_235 : Int32) (y_249 : Int32) (ls : Array Slot), bt 0 256 y_235 ∧ 256 - y_235.toInt < (n : Int) ∧ va_P (dC, dI) classes [(tocl, .inl (ktocl, 8, .inl gtocl)), (h0, .inr (11, [.ref tp, .int s_taped, .ref dr, .ref rr, .ref rl, .int s_ruleCount, .int s_inForce, .ref to, .ref df, .ref nw, .ref tr, .ref no, .ref pa, .ref im, .ref co, .ref se, .ref ga, .ref pt, .int s_x])), (to, .inr (1, [.int to_deep, .int to_dishes, .int to_guests, .ref tolo, .ref tosa, .ref toea, .ref tocl])), (nw, .inr (3, [.int nw_minute, .int nw_offered, .int nw_table, .int nw_sitting, .int nw_gullet, .long nw_knows]))] H ∧ va_D A [(tocl, .inl (ktocl, 8, .inl gtocl)), (h0, .inr (11, [.ref tp, .int s_taped, .ref dr, .ref rr, .ref rl, .int s_ruleCount, .int s_inForce, .ref to, .ref df, .ref nw, .ref tr, .ref no, .ref pa, .ref im, .ref co, .ref se, .ref ga, .ref pt, .int s_x])), (to, .inr (1, [.int to_deep, .int to_dishes, .int to_guests, .ref tolo, .ref tosa, .ref toea, .ref tocl])), (nw, .inr (3, [.int nw_minute, .int nw_offered, .int nw_table, .int nw_sitting, .int nw_gullet, .long nw_knows]))] ∧ va_S A s.heap H locs ∧ lv_has ls 6 [(4, .int y_235), (3, .int y_249), (2, .int r_224), (0, .ref h0), (1, .int x0)] ∧ g = F0 m 32 ls []) (fun H locs g h => ?_) (fun n ih32 H locs g h => ?_) (n := 257) ⟨0, 0, _, (bt_w (bt_k (x := 0) (c := 0) (by decide)) (by decide)), (ms_0 (bt_k (x := 0) (c := 0) (by decide)) (by decide)), hP, hD, hS, hl, rfl⟩
      · obtain ⟨y_235, y_249, ls, bd_v_4, hm, hP, hD, hS, hl, rfl⟩ := h
        exact ms_z bd_v_4 hm
      · obtain ⟨y_235, y_249, ls, bd_v_4, hm32, hP, hD, hS, hl, rfl⟩ := h
        refine lv_iload hx hb dX11_believed_32 (lv_at hl 0 rfl) ?_
        refine lv_sipush (v := 256) hx hb dX11_believed_34 (by decide) ?_
        refine lv_icmp_ge (tgt := 94) hx hb dX11_believed_37 (by decide) (fun c_315 => ?_) (fun c_315 => ?_)
        · refine lv_iload_n hx hb dX11_believed_94 rfl (lv_at hl 4 rfl) ?_
          refine lv_if_ne (tgt := 102) hx hb dX11_believed_95 (by decide) (fun c_316 => ?_) (fun c_316 => ?_)
          · refine lv_iload_n hx hb dX11_believed_102 rfl (lv_at hl 1 rfl) ?_
            have hPc := hP.sub (ws' := []) [] rfl
            have hDc := hD.sub (ws' := []) [] (by decide) rfl
            have hKc := hK.sub (tys' := []) [] rfl
            have hFc := va_free (wc := []) hD hS hA [] rfl
            refine va_calli (va_runS (As := [.int y_249]) (rest := []) ⟨hx, hb, hml, hown, hq⟩ (j_bits l dC dI _ y_249 ) (va_cwS 1 hq (gT qw_1033 qw_837 qw_137 qw_838) rfl rfl rfl (by decide +kernel) ⟨Nat.le_of_ble_eq_true rfl, Nat.le_of_ble_eq_true rfl⟩) ⟨fun a U g mk q => by obtain ⟨q0, q1, qP, qK, qD, qE⟩ := q; exact ⟨q0, q1, qP, va_K.moved (u := U) (U := U.calling g mk a) (Vm.Alike.refl U.vm) qK, qD, xE.same rfl qE⟩, fun U hU hW => ⟨rfl, by rw [hU], by rw [hU]; exact hPc, va_K.moved hW.alike hKc, hDc.weaken (fun _ _ _ _ => trivial), xE.warm hW hE⟩⟩ rfl rfl hl.1 rfl (lv_room (Nat.le_of_ble_eq_true rfl)) dX11_believed_103 ⟨Nat.le_of_ble_eq_true rfl, Nat.le_of_ble_eq_true rfl⟩) hS (fun q _ h => hFc q h) hFc (fun r_317 u t H1 locs ht hvm hw hB hz1 hk1 hS => ?_)
            obtain ⟨hP1, hK1, hD1⟩ := hB
            rw [ht] at hP1
            obtain ⟨hP, hD⟩ := va_join (wr := [(tocl, .inl (ktocl, 8, .inl gtocl)), (h0, .inr (11, [.ref tp, .int s_taped, .ref dr, .ref rr, .ref rl, .int s_ruleCount, .int s_inForce, .ref to, .ref df, .ref nw, .ref tr, .ref no, .ref pa, .ref im, .ref co, .ref se, .ref ga, .ref pt, .int s_x])), (to, .inr (1, [.int to_deep, .int to_dishes, .int to_guests, .ref tolo, .ref tosa, .ref toea, .ref tocl])), (nw, .inr (3, [.int nw_minute, .int nw_offered, .int nw_table, .int nw_sitting, .int nw_gullet, .long nw_knows]))]) (w1 := []) hP hD [] [0, 1, 2, 3] rfl rfl (by decide) (by decide) hk1 hFc hP1 hD1
            generalize H1 = H at hP hS ⊢
            have hP : va_P (dC, dI) classes [(tocl, .inl (ktocl, 8, .inl gtocl)), (h0, .inr (11, [.ref tp, .int s_taped, .ref dr, .ref rr, .ref rl, .int s_ruleCount, .int s_inForce, .ref to, .ref df, .ref nw, .ref tr, .ref no, .ref pa, .ref im, .ref co, .ref se, .ref ga, .ref pt, .int s_x])), (to, .inr (1, [.int to_deep, .int to_dishes, .int to_guests, .ref tolo, .ref tosa, .ref toea, .ref tocl])), (nw, .inr (3, [.int nw_minute, .int nw_offered, .int nw_table, .int nw_sitting, .int nw_gullet, .long nw_knows]))] H := hP
            have hD : va_D A [(tocl, .inl (ktocl, 8, .inl gtocl)), (h0, .inr (11, [.ref tp, .int s_taped, .ref dr, .ref rr, .ref rl, .int s_ruleCount, .int s_inForce, .ref to, .ref df, .ref nw, .ref tr, .ref no, .ref pa, .ref im, .ref co, .ref se, .ref ga, .ref pt, .int s_x])), (to, .inr (1, [.int to_deep, .int to_dishes, .int to_guests, .ref tolo, .ref tosa, .ref toea, .ref tocl])), (nw, .inr (3, [.int nw_minute, .int nw_offered, .int nw_table, .int nw_sitting, .int nw_gullet, .long nw_knows]))] := hD
            refine W.widen (k := 0) (n := 0) (Nat.le_of_ble_eq_true rfl) (Nat.le_of_ble_eq_true rfl) ?_
            exact W.iret (v := r_317) hx hb hr (fun t ht hW => ⟨⟨r_317, (), rfl, trivial, by rw [ht]; exact (hP.sub (ws' := [(h0, .inr (11, [.ref tp, .int s_taped, .ref dr, .ref rr, .ref rl, .int s_ruleCount, .int s_inForce, .ref to, .ref df, .ref nw, .ref tr, .ref no, .ref pa, .ref im, .ref co, .ref se, .ref ga, .ref pt, .int s_x])), (to, .inr (1, [.int to_deep, .int to_dishes, .int to_guests, .ref tolo, .ref tosa, .ref toea, .ref tocl])), (tocl, .inl (ktocl, 8, .inl gtocl)), (nw, .inr (3, [.int nw_minute, .int nw_offered, .int nw_table, .int nw_sitting, .int nw_gullet, .long nw_knows]))]) [1, 2, 0, 3] rfl), va_K.moved hW.alike hK, (hD.sub (ws' := [(h0, .inr (11, [.ref tp, .int s_taped, .ref dr, .ref rr, .ref rl, .int s_ruleCount, .int s_inForce, .ref to, .ref df, .ref nw, .ref tr, .ref no, .ref pa, .ref im, .ref co, .ref se, .ref ga, .ref pt, .int s_x])), (to, .inr (1, [.int to_deep, .int to_dishes, .int to_guests, .ref tolo, .ref tosa, .ref toea, .ref tocl])), (tocl, .inl (ktocl, 8, .inl gtocl)), (nw, .inr (3, [.int nw_minute, .int nw_offered, .int nw_table, .int nw_sitting, .int nw_gullet, .long nw_knows]))]) [1, 2, 0, 3] (by decide) rfl)⟩, hS.F ht⟩) hS.2.2 dX11_believed_106
          · refine lv_iload_n hx hb dX11_believed_98 rfl (lv_at hl 1 rfl) ?_
            refine lv_goto (tgt := 106) hx hb dX11_believed_99 (by decide) ?_
            refine W.widen (k := 0) (n := 0) (Nat.le_of_ble_eq_true rfl) (Nat.le_of_ble_eq_true rfl) ?_
            exact W.iret (v := y_249) hx hb hr (fun t ht hW => ⟨⟨y_249, (), rfl, trivial, by rw [ht]; exact (hP.sub (ws' := [(h0, .inr (11, [.ref tp, .int s_taped, .ref dr, .ref rr, .ref rl, .int s_ruleCount, .int s_inForce, .ref to, .ref df, .ref nw, .ref tr, .ref no, .ref pa, .ref im, .ref co, .ref se, .ref ga, .ref pt, .int s_x])), (to, .inr (1, [.int to_deep, .int to_dishes, .int to_guests, .ref tolo, .ref tosa, .ref toea, .ref tocl])), (tocl, .inl (ktocl, 8, .inl gtocl)), (nw, .inr (3, [.int nw_minute, .int nw_offered, .int nw_table, .int nw_sitting, .int nw_gullet, .long nw_knows]))]) [1, 2, 0, 3] rfl), va_K.moved hW.alike hK, (hD.sub (ws' := [(h0, .inr (11, [.ref tp, .int s_taped, .ref dr, .ref rr, .ref rl, .int s_ruleCount, .int s_inForce, .ref to, .ref df, .ref nw, .ref tr, .ref no, .ref pa, .ref im, .ref co, .ref se, .ref ga, .ref pt, .int s_x])), (to, .inr (1, [.int to_deep, .int to_dishes, .int to_guests, .ref tolo, .ref tosa, .ref toea, .ref tocl])), (tocl, .inl (ktocl, 8, .inl gtocl)), (nw, .inr (3, [.int nw_minute, .int nw_offered, .int nw_table, .int nw_sitting, .int nw_gullet, .long nw_knows]))]) [1, 2, 0, 3] (by decide) rfl)⟩, hS.F ht⟩) hS.2.2 dX11_believed_106
        · refine lv_iload hx hb dX11_believed_40 (lv_at hl 0 rfl) ?_
          have hPc := hP.sub (ws' := []) [] rfl
          have hDc := hD.sub (ws' := []) [] (by decide) rfl
          have hKc := hK.sub (tys' := []) [] rfl
          have hFc := va_free (wc := []) hD hS hA [] rfl
          refine va_calli (va_runS (As := [.int y_235]) (rest := []) ⟨hx, hb, hml, hown, hq⟩ (j_bits l dC dI _ y_235 ) (va_cwS 1 hq (gT qw_1033 qw_837 qw_137 qw_838) rfl rfl rfl (by decide +kernel) ⟨Nat.le_of_ble_eq_true rfl, Nat.le_of_ble_eq_true rfl⟩) ⟨fun a U g mk q => by obtain ⟨q0, q1, qP, qK, qD, qE⟩ := q; exact ⟨q0, q1, qP, va_K.moved (u := U) (U := U.calling g mk a) (Vm.Alike.refl U.vm) qK, qD, xE.same rfl qE⟩, fun U hU hW => ⟨rfl, by rw [hU], by rw [hU]; exact hPc, va_K.moved hW.alike hKc, hDc.weaken (fun _ _ _ _ => trivial), xE.warm hW hE⟩⟩ rfl rfl hl.1 rfl (lv_room (Nat.le_of_ble_eq_true rfl)) dX11_believed_42 ⟨Nat.le_of_ble_eq_true rfl, Nat.le_of_ble_eq_true rfl⟩) hS (fun q _ h => hFc q h) hFc (fun r_318 u t H1 locs ht hvm hw hB hz1 hk1 hS => ?_)
          obtain ⟨hP1, hK1, hD1⟩ := hB
          rw [ht] at hP1
          obtain ⟨hP, hD⟩ := va_join (wr := [(tocl, .inl (ktocl, 8, .inl gtocl)), (h0, .inr (11, [.ref tp, .int s_taped, .ref dr, .ref rr, .ref rl, .int s_ruleCount, .int s_inForce, .ref to, .ref df, .ref nw, .ref tr, .ref no, .ref pa, .ref im, .ref co, .ref se, .ref ga, .ref pt, .int s_x])), (to, .inr (1, [.int to_deep, .int to_dishes, .int to_guests, .ref tolo, .ref tosa, .ref toea, .ref tocl])), (nw, .inr (3, [.int nw_minute, .int nw_offered, .int nw_table, .int nw_sitting, .int nw_gullet, .long nw_knows]))]) (w1 := []) hP hD [] [0, 1, 2, 3] rfl rfl (by decide) (by decide) hk1 hFc hP1 hD1
          generalize H1 = H at hP hS ⊢
          have hP : va_P (dC, dI) classes [(tocl, .inl (ktocl, 8, .inl gtocl)), (h0, .inr (11, [.ref tp, .int s_taped, .ref dr, .ref rr, .ref rl, .int s_ruleCount, .int s_inForce, .ref to, .ref df, .ref nw, .ref tr, .ref no, .ref pa, .ref im, .ref co, .ref se, .ref ga, .ref pt, .int s_x])), (to, .inr (1, [.int to_deep, .int to_dishes, .int to_guests, .ref tolo, .ref tosa, .ref toea, .ref tocl])), (nw, .inr (3, [.int nw_minute, .int nw_offered, .int nw_table, .int nw_sitting, .int nw_gullet, .long nw_knows]))] H := hP
          have hD : va_D A [(tocl, .inl (ktocl, 8, .inl gtocl)), (h0, .inr (11, [.ref tp, .int s_taped, .ref dr, .ref rr, .ref rl, .int s_ruleCount, .int s_inForce, .ref to, .ref df, .ref nw, .ref tr, .ref no, .ref pa, .ref im, .ref co, .ref se, .ref ga, .ref pt, .int s_x])), (to, .inr (1, [.int to_deep, .int to_dishes, .int to_guests, .ref tolo, .ref tosa, .ref toea, .ref tocl])), (nw, .inr (3, [.int nw_minute, .int nw_offered, .int nw_table, .int nw_sitting, .int nw_gullet, .long nw_knows]))] := hD
          refine lv_iload_n hx hb dX11_believed_45 rfl (lv_at hl 1 rfl) ?_
          have hPc := hP.sub (ws' := []) [] rfl
          have hDc := hD.sub (ws' := []) [] (by decide) rfl
          have hKc := hK.sub (tys' := []) [] rfl
          have hFc := va_free (wc := []) hD hS hA [] rfl
          refine va_calli (va_runS (As := [.int y_249]) (rest := [.int r_318]) ⟨hx, hb, hml, hown, hq⟩ (j_bits l dC dI _ y_249 ) (va_cwS 1 hq (gT qw_1033 qw_837 qw_137 qw_838) rfl rfl rfl (by decide +kernel) ⟨Nat.le_of_ble_eq_true rfl, Nat.le_of_ble_eq_true rfl⟩) ⟨fun a U g mk q => by obtain ⟨q0, q1, qP, qK, qD, qE⟩ := q; exact ⟨q0, q1, qP, va_K.moved (u := U) (U := U.calling g mk a) (Vm.Alike.refl U.vm) qK, qD, xE.same rfl qE⟩, fun U hU hW => ⟨rfl, by rw [hU], by rw [hU]; exact hPc, va_K.moved hW.alike hKc, hDc.weaken (fun _ _ _ _ => trivial), xE.warm hW hE⟩⟩ rfl rfl hl.1 rfl (lv_room (Nat.le_of_ble_eq_true rfl)) dX11_believed_46 ⟨Nat.le_of_ble_eq_true rfl, Nat.le_of_ble_eq_true rfl⟩) hS (fun q _ h => hFc q h) hFc (fun r_319 u t H1 locs ht hvm hw hB hz1 hk1 hS => ?_)
          obtain ⟨hP1, hK1, hD1⟩ := hB
          rw [ht] at hP1
          obtain ⟨hP, hD⟩ := va_join (wr := [(tocl, .inl (ktocl, 8, .inl gtocl)), (h0, .inr (11, [.ref tp, .int s_taped, .ref dr, .ref rr, .ref rl, .int s_ruleCount, .int s_inForce, .ref to, .ref df, .ref nw, .ref tr, .ref no, .ref pa, .ref im, .ref co, .ref se, .ref ga, .ref pt, .int s_x])), (to, .inr (1, [.int to_deep, .int to_dishes, .int to_guests, .ref tolo, .ref tosa, .ref toea, .ref tocl])), (nw, .inr (3, [.int nw_minute, .int nw_offered, .int nw_table, .int nw_sitting, .int nw_gullet, .long nw_knows]))]) (w1 := []) hP hD [] [0, 1, 2, 3] rfl rfl (by decide) (by decide) hk1 hFc hP1 hD1
          generalize H1 = H at hP hS ⊢
          have hP : va_P (dC, dI) classes [(tocl, .inl (ktocl, 8, .inl gtocl)), (h0, .inr (11, [.ref tp, .int s_taped, .ref dr, .ref rr, .ref rl, .int s_ruleCount, .int s_inForce, .ref to, .ref df, .ref nw, .ref tr, .ref no, .ref pa, .ref im, .ref co, .ref se, .ref ga, .ref pt, .int s_x])), (to, .inr (1, [.int to_deep, .int to_dishes, .int to_guests, .ref tolo, .ref tosa, .ref toea, .ref tocl])), (nw, .inr (3, [.int nw_minute, .int nw_offered, .int nw_table, .int nw_sitting, .int nw_gullet, .long nw_knows]))] H := hP
          have hD : va_D A [(tocl, .inl (ktocl, 8, .inl gtocl)), (h0, .inr (11, [.ref tp, .int s_taped, .ref dr, .ref rr, .ref rl, .int s_ruleCount, .int s_inForce, .ref to, .ref df, .ref nw, .ref tr, .ref no, .ref pa, .ref im, .ref co, .ref se, .ref ga, .ref pt, .int s_x])), (to, .inr (1, [.int to_deep, .int to_dishes, .int to_guests, .ref tolo, .ref tosa, .ref toea, .ref tocl])), (nw, .inr (3, [.int nw_minute, .int nw_offered, .int nw_table, .int nw_sitting, .int nw_gullet, .long nw_knows]))] := hD
          refine W.cut (I := fun H locs g => ∃ (y_321 : Int32) (ls : Array Slot), va_P (dC, dI) classes [(tocl, .inl (ktocl, 8, .inl gtocl)), (h0, .inr (11, [.ref tp, .int s_taped, .ref dr, .ref rr, .ref rl, .int s_ruleCount, .int s_inForce, .ref to, .ref df, .ref nw, .ref tr, .ref no, .ref pa, .ref im, .ref co, .ref se, .ref ga, .ref pt, .int s_x])), (to, .inr (1, [.int to_deep, .int to_dishes, .int to_guests, .ref tolo, .ref tosa, .ref toea, .ref tocl])), (nw, .inr (3, [.int nw_minute, .int nw_offered, .int nw_table, .int nw_sitting, .int nw_gullet, .long nw_knows]))] H ∧ va_D A [(tocl, .inl (ktocl, 8, .inl gtocl)), (h0, .inr (11, [.ref tp, .int s_taped, .ref dr, .ref rr, .ref rl, .int s_ruleCount, .int s_inForce, .ref to, .ref df, .ref nw, .ref tr, .ref no, .ref pa, .ref im, .ref co, .ref se, .ref ga, .ref pt, .int s_x])), (to, .inr (1, [.int to_deep, .int to_dishes, .int to_guests, .ref tolo, .ref tosa, .ref toea, .ref tocl])), (nw, .inr (3, [.int nw_minute, .int nw_offered, .int nw_table, .int nw_sitting, .int nw_gullet, .long nw_knows]))] ∧ va_S A s.heap H locs ∧ lv_has ls 6 [(4, .int y_235), (3, .int y_249), (2, .int r_224), (0, .ref h0), (1, .int x0)] ∧ g = F0 m 57 ls [.int y_321]) (fun H locs g h => ?_) (fun hJ57 => ?_)
          · obtain ⟨y_321, ls, hP, hD, hS, hl, rfl⟩ := h
            refine lv_istore (lv' := [(5, .int y_321), (4, .int y_235), (3, .int y_249), (2, .int r_224), (0, .ref h0), (1, .int x0)]) hx hb dX11_believed_57 hl (by decide) rfl (fun ls hl => ?_)
            refine lv_iload hx hb dX11_believed_59 (lv_at hl 0 rfl) ?_
            refine W.cut (I := fun H locs g => ∃ (y_336 : Int32) (ls : Array Slot), va_P (dC, dI) classes [(tocl, .inl (ktocl, 8, .inl gtocl)), (h0, .inr (11, [.ref tp, .int s_taped, .ref dr, .ref rr, .ref rl, .int s_ruleCount, .int s_inForce, .ref to, .ref df, .ref nw, .ref tr, .ref no, .ref pa, .ref im, .ref co, .ref se, .ref ga, .ref pt, .int s_x])), (to, .inr (1, [.int to_deep, .int to_dishes, .int to_guests, .ref tolo, .ref tosa, .ref toea, .ref tocl])), (nw, .inr (3, [.int nw_minute, .int nw_offered, .int nw_table, .int nw_sitting, .int nw_gullet, .long nw_knows]))] H ∧ va_D A [(tocl, .inl (ktocl, 8, .inl gtocl)), (h0, .inr (11, [.ref tp, .int s_taped, .ref dr, .ref rr, .ref rl, .int s_ruleCount, .int s_inForce, .ref to, .ref df, .ref nw, .ref tr, .ref no, .ref pa, .ref im, .ref co, .ref se, .ref ga, .ref pt, .int s_x])), (to, .inr (1, [.int to_deep, .int to_dishes, .int to_guests, .ref tolo, .ref tosa, .ref toea, .ref tocl])), (nw, .inr (3, [.int nw_minute, .int nw_offered, .int nw_table, .int nw_sitting, .int nw_gullet, .long nw_knows]))] ∧ va_S A s.heap H locs ∧ lv_has ls 6 [(4, .int y_235), (3, .int y_336), (2, .int r_224), (0, .ref h0), (1, .int x0)] ∧ g = F0 m 88 ls []) (fun H locs g h => ?_) (fun hJ88 => ?_)
            · obtain ⟨y_336, ls, hP, hD, hS, hl, rfl⟩ := h
              obtain ⟨y_338, ey_338⟩ : ∃ y : Int32, y = y_235 + 1 := ⟨_, rfl⟩
              refine lv_iinc (v := y_338) (lv' := [(4, .int y_338), (3, .int y_336), (2, .int r_224), (0, .ref h0), (1, .int x0)]) hx hb dX11_believed_88 hl (k := 0) rfl (by rw [ey_338]; rfl) (by decide) rfl (fun ls hl => ?_)
              refine lv_goto (tgt := 32) hx hb dX11_believed_91 (by decide) ?_
              have b_339 : bt 0 255 y_235 := rf_lt_l bd_v_4 (bt_k (x := 256) (c := 256) (by decide)) (Int32.not_le.mp c_315) (by decide)
              have b_340 : bt 1 256 y_338 := bt_add ey_338 b_339 (bt_k (x := 1) (c := 1) (by decide)) (by decide)
              exact ih32 _ _ _ ⟨y_338, y_336, _, (bt_w b_340 (by decide)), (ms_s ey_338 b_339 hm32 (by decide)), hP, hD, hS, hl, rfl⟩
            refine lv_if_eq (tgt := 88) hx hb dX11_believed_61 (by decide) (fun c_341 => ?_) (fun c_341 => ?_)
            · exact hJ88 _ _ _ ⟨y_249, _, hP, hD, hS, (lv_sub hl [1, 2, 3, 4, 5] rfl), rfl⟩
            · refine lv_iload hx hb dX11_believed_64 (lv_at hl 1 rfl) ?_
              refine lv_iload_n hx hb dX11_believed_66 rfl (lv_at hl 3 rfl) ?_
              refine lv_iconst (v := (-1)) hx hb dX11_believed_67 (by decide) ?_
              refine lv_ixor hx hb dX11_believed_68 ?_
              refine lv_topi (fun y_342 ey_342 => ?_)
              refine lv_iand hx hb dX11_believed_69 ?_
              refine lv_topi (fun y_343 ey_343 => ?_)
              refine lv_if_ne (tgt := 88) hx hb dX11_believed_70 (by decide) (fun c_344 => ?_) (fun c_344 => ?_)
              · exact hJ88 _ _ _ ⟨y_249, _, hP, hD, hS, (lv_sub hl [1, 2, 3, 4, 5] rfl), rfl⟩
              · refine lv_aload_n hx hb dX11_believed_73 rfl (lv_at hl 4 rfl) ?_
                refine va_get (D := (dC, dI)) (ci := 11) (v := .ref to) (C := RX11) (T := TX11) (N := 19) hx hb hq inX11 hown hK hP 1 rfl rfl 7 (by decide) (hq _ qw_456) (fun _ h9 => h9) rfl dX11_believed_74 ?_
                refine lv_iload hx hb dX11_believed_77 (lv_at hl 1 rfl) ?_
                have hPc := hP.sub (ws' := [(to, .inr (1, [.int to_deep, .int to_dishes, .int to_guests, .ref tolo, .ref tosa, .ref toea, .ref tocl])), (tocl, .inl (ktocl, 8, .inl gtocl))]) [2, 0] rfl
                have hDc := hD.sub (ws' := [(to, .inr (1, [.int to_deep, .int to_dishes, .int to_guests, .ref tolo, .ref tosa, .ref toea, .ref tocl])), (tocl, .inl (ktocl, 8, .inl gtocl))]) [2, 0] (by decide) rfl
                have hKc := hK.sub (tys' := [(ktocl, .int)]) [0] rfl
                have hFc := va_free (wc := [(to, .inr (1, [.int to_deep, .int to_dishes, .int to_guests, .ref tolo, .ref tosa, .ref toea, .ref tocl])), (tocl, .inl (ktocl, 8, .inl gtocl))]) hD hS hA [2, 0] rfl
                refine va_calli (va_runV (As := [.int y_235]) (rest := []) ⟨hx, hb, hml, hown, hq⟩ (d_isTorn l dC dI _ to to_deep to_dishes to_guests tolo tosa toea tocl ktocl gtocl y_235 ) (cwV 1 hq (gV qw_1034 qw_883 qw_884 qw_124 qw_885) rfl rfl rfl (by decide +kernel) ⟨Nat.le_of_ble_eq_true rfl, Nat.le_of_ble_eq_true rfl⟩) ⟨fun a U g mk q => by obtain ⟨q0, q1, qP, qK, qD, qE⟩ := q; exact ⟨q0, q1, qP, va_K.moved (u := U) (U := U.calling g mk a) (Vm.Alike.refl U.vm) qK, qD, xE.same rfl qE⟩, va_recv hKc hPc (ci := 1) (q0 := 0) rfl rfl, fun U hU hW => ⟨rfl, by rw [hU], by rw [hU]; exact hPc, va_K.moved hW.alike hKc, hDc.weaken (fun _ _ _ _ => trivial), xE.warm hW hE⟩⟩ rfl rfl hl.1 rfl (lv_room (Nat.le_of_ble_eq_true rfl)) dX11_believed_79 ⟨Nat.le_of_ble_eq_true rfl, Nat.le_of_ble_eq_true rfl⟩) hS (fun q _ h => hFc q h) hFc (fun r_345 u t H1 locs ht hvm hw hB hz1 hk1 hS => ?_)
                obtain ⟨hP1, hK1, hD1⟩ := hB
                rw [ht] at hP1
                obtain ⟨hP, hD⟩ := va_join (wr := [(h0, .inr (11, [.ref tp, .int s_taped, .ref dr, .ref rr, .ref rl, .int s_ruleCount, .int s_inForce, .ref to, .ref df, .ref nw, .ref tr, .ref no, .ref pa, .ref im, .ref co, .ref se, .ref ga, .ref pt, .int s_x])), (nw, .inr (3, [.int nw_minute, .int nw_offered, .int nw_table, .int nw_sitting, .int nw_gullet, .long nw_knows]))]) (w1 := [(to, .inr (1, [.int to_deep, .int to_dishes, .int to_guests, .ref tolo, .ref tosa, .ref toea, .ref tocl])), (tocl, .inl (ktocl, 8, .inl gtocl))]) hP hD [2, 0] [1, 3] rfl rfl (by decide) (by decide) hk1 hFc hP1 hD1
                generalize H1 = H at hP hS ⊢
                have hP : va_P (dC, dI) classes [(h0, .inr (11, [.ref tp, .int s_taped, .ref dr, .ref rr, .ref rl, .int s_ruleCount, .int s_inForce, .ref to, .ref df, .ref nw, .ref tr, .ref no, .ref pa, .ref im, .ref co, .ref se, .ref ga, .ref pt, .int s_x])), (nw, .inr (3, [.int nw_minute, .int nw_offered, .int nw_table, .int nw_sitting, .int nw_gullet, .long nw_knows])), (to, .inr (1, [.int to_deep, .int to_dishes, .int to_guests, .ref tolo, .ref tosa, .ref toea, .ref tocl])), (tocl, .inl (ktocl, 8, .inl gtocl))] H := hP
                have hD : va_D A [(h0, .inr (11, [.ref tp, .int s_taped, .ref dr, .ref rr, .ref rl, .int s_ruleCount, .int s_inForce, .ref to, .ref df, .ref nw, .ref tr, .ref no, .ref pa, .ref im, .ref co, .ref se, .ref ga, .ref pt, .int s_x])), (nw, .inr (3, [.int nw_minute, .int nw_offered, .int nw_table, .int nw_sitting, .int nw_gullet, .long nw_knows])), (to, .inr (1, [.int to_deep, .int to_dishes, .int to_guests, .ref tolo, .ref tosa, .ref toea, .ref tocl])), (tocl, .inl (ktocl, 8, .inl gtocl))] := hD
                refine lv_if_ne (tgt := 88) hx hb dX11_believed_82 (by decide) (fun c_346 => ?_) (fun c_346 => ?_)
                · exact hJ88 _ _ _ ⟨y_249, _, (hP.sub (ws' := [(tocl, .inl (ktocl, 8, .inl gtocl)), (h0, .inr (11, [.ref tp, .int s_taped, .ref dr, .ref rr, .ref rl, .int s_ruleCount, .int s_inForce, .ref to, .ref df, .ref nw, .ref tr, .ref no, .ref pa, .ref im, .ref co, .ref se, .ref ga, .ref pt, .int s_x])), (to, .inr (1, [.int to_deep, .int to_dishes, .int to_guests, .ref tolo, .ref tosa, .ref toea, .ref tocl])), (nw, .inr (3, [.int nw_minute, .int nw_offered, .int nw_table, .int nw_sitting, .int nw_gullet, .long nw_knows]))]) [3, 0, 2, 1] rfl), (hD.sub (ws' := [(tocl, .inl (ktocl, 8, .inl gtocl)), (h0, .inr (11, [.ref tp, .int s_taped, .ref dr, .ref rr, .ref rl, .int s_ruleCount, .int s_inForce, .ref to, .ref df, .ref nw, .ref tr, .ref no, .ref pa, .ref im, .ref co, .ref se, .ref ga, .ref pt, .int s_x])), (to, .inr (1, [.int to_deep, .int to_dishes, .int to_guests, .ref tolo, .ref tosa, .ref toea, .ref tocl])), (nw, .inr (3, [.int nw_minute, .int nw_offered, .int nw_table, .int nw_sitting, .int nw_gullet, .long nw_knows]))]) [3, 0, 2, 1] (by decide) rfl), hS, (lv_sub hl [1, 2, 3, 4, 5] rfl), rfl⟩
                · refine lv_iload hx hb dX11_believed_85 (lv_at hl 1 rfl) ?_
                  refine lv_istore_n (lv' := [(3, .int y_235), (5, .int y_321), (4, .int y_235), (2, .int r_224), (0, .ref h0), (1, .int x0)]) hx hb dX11_believed_87 rfl hl (by decide) rfl (fun ls hl => ?_)
                  exact hJ88 _ _ _ ⟨y_235, _, (hP.sub (ws' := [(tocl, .inl (ktocl, 8, .inl gtocl)), (h0, .inr (11, [.ref tp, .int s_taped, .ref dr, .ref rr, .ref rl, .int s_ruleCount, .int s_inForce, .ref to, .ref df, .ref nw, .ref tr, .ref no, .ref pa, .ref im, .ref co, .ref se, .ref ga, .ref pt, .int s_x])), (to, .inr (1, [.int to_deep, .int to_dishes, .int to_guests, .ref tolo, .ref tosa, .ref toea, .ref tocl])), (nw, .inr (3, [.int nw_minute, .int nw_offered, .int nw_table, .int nw_sitting, .int nw_gullet, .long nw_knows]))]) [3, 0, 2, 1] rfl), (hD.sub (ws' := [(tocl, .inl (ktocl, 8, .inl gtocl)), (h0, .inr (11, [.ref tp, .int s_taped, .ref dr, .ref rr, .ref rl, .int s_ruleCount, .int s_inForce, .ref to, .ref df, .ref nw, .ref tr, .ref no, .ref pa, .ref im, .ref co, .ref se, .ref ga, .ref pt, .int s_x])), (to, .inr (1, [.int to_deep, .int to_dishes, .int to_guests, .ref tolo, .ref tosa, .ref toea, .ref tocl])), (nw, .inr (3, [.int nw_minute, .int nw_offered, .int nw_table, .int nw_sitting, .int nw_gullet, .long nw_knows]))]) [3, 0, 2, 1] (by decide) rfl), hS, (lv_sub hl [2, 0, 3, 4, 5] rfl), rfl⟩
          refine lv_icmp_le (tgt := 56) hx hb dX11_believed_49 (by decide) (fun c_347 => ?_) (fun c_347 => ?_)
          · refine lv_iconst (v := 0) hx hb dX11_believed_56 (by decide) ?_
            exact hJ57 _ _ _ ⟨0, _, hP, hD, hS, hl, rfl⟩
          · refine lv_iconst (v := 1) hx hb dX11_believed_52 (by decide) ?_
            refine lv_goto (tgt := 57) hx hb dX11_believed_53 (by decide) ?_
            exact hJ57 _ _ _ ⟨1, _, hP, hD, hS, hl, rfl⟩
    · exact hJ16 _ _ _ ⟨_, hP, hD, hS, (lv_sub hl [] rfl), rfl⟩

set_option maxHeartbeats 4000000 in
set_option maxRecDepth 100000 in
/-- x_dropped -/
theorem x_dropped (l : Launch) (dC : Nat → ClassId) (dI : Nat → Nat → Nat) (sz : Nat) (h0 : Nat) (tp : Nat) (s_taped : Int32) (dr : Nat) (rr : Nat) (rl : Nat) (s_ruleCount : Int32) (s_inForce : Int32) (to : Nat) (df : Nat) (nw : Nat) (tr : Nat) (no : Nat) (pa : Nat) (im : Nat) (co : Nat) (se : Nat) (ga : Nat) (pt : Nat) (s_x : Int32) (to_deep : Int32) (to_dishes : Int32) (to_guests : Int32) (tolo : Nat) (tosa : Nat) (toea : Nat) (tocl : Nat) (ktocl : ClassId) (gtocl : Nat → Int32) (x0 : Int32) : Met l yX11_dropped (.code yX11_dropped cX11_dropped 6 (some .int) :: wsA) ({ frames := 1, cells := 0, slots := 0, locals := 23 }) (va_Pc [.ref h0, .int x0] (fun U => U.heap.size = sz ∧ va_P (dC, dI) classes [(h0, .inr (11, [.ref tp, .int s_taped, .ref dr, .ref rr, .ref rl, .int s_ruleCount, .int s_inForce, .ref to, .ref df, .ref nw, .ref tr, .ref no, .ref pa, .ref im, .ref co, .ref se, .ref ga, .ref pt, .int s_x])), (to, .inr (1, [.int to_deep, .int to_dishes, .int to_guests, .ref tolo, .ref tosa, .ref toea, .ref tocl])), (tocl, .inl (ktocl, 8, .inl gtocl))] U.heap ∧ va_K (dC, dI) classes [(ktocl, .int)] U ∧ va_D (fun _ => True) [(h0, .inr (11, [.ref tp, .int s_taped, .ref dr, .ref rr, .ref rl, .int s_ruleCount, .int s_inForce, .ref to, .ref df, .ref nw, .ref tr, .ref no, .ref pa, .ref im, .ref co, .ref se, .ref ga, .ref pt, .int s_x])), (to, .inr (1, [.int to_deep, .int to_dishes, .int to_guests, .ref tolo, .ref tosa, .ref toea, .ref tocl])), (tocl, .inl (ktocl, 8, .inl gtocl))] ∧ xE U)) (va_Qi (fun (r : Int32) (_ : Unit) => True) (fun _ t => va_P (dC, dI) classes [(h0, .inr (11, [.ref tp, .int s_taped, .ref dr, .ref rr, .ref rl, .int s_ruleCount, .int s_inForce, .ref to, .ref df, .ref nw, .ref tr, .ref no, .ref pa, .ref im, .ref co, .ref se, .ref ga, .ref pt, .int s_x])), (to, .inr (1, [.int to_deep, .int to_dishes, .int to_guests, .ref tolo, .ref tosa, .ref toea, .ref tocl])), (tocl, .inl (ktocl, 8, .inl gtocl))] t.heap ∧ va_K (dC, dI) classes [(ktocl, .int)] t ∧ va_D (va_A [(h0, .inr (11, [.ref tp, .int s_taped, .ref dr, .ref rr, .ref rl, .int s_ruleCount, .int s_inForce, .ref to, .ref df, .ref nw, .ref tr, .ref no, .ref pa, .ref im, .ref co, .ref se, .ref ga, .ref pt, .int s_x])), (to, .inr (1, [.int to_deep, .int to_dishes, .int to_guests, .ref tolo, .ref tosa, .ref toea, .ref tocl])), (tocl, .inl (ktocl, 8, .inl gtocl))] sz) [(h0, .inr (11, [.ref tp, .int s_taped, .ref dr, .ref rr, .ref rl, .int s_ruleCount, .int s_inForce, .ref to, .ref df, .ref nw, .ref tr, .ref no, .ref pa, .ref im, .ref co, .ref se, .ref ga, .ref pt, .int s_x])), (to, .inr (1, [.int to_deep, .int to_dishes, .int to_guests, .ref tolo, .ref tosa, .ref toea, .ref tocl])), (tocl, .inl (ktocl, 8, .inl gtocl))]) (va_A [(h0, .inr (11, [.ref tp, .int s_taped, .ref dr, .ref rr, .ref rl, .int s_ruleCount, .int s_inForce, .ref to, .ref df, .ref nw, .ref tr, .ref no, .ref pa, .ref im, .ref co, .ref se, .ref ga, .ref pt, .int s_x])), (to, .inr (1, [.int to_deep, .int to_dishes, .int to_guests, .ref tolo, .ref tosa, .ref toea, .ref tocl])), (tocl, .inl (ktocl, 8, .inl gtocl))] sz)) 0 0 (va_A [(h0, .inr (11, [.ref tp, .int s_taped, .ref dr, .ref rr, .ref rl, .int s_ruleCount, .int s_inForce, .ref to, .ref df, .ref nw, .ref tr, .ref no, .ref pa, .ref im, .ref co, .ref se, .ref ga, .ref pt, .int s_x])), (to, .inr (1, [.int to_deep, .int to_dishes, .int to_guests, .ref tolo, .ref tosa, .ref toea, .ref tocl])), (tocl, .inl (ktocl, 8, .inl gtocl))] sz) := by
  refine Met.ofW (cc := cX11_dropped) (maxL := 6) (ret := (some .int)) (by decide) rfl ?_
  intro p e s m args below meth c s₁ B hml hv
  obtain ⟨rfl, hsz, hP, hK, hD0, hE⟩ := hv
  have hx := B.exec
  have hb := B.bytes
  have hr := B.returns
  have hts := atoms_spec (ws := .code yX11_dropped cX11_dropped 6 (some .int) :: wsA) B.pre
  have hq : ∀ w ∈ wsA, w.before _ s = true := fun w h => hts w (List.mem_cons_of_mem _ h)
  have hown : s.vm.findClass RX11 = some m.cls := findClass_of_methodNamed B.named
  have hlocks := B.notSynchronized
  subst hsz
  have hD := hD0.self (sz := s.heap.size)
  generalize hAe : va_A [(h0, .inr (11, [.ref tp, .int s_taped, .ref dr, .ref rr, .ref rl, .int s_ruleCount, .int s_inForce, .ref to, .ref df, .ref nw, .ref tr, .ref no, .ref pa, .ref im, .ref co, .ref se, .ref ga, .ref pt, .int s_x])), (to, .inr (1, [.int to_deep, .int to_dishes, .int to_guests, .ref tolo, .ref tosa, .ref toea, .ref tocl])), (tocl, .inl (ktocl, 8, .inl gtocl))] s.heap.size = A at hD ⊢
  have hA : ∀ q : Nat, s.heap.size ≤ q → A q := fun q h => by rw [← hAe]; exact Or.inr h
  have hS : va_S A s.heap s.heap [] := va_S.rf
  have hl := lv_entry ([.ref h0, .int x0]) (n := 6) (Nat.le_of_ble_eq_true rfl)
  rw [lg_entry_eq]
  generalize (lg_sl ([.ref h0, .int x0]) ++ List.replicate (6 - (lg_sl ([.ref h0, .int x0])).length) Slot.unset).toArray = ls at hl ⊢
  have hl : lv_has ls 6 [(0, .ref h0), (1, .int x0)] := hl
  refine lv_aload_n hx hb dX11_dropped_0 rfl (lv_at hl 0 rfl) ?_
  have hPc := hP.sub (ws' := [(h0, .inr (11, [.ref tp, .int s_taped, .ref dr, .ref rr, .ref rl, .int s_ruleCount, .int s_inForce, .ref to, .ref df, .ref nw, .ref tr, .ref no, .ref pa, .ref im, .ref co, .ref se, .ref ga, .ref pt, .int s_x])), (to, .inr (1, [.int to_deep, .int to_dishes, .int to_guests, .ref tolo, .ref tosa, .ref toea, .ref tocl]))]) [0, 1] rfl
  have hDc := hD.sub (ws' := [(h0, .inr (11, [.ref tp, .int s_taped, .ref dr, .ref rr, .ref rl, .int s_ruleCount, .int s_inForce, .ref to, .ref df, .ref nw, .ref tr, .ref no, .ref pa, .ref im, .ref co, .ref se, .ref ga, .ref pt, .int s_x])), (to, .inr (1, [.int to_deep, .int to_dishes, .int to_guests, .ref tolo, .ref tosa, .ref toea, .ref tocl]))]) [0, 1] (by decide) rfl
  have hKc := hK.sub (tys' := []) [] rfl
  have hFc := va_free (wc := [(h0, .inr (11, [.ref tp, .int s_taped, .ref dr, .ref rr, .ref rl, .int s_ruleCount, .int s_inForce, .ref to, .ref df, .ref nw, .ref tr, .ref no, .ref pa, .ref im, .ref co, .ref se, .ref ga, .ref pt, .int s_x])), (to, .inr (1, [.int to_deep, .int to_dishes, .int to_guests, .ref tolo, .ref tosa, .ref toea, .ref tocl]))]) hD hS hA [0, 1] rfl
  refine va_calli (va_runV (As := []) (rest := []) ⟨hx, hb, hml, hown, hq⟩ (x_untold l dC dI _ h0 tp s_taped dr rr rl s_ruleCount s_inForce to df nw tr no pa im co se ga pt s_x to_deep to_dishes to_guests tolo tosa toea tocl ) (cwV 0 hq (gV qw_778 qw_780 qw_14 qw_119 qw_781) rfl rfl rfl (by decide +kernel) ⟨Nat.le_of_ble_eq_true rfl, Nat.le_of_ble_eq_true rfl⟩) ⟨fun a U g mk q => by obtain ⟨q0, q1, qP, qK, qD, qE⟩ := q; exact ⟨q0, q1, qP, va_K.moved (u := U) (U := U.calling g mk a) (Vm.Alike.refl U.vm) qK, qD, xE.same rfl qE⟩, va_recv hKc hPc (ci := 11) (q0 := 0) rfl rfl, fun U hU hW => ⟨rfl, by rw [hU], by rw [hU]; exact hPc, va_K.moved hW.alike hKc, hDc.weaken (fun _ _ _ _ => trivial), xE.warm hW hE⟩⟩ rfl rfl hl.1 rfl (lv_room (Nat.le_of_ble_eq_true rfl)) dX11_dropped_1 ⟨Nat.le_of_ble_eq_true rfl, Nat.le_of_ble_eq_true rfl⟩) hS (fun q _ h => hFc q h) hFc (fun r_103 u t H1 locs ht hvm hw hB hz1 hk1 hS => ?_)
  obtain ⟨hP1, hK1, hD1⟩ := hB
  rw [ht] at hP1
  obtain ⟨hP, hD⟩ := va_join (wr := [(tocl, .inl (ktocl, 8, .inl gtocl))]) (w1 := [(h0, .inr (11, [.ref tp, .int s_taped, .ref dr, .ref rr, .ref rl, .int s_ruleCount, .int s_inForce, .ref to, .ref df, .ref nw, .ref tr, .ref no, .ref pa, .ref im, .ref co, .ref se, .ref ga, .ref pt, .int s_x])), (to, .inr (1, [.int to_deep, .int to_dishes, .int to_guests, .ref tolo, .ref tosa, .ref toea, .ref tocl]))]) hP hD [0, 1] [2] rfl rfl (by decide) (by decide) hk1 hFc hP1 hD1
  generalize H1 = H at hP hS ⊢
  have hP : va_P (dC, dI) classes [(tocl, .inl (ktocl, 8, .inl gtocl)), (h0, .inr (11, [.ref tp, .int s_taped, .ref dr, .ref rr, .ref rl, .int s_ruleCount, .int s_inForce, .ref to, .ref df, .ref nw, .ref tr, .ref no, .ref pa, .ref im, .ref co, .ref se, .ref ga, .ref pt, .int s_x])), (to, .inr (1, [.int to_deep, .int to_dishes, .int to_guests, .ref tolo, .ref tosa, .ref toea, .ref tocl]))] H := hP
  have hD : va_D A [(tocl, .inl (ktocl, 8, .inl gtocl)), (h0, .inr (11, [.ref tp, .int s_taped, .ref dr, .ref rr, .ref rl, .int s_ruleCount, .int s_inForce, .ref to, .ref df, .ref nw, .ref tr, .ref no, .ref pa, .ref im, .ref co, .ref se, .ref ga, .ref pt, .int s_x])), (to, .inr (1, [.int to_deep, .int to_dishes, .int to_guests, .ref tolo, .ref tosa, .ref toea, .ref tocl]))] := hD
  refine W.cut (I := fun H locs g => ∃ (ls : Array Slot), va_P (dC, dI) classes [(tocl, .inl (ktocl, 8, .inl gtocl)), (h0, .inr (11, [.ref tp, .int s_taped, .ref dr, .ref rr, .ref rl, .int s_ruleCount, .int s_inForce, .ref to, .ref df, .ref nw, .ref tr, .ref no, .ref pa, .ref im, .ref co, .ref se, .ref ga, .ref pt, .int s_x])), (to, .inr (1, [.int to_deep, .int to_dishes, .int to_guests, .ref tolo, .ref tosa, .ref toea, .ref tocl]))] H ∧ va_D A [(tocl, .inl (ktocl, 8, .inl gtocl)), (h0, .inr (11, [.ref tp, .int s_taped, .ref dr, .ref rr, .ref rl, .int s_ruleCount, .int s_inForce, .ref to, .ref df, .ref nw, .ref tr, .ref no, .ref pa, .ref im, .ref co, .ref se, .ref ga, .ref pt, .int s_x])), (to, .inr (1, [.int to_deep, .int to_dishes, .int to_guests, .ref tolo, .ref tosa, .ref toea, .ref tocl]))] ∧ va_S A s.heap H locs ∧ lv_has ls 6 [] ∧ g = F0 m 16 ls []) (fun H locs g h => ?_) (fun hJ16 => ?_)
  · obtain ⟨ls, hP, hD, hS, hl, rfl⟩ := h
    refine lv_iconst (v := (-1)) hx hb dX11_dropped_16 (by decide) ?_
    refine W.widen (k := 0) (n := 0) (Nat.le_of_ble_eq_true rfl) (Nat.le_of_ble_eq_true rfl) ?_
    exact W.iret (v := (-1)) hx hb hr (fun t ht hW => ⟨⟨(-1), (), rfl, trivial, by rw [ht]; exact (hP.sub (ws' := [(h0, .inr (11, [.ref tp, .int s_taped, .ref dr, .ref rr, .ref rl, .int s_ruleCount, .int s_inForce, .ref to, .ref df, .ref nw, .ref tr, .ref no, .ref pa, .ref im, .ref co, .ref se, .ref ga, .ref pt, .int s_x])), (to, .inr (1, [.int to_deep, .int to_dishes, .int to_guests, .ref tolo, .ref tosa, .ref toea, .ref tocl])), (tocl, .inl (ktocl, 8, .inl gtocl))]) [1, 2, 0] rfl), va_K.moved hW.alike hK, (hD.sub (ws' := [(h0, .inr (11, [.ref tp, .int s_taped, .ref dr, .ref rr, .ref rl, .int s_ruleCount, .int s_inForce, .ref to, .ref df, .ref nw, .ref tr, .ref no, .ref pa, .ref im, .ref co, .ref se, .ref ga, .ref pt, .int s_x])), (to, .inr (1, [.int to_deep, .int to_dishes, .int to_guests, .ref tolo, .ref tosa, .ref toea, .ref tocl])), (tocl, .inl (ktocl, 8, .inl gtocl))]) [1, 2, 0] (by decide) rfl)⟩, hS.F ht⟩) hS.2.2 dX11_dropped_17
  refine lv_if_ne (tgt := 16) hx hb dX11_dropped_4 (by decide) (fun c_205 => ?_) (fun c_205 => ?_)
  · exact hJ16 _ _ _ ⟨_, hP, hD, hS, (lv_sub hl [] rfl), rfl⟩
  · refine lv_iload_n hx hb dX11_dropped_7 rfl (lv_at hl 1 rfl) ?_
    refine lv_iconst (v := 0) hx hb dX11_dropped_8 (by decide) ?_
    refine lv_iconst (v := 1) hx hb dX11_dropped_9 (by decide) ?_
    have hPc := hP.sub (ws' := []) [] rfl
    have hDc := hD.sub (ws' := []) [] (by decide) rfl
    have hKc := hK.sub (tys' := []) [] rfl
    have hFc := va_free (wc := []) hD hS hA [] rfl
    refine va_calli (va_runS (As := [.int x0, .int 0, .int 1]) (rest := []) ⟨hx, hb, hml, hown, hq⟩ (x_within l dC dI _ x0 0 1 ) (cwS 3 hq (gS qw_743 qw_744 qw_119 qw_745) rfl rfl rfl (by decide +kernel) ⟨Nat.le_of_ble_eq_true rfl, Nat.le_of_ble_eq_true rfl⟩) ⟨fun a U g mk q => by obtain ⟨q0, q1, qP, qK, qD, qE⟩ := q; exact ⟨q0, q1, qP, va_K.moved (u := U) (U := U.calling g mk a) (Vm.Alike.refl U.vm) qK, qD, xE.same rfl qE⟩, fun U hU hW => ⟨rfl, by rw [hU], by rw [hU]; exact hPc, va_K.moved hW.alike hKc, hDc.weaken (fun _ _ _ _ => trivial), xE.warm hW hE⟩⟩ rfl rfl hl.1 rfl (lv_room (Nat.le_of_ble_eq_true rfl)) dX11_dropped_10 ⟨Nat.le_of_ble_eq_true rfl, Nat.le_of_ble_eq_true rfl⟩) hS (fun q _ h => hFc q h) hFc (fun r_206 u t H1 locs ht hvm hw hB hz1 hk1 hS => ?_)
    obtain ⟨hP1, hK1, hD1⟩ := hB
    rw [ht] at hP1
    obtain ⟨hP, hD⟩ := va_join (wr := [(tocl, .inl (ktocl, 8, .inl gtocl)), (h0, .inr (11, [.ref tp, .int s_taped, .ref dr, .ref rr, .ref rl, .int s_ruleCount, .int s_inForce, .ref to, .ref df, .ref nw, .ref tr, .ref no, .ref pa, .ref im, .ref co, .ref se, .ref ga, .ref pt, .int s_x])), (to, .inr (1, [.int to_deep, .int to_dishes, .int to_guests, .ref tolo, .ref tosa, .ref toea, .ref tocl]))]) (w1 := []) hP hD [] [0, 1, 2] rfl rfl (by decide) (by decide) hk1 hFc hP1 hD1
    generalize H1 = H at hP hS ⊢
    have hP : va_P (dC, dI) classes [(tocl, .inl (ktocl, 8, .inl gtocl)), (h0, .inr (11, [.ref tp, .int s_taped, .ref dr, .ref rr, .ref rl, .int s_ruleCount, .int s_inForce, .ref to, .ref df, .ref nw, .ref tr, .ref no, .ref pa, .ref im, .ref co, .ref se, .ref ga, .ref pt, .int s_x])), (to, .inr (1, [.int to_deep, .int to_dishes, .int to_guests, .ref tolo, .ref tosa, .ref toea, .ref tocl]))] H := hP
    have hD : va_D A [(tocl, .inl (ktocl, 8, .inl gtocl)), (h0, .inr (11, [.ref tp, .int s_taped, .ref dr, .ref rr, .ref rl, .int s_ruleCount, .int s_inForce, .ref to, .ref df, .ref nw, .ref tr, .ref no, .ref pa, .ref im, .ref co, .ref se, .ref ga, .ref pt, .int s_x])), (to, .inr (1, [.int to_deep, .int to_dishes, .int to_guests, .ref tolo, .ref tosa, .ref toea, .ref tocl]))] := hD
    refine lv_if_ne (tgt := 18) hx hb dX11_dropped_13 (by decide) (fun c_207 => ?_) (fun c_207 => ?_)
    · refine lv_sipush (v := 255) hx hb dX11_dropped_18 (by decide) ?_
      refine lv_istore_n (lv' := [(2, .int 255), (0, .ref h0), (1, .int x0)]) hx hb dX11_dropped_21 rfl hl (by decide) rfl (fun ls hl => ?_)
      refine lv_iload_n hx hb dX11_dropped_22 rfl (lv_at hl 0 rfl) ?_
      refine lv_istore_n (lv' := [(3, .int 255), (2, .int 255), (0, .ref h0), (1, .int x0)]) hx hb dX11_dropped_23 rfl hl (by decide) rfl (fun ls hl => ?_)
      refine lv_iconst (v := 0) hx hb dX11_dropped_24 (by decide) ?_
      refine lv_istore (lv' := [(4, .int 0), (3, .int 255), (2, .int 255), (0, .ref h0), (1, .int x0)]) hx hb dX11_dropped_25 hl (by decide) rfl (fun ls hl => ?_)
      refine W.loop (I := fun n H locs g => ∃ (y_218 : Int32) (y_219 : Int32) (ls : Array Slot), bt 0 255 y_218 ∧ 255 - y_218.toInt < (n : Int) ∧ va_P (dC, dI) classes [(tocl, .inl (ktocl, 8, .inl gtocl)), (h0, .inr (11, [.ref tp, .int s_taped, .ref dr, .ref rr, .ref rl, .int s_ruleCount, .int s_inForce, .ref to, .ref df, .ref nw, .ref tr, .ref no, .ref pa, .ref im, .ref co, .ref se, .ref ga, .ref pt, .int s_x])), (to, .inr (1, [.int to_deep, .int to_dishes, .int to_guests, .ref tolo, .ref tosa, .ref toea, .ref tocl]))] H ∧ va_D A [(tocl, .inl (ktocl, 8, .inl gtocl)), (h0, .inr (11, [.ref tp, .int s_taped, .ref dr, .ref rr, .ref rl, .int s_ruleCount, .int s_inForce, .ref to, .ref df, .ref nw, .ref tr, .ref no, .ref pa, .ref im, .ref co, .ref se, .ref ga, .ref pt, .int s_x])), (to, .inr (1, [.int to_deep, .int to_dishes, .int to_guests, .ref tolo, .ref tosa, .ref toea, .ref tocl]))] ∧ va_S A s.heap H locs ∧ lv_has ls 6 [(4, .int y_218), (3, .int y_219), (2, .int 255), (0, .ref h0), (1, .int x0)] ∧ g = F0 m 27 ls []) (fun H locs g h => ?_) (fun n ih27 H locs g h => ?_) (n := 256) ⟨0, 255, _, (bt_w (bt_k (x := 0) (c := 0) (by decide)) (by decide)), (ms_0 (bt_k (x := 0) (c := 0) (by decide)) (by decide)), hP, hD, hS, hl, rfl⟩
      · obtain ⟨y_218, y_219, ls, bd_v_4, hm, hP, hD, hS, hl, rfl⟩ := h
        exact ms_z bd_v_4 hm
      · obtain ⟨y_218, y_219, ls, bd_v_4, hm27, hP, hD, hS, hl, rfl⟩ := h
        refine lv_iload hx hb dX11_dropped_27 (lv_at hl 0 rfl) ?_
        refine lv_iload_n hx hb dX11_dropped_29 rfl (lv_at hl 2 rfl) ?_
        refine lv_icmp_ge (tgt := 82) hx hb dX11_dropped_30 (by decide) (fun c_292 => ?_) (fun c_292 => ?_)
        · refine lv_iload_n hx hb dX11_dropped_82 rfl (lv_at hl 4 rfl) ?_
          refine lv_if_ne (tgt := 90) hx hb dX11_dropped_83 (by decide) (fun c_293 => ?_) (fun c_293 => ?_)
          · refine lv_iload_n hx hb dX11_dropped_90 rfl (lv_at hl 1 rfl) ?_
            have hPc := hP.sub (ws' := []) [] rfl
            have hDc := hD.sub (ws' := []) [] (by decide) rfl
            have hKc := hK.sub (tys' := []) [] rfl
            have hFc := va_free (wc := []) hD hS hA [] rfl
            refine va_calli (va_runS (As := [.int y_219]) (rest := []) ⟨hx, hb, hml, hown, hq⟩ (j_bits l dC dI _ y_219 ) (va_cwS 1 hq (gT qw_1033 qw_837 qw_137 qw_838) rfl rfl rfl (by decide +kernel) ⟨Nat.le_of_ble_eq_true rfl, Nat.le_of_ble_eq_true rfl⟩) ⟨fun a U g mk q => by obtain ⟨q0, q1, qP, qK, qD, qE⟩ := q; exact ⟨q0, q1, qP, va_K.moved (u := U) (U := U.calling g mk a) (Vm.Alike.refl U.vm) qK, qD, xE.same rfl qE⟩, fun U hU hW => ⟨rfl, by rw [hU], by rw [hU]; exact hPc, va_K.moved hW.alike hKc, hDc.weaken (fun _ _ _ _ => trivial), xE.warm hW hE⟩⟩ rfl rfl hl.1 rfl (lv_room (Nat.le_of_ble_eq_true rfl)) dX11_dropped_91 ⟨Nat.le_of_ble_eq_true rfl, Nat.le_of_ble_eq_true rfl⟩) hS (fun q _ h => hFc q h) hFc (fun r_294 u t H1 locs ht hvm hw hB hz1 hk1 hS => ?_)
            obtain ⟨hP1, hK1, hD1⟩ := hB
            rw [ht] at hP1
            obtain ⟨hP, hD⟩ := va_join (wr := [(tocl, .inl (ktocl, 8, .inl gtocl)), (h0, .inr (11, [.ref tp, .int s_taped, .ref dr, .ref rr, .ref rl, .int s_ruleCount, .int s_inForce, .ref to, .ref df, .ref nw, .ref tr, .ref no, .ref pa, .ref im, .ref co, .ref se, .ref ga, .ref pt, .int s_x])), (to, .inr (1, [.int to_deep, .int to_dishes, .int to_guests, .ref tolo, .ref tosa, .ref toea, .ref tocl]))]) (w1 := []) hP hD [] [0, 1, 2] rfl rfl (by decide) (by decide) hk1 hFc hP1 hD1
            generalize H1 = H at hP hS ⊢
            have hP : va_P (dC, dI) classes [(tocl, .inl (ktocl, 8, .inl gtocl)), (h0, .inr (11, [.ref tp, .int s_taped, .ref dr, .ref rr, .ref rl, .int s_ruleCount, .int s_inForce, .ref to, .ref df, .ref nw, .ref tr, .ref no, .ref pa, .ref im, .ref co, .ref se, .ref ga, .ref pt, .int s_x])), (to, .inr (1, [.int to_deep, .int to_dishes, .int to_guests, .ref tolo, .ref tosa, .ref toea, .ref tocl]))] H := hP
            have hD : va_D A [(tocl, .inl (ktocl, 8, .inl gtocl)), (h0, .inr (11, [.ref tp, .int s_taped, .ref dr, .ref rr, .ref rl, .int s_ruleCount, .int s_inForce, .ref to, .ref df, .ref nw, .ref tr, .ref no, .ref pa, .ref im, .ref co, .ref se, .ref ga, .ref pt, .int s_x])), (to, .inr (1, [.int to_deep, .int to_dishes, .int to_guests, .ref tolo, .ref tosa, .ref toea, .ref tocl]))] := hD
            refine W.widen (k := 0) (n := 0) (Nat.le_of_ble_eq_true rfl) (Nat.le_of_ble_eq_true rfl) ?_
            exact W.iret (v := r_294) hx hb hr (fun t ht hW => ⟨⟨r_294, (), rfl, trivial, by rw [ht]; exact (hP.sub (ws' := [(h0, .inr (11, [.ref tp, .int s_taped, .ref dr, .ref rr, .ref rl, .int s_ruleCount, .int s_inForce, .ref to, .ref df, .ref nw, .ref tr, .ref no, .ref pa, .ref im, .ref co, .ref se, .ref ga, .ref pt, .int s_x])), (to, .inr (1, [.int to_deep, .int to_dishes, .int to_guests, .ref tolo, .ref tosa, .ref toea, .ref tocl])), (tocl, .inl (ktocl, 8, .inl gtocl))]) [1, 2, 0] rfl), va_K.moved hW.alike hK, (hD.sub (ws' := [(h0, .inr (11, [.ref tp, .int s_taped, .ref dr, .ref rr, .ref rl, .int s_ruleCount, .int s_inForce, .ref to, .ref df, .ref nw, .ref tr, .ref no, .ref pa, .ref im, .ref co, .ref se, .ref ga, .ref pt, .int s_x])), (to, .inr (1, [.int to_deep, .int to_dishes, .int to_guests, .ref tolo, .ref tosa, .ref toea, .ref tocl])), (tocl, .inl (ktocl, 8, .inl gtocl))]) [1, 2, 0] (by decide) rfl)⟩, hS.F ht⟩) hS.2.2 dX11_dropped_94
          · refine lv_iload_n hx hb dX11_dropped_86 rfl (lv_at hl 1 rfl) ?_
            refine lv_goto (tgt := 94) hx hb dX11_dropped_87 (by decide) ?_
            refine W.widen (k := 0) (n := 0) (Nat.le_of_ble_eq_true rfl) (Nat.le_of_ble_eq_true rfl) ?_
            exact W.iret (v := y_219) hx hb hr (fun t ht hW => ⟨⟨y_219, (), rfl, trivial, by rw [ht]; exact (hP.sub (ws' := [(h0, .inr (11, [.ref tp, .int s_taped, .ref dr, .ref rr, .ref rl, .int s_ruleCount, .int s_inForce, .ref to, .ref df, .ref nw, .ref tr, .ref no, .ref pa, .ref im, .ref co, .ref se, .ref ga, .ref pt, .int s_x])), (to, .inr (1, [.int to_deep, .int to_dishes, .int to_guests, .ref tolo, .ref tosa, .ref toea, .ref tocl])), (tocl, .inl (ktocl, 8, .inl gtocl))]) [1, 2, 0] rfl), va_K.moved hW.alike hK, (hD.sub (ws' := [(h0, .inr (11, [.ref tp, .int s_taped, .ref dr, .ref rr, .ref rl, .int s_ruleCount, .int s_inForce, .ref to, .ref df, .ref nw, .ref tr, .ref no, .ref pa, .ref im, .ref co, .ref se, .ref ga, .ref pt, .int s_x])), (to, .inr (1, [.int to_deep, .int to_dishes, .int to_guests, .ref tolo, .ref tosa, .ref toea, .ref tocl])), (tocl, .inl (ktocl, 8, .inl gtocl))]) [1, 2, 0] (by decide) rfl)⟩, hS.F ht⟩) hS.2.2 dX11_dropped_94
        · refine lv_iload hx hb dX11_dropped_33 (lv_at hl 0 rfl) ?_
          have hPc := hP.sub (ws' := []) [] rfl
          have hDc := hD.sub (ws' := []) [] (by decide) rfl
          have hKc := hK.sub (tys' := []) [] rfl
          have hFc := va_free (wc := []) hD hS hA [] rfl
          refine va_calli (va_runS (As := [.int y_218]) (rest := []) ⟨hx, hb, hml, hown, hq⟩ (j_bits l dC dI _ y_218 ) (va_cwS 1 hq (gT qw_1033 qw_837 qw_137 qw_838) rfl rfl rfl (by decide +kernel) ⟨Nat.le_of_ble_eq_true rfl, Nat.le_of_ble_eq_true rfl⟩) ⟨fun a U g mk q => by obtain ⟨q0, q1, qP, qK, qD, qE⟩ := q; exact ⟨q0, q1, qP, va_K.moved (u := U) (U := U.calling g mk a) (Vm.Alike.refl U.vm) qK, qD, xE.same rfl qE⟩, fun U hU hW => ⟨rfl, by rw [hU], by rw [hU]; exact hPc, va_K.moved hW.alike hKc, hDc.weaken (fun _ _ _ _ => trivial), xE.warm hW hE⟩⟩ rfl rfl hl.1 rfl (lv_room (Nat.le_of_ble_eq_true rfl)) dX11_dropped_35 ⟨Nat.le_of_ble_eq_true rfl, Nat.le_of_ble_eq_true rfl⟩) hS (fun q _ h => hFc q h) hFc (fun r_295 u t H1 locs ht hvm hw hB hz1 hk1 hS => ?_)
          obtain ⟨hP1, hK1, hD1⟩ := hB
          rw [ht] at hP1
          obtain ⟨hP, hD⟩ := va_join (wr := [(tocl, .inl (ktocl, 8, .inl gtocl)), (h0, .inr (11, [.ref tp, .int s_taped, .ref dr, .ref rr, .ref rl, .int s_ruleCount, .int s_inForce, .ref to, .ref df, .ref nw, .ref tr, .ref no, .ref pa, .ref im, .ref co, .ref se, .ref ga, .ref pt, .int s_x])), (to, .inr (1, [.int to_deep, .int to_dishes, .int to_guests, .ref tolo, .ref tosa, .ref toea, .ref tocl]))]) (w1 := []) hP hD [] [0, 1, 2] rfl rfl (by decide) (by decide) hk1 hFc hP1 hD1
          generalize H1 = H at hP hS ⊢
          have hP : va_P (dC, dI) classes [(tocl, .inl (ktocl, 8, .inl gtocl)), (h0, .inr (11, [.ref tp, .int s_taped, .ref dr, .ref rr, .ref rl, .int s_ruleCount, .int s_inForce, .ref to, .ref df, .ref nw, .ref tr, .ref no, .ref pa, .ref im, .ref co, .ref se, .ref ga, .ref pt, .int s_x])), (to, .inr (1, [.int to_deep, .int to_dishes, .int to_guests, .ref tolo, .ref tosa, .ref toea, .ref tocl]))] H := hP
          have hD : va_D A [(tocl, .inl (ktocl, 8, .inl gtocl)), (h0, .inr (11, [.ref tp, .int s_taped, .ref dr, .ref rr, .ref rl, .int s_ruleCount, .int s_inForce, .ref to, .ref df, .ref nw, .ref tr, .ref no, .ref pa, .ref im, .ref co, .ref se, .ref ga, .ref pt, .int s_x])), (to, .inr (1, [.int to_deep, .int to_dishes, .int to_guests, .ref tolo, .ref tosa, .ref toea, .ref tocl]))] := hD
          refine lv_iload_n hx hb dX11_dropped_38 rfl (lv_at hl 1 rfl) ?_
          have hPc := hP.sub (ws' := []) [] rfl
          have hDc := hD.sub (ws' := []) [] (by decide) rfl
          have hKc := hK.sub (tys' := []) [] rfl
          have hFc := va_free (wc := []) hD hS hA [] rfl
          refine va_calli (va_runS (As := [.int y_219]) (rest := [.int r_295]) ⟨hx, hb, hml, hown, hq⟩ (j_bits l dC dI _ y_219 ) (va_cwS 1 hq (gT qw_1033 qw_837 qw_137 qw_838) rfl rfl rfl (by decide +kernel) ⟨Nat.le_of_ble_eq_true rfl, Nat.le_of_ble_eq_true rfl⟩) ⟨fun a U g mk q => by obtain ⟨q0, q1, qP, qK, qD, qE⟩ := q; exact ⟨q0, q1, qP, va_K.moved (u := U) (U := U.calling g mk a) (Vm.Alike.refl U.vm) qK, qD, xE.same rfl qE⟩, fun U hU hW => ⟨rfl, by rw [hU], by rw [hU]; exact hPc, va_K.moved hW.alike hKc, hDc.weaken (fun _ _ _ _ => trivial), xE.warm hW hE⟩⟩ rfl rfl hl.1 rfl (lv_room (Nat.le_of_ble_eq_true rfl)) dX11_dropped_39 ⟨Nat.le_of_ble_eq_true rfl, Nat.le_of_ble_eq_true rfl⟩) hS (fun q _ h => hFc q h) hFc (fun r_296 u t H1 locs ht hvm hw hB hz1 hk1 hS => ?_)
          obtain ⟨hP1, hK1, hD1⟩ := hB
          rw [ht] at hP1
          obtain ⟨hP, hD⟩ := va_join (wr := [(tocl, .inl (ktocl, 8, .inl gtocl)), (h0, .inr (11, [.ref tp, .int s_taped, .ref dr, .ref rr, .ref rl, .int s_ruleCount, .int s_inForce, .ref to, .ref df, .ref nw, .ref tr, .ref no, .ref pa, .ref im, .ref co, .ref se, .ref ga, .ref pt, .int s_x])), (to, .inr (1, [.int to_deep, .int to_dishes, .int to_guests, .ref tolo, .ref tosa, .ref toea, .ref tocl]))]) (w1 := []) hP hD [] [0, 1, 2] rfl rfl (by decide) (by decide) hk1 hFc hP1 hD1
          generalize H1 = H at hP hS ⊢
          have hP : va_P (dC, dI) classes [(tocl, .inl (ktocl, 8, .inl gtocl)), (h0, .inr (11, [.ref tp, .int s_taped, .ref dr, .ref rr, .ref rl, .int s_ruleCount, .int s_inForce, .ref to, .ref df, .ref nw, .ref tr, .ref no, .ref pa, .ref im, .ref co, .ref se, .ref ga, .ref pt, .int s_x])), (to, .inr (1, [.int to_deep, .int to_dishes, .int to_guests, .ref tolo, .ref tosa, .ref toea, .ref tocl]))] H := hP
          have hD : va_D A [(tocl, .inl (ktocl, 8, .inl gtocl)), (h0, .inr (11, [.ref tp, .int s_taped, .ref dr, .ref rr, .ref rl, .int s_ruleCount, .int s_inForce, .ref to, .ref df, .ref nw, .ref tr, .ref no, .ref pa, .ref im, .ref co, .ref se, .ref ga, .ref pt, .int s_x])), (to, .inr (1, [.int to_deep, .int to_dishes, .int to_guests, .ref tolo, .ref tosa, .ref toea, .ref tocl]))] := hD
          refine W.cut (I := fun H locs g => ∃ (y_298 : Int32) (ls : Array Slot), va_P (dC, dI) classes [(tocl, .inl (ktocl, 8, .inl gtocl)), (h0, .inr (11, [.ref tp, .int s_taped, .ref dr, .ref rr, .ref rl, .int s_ruleCount, .int s_inForce, .ref to, .ref df, .ref nw, .ref tr, .ref no, .ref pa, .ref im, .ref co, .ref se, .ref ga, .ref pt, .int s_x])), (to, .inr (1, [.int to_deep, .int to_dishes, .int to_guests, .ref tolo, .ref tosa, .ref toea, .ref tocl]))] H ∧ va_D A [(tocl, .inl (ktocl, 8, .inl gtocl)), (h0, .inr (11, [.ref tp, .int s_taped, .ref dr, .ref rr, .ref rl, .int s_ruleCount, .int s_inForce, .ref to, .ref df, .ref nw, .ref tr, .ref no, .ref pa, .ref im, .ref co, .ref se, .ref ga, .ref pt, .int s_x])), (to, .inr (1, [.int to_deep, .int to_dishes, .int to_guests, .ref tolo, .ref tosa, .ref toea, .ref tocl]))] ∧ va_S A s.heap H locs ∧ lv_has ls 6 [(4, .int y_218), (3, .int y_219), (2, .int 255), (0, .ref h0), (1, .int x0)] ∧ g = F0 m 50 ls [.int y_298]) (fun H locs g h => ?_) (fun hJ50 => ?_)
          · obtain ⟨y_298, ls, hP, hD, hS, hl, rfl⟩ := h
            refine lv_istore (lv' := [(5, .int y_298), (4, .int y_218), (3, .int y_219), (2, .int 255), (0, .ref h0), (1, .int x0)]) hx hb dX11_dropped_50 hl (by decide) rfl (fun ls hl => ?_)
            refine lv_iload hx hb dX11_dropped_52 (lv_at hl 0 rfl) ?_
            refine W.cut (I := fun H locs g => ∃ (y_311 : Int32) (ls : Array Slot), va_P (dC, dI) classes [(tocl, .inl (ktocl, 8, .inl gtocl)), (h0, .inr (11, [.ref tp, .int s_taped, .ref dr, .ref rr, .ref rl, .int s_ruleCount, .int s_inForce, .ref to, .ref df, .ref nw, .ref tr, .ref no, .ref pa, .ref im, .ref co, .ref se, .ref ga, .ref pt, .int s_x])), (to, .inr (1, [.int to_deep, .int to_dishes, .int to_guests, .ref tolo, .ref tosa, .ref toea, .ref tocl]))] H ∧ va_D A [(tocl, .inl (ktocl, 8, .inl gtocl)), (h0, .inr (11, [.ref tp, .int s_taped, .ref dr, .ref rr, .ref rl, .int s_ruleCount, .int s_inForce, .ref to, .ref df, .ref nw, .ref tr, .ref no, .ref pa, .ref im, .ref co, .ref se, .ref ga, .ref pt, .int s_x])), (to, .inr (1, [.int to_deep, .int to_dishes, .int to_guests, .ref tolo, .ref tosa, .ref toea, .ref tocl]))] ∧ va_S A s.heap H locs ∧ lv_has ls 6 [(4, .int y_218), (3, .int y_311), (2, .int 255), (0, .ref h0), (1, .int x0)] ∧ g = F0 m 76 ls []) (fun H locs g h => ?_) (fun hJ76 => ?_)
            · obtain ⟨y_311, ls, hP, hD, hS, hl, rfl⟩ := h
              obtain ⟨y_313, ey_313⟩ : ∃ y : Int32, y = y_218 + 1 := ⟨_, rfl⟩
              refine lv_iinc (v := y_313) (lv' := [(4, .int y_313), (3, .int y_311), (2, .int 255), (0, .ref h0), (1, .int x0)]) hx hb dX11_dropped_76 hl (k := 0) rfl (by rw [ey_313]; rfl) (by decide) rfl (fun ls hl => ?_)
              refine lv_goto (tgt := 27) hx hb dX11_dropped_79 (by decide) ?_
              have b_314 : bt 0 254 y_218 := rf_lt_l bd_v_4 (bt_k (x := 255) (c := 255) (by decide)) (Int32.not_le.mp c_292) (by decide)
              have b_315 : bt 1 255 y_313 := bt_add ey_313 b_314 (bt_k (x := 1) (c := 1) (by decide)) (by decide)
              exact ih27 _ _ _ ⟨y_313, y_311, _, (bt_w b_315 (by decide)), (ms_s ey_313 b_314 hm27 (by decide)), hP, hD, hS, hl, rfl⟩
            refine lv_if_eq (tgt := 76) hx hb dX11_dropped_54 (by decide) (fun c_316 => ?_) (fun c_316 => ?_)
            · exact hJ76 _ _ _ ⟨y_219, _, hP, hD, hS, (lv_sub hl [1, 2, 3, 4, 5] rfl), rfl⟩
            · refine lv_aload_n hx hb dX11_dropped_57 rfl (lv_at hl 4 rfl) ?_
              refine va_get (D := (dC, dI)) (ci := 11) (v := .ref to) (C := RX11) (T := TX11) (N := 19) hx hb hq inX11 hown hK hP 1 rfl rfl 7 (by decide) (hq _ qw_456) (fun _ h9 => h9) rfl dX11_dropped_58 ?_
              refine lv_iload_n hx hb dX11_dropped_61 rfl (lv_at hl 3 rfl) ?_
              refine lv_iload hx hb dX11_dropped_62 (lv_at hl 1 rfl) ?_
              refine lv_iconst (v := (-1)) hx hb dX11_dropped_64 (by decide) ?_
              refine lv_ixor hx hb dX11_dropped_65 ?_
              refine lv_topi (fun y_317 ey_317 => ?_)
              refine lv_iand hx hb dX11_dropped_66 ?_
              refine lv_topi (fun y_318 ey_318 => ?_)
              have hPc := hP.sub (ws' := [(to, .inr (1, [.int to_deep, .int to_dishes, .int to_guests, .ref tolo, .ref tosa, .ref toea, .ref tocl])), (tocl, .inl (ktocl, 8, .inl gtocl))]) [2, 0] rfl
              have hDc := hD.sub (ws' := [(to, .inr (1, [.int to_deep, .int to_dishes, .int to_guests, .ref tolo, .ref tosa, .ref toea, .ref tocl])), (tocl, .inl (ktocl, 8, .inl gtocl))]) [2, 0] (by decide) rfl
              have hKc := hK.sub (tys' := [(ktocl, .int)]) [0] rfl
              have hFc := va_free (wc := [(to, .inr (1, [.int to_deep, .int to_dishes, .int to_guests, .ref tolo, .ref tosa, .ref toea, .ref tocl])), (tocl, .inl (ktocl, 8, .inl gtocl))]) hD hS hA [2, 0] rfl
              refine va_calli (va_runV (As := [.int y_318]) (rest := []) ⟨hx, hb, hml, hown, hq⟩ (d_isTorn l dC dI _ to to_deep to_dishes to_guests tolo tosa toea tocl ktocl gtocl y_318 ) (cwV 1 hq (gV qw_1034 qw_883 qw_884 qw_124 qw_885) rfl rfl rfl (by decide +kernel) ⟨Nat.le_of_ble_eq_true rfl, Nat.le_of_ble_eq_true rfl⟩) ⟨fun a U g mk q => by obtain ⟨q0, q1, qP, qK, qD, qE⟩ := q; exact ⟨q0, q1, qP, va_K.moved (u := U) (U := U.calling g mk a) (Vm.Alike.refl U.vm) qK, qD, xE.same rfl qE⟩, va_recv hKc hPc (ci := 1) (q0 := 0) rfl rfl, fun U hU hW => ⟨rfl, by rw [hU], by rw [hU]; exact hPc, va_K.moved hW.alike hKc, hDc.weaken (fun _ _ _ _ => trivial), xE.warm hW hE⟩⟩ rfl rfl hl.1 rfl (lv_room (Nat.le_of_ble_eq_true rfl)) dX11_dropped_67 ⟨Nat.le_of_ble_eq_true rfl, Nat.le_of_ble_eq_true rfl⟩) hS (fun q _ h => hFc q h) hFc (fun r_319 u t H1 locs ht hvm hw hB hz1 hk1 hS => ?_)
              obtain ⟨hP1, hK1, hD1⟩ := hB
              rw [ht] at hP1
              obtain ⟨hP, hD⟩ := va_join (wr := [(h0, .inr (11, [.ref tp, .int s_taped, .ref dr, .ref rr, .ref rl, .int s_ruleCount, .int s_inForce, .ref to, .ref df, .ref nw, .ref tr, .ref no, .ref pa, .ref im, .ref co, .ref se, .ref ga, .ref pt, .int s_x]))]) (w1 := [(to, .inr (1, [.int to_deep, .int to_dishes, .int to_guests, .ref tolo, .ref tosa, .ref toea, .ref tocl])), (tocl, .inl (ktocl, 8, .inl gtocl))]) hP hD [2, 0] [1] rfl rfl (by decide) (by decide) hk1 hFc hP1 hD1
              generalize H1 = H at hP hS ⊢
              have hP : va_P (dC, dI) classes [(h0, .inr (11, [.ref tp, .int s_taped, .ref dr, .ref rr, .ref rl, .int s_ruleCount, .int s_inForce, .ref to, .ref df, .ref nw, .ref tr, .ref no, .ref pa, .ref im, .ref co, .ref se, .ref ga, .ref pt, .int s_x])), (to, .inr (1, [.int to_deep, .int to_dishes, .int to_guests, .ref tolo, .ref tosa, .ref toea, .ref tocl])), (tocl, .inl (ktocl, 8, .inl gtocl))] H := hP
              have hD : va_D A [(h0, .inr (11, [.ref tp, .int s_taped, .ref dr, .ref rr, .ref rl, .int s_ruleCount, .int s_inForce, .ref to, .ref df, .ref nw, .ref tr, .ref no, .ref pa, .ref im, .ref co, .ref se, .ref ga, .ref pt, .int s_x])), (to, .inr (1, [.int to_deep, .int to_dishes, .int to_guests, .ref tolo, .ref tosa, .ref toea, .ref tocl])), (tocl, .inl (ktocl, 8, .inl gtocl))] := hD
              refine lv_if_ne (tgt := 76) hx hb dX11_dropped_70 (by decide) (fun c_320 => ?_) (fun c_320 => ?_)
              · exact hJ76 _ _ _ ⟨y_219, _, (hP.sub (ws' := [(tocl, .inl (ktocl, 8, .inl gtocl)), (h0, .inr (11, [.ref tp, .int s_taped, .ref dr, .ref rr, .ref rl, .int s_ruleCount, .int s_inForce, .ref to, .ref df, .ref nw, .ref tr, .ref no, .ref pa, .ref im, .ref co, .ref se, .ref ga, .ref pt, .int s_x])), (to, .inr (1, [.int to_deep, .int to_dishes, .int to_guests, .ref tolo, .ref tosa, .ref toea, .ref tocl]))]) [2, 0, 1] rfl), (hD.sub (ws' := [(tocl, .inl (ktocl, 8, .inl gtocl)), (h0, .inr (11, [.ref tp, .int s_taped, .ref dr, .ref rr, .ref rl, .int s_ruleCount, .int s_inForce, .ref to, .ref df, .ref nw, .ref tr, .ref no, .ref pa, .ref im, .ref co, .ref se, .ref ga, .ref pt, .int s_x])), (to, .inr (1, [.int to_deep, .int to_dishes, .int to_guests, .ref tolo, .ref tosa, .ref toea, .ref tocl]))]) [2, 0, 1] (by decide) rfl), hS, (lv_sub hl [1, 2, 3, 4, 5] rfl), rfl⟩
              · refine lv_iload hx hb dX11_dropped_73 (lv_at hl 1 rfl) ?_
                refine lv_istore_n (lv' := [(3, .int y_218), (5, .int y_298), (4, .int y_218), (2, .int 255), (0, .ref h0), (1, .int x0)]) hx hb dX11_dropped_75 rfl hl (by decide) rfl (fun ls hl => ?_)
                exact hJ76 _ _ _ ⟨y_218, _, (hP.sub (ws' := [(tocl, .inl (ktocl, 8, .inl gtocl)), (h0, .inr (11, [.ref tp, .int s_taped, .ref dr, .ref rr, .ref rl, .int s_ruleCount, .int s_inForce, .ref to, .ref df, .ref nw, .ref tr, .ref no, .ref pa, .ref im, .ref co, .ref se, .ref ga, .ref pt, .int s_x])), (to, .inr (1, [.int to_deep, .int to_dishes, .int to_guests, .ref tolo, .ref tosa, .ref toea, .ref tocl]))]) [2, 0, 1] rfl), (hD.sub (ws' := [(tocl, .inl (ktocl, 8, .inl gtocl)), (h0, .inr (11, [.ref tp, .int s_taped, .ref dr, .ref rr, .ref rl, .int s_ruleCount, .int s_inForce, .ref to, .ref df, .ref nw, .ref tr, .ref no, .ref pa, .ref im, .ref co, .ref se, .ref ga, .ref pt, .int s_x])), (to, .inr (1, [.int to_deep, .int to_dishes, .int to_guests, .ref tolo, .ref tosa, .ref toea, .ref tocl]))]) [2, 0, 1] (by decide) rfl), hS, (lv_sub hl [2, 0, 3, 4, 5] rfl), rfl⟩
          refine lv_icmp_ge (tgt := 49) hx hb dX11_dropped_42 (by decide) (fun c_321 => ?_) (fun c_321 => ?_)
          · refine lv_iconst (v := 0) hx hb dX11_dropped_49 (by decide) ?_
            exact hJ50 _ _ _ ⟨0, _, hP, hD, hS, hl, rfl⟩
          · refine lv_iconst (v := 1) hx hb dX11_dropped_45 (by decide) ?_
            refine lv_goto (tgt := 50) hx hb dX11_dropped_46 (by decide) ?_
            exact hJ50 _ _ _ ⟨1, _, hP, hD, hS, hl, rfl⟩
    · exact hJ16 _ _ _ ⟨_, hP, hD, hS, (lv_sub hl [] rfl), rfl⟩

set_option maxHeartbeats 4000000 in
set_option maxRecDepth 100000 in
/-- x_shareOf -/
theorem x_shareOf (l : Launch) (dC : Nat → ClassId) (dI : Nat → Nat → Nat) (sz : Nat) (h0 : Nat) (tp : Nat) (s_taped : Int32) (dr : Nat) (rr : Nat) (rl : Nat) (s_ruleCount : Int32) (s_inForce : Int32) (to : Nat) (df : Nat) (nw : Nat) (tr : Nat) (no : Nat) (pa : Nat) (im : Nat) (co : Nat) (se : Nat) (ga : Nat) (pt : Nat) (s_x : Int32) (nw_minute : Int32) (nw_offered : Int32) (nw_table : Int32) (nw_sitting : Int32) (nw_gullet : Int32) (nw_knows : Int64) (x0 : Int32) (x1 : Int32) : Met l yX11_shareOf (.code yX11_shareOf cX11_shareOf 3 (some .int) :: wsA) ({ frames := 1, cells := 0, slots := 0, locals := 21 }) (va_Pc [.ref h0, .int x0, .int x1] (fun U => U.heap.size = sz ∧ va_P (dC, dI) classes [(h0, .inr (11, [.ref tp, .int s_taped, .ref dr, .ref rr, .ref rl, .int s_ruleCount, .int s_inForce, .ref to, .ref df, .ref nw, .ref tr, .ref no, .ref pa, .ref im, .ref co, .ref se, .ref ga, .ref pt, .int s_x])), (nw, .inr (3, [.int nw_minute, .int nw_offered, .int nw_table, .int nw_sitting, .int nw_gullet, .long nw_knows]))] U.heap ∧ va_K (dC, dI) classes [] U ∧ va_D (fun _ => True) [(h0, .inr (11, [.ref tp, .int s_taped, .ref dr, .ref rr, .ref rl, .int s_ruleCount, .int s_inForce, .ref to, .ref df, .ref nw, .ref tr, .ref no, .ref pa, .ref im, .ref co, .ref se, .ref ga, .ref pt, .int s_x])), (nw, .inr (3, [.int nw_minute, .int nw_offered, .int nw_table, .int nw_sitting, .int nw_gullet, .long nw_knows]))] ∧ xE U)) (va_Qi (fun (r : Int32) (_ : Unit) => True) (fun _ t => va_P (dC, dI) classes [(h0, .inr (11, [.ref tp, .int s_taped, .ref dr, .ref rr, .ref rl, .int s_ruleCount, .int s_inForce, .ref to, .ref df, .ref nw, .ref tr, .ref no, .ref pa, .ref im, .ref co, .ref se, .ref ga, .ref pt, .int s_x])), (nw, .inr (3, [.int nw_minute, .int nw_offered, .int nw_table, .int nw_sitting, .int nw_gullet, .long nw_knows]))] t.heap ∧ va_K (dC, dI) classes [] t ∧ va_D (va_A [(h0, .inr (11, [.ref tp, .int s_taped, .ref dr, .ref rr, .ref rl, .int s_ruleCount, .int s_inForce, .ref to, .ref df, .ref nw, .ref tr, .ref no, .ref pa, .ref im, .ref co, .ref se, .ref ga, .ref pt, .int s_x])), (nw, .inr (3, [.int nw_minute, .int nw_offered, .int nw_table, .int nw_sitting, .int nw_gullet, .long nw_knows]))] sz) [(h0, .inr (11, [.ref tp, .int s_taped, .ref dr, .ref rr, .ref rl, .int s_ruleCount, .int s_inForce, .ref to, .ref df, .ref nw, .ref tr, .ref no, .ref pa, .ref im, .ref co, .ref se, .ref ga, .ref pt, .int s_x])), (nw, .inr (3, [.int nw_minute, .int nw_offered, .int nw_table, .int nw_sitting, .int nw_gullet, .long nw_knows]))]) (va_A [(h0, .inr (11, [.ref tp, .int s_taped, .ref dr, .ref rr, .ref rl, .int s_ruleCount, .int s_inForce, .ref to, .ref df, .ref nw, .ref tr, .ref no, .ref pa, .ref im, .ref co, .ref se, .ref ga, .ref pt, .int s_x])), (nw, .inr (3, [.int nw_minute, .int nw_offered, .int nw_table, .int nw_sitting, .int nw_gullet, .long nw_knows]))] sz)) 0 0 (va_A [(h0, .inr (11, [.ref tp, .int s_taped, .ref dr, .ref rr, .ref rl, .int s_ruleCount, .int s_inForce, .ref to, .ref df, .ref nw, .ref tr, .ref no, .ref pa, .ref im, .ref co, .ref se, .ref ga, .ref pt, .int s_x])), (nw, .inr (3, [.int nw_minute, .int nw_offered, .int nw_table, .int nw_sitting, .int nw_gullet, .long nw_knows]))] sz) := by
  refine Met.ofW (cc := cX11_shareOf) (maxL := 3) (ret := (some .int)) (by decide) rfl ?_
  intro p e s m args below meth c s₁ B hml hv
  obtain ⟨rfl, hsz, hP, hK, hD0, hE⟩ := hv
  have hx := B.exec
  have hb := B.bytes
  have hr := B.returns
  have hts := atoms_spec (ws := .code yX11_shareOf cX11_shareOf 3 (some .int) :: wsA) B.pre
  have hq : ∀ w ∈ wsA, w.before _ s = true := fun w h => hts w (List.mem_cons_of_mem _ h)
  have hown : s.vm.findClass RX11 = some m.cls := findClass_of_methodNamed B.named
  have hlocks := B.notSynchronized
  subst hsz
  have hD := hD0.self (sz := s.heap.size)
  generalize hAe : va_A [(h0, .inr (11, [.ref tp, .int s_taped, .ref dr, .ref rr, .ref rl, .int s_ruleCount, .int s_inForce, .ref to, .ref df, .ref nw, .ref tr, .ref no, .ref pa, .ref im, .ref co, .ref se, .ref ga, .ref pt, .int s_x])), (nw, .inr (3, [.int nw_minute, .int nw_offered, .int nw_table, .int nw_sitting, .int nw_gullet, .long nw_knows]))] s.heap.size = A at hD ⊢
  have hA : ∀ q : Nat, s.heap.size ≤ q → A q := fun q h => by rw [← hAe]; exact Or.inr h
  have hS : va_S A s.heap s.heap [] := va_S.rf
  have hl := lv_entry ([.ref h0, .int x0, .int x1]) (n := 3) (Nat.le_of_ble_eq_true rfl)
  rw [lg_entry_eq]
  generalize (lg_sl ([.ref h0, .int x0, .int x1]) ++ List.replicate (3 - (lg_sl ([.ref h0, .int x0, .int x1])).length) Slot.unset).toArray = ls at hl ⊢
  have hl : lv_has ls 3 [(0, .ref h0), (1, .int x0), (2, .int x1)] := hl
  refine lv_iload_n hx hb dX11_shareOf_0 rfl (lv_at hl 1 rfl) ?_
  refine lv_aload_n hx hb dX11_shareOf_1 rfl (lv_at hl 0 rfl) ?_
  refine va_get (D := (dC, dI)) (ci := 11) (v := .ref nw) (C := RX11) (T := TX11) (N := 19) hx hb hq inX11 hown hK hP 0 rfl rfl 9 (by decide) (hq _ qw_458) (fun _ h9 => h9) rfl dX11_shareOf_2 ?_
  refine lv_iload_n hx hb dX11_shareOf_5 rfl (lv_at hl 2 rfl) ?_
  have hPc := hP.sub (ws' := [(nw, .inr (3, [.int nw_minute, .int nw_offered, .int nw_table, .int nw_sitting, .int nw_gullet, .long nw_knows]))]) [1] rfl
  have hDc := hD.sub (ws' := [(nw, .inr (3, [.int nw_minute, .int nw_offered, .int nw_table, .int nw_sitting, .int nw_gullet, .long nw_knows]))]) [1] (by decide) rfl
  have hKc := hK.sub (tys' := []) [] rfl
  have hFc := va_free (wc := [(nw, .inr (3, [.int nw_minute, .int nw_offered, .int nw_table, .int nw_sitting, .int nw_gullet, .long nw_knows]))]) hD hS hA [1] rfl
  refine va_calli (va_runV (As := [.int x1]) (rest := [.int x0]) ⟨hx, hb, hml, hown, hq⟩ (e_knownBy l dC dI _ nw nw_minute nw_offered nw_table nw_sitting nw_gullet nw_knows x1 ) (cwV 1 hq (gV qw_766 qw_767 qw_768 qw_125 qw_769) rfl rfl rfl (by decide +kernel) ⟨Nat.le_of_ble_eq_true rfl, Nat.le_of_ble_eq_true rfl⟩) ⟨fun a U g mk q => by obtain ⟨q0, q1, qP, qK, qD, qE⟩ := q; exact ⟨q0, q1, qP, va_K.moved (u := U) (U := U.calling g mk a) (Vm.Alike.refl U.vm) qK, qD, xE.same rfl qE⟩, va_recv hKc hPc (ci := 3) (q0 := 0) rfl rfl, fun U hU hW => ⟨rfl, by rw [hU], by rw [hU]; exact hPc, va_K.moved hW.alike hKc, hDc.weaken (fun _ _ _ _ => trivial), xE.warm hW hE⟩⟩ rfl rfl hl.1 rfl (lv_room (Nat.le_of_ble_eq_true rfl)) dX11_shareOf_6 ⟨Nat.le_of_ble_eq_true rfl, Nat.le_of_ble_eq_true rfl⟩) hS (fun q _ h => hFc q h) hFc (fun r_4 u t H1 locs ht hvm hw hB hz1 hk1 hS => ?_)
  obtain ⟨hP1, hK1, hD1⟩ := hB
  rw [ht] at hP1
  obtain ⟨hP, hD⟩ := va_join (wr := [(h0, .inr (11, [.ref tp, .int s_taped, .ref dr, .ref rr, .ref rl, .int s_ruleCount, .int s_inForce, .ref to, .ref df, .ref nw, .ref tr, .ref no, .ref pa, .ref im, .ref co, .ref se, .ref ga, .ref pt, .int s_x]))]) (w1 := [(nw, .inr (3, [.int nw_minute, .int nw_offered, .int nw_table, .int nw_sitting, .int nw_gullet, .long nw_knows]))]) hP hD [1] [0] rfl rfl (by decide) (by decide) hk1 hFc hP1 hD1
  generalize H1 = H at hP hS ⊢
  have hP : va_P (dC, dI) classes [(h0, .inr (11, [.ref tp, .int s_taped, .ref dr, .ref rr, .ref rl, .int s_ruleCount, .int s_inForce, .ref to, .ref df, .ref nw, .ref tr, .ref no, .ref pa, .ref im, .ref co, .ref se, .ref ga, .ref pt, .int s_x])), (nw, .inr (3, [.int nw_minute, .int nw_offered, .int nw_table, .int nw_sitting, .int nw_gullet, .long nw_knows]))] H := hP
  have hD : va_D A [(h0, .inr (11, [.ref tp, .int s_taped, .ref dr, .ref rr, .ref rl, .int s_ruleCount, .int s_inForce, .ref to, .ref df, .ref nw, .ref tr, .ref no, .ref pa, .ref im, .ref co, .ref se, .ref ga, .ref pt, .int s_x])), (nw, .inr (3, [.int nw_minute, .int nw_offered, .int nw_table, .int nw_sitting, .int nw_gullet, .long nw_knows]))] := hD
  have hPc := hP.sub (ws' := []) [] rfl
  have hDc := hD.sub (ws' := []) [] (by decide) rfl
  have hKc := hK.sub (tys' := []) [] rfl
  have hFc := va_free (wc := []) hD hS hA [] rfl
  refine va_calli (va_runS (As := [.int r_4]) (rest := [.int x0]) ⟨hx, hb, hml, hown, hq⟩ (j_bits l dC dI _ r_4 ) (va_cwS 1 hq (gT qw_1033 qw_837 qw_137 qw_838) rfl rfl rfl (by decide +kernel) ⟨Nat.le_of_ble_eq_true rfl, Nat.le_of_ble_eq_true rfl⟩) ⟨fun a U g mk q => by obtain ⟨q0, q1, qP, qK, qD, qE⟩ := q; exact ⟨q0, q1, qP, va_K.moved (u := U) (U := U.calling g mk a) (Vm.Alike.refl U.vm) qK, qD, xE.same rfl qE⟩, fun U hU hW => ⟨rfl, by rw [hU], by rw [hU]; exact hPc, va_K.moved hW.alike hKc, hDc.weaken (fun _ _ _ _ => trivial), xE.warm hW hE⟩⟩ rfl rfl hl.1 rfl (lv_room (Nat.le_of_ble_eq_true rfl)) dX11_shareOf_9 ⟨Nat.le_of_ble_eq_true rfl, Nat.le_of_ble_eq_true rfl⟩) hS (fun q _ h => hFc q h) hFc (fun r_5 u t H1 locs ht hvm hw hB hz1 hk1 hS => ?_)
  obtain ⟨hP1, hK1, hD1⟩ := hB
  rw [ht] at hP1
  obtain ⟨hP, hD⟩ := va_join (wr := [(h0, .inr (11, [.ref tp, .int s_taped, .ref dr, .ref rr, .ref rl, .int s_ruleCount, .int s_inForce, .ref to, .ref df, .ref nw, .ref tr, .ref no, .ref pa, .ref im, .ref co, .ref se, .ref ga, .ref pt, .int s_x])), (nw, .inr (3, [.int nw_minute, .int nw_offered, .int nw_table, .int nw_sitting, .int nw_gullet, .long nw_knows]))]) (w1 := []) hP hD [] [0, 1] rfl rfl (by decide) (by decide) hk1 hFc hP1 hD1
  generalize H1 = H at hP hS ⊢
  have hP : va_P (dC, dI) classes [(h0, .inr (11, [.ref tp, .int s_taped, .ref dr, .ref rr, .ref rl, .int s_ruleCount, .int s_inForce, .ref to, .ref df, .ref nw, .ref tr, .ref no, .ref pa, .ref im, .ref co, .ref se, .ref ga, .ref pt, .int s_x])), (nw, .inr (3, [.int nw_minute, .int nw_offered, .int nw_table, .int nw_sitting, .int nw_gullet, .long nw_knows]))] H := hP
  have hD : va_D A [(h0, .inr (11, [.ref tp, .int s_taped, .ref dr, .ref rr, .ref rl, .int s_ruleCount, .int s_inForce, .ref to, .ref df, .ref nw, .ref tr, .ref no, .ref pa, .ref im, .ref co, .ref se, .ref ga, .ref pt, .int s_x])), (nw, .inr (3, [.int nw_minute, .int nw_offered, .int nw_table, .int nw_sitting, .int nw_gullet, .long nw_knows]))] := hD
  refine lv_imul hx hb dX11_shareOf_12 ?_
  refine lv_topi (fun y_6 ey_6 => ?_)
  refine W.widen (k := 0) (n := 0) (Nat.le_of_ble_eq_true rfl) (Nat.le_of_ble_eq_true rfl) ?_
  exact W.iret (v := y_6) hx hb hr (fun t ht hW => ⟨⟨y_6, (), rfl, trivial, by rw [ht]; exact hP, va_K.moved hW.alike hK, hD⟩, hS.F ht⟩) hS.2.2 dX11_shareOf_13

set_option maxHeartbeats 4000000 in
set_option maxRecDepth 100000 in
/-- x_crumbs -/
theorem x_crumbs (l : Launch) (dC : Nat → ClassId) (dI : Nat → Nat → Nat) (sz : Nat) (h0 : Nat) (tp : Nat) (s_taped : Int32) (dr : Nat) (rr : Nat) (rl : Nat) (s_ruleCount : Int32) (s_inForce : Int32) (to : Nat) (df : Nat) (nw : Nat) (tr : Nat) (no : Nat) (pa : Nat) (im : Nat) (co : Nat) (se : Nat) (ga : Nat) (pt : Nat) (s_x : Int32) (to_deep : Int32) (to_dishes : Int32) (to_guests : Int32) (tolo : Nat) (tosa : Nat) (toea : Nat) (tocl : Nat) (nw_minute : Int32) (nw_offered : Int32) (nw_table : Int32) (nw_sitting : Int32) (nw_gullet : Int32) (nw_knows : Int64) (x0 : Int32) (x1 : Int32) : Met l yX11_crumbs (.code yX11_crumbs cX11_crumbs 9 (some .int) :: wsA) ({ frames := 2, cells := 0, slots := 0, locals := 43 }) (va_Pc [.ref h0, .int x0, .int x1] (fun U => U.heap.size = sz ∧ va_P (dC, dI) classes [(h0, .inr (11, [.ref tp, .int s_taped, .ref dr, .ref rr, .ref rl, .int s_ruleCount, .int s_inForce, .ref to, .ref df, .ref nw, .ref tr, .ref no, .ref pa, .ref im, .ref co, .ref se, .ref ga, .ref pt, .int s_x])), (to, .inr (1, [.int to_deep, .int to_dishes, .int to_guests, .ref tolo, .ref tosa, .ref toea, .ref tocl])), (nw, .inr (3, [.int nw_minute, .int nw_offered, .int nw_table, .int nw_sitting, .int nw_gullet, .long nw_knows]))] U.heap ∧ va_K (dC, dI) classes [] U ∧ va_D (fun _ => True) [(h0, .inr (11, [.ref tp, .int s_taped, .ref dr, .ref rr, .ref rl, .int s_ruleCount, .int s_inForce, .ref to, .ref df, .ref nw, .ref tr, .ref no, .ref pa, .ref im, .ref co, .ref se, .ref ga, .ref pt, .int s_x])), (to, .inr (1, [.int to_deep, .int to_dishes, .int to_guests, .ref tolo, .ref tosa, .ref toea, .ref tocl])), (nw, .inr (3, [.int nw_minute, .int nw_offered, .int nw_table, .int nw_sitting, .int nw_gullet, .long nw_knows]))] ∧ xE U)) (va_Qi (fun (r : Int32) (_ : Unit) => True) (fun _ t => va_P (dC, dI) classes [(h0, .inr (11, [.ref tp, .int s_taped, .ref dr, .ref rr, .ref rl, .int s_ruleCount, .int s_inForce, .ref to, .ref df, .ref nw, .ref tr, .ref no, .ref pa, .ref im, .ref co, .ref se, .ref ga, .ref pt, .int s_x])), (to, .inr (1, [.int to_deep, .int to_dishes, .int to_guests, .ref tolo, .ref tosa, .ref toea, .ref tocl])), (nw, .inr (3, [.int nw_minute, .int nw_offered, .int nw_table, .int nw_sitting, .int nw_gullet, .long nw_knows]))] t.heap ∧ va_K (dC, dI) classes [] t ∧ va_D (va_A [(h0, .inr (11, [.ref tp, .int s_taped, .ref dr, .ref rr, .ref rl, .int s_ruleCount, .int s_inForce, .ref to, .ref df, .ref nw, .ref tr, .ref no, .ref pa, .ref im, .ref co, .ref se, .ref ga, .ref pt, .int s_x])), (to, .inr (1, [.int to_deep, .int to_dishes, .int to_guests, .ref tolo, .ref tosa, .ref toea, .ref tocl])), (nw, .inr (3, [.int nw_minute, .int nw_offered, .int nw_table, .int nw_sitting, .int nw_gullet, .long nw_knows]))] sz) [(h0, .inr (11, [.ref tp, .int s_taped, .ref dr, .ref rr, .ref rl, .int s_ruleCount, .int s_inForce, .ref to, .ref df, .ref nw, .ref tr, .ref no, .ref pa, .ref im, .ref co, .ref se, .ref ga, .ref pt, .int s_x])), (to, .inr (1, [.int to_deep, .int to_dishes, .int to_guests, .ref tolo, .ref tosa, .ref toea, .ref tocl])), (nw, .inr (3, [.int nw_minute, .int nw_offered, .int nw_table, .int nw_sitting, .int nw_gullet, .long nw_knows]))]) (va_A [(h0, .inr (11, [.ref tp, .int s_taped, .ref dr, .ref rr, .ref rl, .int s_ruleCount, .int s_inForce, .ref to, .ref df, .ref nw, .ref tr, .ref no, .ref pa, .ref im, .ref co, .ref se, .ref ga, .ref pt, .int s_x])), (to, .inr (1, [.int to_deep, .int to_dishes, .int to_guests, .ref tolo, .ref tosa, .ref toea, .ref tocl])), (nw, .inr (3, [.int nw_minute, .int nw_offered, .int nw_table, .int nw_sitting, .int nw_gullet, .long nw_knows]))] sz)) 0 0 (va_A [(h0, .inr (11, [.ref tp, .int s_taped, .ref dr, .ref rr, .ref rl, .int s_ruleCount, .int s_inForce, .ref to, .ref df, .ref nw, .ref tr, .ref no, .ref pa, .ref im, .ref co, .ref se, .ref ga, .ref pt, .int s_x])), (to, .inr (1, [.int to_deep, .int to_dishes, .int to_guests, .ref tolo, .ref tosa, .ref toea, .ref tocl])), (nw, .inr (3, [.int nw_minute, .int nw_offered, .int nw_table, .int nw_sitting, .int nw_gullet, .long nw_knows]))] sz) := by
  refine Met.ofW (cc := cX11_crumbs) (maxL := 9) (ret := (some .int)) (by decide) rfl ?_
  intro p e s m args below meth c s₁ B hml hv
  obtain ⟨rfl, hsz, hP, hK, hD0, hE⟩ := hv
  have hx := B.exec
  have hb := B.bytes
  have hr := B.returns
  have hts := atoms_spec (ws := .code yX11_crumbs cX11_crumbs 9 (some .int) :: wsA) B.pre
  have hq : ∀ w ∈ wsA, w.before _ s = true := fun w h => hts w (List.mem_cons_of_mem _ h)
  have hown : s.vm.findClass RX11 = some m.cls := findClass_of_methodNamed B.named
  have hlocks := B.notSynchronized
  subst hsz
  have hD := hD0.self (sz := s.heap.size)
  generalize hAe : va_A [(h0, .inr (11, [.ref tp, .int s_taped, .ref dr, .ref rr, .ref rl, .int s_ruleCount, .int s_inForce, .ref to, .ref df, .ref nw, .ref tr, .ref no, .ref pa, .ref im, .ref co, .ref se, .ref ga, .ref pt, .int s_x])), (to, .inr (1, [.int to_deep, .int to_dishes, .int to_guests, .ref tolo, .ref tosa, .ref toea, .ref tocl])), (nw, .inr (3, [.int nw_minute, .int nw_offered, .int nw_table, .int nw_sitting, .int nw_gullet, .long nw_knows]))] s.heap.size = A at hD ⊢
  have hA : ∀ q : Nat, s.heap.size ≤ q → A q := fun q h => by rw [← hAe]; exact Or.inr h
  have hS : va_S A s.heap s.heap [] := va_S.rf
  have hl := lv_entry ([.ref h0, .int x0, .int x1]) (n := 9) (Nat.le_of_ble_eq_true rfl)
  rw [lg_entry_eq]
  generalize (lg_sl ([.ref h0, .int x0, .int x1]) ++ List.replicate (9 - (lg_sl ([.ref h0, .int x0, .int x1])).length) Slot.unset).toArray = ls at hl ⊢
  have hl : lv_has ls 9 [(0, .ref h0), (1, .int x0), (2, .int x1)] := hl
  refine lv_aload_n hx hb dX11_crumbs_0 rfl (lv_at hl 0 rfl) ?_
  refine lv_iload_n hx hb dX11_crumbs_1 rfl (lv_at hl 2 rfl) ?_
  have hPc := hP.sub (ws' := [(h0, .inr (11, [.ref tp, .int s_taped, .ref dr, .ref rr, .ref rl, .int s_ruleCount, .int s_inForce, .ref to, .ref df, .ref nw, .ref tr, .ref no, .ref pa, .ref im, .ref co, .ref se, .ref ga, .ref pt, .int s_x])), (to, .inr (1, [.int to_deep, .int to_dishes, .int to_guests, .ref tolo, .ref tosa, .ref toea, .ref tocl]))]) [0, 1] rfl
  have hDc := hD.sub (ws' := [(h0, .inr (11, [.ref tp, .int s_taped, .ref dr, .ref rr, .ref rl, .int s_ruleCount, .int s_inForce, .ref to, .ref df, .ref nw, .ref tr, .ref no, .ref pa, .ref im, .ref co, .ref se, .ref ga, .ref pt, .int s_x])), (to, .inr (1, [.int to_deep, .int to_dishes, .int to_guests, .ref tolo, .ref tosa, .ref toea, .ref tocl]))]) [0, 1] (by decide) rfl
  have hKc := hK.sub (tys' := []) [] rfl
  have hFc := va_free (wc := [(h0, .inr (11, [.ref tp, .int s_taped, .ref dr, .ref rr, .ref rl, .int s_ruleCount, .int s_inForce, .ref to, .ref df, .ref nw, .ref tr, .ref no, .ref pa, .ref im, .ref co, .ref se, .ref ga, .ref pt, .int s_x])), (to, .inr (1, [.int to_deep, .int to_dishes, .int to_guests, .ref tolo, .ref tosa, .ref toea, .ref tocl]))]) hD hS hA [0, 1] rfl
  refine va_calli (va_runV (As := [.int x1]) (rest := []) ⟨hx, hb, hml, hown, hq⟩ (x_isGuest l dC dI _ h0 tp s_taped dr rr rl s_ruleCount s_inForce to df nw tr no pa im co se ga pt s_x to_deep to_dishes to_guests tolo tosa toea tocl x1 ) (cwV 1 hq (gV qw_762 qw_764 qw_13 qw_119 qw_765) rfl rfl rfl (by decide +kernel) ⟨Nat.le_of_ble_eq_true rfl, Nat.le_of_ble_eq_true rfl⟩) ⟨fun a U g mk q => by obtain ⟨q0, q1, qP, qK, qD, qE⟩ := q; exact ⟨q0, q1, qP, va_K.moved (u := U) (U := U.calling g mk a) (Vm.Alike.refl U.vm) qK, qD, xE.same rfl qE⟩, va_recv hKc hPc (ci := 11) (q0 := 0) rfl rfl, fun U hU hW => ⟨rfl, by rw [hU], by rw [hU]; exact hPc, va_K.moved hW.alike hKc, hDc.weaken (fun _ _ _ _ => trivial), xE.warm hW hE⟩⟩ rfl rfl hl.1 rfl (lv_room (Nat.le_of_ble_eq_true rfl)) dX11_crumbs_2 ⟨Nat.le_of_ble_eq_true rfl, Nat.le_of_ble_eq_true rfl⟩) hS (fun q _ h => hFc q h) hFc (fun r_123 u t H1 locs ht hvm hw hB hz1 hk1 hS => ?_)
  obtain ⟨hP1, hK1, hD1⟩ := hB
  rw [ht] at hP1
  obtain ⟨hP, hD⟩ := va_join (wr := [(nw, .inr (3, [.int nw_minute, .int nw_offered, .int nw_table, .int nw_sitting, .int nw_gullet, .long nw_knows]))]) (w1 := [(h0, .inr (11, [.ref tp, .int s_taped, .ref dr, .ref rr, .ref rl, .int s_ruleCount, .int s_inForce, .ref to, .ref df, .ref nw, .ref tr, .ref no, .ref pa, .ref im, .ref co, .ref se, .ref ga, .ref pt, .int s_x])), (to, .inr (1, [.int to_deep, .int to_dishes, .int to_guests, .ref tolo, .ref tosa, .ref toea, .ref tocl]))]) hP hD [0, 1] [2] rfl rfl (by decide) (by decide) hk1 hFc hP1 hD1
  generalize H1 = H at hP hS ⊢
  have hP : va_P (dC, dI) classes [(nw, .inr (3, [.int nw_minute, .int nw_offered, .int nw_table, .int nw_sitting, .int nw_gullet, .long nw_knows])), (h0, .inr (11, [.ref tp, .int s_taped, .ref dr, .ref rr, .ref rl, .int s_ruleCount, .int s_inForce, .ref to, .ref df, .ref nw, .ref tr, .ref no, .ref pa, .ref im, .ref co, .ref se, .ref ga, .ref pt, .int s_x])), (to, .inr (1, [.int to_deep, .int to_dishes, .int to_guests, .ref tolo, .ref tosa, .ref toea, .ref tocl]))] H := hP
  have hD : va_D A [(nw, .inr (3, [.int nw_minute, .int nw_offered, .int nw_table, .int nw_sitting, .int nw_gullet, .long nw_knows])), (h0, .inr (11, [.ref tp, .int s_taped, .ref dr, .ref rr, .ref rl, .int s_ruleCount, .int s_inForce, .ref to, .ref df, .ref nw, .ref tr, .ref no, .ref pa, .ref im, .ref co, .ref se, .ref ga, .ref pt, .int s_x])), (to, .inr (1, [.int to_deep, .int to_dishes, .int to_guests, .ref tolo, .ref tosa, .ref toea, .ref tocl]))] := hD
  refine W.cut (I := fun H locs g => ∃ (ls : Array Slot), va_P (dC, dI) classes [(nw, .inr (3, [.int nw_minute, .int nw_offered, .int nw_table, .int nw_sitting, .int nw_gullet, .long nw_knows])), (h0, .inr (11, [.ref tp, .int s_taped, .ref dr, .ref rr, .ref rl, .int s_ruleCount, .int s_inForce, .ref to, .ref df, .ref nw, .ref tr, .ref no, .ref pa, .ref im, .ref co, .ref se, .ref ga, .ref pt, .int s_x])), (to, .inr (1, [.int to_deep, .int to_dishes, .int to_guests, .ref tolo, .ref tosa, .ref toea, .ref tocl]))] H ∧ va_D A [(nw, .inr (3, [.int nw_minute, .int nw_offered, .int nw_table, .int nw_sitting, .int nw_gullet, .long nw_knows])), (h0, .inr (11, [.ref tp, .int s_taped, .ref dr, .ref rr, .ref rl, .int s_ruleCount, .int s_inForce, .ref to, .ref df, .ref nw, .ref tr, .ref no, .ref pa, .ref im, .ref co, .ref se, .ref ga, .ref pt, .int s_x])), (to, .inr (1, [.int to_deep, .int to_dishes, .int to_guests, .ref tolo, .ref tosa, .ref toea, .ref tocl]))] ∧ va_S A s.heap H locs ∧ lv_has ls 9 [] ∧ g = F0 m 19 ls []) (fun H locs g h => ?_) (fun hJ19 => ?_)
  · obtain ⟨ls, hP, hD, hS, hl, rfl⟩ := h
    refine lv_iconst (v := (-1)) hx hb dX11_crumbs_19 (by decide) ?_
    refine W.widen (k := 0) (n := 0) (Nat.le_of_ble_eq_true rfl) (Nat.le_of_ble_eq_true rfl) ?_
    exact W.iret (v := (-1)) hx hb hr (fun t ht hW => ⟨⟨(-1), (), rfl, trivial, by rw [ht]; exact (hP.sub (ws' := [(h0, .inr (11, [.ref tp, .int s_taped, .ref dr, .ref rr, .ref rl, .int s_ruleCount, .int s_inForce, .ref to, .ref df, .ref nw, .ref tr, .ref no, .ref pa, .ref im, .ref co, .ref se, .ref ga, .ref pt, .int s_x])), (to, .inr (1, [.int to_deep, .int to_dishes, .int to_guests, .ref tolo, .ref tosa, .ref toea, .ref tocl])), (nw, .inr (3, [.int nw_minute, .int nw_offered, .int nw_table, .int nw_sitting, .int nw_gullet, .long nw_knows]))]) [1, 2, 0] rfl), va_K.moved hW.alike hK, (hD.sub (ws' := [(h0, .inr (11, [.ref tp, .int s_taped, .ref dr, .ref rr, .ref rl, .int s_ruleCount, .int s_inForce, .ref to, .ref df, .ref nw, .ref tr, .ref no, .ref pa, .ref im, .ref co, .ref se, .ref ga, .ref pt, .int s_x])), (to, .inr (1, [.int to_deep, .int to_dishes, .int to_guests, .ref tolo, .ref tosa, .ref toea, .ref tocl])), (nw, .inr (3, [.int nw_minute, .int nw_offered, .int nw_table, .int nw_sitting, .int nw_gullet, .long nw_knows]))]) [1, 2, 0] (by decide) rfl)⟩, hS.F ht⟩) hS.2.2 dX11_crumbs_20
  refine lv_if_eq (tgt := 19) hx hb dX11_crumbs_5 (by decide) (fun c_245 => ?_) (fun c_245 => ?_)
  · exact hJ19 _ _ _ ⟨_, hP, hD, hS, (lv_sub hl [] rfl), rfl⟩
  · refine lv_iload_n hx hb dX11_crumbs_8 rfl (lv_at hl 1 rfl) ?_
    refine lv_iconst (v := 0) hx hb dX11_crumbs_9 (by decide) ?_
    refine lv_sipush (v := 9999) hx hb dX11_crumbs_10 (by decide) ?_
    have hPc := hP.sub (ws' := []) [] rfl
    have hDc := hD.sub (ws' := []) [] (by decide) rfl
    have hKc := hK.sub (tys' := []) [] rfl
    have hFc := va_free (wc := []) hD hS hA [] rfl
    refine va_calli (va_runS (As := [.int x0, .int 0, .int 9999]) (rest := []) ⟨hx, hb, hml, hown, hq⟩ (x_within l dC dI _ x0 0 9999 ) (cwS 3 hq (gS qw_743 qw_744 qw_119 qw_745) rfl rfl rfl (by decide +kernel) ⟨Nat.le_of_ble_eq_true rfl, Nat.le_of_ble_eq_true rfl⟩) ⟨fun a U g mk q => by obtain ⟨q0, q1, qP, qK, qD, qE⟩ := q; exact ⟨q0, q1, qP, va_K.moved (u := U) (U := U.calling g mk a) (Vm.Alike.refl U.vm) qK, qD, xE.same rfl qE⟩, fun U hU hW => ⟨rfl, by rw [hU], by rw [hU]; exact hPc, va_K.moved hW.alike hKc, hDc.weaken (fun _ _ _ _ => trivial), xE.warm hW hE⟩⟩ rfl rfl hl.1 rfl (lv_room (Nat.le_of_ble_eq_true rfl)) dX11_crumbs_13 ⟨Nat.le_of_ble_eq_true rfl, Nat.le_of_ble_eq_true rfl⟩) hS (fun q _ h => hFc q h) hFc (fun r_246 u t H1 locs ht hvm hw hB hz1 hk1 hS => ?_)
    obtain ⟨hP1, hK1, hD1⟩ := hB
    rw [ht] at hP1
    obtain ⟨hP, hD⟩ := va_join (wr := [(nw, .inr (3, [.int nw_minute, .int nw_offered, .int nw_table, .int nw_sitting, .int nw_gullet, .long nw_knows])), (h0, .inr (11, [.ref tp, .int s_taped, .ref dr, .ref rr, .ref rl, .int s_ruleCount, .int s_inForce, .ref to, .ref df, .ref nw, .ref tr, .ref no, .ref pa, .ref im, .ref co, .ref se, .ref ga, .ref pt, .int s_x])), (to, .inr (1, [.int to_deep, .int to_dishes, .int to_guests, .ref tolo, .ref tosa, .ref toea, .ref tocl]))]) (w1 := []) hP hD [] [0, 1, 2] rfl rfl (by decide) (by decide) hk1 hFc hP1 hD1
    generalize H1 = H at hP hS ⊢
    have hP : va_P (dC, dI) classes [(nw, .inr (3, [.int nw_minute, .int nw_offered, .int nw_table, .int nw_sitting, .int nw_gullet, .long nw_knows])), (h0, .inr (11, [.ref tp, .int s_taped, .ref dr, .ref rr, .ref rl, .int s_ruleCount, .int s_inForce, .ref to, .ref df, .ref nw, .ref tr, .ref no, .ref pa, .ref im, .ref co, .ref se, .ref ga, .ref pt, .int s_x])), (to, .inr (1, [.int to_deep, .int to_dishes, .int to_guests, .ref tolo, .ref tosa, .ref toea, .ref tocl]))] H := hP
    have hD : va_D A [(nw, .inr (3, [.int nw_minute, .int nw_offered, .int nw_table, .int nw_sitting, .int nw_gullet, .long nw_knows])), (h0, .inr (11, [.ref tp, .int s_taped, .ref dr, .ref rr, .ref rl, .int s_ruleCount, .int s_inForce, .ref to, .ref df, .ref nw, .ref tr, .ref no, .ref pa, .ref im, .ref co, .ref se, .ref ga, .ref pt, .int s_x])), (to, .inr (1, [.int to_deep, .int to_dishes, .int to_guests, .ref tolo, .ref tosa, .ref toea, .ref tocl]))] := hD
    refine lv_if_ne (tgt := 21) hx hb dX11_crumbs_16 (by decide) (fun c_247 => ?_) (fun c_247 => ?_)
    · refine lv_aload_n hx hb dX11_crumbs_21 rfl (lv_at hl 0 rfl) ?_
      refine va_get (D := (dC, dI)) (ci := 11) (v := .ref nw) (C := RX11) (T := TX11) (N := 19) hx hb hq inX11 hown hK hP 1 rfl rfl 9 (by decide) (hq _ qw_458) (fun _ h9 => h9) rfl dX11_crumbs_22 ?_
      refine va_get (D := (dC, dI)) (ci := 3) (v := .long nw_knows) (C := RX3) (T := TX3) (N := 6) hx hb hq inX3 hown hK hP 0 rfl rfl 5 (by decide) (hq _ qw_287) (fun _ h9 => h9) rfl dX11_crumbs_25 ?_
      have hPc := hP.sub (ws' := []) [] rfl
      have hDc := hD.sub (ws' := []) [] (by decide) rfl
      have hKc := hK.sub (tys' := []) [] rfl
      have hFc := va_free (wc := []) hD hS hA [] rfl
      refine va_calli (va_runS (As := [.long nw_knows]) (rest := []) ⟨hx, hb, hml, hown, hq⟩ (j_bitsl l dC dI _ nw_knows ) (va_cwS 1 hq (gT qw_1047 qw_999 qw_138 qw_1000) rfl rfl rfl (by decide +kernel) ⟨Nat.le_of_ble_eq_true rfl, Nat.le_of_ble_eq_true rfl⟩) ⟨fun a U g mk q => by obtain ⟨q0, q1, qP, qK, qD, qE⟩ := q; exact ⟨q0, q1, qP, va_K.moved (u := U) (U := U.calling g mk a) (Vm.Alike.refl U.vm) qK, qD, xE.same rfl qE⟩, fun U hU hW => ⟨rfl, by rw [hU], by rw [hU]; exact hPc, va_K.moved hW.alike hKc, hDc.weaken (fun _ _ _ _ => trivial), xE.warm hW hE⟩⟩ rfl rfl hl.1 rfl (lv_room (Nat.le_of_ble_eq_true rfl)) dX11_crumbs_28 ⟨Nat.le_of_ble_eq_true rfl, Nat.le_of_ble_eq_true rfl⟩) hS (fun q _ h => hFc q h) hFc (fun r_248 u t H1 locs ht hvm hw hB hz1 hk1 hS => ?_)
      obtain ⟨hP1, hK1, hD1⟩ := hB
      rw [ht] at hP1
      obtain ⟨hP, hD⟩ := va_join (wr := [(nw, .inr (3, [.int nw_minute, .int nw_offered, .int nw_table, .int nw_sitting, .int nw_gullet, .long nw_knows])), (h0, .inr (11, [.ref tp, .int s_taped, .ref dr, .ref rr, .ref rl, .int s_ruleCount, .int s_inForce, .ref to, .ref df, .ref nw, .ref tr, .ref no, .ref pa, .ref im, .ref co, .ref se, .ref ga, .ref pt, .int s_x])), (to, .inr (1, [.int to_deep, .int to_dishes, .int to_guests, .ref tolo, .ref tosa, .ref toea, .ref tocl]))]) (w1 := []) hP hD [] [0, 1, 2] rfl rfl (by decide) (by decide) hk1 hFc hP1 hD1
      generalize H1 = H at hP hS ⊢
      have hP : va_P (dC, dI) classes [(nw, .inr (3, [.int nw_minute, .int nw_offered, .int nw_table, .int nw_sitting, .int nw_gullet, .long nw_knows])), (h0, .inr (11, [.ref tp, .int s_taped, .ref dr, .ref rr, .ref rl, .int s_ruleCount, .int s_inForce, .ref to, .ref df, .ref nw, .ref tr, .ref no, .ref pa, .ref im, .ref co, .ref se, .ref ga, .ref pt, .int s_x])), (to, .inr (1, [.int to_deep, .int to_dishes, .int to_guests, .ref tolo, .ref tosa, .ref toea, .ref tocl]))] H := hP
      have hD : va_D A [(nw, .inr (3, [.int nw_minute, .int nw_offered, .int nw_table, .int nw_sitting, .int nw_gullet, .long nw_knows])), (h0, .inr (11, [.ref tp, .int s_taped, .ref dr, .ref rr, .ref rl, .int s_ruleCount, .int s_inForce, .ref to, .ref df, .ref nw, .ref tr, .ref no, .ref pa, .ref im, .ref co, .ref se, .ref ga, .ref pt, .int s_x])), (to, .inr (1, [.int to_deep, .int to_dishes, .int to_guests, .ref tolo, .ref tosa, .ref toea, .ref tocl]))] := hD
      refine lv_istore_n (lv' := [(3, .int r_248), (0, .ref h0), (1, .int x0), (2, .int x1)]) hx hb dX11_crumbs_31 rfl hl (by decide) rfl (fun ls hl => ?_)
      refine lv_iload_n hx hb dX11_crumbs_32 rfl (lv_at hl 0 rfl) ?_
      refine lv_if_ne (tgt := 38) hx hb dX11_crumbs_33 (by decide) (fun c_249 => ?_) (fun c_249 => ?_)
      · refine lv_iload_n hx hb dX11_crumbs_38 rfl (lv_at hl 2 rfl) ?_
        refine lv_istore (lv' := [(4, .int x0), (3, .int r_248), (0, .ref h0), (1, .int x0), (2, .int x1)]) hx hb dX11_crumbs_39 hl (by decide) rfl (fun ls hl => ?_)
        refine lv_iconst (v := 0) hx hb dX11_crumbs_41 (by decide) ?_
        refine lv_istore (lv' := [(5, .int 0), (4, .int x0), (3, .int r_248), (0, .ref h0), (1, .int x0), (2, .int x1)]) hx hb dX11_crumbs_42 hl (by decide) rfl (fun ls hl => ?_)
        refine lv_aload_n hx hb dX11_crumbs_44 rfl (lv_at hl 3 rfl) ?_
        refine lv_iload_n hx hb dX11_crumbs_45 rfl (lv_at hl 4 rfl) ?_
        refine lv_iload_n hx hb dX11_crumbs_46 rfl (lv_at hl 5 rfl) ?_
        have hPc := hP.sub (ws' := [(h0, .inr (11, [.ref tp, .int s_taped, .ref dr, .ref rr, .ref rl, .int s_ruleCount, .int s_inForce, .ref to, .ref df, .ref nw, .ref tr, .ref no, .ref pa, .ref im, .ref co, .ref se, .ref ga, .ref pt, .int s_x])), (nw, .inr (3, [.int nw_minute, .int nw_offered, .int nw_table, .int nw_sitting, .int nw_gullet, .long nw_knows]))]) [1, 0] rfl
        have hDc := hD.sub (ws' := [(h0, .inr (11, [.ref tp, .int s_taped, .ref dr, .ref rr, .ref rl, .int s_ruleCount, .int s_inForce, .ref to, .ref df, .ref nw, .ref tr, .ref no, .ref pa, .ref im, .ref co, .ref se, .ref ga, .ref pt, .int s_x])), (nw, .inr (3, [.int nw_minute, .int nw_offered, .int nw_table, .int nw_sitting, .int nw_gullet, .long nw_knows]))]) [1, 0] (by decide) rfl
        have hKc := hK.sub (tys' := []) [] rfl
        have hFc := va_free (wc := [(h0, .inr (11, [.ref tp, .int s_taped, .ref dr, .ref rr, .ref rl, .int s_ruleCount, .int s_inForce, .ref to, .ref df, .ref nw, .ref tr, .ref no, .ref pa, .ref im, .ref co, .ref se, .ref ga, .ref pt, .int s_x])), (nw, .inr (3, [.int nw_minute, .int nw_offered, .int nw_table, .int nw_sitting, .int nw_gullet, .long nw_knows]))]) hD hS hA [1, 0] rfl
        refine va_calli (va_runV (As := [.int x0, .int x1]) (rest := []) ⟨hx, hb, hml, hown, hq⟩ (x_shareOf l dC dI _ h0 tp s_taped dr rr rl s_ruleCount s_inForce to df nw tr no pa im co se ga pt s_x nw_minute nw_offered nw_table nw_sitting nw_gullet nw_knows x0 x1 ) (cwV 2 hq (gV qw_1072 qw_1074 qw_33 qw_119 qw_1075) rfl rfl rfl (by decide +kernel) ⟨Nat.le_of_ble_eq_true rfl, Nat.le_of_ble_eq_true rfl⟩) ⟨fun a U g mk q => by obtain ⟨q0, q1, qP, qK, qD, qE⟩ := q; exact ⟨q0, q1, qP, va_K.moved (u := U) (U := U.calling g mk a) (Vm.Alike.refl U.vm) qK, qD, xE.same rfl qE⟩, va_recv hKc hPc (ci := 11) (q0 := 0) rfl rfl, fun U hU hW => ⟨rfl, by rw [hU], by rw [hU]; exact hPc, va_K.moved hW.alike hKc, hDc.weaken (fun _ _ _ _ => trivial), xE.warm hW hE⟩⟩ rfl rfl hl.1 rfl (lv_room (Nat.le_of_ble_eq_true rfl)) dX11_crumbs_47 ⟨Nat.le_of_ble_eq_true rfl, Nat.le_of_ble_eq_true rfl⟩) hS (fun q _ h => hFc q h) hFc (fun r_250 u t H1 locs ht hvm hw hB hz1 hk1 hS => ?_)
        obtain ⟨hP1, hK1, hD1⟩ := hB
        rw [ht] at hP1
        obtain ⟨hP, hD⟩ := va_join (wr := [(to, .inr (1, [.int to_deep, .int to_dishes, .int to_guests, .ref tolo, .ref tosa, .ref toea, .ref tocl]))]) (w1 := [(h0, .inr (11, [.ref tp, .int s_taped, .ref dr, .ref rr, .ref rl, .int s_ruleCount, .int s_inForce, .ref to, .ref df, .ref nw, .ref tr, .ref no, .ref pa, .ref im, .ref co, .ref se, .ref ga, .ref pt, .int s_x])), (nw, .inr (3, [.int nw_minute, .int nw_offered, .int nw_table, .int nw_sitting, .int nw_gullet, .long nw_knows]))]) hP hD [1, 0] [2] rfl rfl (by decide) (by decide) hk1 hFc hP1 hD1
        generalize H1 = H at hP hS ⊢
        have hP : va_P (dC, dI) classes [(to, .inr (1, [.int to_deep, .int to_dishes, .int to_guests, .ref tolo, .ref tosa, .ref toea, .ref tocl])), (h0, .inr (11, [.ref tp, .int s_taped, .ref dr, .ref rr, .ref rl, .int s_ruleCount, .int s_inForce, .ref to, .ref df, .ref nw, .ref tr, .ref no, .ref pa, .ref im, .ref co, .ref se, .ref ga, .ref pt, .int s_x])), (nw, .inr (3, [.int nw_minute, .int nw_offered, .int nw_table, .int nw_sitting, .int nw_gullet, .long nw_knows]))] H := hP
        have hD : va_D A [(to, .inr (1, [.int to_deep, .int to_dishes, .int to_guests, .ref tolo, .ref tosa, .ref toea, .ref tocl])), (h0, .inr (11, [.ref tp, .int s_taped, .ref dr, .ref rr, .ref rl, .int s_ruleCount, .int s_inForce, .ref to, .ref df, .ref nw, .ref tr, .ref no, .ref pa, .ref im, .ref co, .ref se, .ref ga, .ref pt, .int s_x])), (nw, .inr (3, [.int nw_minute, .int nw_offered, .int nw_table, .int nw_sitting, .int nw_gullet, .long nw_knows]))] := hD
        refine lv_iload_n hx hb dX11_crumbs_50 rfl (lv_at hl 2 rfl) ?_
        refine lv_irem hx hb dX11_crumbs_51 (c_249) ?_
        refine lv_topi (fun y_251 ey_251 => ?_)
        refine lv_istore (lv' := [(6, .int y_251), (5, .int 0), (4, .int x0), (3, .int r_248), (0, .ref h0), (1, .int x0), (2, .int x1)]) hx hb dX11_crumbs_52 hl (by decide) rfl (fun ls hl => ?_)
        refine lv_iconst (v := 0) hx hb dX11_crumbs_54 (by decide) ?_
        refine lv_istore (lv' := [(7, .int 0), (6, .int y_251), (5, .int 0), (4, .int x0), (3, .int r_248), (0, .ref h0), (1, .int x0), (2, .int x1)]) hx hb dX11_crumbs_55 hl (by decide) rfl (fun ls hl => ?_)
        refine W.loop (I := fun n H locs g => ∃ (y_262 : Int32) (y_263 : Int32) (y_264 : Int32) (ls : Array Slot), bt 0 2147483647 y_262 ∧ 2147483647 - y_262.toInt < (n : Int) ∧ va_P (dC, dI) classes [(to, .inr (1, [.int to_deep, .int to_dishes, .int to_guests, .ref tolo, .ref tosa, .ref toea, .ref tocl])), (h0, .inr (11, [.ref tp, .int s_taped, .ref dr, .ref rr, .ref rl, .int s_ruleCount, .int s_inForce, .ref to, .ref df, .ref nw, .ref tr, .ref no, .ref pa, .ref im, .ref co, .ref se, .ref ga, .ref pt, .int s_x])), (nw, .inr (3, [.int nw_minute, .int nw_offered, .int nw_table, .int nw_sitting, .int nw_gullet, .long nw_knows]))] H ∧ va_D A [(to, .inr (1, [.int to_deep, .int to_dishes, .int to_guests, .ref tolo, .ref tosa, .ref toea, .ref tocl])), (h0, .inr (11, [.ref tp, .int s_taped, .ref dr, .ref rr, .ref rl, .int s_ruleCount, .int s_inForce, .ref to, .ref df, .ref nw, .ref tr, .ref no, .ref pa, .ref im, .ref co, .ref se, .ref ga, .ref pt, .int s_x])), (nw, .inr (3, [.int nw_minute, .int nw_offered, .int nw_table, .int nw_sitting, .int nw_gullet, .long nw_knows]))] ∧ va_S A s.heap H locs ∧ lv_has ls 9 [(7, .int y_262), (6, .int y_251), (5, .int y_263), (4, .int y_264), (3, .int r_248), (0, .ref h0), (1, .int x0), (2, .int x1)] ∧ g = F0 m 57 ls []) (fun H locs g h => ?_) (fun n ih57 H locs g h => ?_) (n := 2147483648) ⟨0, 0, x0, _, (bt_w (bt_k (x := 0) (c := 0) (by decide)) (by decide)), (ms_0 (bt_k (x := 0) (c := 0) (by decide)) (by decide)), hP, hD, hS, hl, rfl⟩
        · obtain ⟨y_262, y_263, y_264, ls, bd_v_7, hm, hP, hD, hS, hl, rfl⟩ := h
          exact ms_z bd_v_7 hm
        · obtain ⟨y_262, y_263, y_264, ls, bd_v_7, hm57, hP, hD, hS, hl, rfl⟩ := h
          refine lv_iload hx hb dX11_crumbs_57 (lv_at hl 0 rfl) ?_
          refine lv_aload_n hx hb dX11_crumbs_59 rfl (lv_at hl 5 rfl) ?_
          refine va_get (D := (dC, dI)) (ci := 11) (v := .ref to) (C := RX11) (T := TX11) (N := 19) hx hb hq inX11 hown hK hP 1 rfl rfl 7 (by decide) (hq _ qw_456) (fun _ h9 => h9) rfl dX11_crumbs_60 ?_
          refine va_get (D := (dC, dI)) (ci := 1) (v := .int to_guests) (C := RX1) (T := TX1) (N := 7) hx hb hq inX1 hown hK hP 0 rfl rfl 2 (by decide) (hq _ qw_235) (fun _ h9 => h9) rfl dX11_crumbs_63 ?_
          refine lv_icmp_ge (tgt := 120) hx hb dX11_crumbs_66 (by decide) (fun c_349 => ?_) (fun c_349 => ?_)
          · refine lv_aload_n hx hb dX11_crumbs_120 rfl (lv_at hl 5 rfl) ?_
            refine lv_iload_n hx hb dX11_crumbs_121 rfl (lv_at hl 6 rfl) ?_
            refine lv_iload_n hx hb dX11_crumbs_122 rfl (lv_at hl 7 rfl) ?_
            have hPc := hP.sub (ws' := [(h0, .inr (11, [.ref tp, .int s_taped, .ref dr, .ref rr, .ref rl, .int s_ruleCount, .int s_inForce, .ref to, .ref df, .ref nw, .ref tr, .ref no, .ref pa, .ref im, .ref co, .ref se, .ref ga, .ref pt, .int s_x])), (nw, .inr (3, [.int nw_minute, .int nw_offered, .int nw_table, .int nw_sitting, .int nw_gullet, .long nw_knows]))]) [1, 2] rfl
            have hDc := hD.sub (ws' := [(h0, .inr (11, [.ref tp, .int s_taped, .ref dr, .ref rr, .ref rl, .int s_ruleCount, .int s_inForce, .ref to, .ref df, .ref nw, .ref tr, .ref no, .ref pa, .ref im, .ref co, .ref se, .ref ga, .ref pt, .int s_x])), (nw, .inr (3, [.int nw_minute, .int nw_offered, .int nw_table, .int nw_sitting, .int nw_gullet, .long nw_knows]))]) [1, 2] (by decide) rfl
            have hKc := hK.sub (tys' := []) [] rfl
            have hFc := va_free (wc := [(h0, .inr (11, [.ref tp, .int s_taped, .ref dr, .ref rr, .ref rl, .int s_ruleCount, .int s_inForce, .ref to, .ref df, .ref nw, .ref tr, .ref no, .ref pa, .ref im, .ref co, .ref se, .ref ga, .ref pt, .int s_x])), (nw, .inr (3, [.int nw_minute, .int nw_offered, .int nw_table, .int nw_sitting, .int nw_gullet, .long nw_knows]))]) hD hS hA [1, 2] rfl
            refine va_calli (va_runV (As := [.int x0, .int x1]) (rest := []) ⟨hx, hb, hml, hown, hq⟩ (x_shareOf l dC dI _ h0 tp s_taped dr rr rl s_ruleCount s_inForce to df nw tr no pa im co se ga pt s_x nw_minute nw_offered nw_table nw_sitting nw_gullet nw_knows x0 x1 ) (cwV 2 hq (gV qw_1072 qw_1074 qw_33 qw_119 qw_1075) rfl rfl rfl (by decide +kernel) ⟨Nat.le_of_ble_eq_true rfl, Nat.le_of_ble_eq_true rfl⟩) ⟨fun a U g mk q => by obtain ⟨q0, q1, qP, qK, qD, qE⟩ := q; exact ⟨q0, q1, qP, va_K.moved (u := U) (U := U.calling g mk a) (Vm.Alike.refl U.vm) qK, qD, xE.same rfl qE⟩, va_recv hKc hPc (ci := 11) (q0 := 0) rfl rfl, fun U hU hW => ⟨rfl, by rw [hU], by rw [hU]; exact hPc, va_K.moved hW.alike hKc, hDc.weaken (fun _ _ _ _ => trivial), xE.warm hW hE⟩⟩ rfl rfl hl.1 rfl (lv_room (Nat.le_of_ble_eq_true rfl)) dX11_crumbs_123 ⟨Nat.le_of_ble_eq_true rfl, Nat.le_of_ble_eq_true rfl⟩) hS (fun q _ h => hFc q h) hFc (fun r_350 u t H1 locs ht hvm hw hB hz1 hk1 hS => ?_)
            obtain ⟨hP1, hK1, hD1⟩ := hB
            rw [ht] at hP1
            obtain ⟨hP, hD⟩ := va_join (wr := [(to, .inr (1, [.int to_deep, .int to_dishes, .int to_guests, .ref tolo, .ref tosa, .ref toea, .ref tocl]))]) (w1 := [(h0, .inr (11, [.ref tp, .int s_taped, .ref dr, .ref rr, .ref rl, .int s_ruleCount, .int s_inForce, .ref to, .ref df, .ref nw, .ref tr, .ref no, .ref pa, .ref im, .ref co, .ref se, .ref ga, .ref pt, .int s_x])), (nw, .inr (3, [.int nw_minute, .int nw_offered, .int nw_table, .int nw_sitting, .int nw_gullet, .long nw_knows]))]) hP hD [1, 2] [0] rfl rfl (by decide) (by decide) hk1 hFc hP1 hD1
            generalize H1 = H at hP hS ⊢
            have hP : va_P (dC, dI) classes [(to, .inr (1, [.int to_deep, .int to_dishes, .int to_guests, .ref tolo, .ref tosa, .ref toea, .ref tocl])), (h0, .inr (11, [.ref tp, .int s_taped, .ref dr, .ref rr, .ref rl, .int s_ruleCount, .int s_inForce, .ref to, .ref df, .ref nw, .ref tr, .ref no, .ref pa, .ref im, .ref co, .ref se, .ref ga, .ref pt, .int s_x])), (nw, .inr (3, [.int nw_minute, .int nw_offered, .int nw_table, .int nw_sitting, .int nw_gullet, .long nw_knows]))] H := hP
            have hD : va_D A [(to, .inr (1, [.int to_deep, .int to_dishes, .int to_guests, .ref tolo, .ref tosa, .ref toea, .ref tocl])), (h0, .inr (11, [.ref tp, .int s_taped, .ref dr, .ref rr, .ref rl, .int s_ruleCount, .int s_inForce, .ref to, .ref df, .ref nw, .ref tr, .ref no, .ref pa, .ref im, .ref co, .ref se, .ref ga, .ref pt, .int s_x])), (nw, .inr (3, [.int nw_minute, .int nw_offered, .int nw_table, .int nw_sitting, .int nw_gullet, .long nw_knows]))] := hD
            refine lv_iload_n hx hb dX11_crumbs_126 rfl (lv_at hl 4 rfl) ?_
            refine lv_idiv hx hb dX11_crumbs_127 (c_249) ?_
            refine lv_topi (fun y_351 ey_351 => ?_)
            refine lv_iload hx hb dX11_crumbs_128 (lv_at hl 2 rfl) ?_
            refine lv_iload hx hb dX11_crumbs_130 (lv_at hl 3 rfl) ?_
            refine W.cut (I := fun H locs g => ∃ (y_353 : Int32) (ls : Array Slot), va_P (dC, dI) classes [(to, .inr (1, [.int to_deep, .int to_dishes, .int to_guests, .ref tolo, .ref tosa, .ref toea, .ref tocl])), (h0, .inr (11, [.ref tp, .int s_taped, .ref dr, .ref rr, .ref rl, .int s_ruleCount, .int s_inForce, .ref to, .ref df, .ref nw, .ref tr, .ref no, .ref pa, .ref im, .ref co, .ref se, .ref ga, .ref pt, .int s_x])), (nw, .inr (3, [.int nw_minute, .int nw_offered, .int nw_table, .int nw_sitting, .int nw_gullet, .long nw_knows]))] H ∧ va_D A [(to, .inr (1, [.int to_deep, .int to_dishes, .int to_guests, .ref tolo, .ref tosa, .ref toea, .ref tocl])), (h0, .inr (11, [.ref tp, .int s_taped, .ref dr, .ref rr, .ref rl, .int s_ruleCount, .int s_inForce, .ref to, .ref df, .ref nw, .ref tr, .ref no, .ref pa, .ref im, .ref co, .ref se, .ref ga, .ref pt, .int s_x])), (nw, .inr (3, [.int nw_minute, .int nw_offered, .int nw_table, .int nw_sitting, .int nw_gullet, .long nw_knows]))] ∧ va_S A s.heap H locs ∧ lv_has ls 9 [] ∧ g = F0 m 140 ls [.int y_353, .int y_351]) (fun H locs g h => ?_) (fun hJ140 => ?_)
            · obtain ⟨y_353, ls, hP, hD, hS, hl, rfl⟩ := h
              refine lv_iadd hx hb dX11_crumbs_140 ?_
              refine lv_topi (fun y_355 ey_355 => ?_)
              refine W.widen (k := 0) (n := 0) (Nat.le_of_ble_eq_true rfl) (Nat.le_of_ble_eq_true rfl) ?_
              exact W.iret (v := y_355) hx hb hr (fun t ht hW => ⟨⟨y_355, (), rfl, trivial, by rw [ht]; exact (hP.sub (ws' := [(h0, .inr (11, [.ref tp, .int s_taped, .ref dr, .ref rr, .ref rl, .int s_ruleCount, .int s_inForce, .ref to, .ref df, .ref nw, .ref tr, .ref no, .ref pa, .ref im, .ref co, .ref se, .ref ga, .ref pt, .int s_x])), (to, .inr (1, [.int to_deep, .int to_dishes, .int to_guests, .ref tolo, .ref tosa, .ref toea, .ref tocl])), (nw, .inr (3, [.int nw_minute, .int nw_offered, .int nw_table, .int nw_sitting, .int nw_gullet, .long nw_knows]))]) [1, 0, 2] rfl), va_K.moved hW.alike hK, (hD.sub (ws' := [(h0, .inr (11, [.ref tp, .int s_taped, .ref dr, .ref rr, .ref rl, .int s_ruleCount, .int s_inForce, .ref to, .ref df, .ref nw, .ref tr, .ref no, .ref pa, .ref im, .ref co, .ref se, .ref ga, .ref pt, .int s_x])), (to, .inr (1, [.int to_deep, .int to_dishes, .int to_guests, .ref tolo, .ref tosa, .ref toea, .ref tocl])), (nw, .inr (3, [.int nw_minute, .int nw_offered, .int nw_table, .int nw_sitting, .int nw_gullet, .long nw_knows]))]) [1, 0, 2] (by decide) rfl)⟩, hS.F ht⟩) hS.2.2 dX11_crumbs_141
            refine lv_icmp_ge (tgt := 139) hx hb dX11_crumbs_132 (by decide) (fun c_356 => ?_) (fun c_356 => ?_)
            · refine lv_iconst (v := 0) hx hb dX11_crumbs_139 (by decide) ?_
              exact hJ140 _ _ _ ⟨0, _, hP, hD, hS, (lv_sub hl [] rfl), rfl⟩
            · refine lv_iconst (v := 1) hx hb dX11_crumbs_135 (by decide) ?_
              refine lv_goto (tgt := 140) hx hb dX11_crumbs_136 (by decide) ?_
              exact hJ140 _ _ _ ⟨1, _, hP, hD, hS, (lv_sub hl [] rfl), rfl⟩
          · refine lv_aload_n hx hb dX11_crumbs_69 rfl (lv_at hl 5 rfl) ?_
            refine lv_iload_n hx hb dX11_crumbs_70 rfl (lv_at hl 6 rfl) ?_
            refine lv_iload hx hb dX11_crumbs_71 (lv_at hl 0 rfl) ?_
            have hPc := hP.sub (ws' := [(h0, .inr (11, [.ref tp, .int s_taped, .ref dr, .ref rr, .ref rl, .int s_ruleCount, .int s_inForce, .ref to, .ref df, .ref nw, .ref tr, .ref no, .ref pa, .ref im, .ref co, .ref se, .ref ga, .ref pt, .int s_x])), (nw, .inr (3, [.int nw_minute, .int nw_offered, .int nw_table, .int nw_sitting, .int nw_gullet, .long nw_knows]))]) [1, 2] rfl
            have hDc := hD.sub (ws' := [(h0, .inr (11, [.ref tp, .int s_taped, .ref dr, .ref rr, .ref rl, .int s_ruleCount, .int s_inForce, .ref to, .ref df, .ref nw, .ref tr, .ref no, .ref pa, .ref im, .ref co, .ref se, .ref ga, .ref pt, .int s_x])), (nw, .inr (3, [.int nw_minute, .int nw_offered, .int nw_table, .int nw_sitting, .int nw_gullet, .long nw_knows]))]) [1, 2] (by decide) rfl
            have hKc := hK.sub (tys' := []) [] rfl
            have hFc := va_free (wc := [(h0, .inr (11, [.ref tp, .int s_taped, .ref dr, .ref rr, .ref rl, .int s_ruleCount, .int s_inForce, .ref to, .ref df, .ref nw, .ref tr, .ref no, .ref pa, .ref im, .ref co, .ref se, .ref ga, .ref pt, .int s_x])), (nw, .inr (3, [.int nw_minute, .int nw_offered, .int nw_table, .int nw_sitting, .int nw_gullet, .long nw_knows]))]) hD hS hA [1, 2] rfl
            refine va_calli (va_runV (As := [.int x0, .int y_262]) (rest := []) ⟨hx, hb, hml, hown, hq⟩ (x_shareOf l dC dI _ h0 tp s_taped dr rr rl s_ruleCount s_inForce to df nw tr no pa im co se ga pt s_x nw_minute nw_offered nw_table nw_sitting nw_gullet nw_knows x0 y_262 ) (cwV 2 hq (gV qw_1072 qw_1074 qw_33 qw_119 qw_1075) rfl rfl rfl (by decide +kernel) ⟨Nat.le_of_ble_eq_true rfl, Nat.le_of_ble_eq_true rfl⟩) ⟨fun a U g mk q => by obtain ⟨q0, q1, qP, qK, qD, qE⟩ := q; exact ⟨q0, q1, qP, va_K.moved (u := U) (U := U.calling g mk a) (Vm.Alike.refl U.vm) qK, qD, xE.same rfl qE⟩, va_recv hKc hPc (ci := 11) (q0 := 0) rfl rfl, fun U hU hW => ⟨rfl, by rw [hU], by rw [hU]; exact hPc, va_K.moved hW.alike hKc, hDc.weaken (fun _ _ _ _ => trivial), xE.warm hW hE⟩⟩ rfl rfl hl.1 rfl (lv_room (Nat.le_of_ble_eq_true rfl)) dX11_crumbs_73 ⟨Nat.le_of_ble_eq_true rfl, Nat.le_of_ble_eq_true rfl⟩) hS (fun q _ h => hFc q h) hFc (fun r_357 u t H1 locs ht hvm hw hB hz1 hk1 hS => ?_)
            obtain ⟨hP1, hK1, hD1⟩ := hB
            rw [ht] at hP1
            obtain ⟨hP, hD⟩ := va_join (wr := [(to, .inr (1, [.int to_deep, .int to_dishes, .int to_guests, .ref tolo, .ref tosa, .ref toea, .ref tocl]))]) (w1 := [(h0, .inr (11, [.ref tp, .int s_taped, .ref dr, .ref rr, .ref rl, .int s_ruleCount, .int s_inForce, .ref to, .ref df, .ref nw, .ref tr, .ref no, .ref pa, .ref im, .ref co, .ref se, .ref ga, .ref pt, .int s_x])), (nw, .inr (3, [.int nw_minute, .int nw_offered, .int nw_table, .int nw_sitting, .int nw_gullet, .long nw_knows]))]) hP hD [1, 2] [0] rfl rfl (by decide) (by decide) hk1 hFc hP1 hD1
            generalize H1 = H at hP hS ⊢
            have hP : va_P (dC, dI) classes [(to, .inr (1, [.int to_deep, .int to_dishes, .int to_guests, .ref tolo, .ref tosa, .ref toea, .ref tocl])), (h0, .inr (11, [.ref tp, .int s_taped, .ref dr, .ref rr, .ref rl, .int s_ruleCount, .int s_inForce, .ref to, .ref df, .ref nw, .ref tr, .ref no, .ref pa, .ref im, .ref co, .ref se, .ref ga, .ref pt, .int s_x])), (nw, .inr (3, [.int nw_minute, .int nw_offered, .int nw_table, .int nw_sitting, .int nw_gullet, .long nw_knows]))] H := hP
            have hD : va_D A [(to, .inr (1, [.int to_deep, .int to_dishes, .int to_guests, .ref tolo, .ref tosa, .ref toea, .ref tocl])), (h0, .inr (11, [.ref tp, .int s_taped, .ref dr, .ref rr, .ref rl, .int s_ruleCount, .int s_inForce, .ref to, .ref df, .ref nw, .ref tr, .ref no, .ref pa, .ref im, .ref co, .ref se, .ref ga, .ref pt, .int s_x])), (nw, .inr (3, [.int nw_minute, .int nw_offered, .int nw_table, .int nw_sitting, .int nw_gullet, .long nw_knows]))] := hD
            refine lv_istore (lv' := [(8, .int r_357), (7, .int y_262), (6, .int y_251), (5, .int y_263), (4, .int y_264), (3, .int r_248), (0, .ref h0), (1, .int x0), (2, .int x1)]) hx hb dX11_crumbs_76 hl (by decide) rfl (fun ls hl => ?_)
            refine lv_iload hx hb dX11_crumbs_78 (lv_at hl 4 rfl) ?_
            refine lv_iload hx hb dX11_crumbs_80 (lv_at hl 0 rfl) ?_
            refine lv_iload_n hx hb dX11_crumbs_82 rfl (lv_at hl 5 rfl) ?_
            refine lv_idiv hx hb dX11_crumbs_83 (c_249) ?_
            refine lv_topi (fun y_358 ey_358 => ?_)
            refine lv_isub hx hb dX11_crumbs_84 ?_
            refine lv_topi (fun y_359 ey_359 => ?_)
            refine lv_istore (lv' := [(4, .int y_359), (8, .int r_357), (7, .int y_262), (6, .int y_251), (5, .int y_263), (3, .int r_248), (0, .ref h0), (1, .int x0), (2, .int x1)]) hx hb dX11_crumbs_85 hl (by decide) rfl (fun ls hl => ?_)
            refine lv_iload hx hb dX11_crumbs_87 (lv_at hl 1 rfl) ?_
            refine lv_iload_n hx hb dX11_crumbs_89 rfl (lv_at hl 5 rfl) ?_
            refine lv_irem hx hb dX11_crumbs_90 (c_249) ?_
            refine lv_topi (fun y_360 ey_360 => ?_)
            refine lv_iload hx hb dX11_crumbs_91 (lv_at hl 3 rfl) ?_
            refine W.cut (I := fun H locs g => ∃ (y_366 : Int32) (ls : Array Slot), va_P (dC, dI) classes [(to, .inr (1, [.int to_deep, .int to_dishes, .int to_guests, .ref tolo, .ref tosa, .ref toea, .ref tocl])), (h0, .inr (11, [.ref tp, .int s_taped, .ref dr, .ref rr, .ref rl, .int s_ruleCount, .int s_inForce, .ref to, .ref df, .ref nw, .ref tr, .ref no, .ref pa, .ref im, .ref co, .ref se, .ref ga, .ref pt, .int s_x])), (nw, .inr (3, [.int nw_minute, .int nw_offered, .int nw_table, .int nw_sitting, .int nw_gullet, .long nw_knows]))] H ∧ va_D A [(to, .inr (1, [.int to_deep, .int to_dishes, .int to_guests, .ref tolo, .ref tosa, .ref toea, .ref tocl])), (h0, .inr (11, [.ref tp, .int s_taped, .ref dr, .ref rr, .ref rl, .int s_ruleCount, .int s_inForce, .ref to, .ref df, .ref nw, .ref tr, .ref no, .ref pa, .ref im, .ref co, .ref se, .ref ga, .ref pt, .int s_x])), (nw, .inr (3, [.int nw_minute, .int nw_offered, .int nw_table, .int nw_sitting, .int nw_gullet, .long nw_knows]))] ∧ va_S A s.heap H locs ∧ lv_has ls 9 [(4, .int y_359), (7, .int y_262), (6, .int y_251), (5, .int y_366), (3, .int r_248), (0, .ref h0), (1, .int x0), (2, .int x1)] ∧ g = F0 m 114 ls []) (fun H locs g h => ?_) (fun hJ114 => ?_)
            · obtain ⟨y_366, ls, hP, hD, hS, hl, rfl⟩ := h
              obtain ⟨y_368, ey_368⟩ : ∃ y : Int32, y = y_262 + 1 := ⟨_, rfl⟩
              refine lv_iinc (v := y_368) (lv' := [(7, .int y_368), (4, .int y_359), (6, .int y_251), (5, .int y_366), (3, .int r_248), (0, .ref h0), (1, .int x0), (2, .int x1)]) hx hb dX11_crumbs_114 hl (k := 1) rfl (by rw [ey_368]; rfl) (by decide) rfl (fun ls hl => ?_)
              refine lv_goto (tgt := 57) hx hb dX11_crumbs_117 (by decide) ?_
              have b_369 : bt 0 2147483646 y_262 := rf_lt_l bd_v_7 (bt_all to_guests) (Int32.not_le.mp c_349) (by decide)
              have b_370 : bt 1 2147483647 y_368 := bt_add ey_368 b_369 (bt_k (x := 1) (c := 1) (by decide)) (by decide)
              exact ih57 _ _ _ ⟨y_368, y_366, y_359, _, (bt_w b_370 (by decide)), (ms_s ey_368 b_369 hm57 (by decide)), hP, hD, hS, (lv_sub hl [0, 2, 3, 1, 4, 5, 6, 7] rfl), rfl⟩
            refine W.cut (I := fun H locs g => ∃ (ls : Array Slot), va_P (dC, dI) classes [(to, .inr (1, [.int to_deep, .int to_dishes, .int to_guests, .ref tolo, .ref tosa, .ref toea, .ref tocl])), (h0, .inr (11, [.ref tp, .int s_taped, .ref dr, .ref rr, .ref rl, .int s_ruleCount, .int s_inForce, .ref to, .ref df, .ref nw, .ref tr, .ref no, .ref pa, .ref im, .ref co, .ref se, .ref ga, .ref pt, .int s_x])), (nw, .inr (3, [.int nw_minute, .int nw_offered, .int nw_table, .int nw_sitting, .int nw_gullet, .long nw_knows]))] H ∧ va_D A [(to, .inr (1, [.int to_deep, .int to_dishes, .int to_guests, .ref tolo, .ref tosa, .ref toea, .ref tocl])), (h0, .inr (11, [.ref tp, .int s_taped, .ref dr, .ref rr, .ref rl, .int s_ruleCount, .int s_inForce, .ref to, .ref df, .ref nw, .ref tr, .ref no, .ref pa, .ref im, .ref co, .ref se, .ref ga, .ref pt, .int s_x])), (nw, .inr (3, [.int nw_minute, .int nw_offered, .int nw_table, .int nw_sitting, .int nw_gullet, .long nw_knows]))] ∧ va_S A s.heap H locs ∧ lv_has ls 9 [(4, .int y_359), (7, .int y_262), (6, .int y_251), (5, .int y_263), (3, .int r_248), (0, .ref h0), (1, .int x0), (2, .int x1)] ∧ g = F0 m 111 ls []) (fun H locs g h => ?_) (fun hJ111 => ?_)
            · obtain ⟨ls, hP, hD, hS, hl, rfl⟩ := h
              obtain ⟨y_371, ey_371⟩ : ∃ y : Int32, y = y_263 + 1 := ⟨_, rfl⟩
              refine lv_iinc (v := y_371) (lv' := [(5, .int y_371), (4, .int y_359), (7, .int y_262), (6, .int y_251), (3, .int r_248), (0, .ref h0), (1, .int x0), (2, .int x1)]) hx hb dX11_crumbs_111 hl (k := 3) rfl (by rw [ey_371]; rfl) (by decide) rfl (fun ls hl => ?_)
              exact hJ114 _ _ _ ⟨y_371, _, hP, hD, hS, (lv_sub hl [1, 2, 3, 0, 4, 5, 6, 7] rfl), rfl⟩
            refine lv_icmp_gt (tgt := 111) hx hb dX11_crumbs_93 (by decide) (fun c_372 => ?_) (fun c_372 => ?_)
            · exact hJ111 _ _ _ ⟨_, hP, hD, hS, (lv_sub hl [0, 2, 3, 4, 5, 6, 7, 8] rfl), rfl⟩
            · refine lv_iload hx hb dX11_crumbs_96 (lv_at hl 1 rfl) ?_
              refine lv_iload_n hx hb dX11_crumbs_98 rfl (lv_at hl 5 rfl) ?_
              refine lv_irem hx hb dX11_crumbs_99 (c_249) ?_
              refine lv_topi (fun y_373 ey_373 => ?_)
              refine lv_iload hx hb dX11_crumbs_100 (lv_at hl 3 rfl) ?_
              refine lv_icmp_ne (tgt := 114) hx hb dX11_crumbs_102 (by decide) (fun c_374 => ?_) (fun c_374 => ?_)
              · exact hJ114 _ _ _ ⟨y_263, _, hP, hD, hS, (lv_sub hl [0, 2, 3, 4, 5, 6, 7, 8] rfl), rfl⟩
              · refine lv_iload hx hb dX11_crumbs_105 (lv_at hl 2 rfl) ?_
                refine lv_iload_n hx hb dX11_crumbs_107 rfl (lv_at hl 8 rfl) ?_
                refine lv_icmp_ge (tgt := 114) hx hb dX11_crumbs_108 (by decide) (fun c_375 => ?_) (fun c_375 => ?_)
                · exact hJ114 _ _ _ ⟨y_263, _, hP, hD, hS, (lv_sub hl [0, 2, 3, 4, 5, 6, 7, 8] rfl), rfl⟩
                · exact hJ111 _ _ _ ⟨_, hP, hD, hS, (lv_sub hl [0, 2, 3, 4, 5, 6, 7, 8] rfl), rfl⟩
      · refine lv_iconst (v := 0) hx hb dX11_crumbs_36 (by decide) ?_
        refine W.widen (k := 0) (n := 0) (Nat.le_of_ble_eq_true rfl) (Nat.le_of_ble_eq_true rfl) ?_
        exact W.iret (v := 0) hx hb hr (fun t ht hW => ⟨⟨0, (), rfl, trivial, by rw [ht]; exact (hP.sub (ws' := [(h0, .inr (11, [.ref tp, .int s_taped, .ref dr, .ref rr, .ref rl, .int s_ruleCount, .int s_inForce, .ref to, .ref df, .ref nw, .ref tr, .ref no, .ref pa, .ref im, .ref co, .ref se, .ref ga, .ref pt, .int s_x])), (to, .inr (1, [.int to_deep, .int to_dishes, .int to_guests, .ref tolo, .ref tosa, .ref toea, .ref tocl])), (nw, .inr (3, [.int nw_minute, .int nw_offered, .int nw_table, .int nw_sitting, .int nw_gullet, .long nw_knows]))]) [1, 2, 0] rfl), va_K.moved hW.alike hK, (hD.sub (ws' := [(h0, .inr (11, [.ref tp, .int s_taped, .ref dr, .ref rr, .ref rl, .int s_ruleCount, .int s_inForce, .ref to, .ref df, .ref nw, .ref tr, .ref no, .ref pa, .ref im, .ref co, .ref se, .ref ga, .ref pt, .int s_x])), (to, .inr (1, [.int to_deep, .int to_dishes, .int to_guests, .ref tolo, .ref tosa, .ref toea, .ref tocl])), (nw, .inr (3, [.int nw_minute, .int nw_offered, .int nw_table, .int nw_sitting, .int nw_gullet, .long nw_knows]))]) [1, 2, 0] (by decide) rfl)⟩, hS.F ht⟩) hS.2.2 dX11_crumbs_37
    · exact hJ19 _ _ _ ⟨_, hP, hD, hS, (lv_sub hl [] rfl), rfl⟩

set_option maxHeartbeats 4000000 in
set_option maxRecDepth 100000 in
/-- x_note -/
theorem x_note (l : Launch) (dC : Nat → ClassId) (dI : Nat → Nat → Nat) (sz : Nat) (h0 : Nat) (tp : Nat) (s_taped : Int32) (dr : Nat) (rr : Nat) (rl : Nat) (s_ruleCount : Int32) (s_inForce : Int32) (to : Nat) (df : Nat) (nw : Nat) (tr : Nat) (no : Nat) (pa : Nat) (im : Nat) (co : Nat) (se : Nat) (ga : Nat) (pt : Nat) (s_x : Int32) (to_deep : Int32) (to_dishes : Int32) (to_guests : Int32) (tolo : Nat) (tosa : Nat) (toea : Nat) (tocl : Nat) (no_kept : Int32) (nowhen : Nat) (nowho : Nat) (nosecret : Nat) (noknew : Nat) (knowhen : ClassId) (gnowhen : Nat → Int32) (knowho : ClassId) (gnowho : Nat → Int32) (knosecret : ClassId) (gnosecret : Nat → Int32) (knoknew : ClassId) (gnoknew : Nat → Int32) (x0 : Int32) (x1 : Int32) (x2 : Int32) (x3 : Int32) : Met l yX11_note (.code yX11_note cX11_note 5 (some .int) :: wsA) ({ frames := 1, cells := 0, slots := 0, locals := 24 }) (va_Pc [.ref h0, .int x0, .int x1, .int x2, .int x3] (fun U => U.heap.size = sz ∧ va_P (dC, dI) classes [(h0, .inr (11, [.ref tp, .int s_taped, .ref dr, .ref rr, .ref rl, .int s_ruleCount, .int s_inForce, .ref to, .ref df, .ref nw, .ref tr, .ref no, .ref pa, .ref im, .ref co, .ref se, .ref ga, .ref pt, .int s_x])), (to, .inr (1, [.int to_deep, .int to_dishes, .int to_guests, .ref tolo, .ref tosa, .ref toea, .ref tocl])), (no, .inr (5, [.int no_kept, .ref nowhen, .ref nowho, .ref nosecret, .ref noknew])), (nowhen, .inl (knowhen, 10, .inl gnowhen)), (nowho, .inl (knowho, 10, .inl gnowho)), (nosecret, .inl (knosecret, 10, .inl gnosecret)), (noknew, .inl (knoknew, 10, .inl gnoknew))] U.heap ∧ va_K (dC, dI) classes [(knowhen, .int), (knowho, .int), (knosecret, .int), (knoknew, .int)] U ∧ va_D (fun _ => True) [(h0, .inr (11, [.ref tp, .int s_taped, .ref dr, .ref rr, .ref rl, .int s_ruleCount, .int s_inForce, .ref to, .ref df, .ref nw, .ref tr, .ref no, .ref pa, .ref im, .ref co, .ref se, .ref ga, .ref pt, .int s_x])), (to, .inr (1, [.int to_deep, .int to_dishes, .int to_guests, .ref tolo, .ref tosa, .ref toea, .ref tocl])), (no, .inr (5, [.int no_kept, .ref nowhen, .ref nowho, .ref nosecret, .ref noknew])), (nowhen, .inl (knowhen, 10, .inl gnowhen)), (nowho, .inl (knowho, 10, .inl gnowho)), (nosecret, .inl (knosecret, 10, .inl gnosecret)), (noknew, .inl (knoknew, 10, .inl gnoknew))] ∧ xE U)) (va_Qi (fun (r : Int32) (_ : Unit) => True) (fun _ t => ∃ (f_19 : Nat → Int32) (f_20 : Nat → Int32) (f_21 : Nat → Int32) (f_22 : Nat → Int32) (yy_18 : Nat → Int32), va_P (dC, dI) classes [(h0, .inr (11, [.ref tp, .int s_taped, .ref dr, .ref rr, .ref rl, .int s_ruleCount, .int s_inForce, .ref to, .ref df, .ref nw, .ref tr, .ref no, .ref pa, .ref im, .ref co, .ref se, .ref ga, .ref pt, .int s_x])), (to, .inr (1, [.int to_deep, .int to_dishes, .int to_guests, .ref tolo, .ref tosa, .ref toea, .ref tocl])), (no, .inr (5, [.int (yy_18 0), .ref nowhen, .ref nowho, .ref nosecret, .ref noknew])), (nowhen, .inl (knowhen, 10, .inl f_19)), (nowho, .inl (knowho, 10, .inl f_20)), (nosecret, .inl (knosecret, 10, .inl f_21)), (noknew, .inl (knoknew, 10, .inl f_22))] t.heap ∧ va_K (dC, dI) classes [(knowhen, .int), (knowho, .int), (knosecret, .int), (knoknew, .int)] t ∧ va_D (va_A [(h0, .inr (11, [.ref tp, .int s_taped, .ref dr, .ref rr, .ref rl, .int s_ruleCount, .int s_inForce, .ref to, .ref df, .ref nw, .ref tr, .ref no, .ref pa, .ref im, .ref co, .ref se, .ref ga, .ref pt, .int s_x])), (to, .inr (1, [.int to_deep, .int to_dishes, .int to_guests, .ref tolo, .ref tosa, .ref toea, .ref tocl])), (no, .inr (5, [.int no_kept, .ref nowhen, .ref nowho, .ref nosecret, .ref noknew])), (nowhen, .inl (knowhen, 10, .inl gnowhen)), (nowho, .inl (knowho, 10, .inl gnowho)), (nosecret, .inl (knosecret, 10, .inl gnosecret)), (noknew, .inl (knoknew, 10, .inl gnoknew))] sz) [(h0, .inr (11, [.ref tp, .int s_taped, .ref dr, .ref rr, .ref rl, .int s_ruleCount, .int s_inForce, .ref to, .ref df, .ref nw, .ref tr, .ref no, .ref pa, .ref im, .ref co, .ref se, .ref ga, .ref pt, .int s_x])), (to, .inr (1, [.int to_deep, .int to_dishes, .int to_guests, .ref tolo, .ref tosa, .ref toea, .ref tocl])), (no, .inr (5, [.int (yy_18 0), .ref nowhen, .ref nowho, .ref nosecret, .ref noknew])), (nowhen, .inl (knowhen, 10, .inl f_19)), (nowho, .inl (knowho, 10, .inl f_20)), (nosecret, .inl (knosecret, 10, .inl f_21)), (noknew, .inl (knoknew, 10, .inl f_22))]) (va_A [(h0, .inr (11, [.ref tp, .int s_taped, .ref dr, .ref rr, .ref rl, .int s_ruleCount, .int s_inForce, .ref to, .ref df, .ref nw, .ref tr, .ref no, .ref pa, .ref im, .ref co, .ref se, .ref ga, .ref pt, .int s_x])), (to, .inr (1, [.int to_deep, .int to_dishes, .int to_guests, .ref tolo, .ref tosa, .ref toea, .ref tocl])), (no, .inr (5, [.int no_kept, .ref nowhen, .ref nowho, .ref nosecret, .ref noknew])), (nowhen, .inl (knowhen, 10, .inl gnowhen)), (nowho, .inl (knowho, 10, .inl gnowho)), (nosecret, .inl (knosecret, 10, .inl gnosecret)), (noknew, .inl (knoknew, 10, .inl gnoknew))] sz)) 0 0 (va_A [(h0, .inr (11, [.ref tp, .int s_taped, .ref dr, .ref rr, .ref rl, .int s_ruleCount, .int s_inForce, .ref to, .ref df, .ref nw, .ref tr, .ref no, .ref pa, .ref im, .ref co, .ref se, .ref ga, .ref pt, .int s_x])), (to, .inr (1, [.int to_deep, .int to_dishes, .int to_guests, .ref tolo, .ref tosa, .ref toea, .ref tocl])), (no, .inr (5, [.int no_kept, .ref nowhen, .ref nowho, .ref nosecret, .ref noknew])), (nowhen, .inl (knowhen, 10, .inl gnowhen)), (nowho, .inl (knowho, 10, .inl gnowho)), (nosecret, .inl (knosecret, 10, .inl gnosecret)), (noknew, .inl (knoknew, 10, .inl gnoknew))] sz) := by
  refine Met.ofW (cc := cX11_note) (maxL := 5) (ret := (some .int)) (by decide) rfl ?_
  intro p e s m args below meth c s₁ B hml hv
  obtain ⟨rfl, hsz, hP, hK, hD0, hE⟩ := hv
  have hx := B.exec
  have hb := B.bytes
  have hr := B.returns
  have hts := atoms_spec (ws := .code yX11_note cX11_note 5 (some .int) :: wsA) B.pre
  have hq : ∀ w ∈ wsA, w.before _ s = true := fun w h => hts w (List.mem_cons_of_mem _ h)
  have hown : s.vm.findClass RX11 = some m.cls := findClass_of_methodNamed B.named
  have hlocks := B.notSynchronized
  subst hsz
  have hD := hD0.self (sz := s.heap.size)
  generalize hAe : va_A [(h0, .inr (11, [.ref tp, .int s_taped, .ref dr, .ref rr, .ref rl, .int s_ruleCount, .int s_inForce, .ref to, .ref df, .ref nw, .ref tr, .ref no, .ref pa, .ref im, .ref co, .ref se, .ref ga, .ref pt, .int s_x])), (to, .inr (1, [.int to_deep, .int to_dishes, .int to_guests, .ref tolo, .ref tosa, .ref toea, .ref tocl])), (no, .inr (5, [.int no_kept, .ref nowhen, .ref nowho, .ref nosecret, .ref noknew])), (nowhen, .inl (knowhen, 10, .inl gnowhen)), (nowho, .inl (knowho, 10, .inl gnowho)), (nosecret, .inl (knosecret, 10, .inl gnosecret)), (noknew, .inl (knoknew, 10, .inl gnoknew))] s.heap.size = A at hD ⊢
  have hA : ∀ q : Nat, s.heap.size ≤ q → A q := fun q h => by rw [← hAe]; exact Or.inr h
  have hS : va_S A s.heap s.heap [] := va_S.rf
  have hl := lv_entry ([.ref h0, .int x0, .int x1, .int x2, .int x3]) (n := 5) (Nat.le_of_ble_eq_true rfl)
  rw [lg_entry_eq]
  generalize (lg_sl ([.ref h0, .int x0, .int x1, .int x2, .int x3]) ++ List.replicate (5 - (lg_sl ([.ref h0, .int x0, .int x1, .int x2, .int x3])).length) Slot.unset).toArray = ls at hl ⊢
  have hl : lv_has ls 5 [(0, .ref h0), (1, .int x0), (2, .int x1), (3, .int x2), (4, .int x3)] := hl
  refine lv_iload_n hx hb dX11_note_0 rfl (lv_at hl 1 rfl) ?_
  refine lv_iconst (v := (-1)) hx hb dX11_note_1 (by decide) ?_
  refine lv_icmp_ne (tgt := 14) hx hb dX11_note_2 (by decide) (fun c_23 => ?_) (fun c_23 => ?_)
  · refine lv_iload_n hx hb dX11_note_14 rfl (lv_at hl 1 rfl) ?_
    refine lv_iconst (v := 0) hx hb dX11_note_15 (by decide) ?_
    refine lv_bipush (v := 60) hx hb dX11_note_16 (by decide) ?_
    have hPc := hP.sub (ws' := []) [] rfl
    have hDc := hD.sub (ws' := []) [] (by decide) rfl
    have hKc := hK.sub (tys' := []) [] rfl
    have hFc := va_free (wc := []) hD hS hA [] rfl
    refine va_calli (va_runS (As := [.int x0, .int 0, .int 60]) (rest := []) ⟨hx, hb, hml, hown, hq⟩ (x_within l dC dI _ x0 0 60 ) (cwS 3 hq (gS qw_743 qw_744 qw_119 qw_745) rfl rfl rfl (by decide +kernel) ⟨Nat.le_of_ble_eq_true rfl, Nat.le_of_ble_eq_true rfl⟩) ⟨fun a U g mk q => by obtain ⟨q0, q1, qP, qK, qD, qE⟩ := q; exact ⟨q0, q1, qP, va_K.moved (u := U) (U := U.calling g mk a) (Vm.Alike.refl U.vm) qK, qD, xE.same rfl qE⟩, fun U hU hW => ⟨rfl, by rw [hU], by rw [hU]; exact hPc, va_K.moved hW.alike hKc, hDc.weaken (fun _ _ _ _ => trivial), xE.warm hW hE⟩⟩ rfl rfl hl.1 rfl (lv_room (Nat.le_of_ble_eq_true rfl)) dX11_note_18 ⟨Nat.le_of_ble_eq_true rfl, Nat.le_of_ble_eq_true rfl⟩) hS (fun q _ h => hFc q h) hFc (fun r_24 u t H1 locs ht hvm hw hB hz1 hk1 hS => ?_)
    obtain ⟨hP1, hK1, hD1⟩ := hB
    rw [ht] at hP1
    obtain ⟨hP, hD⟩ := va_join (wr := [(h0, .inr (11, [.ref tp, .int s_taped, .ref dr, .ref rr, .ref rl, .int s_ruleCount, .int s_inForce, .ref to, .ref df, .ref nw, .ref tr, .ref no, .ref pa, .ref im, .ref co, .ref se, .ref ga, .ref pt, .int s_x])), (to, .inr (1, [.int to_deep, .int to_dishes, .int to_guests, .ref tolo, .ref tosa, .ref toea, .ref tocl])), (no, .inr (5, [.int no_kept, .ref nowhen, .ref nowho, .ref nosecret, .ref noknew])), (nowhen, .inl (knowhen, 10, .inl gnowhen)), (nowho, .inl (knowho, 10, .inl gnowho)), (nosecret, .inl (knosecret, 10, .inl gnosecret)), (noknew, .inl (knoknew, 10, .inl gnoknew))]) (w1 := []) hP hD [] [0, 1, 2, 3, 4, 5, 6] rfl rfl (by decide) (by decide) hk1 hFc hP1 hD1
    generalize H1 = H at hP hS ⊢
    have hP : va_P (dC, dI) classes [(h0, .inr (11, [.ref tp, .int s_taped, .ref dr, .ref rr, .ref rl, .int s_ruleCount, .int s_inForce, .ref to, .ref df, .ref nw, .ref tr, .ref no, .ref pa, .ref im, .ref co, .ref se, .ref ga, .ref pt, .int s_x])), (to, .inr (1, [.int to_deep, .int to_dishes, .int to_guests, .ref tolo, .ref tosa, .ref toea, .ref tocl])), (no, .inr (5, [.int no_kept, .ref nowhen, .ref nowho, .ref nosecret, .ref noknew])), (nowhen, .inl (knowhen, 10, .inl gnowhen)), (nowho, .inl (knowho, 10, .inl gnowho)), (nosecret, .inl (knosecret, 10, .inl gnosecret)), (noknew, .inl (knoknew, 10, .inl gnoknew))] H := hP
    have hD : va_D A [(h0, .inr (11, [.ref tp, .int s_taped, .ref dr, .ref rr, .ref rl, .int s_ruleCount, .int s_inForce, .ref to, .ref df, .ref nw, .ref tr, .ref no, .ref pa, .ref im, .ref co, .ref se, .ref ga, .ref pt, .int s_x])), (to, .inr (1, [.int to_deep, .int to_dishes, .int to_guests, .ref tolo, .ref tosa, .ref toea, .ref tocl])), (no, .inr (5, [.int no_kept, .ref nowhen, .ref nowho, .ref nosecret, .ref noknew])), (nowhen, .inl (knowhen, 10, .inl gnowhen)), (nowho, .inl (knowho, 10, .inl gnowho)), (nosecret, .inl (knosecret, 10, .inl gnosecret)), (noknew, .inl (knoknew, 10, .inl gnoknew))] := hD
    refine W.cut (I := fun H locs g => ∃ (ls : Array Slot), va_P (dC, dI) classes [(h0, .inr (11, [.ref tp, .int s_taped, .ref dr, .ref rr, .ref rl, .int s_ruleCount, .int s_inForce, .ref to, .ref df, .ref nw, .ref tr, .ref no, .ref pa, .ref im, .ref co, .ref se, .ref ga, .ref pt, .int s_x])), (to, .inr (1, [.int to_deep, .int to_dishes, .int to_guests, .ref tolo, .ref tosa, .ref toea, .ref tocl])), (no, .inr (5, [.int no_kept, .ref nowhen, .ref nowho, .ref nosecret, .ref noknew])), (nowhen, .inl (knowhen, 10, .inl gnowhen)), (nowho, .inl (knowho, 10, .inl gnowho)), (nosecret, .inl (knosecret, 10, .inl gnosecret)), (noknew, .inl (knoknew, 10, .inl gnoknew))] H ∧ va_D A [(h0, .inr (11, [.ref tp, .int s_taped, .ref dr, .ref rr, .ref rl, .int s_ruleCount, .int s_inForce, .ref to, .ref df, .ref nw, .ref tr, .ref no, .ref pa, .ref im, .ref co, .ref se, .ref ga, .ref pt, .int s_x])), (to, .inr (1, [.int to_deep, .int to_dishes, .int to_guests, .ref tolo, .ref tosa, .ref toea, .ref tocl])), (no, .inr (5, [.int no_kept, .ref nowhen, .ref nowho, .ref nosecret, .ref noknew])), (nowhen, .inl (knowhen, 10, .inl gnowhen)), (nowho, .inl (knowho, 10, .inl gnowho)), (nosecret, .inl (knosecret, 10, .inl gnosecret)), (noknew, .inl (knoknew, 10, .inl gnoknew))] ∧ va_S A s.heap H locs ∧ lv_has ls 5 [] ∧ g = F0 m 49 ls []) (fun H locs g h => ?_) (fun hJ49 => ?_)
    · obtain ⟨ls, hP, hD, hS, hl, rfl⟩ := h
      refine lv_bipush (v := (-2)) hx hb dX11_note_49 (by decide) ?_
      refine W.widen (k := 0) (n := 0) (Nat.le_of_ble_eq_true rfl) (Nat.le_of_ble_eq_true rfl) ?_
      exact W.iret (v := (-2)) hx hb hr (fun t ht hW => ⟨⟨(-2), (), rfl, trivial, gnowhen, gnowho, gnosecret, gnoknew, (fun i => [no_kept].getD i 0), by rw [ht]; exact hP, va_K.moved hW.alike hK, hD⟩, hS.F ht⟩) hS.2.2 dX11_note_51
    refine lv_if_eq (tgt := 49) hx hb dX11_note_21 (by decide) (fun c_39 => ?_) (fun c_39 => ?_)
    · exact hJ49 _ _ _ ⟨_, hP, hD, hS, (lv_sub hl [] rfl), rfl⟩
    · refine lv_aload_n hx hb dX11_note_24 rfl (lv_at hl 0 rfl) ?_
      refine lv_iload_n hx hb dX11_note_25 rfl (lv_at hl 2 rfl) ?_
      have hPc := hP.sub (ws' := [(h0, .inr (11, [.ref tp, .int s_taped, .ref dr, .ref rr, .ref rl, .int s_ruleCount, .int s_inForce, .ref to, .ref df, .ref nw, .ref tr, .ref no, .ref pa, .ref im, .ref co, .ref se, .ref ga, .ref pt, .int s_x])), (to, .inr (1, [.int to_deep, .int to_dishes, .int to_guests, .ref tolo, .ref tosa, .ref toea, .ref tocl]))]) [0, 1] rfl
      have hDc := hD.sub (ws' := [(h0, .inr (11, [.ref tp, .int s_taped, .ref dr, .ref rr, .ref rl, .int s_ruleCount, .int s_inForce, .ref to, .ref df, .ref nw, .ref tr, .ref no, .ref pa, .ref im, .ref co, .ref se, .ref ga, .ref pt, .int s_x])), (to, .inr (1, [.int to_deep, .int to_dishes, .int to_guests, .ref tolo, .ref tosa, .ref toea, .ref tocl]))]) [0, 1] (by decide) rfl
      have hKc := hK.sub (tys' := []) [] rfl
      have hFc := va_free (wc := [(h0, .inr (11, [.ref tp, .int s_taped, .ref dr, .ref rr, .ref rl, .int s_ruleCount, .int s_inForce, .ref to, .ref df, .ref nw, .ref tr, .ref no, .ref pa, .ref im, .ref co, .ref se, .ref ga, .ref pt, .int s_x])), (to, .inr (1, [.int to_deep, .int to_dishes, .int to_guests, .ref tolo, .ref tosa, .ref toea, .ref tocl]))]) hD hS hA [0, 1] rfl
      refine va_calli (va_runV (As := [.int x1]) (rest := []) ⟨hx, hb, hml, hown, hq⟩ (x_isGuest l dC dI _ h0 tp s_taped dr rr rl s_ruleCount s_inForce to df nw tr no pa im co se ga pt s_x to_deep to_dishes to_guests tolo tosa toea tocl x1 ) (cwV 1 hq (gV qw_762 qw_764 qw_13 qw_119 qw_765) rfl rfl rfl (by decide +kernel) ⟨Nat.le_of_ble_eq_true rfl, Nat.le_of_ble_eq_true rfl⟩) ⟨fun a U g mk q => by obtain ⟨q0, q1, qP, qK, qD, qE⟩ := q; exact ⟨q0, q1, qP, va_K.moved (u := U) (U := U.calling g mk a) (Vm.Alike.refl U.vm) qK, qD, xE.same rfl qE⟩, va_recv hKc hPc (ci := 11) (q0 := 0) rfl rfl, fun U hU hW => ⟨rfl, by rw [hU], by rw [hU]; exact hPc, va_K.moved hW.alike hKc, hDc.weaken (fun _ _ _ _ => trivial), xE.warm hW hE⟩⟩ rfl rfl hl.1 rfl (lv_room (Nat.le_of_ble_eq_true rfl)) dX11_note_26 ⟨Nat.le_of_ble_eq_true rfl, Nat.le_of_ble_eq_true rfl⟩) hS (fun q _ h => hFc q h) hFc (fun r_40 u t H1 locs ht hvm hw hB hz1 hk1 hS => ?_)
      obtain ⟨hP1, hK1, hD1⟩ := hB
      rw [ht] at hP1
      obtain ⟨hP, hD⟩ := va_join (wr := [(no, .inr (5, [.int no_kept, .ref nowhen, .ref nowho, .ref nosecret, .ref noknew])), (nowhen, .inl (knowhen, 10, .inl gnowhen)), (nowho, .inl (knowho, 10, .inl gnowho)), (nosecret, .inl (knosecret, 10, .inl gnosecret)), (noknew, .inl (knoknew, 10, .inl gnoknew))]) (w1 := [(h0, .inr (11, [.ref tp, .int s_taped, .ref dr, .ref rr, .ref rl, .int s_ruleCount, .int s_inForce, .ref to, .ref df, .ref nw, .ref tr, .ref no, .ref pa, .ref im, .ref co, .ref se, .ref ga, .ref pt, .int s_x])), (to, .inr (1, [.int to_deep, .int to_dishes, .int to_guests, .ref tolo, .ref tosa, .ref toea, .ref tocl]))]) hP hD [0, 1] [2, 3, 4, 5, 6] rfl rfl (by decide) (by decide) hk1 hFc hP1 hD1
      generalize H1 = H at hP hS ⊢
      have hP : va_P (dC, dI) classes [(no, .inr (5, [.int no_kept, .ref nowhen, .ref nowho, .ref nosecret, .ref noknew])), (nowhen, .inl (knowhen, 10, .inl gnowhen)), (nowho, .inl (knowho, 10, .inl gnowho)), (nosecret, .inl (knosecret, 10, .inl gnosecret)), (noknew, .inl (knoknew, 10, .inl gnoknew)), (h0, .inr (11, [.ref tp, .int s_taped, .ref dr, .ref rr, .ref rl, .int s_ruleCount, .int s_inForce, .ref to, .ref df, .ref nw, .ref tr, .ref no, .ref pa, .ref im, .ref co, .ref se, .ref ga, .ref pt, .int s_x])), (to, .inr (1, [.int to_deep, .int to_dishes, .int to_guests, .ref tolo, .ref tosa, .ref toea, .ref tocl]))] H := hP
      have hD : va_D A [(no, .inr (5, [.int no_kept, .ref nowhen, .ref nowho, .ref nosecret, .ref noknew])), (nowhen, .inl (knowhen, 10, .inl gnowhen)), (nowho, .inl (knowho, 10, .inl gnowho)), (nosecret, .inl (knosecret, 10, .inl gnosecret)), (noknew, .inl (knoknew, 10, .inl gnoknew)), (h0, .inr (11, [.ref tp, .int s_taped, .ref dr, .ref rr, .ref rl, .int s_ruleCount, .int s_inForce, .ref to, .ref df, .ref nw, .ref tr, .ref no, .ref pa, .ref im, .ref co, .ref se, .ref ga, .ref pt, .int s_x])), (to, .inr (1, [.int to_deep, .int to_dishes, .int to_guests, .ref tolo, .ref tosa, .ref toea, .ref tocl]))] := hD
      refine lv_if_eq (tgt := 49) hx hb dX11_note_29 (by decide) (fun c_41 => ?_) (fun c_41 => ?_)
      · exact hJ49 _ _ _ ⟨_, (hP.sub (ws' := [(h0, .inr (11, [.ref tp, .int s_taped, .ref dr, .ref rr, .ref rl, .int s_ruleCount, .int s_inForce, .ref to, .ref df, .ref nw, .ref tr, .ref no, .ref pa, .ref im, .ref co, .ref se, .ref ga, .ref pt, .int s_x])), (to, .inr (1, [.int to_deep, .int to_dishes, .int to_guests, .ref tolo, .ref tosa, .ref toea, .ref tocl])), (no, .inr (5, [.int no_kept, .ref nowhen, .ref nowho, .ref nosecret, .ref noknew])), (nowhen, .inl (knowhen, 10, .inl gnowhen)), (nowho, .inl (knowho, 10, .inl gnowho)), (nosecret, .inl (knosecret, 10, .inl gnosecret)), (noknew, .inl (knoknew, 10, .inl gnoknew))]) [5, 6, 0, 1, 2, 3, 4] rfl), (hD.sub (ws' := [(h0, .inr (11, [.ref tp, .int s_taped, .ref dr, .ref rr, .ref rl, .int s_ruleCount, .int s_inForce, .ref to, .ref df, .ref nw, .ref tr, .ref no, .ref pa, .ref im, .ref co, .ref se, .ref ga, .ref pt, .int s_x])), (to, .inr (1, [.int to_deep, .int to_dishes, .int to_guests, .ref tolo, .ref tosa, .ref toea, .ref tocl])), (no, .inr (5, [.int no_kept, .ref nowhen, .ref nowho, .ref nosecret, .ref noknew])), (nowhen, .inl (knowhen, 10, .inl gnowhen)), (nowho, .inl (knowho, 10, .inl gnowho)), (nosecret, .inl (knosecret, 10, .inl gnosecret)), (noknew, .inl (knoknew, 10, .inl gnoknew))]) [5, 6, 0, 1, 2, 3, 4] (by decide) rfl), hS, (lv_sub hl [] rfl), rfl⟩
      · refine lv_iload_n hx hb dX11_note_32 rfl (lv_at hl 3 rfl) ?_
        have hPc := hP.sub (ws' := []) [] rfl
        have hDc := hD.sub (ws' := []) [] (by decide) rfl
        have hKc := hK.sub (tys' := []) [] rfl
        have hFc := va_free (wc := []) hD hS hA [] rfl
        refine va_calli (va_runS (As := [.int x2]) (rest := []) ⟨hx, hb, hml, hown, hq⟩ (x_isSecret l dC dI _ x2 ) (cwS 1 hq (gS qw_782 qw_783 qw_119 qw_784) rfl rfl rfl (by decide +kernel) ⟨Nat.le_of_ble_eq_true rfl, Nat.le_of_ble_eq_true rfl⟩) ⟨fun a U g mk q => by obtain ⟨q0, q1, qP, qK, qD, qE⟩ := q; exact ⟨q0, q1, qP, va_K.moved (u := U) (U := U.calling g mk a) (Vm.Alike.refl U.vm) qK, qD, xE.same rfl qE⟩, fun U hU hW => ⟨rfl, by rw [hU], by rw [hU]; exact hPc, va_K.moved hW.alike hKc, hDc.weaken (fun _ _ _ _ => trivial), xE.warm hW hE⟩⟩ rfl rfl hl.1 rfl (lv_room (Nat.le_of_ble_eq_true rfl)) dX11_note_33 ⟨Nat.le_of_ble_eq_true rfl, Nat.le_of_ble_eq_true rfl⟩) hS (fun q _ h => hFc q h) hFc (fun r_42 u t H1 locs ht hvm hw hB hz1 hk1 hS => ?_)
        obtain ⟨hP1, hK1, hD1⟩ := hB
        rw [ht] at hP1
        obtain ⟨hP, hD⟩ := va_join (wr := [(no, .inr (5, [.int no_kept, .ref nowhen, .ref nowho, .ref nosecret, .ref noknew])), (nowhen, .inl (knowhen, 10, .inl gnowhen)), (nowho, .inl (knowho, 10, .inl gnowho)), (nosecret, .inl (knosecret, 10, .inl gnosecret)), (noknew, .inl (knoknew, 10, .inl gnoknew)), (h0, .inr (11, [.ref tp, .int s_taped, .ref dr, .ref rr, .ref rl, .int s_ruleCount, .int s_inForce, .ref to, .ref df, .ref nw, .ref tr, .ref no, .ref pa, .ref im, .ref co, .ref se, .ref ga, .ref pt, .int s_x])), (to, .inr (1, [.int to_deep, .int to_dishes, .int to_guests, .ref tolo, .ref tosa, .ref toea, .ref tocl]))]) (w1 := []) hP hD [] [0, 1, 2, 3, 4, 5, 6] rfl rfl (by decide) (by decide) hk1 hFc hP1 hD1
        generalize H1 = H at hP hS ⊢
        have hP : va_P (dC, dI) classes [(no, .inr (5, [.int no_kept, .ref nowhen, .ref nowho, .ref nosecret, .ref noknew])), (nowhen, .inl (knowhen, 10, .inl gnowhen)), (nowho, .inl (knowho, 10, .inl gnowho)), (nosecret, .inl (knosecret, 10, .inl gnosecret)), (noknew, .inl (knoknew, 10, .inl gnoknew)), (h0, .inr (11, [.ref tp, .int s_taped, .ref dr, .ref rr, .ref rl, .int s_ruleCount, .int s_inForce, .ref to, .ref df, .ref nw, .ref tr, .ref no, .ref pa, .ref im, .ref co, .ref se, .ref ga, .ref pt, .int s_x])), (to, .inr (1, [.int to_deep, .int to_dishes, .int to_guests, .ref tolo, .ref tosa, .ref toea, .ref tocl]))] H := hP
        have hD : va_D A [(no, .inr (5, [.int no_kept, .ref nowhen, .ref nowho, .ref nosecret, .ref noknew])), (nowhen, .inl (knowhen, 10, .inl gnowhen)), (nowho, .inl (knowho, 10, .inl gnowho)), (nosecret, .inl (knosecret, 10, .inl gnosecret)), (noknew, .inl (knoknew, 10, .inl gnoknew)), (h0, .inr (11, [.ref tp, .int s_taped, .ref dr, .ref rr, .ref rl, .int s_ruleCount, .int s_inForce, .ref to, .ref df, .ref nw, .ref tr, .ref no, .ref pa, .ref im, .ref co, .ref se, .ref ga, .ref pt, .int s_x])), (to, .inr (1, [.int to_deep, .int to_dishes, .int to_guests, .ref tolo, .ref tosa, .ref toea, .ref tocl]))] := hD
        refine lv_if_eq (tgt := 49) hx hb dX11_note_36 (by decide) (fun c_43 => ?_) (fun c_43 => ?_)
        · exact hJ49 _ _ _ ⟨_, (hP.sub (ws' := [(h0, .inr (11, [.ref tp, .int s_taped, .ref dr, .ref rr, .ref rl, .int s_ruleCount, .int s_inForce, .ref to, .ref df, .ref nw, .ref tr, .ref no, .ref pa, .ref im, .ref co, .ref se, .ref ga, .ref pt, .int s_x])), (to, .inr (1, [.int to_deep, .int to_dishes, .int to_guests, .ref tolo, .ref tosa, .ref toea, .ref tocl])), (no, .inr (5, [.int no_kept, .ref nowhen, .ref nowho, .ref nosecret, .ref noknew])), (nowhen, .inl (knowhen, 10, .inl gnowhen)), (nowho, .inl (knowho, 10, .inl gnowho)), (nosecret, .inl (knosecret, 10, .inl gnosecret)), (noknew, .inl (knoknew, 10, .inl gnoknew))]) [5, 6, 0, 1, 2, 3, 4] rfl), (hD.sub (ws' := [(h0, .inr (11, [.ref tp, .int s_taped, .ref dr, .ref rr, .ref rl, .int s_ruleCount, .int s_inForce, .ref to, .ref df, .ref nw, .ref tr, .ref no, .ref pa, .ref im, .ref co, .ref se, .ref ga, .ref pt, .int s_x])), (to, .inr (1, [.int to_deep, .int to_dishes, .int to_guests, .ref tolo, .ref tosa, .ref toea, .ref tocl])), (no, .inr (5, [.int no_kept, .ref nowhen, .ref nowho, .ref nosecret, .ref noknew])), (nowhen, .inl (knowhen, 10, .inl gnowhen)), (nowho, .inl (knowho, 10, .inl gnowho)), (nosecret, .inl (knosecret, 10, .inl gnosecret)), (noknew, .inl (knoknew, 10, .inl gnoknew))]) [5, 6, 0, 1, 2, 3, 4] (by decide) rfl), hS, (lv_sub hl [] rfl), rfl⟩
        · refine lv_iload hx hb dX11_note_39 (lv_at hl 4 rfl) ?_
          refine lv_iconst (v := 0) hx hb dX11_note_41 (by decide) ?_
          refine lv_iconst (v := 1) hx hb dX11_note_42 (by decide) ?_
          have hPc := hP.sub (ws' := []) [] rfl
          have hDc := hD.sub (ws' := []) [] (by decide) rfl
          have hKc := hK.sub (tys' := []) [] rfl
          have hFc := va_free (wc := []) hD hS hA [] rfl
          refine va_calli (va_runS (As := [.int x3, .int 0, .int 1]) (rest := []) ⟨hx, hb, hml, hown, hq⟩ (x_within l dC dI _ x3 0 1 ) (cwS 3 hq (gS qw_743 qw_744 qw_119 qw_745) rfl rfl rfl (by decide +kernel) ⟨Nat.le_of_ble_eq_true rfl, Nat.le_of_ble_eq_true rfl⟩) ⟨fun a U g mk q => by obtain ⟨q0, q1, qP, qK, qD, qE⟩ := q; exact ⟨q0, q1, qP, va_K.moved (u := U) (U := U.calling g mk a) (Vm.Alike.refl U.vm) qK, qD, xE.same rfl qE⟩, fun U hU hW => ⟨rfl, by rw [hU], by rw [hU]; exact hPc, va_K.moved hW.alike hKc, hDc.weaken (fun _ _ _ _ => trivial), xE.warm hW hE⟩⟩ rfl rfl hl.1 rfl (lv_room (Nat.le_of_ble_eq_true rfl)) dX11_note_43 ⟨Nat.le_of_ble_eq_true rfl, Nat.le_of_ble_eq_true rfl⟩) hS (fun q _ h => hFc q h) hFc (fun r_44 u t H1 locs ht hvm hw hB hz1 hk1 hS => ?_)
          obtain ⟨hP1, hK1, hD1⟩ := hB
          rw [ht] at hP1
          obtain ⟨hP, hD⟩ := va_join (wr := [(no, .inr (5, [.int no_kept, .ref nowhen, .ref nowho, .ref nosecret, .ref noknew])), (nowhen, .inl (knowhen, 10, .inl gnowhen)), (nowho, .inl (knowho, 10, .inl gnowho)), (nosecret, .inl (knosecret, 10, .inl gnosecret)), (noknew, .inl (knoknew, 10, .inl gnoknew)), (h0, .inr (11, [.ref tp, .int s_taped, .ref dr, .ref rr, .ref rl, .int s_ruleCount, .int s_inForce, .ref to, .ref df, .ref nw, .ref tr, .ref no, .ref pa, .ref im, .ref co, .ref se, .ref ga, .ref pt, .int s_x])), (to, .inr (1, [.int to_deep, .int to_dishes, .int to_guests, .ref tolo, .ref tosa, .ref toea, .ref tocl]))]) (w1 := []) hP hD [] [0, 1, 2, 3, 4, 5, 6] rfl rfl (by decide) (by decide) hk1 hFc hP1 hD1
          generalize H1 = H at hP hS ⊢
          have hP : va_P (dC, dI) classes [(no, .inr (5, [.int no_kept, .ref nowhen, .ref nowho, .ref nosecret, .ref noknew])), (nowhen, .inl (knowhen, 10, .inl gnowhen)), (nowho, .inl (knowho, 10, .inl gnowho)), (nosecret, .inl (knosecret, 10, .inl gnosecret)), (noknew, .inl (knoknew, 10, .inl gnoknew)), (h0, .inr (11, [.ref tp, .int s_taped, .ref dr, .ref rr, .ref rl, .int s_ruleCount, .int s_inForce, .ref to, .ref df, .ref nw, .ref tr, .ref no, .ref pa, .ref im, .ref co, .ref se, .ref ga, .ref pt, .int s_x])), (to, .inr (1, [.int to_deep, .int to_dishes, .int to_guests, .ref tolo, .ref tosa, .ref toea, .ref tocl]))] H := hP
          have hD : va_D A [(no, .inr (5, [.int no_kept, .ref nowhen, .ref nowho, .ref nosecret, .ref noknew])), (nowhen, .inl (knowhen, 10, .inl gnowhen)), (nowho, .inl (knowho, 10, .inl gnowho)), (nosecret, .inl (knosecret, 10, .inl gnosecret)), (noknew, .inl (knoknew, 10, .inl gnoknew)), (h0, .inr (11, [.ref tp, .int s_taped, .ref dr, .ref rr, .ref rl, .int s_ruleCount, .int s_inForce, .ref to, .ref df, .ref nw, .ref tr, .ref no, .ref pa, .ref im, .ref co, .ref se, .ref ga, .ref pt, .int s_x])), (to, .inr (1, [.int to_deep, .int to_dishes, .int to_guests, .ref tolo, .ref tosa, .ref toea, .ref tocl]))] := hD
          refine lv_if_ne (tgt := 52) hx hb dX11_note_46 (by decide) (fun c_45 => ?_) (fun c_45 => ?_)
          · refine lv_aload_n hx hb dX11_note_52 rfl (lv_at hl 0 rfl) ?_
            refine va_get (D := (dC, dI)) (ci := 11) (v := .ref no) (C := RX11) (T := TX11) (N := 19) hx hb hq inX11 hown hK hP 5 rfl rfl 11 (by decide) (hq _ qw_460) (fun _ h9 => h9) rfl dX11_note_53 ?_
            refine lv_iload_n hx hb dX11_note_56 rfl (lv_at hl 1 rfl) ?_
            refine lv_iload_n hx hb dX11_note_57 rfl (lv_at hl 2 rfl) ?_
            refine lv_iload_n hx hb dX11_note_58 rfl (lv_at hl 3 rfl) ?_
            refine lv_iload hx hb dX11_note_59 (lv_at hl 4 rfl) ?_
            have hPc := hP.sub (ws' := [(no, .inr (5, [.int no_kept, .ref nowhen, .ref nowho, .ref nosecret, .ref noknew])), (nowhen, .inl (knowhen, 10, .inl gnowhen)), (nowho, .inl (knowho, 10, .inl gnowho)), (nosecret, .inl (knosecret, 10, .inl gnosecret)), (noknew, .inl (knoknew, 10, .inl gnoknew))]) [0, 1, 2, 3, 4] rfl
            have hDc := hD.sub (ws' := [(no, .inr (5, [.int no_kept, .ref nowhen, .ref nowho, .ref nosecret, .ref noknew])), (nowhen, .inl (knowhen, 10, .inl gnowhen)), (nowho, .inl (knowho, 10, .inl gnowho)), (nosecret, .inl (knosecret, 10, .inl gnosecret)), (noknew, .inl (knoknew, 10, .inl gnoknew))]) [0, 1, 2, 3, 4] (by decide) rfl
            have hKc := hK.sub (tys' := [(knowhen, .int), (knowho, .int), (knosecret, .int), (knoknew, .int)]) [0, 1, 2, 3] rfl
            have hFc := va_free (wc := [(no, .inr (5, [.int no_kept, .ref nowhen, .ref nowho, .ref nosecret, .ref noknew])), (nowhen, .inl (knowhen, 10, .inl gnowhen)), (nowho, .inl (knowho, 10, .inl gnowho)), (nosecret, .inl (knosecret, 10, .inl gnosecret)), (noknew, .inl (knoknew, 10, .inl gnoknew))]) hD hS hA [0, 1, 2, 3, 4] rfl
            refine va_calli (va_runV (As := [.int x0, .int x1, .int x2, .int x3]) (rest := []) ⟨hx, hb, hml, hown, hq⟩ (n_add l dC dI _ no no_kept nowhen nowho nosecret noknew knowhen gnowhen knowho gnowho knosecret gnosecret knoknew gnoknew x0 x1 x2 x3 ) (cwV 4 hq (gV qw_1084 qw_1085 qw_1086 qw_126 qw_1087) rfl rfl rfl (by decide +kernel) ⟨Nat.le_of_ble_eq_true rfl, Nat.le_of_ble_eq_true rfl⟩) ⟨fun a U g mk q => by obtain ⟨q0, q1, qP, qK, qD, qE⟩ := q; exact ⟨q0, q1, qP, va_K.moved (u := U) (U := U.calling g mk a) (Vm.Alike.refl U.vm) qK, qD, xE.same rfl qE⟩, va_recv hKc hPc (ci := 5) (q0 := 0) rfl rfl, fun U hU hW => ⟨rfl, by rw [hU], by rw [hU]; exact hPc, va_K.moved hW.alike hKc, hDc.weaken (fun _ _ _ _ => trivial), xE.warm hW hE⟩⟩ rfl rfl hl.1 rfl (lv_room (Nat.le_of_ble_eq_true rfl)) dX11_note_61 ⟨Nat.le_of_ble_eq_true rfl, Nat.le_of_ble_eq_true rfl⟩) hS (fun q _ h => hFc q h) hFc (fun r_46 u t H1 locs ht hvm hw hB hz1 hk1 hS => ?_)
            obtain ⟨f_47, f_48, f_49, f_50, yy_51, hP1, hK1, hD1⟩ := hB
            rw [ht] at hP1
            obtain ⟨hP, hD⟩ := va_join (wr := [(h0, .inr (11, [.ref tp, .int s_taped, .ref dr, .ref rr, .ref rl, .int s_ruleCount, .int s_inForce, .ref to, .ref df, .ref nw, .ref tr, .ref no, .ref pa, .ref im, .ref co, .ref se, .ref ga, .ref pt, .int s_x])), (to, .inr (1, [.int to_deep, .int to_dishes, .int to_guests, .ref tolo, .ref tosa, .ref toea, .ref tocl]))]) (w1 := [(no, .inr (5, [.int (yy_51 0), .ref nowhen, .ref nowho, .ref nosecret, .ref noknew])), (nowhen, .inl (knowhen, 10, .inl f_47)), (nowho, .inl (knowho, 10, .inl f_48)), (nosecret, .inl (knosecret, 10, .inl f_49)), (noknew, .inl (knoknew, 10, .inl f_50))]) hP hD [0, 1, 2, 3, 4] [5, 6] rfl rfl (by decide) (by decide) hk1 hFc hP1 hD1
            generalize H1 = H at hP hS ⊢
            have hP : va_P (dC, dI) classes [(h0, .inr (11, [.ref tp, .int s_taped, .ref dr, .ref rr, .ref rl, .int s_ruleCount, .int s_inForce, .ref to, .ref df, .ref nw, .ref tr, .ref no, .ref pa, .ref im, .ref co, .ref se, .ref ga, .ref pt, .int s_x])), (to, .inr (1, [.int to_deep, .int to_dishes, .int to_guests, .ref tolo, .ref tosa, .ref toea, .ref tocl])), (no, .inr (5, [.int (yy_51 0), .ref nowhen, .ref nowho, .ref nosecret, .ref noknew])), (nowhen, .inl (knowhen, 10, .inl f_47)), (nowho, .inl (knowho, 10, .inl f_48)), (nosecret, .inl (knosecret, 10, .inl f_49)), (noknew, .inl (knoknew, 10, .inl f_50))] H := hP
            have hD : va_D A [(h0, .inr (11, [.ref tp, .int s_taped, .ref dr, .ref rr, .ref rl, .int s_ruleCount, .int s_inForce, .ref to, .ref df, .ref nw, .ref tr, .ref no, .ref pa, .ref im, .ref co, .ref se, .ref ga, .ref pt, .int s_x])), (to, .inr (1, [.int to_deep, .int to_dishes, .int to_guests, .ref tolo, .ref tosa, .ref toea, .ref tocl])), (no, .inr (5, [.int (yy_51 0), .ref nowhen, .ref nowho, .ref nosecret, .ref noknew])), (nowhen, .inl (knowhen, 10, .inl f_47)), (nowho, .inl (knowho, 10, .inl f_48)), (nosecret, .inl (knosecret, 10, .inl f_49)), (noknew, .inl (knoknew, 10, .inl f_50))] := hD
            refine lv_if_eq (tgt := 77) hx hb dX11_note_64 (by decide) (fun c_52 => ?_) (fun c_52 => ?_)
            · refine lv_bipush (v := (-2)) hx hb dX11_note_77 (by decide) ?_
              refine W.widen (k := 0) (n := 0) (Nat.le_of_ble_eq_true rfl) (Nat.le_of_ble_eq_true rfl) ?_
              exact W.iret (v := (-2)) hx hb hr (fun t ht hW => ⟨⟨(-2), (), rfl, trivial, f_47, f_48, f_49, f_50, (fun i => [(yy_51 0)].getD i 0), by rw [ht]; exact hP, va_K.moved hW.alike hK, hD⟩, hS.F ht⟩) hS.2.2 dX11_note_79
            · refine lv_aload_n hx hb dX11_note_67 rfl (lv_at hl 0 rfl) ?_
              refine va_get (D := (dC, dI)) (ci := 11) (v := .ref no) (C := RX11) (T := TX11) (N := 19) hx hb hq inX11 hown hK hP 0 rfl rfl 11 (by decide) (hq _ qw_460) (fun _ h9 => h9) rfl dX11_note_68 ?_
              refine va_get (D := (dC, dI)) (ci := 5) (v := .int (yy_51 0)) (C := RX5) (T := TX5) (N := 5) hx hb hq inX5 hown hK hP 2 rfl rfl 0 (by decide) (hq _ qw_308) (fun _ h9 => h9) rfl dX11_note_71 ?_
              refine lv_goto (tgt := 79) hx hb dX11_note_74 (by decide) ?_
              refine W.widen (k := 0) (n := 0) (Nat.le_of_ble_eq_true rfl) (Nat.le_of_ble_eq_true rfl) ?_
              exact W.iret (v := (yy_51 0)) hx hb hr (fun t ht hW => ⟨⟨(yy_51 0), (), rfl, trivial, f_47, f_48, f_49, f_50, (fun i => [(yy_51 0)].getD i 0), by rw [ht]; exact hP, va_K.moved hW.alike hK, hD⟩, hS.F ht⟩) hS.2.2 dX11_note_79
          · exact hJ49 _ _ _ ⟨_, (hP.sub (ws' := [(h0, .inr (11, [.ref tp, .int s_taped, .ref dr, .ref rr, .ref rl, .int s_ruleCount, .int s_inForce, .ref to, .ref df, .ref nw, .ref tr, .ref no, .ref pa, .ref im, .ref co, .ref se, .ref ga, .ref pt, .int s_x])), (to, .inr (1, [.int to_deep, .int to_dishes, .int to_guests, .ref tolo, .ref tosa, .ref toea, .ref tocl])), (no, .inr (5, [.int no_kept, .ref nowhen, .ref nowho, .ref nosecret, .ref noknew])), (nowhen, .inl (knowhen, 10, .inl gnowhen)), (nowho, .inl (knowho, 10, .inl gnowho)), (nosecret, .inl (knosecret, 10, .inl gnosecret)), (noknew, .inl (knoknew, 10, .inl gnoknew))]) [5, 6, 0, 1, 2, 3, 4] rfl), (hD.sub (ws' := [(h0, .inr (11, [.ref tp, .int s_taped, .ref dr, .ref rr, .ref rl, .int s_ruleCount, .int s_inForce, .ref to, .ref df, .ref nw, .ref tr, .ref no, .ref pa, .ref im, .ref co, .ref se, .ref ga, .ref pt, .int s_x])), (to, .inr (1, [.int to_deep, .int to_dishes, .int to_guests, .ref tolo, .ref tosa, .ref toea, .ref tocl])), (no, .inr (5, [.int no_kept, .ref nowhen, .ref nowho, .ref nosecret, .ref noknew])), (nowhen, .inl (knowhen, 10, .inl gnowhen)), (nowho, .inl (knowho, 10, .inl gnowho)), (nosecret, .inl (knosecret, 10, .inl gnosecret)), (noknew, .inl (knoknew, 10, .inl gnoknew))]) [5, 6, 0, 1, 2, 3, 4] (by decide) rfl), hS, (lv_sub hl [] rfl), rfl⟩
  · refine lv_aload_n hx hb dX11_note_5 rfl (lv_at hl 0 rfl) ?_
    refine va_get (D := (dC, dI)) (ci := 11) (v := .ref no) (C := RX11) (T := TX11) (N := 19) hx hb hq inX11 hown hK hP 0 rfl rfl 11 (by decide) (hq _ qw_460) (fun _ h9 => h9) rfl dX11_note_6 ?_
    have hPc := hP.sub (ws' := [(no, .inr (5, [.int no_kept, .ref nowhen, .ref nowho, .ref nosecret, .ref noknew]))]) [2] rfl
    have hDc := hD.sub (ws' := [(no, .inr (5, [.int no_kept, .ref nowhen, .ref nowho, .ref nosecret, .ref noknew]))]) [2] (by decide) rfl
    have hKc := hK.sub (tys' := []) [] rfl
    have hFc := va_free (wc := [(no, .inr (5, [.int no_kept, .ref nowhen, .ref nowho, .ref nosecret, .ref noknew]))]) hD hS hA [2] rfl
    refine va_callv (va_runV (As := []) (rest := []) ⟨hx, hb, hml, hown, hq⟩ (n_clear l dC dI _ no no_kept nowhen nowho nosecret noknew ) (cwV 0 hq (gV qw_654 qw_655 qw_656 qw_126 qw_657) rfl rfl rfl (by decide +kernel) ⟨Nat.le_of_ble_eq_true rfl, Nat.le_of_ble_eq_true rfl⟩) ⟨fun a U g mk q => by obtain ⟨q0, q1, qP, qK, qD, qE⟩ := q; exact ⟨q0, q1, qP, va_K.moved (u := U) (U := U.calling g mk a) (Vm.Alike.refl U.vm) qK, qD, xE.same rfl qE⟩, va_recv hKc hPc (ci := 5) (q0 := 0) rfl rfl, fun U hU hW => ⟨rfl, by rw [hU], by rw [hU]; exact hPc, va_K.moved hW.alike hKc, hDc.weaken (fun _ _ _ _ => trivial), xE.warm hW hE⟩⟩ rfl rfl hl.1 rfl (lv_room (Nat.le_of_ble_eq_true rfl)) dX11_note_9 ⟨Nat.le_of_ble_eq_true rfl, Nat.le_of_ble_eq_true rfl⟩) hS (fun q _ h => hFc q h) hFc (fun u t H1 locs ht hvm hw hB hz1 hk1 hS => ?_)
    obtain ⟨hP1, hK1, hD1⟩ := hB
    rw [ht] at hP1
    obtain ⟨hP, hD⟩ := va_join (wr := [(h0, .inr (11, [.ref tp, .int s_taped, .ref dr, .ref rr, .ref rl, .int s_ruleCount, .int s_inForce, .ref to, .ref df, .ref nw, .ref tr, .ref no, .ref pa, .ref im, .ref co, .ref se, .ref ga, .ref pt, .int s_x])), (to, .inr (1, [.int to_deep, .int to_dishes, .int to_guests, .ref tolo, .ref tosa, .ref toea, .ref tocl])), (nowhen, .inl (knowhen, 10, .inl gnowhen)), (nowho, .inl (knowho, 10, .inl gnowho)), (nosecret, .inl (knosecret, 10, .inl gnosecret)), (noknew, .inl (knoknew, 10, .inl gnoknew))]) (w1 := [(no, .inr (5, [.int 0, .ref nowhen, .ref nowho, .ref nosecret, .ref noknew]))]) hP hD [2] [0, 1, 3, 4, 5, 6] rfl rfl (by decide) (by decide) hk1 hFc hP1 hD1
    generalize H1 = H at hP hS ⊢
    have hP : va_P (dC, dI) classes [(h0, .inr (11, [.ref tp, .int s_taped, .ref dr, .ref rr, .ref rl, .int s_ruleCount, .int s_inForce, .ref to, .ref df, .ref nw, .ref tr, .ref no, .ref pa, .ref im, .ref co, .ref se, .ref ga, .ref pt, .int s_x])), (to, .inr (1, [.int to_deep, .int to_dishes, .int to_guests, .ref tolo, .ref tosa, .ref toea, .ref tocl])), (nowhen, .inl (knowhen, 10, .inl gnowhen)), (nowho, .inl (knowho, 10, .inl gnowho)), (nosecret, .inl (knosecret, 10, .inl gnosecret)), (noknew, .inl (knoknew, 10, .inl gnoknew)), (no, .inr (5, [.int 0, .ref nowhen, .ref nowho, .ref nosecret, .ref noknew]))] H := hP
    have hD : va_D A [(h0, .inr (11, [.ref tp, .int s_taped, .ref dr, .ref rr, .ref rl, .int s_ruleCount, .int s_inForce, .ref to, .ref df, .ref nw, .ref tr, .ref no, .ref pa, .ref im, .ref co, .ref se, .ref ga, .ref pt, .int s_x])), (to, .inr (1, [.int to_deep, .int to_dishes, .int to_guests, .ref tolo, .ref tosa, .ref toea, .ref tocl])), (nowhen, .inl (knowhen, 10, .inl gnowhen)), (nowho, .inl (knowho, 10, .inl gnowho)), (nosecret, .inl (knosecret, 10, .inl gnosecret)), (noknew, .inl (knoknew, 10, .inl gnoknew)), (no, .inr (5, [.int 0, .ref nowhen, .ref nowho, .ref nosecret, .ref noknew]))] := hD
    refine lv_iconst (v := 0) hx hb dX11_note_12 (by decide) ?_
    refine W.widen (k := 0) (n := 0) (Nat.le_of_ble_eq_true rfl) (Nat.le_of_ble_eq_true rfl) ?_
    exact W.iret (v := 0) hx hb hr (fun t ht hW => ⟨⟨0, (), rfl, trivial, gnowhen, gnowho, gnosecret, gnoknew, (fun i => [0].getD i 0), by rw [ht]; exact (hP.sub (ws' := [(h0, .inr (11, [.ref tp, .int s_taped, .ref dr, .ref rr, .ref rl, .int s_ruleCount, .int s_inForce, .ref to, .ref df, .ref nw, .ref tr, .ref no, .ref pa, .ref im, .ref co, .ref se, .ref ga, .ref pt, .int s_x])), (to, .inr (1, [.int to_deep, .int to_dishes, .int to_guests, .ref tolo, .ref tosa, .ref toea, .ref tocl])), (no, .inr (5, [.int 0, .ref nowhen, .ref nowho, .ref nosecret, .ref noknew])), (nowhen, .inl (knowhen, 10, .inl gnowhen)), (nowho, .inl (knowho, 10, .inl gnowho)), (nosecret, .inl (knosecret, 10, .inl gnosecret)), (noknew, .inl (knoknew, 10, .inl gnoknew))]) [0, 1, 6, 2, 3, 4, 5] rfl), va_K.moved hW.alike hK, (hD.sub (ws' := [(h0, .inr (11, [.ref tp, .int s_taped, .ref dr, .ref rr, .ref rl, .int s_ruleCount, .int s_inForce, .ref to, .ref df, .ref nw, .ref tr, .ref no, .ref pa, .ref im, .ref co, .ref se, .ref ga, .ref pt, .int s_x])), (to, .inr (1, [.int to_deep, .int to_dishes, .int to_guests, .ref tolo, .ref tosa, .ref toea, .ref tocl])), (no, .inr (5, [.int 0, .ref nowhen, .ref nowho, .ref nosecret, .ref noknew])), (nowhen, .inl (knowhen, 10, .inl gnowhen)), (nowho, .inl (knowho, 10, .inl gnowho)), (nosecret, .inl (knosecret, 10, .inl gnosecret)), (noknew, .inl (knoknew, 10, .inl gnoknew))]) [0, 1, 6, 2, 3, 4, 5] (by decide) rfl)⟩, hS.F ht⟩) hS.2.2 dX11_note_13

set_option maxHeartbeats 4000000 in
set_option maxRecDepth 100000 in
/-- x_count -/
theorem x_count (l : Launch) (dC : Nat → ClassId) (dI : Nat → Nat → Nat) (sz : Nat) (h0 : Nat) (tp : Nat) (s_taped : Int32) (dr : Nat) (rr : Nat) (rl : Nat) (s_ruleCount : Int32) (s_inForce : Int32) (to : Nat) (df : Nat) (nw : Nat) (tr : Nat) (no : Nat) (pa : Nat) (im : Nat) (co : Nat) (se : Nat) (ga : Nat) (pt : Nat) (s_x : Int32) (to_deep : Int32) (to_dishes : Int32) (to_guests : Int32) (tolo : Nat) (tosa : Nat) (toea : Nat) (tocl : Nat) (nw_minute : Int32) (nw_offered : Int32) (nw_table : Int32) (nw_sitting : Int32) (nw_gullet : Int32) (nw_knows : Int64) (no_kept : Int32) (nowhen : Nat) (nowho : Nat) (nosecret : Nat) (noknew : Nat) (pari : Nat) (pa_next : Int32) (pa_kept : Int32) (x0 : Int32) : Met l yX11_count (.code yX11_count cX11_count 2 (some .int) :: wsA) ({ frames := 1, cells := 0, slots := 0, locals := 21 }) (va_Pc [.ref h0, .int x0] (fun U => U.heap.size = sz ∧ va_P (dC, dI) classes [(h0, .inr (11, [.ref tp, .int s_taped, .ref dr, .ref rr, .ref rl, .int s_ruleCount, .int s_inForce, .ref to, .ref df, .ref nw, .ref tr, .ref no, .ref pa, .ref im, .ref co, .ref se, .ref ga, .ref pt, .int s_x])), (to, .inr (1, [.int to_deep, .int to_dishes, .int to_guests, .ref tolo, .ref tosa, .ref toea, .ref tocl])), (nw, .inr (3, [.int nw_minute, .int nw_offered, .int nw_table, .int nw_sitting, .int nw_gullet, .long nw_knows])), (no, .inr (5, [.int no_kept, .ref nowhen, .ref nowho, .ref nosecret, .ref noknew])), (pa, .inr (6, [.ref pari, .int pa_next, .int pa_kept]))] U.heap ∧ va_K (dC, dI) classes [] U ∧ va_D (fun _ => True) [(h0, .inr (11, [.ref tp, .int s_taped, .ref dr, .ref rr, .ref rl, .int s_ruleCount, .int s_inForce, .ref to, .ref df, .ref nw, .ref tr, .ref no, .ref pa, .ref im, .ref co, .ref se, .ref ga, .ref pt, .int s_x])), (to, .inr (1, [.int to_deep, .int to_dishes, .int to_guests, .ref tolo, .ref tosa, .ref toea, .ref tocl])), (nw, .inr (3, [.int nw_minute, .int nw_offered, .int nw_table, .int nw_sitting, .int nw_gullet, .long nw_knows])), (no, .inr (5, [.int no_kept, .ref nowhen, .ref nowho, .ref nosecret, .ref noknew])), (pa, .inr (6, [.ref pari, .int pa_next, .int pa_kept]))] ∧ xE U)) (va_Qi (fun (r : Int32) (_ : Unit) => True) (fun _ t => va_P (dC, dI) classes [(h0, .inr (11, [.ref tp, .int s_taped, .ref dr, .ref rr, .ref rl, .int s_ruleCount, .int s_inForce, .ref to, .ref df, .ref nw, .ref tr, .ref no, .ref pa, .ref im, .ref co, .ref se, .ref ga, .ref pt, .int s_x])), (to, .inr (1, [.int to_deep, .int to_dishes, .int to_guests, .ref tolo, .ref tosa, .ref toea, .ref tocl])), (nw, .inr (3, [.int nw_minute, .int nw_offered, .int nw_table, .int nw_sitting, .int nw_gullet, .long nw_knows])), (no, .inr (5, [.int no_kept, .ref nowhen, .ref nowho, .ref nosecret, .ref noknew])), (pa, .inr (6, [.ref pari, .int pa_next, .int pa_kept]))] t.heap ∧ va_K (dC, dI) classes [] t ∧ va_D (va_A [(h0, .inr (11, [.ref tp, .int s_taped, .ref dr, .ref rr, .ref rl, .int s_ruleCount, .int s_inForce, .ref to, .ref df, .ref nw, .ref tr, .ref no, .ref pa, .ref im, .ref co, .ref se, .ref ga, .ref pt, .int s_x])), (to, .inr (1, [.int to_deep, .int to_dishes, .int to_guests, .ref tolo, .ref tosa, .ref toea, .ref tocl])), (nw, .inr (3, [.int nw_minute, .int nw_offered, .int nw_table, .int nw_sitting, .int nw_gullet, .long nw_knows])), (no, .inr (5, [.int no_kept, .ref nowhen, .ref nowho, .ref nosecret, .ref noknew])), (pa, .inr (6, [.ref pari, .int pa_next, .int pa_kept]))] sz) [(h0, .inr (11, [.ref tp, .int s_taped, .ref dr, .ref rr, .ref rl, .int s_ruleCount, .int s_inForce, .ref to, .ref df, .ref nw, .ref tr, .ref no, .ref pa, .ref im, .ref co, .ref se, .ref ga, .ref pt, .int s_x])), (to, .inr (1, [.int to_deep, .int to_dishes, .int to_guests, .ref tolo, .ref tosa, .ref toea, .ref tocl])), (nw, .inr (3, [.int nw_minute, .int nw_offered, .int nw_table, .int nw_sitting, .int nw_gullet, .long nw_knows])), (no, .inr (5, [.int no_kept, .ref nowhen, .ref nowho, .ref nosecret, .ref noknew])), (pa, .inr (6, [.ref pari, .int pa_next, .int pa_kept]))]) (va_A [(h0, .inr (11, [.ref tp, .int s_taped, .ref dr, .ref rr, .ref rl, .int s_ruleCount, .int s_inForce, .ref to, .ref df, .ref nw, .ref tr, .ref no, .ref pa, .ref im, .ref co, .ref se, .ref ga, .ref pt, .int s_x])), (to, .inr (1, [.int to_deep, .int to_dishes, .int to_guests, .ref tolo, .ref tosa, .ref toea, .ref tocl])), (nw, .inr (3, [.int nw_minute, .int nw_offered, .int nw_table, .int nw_sitting, .int nw_gullet, .long nw_knows])), (no, .inr (5, [.int no_kept, .ref nowhen, .ref nowho, .ref nosecret, .ref noknew])), (pa, .inr (6, [.ref pari, .int pa_next, .int pa_kept]))] sz)) 0 0 (va_A [(h0, .inr (11, [.ref tp, .int s_taped, .ref dr, .ref rr, .ref rl, .int s_ruleCount, .int s_inForce, .ref to, .ref df, .ref nw, .ref tr, .ref no, .ref pa, .ref im, .ref co, .ref se, .ref ga, .ref pt, .int s_x])), (to, .inr (1, [.int to_deep, .int to_dishes, .int to_guests, .ref tolo, .ref tosa, .ref toea, .ref tocl])), (nw, .inr (3, [.int nw_minute, .int nw_offered, .int nw_table, .int nw_sitting, .int nw_gullet, .long nw_knows])), (no, .inr (5, [.int no_kept, .ref nowhen, .ref nowho, .ref nosecret, .ref noknew])), (pa, .inr (6, [.ref pari, .int pa_next, .int pa_kept]))] sz) := by
  refine Met.ofW (cc := cX11_count) (maxL := 2) (ret := (some .int)) (by decide) rfl ?_
  intro p e s m args below meth c s₁ B hml hv
  obtain ⟨rfl, hsz, hP, hK, hD0, hE⟩ := hv
  have hx := B.exec
  have hb := B.bytes
  have hr := B.returns
  have hts := atoms_spec (ws := .code yX11_count cX11_count 2 (some .int) :: wsA) B.pre
  have hq : ∀ w ∈ wsA, w.before _ s = true := fun w h => hts w (List.mem_cons_of_mem _ h)
  have hown : s.vm.findClass RX11 = some m.cls := findClass_of_methodNamed B.named
  have hlocks := B.notSynchronized
  subst hsz
  have hD := hD0.self (sz := s.heap.size)
  generalize hAe : va_A [(h0, .inr (11, [.ref tp, .int s_taped, .ref dr, .ref rr, .ref rl, .int s_ruleCount, .int s_inForce, .ref to, .ref df, .ref nw, .ref tr, .ref no, .ref pa, .ref im, .ref co, .ref se, .ref ga, .ref pt, .int s_x])), (to, .inr (1, [.int to_deep, .int to_dishes, .int to_guests, .ref tolo, .ref tosa, .ref toea, .ref tocl])), (nw, .inr (3, [.int nw_minute, .int nw_offered, .int nw_table, .int nw_sitting, .int nw_gullet, .long nw_knows])), (no, .inr (5, [.int no_kept, .ref nowhen, .ref nowho, .ref nosecret, .ref noknew])), (pa, .inr (6, [.ref pari, .int pa_next, .int pa_kept]))] s.heap.size = A at hD ⊢
  have hA : ∀ q : Nat, s.heap.size ≤ q → A q := fun q h => by rw [← hAe]; exact Or.inr h
  have hS : va_S A s.heap s.heap [] := va_S.rf
  have hl := lv_entry ([.ref h0, .int x0]) (n := 2) (Nat.le_of_ble_eq_true rfl)
  rw [lg_entry_eq]
  generalize (lg_sl ([.ref h0, .int x0]) ++ List.replicate (2 - (lg_sl ([.ref h0, .int x0])).length) Slot.unset).toArray = ls at hl ⊢
  have hl : lv_has ls 2 [(0, .ref h0), (1, .int x0)] := hl
  refine lv_iload_n hx hb dX11_count_0 rfl (lv_at hl 1 rfl) ?_
  rcases sw_0_13 x0 with rfl | rfl | rfl | rfl | rfl | rfl | rfl | rfl | rfl | rfl | rfl | rfl | rfl | rfl | c_3
  · refine lv_tableIn (tgt := 72) hx hb dX11_count_1 (by decide) (by decide) (off := 71) (by decide) (by decide) ?_
    refine lv_aload_n hx hb dX11_count_72 rfl (lv_at hl 0 rfl) ?_
    refine va_get (D := (dC, dI)) (ci := 11) (v := .ref to) (C := RX11) (T := TX11) (N := 19) hx hb hq inX11 hown hK hP 0 rfl rfl 7 (by decide) (hq _ qw_456) (fun _ h9 => h9) rfl dX11_count_73 ?_
    refine va_get (D := (dC, dI)) (ci := 1) (v := .int to_deep) (C := RX1) (T := TX1) (N := 7) hx hb hq inX1 hown hK hP 1 rfl rfl 0 (by decide) (hq _ qw_227) (fun _ h9 => h9) rfl dX11_count_76 ?_
    refine W.widen (k := 0) (n := 0) (Nat.le_of_ble_eq_true rfl) (Nat.le_of_ble_eq_true rfl) ?_
    exact W.iret (v := to_deep) hx hb hr (fun t ht hW => ⟨⟨to_deep, (), rfl, trivial, by rw [ht]; exact hP, va_K.moved hW.alike hK, hD⟩, hS.F ht⟩) hS.2.2 dX11_count_79
  · refine lv_tableIn (tgt := 80) hx hb dX11_count_1 (by decide) (by decide) (off := 79) (by decide) (by decide) ?_
    refine lv_aload_n hx hb dX11_count_80 rfl (lv_at hl 0 rfl) ?_
    refine va_get (D := (dC, dI)) (ci := 11) (v := .ref to) (C := RX11) (T := TX11) (N := 19) hx hb hq inX11 hown hK hP 0 rfl rfl 7 (by decide) (hq _ qw_456) (fun _ h9 => h9) rfl dX11_count_81 ?_
    refine va_get (D := (dC, dI)) (ci := 1) (v := .int to_dishes) (C := RX1) (T := TX1) (N := 7) hx hb hq inX1 hown hK hP 1 rfl rfl 1 (by decide) (hq _ qw_231) (fun _ h9 => h9) rfl dX11_count_84 ?_
    refine W.widen (k := 0) (n := 0) (Nat.le_of_ble_eq_true rfl) (Nat.le_of_ble_eq_true rfl) ?_
    exact W.iret (v := to_dishes) hx hb hr (fun t ht hW => ⟨⟨to_dishes, (), rfl, trivial, by rw [ht]; exact hP, va_K.moved hW.alike hK, hD⟩, hS.F ht⟩) hS.2.2 dX11_count_87
  · refine lv_tableIn (tgt := 88) hx hb dX11_count_1 (by decide) (by decide) (off := 87) (by decide) (by decide) ?_
    refine lv_aload_n hx hb dX11_count_88 rfl (lv_at hl 0 rfl) ?_
    refine va_get (D := (dC, dI)) (ci := 11) (v := .ref to) (C := RX11) (T := TX11) (N := 19) hx hb hq inX11 hown hK hP 0 rfl rfl 7 (by decide) (hq _ qw_456) (fun _ h9 => h9) rfl dX11_count_89 ?_
    refine va_get (D := (dC, dI)) (ci := 1) (v := .int to_guests) (C := RX1) (T := TX1) (N := 7) hx hb hq inX1 hown hK hP 1 rfl rfl 2 (by decide) (hq _ qw_235) (fun _ h9 => h9) rfl dX11_count_92 ?_
    refine W.widen (k := 0) (n := 0) (Nat.le_of_ble_eq_true rfl) (Nat.le_of_ble_eq_true rfl) ?_
    exact W.iret (v := to_guests) hx hb hr (fun t ht hW => ⟨⟨to_guests, (), rfl, trivial, by rw [ht]; exact hP, va_K.moved hW.alike hK, hD⟩, hS.F ht⟩) hS.2.2 dX11_count_95
  · refine lv_tableIn (tgt := 96) hx hb dX11_count_1 (by decide) (by decide) (off := 95) (by decide) (by decide) ?_
    refine lv_aload_n hx hb dX11_count_96 rfl (lv_at hl 0 rfl) ?_
    refine va_get (D := (dC, dI)) (ci := 11) (v := .int s_ruleCount) (C := RX11) (T := TX11) (N := 19) hx hb hq inX11 hown hK hP 0 rfl rfl 5 (by decide) (hq _ qw_454) (fun _ h9 => h9) rfl dX11_count_97 ?_
    refine W.widen (k := 0) (n := 0) (Nat.le_of_ble_eq_true rfl) (Nat.le_of_ble_eq_true rfl) ?_
    exact W.iret (v := s_ruleCount) hx hb hr (fun t ht hW => ⟨⟨s_ruleCount, (), rfl, trivial, by rw [ht]; exact hP, va_K.moved hW.alike hK, hD⟩, hS.F ht⟩) hS.2.2 dX11_count_100
  · refine lv_tableIn (tgt := 101) hx hb dX11_count_1 (by decide) (by decide) (off := 100) (by decide) (by decide) ?_
    refine lv_aload_n hx hb dX11_count_101 rfl (lv_at hl 0 rfl) ?_
    refine va_get (D := (dC, dI)) (ci := 11) (v := .int s_inForce) (C := RX11) (T := TX11) (N := 19) hx hb hq inX11 hown hK hP 0 rfl rfl 6 (by decide) (hq _ qw_455) (fun _ h9 => h9) rfl dX11_count_102 ?_
    refine W.widen (k := 0) (n := 0) (Nat.le_of_ble_eq_true rfl) (Nat.le_of_ble_eq_true rfl) ?_
    exact W.iret (v := s_inForce) hx hb hr (fun t ht hW => ⟨⟨s_inForce, (), rfl, trivial, by rw [ht]; exact hP, va_K.moved hW.alike hK, hD⟩, hS.F ht⟩) hS.2.2 dX11_count_105
  · refine lv_tableIn (tgt := 106) hx hb dX11_count_1 (by decide) (by decide) (off := 105) (by decide) (by decide) ?_
    refine lv_aload_n hx hb dX11_count_106 rfl (lv_at hl 0 rfl) ?_
    refine va_get (D := (dC, dI)) (ci := 11) (v := .ref nw) (C := RX11) (T := TX11) (N := 19) hx hb hq inX11 hown hK hP 0 rfl rfl 9 (by decide) (hq _ qw_458) (fun _ h9 => h9) rfl dX11_count_107 ?_
    refine va_get (D := (dC, dI)) (ci := 3) (v := .int nw_minute) (C := RX3) (T := TX3) (N := 6) hx hb hq inX3 hown hK hP 2 rfl rfl 0 (by decide) (hq _ qw_271) (fun _ h9 => h9) rfl dX11_count_110 ?_
    refine W.widen (k := 0) (n := 0) (Nat.le_of_ble_eq_true rfl) (Nat.le_of_ble_eq_true rfl) ?_
    exact W.iret (v := nw_minute) hx hb hr (fun t ht hW => ⟨⟨nw_minute, (), rfl, trivial, by rw [ht]; exact hP, va_K.moved hW.alike hK, hD⟩, hS.F ht⟩) hS.2.2 dX11_count_113
  · refine lv_tableIn (tgt := 114) hx hb dX11_count_1 (by decide) (by decide) (off := 113) (by decide) (by decide) ?_
    refine lv_aload_n hx hb dX11_count_114 rfl (lv_at hl 0 rfl) ?_
    refine va_get (D := (dC, dI)) (ci := 11) (v := .ref nw) (C := RX11) (T := TX11) (N := 19) hx hb hq inX11 hown hK hP 0 rfl rfl 9 (by decide) (hq _ qw_458) (fun _ h9 => h9) rfl dX11_count_115 ?_
    refine va_get (D := (dC, dI)) (ci := 3) (v := .int nw_table) (C := RX3) (T := TX3) (N := 6) hx hb hq inX3 hown hK hP 2 rfl rfl 2 (by decide) (hq _ qw_278) (fun _ h9 => h9) rfl dX11_count_118 ?_
    refine W.widen (k := 0) (n := 0) (Nat.le_of_ble_eq_true rfl) (Nat.le_of_ble_eq_true rfl) ?_
    exact W.iret (v := nw_table) hx hb hr (fun t ht hW => ⟨⟨nw_table, (), rfl, trivial, by rw [ht]; exact hP, va_K.moved hW.alike hK, hD⟩, hS.F ht⟩) hS.2.2 dX11_count_121
  · refine lv_tableIn (tgt := 122) hx hb dX11_count_1 (by decide) (by decide) (off := 121) (by decide) (by decide) ?_
    refine lv_aload_n hx hb dX11_count_122 rfl (lv_at hl 0 rfl) ?_
    refine va_get (D := (dC, dI)) (ci := 11) (v := .ref nw) (C := RX11) (T := TX11) (N := 19) hx hb hq inX11 hown hK hP 0 rfl rfl 9 (by decide) (hq _ qw_458) (fun _ h9 => h9) rfl dX11_count_123 ?_
    refine va_get (D := (dC, dI)) (ci := 3) (v := .int nw_sitting) (C := RX3) (T := TX3) (N := 6) hx hb hq inX3 hown hK hP 2 rfl rfl 3 (by decide) (hq _ qw_281) (fun _ h9 => h9) rfl dX11_count_126 ?_
    refine W.widen (k := 0) (n := 0) (Nat.le_of_ble_eq_true rfl) (Nat.le_of_ble_eq_true rfl) ?_
    exact W.iret (v := nw_sitting) hx hb hr (fun t ht hW => ⟨⟨nw_sitting, (), rfl, trivial, by rw [ht]; exact hP, va_K.moved hW.alike hK, hD⟩, hS.F ht⟩) hS.2.2 dX11_count_129
  · refine lv_tableIn (tgt := 130) hx hb dX11_count_1 (by decide) (by decide) (off := 129) (by decide) (by decide) ?_
    refine lv_aload_n hx hb dX11_count_130 rfl (lv_at hl 0 rfl) ?_
    refine va_get (D := (dC, dI)) (ci := 11) (v := .ref nw) (C := RX11) (T := TX11) (N := 19) hx hb hq inX11 hown hK hP 0 rfl rfl 9 (by decide) (hq _ qw_458) (fun _ h9 => h9) rfl dX11_count_131 ?_
    refine va_get (D := (dC, dI)) (ci := 3) (v := .long nw_knows) (C := RX3) (T := TX3) (N := 6) hx hb hq inX3 hown hK hP 2 rfl rfl 5 (by decide) (hq _ qw_287) (fun _ h9 => h9) rfl dX11_count_134 ?_
    have hPc := hP.sub (ws' := []) [] rfl
    have hDc := hD.sub (ws' := []) [] (by decide) rfl
    have hKc := hK.sub (tys' := []) [] rfl
    have hFc := va_free (wc := []) hD hS hA [] rfl
    refine va_calli (va_runS (As := [.long nw_knows]) (rest := []) ⟨hx, hb, hml, hown, hq⟩ (j_bitsl l dC dI _ nw_knows ) (va_cwS 1 hq (gT qw_1047 qw_999 qw_138 qw_1000) rfl rfl rfl (by decide +kernel) ⟨Nat.le_of_ble_eq_true rfl, Nat.le_of_ble_eq_true rfl⟩) ⟨fun a U g mk q => by obtain ⟨q0, q1, qP, qK, qD, qE⟩ := q; exact ⟨q0, q1, qP, va_K.moved (u := U) (U := U.calling g mk a) (Vm.Alike.refl U.vm) qK, qD, xE.same rfl qE⟩, fun U hU hW => ⟨rfl, by rw [hU], by rw [hU]; exact hPc, va_K.moved hW.alike hKc, hDc.weaken (fun _ _ _ _ => trivial), xE.warm hW hE⟩⟩ rfl rfl hl.1 rfl (lv_room (Nat.le_of_ble_eq_true rfl)) dX11_count_137 ⟨Nat.le_of_ble_eq_true rfl, Nat.le_of_ble_eq_true rfl⟩) hS (fun q _ h => hFc q h) hFc (fun r_4 u t H1 locs ht hvm hw hB hz1 hk1 hS => ?_)
    obtain ⟨hP1, hK1, hD1⟩ := hB
    rw [ht] at hP1
    obtain ⟨hP, hD⟩ := va_join (wr := [(h0, .inr (11, [.ref tp, .int s_taped, .ref dr, .ref rr, .ref rl, .int s_ruleCount, .int s_inForce, .ref to, .ref df, .ref nw, .ref tr, .ref no, .ref pa, .ref im, .ref co, .ref se, .ref ga, .ref pt, .int s_x])), (to, .inr (1, [.int to_deep, .int to_dishes, .int to_guests, .ref tolo, .ref tosa, .ref toea, .ref tocl])), (nw, .inr (3, [.int nw_minute, .int nw_offered, .int nw_table, .int nw_sitting, .int nw_gullet, .long nw_knows])), (no, .inr (5, [.int no_kept, .ref nowhen, .ref nowho, .ref nosecret, .ref noknew])), (pa, .inr (6, [.ref pari, .int pa_next, .int pa_kept]))]) (w1 := []) hP hD [] [0, 1, 2, 3, 4] rfl rfl (by decide) (by decide) hk1 hFc hP1 hD1
    generalize H1 = H at hP hS ⊢
    have hP : va_P (dC, dI) classes [(h0, .inr (11, [.ref tp, .int s_taped, .ref dr, .ref rr, .ref rl, .int s_ruleCount, .int s_inForce, .ref to, .ref df, .ref nw, .ref tr, .ref no, .ref pa, .ref im, .ref co, .ref se, .ref ga, .ref pt, .int s_x])), (to, .inr (1, [.int to_deep, .int to_dishes, .int to_guests, .ref tolo, .ref tosa, .ref toea, .ref tocl])), (nw, .inr (3, [.int nw_minute, .int nw_offered, .int nw_table, .int nw_sitting, .int nw_gullet, .long nw_knows])), (no, .inr (5, [.int no_kept, .ref nowhen, .ref nowho, .ref nosecret, .ref noknew])), (pa, .inr (6, [.ref pari, .int pa_next, .int pa_kept]))] H := hP
    have hD : va_D A [(h0, .inr (11, [.ref tp, .int s_taped, .ref dr, .ref rr, .ref rl, .int s_ruleCount, .int s_inForce, .ref to, .ref df, .ref nw, .ref tr, .ref no, .ref pa, .ref im, .ref co, .ref se, .ref ga, .ref pt, .int s_x])), (to, .inr (1, [.int to_deep, .int to_dishes, .int to_guests, .ref tolo, .ref tosa, .ref toea, .ref tocl])), (nw, .inr (3, [.int nw_minute, .int nw_offered, .int nw_table, .int nw_sitting, .int nw_gullet, .long nw_knows])), (no, .inr (5, [.int no_kept, .ref nowhen, .ref nowho, .ref nosecret, .ref noknew])), (pa, .inr (6, [.ref pari, .int pa_next, .int pa_kept]))] := hD
    refine W.widen (k := 0) (n := 0) (Nat.le_of_ble_eq_true rfl) (Nat.le_of_ble_eq_true rfl) ?_
    exact W.iret (v := r_4) hx hb hr (fun t ht hW => ⟨⟨r_4, (), rfl, trivial, by rw [ht]; exact hP, va_K.moved hW.alike hK, hD⟩, hS.F ht⟩) hS.2.2 dX11_count_140
  · refine lv_tableIn (tgt := 141) hx hb dX11_count_1 (by decide) (by decide) (off := 140) (by decide) (by decide) ?_
    refine lv_aload_n hx hb dX11_count_141 rfl (lv_at hl 0 rfl) ?_
    refine va_get (D := (dC, dI)) (ci := 11) (v := .ref nw) (C := RX11) (T := TX11) (N := 19) hx hb hq inX11 hown hK hP 0 rfl rfl 9 (by decide) (hq _ qw_458) (fun _ h9 => h9) rfl dX11_count_142 ?_
    refine va_get (D := (dC, dI)) (ci := 3) (v := .int nw_offered) (C := RX3) (T := TX3) (N := 6) hx hb hq inX3 hown hK hP 2 rfl rfl 1 (by decide) (hq _ qw_274) (fun _ h9 => h9) rfl dX11_count_145 ?_
    refine W.widen (k := 0) (n := 0) (Nat.le_of_ble_eq_true rfl) (Nat.le_of_ble_eq_true rfl) ?_
    exact W.iret (v := nw_offered) hx hb hr (fun t ht hW => ⟨⟨nw_offered, (), rfl, trivial, by rw [ht]; exact hP, va_K.moved hW.alike hK, hD⟩, hS.F ht⟩) hS.2.2 dX11_count_148
  · refine lv_tableIn (tgt := 149) hx hb dX11_count_1 (by decide) (by decide) (off := 148) (by decide) (by decide) ?_
    refine lv_aload_n hx hb dX11_count_149 rfl (lv_at hl 0 rfl) ?_
    refine va_get (D := (dC, dI)) (ci := 11) (v := .ref no) (C := RX11) (T := TX11) (N := 19) hx hb hq inX11 hown hK hP 0 rfl rfl 11 (by decide) (hq _ qw_460) (fun _ h9 => h9) rfl dX11_count_150 ?_
    refine va_get (D := (dC, dI)) (ci := 5) (v := .int no_kept) (C := RX5) (T := TX5) (N := 5) hx hb hq inX5 hown hK hP 3 rfl rfl 0 (by decide) (hq _ qw_308) (fun _ h9 => h9) rfl dX11_count_153 ?_
    refine W.widen (k := 0) (n := 0) (Nat.le_of_ble_eq_true rfl) (Nat.le_of_ble_eq_true rfl) ?_
    exact W.iret (v := no_kept) hx hb hr (fun t ht hW => ⟨⟨no_kept, (), rfl, trivial, by rw [ht]; exact hP, va_K.moved hW.alike hK, hD⟩, hS.F ht⟩) hS.2.2 dX11_count_156
  · refine lv_tableIn (tgt := 157) hx hb dX11_count_1 (by decide) (by decide) (off := 156) (by decide) (by decide) ?_
    refine lv_aload_n hx hb dX11_count_157 rfl (lv_at hl 0 rfl) ?_
    refine va_get (D := (dC, dI)) (ci := 11) (v := .ref pa) (C := RX11) (T := TX11) (N := 19) hx hb hq inX11 hown hK hP 0 rfl rfl 12 (by decide) (hq _ qw_461) (fun _ h9 => h9) rfl dX11_count_158 ?_
    refine va_get (D := (dC, dI)) (ci := 6) (v := .int pa_kept) (C := RX6) (T := TX6) (N := 3) hx hb hq inX6 hown hK hP 4 rfl rfl 2 (by decide) (hq _ qw_336) (fun _ h9 => h9) rfl dX11_count_161 ?_
    refine W.widen (k := 0) (n := 0) (Nat.le_of_ble_eq_true rfl) (Nat.le_of_ble_eq_true rfl) ?_
    exact W.iret (v := pa_kept) hx hb hr (fun t ht hW => ⟨⟨pa_kept, (), rfl, trivial, by rw [ht]; exact hP, va_K.moved hW.alike hK, hD⟩, hS.F ht⟩) hS.2.2 dX11_count_164
  · refine lv_tableIn (tgt := 165) hx hb dX11_count_1 (by decide) (by decide) (off := 164) (by decide) (by decide) ?_
    refine lv_aload_n hx hb dX11_count_165 rfl (lv_at hl 0 rfl) ?_
    refine va_get (D := (dC, dI)) (ci := 11) (v := .int s_x) (C := RX11) (T := TX11) (N := 19) hx hb hq inX11 hown hK hP 0 rfl rfl 18 (by decide) (hq _ qw_467) (fun _ h9 => h9) rfl dX11_count_166 ?_
    refine W.widen (k := 0) (n := 0) (Nat.le_of_ble_eq_true rfl) (Nat.le_of_ble_eq_true rfl) ?_
    exact W.iret (v := s_x) hx hb hr (fun t ht hW => ⟨⟨s_x, (), rfl, trivial, by rw [ht]; exact hP, va_K.moved hW.alike hK, hD⟩, hS.F ht⟩) hS.2.2 dX11_count_169
  · refine lv_tableIn (tgt := 170) hx hb dX11_count_1 (by decide) (by decide) (off := 169) (by decide) (by decide) ?_
    refine lv_aload_n hx hb dX11_count_170 rfl (lv_at hl 0 rfl) ?_
    refine va_get (D := (dC, dI)) (ci := 11) (v := .int s_taped) (C := RX11) (T := TX11) (N := 19) hx hb hq inX11 hown hK hP 0 rfl rfl 1 (by decide) (hq _ qw_450) (fun _ h9 => h9) rfl dX11_count_171 ?_
    refine W.widen (k := 0) (n := 0) (Nat.le_of_ble_eq_true rfl) (Nat.le_of_ble_eq_true rfl) ?_
    exact W.iret (v := s_taped) hx hb hr (fun t ht hW => ⟨⟨s_taped, (), rfl, trivial, by rw [ht]; exact hP, va_K.moved hW.alike hK, hD⟩, hS.F ht⟩) hS.2.2 dX11_count_174
  · refine lv_tableOut (tgt := 175) hx hb dX11_count_1 c_3 (by decide) ?_
    refine lv_iconst (v := (-1)) hx hb dX11_count_175 (by decide) ?_
    refine W.widen (k := 0) (n := 0) (Nat.le_of_ble_eq_true rfl) (Nat.le_of_ble_eq_true rfl) ?_
    exact W.iret (v := (-1)) hx hb hr (fun t ht hW => ⟨⟨(-1), (), rfl, trivial, by rw [ht]; exact hP, va_K.moved hW.alike hK, hD⟩, hS.F ht⟩) hS.2.2 dX11_count_176

set_option maxHeartbeats 4000000 in
set_option maxRecDepth 100000 in
/-- x_seed_neg -/
theorem x_seed_neg (l : Launch) (dC : Nat → ClassId) (dI : Nat → Nat → Nat) (sz : Nat) (h0 : Nat) (tp : Nat) (s_taped : Int32) (dr : Nat) (rr : Nat) (rl : Nat) (s_ruleCount : Int32) (s_inForce : Int32) (to : Nat) (df : Nat) (nw : Nat) (tr : Nat) (no : Nat) (pa : Nat) (im : Nat) (co : Nat) (se : Nat) (ga : Nat) (pt : Nat) (s_x : Int32) (x0 : Int32) (b_x0 : bt (-2147483648) (-1) x0) : Met l yX11_seed (.code yX11_seed cX11_seed 3 (some .int) :: wsA) ({ frames := 0, cells := 0, slots := 0, locals := 0 }) (va_Pc [.ref h0, .int x0] (fun U => U.heap.size = sz ∧ va_P (dC, dI) classes [(h0, .inr (11, [.ref tp, .int s_taped, .ref dr, .ref rr, .ref rl, .int s_ruleCount, .int s_inForce, .ref to, .ref df, .ref nw, .ref tr, .ref no, .ref pa, .ref im, .ref co, .ref se, .ref ga, .ref pt, .int s_x]))] U.heap ∧ va_K (dC, dI) classes [] U ∧ va_D (fun _ => True) [(h0, .inr (11, [.ref tp, .int s_taped, .ref dr, .ref rr, .ref rl, .int s_ruleCount, .int s_inForce, .ref to, .ref df, .ref nw, .ref tr, .ref no, .ref pa, .ref im, .ref co, .ref se, .ref ga, .ref pt, .int s_x]))] ∧ xE U)) (va_Qi (fun (r : Int32) (_ : Unit) => r = (-1)) (fun _ t => va_P (dC, dI) classes [(h0, .inr (11, [.ref tp, .int s_taped, .ref dr, .ref rr, .ref rl, .int s_ruleCount, .int s_inForce, .ref to, .ref df, .ref nw, .ref tr, .ref no, .ref pa, .ref im, .ref co, .ref se, .ref ga, .ref pt, .int s_x]))] t.heap ∧ va_K (dC, dI) classes [] t ∧ va_D (va_A [(h0, .inr (11, [.ref tp, .int s_taped, .ref dr, .ref rr, .ref rl, .int s_ruleCount, .int s_inForce, .ref to, .ref df, .ref nw, .ref tr, .ref no, .ref pa, .ref im, .ref co, .ref se, .ref ga, .ref pt, .int s_x]))] sz) [(h0, .inr (11, [.ref tp, .int s_taped, .ref dr, .ref rr, .ref rl, .int s_ruleCount, .int s_inForce, .ref to, .ref df, .ref nw, .ref tr, .ref no, .ref pa, .ref im, .ref co, .ref se, .ref ga, .ref pt, .int s_x]))]) (va_A [(h0, .inr (11, [.ref tp, .int s_taped, .ref dr, .ref rr, .ref rl, .int s_ruleCount, .int s_inForce, .ref to, .ref df, .ref nw, .ref tr, .ref no, .ref pa, .ref im, .ref co, .ref se, .ref ga, .ref pt, .int s_x]))] sz)) 0 0 (va_A [(h0, .inr (11, [.ref tp, .int s_taped, .ref dr, .ref rr, .ref rl, .int s_ruleCount, .int s_inForce, .ref to, .ref df, .ref nw, .ref tr, .ref no, .ref pa, .ref im, .ref co, .ref se, .ref ga, .ref pt, .int s_x]))] sz) := by
  refine Met.ofW (cc := cX11_seed) (maxL := 3) (ret := (some .int)) (by decide) rfl ?_
  intro p e s m args below meth c s₁ B hml hv
  obtain ⟨rfl, hsz, hP, hK, hD0, hE⟩ := hv
  have hx := B.exec
  have hb := B.bytes
  have hr := B.returns
  have hts := atoms_spec (ws := .code yX11_seed cX11_seed 3 (some .int) :: wsA) B.pre
  have hq : ∀ w ∈ wsA, w.before _ s = true := fun w h => hts w (List.mem_cons_of_mem _ h)
  have hown : s.vm.findClass RX11 = some m.cls := findClass_of_methodNamed B.named
  have hlocks := B.notSynchronized
  subst hsz
  have hD := hD0.self (sz := s.heap.size)
  generalize hAe : va_A [(h0, .inr (11, [.ref tp, .int s_taped, .ref dr, .ref rr, .ref rl, .int s_ruleCount, .int s_inForce, .ref to, .ref df, .ref nw, .ref tr, .ref no, .ref pa, .ref im, .ref co, .ref se, .ref ga, .ref pt, .int s_x]))] s.heap.size = A at hD ⊢
  have hA : ∀ q : Nat, s.heap.size ≤ q → A q := fun q h => by rw [← hAe]; exact Or.inr h
  have hS : va_S A s.heap s.heap [] := va_S.rf
  have hl := lv_entry ([.ref h0, .int x0]) (n := 3) (Nat.le_of_ble_eq_true rfl)
  rw [lg_entry_eq]
  generalize (lg_sl ([.ref h0, .int x0]) ++ List.replicate (3 - (lg_sl ([.ref h0, .int x0])).length) Slot.unset).toArray = ls at hl ⊢
  have hl : lv_has ls 3 [(0, .ref h0), (1, .int x0)] := hl
  refine lv_iload_n hx hb dX11_seed_0 rfl (lv_at hl 1 rfl) ?_
  refine lv_if_ge (tgt := 6) hx hb dX11_seed_1 (by decide) (fun c_2 => ?_) (fun c_2 => ?_)
  · exact (rf_le_no (bt_k (x := 0) (c := 0) (by decide)) b_x0 c_2 (by decide)).elim
  · refine lv_iconst (v := (-1)) hx hb dX11_seed_4 (by decide) ?_
    refine W.widen (k := 0) (n := 0) (Nat.le_of_ble_eq_true rfl) (Nat.le_of_ble_eq_true rfl) ?_
    exact W.iret (v := (-1)) hx hb hr (fun t ht hW => ⟨⟨(-1), (), rfl, rfl, by rw [ht]; exact hP, va_K.moved hW.alike hK, hD⟩, hS.F ht⟩) hS.2.2 dX11_seed_5

set_option maxHeartbeats 4000000 in
set_option maxRecDepth 100000 in
/-- x_seed_pos -/
theorem x_seed_pos (l : Launch) (dC : Nat → ClassId) (dI : Nat → Nat → Nat) (sz : Nat) (h0 : Nat) (tp : Nat) (s_taped : Int32) (dr : Nat) (rr : Nat) (rl : Nat) (s_ruleCount : Int32) (s_inForce : Int32) (to : Nat) (df : Nat) (nw : Nat) (tr : Nat) (no : Nat) (pa : Nat) (im : Nat) (co : Nat) (se : Nat) (ga : Nat) (pt : Nat) (s_x : Int32) (x0 : Int32) (b_x0 : bt 0 2147483647 x0) : Met l yX11_seed (.code yX11_seed cX11_seed 3 (some .int) :: wsA) ({ frames := 0, cells := 0, slots := 0, locals := 0 }) (va_Pc [.ref h0, .int x0] (fun U => U.heap.size = sz ∧ va_P (dC, dI) classes [(h0, .inr (11, [.ref tp, .int s_taped, .ref dr, .ref rr, .ref rl, .int s_ruleCount, .int s_inForce, .ref to, .ref df, .ref nw, .ref tr, .ref no, .ref pa, .ref im, .ref co, .ref se, .ref ga, .ref pt, .int s_x]))] U.heap ∧ va_K (dC, dI) classes [] U ∧ va_D (fun _ => True) [(h0, .inr (11, [.ref tp, .int s_taped, .ref dr, .ref rr, .ref rl, .int s_ruleCount, .int s_inForce, .ref to, .ref df, .ref nw, .ref tr, .ref no, .ref pa, .ref im, .ref co, .ref se, .ref ga, .ref pt, .int s_x]))] ∧ xE U)) (va_Qi (fun (r : Int32) (_ : Unit) => r = s_x) (fun _ t => va_P (dC, dI) classes [(h0, .inr (11, [.ref tp, .int s_taped, .ref dr, .ref rr, .ref rl, .int s_ruleCount, .int s_inForce, .ref to, .ref df, .ref nw, .ref tr, .ref no, .ref pa, .ref im, .ref co, .ref se, .ref ga, .ref pt, .int x0]))] t.heap ∧ va_K (dC, dI) classes [] t ∧ va_D (va_A [(h0, .inr (11, [.ref tp, .int s_taped, .ref dr, .ref rr, .ref rl, .int s_ruleCount, .int s_inForce, .ref to, .ref df, .ref nw, .ref tr, .ref no, .ref pa, .ref im, .ref co, .ref se, .ref ga, .ref pt, .int s_x]))] sz) [(h0, .inr (11, [.ref tp, .int s_taped, .ref dr, .ref rr, .ref rl, .int s_ruleCount, .int s_inForce, .ref to, .ref df, .ref nw, .ref tr, .ref no, .ref pa, .ref im, .ref co, .ref se, .ref ga, .ref pt, .int x0]))]) (va_A [(h0, .inr (11, [.ref tp, .int s_taped, .ref dr, .ref rr, .ref rl, .int s_ruleCount, .int s_inForce, .ref to, .ref df, .ref nw, .ref tr, .ref no, .ref pa, .ref im, .ref co, .ref se, .ref ga, .ref pt, .int s_x]))] sz)) 0 0 (va_A [(h0, .inr (11, [.ref tp, .int s_taped, .ref dr, .ref rr, .ref rl, .int s_ruleCount, .int s_inForce, .ref to, .ref df, .ref nw, .ref tr, .ref no, .ref pa, .ref im, .ref co, .ref se, .ref ga, .ref pt, .int s_x]))] sz) := by
  refine Met.ofW (cc := cX11_seed) (maxL := 3) (ret := (some .int)) (by decide) rfl ?_
  intro p e s m args below meth c s₁ B hml hv
  obtain ⟨rfl, hsz, hP, hK, hD0, hE⟩ := hv
  have hx := B.exec
  have hb := B.bytes
  have hr := B.returns
  have hts := atoms_spec (ws := .code yX11_seed cX11_seed 3 (some .int) :: wsA) B.pre
  have hq : ∀ w ∈ wsA, w.before _ s = true := fun w h => hts w (List.mem_cons_of_mem _ h)
  have hown : s.vm.findClass RX11 = some m.cls := findClass_of_methodNamed B.named
  have hlocks := B.notSynchronized
  subst hsz
  have hD := hD0.self (sz := s.heap.size)
  generalize hAe : va_A [(h0, .inr (11, [.ref tp, .int s_taped, .ref dr, .ref rr, .ref rl, .int s_ruleCount, .int s_inForce, .ref to, .ref df, .ref nw, .ref tr, .ref no, .ref pa, .ref im, .ref co, .ref se, .ref ga, .ref pt, .int s_x]))] s.heap.size = A at hD ⊢
  have hA : ∀ q : Nat, s.heap.size ≤ q → A q := fun q h => by rw [← hAe]; exact Or.inr h
  have hS : va_S A s.heap s.heap [] := va_S.rf
  have hl := lv_entry ([.ref h0, .int x0]) (n := 3) (Nat.le_of_ble_eq_true rfl)
  rw [lg_entry_eq]
  generalize (lg_sl ([.ref h0, .int x0]) ++ List.replicate (3 - (lg_sl ([.ref h0, .int x0])).length) Slot.unset).toArray = ls at hl ⊢
  have hl : lv_has ls 3 [(0, .ref h0), (1, .int x0)] := hl
  refine lv_iload_n hx hb dX11_seed_0 rfl (lv_at hl 1 rfl) ?_
  refine lv_if_ge (tgt := 6) hx hb dX11_seed_1 (by decide) (fun c_2 => ?_) (fun c_2 => ?_)
  · refine lv_aload_n hx hb dX11_seed_6 rfl (lv_at hl 0 rfl) ?_
    refine va_get (D := (dC, dI)) (ci := 11) (v := .int s_x) (C := RX11) (T := TX11) (N := 19) hx hb hq inX11 hown hK hP 0 rfl rfl 18 (by decide) (hq _ qw_467) (fun _ h9 => h9) rfl dX11_seed_7 ?_
    refine lv_istore_n (lv' := [(2, .int s_x), (0, .ref h0), (1, .int x0)]) hx hb dX11_seed_10 rfl hl (by decide) rfl (fun ls hl => ?_)
    refine lv_aload_n hx hb dX11_seed_11 rfl (lv_at hl 1 rfl) ?_
    refine lv_iload_n hx hb dX11_seed_12 rfl (lv_at hl 2 rfl) ?_
    refine va_put (D := (dC, dI)) (ci := 11) (v := .int x0) (ty := .int) (C := RX11) (T := TX11) (N := 19) hx hb hq inX11 tyX11 tyX11_ok nmX11 hown hK hP hD hS 0 rfl rfl 18 (by decide) (hq _ qw_467) (fun _ h9 => h9) rfl (by decide +kernel) rfl rfl (Nat.le_of_ble_eq_true rfl) dX11_seed_13 (fun H locs hP hD hS => ?_)
    have hP : va_P (dC, dI) classes [(h0, .inr (11, [.ref tp, .int s_taped, .ref dr, .ref rr, .ref rl, .int s_ruleCount, .int s_inForce, .ref to, .ref df, .ref nw, .ref tr, .ref no, .ref pa, .ref im, .ref co, .ref se, .ref ga, .ref pt, .int x0]))] H := hP
    have hD : va_D A [(h0, .inr (11, [.ref tp, .int s_taped, .ref dr, .ref rr, .ref rl, .int s_ruleCount, .int s_inForce, .ref to, .ref df, .ref nw, .ref tr, .ref no, .ref pa, .ref im, .ref co, .ref se, .ref ga, .ref pt, .int x0]))] := hD
    refine lv_iload_n hx hb dX11_seed_16 rfl (lv_at hl 0 rfl) ?_
    refine W.widen (k := 0) (n := 0) (Nat.le_of_ble_eq_true rfl) (Nat.le_of_ble_eq_true rfl) ?_
    exact W.iret (v := s_x) hx hb hr (fun t ht hW => ⟨⟨s_x, (), rfl, rfl, by rw [ht]; exact hP, va_K.moved hW.alike hK, hD⟩, hS.F ht⟩) hS.2.2 dX11_seed_17
  · exact (rf_lt_no b_x0 (bt_k (x := 0) (c := 0) (by decide)) (Int32.not_le.mp c_2) (by decide)).elim
