theorem qw_1 : (.selects RX7 yX7_byteAt yX7_byteAt : Cond) ∈ wsA := mA (i := 1) (by decide +kernel) rfl
theorem qw_121 : (.initialized RX7 : Cond) ∈ wsA := mA (i := 121) (by decide +kernel) rfl
theorem qw_159 : (.fieldLink RX7 9 "SpokenBite$Reade\x72" "text" "[I" : Cond) ∈ wsA := mA (i := 159) (by decide +kernel) rfl
theorem qw_160 : (.fieldLink RX7 21 "SpokenBite$Reade\x72" "length" "I" : Cond) ∈ wsA := mA (i := 160) (by decide +kernel) rfl
theorem qw_161 : (.fieldLink RX7 25 "SpokenBite$Reade\x72" "place" "I" : Cond) ∈ wsA := mA (i := 161) (by decide +kernel) rfl
theorem qw_164 : (.fieldLink RX7 28 "SpokenBite$Reade\x72" "fault" "I" : Cond) ∈ wsA := mA (i := 164) (by decide +kernel) rfl
theorem qw_531 : (.methodLink RX7 15 Lib.Math.min.name : Cond) ∈ wsA := mA (i := 531) (by decide +kernel) rfl
theorem qw_539 : (.instanceMethod yX7_sign : Cond) ∈ wsA := mA (i := 539) (by decide +kernel) rfl
theorem qw_540 : (.selects RX7 yX7_sign yX7_sign : Cond) ∈ wsA := mA (i := 540) (by decide +kernel) rfl
theorem qw_541 : (.code yX7_sign cX7_sign 2 (some .int) : Cond) ∈ wsA := mA (i := 541) (by decide +kernel) rfl
theorem qw_542 : (.methodLink RX7 31 yX7_byteAt : Cond) ∈ wsA := mA (i := 542) (by decide +kernel) rfl
theorem qw_544 : (.instanceMethod yX7_byteAt : Cond) ∈ wsA := mA (i := 544) (by decide +kernel) rfl
theorem qw_545 : (.code yX7_byteAt cX7_byteAt 2 (some .int) : Cond) ∈ wsA := mA (i := 545) (by decide +kernel) rfl
theorem qw_551 : (.methodLink RX7 35 yJ0_length_8abf5 : Cond) ∈ wsA := mA (i := 551) (by decide +kernel) rfl
theorem qw_552 : (.instanceMethod yJ0_length_8abf5 : Cond) ∈ wsA := mA (i := 552) (by decide +kernel) rfl
theorem qw_553 : (.selects RJ0 yJ0_length_8abf5 yJ0_length_8abf5 : Cond) ∈ wsA := mA (i := 553) (by decide +kernel) rfl
theorem qw_554 : (.code yJ0_length_8abf5 cJ0_length_8abf5 1 (some .int) : Cond) ∈ wsA := mA (i := 554) (by decide +kernel) rfl
theorem qw_561 : (.methodLink RX7 40 yJ0_charAt_5068e : Cond) ∈ wsA := mA (i := 561) (by decide +kernel) rfl
theorem qw_562 : (.instanceMethod yJ0_charAt_5068e : Cond) ∈ wsA := mA (i := 562) (by decide +kernel) rfl
theorem qw_563 : (.selects RJ0 yJ0_charAt_5068e yJ0_charAt_5068e : Cond) ∈ wsA := mA (i := 563) (by decide +kernel) rfl
theorem qw_564 : (.code yJ0_charAt_5068e cJ0_charAt_5068e 2 (some .char) : Cond) ∈ wsA := mA (i := 564) (by decide +kernel) rfl
theorem qw_599 : (.methodLink RX7 44 yX7_isLetter : Cond) ∈ wsA := mA (i := 599) (by decide +kernel) rfl
theorem qw_600 : (.static yX7_isLetter : Cond) ∈ wsA := mA (i := 600) (by decide +kernel) rfl
theorem qw_601 : (.code yX7_isLetter cX7_isLetter 1 (some .boolean) : Cond) ∈ wsA := mA (i := 601) (by decide +kernel) rfl
theorem qw_603 : (.instanceMethod yX7_blame : Cond) ∈ wsA := mA (i := 603) (by decide +kernel) rfl
theorem qw_604 : (.selects RX7 yX7_blame yX7_blame : Cond) ∈ wsA := mA (i := 604) (by decide +kernel) rfl
theorem qw_605 : (.code yX7_blame cX7_blame 3 none : Cond) ∈ wsA := mA (i := 605) (by decide +kernel) rfl
theorem qw_625 : (.methodLink RX7 48 yX7_isDigit : Cond) ∈ wsA := mA (i := 625) (by decide +kernel) rfl
theorem qw_626 : (.static yX7_isDigit : Cond) ∈ wsA := mA (i := 626) (by decide +kernel) rfl
theorem qw_627 : (.code yX7_isDigit cX7_isDigit 1 (some .boolean) : Cond) ∈ wsA := mA (i := 627) (by decide +kernel) rfl
theorem qw_628 : (.methodLink RX7 51 yX7_blame : Cond) ∈ wsA := mA (i := 628) (by decide +kernel) rfl
theorem qw_645 : (.methodLink RX7 55 yX7_sign : Cond) ∈ wsA := mA (i := 645) (by decide +kernel) rfl
theorem dX7_blame_0 : decode cX7_blame 0 = .ok (.aload_n 0, 1) := by decide +kernel
theorem dX7_blame_1 : decode cX7_blame 1 = .ok (.getfield 28, 3) := by decide +kernel
theorem dX7_blame_4 : decode cX7_blame 4 = .ok (.ifCond .ne 15, 3) := by decide +kernel
theorem dX7_blame_7 : decode cX7_blame 7 = .ok (.aload_n 0, 1) := by decide +kernel
theorem dX7_blame_8 : decode cX7_blame 8 = .ok (.iconst 1, 1) := by decide +kernel
theorem dX7_blame_9 : decode cX7_blame 9 = .ok (.bipush 8, 2) := by decide +kernel
theorem dX7_blame_11 : decode cX7_blame 11 = .ok (.iload_n 1, 1) := by decide +kernel
theorem dX7_blame_12 : decode cX7_blame 12 = .ok (.imul, 1) := by decide +kernel
theorem dX7_blame_13 : decode cX7_blame 13 = .ok (.iadd, 1) := by decide +kernel
theorem dX7_blame_14 : decode cX7_blame 14 = .ok (.iload_n 2, 1) := by decide +kernel
theorem dX7_blame_15 : decode cX7_blame 15 = .ok (.iadd, 1) := by decide +kernel
theorem dX7_blame_16 : decode cX7_blame 16 = .ok (.putfield 28, 3) := by decide +kernel
theorem dX7_blame_19 : decode cX7_blame 19 = .ok (.return_, 1) := by decide +kernel
theorem dX7_byteAt_0 : decode cX7_byteAt 0 = .ok (.iload_n 1, 1) := by decide +kernel
theorem dX7_byteAt_1 : decode cX7_byteAt 1 = .ok (.ifCond .lt 29, 3) := by decide +kernel
theorem dX7_byteAt_4 : decode cX7_byteAt 4 = .ok (.iload_n 1, 1) := by decide +kernel
theorem dX7_byteAt_5 : decode cX7_byteAt 5 = .ok (.aload_n 0, 1) := by decide +kernel
theorem dX7_byteAt_6 : decode cX7_byteAt 6 = .ok (.getfield 21, 3) := by decide +kernel
theorem dX7_byteAt_9 : decode cX7_byteAt 9 = .ok (.if_icmp .ge 21, 3) := by decide +kernel
theorem dX7_byteAt_12 : decode cX7_byteAt 12 = .ok (.iload_n 1, 1) := by decide +kernel
theorem dX7_byteAt_13 : decode cX7_byteAt 13 = .ok (.aload_n 0, 1) := by decide +kernel
theorem dX7_byteAt_14 : decode cX7_byteAt 14 = .ok (.getfield 9, 3) := by decide +kernel
theorem dX7_byteAt_17 : decode cX7_byteAt 17 = .ok (.arraylength, 1) := by decide +kernel
theorem dX7_byteAt_18 : decode cX7_byteAt 18 = .ok (.if_icmp .ge 12, 3) := by decide +kernel
theorem dX7_byteAt_21 : decode cX7_byteAt 21 = .ok (.aload_n 0, 1) := by decide +kernel
theorem dX7_byteAt_22 : decode cX7_byteAt 22 = .ok (.getfield 9, 3) := by decide +kernel
theorem dX7_byteAt_25 : decode cX7_byteAt 25 = .ok (.iload_n 1, 1) := by decide +kernel
theorem dX7_byteAt_26 : decode cX7_byteAt 26 = .ok (.iaload, 1) := by decide +kernel
theorem dX7_byteAt_27 : decode cX7_byteAt 27 = .ok (.goto 4, 3) := by decide +kernel
theorem dX7_byteAt_30 : decode cX7_byteAt 30 = .ok (.iconst (-1), 1) := by decide +kernel
theorem dX7_byteAt_31 : decode cX7_byteAt 31 = .ok (.ireturn, 1) := by decide +kernel
theorem dX7_goesOn_0 : decode cX7_goesOn 0 = .ok (.aload_n 0, 1) := by decide +kernel
theorem dX7_goesOn_1 : decode cX7_goesOn 1 = .ok (.invokevirtual 55, 3) := by decide +kernel
theorem dX7_goesOn_4 : decode cX7_goesOn 4 = .ok (.istore_n 1, 1) := by decide +kernel
theorem dX7_goesOn_5 : decode cX7_goesOn 5 = .ok (.aload_n 0, 1) := by decide +kernel
theorem dX7_goesOn_6 : decode cX7_goesOn 6 = .ok (.getfield 28, 3) := by decide +kernel
theorem dX7_goesOn_9 : decode cX7_goesOn 9 = .ok (.ifCond .ne 8, 3) := by decide +kernel
theorem dX7_goesOn_12 : decode cX7_goesOn 12 = .ok (.iload_n 1, 1) := by decide +kernel
theorem dX7_goesOn_13 : decode cX7_goesOn 13 = .ok (.iconst (-1), 1) := by decide +kernel
theorem dX7_goesOn_14 : decode cX7_goesOn 14 = .ok (.if_icmp .ne 5, 3) := by decide +kernel
theorem dX7_goesOn_17 : decode cX7_goesOn 17 = .ok (.iconst 0, 1) := by decide +kernel
theorem dX7_goesOn_18 : decode cX7_goesOn 18 = .ok (.ireturn, 1) := by decide +kernel
theorem dX7_goesOn_19 : decode cX7_goesOn 19 = .ok (.iload_n 1, 1) := by decide +kernel
theorem dX7_goesOn_20 : decode cX7_goesOn 20 = .ok (.bipush 59, 2) := by decide +kernel
theorem dX7_goesOn_22 : decode cX7_goesOn 22 = .ok (.if_icmp .eq 14, 3) := by decide +kernel
theorem dX7_goesOn_25 : decode cX7_goesOn 25 = .ok (.aload_n 0, 1) := by decide +kernel
theorem dX7_goesOn_26 : decode cX7_goesOn 26 = .ok (.aload_n 0, 1) := by decide +kernel
theorem dX7_goesOn_27 : decode cX7_goesOn 27 = .ok (.getfield 25, 3) := by decide +kernel
theorem dX7_goesOn_30 : decode cX7_goesOn 30 = .ok (.iconst 0, 1) := by decide +kernel
theorem dX7_goesOn_31 : decode cX7_goesOn 31 = .ok (.invokevirtual 51, 3) := by decide +kernel
theorem dX7_goesOn_34 : decode cX7_goesOn 34 = .ok (.iconst 0, 1) := by decide +kernel
theorem dX7_goesOn_35 : decode cX7_goesOn 35 = .ok (.ireturn, 1) := by decide +kernel
theorem dX7_goesOn_36 : decode cX7_goesOn 36 = .ok (.aload_n 0, 1) := by decide +kernel
theorem dX7_goesOn_37 : decode cX7_goesOn 37 = .ok (.dup, 1) := by decide +kernel
theorem dX7_goesOn_38 : decode cX7_goesOn 38 = .ok (.getfield 25, 3) := by decide +kernel
theorem dX7_goesOn_41 : decode cX7_goesOn 41 = .ok (.iconst 1, 1) := by decide +kernel
theorem dX7_goesOn_42 : decode cX7_goesOn 42 = .ok (.iadd, 1) := by decide +kernel
theorem dX7_goesOn_43 : decode cX7_goesOn 43 = .ok (.putfield 25, 3) := by decide +kernel
theorem dX7_goesOn_46 : decode cX7_goesOn 46 = .ok (.iconst 1, 1) := by decide +kernel
theorem dX7_goesOn_47 : decode cX7_goesOn 47 = .ok (.ireturn, 1) := by decide +kernel
theorem dX7_isDigit_0 : decode cX7_isDigit 0 = .ok (.iload_n 0, 1) := by decide +kernel
theorem dX7_isDigit_1 : decode cX7_isDigit 1 = .ok (.bipush 48, 2) := by decide +kernel
theorem dX7_isDigit_3 : decode cX7_isDigit 3 = .ok (.if_icmp .lt 13, 3) := by decide +kernel
theorem dX7_isDigit_6 : decode cX7_isDigit 6 = .ok (.iload_n 0, 1) := by decide +kernel
theorem dX7_isDigit_7 : decode cX7_isDigit 7 = .ok (.bipush 57, 2) := by decide +kernel
theorem dX7_isDigit_9 : decode cX7_isDigit 9 = .ok (.if_icmp .gt 7, 3) := by decide +kernel
theorem dX7_isDigit_12 : decode cX7_isDigit 12 = .ok (.iconst 1, 1) := by decide +kernel
theorem dX7_isDigit_13 : decode cX7_isDigit 13 = .ok (.goto 4, 3) := by decide +kernel
theorem dX7_isDigit_16 : decode cX7_isDigit 16 = .ok (.iconst 0, 1) := by decide +kernel
theorem dX7_isDigit_17 : decode cX7_isDigit 17 = .ok (.ireturn, 1) := by decide +kernel
theorem dX7_isLetter_0 : decode cX7_isLetter 0 = .ok (.iload_n 0, 1) := by decide +kernel
theorem dX7_isLetter_1 : decode cX7_isLetter 1 = .ok (.bipush 97, 2) := by decide +kernel
theorem dX7_isLetter_3 : decode cX7_isLetter 3 = .ok (.if_icmp .lt 13, 3) := by decide +kernel
theorem dX7_isLetter_6 : decode cX7_isLetter 6 = .ok (.iload_n 0, 1) := by decide +kernel
theorem dX7_isLetter_7 : decode cX7_isLetter 7 = .ok (.bipush 122, 2) := by decide +kernel
theorem dX7_isLetter_9 : decode cX7_isLetter 9 = .ok (.if_icmp .gt 7, 3) := by decide +kernel
theorem dX7_isLetter_12 : decode cX7_isLetter 12 = .ok (.iconst 1, 1) := by decide +kernel
theorem dX7_isLetter_13 : decode cX7_isLetter 13 = .ok (.goto 4, 3) := by decide +kernel
theorem dX7_isLetter_16 : decode cX7_isLetter 16 = .ok (.iconst 0, 1) := by decide +kernel
theorem dX7_isLetter_17 : decode cX7_isLetter 17 = .ok (.ireturn, 1) := by decide +kernel
theorem dX7_number_0 : decode cX7_number 0 = .ok (.aload_n 0, 1) := by decide +kernel
theorem dX7_number_1 : decode cX7_number 1 = .ok (.aload_n 0, 1) := by decide +kernel
theorem dX7_number_2 : decode cX7_number 2 = .ok (.getfield 25, 3) := by decide +kernel
theorem dX7_number_5 : decode cX7_number 5 = .ok (.invokevirtual 31, 3) := by decide +kernel
theorem dX7_number_8 : decode cX7_number 8 = .ok (.invokestatic 48, 3) := by decide +kernel
theorem dX7_number_11 : decode cX7_number 11 = .ok (.ifCond .ne 14, 3) := by decide +kernel
theorem dX7_number_14 : decode cX7_number 14 = .ok (.aload_n 0, 1) := by decide +kernel
theorem dX7_number_15 : decode cX7_number 15 = .ok (.aload_n 0, 1) := by decide +kernel
theorem dX7_number_16 : decode cX7_number 16 = .ok (.getfield 25, 3) := by decide +kernel
theorem dX7_number_19 : decode cX7_number 19 = .ok (.iconst 0, 1) := by decide +kernel
theorem dX7_number_20 : decode cX7_number 20 = .ok (.invokevirtual 51, 3) := by decide +kernel
theorem dX7_number_23 : decode cX7_number 23 = .ok (.iconst 0, 1) := by decide +kernel
theorem dX7_number_24 : decode cX7_number 24 = .ok (.ireturn, 1) := by decide +kernel
theorem dX7_number_25 : decode cX7_number 25 = .ok (.aload_n 0, 1) := by decide +kernel
theorem dX7_number_26 : decode cX7_number 26 = .ok (.getfield 25, 3) := by decide +kernel
theorem dX7_number_29 : decode cX7_number 29 = .ok (.istore 4, 2) := by decide +kernel
theorem dX7_number_31 : decode cX7_number 31 = .ok (.iconst 0, 1) := by decide +kernel
theorem dX7_number_32 : decode cX7_number 32 = .ok (.istore 5, 2) := by decide +kernel
theorem dX7_number_34 : decode cX7_number 34 = .ok (.iconst 0, 1) := by decide +kernel
theorem dX7_number_35 : decode cX7_number 35 = .ok (.istore 6, 2) := by decide +kernel
theorem dX7_number_37 : decode cX7_number 37 = .ok (.iload 6, 2) := by decide +kernel
theorem dX7_number_39 : decode cX7_number 39 = .ok (.sipush 400, 3) := by decide +kernel
theorem dX7_number_42 : decode cX7_number 42 = .ok (.if_icmp .ge 63, 3) := by decide +kernel
theorem dX7_number_45 : decode cX7_number 45 = .ok (.aload_n 0, 1) := by decide +kernel
theorem dX7_number_46 : decode cX7_number 46 = .ok (.aload_n 0, 1) := by decide +kernel
theorem dX7_number_47 : decode cX7_number 47 = .ok (.getfield 25, 3) := by decide +kernel
theorem dX7_number_50 : decode cX7_number 50 = .ok (.invokevirtual 31, 3) := by decide +kernel
theorem dX7_number_53 : decode cX7_number 53 = .ok (.invokestatic 48, 3) := by decide +kernel
theorem dX7_number_56 : decode cX7_number 56 = .ok (.ifCond .eq 49, 3) := by decide +kernel
theorem dX7_number_59 : decode cX7_number 59 = .ok (.iload 6, 2) := by decide +kernel
theorem dX7_number_61 : decode cX7_number 61 = .ok (.iconst 5, 1) := by decide +kernel
theorem dX7_number_62 : decode cX7_number 62 = .ok (.if_icmp .ge 23, 3) := by decide +kernel
theorem dX7_number_65 : decode cX7_number 65 = .ok (.bipush 10, 2) := by decide +kernel
theorem dX7_number_67 : decode cX7_number 67 = .ok (.iload 5, 2) := by decide +kernel
theorem dX7_number_69 : decode cX7_number 69 = .ok (.imul, 1) := by decide +kernel
theorem dX7_number_70 : decode cX7_number 70 = .ok (.aload_n 0, 1) := by decide +kernel
theorem dX7_number_71 : decode cX7_number 71 = .ok (.aload_n 0, 1) := by decide +kernel
theorem dX7_number_72 : decode cX7_number 72 = .ok (.getfield 25, 3) := by decide +kernel
theorem dX7_number_75 : decode cX7_number 75 = .ok (.invokevirtual 31, 3) := by decide +kernel
theorem dX7_number_78 : decode cX7_number 78 = .ok (.iadd, 1) := by decide +kernel
theorem dX7_number_79 : decode cX7_number 79 = .ok (.bipush 48, 2) := by decide +kernel
theorem dX7_number_81 : decode cX7_number 81 = .ok (.isub, 1) := by decide +kernel
theorem dX7_number_82 : decode cX7_number 82 = .ok (.goto 5, 3) := by decide +kernel
theorem dX7_number_85 : decode cX7_number 85 = .ok (.iload 5, 2) := by decide +kernel
theorem dX7_number_87 : decode cX7_number 87 = .ok (.istore 5, 2) := by decide +kernel
theorem dX7_number_89 : decode cX7_number 89 = .ok (.aload_n 0, 1) := by decide +kernel
theorem dX7_number_90 : decode cX7_number 90 = .ok (.dup, 1) := by decide +kernel
theorem dX7_number_91 : decode cX7_number 91 = .ok (.getfield 25, 3) := by decide +kernel
theorem dX7_number_94 : decode cX7_number 94 = .ok (.iconst 1, 1) := by decide +kernel
theorem dX7_number_95 : decode cX7_number 95 = .ok (.iadd, 1) := by decide +kernel
theorem dX7_number_96 : decode cX7_number 96 = .ok (.putfield 25, 3) := by decide +kernel
theorem dX7_number_99 : decode cX7_number 99 = .ok (.iinc 6 1, 3) := by decide +kernel
theorem dX7_number_102 : decode cX7_number 102 = .ok (.goto (-65), 3) := by decide +kernel
theorem dX7_number_105 : decode cX7_number 105 = .ok (.aload_n 0, 1) := by decide +kernel
theorem dX7_number_106 : decode cX7_number 106 = .ok (.getfield 25, 3) := by decide +kernel
theorem dX7_number_109 : decode cX7_number 109 = .ok (.iload 4, 2) := by decide +kernel
theorem dX7_number_111 : decode cX7_number 111 = .ok (.isub, 1) := by decide +kernel
theorem dX7_number_112 : decode cX7_number 112 = .ok (.iconst 5, 1) := by decide +kernel
theorem dX7_number_113 : decode cX7_number 113 = .ok (.if_icmp .gt 21, 3) := by decide +kernel
theorem dX7_number_116 : decode cX7_number 116 = .ok (.iload 5, 2) := by decide +kernel
theorem dX7_number_118 : decode cX7_number 118 = .ok (.iload_n 1, 1) := by decide +kernel
theorem dX7_number_119 : decode cX7_number 119 = .ok (.if_icmp .lt 15, 3) := by decide +kernel
theorem dX7_number_122 : decode cX7_number 122 = .ok (.iload 5, 2) := by decide +kernel
theorem dX7_number_124 : decode cX7_number 124 = .ok (.iload_n 2, 1) := by decide +kernel
theorem dX7_number_125 : decode cX7_number 125 = .ok (.if_icmp .gt 9, 3) := by decide +kernel
theorem dX7_number_128 : decode cX7_number 128 = .ok (.iload 5, 2) := by decide +kernel
theorem dX7_number_130 : decode cX7_number 130 = .ok (.iload_n 3, 1) := by decide +kernel
theorem dX7_number_131 : decode cX7_number 131 = .ok (.if_icmp .ne 10, 3) := by decide +kernel
theorem dX7_number_134 : decode cX7_number 134 = .ok (.aload_n 0, 1) := by decide +kernel
theorem dX7_number_135 : decode cX7_number 135 = .ok (.iload 4, 2) := by decide +kernel
theorem dX7_number_137 : decode cX7_number 137 = .ok (.iconst 1, 1) := by decide +kernel
theorem dX7_number_138 : decode cX7_number 138 = .ok (.invokevirtual 51, 3) := by decide +kernel
theorem dX7_number_141 : decode cX7_number 141 = .ok (.iload 5, 2) := by decide +kernel
theorem dX7_number_143 : decode cX7_number 143 = .ok (.ireturn, 1) := by decide +kernel
theorem dX7_open_0 : decode cX7_open 0 = .ok (.aload_n 0, 1) := by decide +kernel
theorem dX7_open_1 : decode cX7_open 1 = .ok (.aload_n 1, 1) := by decide +kernel
theorem dX7_open_2 : decode cX7_open 2 = .ok (.putfield 9, 3) := by decide +kernel
theorem dX7_open_5 : decode cX7_open 5 = .ok (.aload_n 0, 1) := by decide +kernel
theorem dX7_open_6 : decode cX7_open 6 = .ok (.iload_n 2, 1) := by decide +kernel
theorem dX7_open_7 : decode cX7_open 7 = .ok (.aload_n 1, 1) := by decide +kernel
theorem dX7_open_8 : decode cX7_open 8 = .ok (.arraylength, 1) := by decide +kernel
theorem dX7_open_9 : decode cX7_open 9 = .ok (.invokestatic 15, 3) := by decide +kernel
theorem dX7_open_12 : decode cX7_open 12 = .ok (.putfield 21, 3) := by decide +kernel
theorem dX7_open_15 : decode cX7_open 15 = .ok (.aload_n 0, 1) := by decide +kernel
theorem dX7_open_16 : decode cX7_open 16 = .ok (.iconst 0, 1) := by decide +kernel
theorem dX7_open_17 : decode cX7_open 17 = .ok (.putfield 25, 3) := by decide +kernel
theorem dX7_open_20 : decode cX7_open 20 = .ok (.aload_n 0, 1) := by decide +kernel
theorem dX7_open_21 : decode cX7_open 21 = .ok (.iconst 0, 1) := by decide +kernel
theorem dX7_open_22 : decode cX7_open 22 = .ok (.putfield 28, 3) := by decide +kernel
theorem dX7_open_25 : decode cX7_open 25 = .ok (.return_, 1) := by decide +kernel
theorem dX7_sign_0 : decode cX7_sign 0 = .ok (.iconst 0, 1) := by decide +kernel
theorem dX7_sign_1 : decode cX7_sign 1 = .ok (.istore_n 1, 1) := by decide +kernel
theorem dX7_sign_2 : decode cX7_sign 2 = .ok (.iload_n 1, 1) := by decide +kernel
theorem dX7_sign_3 : decode cX7_sign 3 = .ok (.sipush 400, 3) := by decide +kernel
theorem dX7_sign_6 : decode cX7_sign 6 = .ok (.if_icmp .ge 32, 3) := by decide +kernel
theorem dX7_sign_9 : decode cX7_sign 9 = .ok (.aload_n 0, 1) := by decide +kernel
theorem dX7_sign_10 : decode cX7_sign 10 = .ok (.aload_n 0, 1) := by decide +kernel
theorem dX7_sign_11 : decode cX7_sign 11 = .ok (.getfield 25, 3) := by decide +kernel
theorem dX7_sign_14 : decode cX7_sign 14 = .ok (.invokevirtual 31, 3) := by decide +kernel
theorem dX7_sign_17 : decode cX7_sign 17 = .ok (.bipush 32, 2) := by decide +kernel
theorem dX7_sign_19 : decode cX7_sign 19 = .ok (.if_icmp .ne 19, 3) := by decide +kernel
theorem dX7_sign_22 : decode cX7_sign 22 = .ok (.aload_n 0, 1) := by decide +kernel
theorem dX7_sign_23 : decode cX7_sign 23 = .ok (.dup, 1) := by decide +kernel
theorem dX7_sign_24 : decode cX7_sign 24 = .ok (.getfield 25, 3) := by decide +kernel
theorem dX7_sign_27 : decode cX7_sign 27 = .ok (.iconst 1, 1) := by decide +kernel
theorem dX7_sign_28 : decode cX7_sign 28 = .ok (.iadd, 1) := by decide +kernel
theorem dX7_sign_29 : decode cX7_sign 29 = .ok (.putfield 25, 3) := by decide +kernel
theorem dX7_sign_32 : decode cX7_sign 32 = .ok (.iinc 1 1, 3) := by decide +kernel
theorem dX7_sign_35 : decode cX7_sign 35 = .ok (.goto (-33), 3) := by decide +kernel
theorem dX7_sign_38 : decode cX7_sign 38 = .ok (.aload_n 0, 1) := by decide +kernel
theorem dX7_sign_39 : decode cX7_sign 39 = .ok (.aload_n 0, 1) := by decide +kernel
theorem dX7_sign_40 : decode cX7_sign 40 = .ok (.getfield 25, 3) := by decide +kernel
theorem dX7_sign_43 : decode cX7_sign 43 = .ok (.invokevirtual 31, 3) := by decide +kernel
theorem dX7_sign_46 : decode cX7_sign 46 = .ok (.ireturn, 1) := by decide +kernel
theorem dX7_skipWord_0 : decode cX7_skipWord 0 = .ok (.iconst 0, 1) := by decide +kernel
theorem dX7_skipWord_1 : decode cX7_skipWord 1 = .ok (.istore_n 1, 1) := by decide +kernel
theorem dX7_skipWord_2 : decode cX7_skipWord 2 = .ok (.iload_n 1, 1) := by decide +kernel
theorem dX7_skipWord_3 : decode cX7_skipWord 3 = .ok (.sipush 400, 3) := by decide +kernel
theorem dX7_skipWord_6 : decode cX7_skipWord 6 = .ok (.if_icmp .ge 33, 3) := by decide +kernel
theorem dX7_skipWord_9 : decode cX7_skipWord 9 = .ok (.aload_n 0, 1) := by decide +kernel
theorem dX7_skipWord_10 : decode cX7_skipWord 10 = .ok (.aload_n 0, 1) := by decide +kernel
theorem dX7_skipWord_11 : decode cX7_skipWord 11 = .ok (.getfield 25, 3) := by decide +kernel
theorem dX7_skipWord_14 : decode cX7_skipWord 14 = .ok (.invokevirtual 31, 3) := by decide +kernel
theorem dX7_skipWord_17 : decode cX7_skipWord 17 = .ok (.invokestatic 44, 3) := by decide +kernel
theorem dX7_skipWord_20 : decode cX7_skipWord 20 = .ok (.ifCond .eq 19, 3) := by decide +kernel
theorem dX7_skipWord_23 : decode cX7_skipWord 23 = .ok (.aload_n 0, 1) := by decide +kernel
theorem dX7_skipWord_24 : decode cX7_skipWord 24 = .ok (.dup, 1) := by decide +kernel
theorem dX7_skipWord_25 : decode cX7_skipWord 25 = .ok (.getfield 25, 3) := by decide +kernel
theorem dX7_skipWord_28 : decode cX7_skipWord 28 = .ok (.iconst 1, 1) := by decide +kernel
theorem dX7_skipWord_29 : decode cX7_skipWord 29 = .ok (.iadd, 1) := by decide +kernel
theorem dX7_skipWord_30 : decode cX7_skipWord 30 = .ok (.putfield 25, 3) := by decide +kernel
theorem dX7_skipWord_33 : decode cX7_skipWord 33 = .ok (.iinc 1 1, 3) := by decide +kernel
theorem dX7_skipWord_36 : decode cX7_skipWord 36 = .ok (.goto (-34), 3) := by decide +kernel
theorem dX7_skipWord_39 : decode cX7_skipWord 39 = .ok (.return_, 1) := by decide +kernel
theorem dX7_takes_0 : decode cX7_takes 0 = .ok (.aload_n 0, 1) := by decide +kernel
theorem dX7_takes_1 : decode cX7_takes 1 = .ok (.aload_n 0, 1) := by decide +kernel
theorem dX7_takes_2 : decode cX7_takes 2 = .ok (.getfield 25, 3) := by decide +kernel
theorem dX7_takes_5 : decode cX7_takes 5 = .ok (.invokevirtual 31, 3) := by decide +kernel
theorem dX7_takes_8 : decode cX7_takes 8 = .ok (.iload_n 1, 1) := by decide +kernel
theorem dX7_takes_9 : decode cX7_takes 9 = .ok (.if_icmp .ne 7, 3) := by decide +kernel
theorem dX7_takes_12 : decode cX7_takes 12 = .ok (.iconst 1, 1) := by decide +kernel
theorem dX7_takes_13 : decode cX7_takes 13 = .ok (.goto 4, 3) := by decide +kernel
theorem dX7_takes_16 : decode cX7_takes 16 = .ok (.iconst 0, 1) := by decide +kernel
theorem dX7_takes_17 : decode cX7_takes 17 = .ok (.istore_n 2, 1) := by decide +kernel
theorem dX7_takes_18 : decode cX7_takes 18 = .ok (.aload_n 0, 1) := by decide +kernel
theorem dX7_takes_19 : decode cX7_takes 19 = .ok (.dup, 1) := by decide +kernel
theorem dX7_takes_20 : decode cX7_takes 20 = .ok (.getfield 25, 3) := by decide +kernel
theorem dX7_takes_23 : decode cX7_takes 23 = .ok (.iload_n 2, 1) := by decide +kernel
theorem dX7_takes_24 : decode cX7_takes 24 = .ok (.ifCond .eq 7, 3) := by decide +kernel
theorem dX7_takes_27 : decode cX7_takes 27 = .ok (.iconst 1, 1) := by decide +kernel
theorem dX7_takes_28 : decode cX7_takes 28 = .ok (.goto 4, 3) := by decide +kernel
theorem dX7_takes_31 : decode cX7_takes 31 = .ok (.iconst 0, 1) := by decide +kernel
theorem dX7_takes_32 : decode cX7_takes 32 = .ok (.iadd, 1) := by decide +kernel
theorem dX7_takes_33 : decode cX7_takes 33 = .ok (.putfield 25, 3) := by decide +kernel
theorem dX7_takes_36 : decode cX7_takes 36 = .ok (.iload_n 2, 1) := by decide +kernel
theorem dX7_takes_37 : decode cX7_takes 37 = .ok (.ireturn, 1) := by decide +kernel
theorem dX7_wordAmong_0 : decode cX7_wordAmong 0 = .ok (.iconst 0, 1) := by decide +kernel
theorem dX7_wordAmong_1 : decode cX7_wordAmong 1 = .ok (.istore_n 2, 1) := by decide +kernel
theorem dX7_wordAmong_2 : decode cX7_wordAmong 2 = .ok (.iconst 0, 1) := by decide +kernel
theorem dX7_wordAmong_3 : decode cX7_wordAmong 3 = .ok (.istore_n 3, 1) := by decide +kernel
theorem dX7_wordAmong_4 : decode cX7_wordAmong 4 = .ok (.iconst 1, 1) := by decide +kernel
theorem dX7_wordAmong_5 : decode cX7_wordAmong 5 = .ok (.istore 4, 2) := by decide +kernel
theorem dX7_wordAmong_7 : decode cX7_wordAmong 7 = .ok (.iconst 0, 1) := by decide +kernel
theorem dX7_wordAmong_8 : decode cX7_wordAmong 8 = .ok (.istore 5, 2) := by decide +kernel
theorem dX7_wordAmong_10 : decode cX7_wordAmong 10 = .ok (.iload 5, 2) := by decide +kernel
theorem dX7_wordAmong_12 : decode cX7_wordAmong 12 = .ok (.aload_n 1, 1) := by decide +kernel
theorem dX7_wordAmong_13 : decode cX7_wordAmong 13 = .ok (.invokevirtual 35, 3) := by decide +kernel
theorem dX7_wordAmong_16 : decode cX7_wordAmong 16 = .ok (.if_icmp .ge 88, 3) := by decide +kernel
theorem dX7_wordAmong_19 : decode cX7_wordAmong 19 = .ok (.aload_n 1, 1) := by decide +kernel
theorem dX7_wordAmong_20 : decode cX7_wordAmong 20 = .ok (.iload 5, 2) := by decide +kernel
theorem dX7_wordAmong_22 : decode cX7_wordAmong 22 = .ok (.invokevirtual 40, 3) := by decide +kernel
theorem dX7_wordAmong_25 : decode cX7_wordAmong 25 = .ok (.istore 6, 2) := by decide +kernel
theorem dX7_wordAmong_27 : decode cX7_wordAmong 27 = .ok (.iload 6, 2) := by decide +kernel
theorem dX7_wordAmong_29 : decode cX7_wordAmong 29 = .ok (.bipush 32, 2) := by decide +kernel
theorem dX7_wordAmong_31 : decode cX7_wordAmong 31 = .ok (.if_icmp .eq 36, 3) := by decide +kernel
theorem dX7_wordAmong_34 : decode cX7_wordAmong 34 = .ok (.iload 4, 2) := by decide +kernel
theorem dX7_wordAmong_36 : decode cX7_wordAmong 36 = .ok (.ifCond .eq 22, 3) := by decide +kernel
theorem dX7_wordAmong_39 : decode cX7_wordAmong 39 = .ok (.aload_n 0, 1) := by decide +kernel
theorem dX7_wordAmong_40 : decode cX7_wordAmong 40 = .ok (.aload_n 0, 1) := by decide +kernel
theorem dX7_wordAmong_41 : decode cX7_wordAmong 41 = .ok (.getfield 25, 3) := by decide +kernel
theorem dX7_wordAmong_44 : decode cX7_wordAmong 44 = .ok (.iload_n 3, 1) := by decide +kernel
theorem dX7_wordAmong_45 : decode cX7_wordAmong 45 = .ok (.iadd, 1) := by decide +kernel
theorem dX7_wordAmong_46 : decode cX7_wordAmong 46 = .ok (.invokevirtual 31, 3) := by decide +kernel
theorem dX7_wordAmong_49 : decode cX7_wordAmong 49 = .ok (.iload 6, 2) := by decide +kernel
theorem dX7_wordAmong_51 : decode cX7_wordAmong 51 = .ok (.if_icmp .ne 7, 3) := by decide +kernel
theorem dX7_wordAmong_54 : decode cX7_wordAmong 54 = .ok (.iconst 1, 1) := by decide +kernel
theorem dX7_wordAmong_55 : decode cX7_wordAmong 55 = .ok (.goto 4, 3) := by decide +kernel
theorem dX7_wordAmong_58 : decode cX7_wordAmong 58 = .ok (.iconst 0, 1) := by decide +kernel
theorem dX7_wordAmong_59 : decode cX7_wordAmong 59 = .ok (.istore 4, 2) := by decide +kernel
theorem dX7_wordAmong_61 : decode cX7_wordAmong 61 = .ok (.iinc 3 1, 3) := by decide +kernel
theorem dX7_wordAmong_64 : decode cX7_wordAmong 64 = .ok (.goto 34, 3) := by decide +kernel
theorem dX7_wordAmong_67 : decode cX7_wordAmong 67 = .ok (.iload 4, 2) := by decide +kernel
theorem dX7_wordAmong_69 : decode cX7_wordAmong 69 = .ok (.ifCond .eq 21, 3) := by decide +kernel
theorem dX7_wordAmong_72 : decode cX7_wordAmong 72 = .ok (.aload_n 0, 1) := by decide +kernel
theorem dX7_wordAmong_73 : decode cX7_wordAmong 73 = .ok (.aload_n 0, 1) := by decide +kernel
theorem dX7_wordAmong_74 : decode cX7_wordAmong 74 = .ok (.getfield 25, 3) := by decide +kernel
theorem dX7_wordAmong_77 : decode cX7_wordAmong 77 = .ok (.iload_n 3, 1) := by decide +kernel
theorem dX7_wordAmong_78 : decode cX7_wordAmong 78 = .ok (.iadd, 1) := by decide +kernel
theorem dX7_wordAmong_79 : decode cX7_wordAmong 79 = .ok (.invokevirtual 31, 3) := by decide +kernel
theorem dX7_wordAmong_82 : decode cX7_wordAmong 82 = .ok (.invokestatic 44, 3) := by decide +kernel
theorem dX7_wordAmong_85 : decode cX7_wordAmong 85 = .ok (.ifCond .ne 5, 3) := by decide +kernel
theorem dX7_wordAmong_88 : decode cX7_wordAmong 88 = .ok (.iload_n 2, 1) := by decide +kernel
theorem dX7_wordAmong_89 : decode cX7_wordAmong 89 = .ok (.ireturn, 1) := by decide +kernel
theorem dX7_wordAmong_90 : decode cX7_wordAmong 90 = .ok (.iinc 2 1, 3) := by decide +kernel
theorem dX7_wordAmong_93 : decode cX7_wordAmong 93 = .ok (.iconst 0, 1) := by decide +kernel
theorem dX7_wordAmong_94 : decode cX7_wordAmong 94 = .ok (.istore_n 3, 1) := by decide +kernel
theorem dX7_wordAmong_95 : decode cX7_wordAmong 95 = .ok (.iconst 1, 1) := by decide +kernel
theorem dX7_wordAmong_96 : decode cX7_wordAmong 96 = .ok (.istore 4, 2) := by decide +kernel
theorem dX7_wordAmong_98 : decode cX7_wordAmong 98 = .ok (.iinc 5 1, 3) := by decide +kernel
theorem dX7_wordAmong_101 : decode cX7_wordAmong 101 = .ok (.goto (-91), 3) := by decide +kernel
theorem dX7_wordAmong_104 : decode cX7_wordAmong 104 = .ok (.iconst (-1), 1) := by decide +kernel
theorem dX7_wordAmong_105 : decode cX7_wordAmong 105 = .ok (.ireturn, 1) := by decide +kernel
set_option maxHeartbeats 4000000 in
set_option maxRecDepth 100000 in
/-- rd_open -/
theorem rd_open (l : Launch) (dC : Nat → ClassId) (dI : Nat → Nat → Nat) (sz : Nat) (h0 : Nat) (h0_text : Value) (h0_length : Int32) (h0_place : Int32) (h0_fault : Int32) (tp : Nat) (ktp : ClassId) (gtp : Nat → Int32) (x0 : Int32) : Met l yX7_open (.code yX7_open cX7_open 3 none :: wsA) ({ frames := 1, cells := 0, slots := 0, locals := 25 }) (va_Pc [.ref h0, .ref tp, .int x0] (fun U => U.heap.size = sz ∧ va_P (dC, dI) classes [(h0, .inr (7, [h0_text, .int h0_length, .int h0_place, .int h0_fault])), (tp, .inl (ktp, 400, .inl gtp))] U.heap ∧ va_K (dC, dI) classes [(ktp, .int)] U ∧ va_D (fun _ => True) [(h0, .inr (7, [h0_text, .int h0_length, .int h0_place, .int h0_fault])), (tp, .inl (ktp, 400, .inl gtp))] ∧ xE U)) (va_Qv (fun (_ : Unit) => True) (fun _ t => ∃ (yy_2 : Nat → Int32), va_P (dC, dI) classes [(h0, .inr (7, [.ref tp, .int (yy_2 0), .int 0, .int 0])), (tp, .inl (ktp, 400, .inl gtp))] t.heap ∧ va_K (dC, dI) classes [(ktp, .int)] t ∧ va_D (va_A [(h0, .inr (7, [h0_text, .int h0_length, .int h0_place, .int h0_fault])), (tp, .inl (ktp, 400, .inl gtp))] sz) [(h0, .inr (7, [.ref tp, .int (yy_2 0), .int 0, .int 0])), (tp, .inl (ktp, 400, .inl gtp))]) (va_A [(h0, .inr (7, [h0_text, .int h0_length, .int h0_place, .int h0_fault])), (tp, .inl (ktp, 400, .inl gtp))] sz)) 0 0 (va_A [(h0, .inr (7, [h0_text, .int h0_length, .int h0_place, .int h0_fault])), (tp, .inl (ktp, 400, .inl gtp))] sz) := by
  refine Met.ofW (cc := cX7_open) (maxL := 3) (ret := none) (by decide) rfl ?_
  intro p e s m args below meth c s₁ B hml hv
  obtain ⟨rfl, hsz, hP, hK, hD0, hE⟩ := hv
  have hx := B.exec
  have hb := B.bytes
  have hr := B.returns
  have hts := atoms_spec (ws := .code yX7_open cX7_open 3 none :: wsA) B.pre
  have hq : ∀ w ∈ wsA, w.before _ s = true := fun w h => hts w (List.mem_cons_of_mem _ h)
  have hown : s.vm.findClass RX7 = some m.cls := findClass_of_methodNamed B.named
  have hlocks := B.notSynchronized
  subst hsz
  have hD := hD0.self (sz := s.heap.size)
  generalize hAe : va_A [(h0, .inr (7, [h0_text, .int h0_length, .int h0_place, .int h0_fault])), (tp, .inl (ktp, 400, .inl gtp))] s.heap.size = A at hD ⊢
  have hA : ∀ q : Nat, s.heap.size ≤ q → A q := fun q h => by rw [← hAe]; exact Or.inr h
  have hS : va_S A s.heap s.heap [] := va_S.rf
  have hl := lv_entry ([.ref h0, .ref tp, .int x0]) (n := 3) (Nat.le_of_ble_eq_true rfl)
  rw [lg_entry_eq]
  generalize (lg_sl ([.ref h0, .ref tp, .int x0]) ++ List.replicate (3 - (lg_sl ([.ref h0, .ref tp, .int x0])).length) Slot.unset).toArray = ls at hl ⊢
  have hl : lv_has ls 3 [(0, .ref h0), (1, .ref tp), (2, .int x0)] := hl
  refine lv_aload_n hx hb dX7_open_0 rfl (lv_at hl 0 rfl) ?_
  refine lv_aload_n hx hb dX7_open_1 rfl (lv_at hl 1 rfl) ?_
  refine va_put (D := (dC, dI)) (ci := 7) (v := .ref tp) (ty := .array .int) (C := RX7) (T := TX7) (N := 4) hx hb hq inX7 tyX7 tyX7_ok nmX7 hown hK hP hD hS 0 rfl rfl 0 (by decide) (hq _ qw_159) (fun _ h9 => h9) rfl (by decide +kernel) rfl rfl (Nat.le_of_ble_eq_true rfl) dX7_open_2 (fun H locs hP hD hS => ?_)
  have hP : va_P (dC, dI) classes [(h0, .inr (7, [.ref tp, .int h0_length, .int h0_place, .int h0_fault])), (tp, .inl (ktp, 400, .inl gtp))] H := hP
  have hD : va_D A [(h0, .inr (7, [.ref tp, .int h0_length, .int h0_place, .int h0_fault])), (tp, .inl (ktp, 400, .inl gtp))] := hD
  refine lv_aload_n hx hb dX7_open_5 rfl (lv_at hl 0 rfl) ?_
  refine lv_iload_n hx hb dX7_open_6 rfl (lv_at hl 2 rfl) ?_
  refine lv_aload_n hx hb dX7_open_7 rfl (lv_at hl 1 rfl) ?_
  refine va_alen (v := 400) hx hb hK hP 1 0 rfl rfl rfl dX7_open_8 ?_
  refine va_mmin hx hb (by rw [hml]; exact hl.1.symm) hown (hq _ qw_531) (hq _ qw_532) (hq _ qw_132) (hq _ qw_533) (Nat.le_of_ble_eq_true rfl) (Nat.le_of_ble_eq_true rfl) (Nat.zero_le _) (Nat.zero_le _) dX7_open_9 ?_
  refine lv_topi (fun y_3 ey_3 => ?_)
  refine va_put (D := (dC, dI)) (ci := 7) (v := .int y_3) (ty := .int) (C := RX7) (T := TX7) (N := 4) hx hb hq inX7 tyX7 tyX7_ok nmX7 hown hK hP hD hS 0 rfl rfl 1 (by decide) (hq _ qw_160) (fun _ h9 => h9) rfl (by decide +kernel) rfl rfl (Nat.le_of_ble_eq_true rfl) dX7_open_12 (fun H locs hP hD hS => ?_)
  have hP : va_P (dC, dI) classes [(h0, .inr (7, [.ref tp, .int y_3, .int h0_place, .int h0_fault])), (tp, .inl (ktp, 400, .inl gtp))] H := hP
  have hD : va_D A [(h0, .inr (7, [.ref tp, .int y_3, .int h0_place, .int h0_fault])), (tp, .inl (ktp, 400, .inl gtp))] := hD
  refine lv_aload_n hx hb dX7_open_15 rfl (lv_at hl 0 rfl) ?_
  refine lv_iconst (v := 0) hx hb dX7_open_16 (by decide) ?_
  refine va_put (D := (dC, dI)) (ci := 7) (v := .int 0) (ty := .int) (C := RX7) (T := TX7) (N := 4) hx hb hq inX7 tyX7 tyX7_ok nmX7 hown hK hP hD hS 0 rfl rfl 2 (by decide) (hq _ qw_161) (fun _ h9 => h9) rfl (by decide +kernel) rfl rfl (Nat.le_of_ble_eq_true rfl) dX7_open_17 (fun H locs hP hD hS => ?_)
  have hP : va_P (dC, dI) classes [(h0, .inr (7, [.ref tp, .int y_3, .int 0, .int h0_fault])), (tp, .inl (ktp, 400, .inl gtp))] H := hP
  have hD : va_D A [(h0, .inr (7, [.ref tp, .int y_3, .int 0, .int h0_fault])), (tp, .inl (ktp, 400, .inl gtp))] := hD
  refine lv_aload_n hx hb dX7_open_20 rfl (lv_at hl 0 rfl) ?_
  refine lv_iconst (v := 0) hx hb dX7_open_21 (by decide) ?_
  refine va_put (D := (dC, dI)) (ci := 7) (v := .int 0) (ty := .int) (C := RX7) (T := TX7) (N := 4) hx hb hq inX7 tyX7 tyX7_ok nmX7 hown hK hP hD hS 0 rfl rfl 3 (by decide) (hq _ qw_164) (fun _ h9 => h9) rfl (by decide +kernel) rfl rfl (Nat.le_of_ble_eq_true rfl) dX7_open_22 (fun H locs hP hD hS => ?_)
  have hP : va_P (dC, dI) classes [(h0, .inr (7, [.ref tp, .int y_3, .int 0, .int 0])), (tp, .inl (ktp, 400, .inl gtp))] H := hP
  have hD : va_D A [(h0, .inr (7, [.ref tp, .int y_3, .int 0, .int 0])), (tp, .inl (ktp, 400, .inl gtp))] := hD
  refine W.widen (k := 0) (n := 0) (Nat.le_of_ble_eq_true rfl) (Nat.le_of_ble_eq_true rfl) ?_
  exact W.vret hx hb hr (fun t ht hW => ⟨⟨(), rfl, trivial, (fun i => [y_3].getD i 0), by rw [ht]; exact hP, va_K.moved hW.alike hK, hD⟩, hS.F ht⟩) hS.2.2 dX7_open_25

set_option maxHeartbeats 4000000 in
set_option maxRecDepth 100000 in
/-- rd_isLetter -/
theorem rd_isLetter (l : Launch) (dC : Nat → ClassId) (dI : Nat → Nat → Nat) (sz : Nat) (x0 : Int32) : Met l yX7_isLetter (.code yX7_isLetter cX7_isLetter 1 (some .boolean) :: wsA) ({ frames := 0, cells := 0, slots := 0, locals := 0 }) (va_Pc [.int x0] (fun U => U.heap.size = sz ∧ va_P (dC, dI) classes [] U.heap ∧ va_K (dC, dI) classes [] U ∧ va_D (fun _ => True) [] ∧ xE U)) (va_Qi (fun (r : Int32) (_ : Unit) => True) (fun _ t => va_P (dC, dI) classes [] t.heap ∧ va_K (dC, dI) classes [] t ∧ va_D (va_A [] sz) []) (va_A [] sz)) 0 0 (va_A [] sz) := by
  refine Met.ofW (cc := cX7_isLetter) (maxL := 1) (ret := (some .boolean)) (by decide) rfl ?_
  intro p e s m args below meth c s₁ B hml hv
  obtain ⟨rfl, hsz, hP, hK, hD0, hE⟩ := hv
  have hx := B.exec
  have hb := B.bytes
  have hr := B.returns
  have hts := atoms_spec (ws := .code yX7_isLetter cX7_isLetter 1 (some .boolean) :: wsA) B.pre
  have hq : ∀ w ∈ wsA, w.before _ s = true := fun w h => hts w (List.mem_cons_of_mem _ h)
  have hown : s.vm.findClass RX7 = some m.cls := findClass_of_methodNamed B.named
  have hlocks := B.notSynchronized
  subst hsz
  have hD := hD0.self (sz := s.heap.size)
  generalize hAe : va_A [] s.heap.size = A at hD ⊢
  have hA : ∀ q : Nat, s.heap.size ≤ q → A q := fun q h => by rw [← hAe]; exact Or.inr h
  have hS : va_S A s.heap s.heap [] := va_S.rf
  have hl := lv_entry ([.int x0]) (n := 1) (Nat.le_of_ble_eq_true rfl)
  rw [lg_entry_eq]
  generalize (lg_sl ([.int x0]) ++ List.replicate (1 - (lg_sl ([.int x0])).length) Slot.unset).toArray = ls at hl ⊢
  have hl : lv_has ls 1 [(0, .int x0)] := hl
  refine lv_iload_n hx hb dX7_isLetter_0 rfl (lv_at hl 0 rfl) ?_
  refine lv_bipush (v := 97) hx hb dX7_isLetter_1 (by decide) ?_
  refine W.cut (I := fun H locs g => ∃ (ls : Array Slot), va_P (dC, dI) classes [] H ∧ va_D A [] ∧ va_S A s.heap H locs ∧ lv_has ls 1 [] ∧ g = F0 m 16 ls []) (fun H locs g h => ?_) (fun hJ16 => ?_)
  · obtain ⟨ls, hP, hD, hS, hl, rfl⟩ := h
    refine lv_iconst (v := 0) hx hb dX7_isLetter_16 (by decide) ?_
    refine W.widen (k := 0) (n := 0) (Nat.le_of_ble_eq_true rfl) (Nat.le_of_ble_eq_true rfl) ?_
    exact W.zret (v := 0) hx hb hr (by decide) (fun t ht hW => ⟨⟨0, (), rfl, trivial, by rw [ht]; exact hP, va_K.moved hW.alike hK, hD⟩, hS.F ht⟩) hS.2.2 dX7_isLetter_17
  refine lv_icmp_lt (tgt := 16) hx hb dX7_isLetter_3 (by decide) (fun c_5 => ?_) (fun c_5 => ?_)
  · exact hJ16 _ _ _ ⟨_, hP, hD, hS, (lv_sub hl [] rfl), rfl⟩
  · refine lv_iload_n hx hb dX7_isLetter_6 rfl (lv_at hl 0 rfl) ?_
    refine lv_bipush (v := 122) hx hb dX7_isLetter_7 (by decide) ?_
    refine lv_icmp_gt (tgt := 16) hx hb dX7_isLetter_9 (by decide) (fun c_6 => ?_) (fun c_6 => ?_)
    · exact hJ16 _ _ _ ⟨_, hP, hD, hS, (lv_sub hl [] rfl), rfl⟩
    · refine lv_iconst (v := 1) hx hb dX7_isLetter_12 (by decide) ?_
      refine lv_goto (tgt := 17) hx hb dX7_isLetter_13 (by decide) ?_
      refine W.widen (k := 0) (n := 0) (Nat.le_of_ble_eq_true rfl) (Nat.le_of_ble_eq_true rfl) ?_
      exact W.zret (v := 1) hx hb hr (by decide) (fun t ht hW => ⟨⟨1, (), rfl, trivial, by rw [ht]; exact hP, va_K.moved hW.alike hK, hD⟩, hS.F ht⟩) hS.2.2 dX7_isLetter_17

set_option maxHeartbeats 4000000 in
set_option maxRecDepth 100000 in
/-- rd_isDigit -/
theorem rd_isDigit (l : Launch) (dC : Nat → ClassId) (dI : Nat → Nat → Nat) (sz : Nat) (x0 : Int32) : Met l yX7_isDigit (.code yX7_isDigit cX7_isDigit 1 (some .boolean) :: wsA) ({ frames := 0, cells := 0, slots := 0, locals := 0 }) (va_Pc [.int x0] (fun U => U.heap.size = sz ∧ va_P (dC, dI) classes [] U.heap ∧ va_K (dC, dI) classes [] U ∧ va_D (fun _ => True) [] ∧ xE U)) (va_Qi (fun (r : Int32) (_ : Unit) => True) (fun _ t => va_P (dC, dI) classes [] t.heap ∧ va_K (dC, dI) classes [] t ∧ va_D (va_A [] sz) []) (va_A [] sz)) 0 0 (va_A [] sz) := by
  refine Met.ofW (cc := cX7_isDigit) (maxL := 1) (ret := (some .boolean)) (by decide) rfl ?_
  intro p e s m args below meth c s₁ B hml hv
  obtain ⟨rfl, hsz, hP, hK, hD0, hE⟩ := hv
  have hx := B.exec
  have hb := B.bytes
  have hr := B.returns
  have hts := atoms_spec (ws := .code yX7_isDigit cX7_isDigit 1 (some .boolean) :: wsA) B.pre
  have hq : ∀ w ∈ wsA, w.before _ s = true := fun w h => hts w (List.mem_cons_of_mem _ h)
  have hown : s.vm.findClass RX7 = some m.cls := findClass_of_methodNamed B.named
  have hlocks := B.notSynchronized
  subst hsz
  have hD := hD0.self (sz := s.heap.size)
  generalize hAe : va_A [] s.heap.size = A at hD ⊢
  have hA : ∀ q : Nat, s.heap.size ≤ q → A q := fun q h => by rw [← hAe]; exact Or.inr h
  have hS : va_S A s.heap s.heap [] := va_S.rf
  have hl := lv_entry ([.int x0]) (n := 1) (Nat.le_of_ble_eq_true rfl)
  rw [lg_entry_eq]
  generalize (lg_sl ([.int x0]) ++ List.replicate (1 - (lg_sl ([.int x0])).length) Slot.unset).toArray = ls at hl ⊢
  have hl : lv_has ls 1 [(0, .int x0)] := hl
  refine lv_iload_n hx hb dX7_isDigit_0 rfl (lv_at hl 0 rfl) ?_
  refine lv_bipush (v := 48) hx hb dX7_isDigit_1 (by decide) ?_
  refine W.cut (I := fun H locs g => ∃ (ls : Array Slot), va_P (dC, dI) classes [] H ∧ va_D A [] ∧ va_S A s.heap H locs ∧ lv_has ls 1 [] ∧ g = F0 m 16 ls []) (fun H locs g h => ?_) (fun hJ16 => ?_)
  · obtain ⟨ls, hP, hD, hS, hl, rfl⟩ := h
    refine lv_iconst (v := 0) hx hb dX7_isDigit_16 (by decide) ?_
    refine W.widen (k := 0) (n := 0) (Nat.le_of_ble_eq_true rfl) (Nat.le_of_ble_eq_true rfl) ?_
    exact W.zret (v := 0) hx hb hr (by decide) (fun t ht hW => ⟨⟨0, (), rfl, trivial, by rw [ht]; exact hP, va_K.moved hW.alike hK, hD⟩, hS.F ht⟩) hS.2.2 dX7_isDigit_17
  refine lv_icmp_lt (tgt := 16) hx hb dX7_isDigit_3 (by decide) (fun c_5 => ?_) (fun c_5 => ?_)
  · exact hJ16 _ _ _ ⟨_, hP, hD, hS, (lv_sub hl [] rfl), rfl⟩
  · refine lv_iload_n hx hb dX7_isDigit_6 rfl (lv_at hl 0 rfl) ?_
    refine lv_bipush (v := 57) hx hb dX7_isDigit_7 (by decide) ?_
    refine lv_icmp_gt (tgt := 16) hx hb dX7_isDigit_9 (by decide) (fun c_6 => ?_) (fun c_6 => ?_)
    · exact hJ16 _ _ _ ⟨_, hP, hD, hS, (lv_sub hl [] rfl), rfl⟩
    · refine lv_iconst (v := 1) hx hb dX7_isDigit_12 (by decide) ?_
      refine lv_goto (tgt := 17) hx hb dX7_isDigit_13 (by decide) ?_
      refine W.widen (k := 0) (n := 0) (Nat.le_of_ble_eq_true rfl) (Nat.le_of_ble_eq_true rfl) ?_
      exact W.zret (v := 1) hx hb hr (by decide) (fun t ht hW => ⟨⟨1, (), rfl, trivial, by rw [ht]; exact hP, va_K.moved hW.alike hK, hD⟩, hS.F ht⟩) hS.2.2 dX7_isDigit_17

set_option maxHeartbeats 4000000 in
set_option maxRecDepth 100000 in
/-- rd_byteAt -/
theorem rd_byteAt (l : Launch) (dC : Nat → ClassId) (dI : Nat → Nat → Nat) (sz : Nat) (h0 : Nat) (tp : Nat) (h0_length : Int32) (h0_place : Int32) (h0_fault : Int32) (ktp : ClassId) (gtp : Nat → Int32) (x0 : Int32) : Met l yX7_byteAt (.code yX7_byteAt cX7_byteAt 2 (some .int) :: wsA) ({ frames := 0, cells := 0, slots := 0, locals := 0 }) (va_Pc [.ref h0, .int x0] (fun U => U.heap.size = sz ∧ va_P (dC, dI) classes [(h0, .inr (7, [.ref tp, .int h0_length, .int h0_place, .int h0_fault])), (tp, .inl (ktp, 400, .inl gtp))] U.heap ∧ va_K (dC, dI) classes [(ktp, .int)] U ∧ va_D (fun _ => True) [(h0, .inr (7, [.ref tp, .int h0_length, .int h0_place, .int h0_fault])), (tp, .inl (ktp, 400, .inl gtp))] ∧ xE U)) (va_Qi (fun (r : Int32) (_ : Unit) => True) (fun _ t => va_P (dC, dI) classes [(h0, .inr (7, [.ref tp, .int h0_length, .int h0_place, .int h0_fault])), (tp, .inl (ktp, 400, .inl gtp))] t.heap ∧ va_K (dC, dI) classes [(ktp, .int)] t ∧ va_D (va_A [(h0, .inr (7, [.ref tp, .int h0_length, .int h0_place, .int h0_fault])), (tp, .inl (ktp, 400, .inl gtp))] sz) [(h0, .inr (7, [.ref tp, .int h0_length, .int h0_place, .int h0_fault])), (tp, .inl (ktp, 400, .inl gtp))]) (va_A [(h0, .inr (7, [.ref tp, .int h0_length, .int h0_place, .int h0_fault])), (tp, .inl (ktp, 400, .inl gtp))] sz)) 0 0 (va_A [(h0, .inr (7, [.ref tp, .int h0_length, .int h0_place, .int h0_fault])), (tp, .inl (ktp, 400, .inl gtp))] sz) := by
  refine Met.ofW (cc := cX7_byteAt) (maxL := 2) (ret := (some .int)) (by decide) rfl ?_
  intro p e s m args below meth c s₁ B hml hv
  obtain ⟨rfl, hsz, hP, hK, hD0, hE⟩ := hv
  have hx := B.exec
  have hb := B.bytes
  have hr := B.returns
  have hts := atoms_spec (ws := .code yX7_byteAt cX7_byteAt 2 (some .int) :: wsA) B.pre
  have hq : ∀ w ∈ wsA, w.before _ s = true := fun w h => hts w (List.mem_cons_of_mem _ h)
  have hown : s.vm.findClass RX7 = some m.cls := findClass_of_methodNamed B.named
  have hlocks := B.notSynchronized
  subst hsz
  have hD := hD0.self (sz := s.heap.size)
  generalize hAe : va_A [(h0, .inr (7, [.ref tp, .int h0_length, .int h0_place, .int h0_fault])), (tp, .inl (ktp, 400, .inl gtp))] s.heap.size = A at hD ⊢
  have hA : ∀ q : Nat, s.heap.size ≤ q → A q := fun q h => by rw [← hAe]; exact Or.inr h
  have hS : va_S A s.heap s.heap [] := va_S.rf
  have hl := lv_entry ([.ref h0, .int x0]) (n := 2) (Nat.le_of_ble_eq_true rfl)
  rw [lg_entry_eq]
  generalize (lg_sl ([.ref h0, .int x0]) ++ List.replicate (2 - (lg_sl ([.ref h0, .int x0])).length) Slot.unset).toArray = ls at hl ⊢
  have hl : lv_has ls 2 [(0, .ref h0), (1, .int x0)] := hl
  refine lv_iload_n hx hb dX7_byteAt_0 rfl (lv_at hl 1 rfl) ?_
  refine W.cut (I := fun H locs g => ∃ (ls : Array Slot), va_P (dC, dI) classes [(h0, .inr (7, [.ref tp, .int h0_length, .int h0_place, .int h0_fault])), (tp, .inl (ktp, 400, .inl gtp))] H ∧ va_D A [(h0, .inr (7, [.ref tp, .int h0_length, .int h0_place, .int h0_fault])), (tp, .inl (ktp, 400, .inl gtp))] ∧ va_S A s.heap H locs ∧ lv_has ls 2 [] ∧ g = F0 m 30 ls []) (fun H locs g h => ?_) (fun hJ30 => ?_)
  · obtain ⟨ls, hP, hD, hS, hl, rfl⟩ := h
    refine lv_iconst (v := (-1)) hx hb dX7_byteAt_30 (by decide) ?_
    refine W.widen (k := 0) (n := 0) (Nat.le_of_ble_eq_true rfl) (Nat.le_of_ble_eq_true rfl) ?_
    exact W.iret (v := (-1)) hx hb hr (fun t ht hW => ⟨⟨(-1), (), rfl, trivial, by rw [ht]; exact hP, va_K.moved hW.alike hK, hD⟩, hS.F ht⟩) hS.2.2 dX7_byteAt_31
  refine lv_if_lt (tgt := 30) hx hb dX7_byteAt_1 (by decide) (fun c_15 => ?_) (fun c_15 => ?_)
  · exact hJ30 _ _ _ ⟨_, hP, hD, hS, (lv_sub hl [] rfl), rfl⟩
  · refine lv_iload_n hx hb dX7_byteAt_4 rfl (lv_at hl 1 rfl) ?_
    refine lv_aload_n hx hb dX7_byteAt_5 rfl (lv_at hl 0 rfl) ?_
    refine va_get (D := (dC, dI)) (ci := 7) (v := .int h0_length) (C := RX7) (T := TX7) (N := 4) hx hb hq inX7 hown hK hP 0 rfl rfl 1 (by decide) (hq _ qw_160) (fun _ h9 => h9) rfl dX7_byteAt_6 ?_
    refine lv_icmp_ge (tgt := 30) hx hb dX7_byteAt_9 (by decide) (fun c_16 => ?_) (fun c_16 => ?_)
    · exact hJ30 _ _ _ ⟨_, hP, hD, hS, (lv_sub hl [] rfl), rfl⟩
    · refine lv_iload_n hx hb dX7_byteAt_12 rfl (lv_at hl 1 rfl) ?_
      refine lv_aload_n hx hb dX7_byteAt_13 rfl (lv_at hl 0 rfl) ?_
      refine va_get (D := (dC, dI)) (ci := 7) (v := .ref tp) (C := RX7) (T := TX7) (N := 4) hx hb hq inX7 hown hK hP 0 rfl rfl 0 (by decide) (hq _ qw_159) (fun _ h9 => h9) rfl dX7_byteAt_14 ?_
      refine va_alen (v := 400) hx hb hK hP 1 0 rfl rfl rfl dX7_byteAt_17 ?_
      refine lv_icmp_ge (tgt := 30) hx hb dX7_byteAt_18 (by decide) (fun c_17 => ?_) (fun c_17 => ?_)
      · exact hJ30 _ _ _ ⟨_, hP, hD, hS, (lv_sub hl [] rfl), rfl⟩
      · refine lv_aload_n hx hb dX7_byteAt_21 rfl (lv_at hl 0 rfl) ?_
        refine va_get (D := (dC, dI)) (ci := 7) (v := .ref tp) (C := RX7) (T := TX7) (N := 4) hx hb hq inX7 hown hK hP 0 rfl rfl 0 (by decide) (hq _ qw_159) (fun _ h9 => h9) rfl dX7_byteAt_22 ?_
        refine lv_iload_n hx hb dX7_byteAt_25 rfl (lv_at hl 1 rfl) ?_
        have b_18 : bt 0 2147483647 x0 := rf_le_r (bt_k (x := 0) (c := 0) (by decide)) (bt_all x0) (Int32.not_lt.mp c_15) (by decide)
        have b_19 : bt 0 2147483646 x0 := rf_lt_l b_18 (bt_all h0_length) (Int32.not_le.mp c_16) (by decide)
        have b_20 : bt 0 399 x0 := rf_lt_l b_19 (bt_k (x := 400) (c := 400) (by decide)) (Int32.not_le.mp c_17) (by decide)
        refine va_iald hx hb hK hP 1 0 rfl rfl (bt_in b_20 (by decide)) dX7_byteAt_26 ?_
        refine lv_topi (fun y_21 ey_21 => ?_)
        refine lv_goto (tgt := 31) hx hb dX7_byteAt_27 (by decide) ?_
        refine W.widen (k := 0) (n := 0) (Nat.le_of_ble_eq_true rfl) (Nat.le_of_ble_eq_true rfl) ?_
        exact W.iret (v := y_21) hx hb hr (fun t ht hW => ⟨⟨y_21, (), rfl, trivial, by rw [ht]; exact hP, va_K.moved hW.alike hK, hD⟩, hS.F ht⟩) hS.2.2 dX7_byteAt_31

set_option maxHeartbeats 4000000 in
set_option maxRecDepth 100000 in
/-- rd_blame -/
theorem rd_blame (l : Launch) (dC : Nat → ClassId) (dI : Nat → Nat → Nat) (sz : Nat) (h0 : Nat) (tp : Nat) (h0_length : Int32) (h0_place : Int32) (h0_fault : Int32) (x0 : Int32) (x1 : Int32) : Met l yX7_blame (.code yX7_blame cX7_blame 3 none :: wsA) ({ frames := 0, cells := 0, slots := 0, locals := 0 }) (va_Pc [.ref h0, .int x0, .int x1] (fun U => U.heap.size = sz ∧ va_P (dC, dI) classes [(h0, .inr (7, [.ref tp, .int h0_length, .int h0_place, .int h0_fault]))] U.heap ∧ va_K (dC, dI) classes [] U ∧ va_D (fun _ => True) [(h0, .inr (7, [.ref tp, .int h0_length, .int h0_place, .int h0_fault]))] ∧ xE U)) (va_Qv (fun (_ : Unit) => True) (fun _ t => ∃ (yy_5 : Nat → Int32), va_P (dC, dI) classes [(h0, .inr (7, [.ref tp, .int h0_length, .int h0_place, .int (yy_5 0)]))] t.heap ∧ va_K (dC, dI) classes [] t ∧ va_D (va_A [(h0, .inr (7, [.ref tp, .int h0_length, .int h0_place, .int h0_fault]))] sz) [(h0, .inr (7, [.ref tp, .int h0_length, .int h0_place, .int (yy_5 0)]))]) (va_A [(h0, .inr (7, [.ref tp, .int h0_length, .int h0_place, .int h0_fault]))] sz)) 0 0 (va_A [(h0, .inr (7, [.ref tp, .int h0_length, .int h0_place, .int h0_fault]))] sz) := by
  refine Met.ofW (cc := cX7_blame) (maxL := 3) (ret := none) (by decide) rfl ?_
  intro p e s m args below meth c s₁ B hml hv
  obtain ⟨rfl, hsz, hP, hK, hD0, hE⟩ := hv
  have hx := B.exec
  have hb := B.bytes
  have hr := B.returns
  have hts := atoms_spec (ws := .code yX7_blame cX7_blame 3 none :: wsA) B.pre
  have hq : ∀ w ∈ wsA, w.before _ s = true := fun w h => hts w (List.mem_cons_of_mem _ h)
  have hown : s.vm.findClass RX7 = some m.cls := findClass_of_methodNamed B.named
  have hlocks := B.notSynchronized
  subst hsz
  have hD := hD0.self (sz := s.heap.size)
  generalize hAe : va_A [(h0, .inr (7, [.ref tp, .int h0_length, .int h0_place, .int h0_fault]))] s.heap.size = A at hD ⊢
  have hA : ∀ q : Nat, s.heap.size ≤ q → A q := fun q h => by rw [← hAe]; exact Or.inr h
  have hS : va_S A s.heap s.heap [] := va_S.rf
  have hl := lv_entry ([.ref h0, .int x0, .int x1]) (n := 3) (Nat.le_of_ble_eq_true rfl)
  rw [lg_entry_eq]
  generalize (lg_sl ([.ref h0, .int x0, .int x1]) ++ List.replicate (3 - (lg_sl ([.ref h0, .int x0, .int x1])).length) Slot.unset).toArray = ls at hl ⊢
  have hl : lv_has ls 3 [(0, .ref h0), (1, .int x0), (2, .int x1)] := hl
  refine lv_aload_n hx hb dX7_blame_0 rfl (lv_at hl 0 rfl) ?_
  refine va_get (D := (dC, dI)) (ci := 7) (v := .int h0_fault) (C := RX7) (T := TX7) (N := 4) hx hb hq inX7 hown hK hP 0 rfl rfl 3 (by decide) (hq _ qw_164) (fun _ h9 => h9) rfl dX7_blame_1 ?_
  refine lv_if_ne (tgt := 19) hx hb dX7_blame_4 (by decide) (fun c_6 => ?_) (fun c_6 => ?_)
  · refine W.widen (k := 0) (n := 0) (Nat.le_of_ble_eq_true rfl) (Nat.le_of_ble_eq_true rfl) ?_
    exact W.vret hx hb hr (fun t ht hW => ⟨⟨(), rfl, trivial, (fun i => [h0_fault].getD i 0), by rw [ht]; exact hP, va_K.moved hW.alike hK, hD⟩, hS.F ht⟩) hS.2.2 dX7_blame_19
  · refine lv_aload_n hx hb dX7_blame_7 rfl (lv_at hl 0 rfl) ?_
    refine lv_iconst (v := 1) hx hb dX7_blame_8 (by decide) ?_
    refine lv_bipush (v := 8) hx hb dX7_blame_9 (by decide) ?_
    refine lv_iload_n hx hb dX7_blame_11 rfl (lv_at hl 1 rfl) ?_
    refine lv_imul hx hb dX7_blame_12 ?_
    refine lv_topi (fun y_7 ey_7 => ?_)
    refine lv_iadd hx hb dX7_blame_13 ?_
    refine lv_topi (fun y_8 ey_8 => ?_)
    refine lv_iload_n hx hb dX7_blame_14 rfl (lv_at hl 2 rfl) ?_
    refine lv_iadd hx hb dX7_blame_15 ?_
    refine lv_topi (fun y_9 ey_9 => ?_)
    refine va_put (D := (dC, dI)) (ci := 7) (v := .int y_9) (ty := .int) (C := RX7) (T := TX7) (N := 4) hx hb hq inX7 tyX7 tyX7_ok nmX7 hown hK hP hD hS 0 rfl rfl 3 (by decide) (hq _ qw_164) (fun _ h9 => h9) rfl (by decide +kernel) rfl rfl (Nat.le_of_ble_eq_true rfl) dX7_blame_16 (fun H locs hP hD hS => ?_)
    have hP : va_P (dC, dI) classes [(h0, .inr (7, [.ref tp, .int h0_length, .int h0_place, .int y_9]))] H := hP
    have hD : va_D A [(h0, .inr (7, [.ref tp, .int h0_length, .int h0_place, .int y_9]))] := hD
    refine W.widen (k := 0) (n := 0) (Nat.le_of_ble_eq_true rfl) (Nat.le_of_ble_eq_true rfl) ?_
    exact W.vret hx hb hr (fun t ht hW => ⟨⟨(), rfl, trivial, (fun i => [y_9].getD i 0), by rw [ht]; exact hP, va_K.moved hW.alike hK, hD⟩, hS.F ht⟩) hS.2.2 dX7_blame_19

set_option maxHeartbeats 4000000 in
set_option maxRecDepth 100000 in
/-- rd_sign -/
theorem rd_sign (l : Launch) (dC : Nat → ClassId) (dI : Nat → Nat → Nat) (sz : Nat) (h0 : Nat) (tp : Nat) (h0_length : Int32) (h0_place : Int32) (h0_fault : Int32) (ktp : ClassId) (gtp : Nat → Int32) : Met l yX7_sign (.code yX7_sign cX7_sign 2 (some .int) :: wsA) ({ frames := 1, cells := 0, slots := 0, locals := 21 }) (va_Pc [.ref h0] (fun U => U.heap.size = sz ∧ va_P (dC, dI) classes [(h0, .inr (7, [.ref tp, .int h0_length, .int h0_place, .int h0_fault])), (tp, .inl (ktp, 400, .inl gtp))] U.heap ∧ va_K (dC, dI) classes [(ktp, .int)] U ∧ va_D (fun _ => True) [(h0, .inr (7, [.ref tp, .int h0_length, .int h0_place, .int h0_fault])), (tp, .inl (ktp, 400, .inl gtp))] ∧ xE U)) (va_Qi (fun (r : Int32) (_ : Unit) => True) (fun _ t => ∃ (yy_42 : Nat → Int32), va_P (dC, dI) classes [(h0, .inr (7, [.ref tp, .int h0_length, .int (yy_42 0), .int h0_fault])), (tp, .inl (ktp, 400, .inl gtp))] t.heap ∧ va_K (dC, dI) classes [(ktp, .int)] t ∧ va_D (va_A [(h0, .inr (7, [.ref tp, .int h0_length, .int h0_place, .int h0_fault])), (tp, .inl (ktp, 400, .inl gtp))] sz) [(h0, .inr (7, [.ref tp, .int h0_length, .int (yy_42 0), .int h0_fault])), (tp, .inl (ktp, 400, .inl gtp))]) (va_A [(h0, .inr (7, [.ref tp, .int h0_length, .int h0_place, .int h0_fault])), (tp, .inl (ktp, 400, .inl gtp))] sz)) 0 0 (va_A [(h0, .inr (7, [.ref tp, .int h0_length, .int h0_place, .int h0_fault])), (tp, .inl (ktp, 400, .inl gtp))] sz) := by
  refine Met.ofW (cc := cX7_sign) (maxL := 2) (ret := (some .int)) (by decide) rfl ?_
  intro p e s m args below meth c s₁ B hml hv
  obtain ⟨rfl, hsz, hP, hK, hD0, hE⟩ := hv
  have hx := B.exec
  have hb := B.bytes
  have hr := B.returns
  have hts := atoms_spec (ws := .code yX7_sign cX7_sign 2 (some .int) :: wsA) B.pre
  have hq : ∀ w ∈ wsA, w.before _ s = true := fun w h => hts w (List.mem_cons_of_mem _ h)
  have hown : s.vm.findClass RX7 = some m.cls := findClass_of_methodNamed B.named
  have hlocks := B.notSynchronized
  subst hsz
  have hD := hD0.self (sz := s.heap.size)
  generalize hAe : va_A [(h0, .inr (7, [.ref tp, .int h0_length, .int h0_place, .int h0_fault])), (tp, .inl (ktp, 400, .inl gtp))] s.heap.size = A at hD ⊢
  have hA : ∀ q : Nat, s.heap.size ≤ q → A q := fun q h => by rw [← hAe]; exact Or.inr h
  have hS : va_S A s.heap s.heap [] := va_S.rf
  have hl := lv_entry ([.ref h0]) (n := 2) (Nat.le_of_ble_eq_true rfl)
  rw [lg_entry_eq]
  generalize (lg_sl ([.ref h0]) ++ List.replicate (2 - (lg_sl ([.ref h0])).length) Slot.unset).toArray = ls at hl ⊢
  have hl : lv_has ls 2 [(0, .ref h0)] := hl
  refine lv_iconst (v := 0) hx hb dX7_sign_0 (by decide) ?_
  refine lv_istore_n (lv' := [(1, .int 0), (0, .ref h0)]) hx hb dX7_sign_1 rfl hl (by decide) rfl (fun ls hl => ?_)
  refine W.loop (I := fun n H locs g => ∃ (y_46 : Int32) (yy_47 : Nat → Int32) (ls : Array Slot), bt 0 400 y_46 ∧ 400 - y_46.toInt < (n : Int) ∧ va_P (dC, dI) classes [(h0, .inr (7, [.ref tp, .int h0_length, .int (yy_47 0), .int h0_fault])), (tp, .inl (ktp, 400, .inl gtp))] H ∧ va_D A [(h0, .inr (7, [.ref tp, .int h0_length, .int (yy_47 0), .int h0_fault])), (tp, .inl (ktp, 400, .inl gtp))] ∧ va_S A s.heap H locs ∧ lv_has ls 2 [(1, .int y_46), (0, .ref h0)] ∧ g = F0 m 2 ls []) (fun H locs g h => ?_) (fun n ih2 H locs g h => ?_) (n := 401) ⟨0, (fun i => [h0_place].getD i 0), _, (bt_w (bt_k (x := 0) (c := 0) (by decide)) (by decide)), (ms_0 (bt_k (x := 0) (c := 0) (by decide)) (by decide)), hP, hD, hS, hl, rfl⟩
  · obtain ⟨y_46, yy_47, ls, bd_v_1, hm, hP, hD, hS, hl, rfl⟩ := h
    exact ms_z bd_v_1 hm
  · obtain ⟨y_46, yy_47, ls, bd_v_1, hm2, hP, hD, hS, hl, rfl⟩ := h
    refine lv_iload_n hx hb dX7_sign_2 rfl (lv_at hl 0 rfl) ?_
    refine lv_sipush (v := 400) hx hb dX7_sign_3 (by decide) ?_
    refine W.cut (I := fun H locs g => ∃ (ls : Array Slot), va_P (dC, dI) classes [(h0, .inr (7, [.ref tp, .int h0_length, .int (yy_47 0), .int h0_fault])), (tp, .inl (ktp, 400, .inl gtp))] H ∧ va_D A [(h0, .inr (7, [.ref tp, .int h0_length, .int (yy_47 0), .int h0_fault])), (tp, .inl (ktp, 400, .inl gtp))] ∧ va_S A s.heap H locs ∧ lv_has ls 2 [(0, .ref h0)] ∧ g = F0 m 38 ls []) (fun H locs g h => ?_) (fun hJ38 => ?_)
    · obtain ⟨ls, hP, hD, hS, hl, rfl⟩ := h
      refine lv_aload_n hx hb dX7_sign_38 rfl (lv_at hl 0 rfl) ?_
      refine lv_aload_n hx hb dX7_sign_39 rfl (lv_at hl 0 rfl) ?_
      refine va_get (D := (dC, dI)) (ci := 7) (v := .int (yy_47 0)) (C := RX7) (T := TX7) (N := 4) hx hb hq inX7 hown hK hP 0 rfl rfl 2 (by decide) (hq _ qw_161) (fun _ h9 => h9) rfl dX7_sign_40 ?_
      have hPc := hP.sub (ws' := [(h0, .inr (7, [.ref tp, .int h0_length, .int (yy_47 0), .int h0_fault])), (tp, .inl (ktp, 400, .inl gtp))]) [0, 1] rfl
      have hDc := hD.sub (ws' := [(h0, .inr (7, [.ref tp, .int h0_length, .int (yy_47 0), .int h0_fault])), (tp, .inl (ktp, 400, .inl gtp))]) [0, 1] (by decide) rfl
      have hKc := hK.sub (tys' := [(ktp, .int)]) [0] rfl
      have hFc := va_free (wc := [(h0, .inr (7, [.ref tp, .int h0_length, .int (yy_47 0), .int h0_fault])), (tp, .inl (ktp, 400, .inl gtp))]) hD hS hA [0, 1] rfl
      refine va_calli (va_runV (As := [.int (yy_47 0)]) (rest := []) ⟨hx, hb, hml, hown, hq⟩ (rd_byteAt l dC dI _ h0 tp h0_length (yy_47 0) h0_fault ktp gtp (yy_47 0) ) (cwV 1 hq (gV qw_542 qw_544 qw_1 qw_121 qw_545) rfl rfl rfl (by decide +kernel) ⟨Nat.le_of_ble_eq_true rfl, Nat.le_of_ble_eq_true rfl⟩) ⟨fun a U g mk q => by obtain ⟨q0, q1, qP, qK, qD, qE⟩ := q; exact ⟨q0, q1, qP, va_K.moved (u := U) (U := U.calling g mk a) (Vm.Alike.refl U.vm) qK, qD, xE.same rfl qE⟩, va_recv hKc hPc (ci := 7) (q0 := 0) rfl rfl, fun U hU hW => ⟨rfl, by rw [hU], by rw [hU]; exact hPc, va_K.moved hW.alike hKc, hDc.weaken (fun _ _ _ _ => trivial), xE.warm hW hE⟩⟩ rfl rfl hl.1 rfl (lv_room (Nat.le_of_ble_eq_true rfl)) dX7_sign_43 ⟨Nat.le_of_ble_eq_true rfl, Nat.le_of_ble_eq_true rfl⟩) hS (fun q _ h => hFc q h) hFc (fun r_84 u t H1 locs ht hvm hw hB hz1 hk1 hS => ?_)
      obtain ⟨hP1, hK1, hD1⟩ := hB
      rw [ht] at hP1
      obtain ⟨hP, hD⟩ := va_join (wr := []) (w1 := [(h0, .inr (7, [.ref tp, .int h0_length, .int (yy_47 0), .int h0_fault])), (tp, .inl (ktp, 400, .inl gtp))]) hP hD [0, 1] [] rfl rfl (by decide) (by decide) hk1 hFc hP1 hD1
      generalize H1 = H at hP hS ⊢
      have hP : va_P (dC, dI) classes [(h0, .inr (7, [.ref tp, .int h0_length, .int (yy_47 0), .int h0_fault])), (tp, .inl (ktp, 400, .inl gtp))] H := hP
      have hD : va_D A [(h0, .inr (7, [.ref tp, .int h0_length, .int (yy_47 0), .int h0_fault])), (tp, .inl (ktp, 400, .inl gtp))] := hD
      refine W.widen (k := 0) (n := 0) (Nat.le_of_ble_eq_true rfl) (Nat.le_of_ble_eq_true rfl) ?_
      exact W.iret (v := r_84) hx hb hr (fun t ht hW => ⟨⟨r_84, (), rfl, trivial, (fun i => [(yy_47 0)].getD i 0), by rw [ht]; exact hP, va_K.moved hW.alike hK, hD⟩, hS.F ht⟩) hS.2.2 dX7_sign_46
    refine lv_icmp_ge (tgt := 38) hx hb dX7_sign_6 (by decide) (fun c_85 => ?_) (fun c_85 => ?_)
    · exact hJ38 _ _ _ ⟨_, hP, hD, hS, (lv_sub hl [1] rfl), rfl⟩
    · refine lv_aload_n hx hb dX7_sign_9 rfl (lv_at hl 1 rfl) ?_
      refine lv_aload_n hx hb dX7_sign_10 rfl (lv_at hl 1 rfl) ?_
      refine va_get (D := (dC, dI)) (ci := 7) (v := .int (yy_47 0)) (C := RX7) (T := TX7) (N := 4) hx hb hq inX7 hown hK hP 0 rfl rfl 2 (by decide) (hq _ qw_161) (fun _ h9 => h9) rfl dX7_sign_11 ?_
      have hPc := hP.sub (ws' := [(h0, .inr (7, [.ref tp, .int h0_length, .int (yy_47 0), .int h0_fault])), (tp, .inl (ktp, 400, .inl gtp))]) [0, 1] rfl
      have hDc := hD.sub (ws' := [(h0, .inr (7, [.ref tp, .int h0_length, .int (yy_47 0), .int h0_fault])), (tp, .inl (ktp, 400, .inl gtp))]) [0, 1] (by decide) rfl
      have hKc := hK.sub (tys' := [(ktp, .int)]) [0] rfl
      have hFc := va_free (wc := [(h0, .inr (7, [.ref tp, .int h0_length, .int (yy_47 0), .int h0_fault])), (tp, .inl (ktp, 400, .inl gtp))]) hD hS hA [0, 1] rfl
      refine va_calli (va_runV (As := [.int (yy_47 0)]) (rest := []) ⟨hx, hb, hml, hown, hq⟩ (rd_byteAt l dC dI _ h0 tp h0_length (yy_47 0) h0_fault ktp gtp (yy_47 0) ) (cwV 1 hq (gV qw_542 qw_544 qw_1 qw_121 qw_545) rfl rfl rfl (by decide +kernel) ⟨Nat.le_of_ble_eq_true rfl, Nat.le_of_ble_eq_true rfl⟩) ⟨fun a U g mk q => by obtain ⟨q0, q1, qP, qK, qD, qE⟩ := q; exact ⟨q0, q1, qP, va_K.moved (u := U) (U := U.calling g mk a) (Vm.Alike.refl U.vm) qK, qD, xE.same rfl qE⟩, va_recv hKc hPc (ci := 7) (q0 := 0) rfl rfl, fun U hU hW => ⟨rfl, by rw [hU], by rw [hU]; exact hPc, va_K.moved hW.alike hKc, hDc.weaken (fun _ _ _ _ => trivial), xE.warm hW hE⟩⟩ rfl rfl hl.1 rfl (lv_room (Nat.le_of_ble_eq_true rfl)) dX7_sign_14 ⟨Nat.le_of_ble_eq_true rfl, Nat.le_of_ble_eq_true rfl⟩) hS (fun q _ h => hFc q h) hFc (fun r_86 u t H1 locs ht hvm hw hB hz1 hk1 hS => ?_)
      obtain ⟨hP1, hK1, hD1⟩ := hB
      rw [ht] at hP1
      obtain ⟨hP, hD⟩ := va_join (wr := []) (w1 := [(h0, .inr (7, [.ref tp, .int h0_length, .int (yy_47 0), .int h0_fault])), (tp, .inl (ktp, 400, .inl gtp))]) hP hD [0, 1] [] rfl rfl (by decide) (by decide) hk1 hFc hP1 hD1
      generalize H1 = H at hP hS ⊢
      have hP : va_P (dC, dI) classes [(h0, .inr (7, [.ref tp, .int h0_length, .int (yy_47 0), .int h0_fault])), (tp, .inl (ktp, 400, .inl gtp))] H := hP
      have hD : va_D A [(h0, .inr (7, [.ref tp, .int h0_length, .int (yy_47 0), .int h0_fault])), (tp, .inl (ktp, 400, .inl gtp))] := hD
      refine lv_bipush (v := 32) hx hb dX7_sign_17 (by decide) ?_
      refine lv_icmp_ne (tgt := 38) hx hb dX7_sign_19 (by decide) (fun c_87 => ?_) (fun c_87 => ?_)
      · exact hJ38 _ _ _ ⟨_, hP, hD, hS, (lv_sub hl [1] rfl), rfl⟩
      · refine lv_aload_n hx hb dX7_sign_22 rfl (lv_at hl 1 rfl) ?_
        refine lv_dup hx hb dX7_sign_23 rfl ?_
        refine va_get (D := (dC, dI)) (ci := 7) (v := .int (yy_47 0)) (C := RX7) (T := TX7) (N := 4) hx hb hq inX7 hown hK hP 0 rfl rfl 2 (by decide) (hq _ qw_161) (fun _ h9 => h9) rfl dX7_sign_24 ?_
        refine lv_iconst (v := 1) hx hb dX7_sign_27 (by decide) ?_
        refine lv_iadd hx hb dX7_sign_28 ?_
        refine lv_topi (fun y_88 ey_88 => ?_)
        refine va_put (D := (dC, dI)) (ci := 7) (v := .int y_88) (ty := .int) (C := RX7) (T := TX7) (N := 4) hx hb hq inX7 tyX7 tyX7_ok nmX7 hown hK hP hD hS 0 rfl rfl 2 (by decide) (hq _ qw_161) (fun _ h9 => h9) rfl (by decide +kernel) rfl rfl (Nat.le_of_ble_eq_true rfl) dX7_sign_29 (fun H locs hP hD hS => ?_)
        have hP : va_P (dC, dI) classes [(h0, .inr (7, [.ref tp, .int h0_length, .int y_88, .int h0_fault])), (tp, .inl (ktp, 400, .inl gtp))] H := hP
        have hD : va_D A [(h0, .inr (7, [.ref tp, .int h0_length, .int y_88, .int h0_fault])), (tp, .inl (ktp, 400, .inl gtp))] := hD
        obtain ⟨y_89, ey_89⟩ : ∃ y : Int32, y = y_46 + 1 := ⟨_, rfl⟩
        refine lv_iinc (v := y_89) (lv' := [(1, .int y_89), (0, .ref h0)]) hx hb dX7_sign_32 hl (k := 0) rfl (by rw [ey_89]; rfl) (by decide) rfl (fun ls hl => ?_)
        refine lv_goto (tgt := 2) hx hb dX7_sign_35 (by decide) ?_
        have b_90 : bt 0 399 y_46 := rf_lt_l bd_v_1 (bt_k (x := 400) (c := 400) (by decide)) (Int32.not_le.mp c_85) (by decide)
        have b_91 : bt 1 400 y_89 := bt_add ey_89 b_90 (bt_k (x := 1) (c := 1) (by decide)) (by decide)
        exact ih2 _ _ _ ⟨y_89, (fun i => [y_88].getD i 0), _, (bt_w b_91 (by decide)), (ms_s ey_89 b_90 hm2 (by decide)), hP, hD, hS, hl, rfl⟩

set_option maxHeartbeats 4000000 in
set_option maxRecDepth 100000 in
/-- rd_takes -/
theorem rd_takes (l : Launch) (dC : Nat → ClassId) (dI : Nat → Nat → Nat) (sz : Nat) (h0 : Nat) (tp : Nat) (h0_length : Int32) (h0_place : Int32) (h0_fault : Int32) (ktp : ClassId) (gtp : Nat → Int32) (x0 : Int32) : Met l yX7_takes (.code yX7_takes cX7_takes 3 (some .boolean) :: wsA) ({ frames := 1, cells := 0, slots := 0, locals := 21 }) (va_Pc [.ref h0, .int x0] (fun U => U.heap.size = sz ∧ va_P (dC, dI) classes [(h0, .inr (7, [.ref tp, .int h0_length, .int h0_place, .int h0_fault])), (tp, .inl (ktp, 400, .inl gtp))] U.heap ∧ va_K (dC, dI) classes [(ktp, .int)] U ∧ va_D (fun _ => True) [(h0, .inr (7, [.ref tp, .int h0_length, .int h0_place, .int h0_fault])), (tp, .inl (ktp, 400, .inl gtp))] ∧ xE U)) (va_Qi (fun (r : Int32) (_ : Unit) => True) (fun _ t => ∃ (yy_7 : Nat → Int32), va_P (dC, dI) classes [(h0, .inr (7, [.ref tp, .int h0_length, .int (yy_7 0), .int h0_fault])), (tp, .inl (ktp, 400, .inl gtp))] t.heap ∧ va_K (dC, dI) classes [(ktp, .int)] t ∧ va_D (va_A [(h0, .inr (7, [.ref tp, .int h0_length, .int h0_place, .int h0_fault])), (tp, .inl (ktp, 400, .inl gtp))] sz) [(h0, .inr (7, [.ref tp, .int h0_length, .int (yy_7 0), .int h0_fault])), (tp, .inl (ktp, 400, .inl gtp))]) (va_A [(h0, .inr (7, [.ref tp, .int h0_length, .int h0_place, .int h0_fault])), (tp, .inl (ktp, 400, .inl gtp))] sz)) 0 0 (va_A [(h0, .inr (7, [.ref tp, .int h0_length, .int h0_place, .int h0_fault])), (tp, .inl (ktp, 400, .inl gtp))] sz) := by
  refine Met.ofW (cc := cX7_takes) (maxL := 3) (ret := (some .boolean)) (by decide) rfl ?_
  intro p e s m args below meth c s₁ B hml hv
  obtain ⟨rfl, hsz, hP, hK, hD0, hE⟩ := hv
  have hx := B.exec
  have hb := B.bytes
  have hr := B.returns
  have hts := atoms_spec (ws := .code yX7_takes cX7_takes 3 (some .boolean) :: wsA) B.pre
  have hq : ∀ w ∈ wsA, w.before _ s = true := fun w h => hts w (List.mem_cons_of_mem _ h)
  have hown : s.vm.findClass RX7 = some m.cls := findClass_of_methodNamed B.named
  have hlocks := B.notSynchronized
  subst hsz
  have hD := hD0.self (sz := s.heap.size)
  generalize hAe : va_A [(h0, .inr (7, [.ref tp, .int h0_length, .int h0_place, .int h0_fault])), (tp, .inl (ktp, 400, .inl gtp))] s.heap.size = A at hD ⊢
  have hA : ∀ q : Nat, s.heap.size ≤ q → A q := fun q h => by rw [← hAe]; exact Or.inr h
  have hS : va_S A s.heap s.heap [] := va_S.rf
  have hl := lv_entry ([.ref h0, .int x0]) (n := 3) (Nat.le_of_ble_eq_true rfl)
  rw [lg_entry_eq]
  generalize (lg_sl ([.ref h0, .int x0]) ++ List.replicate (3 - (lg_sl ([.ref h0, .int x0])).length) Slot.unset).toArray = ls at hl ⊢
  have hl : lv_has ls 3 [(0, .ref h0), (1, .int x0)] := hl
  refine lv_aload_n hx hb dX7_takes_0 rfl (lv_at hl 0 rfl) ?_
  refine lv_aload_n hx hb dX7_takes_1 rfl (lv_at hl 0 rfl) ?_
  refine va_get (D := (dC, dI)) (ci := 7) (v := .int h0_place) (C := RX7) (T := TX7) (N := 4) hx hb hq inX7 hown hK hP 0 rfl rfl 2 (by decide) (hq _ qw_161) (fun _ h9 => h9) rfl dX7_takes_2 ?_
  have hPc := hP.sub (ws' := [(h0, .inr (7, [.ref tp, .int h0_length, .int h0_place, .int h0_fault])), (tp, .inl (ktp, 400, .inl gtp))]) [0, 1] rfl
  have hDc := hD.sub (ws' := [(h0, .inr (7, [.ref tp, .int h0_length, .int h0_place, .int h0_fault])), (tp, .inl (ktp, 400, .inl gtp))]) [0, 1] (by decide) rfl
  have hKc := hK.sub (tys' := [(ktp, .int)]) [0] rfl
  have hFc := va_free (wc := [(h0, .inr (7, [.ref tp, .int h0_length, .int h0_place, .int h0_fault])), (tp, .inl (ktp, 400, .inl gtp))]) hD hS hA [0, 1] rfl
  refine va_calli (va_runV (As := [.int h0_place]) (rest := []) ⟨hx, hb, hml, hown, hq⟩ (rd_byteAt l dC dI _ h0 tp h0_length h0_place h0_fault ktp gtp h0_place ) (cwV 1 hq (gV qw_542 qw_544 qw_1 qw_121 qw_545) rfl rfl rfl (by decide +kernel) ⟨Nat.le_of_ble_eq_true rfl, Nat.le_of_ble_eq_true rfl⟩) ⟨fun a U g mk q => by obtain ⟨q0, q1, qP, qK, qD, qE⟩ := q; exact ⟨q0, q1, qP, va_K.moved (u := U) (U := U.calling g mk a) (Vm.Alike.refl U.vm) qK, qD, xE.same rfl qE⟩, va_recv hKc hPc (ci := 7) (q0 := 0) rfl rfl, fun U hU hW => ⟨rfl, by rw [hU], by rw [hU]; exact hPc, va_K.moved hW.alike hKc, hDc.weaken (fun _ _ _ _ => trivial), xE.warm hW hE⟩⟩ rfl rfl hl.1 rfl (lv_room (Nat.le_of_ble_eq_true rfl)) dX7_takes_5 ⟨Nat.le_of_ble_eq_true rfl, Nat.le_of_ble_eq_true rfl⟩) hS (fun q _ h => hFc q h) hFc (fun r_8 u t H1 locs ht hvm hw hB hz1 hk1 hS => ?_)
  obtain ⟨hP1, hK1, hD1⟩ := hB
  rw [ht] at hP1
  obtain ⟨hP, hD⟩ := va_join (wr := []) (w1 := [(h0, .inr (7, [.ref tp, .int h0_length, .int h0_place, .int h0_fault])), (tp, .inl (ktp, 400, .inl gtp))]) hP hD [0, 1] [] rfl rfl (by decide) (by decide) hk1 hFc hP1 hD1
  generalize H1 = H at hP hS ⊢
  have hP : va_P (dC, dI) classes [(h0, .inr (7, [.ref tp, .int h0_length, .int h0_place, .int h0_fault])), (tp, .inl (ktp, 400, .inl gtp))] H := hP
  have hD : va_D A [(h0, .inr (7, [.ref tp, .int h0_length, .int h0_place, .int h0_fault])), (tp, .inl (ktp, 400, .inl gtp))] := hD
  refine lv_iload_n hx hb dX7_takes_8 rfl (lv_at hl 1 rfl) ?_
  refine W.cut (I := fun H locs g => ∃ (y_10 : Int32) (ls : Array Slot), bt 0 1 y_10 ∧ va_P (dC, dI) classes [(h0, .inr (7, [.ref tp, .int h0_length, .int h0_place, .int h0_fault])), (tp, .inl (ktp, 400, .inl gtp))] H ∧ va_D A [(h0, .inr (7, [.ref tp, .int h0_length, .int h0_place, .int h0_fault])), (tp, .inl (ktp, 400, .inl gtp))] ∧ va_S A s.heap H locs ∧ lv_has ls 3 [(0, .ref h0)] ∧ g = F0 m 17 ls [.int y_10]) (fun H locs g h => ?_) (fun hJ17 => ?_)
  · obtain ⟨y_10, ls, bd_s_0, hP, hD, hS, hl, rfl⟩ := h
    refine lv_istore_n (lv' := [(2, .int y_10), (0, .ref h0)]) hx hb dX7_takes_17 rfl hl (by decide) rfl (fun ls hl => ?_)
    refine lv_aload_n hx hb dX7_takes_18 rfl (lv_at hl 1 rfl) ?_
    refine lv_dup hx hb dX7_takes_19 rfl ?_
    refine va_get (D := (dC, dI)) (ci := 7) (v := .int h0_place) (C := RX7) (T := TX7) (N := 4) hx hb hq inX7 hown hK hP 0 rfl rfl 2 (by decide) (hq _ qw_161) (fun _ h9 => h9) rfl dX7_takes_20 ?_
    refine lv_iload_n hx hb dX7_takes_23 rfl (lv_at hl 0 rfl) ?_
    refine W.cut (I := fun H locs g => ∃ (y_15 : Int32) (ls : Array Slot), va_P (dC, dI) classes [(h0, .inr (7, [.ref tp, .int h0_length, .int h0_place, .int h0_fault])), (tp, .inl (ktp, 400, .inl gtp))] H ∧ va_D A [(h0, .inr (7, [.ref tp, .int h0_length, .int h0_place, .int h0_fault])), (tp, .inl (ktp, 400, .inl gtp))] ∧ va_S A s.heap H locs ∧ lv_has ls 3 [(2, .int y_10)] ∧ g = F0 m 32 ls [.int y_15, .int h0_place, .ref h0]) (fun H locs g h => ?_) (fun hJ32 => ?_)
    · obtain ⟨y_15, ls, hP, hD, hS, hl, rfl⟩ := h
      refine lv_iadd hx hb dX7_takes_32 ?_
      refine lv_topi (fun y_17 ey_17 => ?_)
      refine va_put (D := (dC, dI)) (ci := 7) (v := .int y_17) (ty := .int) (C := RX7) (T := TX7) (N := 4) hx hb hq inX7 tyX7 tyX7_ok nmX7 hown hK hP hD hS 0 rfl rfl 2 (by decide) (hq _ qw_161) (fun _ h9 => h9) rfl (by decide +kernel) rfl rfl (Nat.le_of_ble_eq_true rfl) dX7_takes_33 (fun H locs hP hD hS => ?_)
      have hP : va_P (dC, dI) classes [(h0, .inr (7, [.ref tp, .int h0_length, .int y_17, .int h0_fault])), (tp, .inl (ktp, 400, .inl gtp))] H := hP
      have hD : va_D A [(h0, .inr (7, [.ref tp, .int h0_length, .int y_17, .int h0_fault])), (tp, .inl (ktp, 400, .inl gtp))] := hD
      refine lv_iload_n hx hb dX7_takes_36 rfl (lv_at hl 0 rfl) ?_
      refine W.widen (k := 0) (n := 0) (Nat.le_of_ble_eq_true rfl) (Nat.le_of_ble_eq_true rfl) ?_
      exact W.zret (v := y_10) hx hb hr (nar_z bd_s_0) (fun t ht hW => ⟨⟨y_10, (), rfl, trivial, (fun i => [y_17].getD i 0), by rw [ht]; exact hP, va_K.moved hW.alike hK, hD⟩, hS.F ht⟩) hS.2.2 dX7_takes_37
    refine lv_if_eq (tgt := 31) hx hb dX7_takes_24 (by decide) (fun c_18 => ?_) (fun c_18 => ?_)
    · refine lv_iconst (v := 0) hx hb dX7_takes_31 (by decide) ?_
      exact hJ32 _ _ _ ⟨0, _, hP, hD, hS, (lv_sub hl [0] rfl), rfl⟩
    · refine lv_iconst (v := 1) hx hb dX7_takes_27 (by decide) ?_
      refine lv_goto (tgt := 32) hx hb dX7_takes_28 (by decide) ?_
      exact hJ32 _ _ _ ⟨1, _, hP, hD, hS, (lv_sub hl [0] rfl), rfl⟩
  refine lv_icmp_ne (tgt := 16) hx hb dX7_takes_9 (by decide) (fun c_19 => ?_) (fun c_19 => ?_)
  · refine lv_iconst (v := 0) hx hb dX7_takes_16 (by decide) ?_
    exact hJ17 _ _ _ ⟨0, _, (bt_w (bt_k (x := 0) (c := 0) (by decide)) (by decide)), hP, hD, hS, (lv_sub hl [0] rfl), rfl⟩
  · refine lv_iconst (v := 1) hx hb dX7_takes_12 (by decide) ?_
    refine lv_goto (tgt := 17) hx hb dX7_takes_13 (by decide) ?_
    exact hJ17 _ _ _ ⟨1, _, (bt_w (bt_k (x := 1) (c := 1) (by decide)) (by decide)), hP, hD, hS, (lv_sub hl [0] rfl), rfl⟩

set_option maxHeartbeats 4000000 in
set_option maxRecDepth 100000 in
/-- rd_word_0 -/
theorem rd_word_0 (l : Launch) (dC : Nat → ClassId) (dI : Nat → Nat → Nat) (sz : Nat) (kA vA : Nat → Nat) (h0 : Nat) (tp : Nat) (h0_length : Int32) (h0_place : Int32) (h0_fault : Int32) (ktp : ClassId) (gtp : Nat → Int32) : Met l yX7_wordAmong (.code yX7_wordAmong cX7_wordAmong 7 (some .int) :: wsA) ({ frames := 4, cells := 0, slots := 0, locals := 85 }) (va_Pc [.ref h0, .ref (kA 0)] (fun U => U.heap.size = sz ∧ va_P (dC, dI) classes [(h0, .inr (7, [.ref tp, .int h0_length, .int h0_place, .int h0_fault])), (tp, .inl (ktp, 400, .inl gtp))] U.heap ∧ va_K (dC, dI) classes [(ktp, .int)] U ∧ va_D (fun _ => True) [(h0, .inr (7, [.ref tp, .int h0_length, .int h0_place, .int h0_fault])), (tp, .inl (ktp, 400, .inl gtp))] ∧ xE U ∧ xT kA vA (va_A [(h0, .inr (7, [.ref tp, .int h0_length, .int h0_place, .int h0_fault])), (tp, .inl (ktp, 400, .inl gtp))] sz) U U.heap)) (va_Qi (fun (r : Int32) (_ : Unit) => True) (fun _ t => va_P (dC, dI) classes [(h0, .inr (7, [.ref tp, .int h0_length, .int h0_place, .int h0_fault])), (tp, .inl (ktp, 400, .inl gtp))] t.heap ∧ va_K (dC, dI) classes [(ktp, .int)] t ∧ va_D (va_A [(h0, .inr (7, [.ref tp, .int h0_length, .int h0_place, .int h0_fault])), (tp, .inl (ktp, 400, .inl gtp))] sz) [(h0, .inr (7, [.ref tp, .int h0_length, .int h0_place, .int h0_fault])), (tp, .inl (ktp, 400, .inl gtp))]) (va_A [(h0, .inr (7, [.ref tp, .int h0_length, .int h0_place, .int h0_fault])), (tp, .inl (ktp, 400, .inl gtp))] sz)) 0 0 (va_A [(h0, .inr (7, [.ref tp, .int h0_length, .int h0_place, .int h0_fault])), (tp, .inl (ktp, 400, .inl gtp))] sz) := by
  refine Met.ofW (cc := cX7_wordAmong) (maxL := 7) (ret := (some .int)) (by decide) rfl ?_
  intro p e s m args below meth c s₁ B hml hv
  obtain ⟨rfl, hsz, hP, hK, hD0, hE, hT⟩ := hv
  have hx := B.exec
  have hb := B.bytes
  have hr := B.returns
  have hts := atoms_spec (ws := .code yX7_wordAmong cX7_wordAmong 7 (some .int) :: wsA) B.pre
  have hq : ∀ w ∈ wsA, w.before _ s = true := fun w h => hts w (List.mem_cons_of_mem _ h)
  have hown : s.vm.findClass RX7 = some m.cls := findClass_of_methodNamed B.named
  have hlocks := B.notSynchronized
  subst hsz
  have hD := hD0.self (sz := s.heap.size)
  generalize hAe : va_A [(h0, .inr (7, [.ref tp, .int h0_length, .int h0_place, .int h0_fault])), (tp, .inl (ktp, 400, .inl gtp))] s.heap.size = A at hD hT ⊢
  have hA : ∀ q : Nat, s.heap.size ≤ q → A q := fun q h => by rw [← hAe]; exact Or.inr h
  have hS : va_S A s.heap s.heap [] := va_S.rf
  have hl := lv_entry ([.ref h0, .ref (kA 0)]) (n := 7) (Nat.le_of_ble_eq_true rfl)
  rw [lg_entry_eq]
  generalize (lg_sl ([.ref h0, .ref (kA 0)]) ++ List.replicate (7 - (lg_sl ([.ref h0, .ref (kA 0)])).length) Slot.unset).toArray = ls at hl ⊢
  have hl : lv_has ls 7 [(0, .ref h0), (1, .ref (kA 0))] := hl
  refine lv_iconst (v := 0) hx hb dX7_wordAmong_0 (by decide) ?_
  refine lv_istore_n (lv' := [(2, .int 0), (0, .ref h0), (1, .ref (kA 0))]) hx hb dX7_wordAmong_1 rfl hl (by decide) rfl (fun ls hl => ?_)
  refine lv_iconst (v := 0) hx hb dX7_wordAmong_2 (by decide) ?_
  refine lv_istore_n (lv' := [(3, .int 0), (2, .int 0), (0, .ref h0), (1, .ref (kA 0))]) hx hb dX7_wordAmong_3 rfl hl (by decide) rfl (fun ls hl => ?_)
  refine lv_iconst (v := 1) hx hb dX7_wordAmong_4 (by decide) ?_
  refine lv_istore (lv' := [(4, .int 1), (3, .int 0), (2, .int 0), (0, .ref h0), (1, .ref (kA 0))]) hx hb dX7_wordAmong_5 hl (by decide) rfl (fun ls hl => ?_)
  refine lv_iconst (v := 0) hx hb dX7_wordAmong_7 (by decide) ?_
  refine lv_istore (lv' := [(5, .int 0), (4, .int 1), (3, .int 0), (2, .int 0), (0, .ref h0), (1, .ref (kA 0))]) hx hb dX7_wordAmong_8 hl (by decide) rfl (fun ls hl => ?_)
  refine W.loop (I := fun n H locs g => ∃ (y_198 : Int32) (y_199 : Int32) (y_200 : Int32) (y_201 : Int32) (ls : Array Slot), bt 0 24 y_198 ∧ 24 - y_198.toInt < (n : Int) ∧ va_P (dC, dI) classes [(h0, .inr (7, [.ref tp, .int h0_length, .int h0_place, .int h0_fault])), (tp, .inl (ktp, 400, .inl gtp))] H ∧ va_D A [(h0, .inr (7, [.ref tp, .int h0_length, .int h0_place, .int h0_fault])), (tp, .inl (ktp, 400, .inl gtp))] ∧ va_S A s.heap H locs ∧ lv_has ls 7 [(5, .int y_198), (4, .int y_199), (3, .int y_200), (2, .int y_201), (0, .ref h0), (1, .ref (kA 0))] ∧ g = F0 m 10 ls []) (fun H locs g h => ?_) (fun n ih10 H locs g h => ?_) (n := 25) ⟨0, 1, 0, 0, _, (bt_w (bt_k (x := 0) (c := 0) (by decide)) (by decide)), (ms_0 (bt_k (x := 0) (c := 0) (by decide)) (by decide)), hP, hD, hS, hl, rfl⟩
  · obtain ⟨y_198, y_199, y_200, y_201, ls, bd_v_5, hm, hP, hD, hS, hl, rfl⟩ := h
    exact ms_z bd_v_5 hm
  · obtain ⟨y_198, y_199, y_200, y_201, ls, bd_v_5, hm10, hP, hD, hS, hl, rfl⟩ := h
    refine lv_iload hx hb dX7_wordAmong_10 (lv_at hl 0 rfl) ?_
    refine lv_aload_n hx hb dX7_wordAmong_12 rfl (lv_at hl 5 rfl) ?_
    have hPc := hP.sub (ws' := []) [] rfl
    have hDc := hD.sub (ws' := []) [] (by decide) rfl
    have hKc := hK.sub (tys' := []) [] rfl
    have hFc := va_free (wc := []) hD hS hA [] rfl
    refine va_calli (va_runV (As := []) (rest := [.int y_198]) ⟨hx, hb, hml, hown, hq⟩ (j_length_0 l dC dI _ kA vA  ) (cwV 0 hq (gV qw_551 qw_552 qw_553 qw_133 qw_554) rfl rfl rfl (by decide +kernel) ⟨Nat.le_of_ble_eq_true rfl, Nat.le_of_ble_eq_true rfl⟩) ⟨fun a U g mk q => by obtain ⟨q0, q1, qP, qK, qD, qE, qT⟩ := q; exact ⟨q0, q1, qP, va_K.moved (u := U) (U := U.calling g mk a) (Vm.Alike.refl U.vm) qK, qD, xE.same rfl qE, xT.same rfl qT⟩, xT_recv hT hS (i := 0) (by decide), fun U hU hW => ⟨rfl, by rw [hU], by rw [hU]; exact hPc, va_K.moved hW.alike hKc, hDc.weaken (fun _ _ _ _ => trivial), xE.warm hW hE, by rw [hU]; exact xT.call hW hT hS hFc⟩⟩ rfl rfl hl.1 rfl (lv_room (Nat.le_of_ble_eq_true rfl)) dX7_wordAmong_13 ⟨Nat.le_of_ble_eq_true rfl, Nat.le_of_ble_eq_true rfl⟩) hS (fun q _ h => hFc q h) hFc (fun r_346 u t H1 locs ht hvm hw hB hz1 hk1 hS => ?_)
    obtain ⟨hP1, hK1, hD1⟩ := hB
    rw [ht] at hP1
    obtain ⟨hP, hD⟩ := va_join (wr := [(h0, .inr (7, [.ref tp, .int h0_length, .int h0_place, .int h0_fault])), (tp, .inl (ktp, 400, .inl gtp))]) (w1 := []) hP hD [] [0, 1] rfl rfl (by decide) (by decide) hk1 hFc hP1 hD1
    generalize H1 = H at hP hS ⊢
    have hP : va_P (dC, dI) classes [(h0, .inr (7, [.ref tp, .int h0_length, .int h0_place, .int h0_fault])), (tp, .inl (ktp, 400, .inl gtp))] H := hP
    have hD : va_D A [(h0, .inr (7, [.ref tp, .int h0_length, .int h0_place, .int h0_fault])), (tp, .inl (ktp, 400, .inl gtp))] := hD
    obtain rfl : r_346 = 24 := hw
    refine lv_icmp_ge (tgt := 104) hx hb dX7_wordAmong_16 (by decide) (fun c_347 => ?_) (fun c_347 => ?_)
    · refine lv_iconst (v := (-1)) hx hb dX7_wordAmong_104 (by decide) ?_
      refine W.widen (k := 0) (n := 0) (Nat.le_of_ble_eq_true rfl) (Nat.le_of_ble_eq_true rfl) ?_
      exact W.iret (v := (-1)) hx hb hr (fun t ht hW => ⟨⟨(-1), (), rfl, trivial, by rw [ht]; exact hP, va_K.moved hW.alike hK, hD⟩, hS.F ht⟩) hS.2.2 dX7_wordAmong_105
    · refine lv_aload_n hx hb dX7_wordAmong_19 rfl (lv_at hl 5 rfl) ?_
      refine lv_iload hx hb dX7_wordAmong_20 (lv_at hl 0 rfl) ?_
      have b_348 : bt 0 23 y_198 := rf_lt_l bd_v_5 (bt_k (x := 24) (c := 24) (by decide)) (Int32.not_le.mp c_347) (by decide)
      have hPc := hP.sub (ws' := []) [] rfl
      have hDc := hD.sub (ws' := []) [] (by decide) rfl
      have hKc := hK.sub (tys' := []) [] rfl
      have hFc := va_free (wc := []) hD hS hA [] rfl
      refine va_calli (va_runV (As := [.int y_198]) (rest := []) ⟨hx, hb, hml, hown, hq⟩ (j_charAt_0 l dC dI _ kA vA y_198 b_348) (cwV 1 hq (gV qw_561 qw_562 qw_563 qw_133 qw_564) rfl rfl rfl (by decide +kernel) ⟨Nat.le_of_ble_eq_true rfl, Nat.le_of_ble_eq_true rfl⟩) ⟨fun a U g mk q => by obtain ⟨q0, q1, qP, qK, qD, qE, qT⟩ := q; exact ⟨q0, q1, qP, va_K.moved (u := U) (U := U.calling g mk a) (Vm.Alike.refl U.vm) qK, qD, xE.same rfl qE, xT.same rfl qT⟩, xT_recv hT hS (i := 0) (by decide), fun U hU hW => ⟨rfl, by rw [hU], by rw [hU]; exact hPc, va_K.moved hW.alike hKc, hDc.weaken (fun _ _ _ _ => trivial), xE.warm hW hE, by rw [hU]; exact xT.call hW hT hS hFc⟩⟩ rfl rfl hl.1 rfl (lv_room (Nat.le_of_ble_eq_true rfl)) dX7_wordAmong_22 ⟨Nat.le_of_ble_eq_true rfl, Nat.le_of_ble_eq_true rfl⟩) hS (fun q _ h => hFc q h) hFc (fun r_349 u t H1 locs ht hvm hw hB hz1 hk1 hS => ?_)
      obtain ⟨hP1, hK1, hD1⟩ := hB
      rw [ht] at hP1
      obtain ⟨hP, hD⟩ := va_join (wr := [(h0, .inr (7, [.ref tp, .int h0_length, .int h0_place, .int h0_fault])), (tp, .inl (ktp, 400, .inl gtp))]) (w1 := []) hP hD [] [0, 1] rfl rfl (by decide) (by decide) hk1 hFc hP1 hD1
      generalize H1 = H at hP hS ⊢
      have hP : va_P (dC, dI) classes [(h0, .inr (7, [.ref tp, .int h0_length, .int h0_place, .int h0_fault])), (tp, .inl (ktp, 400, .inl gtp))] H := hP
      have hD : va_D A [(h0, .inr (7, [.ref tp, .int h0_length, .int h0_place, .int h0_fault])), (tp, .inl (ktp, 400, .inl gtp))] := hD
      refine lv_istore (lv' := [(6, .int r_349), (5, .int y_198), (4, .int y_199), (3, .int y_200), (2, .int y_201), (0, .ref h0), (1, .ref (kA 0))]) hx hb dX7_wordAmong_25 hl (by decide) rfl (fun ls hl => ?_)
      refine lv_iload hx hb dX7_wordAmong_27 (lv_at hl 0 rfl) ?_
      refine lv_bipush (v := 32) hx hb dX7_wordAmong_29 (by decide) ?_
      refine W.cut (I := fun H locs g => ∃ (y_363 : Int32) (y_364 : Int32) (y_365 : Int32) (ls : Array Slot), va_P (dC, dI) classes [(h0, .inr (7, [.ref tp, .int h0_length, .int h0_place, .int h0_fault])), (tp, .inl (ktp, 400, .inl gtp))] H ∧ va_D A [(h0, .inr (7, [.ref tp, .int h0_length, .int h0_place, .int h0_fault])), (tp, .inl (ktp, 400, .inl gtp))] ∧ va_S A s.heap H locs ∧ lv_has ls 7 [(4, .int y_363), (3, .int y_364), (2, .int y_365), (5, .int y_198), (0, .ref h0), (1, .ref (kA 0))] ∧ g = F0 m 98 ls []) (fun H locs g h => ?_) (fun hJ98 => ?_)
      · obtain ⟨y_363, y_364, y_365, ls, hP, hD, hS, hl, rfl⟩ := h
        obtain ⟨y_367, ey_367⟩ : ∃ y : Int32, y = y_198 + 1 := ⟨_, rfl⟩
        refine lv_iinc (v := y_367) (lv' := [(5, .int y_367), (4, .int y_363), (3, .int y_364), (2, .int y_365), (0, .ref h0), (1, .ref (kA 0))]) hx hb dX7_wordAmong_98 hl (k := 3) rfl (by rw [ey_367]; rfl) (by decide) rfl (fun ls hl => ?_)
        refine lv_goto (tgt := 10) hx hb dX7_wordAmong_101 (by decide) ?_
        have b_368 : bt 1 24 y_367 := bt_add ey_367 b_348 (bt_k (x := 1) (c := 1) (by decide)) (by decide)
        exact ih10 _ _ _ ⟨y_367, y_363, y_364, y_365, _, (bt_w b_368 (by decide)), (ms_s ey_367 b_348 hm10 (by decide)), hP, hD, hS, hl, rfl⟩
      refine lv_icmp_eq (tgt := 67) hx hb dX7_wordAmong_31 (by decide) (fun c_369 => ?_) (fun c_369 => ?_)
      · refine lv_iload hx hb dX7_wordAmong_67 (lv_at hl 2 rfl) ?_
        refine W.cut (I := fun H locs g => ∃ (ls : Array Slot), va_P (dC, dI) classes [(h0, .inr (7, [.ref tp, .int h0_length, .int h0_place, .int h0_fault])), (tp, .inl (ktp, 400, .inl gtp))] H ∧ va_D A [(h0, .inr (7, [.ref tp, .int h0_length, .int h0_place, .int h0_fault])), (tp, .inl (ktp, 400, .inl gtp))] ∧ va_S A s.heap H locs ∧ lv_has ls 7 [(5, .int y_198), (2, .int y_201), (0, .ref h0), (1, .ref (kA 0))] ∧ g = F0 m 90 ls []) (fun H locs g h => ?_) (fun hJ90 => ?_)
        · obtain ⟨ls, hP, hD, hS, hl, rfl⟩ := h
          obtain ⟨y_376, ey_376⟩ : ∃ y : Int32, y = y_201 + 1 := ⟨_, rfl⟩
          refine lv_iinc (v := y_376) (lv' := [(2, .int y_376), (5, .int y_198), (0, .ref h0), (1, .ref (kA 0))]) hx hb dX7_wordAmong_90 hl (k := 1) rfl (by rw [ey_376]; rfl) (by decide) rfl (fun ls hl => ?_)
          refine lv_iconst (v := 0) hx hb dX7_wordAmong_93 (by decide) ?_
          refine lv_istore_n (lv' := [(3, .int 0), (2, .int y_376), (5, .int y_198), (0, .ref h0), (1, .ref (kA 0))]) hx hb dX7_wordAmong_94 rfl hl (by decide) rfl (fun ls hl => ?_)
          refine lv_iconst (v := 1) hx hb dX7_wordAmong_95 (by decide) ?_
          refine lv_istore (lv' := [(4, .int 1), (3, .int 0), (2, .int y_376), (5, .int y_198), (0, .ref h0), (1, .ref (kA 0))]) hx hb dX7_wordAmong_96 hl (by decide) rfl (fun ls hl => ?_)
          exact hJ98 _ _ _ ⟨1, 0, y_376, _, hP, hD, hS, hl, rfl⟩
        refine lv_if_eq (tgt := 90) hx hb dX7_wordAmong_69 (by decide) (fun c_377 => ?_) (fun c_377 => ?_)
        · exact hJ90 _ _ _ ⟨_, hP, hD, hS, (lv_sub hl [1, 4, 5, 6] rfl), rfl⟩
        · refine lv_aload_n hx hb dX7_wordAmong_72 rfl (lv_at hl 5 rfl) ?_
          refine lv_aload_n hx hb dX7_wordAmong_73 rfl (lv_at hl 5 rfl) ?_
          refine va_get (D := (dC, dI)) (ci := 7) (v := .int h0_place) (C := RX7) (T := TX7) (N := 4) hx hb hq inX7 hown hK hP 0 rfl rfl 2 (by decide) (hq _ qw_161) (fun _ h9 => h9) rfl dX7_wordAmong_74 ?_
          refine lv_iload_n hx hb dX7_wordAmong_77 rfl (lv_at hl 3 rfl) ?_
          refine lv_iadd hx hb dX7_wordAmong_78 ?_
          refine lv_topi (fun y_378 ey_378 => ?_)
          have hPc := hP.sub (ws' := [(h0, .inr (7, [.ref tp, .int h0_length, .int h0_place, .int h0_fault])), (tp, .inl (ktp, 400, .inl gtp))]) [0, 1] rfl
          have hDc := hD.sub (ws' := [(h0, .inr (7, [.ref tp, .int h0_length, .int h0_place, .int h0_fault])), (tp, .inl (ktp, 400, .inl gtp))]) [0, 1] (by decide) rfl
          have hKc := hK.sub (tys' := [(ktp, .int)]) [0] rfl
          have hFc := va_free (wc := [(h0, .inr (7, [.ref tp, .int h0_length, .int h0_place, .int h0_fault])), (tp, .inl (ktp, 400, .inl gtp))]) hD hS hA [0, 1] rfl
          refine va_calli (va_runV (As := [.int y_378]) (rest := []) ⟨hx, hb, hml, hown, hq⟩ (rd_byteAt l dC dI _ h0 tp h0_length h0_place h0_fault ktp gtp y_378 ) (cwV 1 hq (gV qw_542 qw_544 qw_1 qw_121 qw_545) rfl rfl rfl (by decide +kernel) ⟨Nat.le_of_ble_eq_true rfl, Nat.le_of_ble_eq_true rfl⟩) ⟨fun a U g mk q => by obtain ⟨q0, q1, qP, qK, qD, qE⟩ := q; exact ⟨q0, q1, qP, va_K.moved (u := U) (U := U.calling g mk a) (Vm.Alike.refl U.vm) qK, qD, xE.same rfl qE⟩, va_recv hKc hPc (ci := 7) (q0 := 0) rfl rfl, fun U hU hW => ⟨rfl, by rw [hU], by rw [hU]; exact hPc, va_K.moved hW.alike hKc, hDc.weaken (fun _ _ _ _ => trivial), xE.warm hW hE⟩⟩ rfl rfl hl.1 rfl (lv_room (Nat.le_of_ble_eq_true rfl)) dX7_wordAmong_79 ⟨Nat.le_of_ble_eq_true rfl, Nat.le_of_ble_eq_true rfl⟩) hS (fun q _ h => hFc q h) hFc (fun r_379 u t H1 locs ht hvm hw hB hz1 hk1 hS => ?_)
          obtain ⟨hP1, hK1, hD1⟩ := hB
          rw [ht] at hP1
          obtain ⟨hP, hD⟩ := va_join (wr := []) (w1 := [(h0, .inr (7, [.ref tp, .int h0_length, .int h0_place, .int h0_fault])), (tp, .inl (ktp, 400, .inl gtp))]) hP hD [0, 1] [] rfl rfl (by decide) (by decide) hk1 hFc hP1 hD1
          generalize H1 = H at hP hS ⊢
          have hP : va_P (dC, dI) classes [(h0, .inr (7, [.ref tp, .int h0_length, .int h0_place, .int h0_fault])), (tp, .inl (ktp, 400, .inl gtp))] H := hP
          have hD : va_D A [(h0, .inr (7, [.ref tp, .int h0_length, .int h0_place, .int h0_fault])), (tp, .inl (ktp, 400, .inl gtp))] := hD
          have hPc := hP.sub (ws' := []) [] rfl
          have hDc := hD.sub (ws' := []) [] (by decide) rfl
          have hKc := hK.sub (tys' := []) [] rfl
          have hFc := va_free (wc := []) hD hS hA [] rfl
          refine va_calli (va_runS (As := [.int r_379]) (rest := []) ⟨hx, hb, hml, hown, hq⟩ (rd_isLetter l dC dI _ r_379 ) (cwS 1 hq (gS qw_599 qw_600 qw_121 qw_601) rfl rfl rfl (by decide +kernel) ⟨Nat.le_of_ble_eq_true rfl, Nat.le_of_ble_eq_true rfl⟩) ⟨fun a U g mk q => by obtain ⟨q0, q1, qP, qK, qD, qE⟩ := q; exact ⟨q0, q1, qP, va_K.moved (u := U) (U := U.calling g mk a) (Vm.Alike.refl U.vm) qK, qD, xE.same rfl qE⟩, fun U hU hW => ⟨rfl, by rw [hU], by rw [hU]; exact hPc, va_K.moved hW.alike hKc, hDc.weaken (fun _ _ _ _ => trivial), xE.warm hW hE⟩⟩ rfl rfl hl.1 rfl (lv_room (Nat.le_of_ble_eq_true rfl)) dX7_wordAmong_82 ⟨Nat.le_of_ble_eq_true rfl, Nat.le_of_ble_eq_true rfl⟩) hS (fun q _ h => hFc q h) hFc (fun r_380 u t H1 locs ht hvm hw hB hz1 hk1 hS => ?_)
          obtain ⟨hP1, hK1, hD1⟩ := hB
          rw [ht] at hP1
          obtain ⟨hP, hD⟩ := va_join (wr := [(h0, .inr (7, [.ref tp, .int h0_length, .int h0_place, .int h0_fault])), (tp, .inl (ktp, 400, .inl gtp))]) (w1 := []) hP hD [] [0, 1] rfl rfl (by decide) (by decide) hk1 hFc hP1 hD1
          generalize H1 = H at hP hS ⊢
          have hP : va_P (dC, dI) classes [(h0, .inr (7, [.ref tp, .int h0_length, .int h0_place, .int h0_fault])), (tp, .inl (ktp, 400, .inl gtp))] H := hP
          have hD : va_D A [(h0, .inr (7, [.ref tp, .int h0_length, .int h0_place, .int h0_fault])), (tp, .inl (ktp, 400, .inl gtp))] := hD
          refine lv_if_ne (tgt := 90) hx hb dX7_wordAmong_85 (by decide) (fun c_381 => ?_) (fun c_381 => ?_)
          · exact hJ90 _ _ _ ⟨_, hP, hD, hS, (lv_sub hl [1, 4, 5, 6] rfl), rfl⟩
          · refine lv_iload_n hx hb dX7_wordAmong_88 rfl (lv_at hl 4 rfl) ?_
            refine W.widen (k := 0) (n := 0) (Nat.le_of_ble_eq_true rfl) (Nat.le_of_ble_eq_true rfl) ?_
            exact W.iret (v := y_201) hx hb hr (fun t ht hW => ⟨⟨y_201, (), rfl, trivial, by rw [ht]; exact hP, va_K.moved hW.alike hK, hD⟩, hS.F ht⟩) hS.2.2 dX7_wordAmong_89
      · refine lv_iload hx hb dX7_wordAmong_34 (lv_at hl 2 rfl) ?_
        refine W.cut (I := fun H locs g => ∃ (y_386 : Int32) (ls : Array Slot), va_P (dC, dI) classes [(h0, .inr (7, [.ref tp, .int h0_length, .int h0_place, .int h0_fault])), (tp, .inl (ktp, 400, .inl gtp))] H ∧ va_D A [(h0, .inr (7, [.ref tp, .int h0_length, .int h0_place, .int h0_fault])), (tp, .inl (ktp, 400, .inl gtp))] ∧ va_S A s.heap H locs ∧ lv_has ls 7 [(5, .int y_198), (3, .int y_200), (2, .int y_201), (0, .ref h0), (1, .ref (kA 0))] ∧ g = F0 m 59 ls [.int y_386]) (fun H locs g h => ?_) (fun hJ59 => ?_)
        · obtain ⟨y_386, ls, hP, hD, hS, hl, rfl⟩ := h
          refine lv_istore (lv' := [(4, .int y_386), (5, .int y_198), (3, .int y_200), (2, .int y_201), (0, .ref h0), (1, .ref (kA 0))]) hx hb dX7_wordAmong_59 hl (by decide) rfl (fun ls hl => ?_)
          obtain ⟨y_388, ey_388⟩ : ∃ y : Int32, y = y_200 + 1 := ⟨_, rfl⟩
          refine lv_iinc (v := y_388) (lv' := [(3, .int y_388), (4, .int y_386), (5, .int y_198), (2, .int y_201), (0, .ref h0), (1, .ref (kA 0))]) hx hb dX7_wordAmong_61 hl (k := 2) rfl (by rw [ey_388]; rfl) (by decide) rfl (fun ls hl => ?_)
          refine lv_goto (tgt := 98) hx hb dX7_wordAmong_64 (by decide) ?_
          exact hJ98 _ _ _ ⟨y_386, y_388, y_201, _, hP, hD, hS, (lv_sub hl [1, 0, 3, 2, 4, 5] rfl), rfl⟩
        refine W.cut (I := fun H locs g => ∃ (ls : Array Slot), va_P (dC, dI) classes [(h0, .inr (7, [.ref tp, .int h0_length, .int h0_place, .int h0_fault])), (tp, .inl (ktp, 400, .inl gtp))] H ∧ va_D A [(h0, .inr (7, [.ref tp, .int h0_length, .int h0_place, .int h0_fault])), (tp, .inl (ktp, 400, .inl gtp))] ∧ va_S A s.heap H locs ∧ lv_has ls 7 [(5, .int y_198), (3, .int y_200), (2, .int y_201), (0, .ref h0), (1, .ref (kA 0))] ∧ g = F0 m 58 ls []) (fun H locs g h => ?_) (fun hJ58 => ?_)
        · obtain ⟨ls, hP, hD, hS, hl, rfl⟩ := h
          refine lv_iconst (v := 0) hx hb dX7_wordAmong_58 (by decide) ?_
          exact hJ59 _ _ _ ⟨0, _, hP, hD, hS, hl, rfl⟩
        refine lv_if_eq (tgt := 58) hx hb dX7_wordAmong_36 (by decide) (fun c_389 => ?_) (fun c_389 => ?_)
        · exact hJ58 _ _ _ ⟨_, hP, hD, hS, (lv_sub hl [1, 3, 4, 5, 6] rfl), rfl⟩
        · refine lv_aload_n hx hb dX7_wordAmong_39 rfl (lv_at hl 5 rfl) ?_
          refine lv_aload_n hx hb dX7_wordAmong_40 rfl (lv_at hl 5 rfl) ?_
          refine va_get (D := (dC, dI)) (ci := 7) (v := .int h0_place) (C := RX7) (T := TX7) (N := 4) hx hb hq inX7 hown hK hP 0 rfl rfl 2 (by decide) (hq _ qw_161) (fun _ h9 => h9) rfl dX7_wordAmong_41 ?_
          refine lv_iload_n hx hb dX7_wordAmong_44 rfl (lv_at hl 3 rfl) ?_
          refine lv_iadd hx hb dX7_wordAmong_45 ?_
          refine lv_topi (fun y_390 ey_390 => ?_)
          have hPc := hP.sub (ws' := [(h0, .inr (7, [.ref tp, .int h0_length, .int h0_place, .int h0_fault])), (tp, .inl (ktp, 400, .inl gtp))]) [0, 1] rfl
          have hDc := hD.sub (ws' := [(h0, .inr (7, [.ref tp, .int h0_length, .int h0_place, .int h0_fault])), (tp, .inl (ktp, 400, .inl gtp))]) [0, 1] (by decide) rfl
          have hKc := hK.sub (tys' := [(ktp, .int)]) [0] rfl
          have hFc := va_free (wc := [(h0, .inr (7, [.ref tp, .int h0_length, .int h0_place, .int h0_fault])), (tp, .inl (ktp, 400, .inl gtp))]) hD hS hA [0, 1] rfl
          refine va_calli (va_runV (As := [.int y_390]) (rest := []) ⟨hx, hb, hml, hown, hq⟩ (rd_byteAt l dC dI _ h0 tp h0_length h0_place h0_fault ktp gtp y_390 ) (cwV 1 hq (gV qw_542 qw_544 qw_1 qw_121 qw_545) rfl rfl rfl (by decide +kernel) ⟨Nat.le_of_ble_eq_true rfl, Nat.le_of_ble_eq_true rfl⟩) ⟨fun a U g mk q => by obtain ⟨q0, q1, qP, qK, qD, qE⟩ := q; exact ⟨q0, q1, qP, va_K.moved (u := U) (U := U.calling g mk a) (Vm.Alike.refl U.vm) qK, qD, xE.same rfl qE⟩, va_recv hKc hPc (ci := 7) (q0 := 0) rfl rfl, fun U hU hW => ⟨rfl, by rw [hU], by rw [hU]; exact hPc, va_K.moved hW.alike hKc, hDc.weaken (fun _ _ _ _ => trivial), xE.warm hW hE⟩⟩ rfl rfl hl.1 rfl (lv_room (Nat.le_of_ble_eq_true rfl)) dX7_wordAmong_46 ⟨Nat.le_of_ble_eq_true rfl, Nat.le_of_ble_eq_true rfl⟩) hS (fun q _ h => hFc q h) hFc (fun r_391 u t H1 locs ht hvm hw hB hz1 hk1 hS => ?_)
          obtain ⟨hP1, hK1, hD1⟩ := hB
          rw [ht] at hP1
          obtain ⟨hP, hD⟩ := va_join (wr := []) (w1 := [(h0, .inr (7, [.ref tp, .int h0_length, .int h0_place, .int h0_fault])), (tp, .inl (ktp, 400, .inl gtp))]) hP hD [0, 1] [] rfl rfl (by decide) (by decide) hk1 hFc hP1 hD1
          generalize H1 = H at hP hS ⊢
          have hP : va_P (dC, dI) classes [(h0, .inr (7, [.ref tp, .int h0_length, .int h0_place, .int h0_fault])), (tp, .inl (ktp, 400, .inl gtp))] H := hP
          have hD : va_D A [(h0, .inr (7, [.ref tp, .int h0_length, .int h0_place, .int h0_fault])), (tp, .inl (ktp, 400, .inl gtp))] := hD
          refine lv_iload hx hb dX7_wordAmong_49 (lv_at hl 0 rfl) ?_
          refine lv_icmp_ne (tgt := 58) hx hb dX7_wordAmong_51 (by decide) (fun c_392 => ?_) (fun c_392 => ?_)
          · exact hJ58 _ _ _ ⟨_, hP, hD, hS, (lv_sub hl [1, 3, 4, 5, 6] rfl), rfl⟩
          · refine lv_iconst (v := 1) hx hb dX7_wordAmong_54 (by decide) ?_
            refine lv_goto (tgt := 59) hx hb dX7_wordAmong_55 (by decide) ?_
            exact hJ59 _ _ _ ⟨1, _, hP, hD, hS, (lv_sub hl [1, 3, 4, 5, 6] rfl), rfl⟩

set_option maxHeartbeats 4000000 in
set_option maxRecDepth 100000 in
/-- rd_word_1 -/
theorem rd_word_1 (l : Launch) (dC : Nat → ClassId) (dI : Nat → Nat → Nat) (sz : Nat) (kA vA : Nat → Nat) (h0 : Nat) (tp : Nat) (h0_length : Int32) (h0_place : Int32) (h0_fault : Int32) (ktp : ClassId) (gtp : Nat → Int32) : Met l yX7_wordAmong (.code yX7_wordAmong cX7_wordAmong 7 (some .int) :: wsA) ({ frames := 4, cells := 0, slots := 0, locals := 85 }) (va_Pc [.ref h0, .ref (kA 1)] (fun U => U.heap.size = sz ∧ va_P (dC, dI) classes [(h0, .inr (7, [.ref tp, .int h0_length, .int h0_place, .int h0_fault])), (tp, .inl (ktp, 400, .inl gtp))] U.heap ∧ va_K (dC, dI) classes [(ktp, .int)] U ∧ va_D (fun _ => True) [(h0, .inr (7, [.ref tp, .int h0_length, .int h0_place, .int h0_fault])), (tp, .inl (ktp, 400, .inl gtp))] ∧ xE U ∧ xT kA vA (va_A [(h0, .inr (7, [.ref tp, .int h0_length, .int h0_place, .int h0_fault])), (tp, .inl (ktp, 400, .inl gtp))] sz) U U.heap)) (va_Qi (fun (r : Int32) (_ : Unit) => True) (fun _ t => va_P (dC, dI) classes [(h0, .inr (7, [.ref tp, .int h0_length, .int h0_place, .int h0_fault])), (tp, .inl (ktp, 400, .inl gtp))] t.heap ∧ va_K (dC, dI) classes [(ktp, .int)] t ∧ va_D (va_A [(h0, .inr (7, [.ref tp, .int h0_length, .int h0_place, .int h0_fault])), (tp, .inl (ktp, 400, .inl gtp))] sz) [(h0, .inr (7, [.ref tp, .int h0_length, .int h0_place, .int h0_fault])), (tp, .inl (ktp, 400, .inl gtp))]) (va_A [(h0, .inr (7, [.ref tp, .int h0_length, .int h0_place, .int h0_fault])), (tp, .inl (ktp, 400, .inl gtp))] sz)) 0 0 (va_A [(h0, .inr (7, [.ref tp, .int h0_length, .int h0_place, .int h0_fault])), (tp, .inl (ktp, 400, .inl gtp))] sz) := by
  refine Met.ofW (cc := cX7_wordAmong) (maxL := 7) (ret := (some .int)) (by decide) rfl ?_
  intro p e s m args below meth c s₁ B hml hv
  obtain ⟨rfl, hsz, hP, hK, hD0, hE, hT⟩ := hv
  have hx := B.exec
  have hb := B.bytes
  have hr := B.returns
  have hts := atoms_spec (ws := .code yX7_wordAmong cX7_wordAmong 7 (some .int) :: wsA) B.pre
  have hq : ∀ w ∈ wsA, w.before _ s = true := fun w h => hts w (List.mem_cons_of_mem _ h)
  have hown : s.vm.findClass RX7 = some m.cls := findClass_of_methodNamed B.named
  have hlocks := B.notSynchronized
  subst hsz
  have hD := hD0.self (sz := s.heap.size)
  generalize hAe : va_A [(h0, .inr (7, [.ref tp, .int h0_length, .int h0_place, .int h0_fault])), (tp, .inl (ktp, 400, .inl gtp))] s.heap.size = A at hD hT ⊢
  have hA : ∀ q : Nat, s.heap.size ≤ q → A q := fun q h => by rw [← hAe]; exact Or.inr h
  have hS : va_S A s.heap s.heap [] := va_S.rf
  have hl := lv_entry ([.ref h0, .ref (kA 1)]) (n := 7) (Nat.le_of_ble_eq_true rfl)
  rw [lg_entry_eq]
  generalize (lg_sl ([.ref h0, .ref (kA 1)]) ++ List.replicate (7 - (lg_sl ([.ref h0, .ref (kA 1)])).length) Slot.unset).toArray = ls at hl ⊢
  have hl : lv_has ls 7 [(0, .ref h0), (1, .ref (kA 1))] := hl
  refine lv_iconst (v := 0) hx hb dX7_wordAmong_0 (by decide) ?_
  refine lv_istore_n (lv' := [(2, .int 0), (0, .ref h0), (1, .ref (kA 1))]) hx hb dX7_wordAmong_1 rfl hl (by decide) rfl (fun ls hl => ?_)
  refine lv_iconst (v := 0) hx hb dX7_wordAmong_2 (by decide) ?_
  refine lv_istore_n (lv' := [(3, .int 0), (2, .int 0), (0, .ref h0), (1, .ref (kA 1))]) hx hb dX7_wordAmong_3 rfl hl (by decide) rfl (fun ls hl => ?_)
  refine lv_iconst (v := 1) hx hb dX7_wordAmong_4 (by decide) ?_
  refine lv_istore (lv' := [(4, .int 1), (3, .int 0), (2, .int 0), (0, .ref h0), (1, .ref (kA 1))]) hx hb dX7_wordAmong_5 hl (by decide) rfl (fun ls hl => ?_)
  refine lv_iconst (v := 0) hx hb dX7_wordAmong_7 (by decide) ?_
  refine lv_istore (lv' := [(5, .int 0), (4, .int 1), (3, .int 0), (2, .int 0), (0, .ref h0), (1, .ref (kA 1))]) hx hb dX7_wordAmong_8 hl (by decide) rfl (fun ls hl => ?_)
  refine W.loop (I := fun n H locs g => ∃ (y_198 : Int32) (y_199 : Int32) (y_200 : Int32) (y_201 : Int32) (ls : Array Slot), bt 0 4 y_198 ∧ 4 - y_198.toInt < (n : Int) ∧ va_P (dC, dI) classes [(h0, .inr (7, [.ref tp, .int h0_length, .int h0_place, .int h0_fault])), (tp, .inl (ktp, 400, .inl gtp))] H ∧ va_D A [(h0, .inr (7, [.ref tp, .int h0_length, .int h0_place, .int h0_fault])), (tp, .inl (ktp, 400, .inl gtp))] ∧ va_S A s.heap H locs ∧ lv_has ls 7 [(5, .int y_198), (4, .int y_199), (3, .int y_200), (2, .int y_201), (0, .ref h0), (1, .ref (kA 1))] ∧ g = F0 m 10 ls []) (fun H locs g h => ?_) (fun n ih10 H locs g h => ?_) (n := 5) ⟨0, 1, 0, 0, _, (bt_w (bt_k (x := 0) (c := 0) (by decide)) (by decide)), (ms_0 (bt_k (x := 0) (c := 0) (by decide)) (by decide)), hP, hD, hS, hl, rfl⟩
  · obtain ⟨y_198, y_199, y_200, y_201, ls, bd_v_5, hm, hP, hD, hS, hl, rfl⟩ := h
    exact ms_z bd_v_5 hm
  · obtain ⟨y_198, y_199, y_200, y_201, ls, bd_v_5, hm10, hP, hD, hS, hl, rfl⟩ := h
    refine lv_iload hx hb dX7_wordAmong_10 (lv_at hl 0 rfl) ?_
    refine lv_aload_n hx hb dX7_wordAmong_12 rfl (lv_at hl 5 rfl) ?_
    have hPc := hP.sub (ws' := []) [] rfl
    have hDc := hD.sub (ws' := []) [] (by decide) rfl
    have hKc := hK.sub (tys' := []) [] rfl
    have hFc := va_free (wc := []) hD hS hA [] rfl
    refine va_calli (va_runV (As := []) (rest := [.int y_198]) ⟨hx, hb, hml, hown, hq⟩ (j_length_1 l dC dI _ kA vA  ) (cwV 0 hq (gV qw_551 qw_552 qw_553 qw_133 qw_554) rfl rfl rfl (by decide +kernel) ⟨Nat.le_of_ble_eq_true rfl, Nat.le_of_ble_eq_true rfl⟩) ⟨fun a U g mk q => by obtain ⟨q0, q1, qP, qK, qD, qE, qT⟩ := q; exact ⟨q0, q1, qP, va_K.moved (u := U) (U := U.calling g mk a) (Vm.Alike.refl U.vm) qK, qD, xE.same rfl qE, xT.same rfl qT⟩, xT_recv hT hS (i := 1) (by decide), fun U hU hW => ⟨rfl, by rw [hU], by rw [hU]; exact hPc, va_K.moved hW.alike hKc, hDc.weaken (fun _ _ _ _ => trivial), xE.warm hW hE, by rw [hU]; exact xT.call hW hT hS hFc⟩⟩ rfl rfl hl.1 rfl (lv_room (Nat.le_of_ble_eq_true rfl)) dX7_wordAmong_13 ⟨Nat.le_of_ble_eq_true rfl, Nat.le_of_ble_eq_true rfl⟩) hS (fun q _ h => hFc q h) hFc (fun r_346 u t H1 locs ht hvm hw hB hz1 hk1 hS => ?_)
    obtain ⟨hP1, hK1, hD1⟩ := hB
    rw [ht] at hP1
    obtain ⟨hP, hD⟩ := va_join (wr := [(h0, .inr (7, [.ref tp, .int h0_length, .int h0_place, .int h0_fault])), (tp, .inl (ktp, 400, .inl gtp))]) (w1 := []) hP hD [] [0, 1] rfl rfl (by decide) (by decide) hk1 hFc hP1 hD1
    generalize H1 = H at hP hS ⊢
    have hP : va_P (dC, dI) classes [(h0, .inr (7, [.ref tp, .int h0_length, .int h0_place, .int h0_fault])), (tp, .inl (ktp, 400, .inl gtp))] H := hP
    have hD : va_D A [(h0, .inr (7, [.ref tp, .int h0_length, .int h0_place, .int h0_fault])), (tp, .inl (ktp, 400, .inl gtp))] := hD
    obtain rfl : r_346 = 4 := hw
    refine lv_icmp_ge (tgt := 104) hx hb dX7_wordAmong_16 (by decide) (fun c_347 => ?_) (fun c_347 => ?_)
    · refine lv_iconst (v := (-1)) hx hb dX7_wordAmong_104 (by decide) ?_
      refine W.widen (k := 0) (n := 0) (Nat.le_of_ble_eq_true rfl) (Nat.le_of_ble_eq_true rfl) ?_
      exact W.iret (v := (-1)) hx hb hr (fun t ht hW => ⟨⟨(-1), (), rfl, trivial, by rw [ht]; exact hP, va_K.moved hW.alike hK, hD⟩, hS.F ht⟩) hS.2.2 dX7_wordAmong_105
    · refine lv_aload_n hx hb dX7_wordAmong_19 rfl (lv_at hl 5 rfl) ?_
      refine lv_iload hx hb dX7_wordAmong_20 (lv_at hl 0 rfl) ?_
      have b_348 : bt 0 3 y_198 := rf_lt_l bd_v_5 (bt_k (x := 4) (c := 4) (by decide)) (Int32.not_le.mp c_347) (by decide)
      have hPc := hP.sub (ws' := []) [] rfl
      have hDc := hD.sub (ws' := []) [] (by decide) rfl
      have hKc := hK.sub (tys' := []) [] rfl
      have hFc := va_free (wc := []) hD hS hA [] rfl
      refine va_calli (va_runV (As := [.int y_198]) (rest := []) ⟨hx, hb, hml, hown, hq⟩ (j_charAt_1 l dC dI _ kA vA y_198 b_348) (cwV 1 hq (gV qw_561 qw_562 qw_563 qw_133 qw_564) rfl rfl rfl (by decide +kernel) ⟨Nat.le_of_ble_eq_true rfl, Nat.le_of_ble_eq_true rfl⟩) ⟨fun a U g mk q => by obtain ⟨q0, q1, qP, qK, qD, qE, qT⟩ := q; exact ⟨q0, q1, qP, va_K.moved (u := U) (U := U.calling g mk a) (Vm.Alike.refl U.vm) qK, qD, xE.same rfl qE, xT.same rfl qT⟩, xT_recv hT hS (i := 1) (by decide), fun U hU hW => ⟨rfl, by rw [hU], by rw [hU]; exact hPc, va_K.moved hW.alike hKc, hDc.weaken (fun _ _ _ _ => trivial), xE.warm hW hE, by rw [hU]; exact xT.call hW hT hS hFc⟩⟩ rfl rfl hl.1 rfl (lv_room (Nat.le_of_ble_eq_true rfl)) dX7_wordAmong_22 ⟨Nat.le_of_ble_eq_true rfl, Nat.le_of_ble_eq_true rfl⟩) hS (fun q _ h => hFc q h) hFc (fun r_349 u t H1 locs ht hvm hw hB hz1 hk1 hS => ?_)
      obtain ⟨hP1, hK1, hD1⟩ := hB
      rw [ht] at hP1
      obtain ⟨hP, hD⟩ := va_join (wr := [(h0, .inr (7, [.ref tp, .int h0_length, .int h0_place, .int h0_fault])), (tp, .inl (ktp, 400, .inl gtp))]) (w1 := []) hP hD [] [0, 1] rfl rfl (by decide) (by decide) hk1 hFc hP1 hD1
      generalize H1 = H at hP hS ⊢
      have hP : va_P (dC, dI) classes [(h0, .inr (7, [.ref tp, .int h0_length, .int h0_place, .int h0_fault])), (tp, .inl (ktp, 400, .inl gtp))] H := hP
      have hD : va_D A [(h0, .inr (7, [.ref tp, .int h0_length, .int h0_place, .int h0_fault])), (tp, .inl (ktp, 400, .inl gtp))] := hD
      refine lv_istore (lv' := [(6, .int r_349), (5, .int y_198), (4, .int y_199), (3, .int y_200), (2, .int y_201), (0, .ref h0), (1, .ref (kA 1))]) hx hb dX7_wordAmong_25 hl (by decide) rfl (fun ls hl => ?_)
      refine lv_iload hx hb dX7_wordAmong_27 (lv_at hl 0 rfl) ?_
      refine lv_bipush (v := 32) hx hb dX7_wordAmong_29 (by decide) ?_
      refine W.cut (I := fun H locs g => ∃ (y_363 : Int32) (y_364 : Int32) (y_365 : Int32) (ls : Array Slot), va_P (dC, dI) classes [(h0, .inr (7, [.ref tp, .int h0_length, .int h0_place, .int h0_fault])), (tp, .inl (ktp, 400, .inl gtp))] H ∧ va_D A [(h0, .inr (7, [.ref tp, .int h0_length, .int h0_place, .int h0_fault])), (tp, .inl (ktp, 400, .inl gtp))] ∧ va_S A s.heap H locs ∧ lv_has ls 7 [(4, .int y_363), (3, .int y_364), (2, .int y_365), (5, .int y_198), (0, .ref h0), (1, .ref (kA 1))] ∧ g = F0 m 98 ls []) (fun H locs g h => ?_) (fun hJ98 => ?_)
      · obtain ⟨y_363, y_364, y_365, ls, hP, hD, hS, hl, rfl⟩ := h
        obtain ⟨y_367, ey_367⟩ : ∃ y : Int32, y = y_198 + 1 := ⟨_, rfl⟩
        refine lv_iinc (v := y_367) (lv' := [(5, .int y_367), (4, .int y_363), (3, .int y_364), (2, .int y_365), (0, .ref h0), (1, .ref (kA 1))]) hx hb dX7_wordAmong_98 hl (k := 3) rfl (by rw [ey_367]; rfl) (by decide) rfl (fun ls hl => ?_)
        refine lv_goto (tgt := 10) hx hb dX7_wordAmong_101 (by decide) ?_
        have b_368 : bt 1 4 y_367 := bt_add ey_367 b_348 (bt_k (x := 1) (c := 1) (by decide)) (by decide)
        exact ih10 _ _ _ ⟨y_367, y_363, y_364, y_365, _, (bt_w b_368 (by decide)), (ms_s ey_367 b_348 hm10 (by decide)), hP, hD, hS, hl, rfl⟩
      refine lv_icmp_eq (tgt := 67) hx hb dX7_wordAmong_31 (by decide) (fun c_369 => ?_) (fun c_369 => ?_)
      · refine lv_iload hx hb dX7_wordAmong_67 (lv_at hl 2 rfl) ?_
        refine W.cut (I := fun H locs g => ∃ (ls : Array Slot), va_P (dC, dI) classes [(h0, .inr (7, [.ref tp, .int h0_length, .int h0_place, .int h0_fault])), (tp, .inl (ktp, 400, .inl gtp))] H ∧ va_D A [(h0, .inr (7, [.ref tp, .int h0_length, .int h0_place, .int h0_fault])), (tp, .inl (ktp, 400, .inl gtp))] ∧ va_S A s.heap H locs ∧ lv_has ls 7 [(5, .int y_198), (2, .int y_201), (0, .ref h0), (1, .ref (kA 1))] ∧ g = F0 m 90 ls []) (fun H locs g h => ?_) (fun hJ90 => ?_)
        · obtain ⟨ls, hP, hD, hS, hl, rfl⟩ := h
          obtain ⟨y_376, ey_376⟩ : ∃ y : Int32, y = y_201 + 1 := ⟨_, rfl⟩
          refine lv_iinc (v := y_376) (lv' := [(2, .int y_376), (5, .int y_198), (0, .ref h0), (1, .ref (kA 1))]) hx hb dX7_wordAmong_90 hl (k := 1) rfl (by rw [ey_376]; rfl) (by decide) rfl (fun ls hl => ?_)
          refine lv_iconst (v := 0) hx hb dX7_wordAmong_93 (by decide) ?_
          refine lv_istore_n (lv' := [(3, .int 0), (2, .int y_376), (5, .int y_198), (0, .ref h0), (1, .ref (kA 1))]) hx hb dX7_wordAmong_94 rfl hl (by decide) rfl (fun ls hl => ?_)
          refine lv_iconst (v := 1) hx hb dX7_wordAmong_95 (by decide) ?_
          refine lv_istore (lv' := [(4, .int 1), (3, .int 0), (2, .int y_376), (5, .int y_198), (0, .ref h0), (1, .ref (kA 1))]) hx hb dX7_wordAmong_96 hl (by decide) rfl (fun ls hl => ?_)
          exact hJ98 _ _ _ ⟨1, 0, y_376, _, hP, hD, hS, hl, rfl⟩
        refine lv_if_eq (tgt := 90) hx hb dX7_wordAmong_69 (by decide) (fun c_377 => ?_) (fun c_377 => ?_)
        · exact hJ90 _ _ _ ⟨_, hP, hD, hS, (lv_sub hl [1, 4, 5, 6] rfl), rfl⟩
        · refine lv_aload_n hx hb dX7_wordAmong_72 rfl (lv_at hl 5 rfl) ?_
          refine lv_aload_n hx hb dX7_wordAmong_73 rfl (lv_at hl 5 rfl) ?_
          refine va_get (D := (dC, dI)) (ci := 7) (v := .int h0_place) (C := RX7) (T := TX7) (N := 4) hx hb hq inX7 hown hK hP 0 rfl rfl 2 (by decide) (hq _ qw_161) (fun _ h9 => h9) rfl dX7_wordAmong_74 ?_
          refine lv_iload_n hx hb dX7_wordAmong_77 rfl (lv_at hl 3 rfl) ?_
          refine lv_iadd hx hb dX7_wordAmong_78 ?_
          refine lv_topi (fun y_378 ey_378 => ?_)
          have hPc := hP.sub (ws' := [(h0, .inr (7, [.ref tp, .int h0_length, .int h0_place, .int h0_fault])), (tp, .inl (ktp, 400, .inl gtp))]) [0, 1] rfl
          have hDc := hD.sub (ws' := [(h0, .inr (7, [.ref tp, .int h0_length, .int h0_place, .int h0_fault])), (tp, .inl (ktp, 400, .inl gtp))]) [0, 1] (by decide) rfl
          have hKc := hK.sub (tys' := [(ktp, .int)]) [0] rfl
          have hFc := va_free (wc := [(h0, .inr (7, [.ref tp, .int h0_length, .int h0_place, .int h0_fault])), (tp, .inl (ktp, 400, .inl gtp))]) hD hS hA [0, 1] rfl
          refine va_calli (va_runV (As := [.int y_378]) (rest := []) ⟨hx, hb, hml, hown, hq⟩ (rd_byteAt l dC dI _ h0 tp h0_length h0_place h0_fault ktp gtp y_378 ) (cwV 1 hq (gV qw_542 qw_544 qw_1 qw_121 qw_545) rfl rfl rfl (by decide +kernel) ⟨Nat.le_of_ble_eq_true rfl, Nat.le_of_ble_eq_true rfl⟩) ⟨fun a U g mk q => by obtain ⟨q0, q1, qP, qK, qD, qE⟩ := q; exact ⟨q0, q1, qP, va_K.moved (u := U) (U := U.calling g mk a) (Vm.Alike.refl U.vm) qK, qD, xE.same rfl qE⟩, va_recv hKc hPc (ci := 7) (q0 := 0) rfl rfl, fun U hU hW => ⟨rfl, by rw [hU], by rw [hU]; exact hPc, va_K.moved hW.alike hKc, hDc.weaken (fun _ _ _ _ => trivial), xE.warm hW hE⟩⟩ rfl rfl hl.1 rfl (lv_room (Nat.le_of_ble_eq_true rfl)) dX7_wordAmong_79 ⟨Nat.le_of_ble_eq_true rfl, Nat.le_of_ble_eq_true rfl⟩) hS (fun q _ h => hFc q h) hFc (fun r_379 u t H1 locs ht hvm hw hB hz1 hk1 hS => ?_)
          obtain ⟨hP1, hK1, hD1⟩ := hB
          rw [ht] at hP1
          obtain ⟨hP, hD⟩ := va_join (wr := []) (w1 := [(h0, .inr (7, [.ref tp, .int h0_length, .int h0_place, .int h0_fault])), (tp, .inl (ktp, 400, .inl gtp))]) hP hD [0, 1] [] rfl rfl (by decide) (by decide) hk1 hFc hP1 hD1
          generalize H1 = H at hP hS ⊢
          have hP : va_P (dC, dI) classes [(h0, .inr (7, [.ref tp, .int h0_length, .int h0_place, .int h0_fault])), (tp, .inl (ktp, 400, .inl gtp))] H := hP
          have hD : va_D A [(h0, .inr (7, [.ref tp, .int h0_length, .int h0_place, .int h0_fault])), (tp, .inl (ktp, 400, .inl gtp))] := hD
          have hPc := hP.sub (ws' := []) [] rfl
          have hDc := hD.sub (ws' := []) [] (by decide) rfl
          have hKc := hK.sub (tys' := []) [] rfl
          have hFc := va_free (wc := []) hD hS hA [] rfl
          refine va_calli (va_runS (As := [.int r_379]) (rest := []) ⟨hx, hb, hml, hown, hq⟩ (rd_isLetter l dC dI _ r_379 ) (cwS 1 hq (gS qw_599 qw_600 qw_121 qw_601) rfl rfl rfl (by decide +kernel) ⟨Nat.le_of_ble_eq_true rfl, Nat.le_of_ble_eq_true rfl⟩) ⟨fun a U g mk q => by obtain ⟨q0, q1, qP, qK, qD, qE⟩ := q; exact ⟨q0, q1, qP, va_K.moved (u := U) (U := U.calling g mk a) (Vm.Alike.refl U.vm) qK, qD, xE.same rfl qE⟩, fun U hU hW => ⟨rfl, by rw [hU], by rw [hU]; exact hPc, va_K.moved hW.alike hKc, hDc.weaken (fun _ _ _ _ => trivial), xE.warm hW hE⟩⟩ rfl rfl hl.1 rfl (lv_room (Nat.le_of_ble_eq_true rfl)) dX7_wordAmong_82 ⟨Nat.le_of_ble_eq_true rfl, Nat.le_of_ble_eq_true rfl⟩) hS (fun q _ h => hFc q h) hFc (fun r_380 u t H1 locs ht hvm hw hB hz1 hk1 hS => ?_)
          obtain ⟨hP1, hK1, hD1⟩ := hB
          rw [ht] at hP1
          obtain ⟨hP, hD⟩ := va_join (wr := [(h0, .inr (7, [.ref tp, .int h0_length, .int h0_place, .int h0_fault])), (tp, .inl (ktp, 400, .inl gtp))]) (w1 := []) hP hD [] [0, 1] rfl rfl (by decide) (by decide) hk1 hFc hP1 hD1
          generalize H1 = H at hP hS ⊢
          have hP : va_P (dC, dI) classes [(h0, .inr (7, [.ref tp, .int h0_length, .int h0_place, .int h0_fault])), (tp, .inl (ktp, 400, .inl gtp))] H := hP
          have hD : va_D A [(h0, .inr (7, [.ref tp, .int h0_length, .int h0_place, .int h0_fault])), (tp, .inl (ktp, 400, .inl gtp))] := hD
          refine lv_if_ne (tgt := 90) hx hb dX7_wordAmong_85 (by decide) (fun c_381 => ?_) (fun c_381 => ?_)
          · exact hJ90 _ _ _ ⟨_, hP, hD, hS, (lv_sub hl [1, 4, 5, 6] rfl), rfl⟩
          · refine lv_iload_n hx hb dX7_wordAmong_88 rfl (lv_at hl 4 rfl) ?_
            refine W.widen (k := 0) (n := 0) (Nat.le_of_ble_eq_true rfl) (Nat.le_of_ble_eq_true rfl) ?_
            exact W.iret (v := y_201) hx hb hr (fun t ht hW => ⟨⟨y_201, (), rfl, trivial, by rw [ht]; exact hP, va_K.moved hW.alike hK, hD⟩, hS.F ht⟩) hS.2.2 dX7_wordAmong_89
      · refine lv_iload hx hb dX7_wordAmong_34 (lv_at hl 2 rfl) ?_
        refine W.cut (I := fun H locs g => ∃ (y_386 : Int32) (ls : Array Slot), va_P (dC, dI) classes [(h0, .inr (7, [.ref tp, .int h0_length, .int h0_place, .int h0_fault])), (tp, .inl (ktp, 400, .inl gtp))] H ∧ va_D A [(h0, .inr (7, [.ref tp, .int h0_length, .int h0_place, .int h0_fault])), (tp, .inl (ktp, 400, .inl gtp))] ∧ va_S A s.heap H locs ∧ lv_has ls 7 [(5, .int y_198), (3, .int y_200), (2, .int y_201), (0, .ref h0), (1, .ref (kA 1))] ∧ g = F0 m 59 ls [.int y_386]) (fun H locs g h => ?_) (fun hJ59 => ?_)
        · obtain ⟨y_386, ls, hP, hD, hS, hl, rfl⟩ := h
          refine lv_istore (lv' := [(4, .int y_386), (5, .int y_198), (3, .int y_200), (2, .int y_201), (0, .ref h0), (1, .ref (kA 1))]) hx hb dX7_wordAmong_59 hl (by decide) rfl (fun ls hl => ?_)
          obtain ⟨y_388, ey_388⟩ : ∃ y : Int32, y = y_200 + 1 := ⟨_, rfl⟩
          refine lv_iinc (v := y_388) (lv' := [(3, .int y_388), (4, .int y_386), (5, .int y_198), (2, .int y_201), (0, .ref h0), (1, .ref (kA 1))]) hx hb dX7_wordAmong_61 hl (k := 2) rfl (by rw [ey_388]; rfl) (by decide) rfl (fun ls hl => ?_)
          refine lv_goto (tgt := 98) hx hb dX7_wordAmong_64 (by decide) ?_
          exact hJ98 _ _ _ ⟨y_386, y_388, y_201, _, hP, hD, hS, (lv_sub hl [1, 0, 3, 2, 4, 5] rfl), rfl⟩
        refine W.cut (I := fun H locs g => ∃ (ls : Array Slot), va_P (dC, dI) classes [(h0, .inr (7, [.ref tp, .int h0_length, .int h0_place, .int h0_fault])), (tp, .inl (ktp, 400, .inl gtp))] H ∧ va_D A [(h0, .inr (7, [.ref tp, .int h0_length, .int h0_place, .int h0_fault])), (tp, .inl (ktp, 400, .inl gtp))] ∧ va_S A s.heap H locs ∧ lv_has ls 7 [(5, .int y_198), (3, .int y_200), (2, .int y_201), (0, .ref h0), (1, .ref (kA 1))] ∧ g = F0 m 58 ls []) (fun H locs g h => ?_) (fun hJ58 => ?_)
        · obtain ⟨ls, hP, hD, hS, hl, rfl⟩ := h
          refine lv_iconst (v := 0) hx hb dX7_wordAmong_58 (by decide) ?_
          exact hJ59 _ _ _ ⟨0, _, hP, hD, hS, hl, rfl⟩
        refine lv_if_eq (tgt := 58) hx hb dX7_wordAmong_36 (by decide) (fun c_389 => ?_) (fun c_389 => ?_)
        · exact hJ58 _ _ _ ⟨_, hP, hD, hS, (lv_sub hl [1, 3, 4, 5, 6] rfl), rfl⟩
        · refine lv_aload_n hx hb dX7_wordAmong_39 rfl (lv_at hl 5 rfl) ?_
          refine lv_aload_n hx hb dX7_wordAmong_40 rfl (lv_at hl 5 rfl) ?_
          refine va_get (D := (dC, dI)) (ci := 7) (v := .int h0_place) (C := RX7) (T := TX7) (N := 4) hx hb hq inX7 hown hK hP 0 rfl rfl 2 (by decide) (hq _ qw_161) (fun _ h9 => h9) rfl dX7_wordAmong_41 ?_
          refine lv_iload_n hx hb dX7_wordAmong_44 rfl (lv_at hl 3 rfl) ?_
          refine lv_iadd hx hb dX7_wordAmong_45 ?_
          refine lv_topi (fun y_390 ey_390 => ?_)
          have hPc := hP.sub (ws' := [(h0, .inr (7, [.ref tp, .int h0_length, .int h0_place, .int h0_fault])), (tp, .inl (ktp, 400, .inl gtp))]) [0, 1] rfl
          have hDc := hD.sub (ws' := [(h0, .inr (7, [.ref tp, .int h0_length, .int h0_place, .int h0_fault])), (tp, .inl (ktp, 400, .inl gtp))]) [0, 1] (by decide) rfl
          have hKc := hK.sub (tys' := [(ktp, .int)]) [0] rfl
          have hFc := va_free (wc := [(h0, .inr (7, [.ref tp, .int h0_length, .int h0_place, .int h0_fault])), (tp, .inl (ktp, 400, .inl gtp))]) hD hS hA [0, 1] rfl
          refine va_calli (va_runV (As := [.int y_390]) (rest := []) ⟨hx, hb, hml, hown, hq⟩ (rd_byteAt l dC dI _ h0 tp h0_length h0_place h0_fault ktp gtp y_390 ) (cwV 1 hq (gV qw_542 qw_544 qw_1 qw_121 qw_545) rfl rfl rfl (by decide +kernel) ⟨Nat.le_of_ble_eq_true rfl, Nat.le_of_ble_eq_true rfl⟩) ⟨fun a U g mk q => by obtain ⟨q0, q1, qP, qK, qD, qE⟩ := q; exact ⟨q0, q1, qP, va_K.moved (u := U) (U := U.calling g mk a) (Vm.Alike.refl U.vm) qK, qD, xE.same rfl qE⟩, va_recv hKc hPc (ci := 7) (q0 := 0) rfl rfl, fun U hU hW => ⟨rfl, by rw [hU], by rw [hU]; exact hPc, va_K.moved hW.alike hKc, hDc.weaken (fun _ _ _ _ => trivial), xE.warm hW hE⟩⟩ rfl rfl hl.1 rfl (lv_room (Nat.le_of_ble_eq_true rfl)) dX7_wordAmong_46 ⟨Nat.le_of_ble_eq_true rfl, Nat.le_of_ble_eq_true rfl⟩) hS (fun q _ h => hFc q h) hFc (fun r_391 u t H1 locs ht hvm hw hB hz1 hk1 hS => ?_)
          obtain ⟨hP1, hK1, hD1⟩ := hB
          rw [ht] at hP1
          obtain ⟨hP, hD⟩ := va_join (wr := []) (w1 := [(h0, .inr (7, [.ref tp, .int h0_length, .int h0_place, .int h0_fault])), (tp, .inl (ktp, 400, .inl gtp))]) hP hD [0, 1] [] rfl rfl (by decide) (by decide) hk1 hFc hP1 hD1
          generalize H1 = H at hP hS ⊢
          have hP : va_P (dC, dI) classes [(h0, .inr (7, [.ref tp, .int h0_length, .int h0_place, .int h0_fault])), (tp, .inl (ktp, 400, .inl gtp))] H := hP
          have hD : va_D A [(h0, .inr (7, [.ref tp, .int h0_length, .int h0_place, .int h0_fault])), (tp, .inl (ktp, 400, .inl gtp))] := hD
          refine lv_iload hx hb dX7_wordAmong_49 (lv_at hl 0 rfl) ?_
          refine lv_icmp_ne (tgt := 58) hx hb dX7_wordAmong_51 (by decide) (fun c_392 => ?_) (fun c_392 => ?_)
          · exact hJ58 _ _ _ ⟨_, hP, hD, hS, (lv_sub hl [1, 3, 4, 5, 6] rfl), rfl⟩
          · refine lv_iconst (v := 1) hx hb dX7_wordAmong_54 (by decide) ?_
            refine lv_goto (tgt := 59) hx hb dX7_wordAmong_55 (by decide) ?_
            exact hJ59 _ _ _ ⟨1, _, hP, hD, hS, (lv_sub hl [1, 3, 4, 5, 6] rfl), rfl⟩

set_option maxHeartbeats 4000000 in
set_option maxRecDepth 100000 in
/-- rd_word_2 -/
theorem rd_word_2 (l : Launch) (dC : Nat → ClassId) (dI : Nat → Nat → Nat) (sz : Nat) (kA vA : Nat → Nat) (h0 : Nat) (tp : Nat) (h0_length : Int32) (h0_place : Int32) (h0_fault : Int32) (ktp : ClassId) (gtp : Nat → Int32) : Met l yX7_wordAmong (.code yX7_wordAmong cX7_wordAmong 7 (some .int) :: wsA) ({ frames := 4, cells := 0, slots := 0, locals := 85 }) (va_Pc [.ref h0, .ref (kA 2)] (fun U => U.heap.size = sz ∧ va_P (dC, dI) classes [(h0, .inr (7, [.ref tp, .int h0_length, .int h0_place, .int h0_fault])), (tp, .inl (ktp, 400, .inl gtp))] U.heap ∧ va_K (dC, dI) classes [(ktp, .int)] U ∧ va_D (fun _ => True) [(h0, .inr (7, [.ref tp, .int h0_length, .int h0_place, .int h0_fault])), (tp, .inl (ktp, 400, .inl gtp))] ∧ xE U ∧ xT kA vA (va_A [(h0, .inr (7, [.ref tp, .int h0_length, .int h0_place, .int h0_fault])), (tp, .inl (ktp, 400, .inl gtp))] sz) U U.heap)) (va_Qi (fun (r : Int32) (_ : Unit) => True) (fun _ t => va_P (dC, dI) classes [(h0, .inr (7, [.ref tp, .int h0_length, .int h0_place, .int h0_fault])), (tp, .inl (ktp, 400, .inl gtp))] t.heap ∧ va_K (dC, dI) classes [(ktp, .int)] t ∧ va_D (va_A [(h0, .inr (7, [.ref tp, .int h0_length, .int h0_place, .int h0_fault])), (tp, .inl (ktp, 400, .inl gtp))] sz) [(h0, .inr (7, [.ref tp, .int h0_length, .int h0_place, .int h0_fault])), (tp, .inl (ktp, 400, .inl gtp))]) (va_A [(h0, .inr (7, [.ref tp, .int h0_length, .int h0_place, .int h0_fault])), (tp, .inl (ktp, 400, .inl gtp))] sz)) 0 0 (va_A [(h0, .inr (7, [.ref tp, .int h0_length, .int h0_place, .int h0_fault])), (tp, .inl (ktp, 400, .inl gtp))] sz) := by
  refine Met.ofW (cc := cX7_wordAmong) (maxL := 7) (ret := (some .int)) (by decide) rfl ?_
  intro p e s m args below meth c s₁ B hml hv
  obtain ⟨rfl, hsz, hP, hK, hD0, hE, hT⟩ := hv
  have hx := B.exec
  have hb := B.bytes
  have hr := B.returns
  have hts := atoms_spec (ws := .code yX7_wordAmong cX7_wordAmong 7 (some .int) :: wsA) B.pre
  have hq : ∀ w ∈ wsA, w.before _ s = true := fun w h => hts w (List.mem_cons_of_mem _ h)
  have hown : s.vm.findClass RX7 = some m.cls := findClass_of_methodNamed B.named
  have hlocks := B.notSynchronized
  subst hsz
  have hD := hD0.self (sz := s.heap.size)
  generalize hAe : va_A [(h0, .inr (7, [.ref tp, .int h0_length, .int h0_place, .int h0_fault])), (tp, .inl (ktp, 400, .inl gtp))] s.heap.size = A at hD hT ⊢
  have hA : ∀ q : Nat, s.heap.size ≤ q → A q := fun q h => by rw [← hAe]; exact Or.inr h
  have hS : va_S A s.heap s.heap [] := va_S.rf
  have hl := lv_entry ([.ref h0, .ref (kA 2)]) (n := 7) (Nat.le_of_ble_eq_true rfl)
  rw [lg_entry_eq]
  generalize (lg_sl ([.ref h0, .ref (kA 2)]) ++ List.replicate (7 - (lg_sl ([.ref h0, .ref (kA 2)])).length) Slot.unset).toArray = ls at hl ⊢
  have hl : lv_has ls 7 [(0, .ref h0), (1, .ref (kA 2))] := hl
  refine lv_iconst (v := 0) hx hb dX7_wordAmong_0 (by decide) ?_
  refine lv_istore_n (lv' := [(2, .int 0), (0, .ref h0), (1, .ref (kA 2))]) hx hb dX7_wordAmong_1 rfl hl (by decide) rfl (fun ls hl => ?_)
  refine lv_iconst (v := 0) hx hb dX7_wordAmong_2 (by decide) ?_
  refine lv_istore_n (lv' := [(3, .int 0), (2, .int 0), (0, .ref h0), (1, .ref (kA 2))]) hx hb dX7_wordAmong_3 rfl hl (by decide) rfl (fun ls hl => ?_)
  refine lv_iconst (v := 1) hx hb dX7_wordAmong_4 (by decide) ?_
  refine lv_istore (lv' := [(4, .int 1), (3, .int 0), (2, .int 0), (0, .ref h0), (1, .ref (kA 2))]) hx hb dX7_wordAmong_5 hl (by decide) rfl (fun ls hl => ?_)
  refine lv_iconst (v := 0) hx hb dX7_wordAmong_7 (by decide) ?_
  refine lv_istore (lv' := [(5, .int 0), (4, .int 1), (3, .int 0), (2, .int 0), (0, .ref h0), (1, .ref (kA 2))]) hx hb dX7_wordAmong_8 hl (by decide) rfl (fun ls hl => ?_)
  refine W.loop (I := fun n H locs g => ∃ (y_198 : Int32) (y_199 : Int32) (y_200 : Int32) (y_201 : Int32) (ls : Array Slot), bt 0 60 y_198 ∧ 60 - y_198.toInt < (n : Int) ∧ va_P (dC, dI) classes [(h0, .inr (7, [.ref tp, .int h0_length, .int h0_place, .int h0_fault])), (tp, .inl (ktp, 400, .inl gtp))] H ∧ va_D A [(h0, .inr (7, [.ref tp, .int h0_length, .int h0_place, .int h0_fault])), (tp, .inl (ktp, 400, .inl gtp))] ∧ va_S A s.heap H locs ∧ lv_has ls 7 [(5, .int y_198), (4, .int y_199), (3, .int y_200), (2, .int y_201), (0, .ref h0), (1, .ref (kA 2))] ∧ g = F0 m 10 ls []) (fun H locs g h => ?_) (fun n ih10 H locs g h => ?_) (n := 61) ⟨0, 1, 0, 0, _, (bt_w (bt_k (x := 0) (c := 0) (by decide)) (by decide)), (ms_0 (bt_k (x := 0) (c := 0) (by decide)) (by decide)), hP, hD, hS, hl, rfl⟩
  · obtain ⟨y_198, y_199, y_200, y_201, ls, bd_v_5, hm, hP, hD, hS, hl, rfl⟩ := h
    exact ms_z bd_v_5 hm
  · obtain ⟨y_198, y_199, y_200, y_201, ls, bd_v_5, hm10, hP, hD, hS, hl, rfl⟩ := h
    refine lv_iload hx hb dX7_wordAmong_10 (lv_at hl 0 rfl) ?_
    refine lv_aload_n hx hb dX7_wordAmong_12 rfl (lv_at hl 5 rfl) ?_
    have hPc := hP.sub (ws' := []) [] rfl
    have hDc := hD.sub (ws' := []) [] (by decide) rfl
    have hKc := hK.sub (tys' := []) [] rfl
    have hFc := va_free (wc := []) hD hS hA [] rfl
    refine va_calli (va_runV (As := []) (rest := [.int y_198]) ⟨hx, hb, hml, hown, hq⟩ (j_length_2 l dC dI _ kA vA  ) (cwV 0 hq (gV qw_551 qw_552 qw_553 qw_133 qw_554) rfl rfl rfl (by decide +kernel) ⟨Nat.le_of_ble_eq_true rfl, Nat.le_of_ble_eq_true rfl⟩) ⟨fun a U g mk q => by obtain ⟨q0, q1, qP, qK, qD, qE, qT⟩ := q; exact ⟨q0, q1, qP, va_K.moved (u := U) (U := U.calling g mk a) (Vm.Alike.refl U.vm) qK, qD, xE.same rfl qE, xT.same rfl qT⟩, xT_recv hT hS (i := 2) (by decide), fun U hU hW => ⟨rfl, by rw [hU], by rw [hU]; exact hPc, va_K.moved hW.alike hKc, hDc.weaken (fun _ _ _ _ => trivial), xE.warm hW hE, by rw [hU]; exact xT.call hW hT hS hFc⟩⟩ rfl rfl hl.1 rfl (lv_room (Nat.le_of_ble_eq_true rfl)) dX7_wordAmong_13 ⟨Nat.le_of_ble_eq_true rfl, Nat.le_of_ble_eq_true rfl⟩) hS (fun q _ h => hFc q h) hFc (fun r_346 u t H1 locs ht hvm hw hB hz1 hk1 hS => ?_)
    obtain ⟨hP1, hK1, hD1⟩ := hB
    rw [ht] at hP1
    obtain ⟨hP, hD⟩ := va_join (wr := [(h0, .inr (7, [.ref tp, .int h0_length, .int h0_place, .int h0_fault])), (tp, .inl (ktp, 400, .inl gtp))]) (w1 := []) hP hD [] [0, 1] rfl rfl (by decide) (by decide) hk1 hFc hP1 hD1
    generalize H1 = H at hP hS ⊢
    have hP : va_P (dC, dI) classes [(h0, .inr (7, [.ref tp, .int h0_length, .int h0_place, .int h0_fault])), (tp, .inl (ktp, 400, .inl gtp))] H := hP
    have hD : va_D A [(h0, .inr (7, [.ref tp, .int h0_length, .int h0_place, .int h0_fault])), (tp, .inl (ktp, 400, .inl gtp))] := hD
    obtain rfl : r_346 = 60 := hw
    refine lv_icmp_ge (tgt := 104) hx hb dX7_wordAmong_16 (by decide) (fun c_347 => ?_) (fun c_347 => ?_)
    · refine lv_iconst (v := (-1)) hx hb dX7_wordAmong_104 (by decide) ?_
      refine W.widen (k := 0) (n := 0) (Nat.le_of_ble_eq_true rfl) (Nat.le_of_ble_eq_true rfl) ?_
      exact W.iret (v := (-1)) hx hb hr (fun t ht hW => ⟨⟨(-1), (), rfl, trivial, by rw [ht]; exact hP, va_K.moved hW.alike hK, hD⟩, hS.F ht⟩) hS.2.2 dX7_wordAmong_105
    · refine lv_aload_n hx hb dX7_wordAmong_19 rfl (lv_at hl 5 rfl) ?_
      refine lv_iload hx hb dX7_wordAmong_20 (lv_at hl 0 rfl) ?_
      have b_348 : bt 0 59 y_198 := rf_lt_l bd_v_5 (bt_k (x := 60) (c := 60) (by decide)) (Int32.not_le.mp c_347) (by decide)
      have hPc := hP.sub (ws' := []) [] rfl
      have hDc := hD.sub (ws' := []) [] (by decide) rfl
      have hKc := hK.sub (tys' := []) [] rfl
      have hFc := va_free (wc := []) hD hS hA [] rfl
      refine va_calli (va_runV (As := [.int y_198]) (rest := []) ⟨hx, hb, hml, hown, hq⟩ (j_charAt_2 l dC dI _ kA vA y_198 b_348) (cwV 1 hq (gV qw_561 qw_562 qw_563 qw_133 qw_564) rfl rfl rfl (by decide +kernel) ⟨Nat.le_of_ble_eq_true rfl, Nat.le_of_ble_eq_true rfl⟩) ⟨fun a U g mk q => by obtain ⟨q0, q1, qP, qK, qD, qE, qT⟩ := q; exact ⟨q0, q1, qP, va_K.moved (u := U) (U := U.calling g mk a) (Vm.Alike.refl U.vm) qK, qD, xE.same rfl qE, xT.same rfl qT⟩, xT_recv hT hS (i := 2) (by decide), fun U hU hW => ⟨rfl, by rw [hU], by rw [hU]; exact hPc, va_K.moved hW.alike hKc, hDc.weaken (fun _ _ _ _ => trivial), xE.warm hW hE, by rw [hU]; exact xT.call hW hT hS hFc⟩⟩ rfl rfl hl.1 rfl (lv_room (Nat.le_of_ble_eq_true rfl)) dX7_wordAmong_22 ⟨Nat.le_of_ble_eq_true rfl, Nat.le_of_ble_eq_true rfl⟩) hS (fun q _ h => hFc q h) hFc (fun r_349 u t H1 locs ht hvm hw hB hz1 hk1 hS => ?_)
      obtain ⟨hP1, hK1, hD1⟩ := hB
      rw [ht] at hP1
      obtain ⟨hP, hD⟩ := va_join (wr := [(h0, .inr (7, [.ref tp, .int h0_length, .int h0_place, .int h0_fault])), (tp, .inl (ktp, 400, .inl gtp))]) (w1 := []) hP hD [] [0, 1] rfl rfl (by decide) (by decide) hk1 hFc hP1 hD1
      generalize H1 = H at hP hS ⊢
      have hP : va_P (dC, dI) classes [(h0, .inr (7, [.ref tp, .int h0_length, .int h0_place, .int h0_fault])), (tp, .inl (ktp, 400, .inl gtp))] H := hP
      have hD : va_D A [(h0, .inr (7, [.ref tp, .int h0_length, .int h0_place, .int h0_fault])), (tp, .inl (ktp, 400, .inl gtp))] := hD
      refine lv_istore (lv' := [(6, .int r_349), (5, .int y_198), (4, .int y_199), (3, .int y_200), (2, .int y_201), (0, .ref h0), (1, .ref (kA 2))]) hx hb dX7_wordAmong_25 hl (by decide) rfl (fun ls hl => ?_)
      refine lv_iload hx hb dX7_wordAmong_27 (lv_at hl 0 rfl) ?_
      refine lv_bipush (v := 32) hx hb dX7_wordAmong_29 (by decide) ?_
      refine W.cut (I := fun H locs g => ∃ (y_363 : Int32) (y_364 : Int32) (y_365 : Int32) (ls : Array Slot), va_P (dC, dI) classes [(h0, .inr (7, [.ref tp, .int h0_length, .int h0_place, .int h0_fault])), (tp, .inl (ktp, 400, .inl gtp))] H ∧ va_D A [(h0, .inr (7, [.ref tp, .int h0_length, .int h0_place, .int h0_fault])), (tp, .inl (ktp, 400, .inl gtp))] ∧ va_S A s.heap H locs ∧ lv_has ls 7 [(4, .int y_363), (3, .int y_364), (2, .int y_365), (5, .int y_198), (0, .ref h0), (1, .ref (kA 2))] ∧ g = F0 m 98 ls []) (fun H locs g h => ?_) (fun hJ98 => ?_)
      · obtain ⟨y_363, y_364, y_365, ls, hP, hD, hS, hl, rfl⟩ := h
        obtain ⟨y_367, ey_367⟩ : ∃ y : Int32, y = y_198 + 1 := ⟨_, rfl⟩
        refine lv_iinc (v := y_367) (lv' := [(5, .int y_367), (4, .int y_363), (3, .int y_364), (2, .int y_365), (0, .ref h0), (1, .ref (kA 2))]) hx hb dX7_wordAmong_98 hl (k := 3) rfl (by rw [ey_367]; rfl) (by decide) rfl (fun ls hl => ?_)
        refine lv_goto (tgt := 10) hx hb dX7_wordAmong_101 (by decide) ?_
        have b_368 : bt 1 60 y_367 := bt_add ey_367 b_348 (bt_k (x := 1) (c := 1) (by decide)) (by decide)
        exact ih10 _ _ _ ⟨y_367, y_363, y_364, y_365, _, (bt_w b_368 (by decide)), (ms_s ey_367 b_348 hm10 (by decide)), hP, hD, hS, hl, rfl⟩
      refine lv_icmp_eq (tgt := 67) hx hb dX7_wordAmong_31 (by decide) (fun c_369 => ?_) (fun c_369 => ?_)
      · refine lv_iload hx hb dX7_wordAmong_67 (lv_at hl 2 rfl) ?_
        refine W.cut (I := fun H locs g => ∃ (ls : Array Slot), va_P (dC, dI) classes [(h0, .inr (7, [.ref tp, .int h0_length, .int h0_place, .int h0_fault])), (tp, .inl (ktp, 400, .inl gtp))] H ∧ va_D A [(h0, .inr (7, [.ref tp, .int h0_length, .int h0_place, .int h0_fault])), (tp, .inl (ktp, 400, .inl gtp))] ∧ va_S A s.heap H locs ∧ lv_has ls 7 [(5, .int y_198), (2, .int y_201), (0, .ref h0), (1, .ref (kA 2))] ∧ g = F0 m 90 ls []) (fun H locs g h => ?_) (fun hJ90 => ?_)
        · obtain ⟨ls, hP, hD, hS, hl, rfl⟩ := h
          obtain ⟨y_376, ey_376⟩ : ∃ y : Int32, y = y_201 + 1 := ⟨_, rfl⟩
          refine lv_iinc (v := y_376) (lv' := [(2, .int y_376), (5, .int y_198), (0, .ref h0), (1, .ref (kA 2))]) hx hb dX7_wordAmong_90 hl (k := 1) rfl (by rw [ey_376]; rfl) (by decide) rfl (fun ls hl => ?_)
          refine lv_iconst (v := 0) hx hb dX7_wordAmong_93 (by decide) ?_
          refine lv_istore_n (lv' := [(3, .int 0), (2, .int y_376), (5, .int y_198), (0, .ref h0), (1, .ref (kA 2))]) hx hb dX7_wordAmong_94 rfl hl (by decide) rfl (fun ls hl => ?_)
          refine lv_iconst (v := 1) hx hb dX7_wordAmong_95 (by decide) ?_
          refine lv_istore (lv' := [(4, .int 1), (3, .int 0), (2, .int y_376), (5, .int y_198), (0, .ref h0), (1, .ref (kA 2))]) hx hb dX7_wordAmong_96 hl (by decide) rfl (fun ls hl => ?_)
          exact hJ98 _ _ _ ⟨1, 0, y_376, _, hP, hD, hS, hl, rfl⟩
        refine lv_if_eq (tgt := 90) hx hb dX7_wordAmong_69 (by decide) (fun c_377 => ?_) (fun c_377 => ?_)
        · exact hJ90 _ _ _ ⟨_, hP, hD, hS, (lv_sub hl [1, 4, 5, 6] rfl), rfl⟩
        · refine lv_aload_n hx hb dX7_wordAmong_72 rfl (lv_at hl 5 rfl) ?_
          refine lv_aload_n hx hb dX7_wordAmong_73 rfl (lv_at hl 5 rfl) ?_
          refine va_get (D := (dC, dI)) (ci := 7) (v := .int h0_place) (C := RX7) (T := TX7) (N := 4) hx hb hq inX7 hown hK hP 0 rfl rfl 2 (by decide) (hq _ qw_161) (fun _ h9 => h9) rfl dX7_wordAmong_74 ?_
          refine lv_iload_n hx hb dX7_wordAmong_77 rfl (lv_at hl 3 rfl) ?_
          refine lv_iadd hx hb dX7_wordAmong_78 ?_
          refine lv_topi (fun y_378 ey_378 => ?_)
          have hPc := hP.sub (ws' := [(h0, .inr (7, [.ref tp, .int h0_length, .int h0_place, .int h0_fault])), (tp, .inl (ktp, 400, .inl gtp))]) [0, 1] rfl
          have hDc := hD.sub (ws' := [(h0, .inr (7, [.ref tp, .int h0_length, .int h0_place, .int h0_fault])), (tp, .inl (ktp, 400, .inl gtp))]) [0, 1] (by decide) rfl
          have hKc := hK.sub (tys' := [(ktp, .int)]) [0] rfl
          have hFc := va_free (wc := [(h0, .inr (7, [.ref tp, .int h0_length, .int h0_place, .int h0_fault])), (tp, .inl (ktp, 400, .inl gtp))]) hD hS hA [0, 1] rfl
          refine va_calli (va_runV (As := [.int y_378]) (rest := []) ⟨hx, hb, hml, hown, hq⟩ (rd_byteAt l dC dI _ h0 tp h0_length h0_place h0_fault ktp gtp y_378 ) (cwV 1 hq (gV qw_542 qw_544 qw_1 qw_121 qw_545) rfl rfl rfl (by decide +kernel) ⟨Nat.le_of_ble_eq_true rfl, Nat.le_of_ble_eq_true rfl⟩) ⟨fun a U g mk q => by obtain ⟨q0, q1, qP, qK, qD, qE⟩ := q; exact ⟨q0, q1, qP, va_K.moved (u := U) (U := U.calling g mk a) (Vm.Alike.refl U.vm) qK, qD, xE.same rfl qE⟩, va_recv hKc hPc (ci := 7) (q0 := 0) rfl rfl, fun U hU hW => ⟨rfl, by rw [hU], by rw [hU]; exact hPc, va_K.moved hW.alike hKc, hDc.weaken (fun _ _ _ _ => trivial), xE.warm hW hE⟩⟩ rfl rfl hl.1 rfl (lv_room (Nat.le_of_ble_eq_true rfl)) dX7_wordAmong_79 ⟨Nat.le_of_ble_eq_true rfl, Nat.le_of_ble_eq_true rfl⟩) hS (fun q _ h => hFc q h) hFc (fun r_379 u t H1 locs ht hvm hw hB hz1 hk1 hS => ?_)
          obtain ⟨hP1, hK1, hD1⟩ := hB
          rw [ht] at hP1
          obtain ⟨hP, hD⟩ := va_join (wr := []) (w1 := [(h0, .inr (7, [.ref tp, .int h0_length, .int h0_place, .int h0_fault])), (tp, .inl (ktp, 400, .inl gtp))]) hP hD [0, 1] [] rfl rfl (by decide) (by decide) hk1 hFc hP1 hD1
          generalize H1 = H at hP hS ⊢
          have hP : va_P (dC, dI) classes [(h0, .inr (7, [.ref tp, .int h0_length, .int h0_place, .int h0_fault])), (tp, .inl (ktp, 400, .inl gtp))] H := hP
          have hD : va_D A [(h0, .inr (7, [.ref tp, .int h0_length, .int h0_place, .int h0_fault])), (tp, .inl (ktp, 400, .inl gtp))] := hD
          have hPc := hP.sub (ws' := []) [] rfl
          have hDc := hD.sub (ws' := []) [] (by decide) rfl
          have hKc := hK.sub (tys' := []) [] rfl
          have hFc := va_free (wc := []) hD hS hA [] rfl
          refine va_calli (va_runS (As := [.int r_379]) (rest := []) ⟨hx, hb, hml, hown, hq⟩ (rd_isLetter l dC dI _ r_379 ) (cwS 1 hq (gS qw_599 qw_600 qw_121 qw_601) rfl rfl rfl (by decide +kernel) ⟨Nat.le_of_ble_eq_true rfl, Nat.le_of_ble_eq_true rfl⟩) ⟨fun a U g mk q => by obtain ⟨q0, q1, qP, qK, qD, qE⟩ := q; exact ⟨q0, q1, qP, va_K.moved (u := U) (U := U.calling g mk a) (Vm.Alike.refl U.vm) qK, qD, xE.same rfl qE⟩, fun U hU hW => ⟨rfl, by rw [hU], by rw [hU]; exact hPc, va_K.moved hW.alike hKc, hDc.weaken (fun _ _ _ _ => trivial), xE.warm hW hE⟩⟩ rfl rfl hl.1 rfl (lv_room (Nat.le_of_ble_eq_true rfl)) dX7_wordAmong_82 ⟨Nat.le_of_ble_eq_true rfl, Nat.le_of_ble_eq_true rfl⟩) hS (fun q _ h => hFc q h) hFc (fun r_380 u t H1 locs ht hvm hw hB hz1 hk1 hS => ?_)
          obtain ⟨hP1, hK1, hD1⟩ := hB
          rw [ht] at hP1
          obtain ⟨hP, hD⟩ := va_join (wr := [(h0, .inr (7, [.ref tp, .int h0_length, .int h0_place, .int h0_fault])), (tp, .inl (ktp, 400, .inl gtp))]) (w1 := []) hP hD [] [0, 1] rfl rfl (by decide) (by decide) hk1 hFc hP1 hD1
          generalize H1 = H at hP hS ⊢
          have hP : va_P (dC, dI) classes [(h0, .inr (7, [.ref tp, .int h0_length, .int h0_place, .int h0_fault])), (tp, .inl (ktp, 400, .inl gtp))] H := hP
          have hD : va_D A [(h0, .inr (7, [.ref tp, .int h0_length, .int h0_place, .int h0_fault])), (tp, .inl (ktp, 400, .inl gtp))] := hD
          refine lv_if_ne (tgt := 90) hx hb dX7_wordAmong_85 (by decide) (fun c_381 => ?_) (fun c_381 => ?_)
          · exact hJ90 _ _ _ ⟨_, hP, hD, hS, (lv_sub hl [1, 4, 5, 6] rfl), rfl⟩
          · refine lv_iload_n hx hb dX7_wordAmong_88 rfl (lv_at hl 4 rfl) ?_
            refine W.widen (k := 0) (n := 0) (Nat.le_of_ble_eq_true rfl) (Nat.le_of_ble_eq_true rfl) ?_
            exact W.iret (v := y_201) hx hb hr (fun t ht hW => ⟨⟨y_201, (), rfl, trivial, by rw [ht]; exact hP, va_K.moved hW.alike hK, hD⟩, hS.F ht⟩) hS.2.2 dX7_wordAmong_89
      · refine lv_iload hx hb dX7_wordAmong_34 (lv_at hl 2 rfl) ?_
        refine W.cut (I := fun H locs g => ∃ (y_386 : Int32) (ls : Array Slot), va_P (dC, dI) classes [(h0, .inr (7, [.ref tp, .int h0_length, .int h0_place, .int h0_fault])), (tp, .inl (ktp, 400, .inl gtp))] H ∧ va_D A [(h0, .inr (7, [.ref tp, .int h0_length, .int h0_place, .int h0_fault])), (tp, .inl (ktp, 400, .inl gtp))] ∧ va_S A s.heap H locs ∧ lv_has ls 7 [(5, .int y_198), (3, .int y_200), (2, .int y_201), (0, .ref h0), (1, .ref (kA 2))] ∧ g = F0 m 59 ls [.int y_386]) (fun H locs g h => ?_) (fun hJ59 => ?_)
        · obtain ⟨y_386, ls, hP, hD, hS, hl, rfl⟩ := h
          refine lv_istore (lv' := [(4, .int y_386), (5, .int y_198), (3, .int y_200), (2, .int y_201), (0, .ref h0), (1, .ref (kA 2))]) hx hb dX7_wordAmong_59 hl (by decide) rfl (fun ls hl => ?_)
          obtain ⟨y_388, ey_388⟩ : ∃ y : Int32, y = y_200 + 1 := ⟨_, rfl⟩
          refine lv_iinc (v := y_388) (lv' := [(3, .int y_388), (4, .int y_386), (5, .int y_198), (2, .int y_201), (0, .ref h0), (1, .ref (kA 2))]) hx hb dX7_wordAmong_61 hl (k := 2) rfl (by rw [ey_388]; rfl) (by decide) rfl (fun ls hl => ?_)
          refine lv_goto (tgt := 98) hx hb dX7_wordAmong_64 (by decide) ?_
          exact hJ98 _ _ _ ⟨y_386, y_388, y_201, _, hP, hD, hS, (lv_sub hl [1, 0, 3, 2, 4, 5] rfl), rfl⟩
        refine W.cut (I := fun H locs g => ∃ (ls : Array Slot), va_P (dC, dI) classes [(h0, .inr (7, [.ref tp, .int h0_length, .int h0_place, .int h0_fault])), (tp, .inl (ktp, 400, .inl gtp))] H ∧ va_D A [(h0, .inr (7, [.ref tp, .int h0_length, .int h0_place, .int h0_fault])), (tp, .inl (ktp, 400, .inl gtp))] ∧ va_S A s.heap H locs ∧ lv_has ls 7 [(5, .int y_198), (3, .int y_200), (2, .int y_201), (0, .ref h0), (1, .ref (kA 2))] ∧ g = F0 m 58 ls []) (fun H locs g h => ?_) (fun hJ58 => ?_)
        · obtain ⟨ls, hP, hD, hS, hl, rfl⟩ := h
          refine lv_iconst (v := 0) hx hb dX7_wordAmong_58 (by decide) ?_
          exact hJ59 _ _ _ ⟨0, _, hP, hD, hS, hl, rfl⟩
        refine lv_if_eq (tgt := 58) hx hb dX7_wordAmong_36 (by decide) (fun c_389 => ?_) (fun c_389 => ?_)
        · exact hJ58 _ _ _ ⟨_, hP, hD, hS, (lv_sub hl [1, 3, 4, 5, 6] rfl), rfl⟩
        · refine lv_aload_n hx hb dX7_wordAmong_39 rfl (lv_at hl 5 rfl) ?_
          refine lv_aload_n hx hb dX7_wordAmong_40 rfl (lv_at hl 5 rfl) ?_
          refine va_get (D := (dC, dI)) (ci := 7) (v := .int h0_place) (C := RX7) (T := TX7) (N := 4) hx hb hq inX7 hown hK hP 0 rfl rfl 2 (by decide) (hq _ qw_161) (fun _ h9 => h9) rfl dX7_wordAmong_41 ?_
          refine lv_iload_n hx hb dX7_wordAmong_44 rfl (lv_at hl 3 rfl) ?_
          refine lv_iadd hx hb dX7_wordAmong_45 ?_
          refine lv_topi (fun y_390 ey_390 => ?_)
          have hPc := hP.sub (ws' := [(h0, .inr (7, [.ref tp, .int h0_length, .int h0_place, .int h0_fault])), (tp, .inl (ktp, 400, .inl gtp))]) [0, 1] rfl
          have hDc := hD.sub (ws' := [(h0, .inr (7, [.ref tp, .int h0_length, .int h0_place, .int h0_fault])), (tp, .inl (ktp, 400, .inl gtp))]) [0, 1] (by decide) rfl
          have hKc := hK.sub (tys' := [(ktp, .int)]) [0] rfl
          have hFc := va_free (wc := [(h0, .inr (7, [.ref tp, .int h0_length, .int h0_place, .int h0_fault])), (tp, .inl (ktp, 400, .inl gtp))]) hD hS hA [0, 1] rfl
          refine va_calli (va_runV (As := [.int y_390]) (rest := []) ⟨hx, hb, hml, hown, hq⟩ (rd_byteAt l dC dI _ h0 tp h0_length h0_place h0_fault ktp gtp y_390 ) (cwV 1 hq (gV qw_542 qw_544 qw_1 qw_121 qw_545) rfl rfl rfl (by decide +kernel) ⟨Nat.le_of_ble_eq_true rfl, Nat.le_of_ble_eq_true rfl⟩) ⟨fun a U g mk q => by obtain ⟨q0, q1, qP, qK, qD, qE⟩ := q; exact ⟨q0, q1, qP, va_K.moved (u := U) (U := U.calling g mk a) (Vm.Alike.refl U.vm) qK, qD, xE.same rfl qE⟩, va_recv hKc hPc (ci := 7) (q0 := 0) rfl rfl, fun U hU hW => ⟨rfl, by rw [hU], by rw [hU]; exact hPc, va_K.moved hW.alike hKc, hDc.weaken (fun _ _ _ _ => trivial), xE.warm hW hE⟩⟩ rfl rfl hl.1 rfl (lv_room (Nat.le_of_ble_eq_true rfl)) dX7_wordAmong_46 ⟨Nat.le_of_ble_eq_true rfl, Nat.le_of_ble_eq_true rfl⟩) hS (fun q _ h => hFc q h) hFc (fun r_391 u t H1 locs ht hvm hw hB hz1 hk1 hS => ?_)
          obtain ⟨hP1, hK1, hD1⟩ := hB
          rw [ht] at hP1
          obtain ⟨hP, hD⟩ := va_join (wr := []) (w1 := [(h0, .inr (7, [.ref tp, .int h0_length, .int h0_place, .int h0_fault])), (tp, .inl (ktp, 400, .inl gtp))]) hP hD [0, 1] [] rfl rfl (by decide) (by decide) hk1 hFc hP1 hD1
          generalize H1 = H at hP hS ⊢
          have hP : va_P (dC, dI) classes [(h0, .inr (7, [.ref tp, .int h0_length, .int h0_place, .int h0_fault])), (tp, .inl (ktp, 400, .inl gtp))] H := hP
          have hD : va_D A [(h0, .inr (7, [.ref tp, .int h0_length, .int h0_place, .int h0_fault])), (tp, .inl (ktp, 400, .inl gtp))] := hD
          refine lv_iload hx hb dX7_wordAmong_49 (lv_at hl 0 rfl) ?_
          refine lv_icmp_ne (tgt := 58) hx hb dX7_wordAmong_51 (by decide) (fun c_392 => ?_) (fun c_392 => ?_)
          · exact hJ58 _ _ _ ⟨_, hP, hD, hS, (lv_sub hl [1, 3, 4, 5, 6] rfl), rfl⟩
          · refine lv_iconst (v := 1) hx hb dX7_wordAmong_54 (by decide) ?_
            refine lv_goto (tgt := 59) hx hb dX7_wordAmong_55 (by decide) ?_
            exact hJ59 _ _ _ ⟨1, _, hP, hD, hS, (lv_sub hl [1, 3, 4, 5, 6] rfl), rfl⟩

set_option maxHeartbeats 4000000 in
set_option maxRecDepth 100000 in
/-- rd_word_3 -/
theorem rd_word_3 (l : Launch) (dC : Nat → ClassId) (dI : Nat → Nat → Nat) (sz : Nat) (kA vA : Nat → Nat) (h0 : Nat) (tp : Nat) (h0_length : Int32) (h0_place : Int32) (h0_fault : Int32) (ktp : ClassId) (gtp : Nat → Int32) : Met l yX7_wordAmong (.code yX7_wordAmong cX7_wordAmong 7 (some .int) :: wsA) ({ frames := 4, cells := 0, slots := 0, locals := 85 }) (va_Pc [.ref h0, .ref (kA 3)] (fun U => U.heap.size = sz ∧ va_P (dC, dI) classes [(h0, .inr (7, [.ref tp, .int h0_length, .int h0_place, .int h0_fault])), (tp, .inl (ktp, 400, .inl gtp))] U.heap ∧ va_K (dC, dI) classes [(ktp, .int)] U ∧ va_D (fun _ => True) [(h0, .inr (7, [.ref tp, .int h0_length, .int h0_place, .int h0_fault])), (tp, .inl (ktp, 400, .inl gtp))] ∧ xE U ∧ xT kA vA (va_A [(h0, .inr (7, [.ref tp, .int h0_length, .int h0_place, .int h0_fault])), (tp, .inl (ktp, 400, .inl gtp))] sz) U U.heap)) (va_Qi (fun (r : Int32) (_ : Unit) => True) (fun _ t => va_P (dC, dI) classes [(h0, .inr (7, [.ref tp, .int h0_length, .int h0_place, .int h0_fault])), (tp, .inl (ktp, 400, .inl gtp))] t.heap ∧ va_K (dC, dI) classes [(ktp, .int)] t ∧ va_D (va_A [(h0, .inr (7, [.ref tp, .int h0_length, .int h0_place, .int h0_fault])), (tp, .inl (ktp, 400, .inl gtp))] sz) [(h0, .inr (7, [.ref tp, .int h0_length, .int h0_place, .int h0_fault])), (tp, .inl (ktp, 400, .inl gtp))]) (va_A [(h0, .inr (7, [.ref tp, .int h0_length, .int h0_place, .int h0_fault])), (tp, .inl (ktp, 400, .inl gtp))] sz)) 0 0 (va_A [(h0, .inr (7, [.ref tp, .int h0_length, .int h0_place, .int h0_fault])), (tp, .inl (ktp, 400, .inl gtp))] sz) := by
  refine Met.ofW (cc := cX7_wordAmong) (maxL := 7) (ret := (some .int)) (by decide) rfl ?_
  intro p e s m args below meth c s₁ B hml hv
  obtain ⟨rfl, hsz, hP, hK, hD0, hE, hT⟩ := hv
  have hx := B.exec
  have hb := B.bytes
  have hr := B.returns
  have hts := atoms_spec (ws := .code yX7_wordAmong cX7_wordAmong 7 (some .int) :: wsA) B.pre
  have hq : ∀ w ∈ wsA, w.before _ s = true := fun w h => hts w (List.mem_cons_of_mem _ h)
  have hown : s.vm.findClass RX7 = some m.cls := findClass_of_methodNamed B.named
  have hlocks := B.notSynchronized
  subst hsz
  have hD := hD0.self (sz := s.heap.size)
  generalize hAe : va_A [(h0, .inr (7, [.ref tp, .int h0_length, .int h0_place, .int h0_fault])), (tp, .inl (ktp, 400, .inl gtp))] s.heap.size = A at hD hT ⊢
  have hA : ∀ q : Nat, s.heap.size ≤ q → A q := fun q h => by rw [← hAe]; exact Or.inr h
  have hS : va_S A s.heap s.heap [] := va_S.rf
  have hl := lv_entry ([.ref h0, .ref (kA 3)]) (n := 7) (Nat.le_of_ble_eq_true rfl)
  rw [lg_entry_eq]
  generalize (lg_sl ([.ref h0, .ref (kA 3)]) ++ List.replicate (7 - (lg_sl ([.ref h0, .ref (kA 3)])).length) Slot.unset).toArray = ls at hl ⊢
  have hl : lv_has ls 7 [(0, .ref h0), (1, .ref (kA 3))] := hl
  refine lv_iconst (v := 0) hx hb dX7_wordAmong_0 (by decide) ?_
  refine lv_istore_n (lv' := [(2, .int 0), (0, .ref h0), (1, .ref (kA 3))]) hx hb dX7_wordAmong_1 rfl hl (by decide) rfl (fun ls hl => ?_)
  refine lv_iconst (v := 0) hx hb dX7_wordAmong_2 (by decide) ?_
  refine lv_istore_n (lv' := [(3, .int 0), (2, .int 0), (0, .ref h0), (1, .ref (kA 3))]) hx hb dX7_wordAmong_3 rfl hl (by decide) rfl (fun ls hl => ?_)
  refine lv_iconst (v := 1) hx hb dX7_wordAmong_4 (by decide) ?_
  refine lv_istore (lv' := [(4, .int 1), (3, .int 0), (2, .int 0), (0, .ref h0), (1, .ref (kA 3))]) hx hb dX7_wordAmong_5 hl (by decide) rfl (fun ls hl => ?_)
  refine lv_iconst (v := 0) hx hb dX7_wordAmong_7 (by decide) ?_
  refine lv_istore (lv' := [(5, .int 0), (4, .int 1), (3, .int 0), (2, .int 0), (0, .ref h0), (1, .ref (kA 3))]) hx hb dX7_wordAmong_8 hl (by decide) rfl (fun ls hl => ?_)
  refine W.loop (I := fun n H locs g => ∃ (y_199 : Int32) (y_200 : Int32) (y_201 : Int32) (y_202 : Int32) (ls : Array Slot), bt 0 3 y_199 ∧ 3 - y_199.toInt < (n : Int) ∧ va_P (dC, dI) classes [(h0, .inr (7, [.ref tp, .int h0_length, .int h0_place, .int h0_fault])), (tp, .inl (ktp, 400, .inl gtp))] H ∧ va_D A [(h0, .inr (7, [.ref tp, .int h0_length, .int h0_place, .int h0_fault])), (tp, .inl (ktp, 400, .inl gtp))] ∧ va_S A s.heap H locs ∧ lv_has ls 7 [(5, .int y_199), (4, .int y_200), (3, .int y_201), (2, .int y_202), (0, .ref h0), (1, .ref (kA 3))] ∧ g = F0 m 10 ls []) (fun H locs g h => ?_) (fun n ih10 H locs g h => ?_) (n := 4) ⟨0, 1, 0, 0, _, (bt_w (bt_k (x := 0) (c := 0) (by decide)) (by decide)), (ms_0 (bt_k (x := 0) (c := 0) (by decide)) (by decide)), hP, hD, hS, hl, rfl⟩
  · obtain ⟨y_199, y_200, y_201, y_202, ls, bd_v_5, hm, hP, hD, hS, hl, rfl⟩ := h
    exact ms_z bd_v_5 hm
  · obtain ⟨y_199, y_200, y_201, y_202, ls, bd_v_5, hm10, hP, hD, hS, hl, rfl⟩ := h
    refine lv_iload hx hb dX7_wordAmong_10 (lv_at hl 0 rfl) ?_
    refine lv_aload_n hx hb dX7_wordAmong_12 rfl (lv_at hl 5 rfl) ?_
    have hPc := hP.sub (ws' := []) [] rfl
    have hDc := hD.sub (ws' := []) [] (by decide) rfl
    have hKc := hK.sub (tys' := []) [] rfl
    have hFc := va_free (wc := []) hD hS hA [] rfl
    refine va_calli (va_runV (As := []) (rest := [.int y_199]) ⟨hx, hb, hml, hown, hq⟩ (j_length_3 l dC dI _ kA vA  ) (cwV 0 hq (gV qw_551 qw_552 qw_553 qw_133 qw_554) rfl rfl rfl (by decide +kernel) ⟨Nat.le_of_ble_eq_true rfl, Nat.le_of_ble_eq_true rfl⟩) ⟨fun a U g mk q => by obtain ⟨q0, q1, qP, qK, qD, qE, qT⟩ := q; exact ⟨q0, q1, qP, va_K.moved (u := U) (U := U.calling g mk a) (Vm.Alike.refl U.vm) qK, qD, xE.same rfl qE, xT.same rfl qT⟩, xT_recv hT hS (i := 3) (by decide), fun U hU hW => ⟨rfl, by rw [hU], by rw [hU]; exact hPc, va_K.moved hW.alike hKc, hDc.weaken (fun _ _ _ _ => trivial), xE.warm hW hE, by rw [hU]; exact xT.call hW hT hS hFc⟩⟩ rfl rfl hl.1 rfl (lv_room (Nat.le_of_ble_eq_true rfl)) dX7_wordAmong_13 ⟨Nat.le_of_ble_eq_true rfl, Nat.le_of_ble_eq_true rfl⟩) hS (fun q _ h => hFc q h) hFc (fun r_348 u t H1 locs ht hvm hw hB hz1 hk1 hS => ?_)
    obtain ⟨hP1, hK1, hD1⟩ := hB
    rw [ht] at hP1
    obtain ⟨hP, hD⟩ := va_join (wr := [(h0, .inr (7, [.ref tp, .int h0_length, .int h0_place, .int h0_fault])), (tp, .inl (ktp, 400, .inl gtp))]) (w1 := []) hP hD [] [0, 1] rfl rfl (by decide) (by decide) hk1 hFc hP1 hD1
    generalize H1 = H at hP hS ⊢
    have hP : va_P (dC, dI) classes [(h0, .inr (7, [.ref tp, .int h0_length, .int h0_place, .int h0_fault])), (tp, .inl (ktp, 400, .inl gtp))] H := hP
    have hD : va_D A [(h0, .inr (7, [.ref tp, .int h0_length, .int h0_place, .int h0_fault])), (tp, .inl (ktp, 400, .inl gtp))] := hD
    obtain rfl : r_348 = 3 := hw
    refine lv_icmp_ge (tgt := 104) hx hb dX7_wordAmong_16 (by decide) (fun c_349 => ?_) (fun c_349 => ?_)
    · refine lv_iconst (v := (-1)) hx hb dX7_wordAmong_104 (by decide) ?_
      refine W.widen (k := 0) (n := 0) (Nat.le_of_ble_eq_true rfl) (Nat.le_of_ble_eq_true rfl) ?_
      exact W.iret (v := (-1)) hx hb hr (fun t ht hW => ⟨⟨(-1), (), rfl, trivial, by rw [ht]; exact hP, va_K.moved hW.alike hK, hD⟩, hS.F ht⟩) hS.2.2 dX7_wordAmong_105
    · refine lv_aload_n hx hb dX7_wordAmong_19 rfl (lv_at hl 5 rfl) ?_
      refine lv_iload hx hb dX7_wordAmong_20 (lv_at hl 0 rfl) ?_
      have b_350 : bt 0 2 y_199 := rf_lt_l bd_v_5 (bt_k (x := 3) (c := 3) (by decide)) (Int32.not_le.mp c_349) (by decide)
      have hPc := hP.sub (ws' := []) [] rfl
      have hDc := hD.sub (ws' := []) [] (by decide) rfl
      have hKc := hK.sub (tys' := []) [] rfl
      have hFc := va_free (wc := []) hD hS hA [] rfl
      refine va_calli (va_runV (As := [.int y_199]) (rest := []) ⟨hx, hb, hml, hown, hq⟩ (j_charAt_3 l dC dI _ kA vA y_199 b_350) (cwV 1 hq (gV qw_561 qw_562 qw_563 qw_133 qw_564) rfl rfl rfl (by decide +kernel) ⟨Nat.le_of_ble_eq_true rfl, Nat.le_of_ble_eq_true rfl⟩) ⟨fun a U g mk q => by obtain ⟨q0, q1, qP, qK, qD, qE, qT⟩ := q; exact ⟨q0, q1, qP, va_K.moved (u := U) (U := U.calling g mk a) (Vm.Alike.refl U.vm) qK, qD, xE.same rfl qE, xT.same rfl qT⟩, xT_recv hT hS (i := 3) (by decide), fun U hU hW => ⟨rfl, by rw [hU], by rw [hU]; exact hPc, va_K.moved hW.alike hKc, hDc.weaken (fun _ _ _ _ => trivial), xE.warm hW hE, by rw [hU]; exact xT.call hW hT hS hFc⟩⟩ rfl rfl hl.1 rfl (lv_room (Nat.le_of_ble_eq_true rfl)) dX7_wordAmong_22 ⟨Nat.le_of_ble_eq_true rfl, Nat.le_of_ble_eq_true rfl⟩) hS (fun q _ h => hFc q h) hFc (fun r_351 u t H1 locs ht hvm hw hB hz1 hk1 hS => ?_)
      obtain ⟨hP1, hK1, hD1⟩ := hB
      rw [ht] at hP1
      obtain ⟨hP, hD⟩ := va_join (wr := [(h0, .inr (7, [.ref tp, .int h0_length, .int h0_place, .int h0_fault])), (tp, .inl (ktp, 400, .inl gtp))]) (w1 := []) hP hD [] [0, 1] rfl rfl (by decide) (by decide) hk1 hFc hP1 hD1
      generalize H1 = H at hP hS ⊢
      have hP : va_P (dC, dI) classes [(h0, .inr (7, [.ref tp, .int h0_length, .int h0_place, .int h0_fault])), (tp, .inl (ktp, 400, .inl gtp))] H := hP
      have hD : va_D A [(h0, .inr (7, [.ref tp, .int h0_length, .int h0_place, .int h0_fault])), (tp, .inl (ktp, 400, .inl gtp))] := hD
      refine lv_istore (lv' := [(6, .int r_351), (5, .int y_199), (4, .int y_200), (3, .int y_201), (2, .int y_202), (0, .ref h0), (1, .ref (kA 3))]) hx hb dX7_wordAmong_25 hl (by decide) rfl (fun ls hl => ?_)
      refine lv_iload hx hb dX7_wordAmong_27 (lv_at hl 0 rfl) ?_
      refine lv_bipush (v := 32) hx hb dX7_wordAmong_29 (by decide) ?_
      refine W.cut (I := fun H locs g => ∃ (y_365 : Int32) (y_366 : Int32) (y_367 : Int32) (ls : Array Slot), va_P (dC, dI) classes [(h0, .inr (7, [.ref tp, .int h0_length, .int h0_place, .int h0_fault])), (tp, .inl (ktp, 400, .inl gtp))] H ∧ va_D A [(h0, .inr (7, [.ref tp, .int h0_length, .int h0_place, .int h0_fault])), (tp, .inl (ktp, 400, .inl gtp))] ∧ va_S A s.heap H locs ∧ lv_has ls 7 [(4, .int y_365), (3, .int y_366), (2, .int y_367), (5, .int y_199), (0, .ref h0), (1, .ref (kA 3))] ∧ g = F0 m 98 ls []) (fun H locs g h => ?_) (fun hJ98 => ?_)
      · obtain ⟨y_365, y_366, y_367, ls, hP, hD, hS, hl, rfl⟩ := h
        obtain ⟨y_369, ey_369⟩ : ∃ y : Int32, y = y_199 + 1 := ⟨_, rfl⟩
        refine lv_iinc (v := y_369) (lv' := [(5, .int y_369), (4, .int y_365), (3, .int y_366), (2, .int y_367), (0, .ref h0), (1, .ref (kA 3))]) hx hb dX7_wordAmong_98 hl (k := 3) rfl (by rw [ey_369]; rfl) (by decide) rfl (fun ls hl => ?_)
        refine lv_goto (tgt := 10) hx hb dX7_wordAmong_101 (by decide) ?_
        have b_370 : bt 1 3 y_369 := bt_add ey_369 b_350 (bt_k (x := 1) (c := 1) (by decide)) (by decide)
        exact ih10 _ _ _ ⟨y_369, y_365, y_366, y_367, _, (bt_w b_370 (by decide)), (ms_s ey_369 b_350 hm10 (by decide)), hP, hD, hS, hl, rfl⟩
      refine lv_icmp_eq (tgt := 67) hx hb dX7_wordAmong_31 (by decide) (fun c_371 => ?_) (fun c_371 => ?_)
      · refine lv_iload hx hb dX7_wordAmong_67 (lv_at hl 2 rfl) ?_
        refine W.cut (I := fun H locs g => ∃ (ls : Array Slot), va_P (dC, dI) classes [(h0, .inr (7, [.ref tp, .int h0_length, .int h0_place, .int h0_fault])), (tp, .inl (ktp, 400, .inl gtp))] H ∧ va_D A [(h0, .inr (7, [.ref tp, .int h0_length, .int h0_place, .int h0_fault])), (tp, .inl (ktp, 400, .inl gtp))] ∧ va_S A s.heap H locs ∧ lv_has ls 7 [(5, .int y_199), (2, .int y_202), (0, .ref h0), (1, .ref (kA 3))] ∧ g = F0 m 90 ls []) (fun H locs g h => ?_) (fun hJ90 => ?_)
        · obtain ⟨ls, hP, hD, hS, hl, rfl⟩ := h
          obtain ⟨y_378, ey_378⟩ : ∃ y : Int32, y = y_202 + 1 := ⟨_, rfl⟩
          refine lv_iinc (v := y_378) (lv' := [(2, .int y_378), (5, .int y_199), (0, .ref h0), (1, .ref (kA 3))]) hx hb dX7_wordAmong_90 hl (k := 1) rfl (by rw [ey_378]; rfl) (by decide) rfl (fun ls hl => ?_)
          refine lv_iconst (v := 0) hx hb dX7_wordAmong_93 (by decide) ?_
          refine lv_istore_n (lv' := [(3, .int 0), (2, .int y_378), (5, .int y_199), (0, .ref h0), (1, .ref (kA 3))]) hx hb dX7_wordAmong_94 rfl hl (by decide) rfl (fun ls hl => ?_)
          refine lv_iconst (v := 1) hx hb dX7_wordAmong_95 (by decide) ?_
          refine lv_istore (lv' := [(4, .int 1), (3, .int 0), (2, .int y_378), (5, .int y_199), (0, .ref h0), (1, .ref (kA 3))]) hx hb dX7_wordAmong_96 hl (by decide) rfl (fun ls hl => ?_)
          exact hJ98 _ _ _ ⟨1, 0, y_378, _, hP, hD, hS, hl, rfl⟩
        refine lv_if_eq (tgt := 90) hx hb dX7_wordAmong_69 (by decide) (fun c_379 => ?_) (fun c_379 => ?_)
        · exact hJ90 _ _ _ ⟨_, hP, hD, hS, (lv_sub hl [1, 4, 5, 6] rfl), rfl⟩
        · refine lv_aload_n hx hb dX7_wordAmong_72 rfl (lv_at hl 5 rfl) ?_
          refine lv_aload_n hx hb dX7_wordAmong_73 rfl (lv_at hl 5 rfl) ?_
          refine va_get (D := (dC, dI)) (ci := 7) (v := .int h0_place) (C := RX7) (T := TX7) (N := 4) hx hb hq inX7 hown hK hP 0 rfl rfl 2 (by decide) (hq _ qw_161) (fun _ h9 => h9) rfl dX7_wordAmong_74 ?_
          refine lv_iload_n hx hb dX7_wordAmong_77 rfl (lv_at hl 3 rfl) ?_
          refine lv_iadd hx hb dX7_wordAmong_78 ?_
          refine lv_topi (fun y_380 ey_380 => ?_)
          have hPc := hP.sub (ws' := [(h0, .inr (7, [.ref tp, .int h0_length, .int h0_place, .int h0_fault])), (tp, .inl (ktp, 400, .inl gtp))]) [0, 1] rfl
          have hDc := hD.sub (ws' := [(h0, .inr (7, [.ref tp, .int h0_length, .int h0_place, .int h0_fault])), (tp, .inl (ktp, 400, .inl gtp))]) [0, 1] (by decide) rfl
          have hKc := hK.sub (tys' := [(ktp, .int)]) [0] rfl
          have hFc := va_free (wc := [(h0, .inr (7, [.ref tp, .int h0_length, .int h0_place, .int h0_fault])), (tp, .inl (ktp, 400, .inl gtp))]) hD hS hA [0, 1] rfl
          refine va_calli (va_runV (As := [.int y_380]) (rest := []) ⟨hx, hb, hml, hown, hq⟩ (rd_byteAt l dC dI _ h0 tp h0_length h0_place h0_fault ktp gtp y_380 ) (cwV 1 hq (gV qw_542 qw_544 qw_1 qw_121 qw_545) rfl rfl rfl (by decide +kernel) ⟨Nat.le_of_ble_eq_true rfl, Nat.le_of_ble_eq_true rfl⟩) ⟨fun a U g mk q => by obtain ⟨q0, q1, qP, qK, qD, qE⟩ := q; exact ⟨q0, q1, qP, va_K.moved (u := U) (U := U.calling g mk a) (Vm.Alike.refl U.vm) qK, qD, xE.same rfl qE⟩, va_recv hKc hPc (ci := 7) (q0 := 0) rfl rfl, fun U hU hW => ⟨rfl, by rw [hU], by rw [hU]; exact hPc, va_K.moved hW.alike hKc, hDc.weaken (fun _ _ _ _ => trivial), xE.warm hW hE⟩⟩ rfl rfl hl.1 rfl (lv_room (Nat.le_of_ble_eq_true rfl)) dX7_wordAmong_79 ⟨Nat.le_of_ble_eq_true rfl, Nat.le_of_ble_eq_true rfl⟩) hS (fun q _ h => hFc q h) hFc (fun r_381 u t H1 locs ht hvm hw hB hz1 hk1 hS => ?_)
          obtain ⟨hP1, hK1, hD1⟩ := hB
          rw [ht] at hP1
          obtain ⟨hP, hD⟩ := va_join (wr := []) (w1 := [(h0, .inr (7, [.ref tp, .int h0_length, .int h0_place, .int h0_fault])), (tp, .inl (ktp, 400, .inl gtp))]) hP hD [0, 1] [] rfl rfl (by decide) (by decide) hk1 hFc hP1 hD1
          generalize H1 = H at hP hS ⊢
          have hP : va_P (dC, dI) classes [(h0, .inr (7, [.ref tp, .int h0_length, .int h0_place, .int h0_fault])), (tp, .inl (ktp, 400, .inl gtp))] H := hP
          have hD : va_D A [(h0, .inr (7, [.ref tp, .int h0_length, .int h0_place, .int h0_fault])), (tp, .inl (ktp, 400, .inl gtp))] := hD
          have hPc := hP.sub (ws' := []) [] rfl
          have hDc := hD.sub (ws' := []) [] (by decide) rfl
          have hKc := hK.sub (tys' := []) [] rfl
          have hFc := va_free (wc := []) hD hS hA [] rfl
          refine va_calli (va_runS (As := [.int r_381]) (rest := []) ⟨hx, hb, hml, hown, hq⟩ (rd_isLetter l dC dI _ r_381 ) (cwS 1 hq (gS qw_599 qw_600 qw_121 qw_601) rfl rfl rfl (by decide +kernel) ⟨Nat.le_of_ble_eq_true rfl, Nat.le_of_ble_eq_true rfl⟩) ⟨fun a U g mk q => by obtain ⟨q0, q1, qP, qK, qD, qE⟩ := q; exact ⟨q0, q1, qP, va_K.moved (u := U) (U := U.calling g mk a) (Vm.Alike.refl U.vm) qK, qD, xE.same rfl qE⟩, fun U hU hW => ⟨rfl, by rw [hU], by rw [hU]; exact hPc, va_K.moved hW.alike hKc, hDc.weaken (fun _ _ _ _ => trivial), xE.warm hW hE⟩⟩ rfl rfl hl.1 rfl (lv_room (Nat.le_of_ble_eq_true rfl)) dX7_wordAmong_82 ⟨Nat.le_of_ble_eq_true rfl, Nat.le_of_ble_eq_true rfl⟩) hS (fun q _ h => hFc q h) hFc (fun r_382 u t H1 locs ht hvm hw hB hz1 hk1 hS => ?_)
          obtain ⟨hP1, hK1, hD1⟩ := hB
          rw [ht] at hP1
          obtain ⟨hP, hD⟩ := va_join (wr := [(h0, .inr (7, [.ref tp, .int h0_length, .int h0_place, .int h0_fault])), (tp, .inl (ktp, 400, .inl gtp))]) (w1 := []) hP hD [] [0, 1] rfl rfl (by decide) (by decide) hk1 hFc hP1 hD1
          generalize H1 = H at hP hS ⊢
          have hP : va_P (dC, dI) classes [(h0, .inr (7, [.ref tp, .int h0_length, .int h0_place, .int h0_fault])), (tp, .inl (ktp, 400, .inl gtp))] H := hP
          have hD : va_D A [(h0, .inr (7, [.ref tp, .int h0_length, .int h0_place, .int h0_fault])), (tp, .inl (ktp, 400, .inl gtp))] := hD
          refine lv_if_ne (tgt := 90) hx hb dX7_wordAmong_85 (by decide) (fun c_383 => ?_) (fun c_383 => ?_)
          · exact hJ90 _ _ _ ⟨_, hP, hD, hS, (lv_sub hl [1, 4, 5, 6] rfl), rfl⟩
          · refine lv_iload_n hx hb dX7_wordAmong_88 rfl (lv_at hl 4 rfl) ?_
            refine W.widen (k := 0) (n := 0) (Nat.le_of_ble_eq_true rfl) (Nat.le_of_ble_eq_true rfl) ?_
            exact W.iret (v := y_202) hx hb hr (fun t ht hW => ⟨⟨y_202, (), rfl, trivial, by rw [ht]; exact hP, va_K.moved hW.alike hK, hD⟩, hS.F ht⟩) hS.2.2 dX7_wordAmong_89
      · refine lv_iload hx hb dX7_wordAmong_34 (lv_at hl 2 rfl) ?_
        refine W.cut (I := fun H locs g => ∃ (y_388 : Int32) (ls : Array Slot), va_P (dC, dI) classes [(h0, .inr (7, [.ref tp, .int h0_length, .int h0_place, .int h0_fault])), (tp, .inl (ktp, 400, .inl gtp))] H ∧ va_D A [(h0, .inr (7, [.ref tp, .int h0_length, .int h0_place, .int h0_fault])), (tp, .inl (ktp, 400, .inl gtp))] ∧ va_S A s.heap H locs ∧ lv_has ls 7 [(5, .int y_199), (3, .int y_201), (2, .int y_202), (0, .ref h0), (1, .ref (kA 3))] ∧ g = F0 m 59 ls [.int y_388]) (fun H locs g h => ?_) (fun hJ59 => ?_)
        · obtain ⟨y_388, ls, hP, hD, hS, hl, rfl⟩ := h
          refine lv_istore (lv' := [(4, .int y_388), (5, .int y_199), (3, .int y_201), (2, .int y_202), (0, .ref h0), (1, .ref (kA 3))]) hx hb dX7_wordAmong_59 hl (by decide) rfl (fun ls hl => ?_)
          obtain ⟨y_390, ey_390⟩ : ∃ y : Int32, y = y_201 + 1 := ⟨_, rfl⟩
          refine lv_iinc (v := y_390) (lv' := [(3, .int y_390), (4, .int y_388), (5, .int y_199), (2, .int y_202), (0, .ref h0), (1, .ref (kA 3))]) hx hb dX7_wordAmong_61 hl (k := 2) rfl (by rw [ey_390]; rfl) (by decide) rfl (fun ls hl => ?_)
          refine lv_goto (tgt := 98) hx hb dX7_wordAmong_64 (by decide) ?_
          exact hJ98 _ _ _ ⟨y_388, y_390, y_202, _, hP, hD, hS, (lv_sub hl [1, 0, 3, 2, 4, 5] rfl), rfl⟩
        refine W.cut (I := fun H locs g => ∃ (ls : Array Slot), va_P (dC, dI) classes [(h0, .inr (7, [.ref tp, .int h0_length, .int h0_place, .int h0_fault])), (tp, .inl (ktp, 400, .inl gtp))] H ∧ va_D A [(h0, .inr (7, [.ref tp, .int h0_length, .int h0_place, .int h0_fault])), (tp, .inl (ktp, 400, .inl gtp))] ∧ va_S A s.heap H locs ∧ lv_has ls 7 [(5, .int y_199), (3, .int y_201), (2, .int y_202), (0, .ref h0), (1, .ref (kA 3))] ∧ g = F0 m 58 ls []) (fun H locs g h => ?_) (fun hJ58 => ?_)
        · obtain ⟨ls, hP, hD, hS, hl, rfl⟩ := h
          refine lv_iconst (v := 0) hx hb dX7_wordAmong_58 (by decide) ?_
          exact hJ59 _ _ _ ⟨0, _, hP, hD, hS, hl, rfl⟩
        refine lv_if_eq (tgt := 58) hx hb dX7_wordAmong_36 (by decide) (fun c_391 => ?_) (fun c_391 => ?_)
        · exact hJ58 _ _ _ ⟨_, hP, hD, hS, (lv_sub hl [1, 3, 4, 5, 6] rfl), rfl⟩
        · refine lv_aload_n hx hb dX7_wordAmong_39 rfl (lv_at hl 5 rfl) ?_
          refine lv_aload_n hx hb dX7_wordAmong_40 rfl (lv_at hl 5 rfl) ?_
          refine va_get (D := (dC, dI)) (ci := 7) (v := .int h0_place) (C := RX7) (T := TX7) (N := 4) hx hb hq inX7 hown hK hP 0 rfl rfl 2 (by decide) (hq _ qw_161) (fun _ h9 => h9) rfl dX7_wordAmong_41 ?_
          refine lv_iload_n hx hb dX7_wordAmong_44 rfl (lv_at hl 3 rfl) ?_
          refine lv_iadd hx hb dX7_wordAmong_45 ?_
          refine lv_topi (fun y_392 ey_392 => ?_)
          have hPc := hP.sub (ws' := [(h0, .inr (7, [.ref tp, .int h0_length, .int h0_place, .int h0_fault])), (tp, .inl (ktp, 400, .inl gtp))]) [0, 1] rfl
          have hDc := hD.sub (ws' := [(h0, .inr (7, [.ref tp, .int h0_length, .int h0_place, .int h0_fault])), (tp, .inl (ktp, 400, .inl gtp))]) [0, 1] (by decide) rfl
          have hKc := hK.sub (tys' := [(ktp, .int)]) [0] rfl
          have hFc := va_free (wc := [(h0, .inr (7, [.ref tp, .int h0_length, .int h0_place, .int h0_fault])), (tp, .inl (ktp, 400, .inl gtp))]) hD hS hA [0, 1] rfl
          refine va_calli (va_runV (As := [.int y_392]) (rest := []) ⟨hx, hb, hml, hown, hq⟩ (rd_byteAt l dC dI _ h0 tp h0_length h0_place h0_fault ktp gtp y_392 ) (cwV 1 hq (gV qw_542 qw_544 qw_1 qw_121 qw_545) rfl rfl rfl (by decide +kernel) ⟨Nat.le_of_ble_eq_true rfl, Nat.le_of_ble_eq_true rfl⟩) ⟨fun a U g mk q => by obtain ⟨q0, q1, qP, qK, qD, qE⟩ := q; exact ⟨q0, q1, qP, va_K.moved (u := U) (U := U.calling g mk a) (Vm.Alike.refl U.vm) qK, qD, xE.same rfl qE⟩, va_recv hKc hPc (ci := 7) (q0 := 0) rfl rfl, fun U hU hW => ⟨rfl, by rw [hU], by rw [hU]; exact hPc, va_K.moved hW.alike hKc, hDc.weaken (fun _ _ _ _ => trivial), xE.warm hW hE⟩⟩ rfl rfl hl.1 rfl (lv_room (Nat.le_of_ble_eq_true rfl)) dX7_wordAmong_46 ⟨Nat.le_of_ble_eq_true rfl, Nat.le_of_ble_eq_true rfl⟩) hS (fun q _ h => hFc q h) hFc (fun r_393 u t H1 locs ht hvm hw hB hz1 hk1 hS => ?_)
          obtain ⟨hP1, hK1, hD1⟩ := hB
          rw [ht] at hP1
          obtain ⟨hP, hD⟩ := va_join (wr := []) (w1 := [(h0, .inr (7, [.ref tp, .int h0_length, .int h0_place, .int h0_fault])), (tp, .inl (ktp, 400, .inl gtp))]) hP hD [0, 1] [] rfl rfl (by decide) (by decide) hk1 hFc hP1 hD1
          generalize H1 = H at hP hS ⊢
          have hP : va_P (dC, dI) classes [(h0, .inr (7, [.ref tp, .int h0_length, .int h0_place, .int h0_fault])), (tp, .inl (ktp, 400, .inl gtp))] H := hP
          have hD : va_D A [(h0, .inr (7, [.ref tp, .int h0_length, .int h0_place, .int h0_fault])), (tp, .inl (ktp, 400, .inl gtp))] := hD
          refine lv_iload hx hb dX7_wordAmong_49 (lv_at hl 0 rfl) ?_
          refine lv_icmp_ne (tgt := 58) hx hb dX7_wordAmong_51 (by decide) (fun c_394 => ?_) (fun c_394 => ?_)
          · exact hJ58 _ _ _ ⟨_, hP, hD, hS, (lv_sub hl [1, 3, 4, 5, 6] rfl), rfl⟩
          · refine lv_iconst (v := 1) hx hb dX7_wordAmong_54 (by decide) ?_
            refine lv_goto (tgt := 59) hx hb dX7_wordAmong_55 (by decide) ?_
            exact hJ59 _ _ _ ⟨1, _, hP, hD, hS, (lv_sub hl [1, 3, 4, 5, 6] rfl), rfl⟩

set_option maxHeartbeats 4000000 in
set_option maxRecDepth 100000 in
/-- rd_word_4 -/
theorem rd_word_4 (l : Launch) (dC : Nat → ClassId) (dI : Nat → Nat → Nat) (sz : Nat) (kA vA : Nat → Nat) (h0 : Nat) (tp : Nat) (h0_length : Int32) (h0_place : Int32) (h0_fault : Int32) (ktp : ClassId) (gtp : Nat → Int32) : Met l yX7_wordAmong (.code yX7_wordAmong cX7_wordAmong 7 (some .int) :: wsA) ({ frames := 4, cells := 0, slots := 0, locals := 85 }) (va_Pc [.ref h0, .ref (kA 4)] (fun U => U.heap.size = sz ∧ va_P (dC, dI) classes [(h0, .inr (7, [.ref tp, .int h0_length, .int h0_place, .int h0_fault])), (tp, .inl (ktp, 400, .inl gtp))] U.heap ∧ va_K (dC, dI) classes [(ktp, .int)] U ∧ va_D (fun _ => True) [(h0, .inr (7, [.ref tp, .int h0_length, .int h0_place, .int h0_fault])), (tp, .inl (ktp, 400, .inl gtp))] ∧ xE U ∧ xT kA vA (va_A [(h0, .inr (7, [.ref tp, .int h0_length, .int h0_place, .int h0_fault])), (tp, .inl (ktp, 400, .inl gtp))] sz) U U.heap)) (va_Qi (fun (r : Int32) (_ : Unit) => True) (fun _ t => va_P (dC, dI) classes [(h0, .inr (7, [.ref tp, .int h0_length, .int h0_place, .int h0_fault])), (tp, .inl (ktp, 400, .inl gtp))] t.heap ∧ va_K (dC, dI) classes [(ktp, .int)] t ∧ va_D (va_A [(h0, .inr (7, [.ref tp, .int h0_length, .int h0_place, .int h0_fault])), (tp, .inl (ktp, 400, .inl gtp))] sz) [(h0, .inr (7, [.ref tp, .int h0_length, .int h0_place, .int h0_fault])), (tp, .inl (ktp, 400, .inl gtp))]) (va_A [(h0, .inr (7, [.ref tp, .int h0_length, .int h0_place, .int h0_fault])), (tp, .inl (ktp, 400, .inl gtp))] sz)) 0 0 (va_A [(h0, .inr (7, [.ref tp, .int h0_length, .int h0_place, .int h0_fault])), (tp, .inl (ktp, 400, .inl gtp))] sz) := by
  refine Met.ofW (cc := cX7_wordAmong) (maxL := 7) (ret := (some .int)) (by decide) rfl ?_
  intro p e s m args below meth c s₁ B hml hv
  obtain ⟨rfl, hsz, hP, hK, hD0, hE, hT⟩ := hv
  have hx := B.exec
  have hb := B.bytes
  have hr := B.returns
  have hts := atoms_spec (ws := .code yX7_wordAmong cX7_wordAmong 7 (some .int) :: wsA) B.pre
  have hq : ∀ w ∈ wsA, w.before _ s = true := fun w h => hts w (List.mem_cons_of_mem _ h)
  have hown : s.vm.findClass RX7 = some m.cls := findClass_of_methodNamed B.named
  have hlocks := B.notSynchronized
  subst hsz
  have hD := hD0.self (sz := s.heap.size)
  generalize hAe : va_A [(h0, .inr (7, [.ref tp, .int h0_length, .int h0_place, .int h0_fault])), (tp, .inl (ktp, 400, .inl gtp))] s.heap.size = A at hD hT ⊢
  have hA : ∀ q : Nat, s.heap.size ≤ q → A q := fun q h => by rw [← hAe]; exact Or.inr h
  have hS : va_S A s.heap s.heap [] := va_S.rf
  have hl := lv_entry ([.ref h0, .ref (kA 4)]) (n := 7) (Nat.le_of_ble_eq_true rfl)
  rw [lg_entry_eq]
  generalize (lg_sl ([.ref h0, .ref (kA 4)]) ++ List.replicate (7 - (lg_sl ([.ref h0, .ref (kA 4)])).length) Slot.unset).toArray = ls at hl ⊢
  have hl : lv_has ls 7 [(0, .ref h0), (1, .ref (kA 4))] := hl
  refine lv_iconst (v := 0) hx hb dX7_wordAmong_0 (by decide) ?_
  refine lv_istore_n (lv' := [(2, .int 0), (0, .ref h0), (1, .ref (kA 4))]) hx hb dX7_wordAmong_1 rfl hl (by decide) rfl (fun ls hl => ?_)
  refine lv_iconst (v := 0) hx hb dX7_wordAmong_2 (by decide) ?_
  refine lv_istore_n (lv' := [(3, .int 0), (2, .int 0), (0, .ref h0), (1, .ref (kA 4))]) hx hb dX7_wordAmong_3 rfl hl (by decide) rfl (fun ls hl => ?_)
  refine lv_iconst (v := 1) hx hb dX7_wordAmong_4 (by decide) ?_
  refine lv_istore (lv' := [(4, .int 1), (3, .int 0), (2, .int 0), (0, .ref h0), (1, .ref (kA 4))]) hx hb dX7_wordAmong_5 hl (by decide) rfl (fun ls hl => ?_)
  refine lv_iconst (v := 0) hx hb dX7_wordAmong_7 (by decide) ?_
  refine lv_istore (lv' := [(5, .int 0), (4, .int 1), (3, .int 0), (2, .int 0), (0, .ref h0), (1, .ref (kA 4))]) hx hb dX7_wordAmong_8 hl (by decide) rfl (fun ls hl => ?_)
  refine W.loop (I := fun n H locs g => ∃ (y_198 : Int32) (y_199 : Int32) (y_200 : Int32) (y_201 : Int32) (ls : Array Slot), bt 0 4 y_198 ∧ 4 - y_198.toInt < (n : Int) ∧ va_P (dC, dI) classes [(h0, .inr (7, [.ref tp, .int h0_length, .int h0_place, .int h0_fault])), (tp, .inl (ktp, 400, .inl gtp))] H ∧ va_D A [(h0, .inr (7, [.ref tp, .int h0_length, .int h0_place, .int h0_fault])), (tp, .inl (ktp, 400, .inl gtp))] ∧ va_S A s.heap H locs ∧ lv_has ls 7 [(5, .int y_198), (4, .int y_199), (3, .int y_200), (2, .int y_201), (0, .ref h0), (1, .ref (kA 4))] ∧ g = F0 m 10 ls []) (fun H locs g h => ?_) (fun n ih10 H locs g h => ?_) (n := 5) ⟨0, 1, 0, 0, _, (bt_w (bt_k (x := 0) (c := 0) (by decide)) (by decide)), (ms_0 (bt_k (x := 0) (c := 0) (by decide)) (by decide)), hP, hD, hS, hl, rfl⟩
  · obtain ⟨y_198, y_199, y_200, y_201, ls, bd_v_5, hm, hP, hD, hS, hl, rfl⟩ := h
    exact ms_z bd_v_5 hm
  · obtain ⟨y_198, y_199, y_200, y_201, ls, bd_v_5, hm10, hP, hD, hS, hl, rfl⟩ := h
    refine lv_iload hx hb dX7_wordAmong_10 (lv_at hl 0 rfl) ?_
    refine lv_aload_n hx hb dX7_wordAmong_12 rfl (lv_at hl 5 rfl) ?_
    have hPc := hP.sub (ws' := []) [] rfl
    have hDc := hD.sub (ws' := []) [] (by decide) rfl
    have hKc := hK.sub (tys' := []) [] rfl
    have hFc := va_free (wc := []) hD hS hA [] rfl
    refine va_calli (va_runV (As := []) (rest := [.int y_198]) ⟨hx, hb, hml, hown, hq⟩ (j_length_4 l dC dI _ kA vA  ) (cwV 0 hq (gV qw_551 qw_552 qw_553 qw_133 qw_554) rfl rfl rfl (by decide +kernel) ⟨Nat.le_of_ble_eq_true rfl, Nat.le_of_ble_eq_true rfl⟩) ⟨fun a U g mk q => by obtain ⟨q0, q1, qP, qK, qD, qE, qT⟩ := q; exact ⟨q0, q1, qP, va_K.moved (u := U) (U := U.calling g mk a) (Vm.Alike.refl U.vm) qK, qD, xE.same rfl qE, xT.same rfl qT⟩, xT_recv hT hS (i := 4) (by decide), fun U hU hW => ⟨rfl, by rw [hU], by rw [hU]; exact hPc, va_K.moved hW.alike hKc, hDc.weaken (fun _ _ _ _ => trivial), xE.warm hW hE, by rw [hU]; exact xT.call hW hT hS hFc⟩⟩ rfl rfl hl.1 rfl (lv_room (Nat.le_of_ble_eq_true rfl)) dX7_wordAmong_13 ⟨Nat.le_of_ble_eq_true rfl, Nat.le_of_ble_eq_true rfl⟩) hS (fun q _ h => hFc q h) hFc (fun r_346 u t H1 locs ht hvm hw hB hz1 hk1 hS => ?_)
    obtain ⟨hP1, hK1, hD1⟩ := hB
    rw [ht] at hP1
    obtain ⟨hP, hD⟩ := va_join (wr := [(h0, .inr (7, [.ref tp, .int h0_length, .int h0_place, .int h0_fault])), (tp, .inl (ktp, 400, .inl gtp))]) (w1 := []) hP hD [] [0, 1] rfl rfl (by decide) (by decide) hk1 hFc hP1 hD1
    generalize H1 = H at hP hS ⊢
    have hP : va_P (dC, dI) classes [(h0, .inr (7, [.ref tp, .int h0_length, .int h0_place, .int h0_fault])), (tp, .inl (ktp, 400, .inl gtp))] H := hP
    have hD : va_D A [(h0, .inr (7, [.ref tp, .int h0_length, .int h0_place, .int h0_fault])), (tp, .inl (ktp, 400, .inl gtp))] := hD
    obtain rfl : r_346 = 4 := hw
    refine lv_icmp_ge (tgt := 104) hx hb dX7_wordAmong_16 (by decide) (fun c_347 => ?_) (fun c_347 => ?_)
    · refine lv_iconst (v := (-1)) hx hb dX7_wordAmong_104 (by decide) ?_
      refine W.widen (k := 0) (n := 0) (Nat.le_of_ble_eq_true rfl) (Nat.le_of_ble_eq_true rfl) ?_
      exact W.iret (v := (-1)) hx hb hr (fun t ht hW => ⟨⟨(-1), (), rfl, trivial, by rw [ht]; exact hP, va_K.moved hW.alike hK, hD⟩, hS.F ht⟩) hS.2.2 dX7_wordAmong_105
    · refine lv_aload_n hx hb dX7_wordAmong_19 rfl (lv_at hl 5 rfl) ?_
      refine lv_iload hx hb dX7_wordAmong_20 (lv_at hl 0 rfl) ?_
      have b_348 : bt 0 3 y_198 := rf_lt_l bd_v_5 (bt_k (x := 4) (c := 4) (by decide)) (Int32.not_le.mp c_347) (by decide)
      have hPc := hP.sub (ws' := []) [] rfl
      have hDc := hD.sub (ws' := []) [] (by decide) rfl
      have hKc := hK.sub (tys' := []) [] rfl
      have hFc := va_free (wc := []) hD hS hA [] rfl
      refine va_calli (va_runV (As := [.int y_198]) (rest := []) ⟨hx, hb, hml, hown, hq⟩ (j_charAt_4 l dC dI _ kA vA y_198 b_348) (cwV 1 hq (gV qw_561 qw_562 qw_563 qw_133 qw_564) rfl rfl rfl (by decide +kernel) ⟨Nat.le_of_ble_eq_true rfl, Nat.le_of_ble_eq_true rfl⟩) ⟨fun a U g mk q => by obtain ⟨q0, q1, qP, qK, qD, qE, qT⟩ := q; exact ⟨q0, q1, qP, va_K.moved (u := U) (U := U.calling g mk a) (Vm.Alike.refl U.vm) qK, qD, xE.same rfl qE, xT.same rfl qT⟩, xT_recv hT hS (i := 4) (by decide), fun U hU hW => ⟨rfl, by rw [hU], by rw [hU]; exact hPc, va_K.moved hW.alike hKc, hDc.weaken (fun _ _ _ _ => trivial), xE.warm hW hE, by rw [hU]; exact xT.call hW hT hS hFc⟩⟩ rfl rfl hl.1 rfl (lv_room (Nat.le_of_ble_eq_true rfl)) dX7_wordAmong_22 ⟨Nat.le_of_ble_eq_true rfl, Nat.le_of_ble_eq_true rfl⟩) hS (fun q _ h => hFc q h) hFc (fun r_349 u t H1 locs ht hvm hw hB hz1 hk1 hS => ?_)
      obtain ⟨hP1, hK1, hD1⟩ := hB
      rw [ht] at hP1
      obtain ⟨hP, hD⟩ := va_join (wr := [(h0, .inr (7, [.ref tp, .int h0_length, .int h0_place, .int h0_fault])), (tp, .inl (ktp, 400, .inl gtp))]) (w1 := []) hP hD [] [0, 1] rfl rfl (by decide) (by decide) hk1 hFc hP1 hD1
      generalize H1 = H at hP hS ⊢
      have hP : va_P (dC, dI) classes [(h0, .inr (7, [.ref tp, .int h0_length, .int h0_place, .int h0_fault])), (tp, .inl (ktp, 400, .inl gtp))] H := hP
      have hD : va_D A [(h0, .inr (7, [.ref tp, .int h0_length, .int h0_place, .int h0_fault])), (tp, .inl (ktp, 400, .inl gtp))] := hD
      refine lv_istore (lv' := [(6, .int r_349), (5, .int y_198), (4, .int y_199), (3, .int y_200), (2, .int y_201), (0, .ref h0), (1, .ref (kA 4))]) hx hb dX7_wordAmong_25 hl (by decide) rfl (fun ls hl => ?_)
      refine lv_iload hx hb dX7_wordAmong_27 (lv_at hl 0 rfl) ?_
      refine lv_bipush (v := 32) hx hb dX7_wordAmong_29 (by decide) ?_
      refine W.cut (I := fun H locs g => ∃ (y_363 : Int32) (y_364 : Int32) (y_365 : Int32) (ls : Array Slot), va_P (dC, dI) classes [(h0, .inr (7, [.ref tp, .int h0_length, .int h0_place, .int h0_fault])), (tp, .inl (ktp, 400, .inl gtp))] H ∧ va_D A [(h0, .inr (7, [.ref tp, .int h0_length, .int h0_place, .int h0_fault])), (tp, .inl (ktp, 400, .inl gtp))] ∧ va_S A s.heap H locs ∧ lv_has ls 7 [(4, .int y_363), (3, .int y_364), (2, .int y_365), (5, .int y_198), (0, .ref h0), (1, .ref (kA 4))] ∧ g = F0 m 98 ls []) (fun H locs g h => ?_) (fun hJ98 => ?_)
      · obtain ⟨y_363, y_364, y_365, ls, hP, hD, hS, hl, rfl⟩ := h
        obtain ⟨y_367, ey_367⟩ : ∃ y : Int32, y = y_198 + 1 := ⟨_, rfl⟩
        refine lv_iinc (v := y_367) (lv' := [(5, .int y_367), (4, .int y_363), (3, .int y_364), (2, .int y_365), (0, .ref h0), (1, .ref (kA 4))]) hx hb dX7_wordAmong_98 hl (k := 3) rfl (by rw [ey_367]; rfl) (by decide) rfl (fun ls hl => ?_)
        refine lv_goto (tgt := 10) hx hb dX7_wordAmong_101 (by decide) ?_
        have b_368 : bt 1 4 y_367 := bt_add ey_367 b_348 (bt_k (x := 1) (c := 1) (by decide)) (by decide)
        exact ih10 _ _ _ ⟨y_367, y_363, y_364, y_365, _, (bt_w b_368 (by decide)), (ms_s ey_367 b_348 hm10 (by decide)), hP, hD, hS, hl, rfl⟩
      refine lv_icmp_eq (tgt := 67) hx hb dX7_wordAmong_31 (by decide) (fun c_369 => ?_) (fun c_369 => ?_)
      · refine lv_iload hx hb dX7_wordAmong_67 (lv_at hl 2 rfl) ?_
        refine W.cut (I := fun H locs g => ∃ (ls : Array Slot), va_P (dC, dI) classes [(h0, .inr (7, [.ref tp, .int h0_length, .int h0_place, .int h0_fault])), (tp, .inl (ktp, 400, .inl gtp))] H ∧ va_D A [(h0, .inr (7, [.ref tp, .int h0_length, .int h0_place, .int h0_fault])), (tp, .inl (ktp, 400, .inl gtp))] ∧ va_S A s.heap H locs ∧ lv_has ls 7 [(5, .int y_198), (2, .int y_201), (0, .ref h0), (1, .ref (kA 4))] ∧ g = F0 m 90 ls []) (fun H locs g h => ?_) (fun hJ90 => ?_)
        · obtain ⟨ls, hP, hD, hS, hl, rfl⟩ := h
          obtain ⟨y_376, ey_376⟩ : ∃ y : Int32, y = y_201 + 1 := ⟨_, rfl⟩
          refine lv_iinc (v := y_376) (lv' := [(2, .int y_376), (5, .int y_198), (0, .ref h0), (1, .ref (kA 4))]) hx hb dX7_wordAmong_90 hl (k := 1) rfl (by rw [ey_376]; rfl) (by decide) rfl (fun ls hl => ?_)
          refine lv_iconst (v := 0) hx hb dX7_wordAmong_93 (by decide) ?_
          refine lv_istore_n (lv' := [(3, .int 0), (2, .int y_376), (5, .int y_198), (0, .ref h0), (1, .ref (kA 4))]) hx hb dX7_wordAmong_94 rfl hl (by decide) rfl (fun ls hl => ?_)
          refine lv_iconst (v := 1) hx hb dX7_wordAmong_95 (by decide) ?_
          refine lv_istore (lv' := [(4, .int 1), (3, .int 0), (2, .int y_376), (5, .int y_198), (0, .ref h0), (1, .ref (kA 4))]) hx hb dX7_wordAmong_96 hl (by decide) rfl (fun ls hl => ?_)
          exact hJ98 _ _ _ ⟨1, 0, y_376, _, hP, hD, hS, hl, rfl⟩
        refine lv_if_eq (tgt := 90) hx hb dX7_wordAmong_69 (by decide) (fun c_377 => ?_) (fun c_377 => ?_)
        · exact hJ90 _ _ _ ⟨_, hP, hD, hS, (lv_sub hl [1, 4, 5, 6] rfl), rfl⟩
        · refine lv_aload_n hx hb dX7_wordAmong_72 rfl (lv_at hl 5 rfl) ?_
          refine lv_aload_n hx hb dX7_wordAmong_73 rfl (lv_at hl 5 rfl) ?_
          refine va_get (D := (dC, dI)) (ci := 7) (v := .int h0_place) (C := RX7) (T := TX7) (N := 4) hx hb hq inX7 hown hK hP 0 rfl rfl 2 (by decide) (hq _ qw_161) (fun _ h9 => h9) rfl dX7_wordAmong_74 ?_
          refine lv_iload_n hx hb dX7_wordAmong_77 rfl (lv_at hl 3 rfl) ?_
          refine lv_iadd hx hb dX7_wordAmong_78 ?_
          refine lv_topi (fun y_378 ey_378 => ?_)
          have hPc := hP.sub (ws' := [(h0, .inr (7, [.ref tp, .int h0_length, .int h0_place, .int h0_fault])), (tp, .inl (ktp, 400, .inl gtp))]) [0, 1] rfl
          have hDc := hD.sub (ws' := [(h0, .inr (7, [.ref tp, .int h0_length, .int h0_place, .int h0_fault])), (tp, .inl (ktp, 400, .inl gtp))]) [0, 1] (by decide) rfl
          have hKc := hK.sub (tys' := [(ktp, .int)]) [0] rfl
          have hFc := va_free (wc := [(h0, .inr (7, [.ref tp, .int h0_length, .int h0_place, .int h0_fault])), (tp, .inl (ktp, 400, .inl gtp))]) hD hS hA [0, 1] rfl
          refine va_calli (va_runV (As := [.int y_378]) (rest := []) ⟨hx, hb, hml, hown, hq⟩ (rd_byteAt l dC dI _ h0 tp h0_length h0_place h0_fault ktp gtp y_378 ) (cwV 1 hq (gV qw_542 qw_544 qw_1 qw_121 qw_545) rfl rfl rfl (by decide +kernel) ⟨Nat.le_of_ble_eq_true rfl, Nat.le_of_ble_eq_true rfl⟩) ⟨fun a U g mk q => by obtain ⟨q0, q1, qP, qK, qD, qE⟩ := q; exact ⟨q0, q1, qP, va_K.moved (u := U) (U := U.calling g mk a) (Vm.Alike.refl U.vm) qK, qD, xE.same rfl qE⟩, va_recv hKc hPc (ci := 7) (q0 := 0) rfl rfl, fun U hU hW => ⟨rfl, by rw [hU], by rw [hU]; exact hPc, va_K.moved hW.alike hKc, hDc.weaken (fun _ _ _ _ => trivial), xE.warm hW hE⟩⟩ rfl rfl hl.1 rfl (lv_room (Nat.le_of_ble_eq_true rfl)) dX7_wordAmong_79 ⟨Nat.le_of_ble_eq_true rfl, Nat.le_of_ble_eq_true rfl⟩) hS (fun q _ h => hFc q h) hFc (fun r_379 u t H1 locs ht hvm hw hB hz1 hk1 hS => ?_)
          obtain ⟨hP1, hK1, hD1⟩ := hB
          rw [ht] at hP1
          obtain ⟨hP, hD⟩ := va_join (wr := []) (w1 := [(h0, .inr (7, [.ref tp, .int h0_length, .int h0_place, .int h0_fault])), (tp, .inl (ktp, 400, .inl gtp))]) hP hD [0, 1] [] rfl rfl (by decide) (by decide) hk1 hFc hP1 hD1
          generalize H1 = H at hP hS ⊢
          have hP : va_P (dC, dI) classes [(h0, .inr (7, [.ref tp, .int h0_length, .int h0_place, .int h0_fault])), (tp, .inl (ktp, 400, .inl gtp))] H := hP
          have hD : va_D A [(h0, .inr (7, [.ref tp, .int h0_length, .int h0_place, .int h0_fault])), (tp, .inl (ktp, 400, .inl gtp))] := hD
          have hPc := hP.sub (ws' := []) [] rfl
          have hDc := hD.sub (ws' := []) [] (by decide) rfl
          have hKc := hK.sub (tys' := []) [] rfl
          have hFc := va_free (wc := []) hD hS hA [] rfl
          refine va_calli (va_runS (As := [.int r_379]) (rest := []) ⟨hx, hb, hml, hown, hq⟩ (rd_isLetter l dC dI _ r_379 ) (cwS 1 hq (gS qw_599 qw_600 qw_121 qw_601) rfl rfl rfl (by decide +kernel) ⟨Nat.le_of_ble_eq_true rfl, Nat.le_of_ble_eq_true rfl⟩) ⟨fun a U g mk q => by obtain ⟨q0, q1, qP, qK, qD, qE⟩ := q; exact ⟨q0, q1, qP, va_K.moved (u := U) (U := U.calling g mk a) (Vm.Alike.refl U.vm) qK, qD, xE.same rfl qE⟩, fun U hU hW => ⟨rfl, by rw [hU], by rw [hU]; exact hPc, va_K.moved hW.alike hKc, hDc.weaken (fun _ _ _ _ => trivial), xE.warm hW hE⟩⟩ rfl rfl hl.1 rfl (lv_room (Nat.le_of_ble_eq_true rfl)) dX7_wordAmong_82 ⟨Nat.le_of_ble_eq_true rfl, Nat.le_of_ble_eq_true rfl⟩) hS (fun q _ h => hFc q h) hFc (fun r_380 u t H1 locs ht hvm hw hB hz1 hk1 hS => ?_)
          obtain ⟨hP1, hK1, hD1⟩ := hB
          rw [ht] at hP1
          obtain ⟨hP, hD⟩ := va_join (wr := [(h0, .inr (7, [.ref tp, .int h0_length, .int h0_place, .int h0_fault])), (tp, .inl (ktp, 400, .inl gtp))]) (w1 := []) hP hD [] [0, 1] rfl rfl (by decide) (by decide) hk1 hFc hP1 hD1
          generalize H1 = H at hP hS ⊢
          have hP : va_P (dC, dI) classes [(h0, .inr (7, [.ref tp, .int h0_length, .int h0_place, .int h0_fault])), (tp, .inl (ktp, 400, .inl gtp))] H := hP
          have hD : va_D A [(h0, .inr (7, [.ref tp, .int h0_length, .int h0_place, .int h0_fault])), (tp, .inl (ktp, 400, .inl gtp))] := hD
          refine lv_if_ne (tgt := 90) hx hb dX7_wordAmong_85 (by decide) (fun c_381 => ?_) (fun c_381 => ?_)
          · exact hJ90 _ _ _ ⟨_, hP, hD, hS, (lv_sub hl [1, 4, 5, 6] rfl), rfl⟩
          · refine lv_iload_n hx hb dX7_wordAmong_88 rfl (lv_at hl 4 rfl) ?_
            refine W.widen (k := 0) (n := 0) (Nat.le_of_ble_eq_true rfl) (Nat.le_of_ble_eq_true rfl) ?_
            exact W.iret (v := y_201) hx hb hr (fun t ht hW => ⟨⟨y_201, (), rfl, trivial, by rw [ht]; exact hP, va_K.moved hW.alike hK, hD⟩, hS.F ht⟩) hS.2.2 dX7_wordAmong_89
      · refine lv_iload hx hb dX7_wordAmong_34 (lv_at hl 2 rfl) ?_
        refine W.cut (I := fun H locs g => ∃ (y_386 : Int32) (ls : Array Slot), va_P (dC, dI) classes [(h0, .inr (7, [.ref tp, .int h0_length, .int h0_place, .int h0_fault])), (tp, .inl (ktp, 400, .inl gtp))] H ∧ va_D A [(h0, .inr (7, [.ref tp, .int h0_length, .int h0_place, .int h0_fault])), (tp, .inl (ktp, 400, .inl gtp))] ∧ va_S A s.heap H locs ∧ lv_has ls 7 [(5, .int y_198), (3, .int y_200), (2, .int y_201), (0, .ref h0), (1, .ref (kA 4))] ∧ g = F0 m 59 ls [.int y_386]) (fun H locs g h => ?_) (fun hJ59 => ?_)
        · obtain ⟨y_386, ls, hP, hD, hS, hl, rfl⟩ := h
          refine lv_istore (lv' := [(4, .int y_386), (5, .int y_198), (3, .int y_200), (2, .int y_201), (0, .ref h0), (1, .ref (kA 4))]) hx hb dX7_wordAmong_59 hl (by decide) rfl (fun ls hl => ?_)
          obtain ⟨y_388, ey_388⟩ : ∃ y : Int32, y = y_200 + 1 := ⟨_, rfl⟩
          refine lv_iinc (v := y_388) (lv' := [(3, .int y_388), (4, .int y_386), (5, .int y_198), (2, .int y_201), (0, .ref h0), (1, .ref (kA 4))]) hx hb dX7_wordAmong_61 hl (k := 2) rfl (by rw [ey_388]; rfl) (by decide) rfl (fun ls hl => ?_)
          refine lv_goto (tgt := 98) hx hb dX7_wordAmong_64 (by decide) ?_
          exact hJ98 _ _ _ ⟨y_386, y_388, y_201, _, hP, hD, hS, (lv_sub hl [1, 0, 3, 2, 4, 5] rfl), rfl⟩
        refine W.cut (I := fun H locs g => ∃ (ls : Array Slot), va_P (dC, dI) classes [(h0, .inr (7, [.ref tp, .int h0_length, .int h0_place, .int h0_fault])), (tp, .inl (ktp, 400, .inl gtp))] H ∧ va_D A [(h0, .inr (7, [.ref tp, .int h0_length, .int h0_place, .int h0_fault])), (tp, .inl (ktp, 400, .inl gtp))] ∧ va_S A s.heap H locs ∧ lv_has ls 7 [(5, .int y_198), (3, .int y_200), (2, .int y_201), (0, .ref h0), (1, .ref (kA 4))] ∧ g = F0 m 58 ls []) (fun H locs g h => ?_) (fun hJ58 => ?_)
        · obtain ⟨ls, hP, hD, hS, hl, rfl⟩ := h
          refine lv_iconst (v := 0) hx hb dX7_wordAmong_58 (by decide) ?_
          exact hJ59 _ _ _ ⟨0, _, hP, hD, hS, hl, rfl⟩
        refine lv_if_eq (tgt := 58) hx hb dX7_wordAmong_36 (by decide) (fun c_389 => ?_) (fun c_389 => ?_)
        · exact hJ58 _ _ _ ⟨_, hP, hD, hS, (lv_sub hl [1, 3, 4, 5, 6] rfl), rfl⟩
        · refine lv_aload_n hx hb dX7_wordAmong_39 rfl (lv_at hl 5 rfl) ?_
          refine lv_aload_n hx hb dX7_wordAmong_40 rfl (lv_at hl 5 rfl) ?_
          refine va_get (D := (dC, dI)) (ci := 7) (v := .int h0_place) (C := RX7) (T := TX7) (N := 4) hx hb hq inX7 hown hK hP 0 rfl rfl 2 (by decide) (hq _ qw_161) (fun _ h9 => h9) rfl dX7_wordAmong_41 ?_
          refine lv_iload_n hx hb dX7_wordAmong_44 rfl (lv_at hl 3 rfl) ?_
          refine lv_iadd hx hb dX7_wordAmong_45 ?_
          refine lv_topi (fun y_390 ey_390 => ?_)
          have hPc := hP.sub (ws' := [(h0, .inr (7, [.ref tp, .int h0_length, .int h0_place, .int h0_fault])), (tp, .inl (ktp, 400, .inl gtp))]) [0, 1] rfl
          have hDc := hD.sub (ws' := [(h0, .inr (7, [.ref tp, .int h0_length, .int h0_place, .int h0_fault])), (tp, .inl (ktp, 400, .inl gtp))]) [0, 1] (by decide) rfl
          have hKc := hK.sub (tys' := [(ktp, .int)]) [0] rfl
          have hFc := va_free (wc := [(h0, .inr (7, [.ref tp, .int h0_length, .int h0_place, .int h0_fault])), (tp, .inl (ktp, 400, .inl gtp))]) hD hS hA [0, 1] rfl
          refine va_calli (va_runV (As := [.int y_390]) (rest := []) ⟨hx, hb, hml, hown, hq⟩ (rd_byteAt l dC dI _ h0 tp h0_length h0_place h0_fault ktp gtp y_390 ) (cwV 1 hq (gV qw_542 qw_544 qw_1 qw_121 qw_545) rfl rfl rfl (by decide +kernel) ⟨Nat.le_of_ble_eq_true rfl, Nat.le_of_ble_eq_true rfl⟩) ⟨fun a U g mk q => by obtain ⟨q0, q1, qP, qK, qD, qE⟩ := q; exact ⟨q0, q1, qP, va_K.moved (u := U) (U := U.calling g mk a) (Vm.Alike.refl U.vm) qK, qD, xE.same rfl qE⟩, va_recv hKc hPc (ci := 7) (q0 := 0) rfl rfl, fun U hU hW => ⟨rfl, by rw [hU], by rw [hU]; exact hPc, va_K.moved hW.alike hKc, hDc.weaken (fun _ _ _ _ => trivial), xE.warm hW hE⟩⟩ rfl rfl hl.1 rfl (lv_room (Nat.le_of_ble_eq_true rfl)) dX7_wordAmong_46 ⟨Nat.le_of_ble_eq_true rfl, Nat.le_of_ble_eq_true rfl⟩) hS (fun q _ h => hFc q h) hFc (fun r_391 u t H1 locs ht hvm hw hB hz1 hk1 hS => ?_)
          obtain ⟨hP1, hK1, hD1⟩ := hB
          rw [ht] at hP1
          obtain ⟨hP, hD⟩ := va_join (wr := []) (w1 := [(h0, .inr (7, [.ref tp, .int h0_length, .int h0_place, .int h0_fault])), (tp, .inl (ktp, 400, .inl gtp))]) hP hD [0, 1] [] rfl rfl (by decide) (by decide) hk1 hFc hP1 hD1
          generalize H1 = H at hP hS ⊢
          have hP : va_P (dC, dI) classes [(h0, .inr (7, [.ref tp, .int h0_length, .int h0_place, .int h0_fault])), (tp, .inl (ktp, 400, .inl gtp))] H := hP
          have hD : va_D A [(h0, .inr (7, [.ref tp, .int h0_length, .int h0_place, .int h0_fault])), (tp, .inl (ktp, 400, .inl gtp))] := hD
          refine lv_iload hx hb dX7_wordAmong_49 (lv_at hl 0 rfl) ?_
          refine lv_icmp_ne (tgt := 58) hx hb dX7_wordAmong_51 (by decide) (fun c_392 => ?_) (fun c_392 => ?_)
          · exact hJ58 _ _ _ ⟨_, hP, hD, hS, (lv_sub hl [1, 3, 4, 5, 6] rfl), rfl⟩
          · refine lv_iconst (v := 1) hx hb dX7_wordAmong_54 (by decide) ?_
            refine lv_goto (tgt := 59) hx hb dX7_wordAmong_55 (by decide) ?_
            exact hJ59 _ _ _ ⟨1, _, hP, hD, hS, (lv_sub hl [1, 3, 4, 5, 6] rfl), rfl⟩

set_option maxHeartbeats 4000000 in
set_option maxRecDepth 100000 in
/-- rd_word_5 -/
theorem rd_word_5 (l : Launch) (dC : Nat → ClassId) (dI : Nat → Nat → Nat) (sz : Nat) (kA vA : Nat → Nat) (h0 : Nat) (tp : Nat) (h0_length : Int32) (h0_place : Int32) (h0_fault : Int32) (ktp : ClassId) (gtp : Nat → Int32) : Met l yX7_wordAmong (.code yX7_wordAmong cX7_wordAmong 7 (some .int) :: wsA) ({ frames := 4, cells := 0, slots := 0, locals := 85 }) (va_Pc [.ref h0, .ref (kA 5)] (fun U => U.heap.size = sz ∧ va_P (dC, dI) classes [(h0, .inr (7, [.ref tp, .int h0_length, .int h0_place, .int h0_fault])), (tp, .inl (ktp, 400, .inl gtp))] U.heap ∧ va_K (dC, dI) classes [(ktp, .int)] U ∧ va_D (fun _ => True) [(h0, .inr (7, [.ref tp, .int h0_length, .int h0_place, .int h0_fault])), (tp, .inl (ktp, 400, .inl gtp))] ∧ xE U ∧ xT kA vA (va_A [(h0, .inr (7, [.ref tp, .int h0_length, .int h0_place, .int h0_fault])), (tp, .inl (ktp, 400, .inl gtp))] sz) U U.heap)) (va_Qi (fun (r : Int32) (_ : Unit) => True) (fun _ t => va_P (dC, dI) classes [(h0, .inr (7, [.ref tp, .int h0_length, .int h0_place, .int h0_fault])), (tp, .inl (ktp, 400, .inl gtp))] t.heap ∧ va_K (dC, dI) classes [(ktp, .int)] t ∧ va_D (va_A [(h0, .inr (7, [.ref tp, .int h0_length, .int h0_place, .int h0_fault])), (tp, .inl (ktp, 400, .inl gtp))] sz) [(h0, .inr (7, [.ref tp, .int h0_length, .int h0_place, .int h0_fault])), (tp, .inl (ktp, 400, .inl gtp))]) (va_A [(h0, .inr (7, [.ref tp, .int h0_length, .int h0_place, .int h0_fault])), (tp, .inl (ktp, 400, .inl gtp))] sz)) 0 0 (va_A [(h0, .inr (7, [.ref tp, .int h0_length, .int h0_place, .int h0_fault])), (tp, .inl (ktp, 400, .inl gtp))] sz) := by
  refine Met.ofW (cc := cX7_wordAmong) (maxL := 7) (ret := (some .int)) (by decide) rfl ?_
  intro p e s m args below meth c s₁ B hml hv
  obtain ⟨rfl, hsz, hP, hK, hD0, hE, hT⟩ := hv
  have hx := B.exec
  have hb := B.bytes
  have hr := B.returns
  have hts := atoms_spec (ws := .code yX7_wordAmong cX7_wordAmong 7 (some .int) :: wsA) B.pre
  have hq : ∀ w ∈ wsA, w.before _ s = true := fun w h => hts w (List.mem_cons_of_mem _ h)
  have hown : s.vm.findClass RX7 = some m.cls := findClass_of_methodNamed B.named
  have hlocks := B.notSynchronized
  subst hsz
  have hD := hD0.self (sz := s.heap.size)
  generalize hAe : va_A [(h0, .inr (7, [.ref tp, .int h0_length, .int h0_place, .int h0_fault])), (tp, .inl (ktp, 400, .inl gtp))] s.heap.size = A at hD hT ⊢
  have hA : ∀ q : Nat, s.heap.size ≤ q → A q := fun q h => by rw [← hAe]; exact Or.inr h
  have hS : va_S A s.heap s.heap [] := va_S.rf
  have hl := lv_entry ([.ref h0, .ref (kA 5)]) (n := 7) (Nat.le_of_ble_eq_true rfl)
  rw [lg_entry_eq]
  generalize (lg_sl ([.ref h0, .ref (kA 5)]) ++ List.replicate (7 - (lg_sl ([.ref h0, .ref (kA 5)])).length) Slot.unset).toArray = ls at hl ⊢
  have hl : lv_has ls 7 [(0, .ref h0), (1, .ref (kA 5))] := hl
  refine lv_iconst (v := 0) hx hb dX7_wordAmong_0 (by decide) ?_
  refine lv_istore_n (lv' := [(2, .int 0), (0, .ref h0), (1, .ref (kA 5))]) hx hb dX7_wordAmong_1 rfl hl (by decide) rfl (fun ls hl => ?_)
  refine lv_iconst (v := 0) hx hb dX7_wordAmong_2 (by decide) ?_
  refine lv_istore_n (lv' := [(3, .int 0), (2, .int 0), (0, .ref h0), (1, .ref (kA 5))]) hx hb dX7_wordAmong_3 rfl hl (by decide) rfl (fun ls hl => ?_)
  refine lv_iconst (v := 1) hx hb dX7_wordAmong_4 (by decide) ?_
  refine lv_istore (lv' := [(4, .int 1), (3, .int 0), (2, .int 0), (0, .ref h0), (1, .ref (kA 5))]) hx hb dX7_wordAmong_5 hl (by decide) rfl (fun ls hl => ?_)
  refine lv_iconst (v := 0) hx hb dX7_wordAmong_7 (by decide) ?_
  refine lv_istore (lv' := [(5, .int 0), (4, .int 1), (3, .int 0), (2, .int 0), (0, .ref h0), (1, .ref (kA 5))]) hx hb dX7_wordAmong_8 hl (by decide) rfl (fun ls hl => ?_)
  refine W.loop (I := fun n H locs g => ∃ (y_198 : Int32) (y_199 : Int32) (y_200 : Int32) (y_201 : Int32) (ls : Array Slot), bt 0 7 y_198 ∧ 7 - y_198.toInt < (n : Int) ∧ va_P (dC, dI) classes [(h0, .inr (7, [.ref tp, .int h0_length, .int h0_place, .int h0_fault])), (tp, .inl (ktp, 400, .inl gtp))] H ∧ va_D A [(h0, .inr (7, [.ref tp, .int h0_length, .int h0_place, .int h0_fault])), (tp, .inl (ktp, 400, .inl gtp))] ∧ va_S A s.heap H locs ∧ lv_has ls 7 [(5, .int y_198), (4, .int y_199), (3, .int y_200), (2, .int y_201), (0, .ref h0), (1, .ref (kA 5))] ∧ g = F0 m 10 ls []) (fun H locs g h => ?_) (fun n ih10 H locs g h => ?_) (n := 8) ⟨0, 1, 0, 0, _, (bt_w (bt_k (x := 0) (c := 0) (by decide)) (by decide)), (ms_0 (bt_k (x := 0) (c := 0) (by decide)) (by decide)), hP, hD, hS, hl, rfl⟩
  · obtain ⟨y_198, y_199, y_200, y_201, ls, bd_v_5, hm, hP, hD, hS, hl, rfl⟩ := h
    exact ms_z bd_v_5 hm
  · obtain ⟨y_198, y_199, y_200, y_201, ls, bd_v_5, hm10, hP, hD, hS, hl, rfl⟩ := h
    refine lv_iload hx hb dX7_wordAmong_10 (lv_at hl 0 rfl) ?_
    refine lv_aload_n hx hb dX7_wordAmong_12 rfl (lv_at hl 5 rfl) ?_
    have hPc := hP.sub (ws' := []) [] rfl
    have hDc := hD.sub (ws' := []) [] (by decide) rfl
    have hKc := hK.sub (tys' := []) [] rfl
    have hFc := va_free (wc := []) hD hS hA [] rfl
    refine va_calli (va_runV (As := []) (rest := [.int y_198]) ⟨hx, hb, hml, hown, hq⟩ (j_length_5 l dC dI _ kA vA  ) (cwV 0 hq (gV qw_551 qw_552 qw_553 qw_133 qw_554) rfl rfl rfl (by decide +kernel) ⟨Nat.le_of_ble_eq_true rfl, Nat.le_of_ble_eq_true rfl⟩) ⟨fun a U g mk q => by obtain ⟨q0, q1, qP, qK, qD, qE, qT⟩ := q; exact ⟨q0, q1, qP, va_K.moved (u := U) (U := U.calling g mk a) (Vm.Alike.refl U.vm) qK, qD, xE.same rfl qE, xT.same rfl qT⟩, xT_recv hT hS (i := 5) (by decide), fun U hU hW => ⟨rfl, by rw [hU], by rw [hU]; exact hPc, va_K.moved hW.alike hKc, hDc.weaken (fun _ _ _ _ => trivial), xE.warm hW hE, by rw [hU]; exact xT.call hW hT hS hFc⟩⟩ rfl rfl hl.1 rfl (lv_room (Nat.le_of_ble_eq_true rfl)) dX7_wordAmong_13 ⟨Nat.le_of_ble_eq_true rfl, Nat.le_of_ble_eq_true rfl⟩) hS (fun q _ h => hFc q h) hFc (fun r_346 u t H1 locs ht hvm hw hB hz1 hk1 hS => ?_)
    obtain ⟨hP1, hK1, hD1⟩ := hB
    rw [ht] at hP1
    obtain ⟨hP, hD⟩ := va_join (wr := [(h0, .inr (7, [.ref tp, .int h0_length, .int h0_place, .int h0_fault])), (tp, .inl (ktp, 400, .inl gtp))]) (w1 := []) hP hD [] [0, 1] rfl rfl (by decide) (by decide) hk1 hFc hP1 hD1
    generalize H1 = H at hP hS ⊢
    have hP : va_P (dC, dI) classes [(h0, .inr (7, [.ref tp, .int h0_length, .int h0_place, .int h0_fault])), (tp, .inl (ktp, 400, .inl gtp))] H := hP
    have hD : va_D A [(h0, .inr (7, [.ref tp, .int h0_length, .int h0_place, .int h0_fault])), (tp, .inl (ktp, 400, .inl gtp))] := hD
    obtain rfl : r_346 = 7 := hw
    refine lv_icmp_ge (tgt := 104) hx hb dX7_wordAmong_16 (by decide) (fun c_347 => ?_) (fun c_347 => ?_)
    · refine lv_iconst (v := (-1)) hx hb dX7_wordAmong_104 (by decide) ?_
      refine W.widen (k := 0) (n := 0) (Nat.le_of_ble_eq_true rfl) (Nat.le_of_ble_eq_true rfl) ?_
      exact W.iret (v := (-1)) hx hb hr (fun t ht hW => ⟨⟨(-1), (), rfl, trivial, by rw [ht]; exact hP, va_K.moved hW.alike hK, hD⟩, hS.F ht⟩) hS.2.2 dX7_wordAmong_105
    · refine lv_aload_n hx hb dX7_wordAmong_19 rfl (lv_at hl 5 rfl) ?_
      refine lv_iload hx hb dX7_wordAmong_20 (lv_at hl 0 rfl) ?_
      have b_348 : bt 0 6 y_198 := rf_lt_l bd_v_5 (bt_k (x := 7) (c := 7) (by decide)) (Int32.not_le.mp c_347) (by decide)
      have hPc := hP.sub (ws' := []) [] rfl
      have hDc := hD.sub (ws' := []) [] (by decide) rfl
      have hKc := hK.sub (tys' := []) [] rfl
      have hFc := va_free (wc := []) hD hS hA [] rfl
      refine va_calli (va_runV (As := [.int y_198]) (rest := []) ⟨hx, hb, hml, hown, hq⟩ (j_charAt_5 l dC dI _ kA vA y_198 b_348) (cwV 1 hq (gV qw_561 qw_562 qw_563 qw_133 qw_564) rfl rfl rfl (by decide +kernel) ⟨Nat.le_of_ble_eq_true rfl, Nat.le_of_ble_eq_true rfl⟩) ⟨fun a U g mk q => by obtain ⟨q0, q1, qP, qK, qD, qE, qT⟩ := q; exact ⟨q0, q1, qP, va_K.moved (u := U) (U := U.calling g mk a) (Vm.Alike.refl U.vm) qK, qD, xE.same rfl qE, xT.same rfl qT⟩, xT_recv hT hS (i := 5) (by decide), fun U hU hW => ⟨rfl, by rw [hU], by rw [hU]; exact hPc, va_K.moved hW.alike hKc, hDc.weaken (fun _ _ _ _ => trivial), xE.warm hW hE, by rw [hU]; exact xT.call hW hT hS hFc⟩⟩ rfl rfl hl.1 rfl (lv_room (Nat.le_of_ble_eq_true rfl)) dX7_wordAmong_22 ⟨Nat.le_of_ble_eq_true rfl, Nat.le_of_ble_eq_true rfl⟩) hS (fun q _ h => hFc q h) hFc (fun r_349 u t H1 locs ht hvm hw hB hz1 hk1 hS => ?_)
      obtain ⟨hP1, hK1, hD1⟩ := hB
      rw [ht] at hP1
      obtain ⟨hP, hD⟩ := va_join (wr := [(h0, .inr (7, [.ref tp, .int h0_length, .int h0_place, .int h0_fault])), (tp, .inl (ktp, 400, .inl gtp))]) (w1 := []) hP hD [] [0, 1] rfl rfl (by decide) (by decide) hk1 hFc hP1 hD1
      generalize H1 = H at hP hS ⊢
      have hP : va_P (dC, dI) classes [(h0, .inr (7, [.ref tp, .int h0_length, .int h0_place, .int h0_fault])), (tp, .inl (ktp, 400, .inl gtp))] H := hP
      have hD : va_D A [(h0, .inr (7, [.ref tp, .int h0_length, .int h0_place, .int h0_fault])), (tp, .inl (ktp, 400, .inl gtp))] := hD
      refine lv_istore (lv' := [(6, .int r_349), (5, .int y_198), (4, .int y_199), (3, .int y_200), (2, .int y_201), (0, .ref h0), (1, .ref (kA 5))]) hx hb dX7_wordAmong_25 hl (by decide) rfl (fun ls hl => ?_)
      refine lv_iload hx hb dX7_wordAmong_27 (lv_at hl 0 rfl) ?_
      refine lv_bipush (v := 32) hx hb dX7_wordAmong_29 (by decide) ?_
      refine W.cut (I := fun H locs g => ∃ (y_363 : Int32) (y_364 : Int32) (y_365 : Int32) (ls : Array Slot), va_P (dC, dI) classes [(h0, .inr (7, [.ref tp, .int h0_length, .int h0_place, .int h0_fault])), (tp, .inl (ktp, 400, .inl gtp))] H ∧ va_D A [(h0, .inr (7, [.ref tp, .int h0_length, .int h0_place, .int h0_fault])), (tp, .inl (ktp, 400, .inl gtp))] ∧ va_S A s.heap H locs ∧ lv_has ls 7 [(4, .int y_363), (3, .int y_364), (2, .int y_365), (5, .int y_198), (0, .ref h0), (1, .ref (kA 5))] ∧ g = F0 m 98 ls []) (fun H locs g h => ?_) (fun hJ98 => ?_)
      · obtain ⟨y_363, y_364, y_365, ls, hP, hD, hS, hl, rfl⟩ := h
        obtain ⟨y_367, ey_367⟩ : ∃ y : Int32, y = y_198 + 1 := ⟨_, rfl⟩
        refine lv_iinc (v := y_367) (lv' := [(5, .int y_367), (4, .int y_363), (3, .int y_364), (2, .int y_365), (0, .ref h0), (1, .ref (kA 5))]) hx hb dX7_wordAmong_98 hl (k := 3) rfl (by rw [ey_367]; rfl) (by decide) rfl (fun ls hl => ?_)
        refine lv_goto (tgt := 10) hx hb dX7_wordAmong_101 (by decide) ?_
        have b_368 : bt 1 7 y_367 := bt_add ey_367 b_348 (bt_k (x := 1) (c := 1) (by decide)) (by decide)
        exact ih10 _ _ _ ⟨y_367, y_363, y_364, y_365, _, (bt_w b_368 (by decide)), (ms_s ey_367 b_348 hm10 (by decide)), hP, hD, hS, hl, rfl⟩
      refine lv_icmp_eq (tgt := 67) hx hb dX7_wordAmong_31 (by decide) (fun c_369 => ?_) (fun c_369 => ?_)
      · refine lv_iload hx hb dX7_wordAmong_67 (lv_at hl 2 rfl) ?_
        refine W.cut (I := fun H locs g => ∃ (ls : Array Slot), va_P (dC, dI) classes [(h0, .inr (7, [.ref tp, .int h0_length, .int h0_place, .int h0_fault])), (tp, .inl (ktp, 400, .inl gtp))] H ∧ va_D A [(h0, .inr (7, [.ref tp, .int h0_length, .int h0_place, .int h0_fault])), (tp, .inl (ktp, 400, .inl gtp))] ∧ va_S A s.heap H locs ∧ lv_has ls 7 [(5, .int y_198), (2, .int y_201), (0, .ref h0), (1, .ref (kA 5))] ∧ g = F0 m 90 ls []) (fun H locs g h => ?_) (fun hJ90 => ?_)
        · obtain ⟨ls, hP, hD, hS, hl, rfl⟩ := h
          obtain ⟨y_376, ey_376⟩ : ∃ y : Int32, y = y_201 + 1 := ⟨_, rfl⟩
          refine lv_iinc (v := y_376) (lv' := [(2, .int y_376), (5, .int y_198), (0, .ref h0), (1, .ref (kA 5))]) hx hb dX7_wordAmong_90 hl (k := 1) rfl (by rw [ey_376]; rfl) (by decide) rfl (fun ls hl => ?_)
          refine lv_iconst (v := 0) hx hb dX7_wordAmong_93 (by decide) ?_
          refine lv_istore_n (lv' := [(3, .int 0), (2, .int y_376), (5, .int y_198), (0, .ref h0), (1, .ref (kA 5))]) hx hb dX7_wordAmong_94 rfl hl (by decide) rfl (fun ls hl => ?_)
          refine lv_iconst (v := 1) hx hb dX7_wordAmong_95 (by decide) ?_
          refine lv_istore (lv' := [(4, .int 1), (3, .int 0), (2, .int y_376), (5, .int y_198), (0, .ref h0), (1, .ref (kA 5))]) hx hb dX7_wordAmong_96 hl (by decide) rfl (fun ls hl => ?_)
          exact hJ98 _ _ _ ⟨1, 0, y_376, _, hP, hD, hS, hl, rfl⟩
        refine lv_if_eq (tgt := 90) hx hb dX7_wordAmong_69 (by decide) (fun c_377 => ?_) (fun c_377 => ?_)
        · exact hJ90 _ _ _ ⟨_, hP, hD, hS, (lv_sub hl [1, 4, 5, 6] rfl), rfl⟩
        · refine lv_aload_n hx hb dX7_wordAmong_72 rfl (lv_at hl 5 rfl) ?_
          refine lv_aload_n hx hb dX7_wordAmong_73 rfl (lv_at hl 5 rfl) ?_
          refine va_get (D := (dC, dI)) (ci := 7) (v := .int h0_place) (C := RX7) (T := TX7) (N := 4) hx hb hq inX7 hown hK hP 0 rfl rfl 2 (by decide) (hq _ qw_161) (fun _ h9 => h9) rfl dX7_wordAmong_74 ?_
          refine lv_iload_n hx hb dX7_wordAmong_77 rfl (lv_at hl 3 rfl) ?_
          refine lv_iadd hx hb dX7_wordAmong_78 ?_
          refine lv_topi (fun y_378 ey_378 => ?_)
          have hPc := hP.sub (ws' := [(h0, .inr (7, [.ref tp, .int h0_length, .int h0_place, .int h0_fault])), (tp, .inl (ktp, 400, .inl gtp))]) [0, 1] rfl
          have hDc := hD.sub (ws' := [(h0, .inr (7, [.ref tp, .int h0_length, .int h0_place, .int h0_fault])), (tp, .inl (ktp, 400, .inl gtp))]) [0, 1] (by decide) rfl
          have hKc := hK.sub (tys' := [(ktp, .int)]) [0] rfl
          have hFc := va_free (wc := [(h0, .inr (7, [.ref tp, .int h0_length, .int h0_place, .int h0_fault])), (tp, .inl (ktp, 400, .inl gtp))]) hD hS hA [0, 1] rfl
          refine va_calli (va_runV (As := [.int y_378]) (rest := []) ⟨hx, hb, hml, hown, hq⟩ (rd_byteAt l dC dI _ h0 tp h0_length h0_place h0_fault ktp gtp y_378 ) (cwV 1 hq (gV qw_542 qw_544 qw_1 qw_121 qw_545) rfl rfl rfl (by decide +kernel) ⟨Nat.le_of_ble_eq_true rfl, Nat.le_of_ble_eq_true rfl⟩) ⟨fun a U g mk q => by obtain ⟨q0, q1, qP, qK, qD, qE⟩ := q; exact ⟨q0, q1, qP, va_K.moved (u := U) (U := U.calling g mk a) (Vm.Alike.refl U.vm) qK, qD, xE.same rfl qE⟩, va_recv hKc hPc (ci := 7) (q0 := 0) rfl rfl, fun U hU hW => ⟨rfl, by rw [hU], by rw [hU]; exact hPc, va_K.moved hW.alike hKc, hDc.weaken (fun _ _ _ _ => trivial), xE.warm hW hE⟩⟩ rfl rfl hl.1 rfl (lv_room (Nat.le_of_ble_eq_true rfl)) dX7_wordAmong_79 ⟨Nat.le_of_ble_eq_true rfl, Nat.le_of_ble_eq_true rfl⟩) hS (fun q _ h => hFc q h) hFc (fun r_379 u t H1 locs ht hvm hw hB hz1 hk1 hS => ?_)
          obtain ⟨hP1, hK1, hD1⟩ := hB
          rw [ht] at hP1
          obtain ⟨hP, hD⟩ := va_join (wr := []) (w1 := [(h0, .inr (7, [.ref tp, .int h0_length, .int h0_place, .int h0_fault])), (tp, .inl (ktp, 400, .inl gtp))]) hP hD [0, 1] [] rfl rfl (by decide) (by decide) hk1 hFc hP1 hD1
          generalize H1 = H at hP hS ⊢
          have hP : va_P (dC, dI) classes [(h0, .inr (7, [.ref tp, .int h0_length, .int h0_place, .int h0_fault])), (tp, .inl (ktp, 400, .inl gtp))] H := hP
          have hD : va_D A [(h0, .inr (7, [.ref tp, .int h0_length, .int h0_place, .int h0_fault])), (tp, .inl (ktp, 400, .inl gtp))] := hD
          have hPc := hP.sub (ws' := []) [] rfl
          have hDc := hD.sub (ws' := []) [] (by decide) rfl
          have hKc := hK.sub (tys' := []) [] rfl
          have hFc := va_free (wc := []) hD hS hA [] rfl
          refine va_calli (va_runS (As := [.int r_379]) (rest := []) ⟨hx, hb, hml, hown, hq⟩ (rd_isLetter l dC dI _ r_379 ) (cwS 1 hq (gS qw_599 qw_600 qw_121 qw_601) rfl rfl rfl (by decide +kernel) ⟨Nat.le_of_ble_eq_true rfl, Nat.le_of_ble_eq_true rfl⟩) ⟨fun a U g mk q => by obtain ⟨q0, q1, qP, qK, qD, qE⟩ := q; exact ⟨q0, q1, qP, va_K.moved (u := U) (U := U.calling g mk a) (Vm.Alike.refl U.vm) qK, qD, xE.same rfl qE⟩, fun U hU hW => ⟨rfl, by rw [hU], by rw [hU]; exact hPc, va_K.moved hW.alike hKc, hDc.weaken (fun _ _ _ _ => trivial), xE.warm hW hE⟩⟩ rfl rfl hl.1 rfl (lv_room (Nat.le_of_ble_eq_true rfl)) dX7_wordAmong_82 ⟨Nat.le_of_ble_eq_true rfl, Nat.le_of_ble_eq_true rfl⟩) hS (fun q _ h => hFc q h) hFc (fun r_380 u t H1 locs ht hvm hw hB hz1 hk1 hS => ?_)
          obtain ⟨hP1, hK1, hD1⟩ := hB
          rw [ht] at hP1
          obtain ⟨hP, hD⟩ := va_join (wr := [(h0, .inr (7, [.ref tp, .int h0_length, .int h0_place, .int h0_fault])), (tp, .inl (ktp, 400, .inl gtp))]) (w1 := []) hP hD [] [0, 1] rfl rfl (by decide) (by decide) hk1 hFc hP1 hD1
          generalize H1 = H at hP hS ⊢
          have hP : va_P (dC, dI) classes [(h0, .inr (7, [.ref tp, .int h0_length, .int h0_place, .int h0_fault])), (tp, .inl (ktp, 400, .inl gtp))] H := hP
          have hD : va_D A [(h0, .inr (7, [.ref tp, .int h0_length, .int h0_place, .int h0_fault])), (tp, .inl (ktp, 400, .inl gtp))] := hD
          refine lv_if_ne (tgt := 90) hx hb dX7_wordAmong_85 (by decide) (fun c_381 => ?_) (fun c_381 => ?_)
          · exact hJ90 _ _ _ ⟨_, hP, hD, hS, (lv_sub hl [1, 4, 5, 6] rfl), rfl⟩
          · refine lv_iload_n hx hb dX7_wordAmong_88 rfl (lv_at hl 4 rfl) ?_
            refine W.widen (k := 0) (n := 0) (Nat.le_of_ble_eq_true rfl) (Nat.le_of_ble_eq_true rfl) ?_
            exact W.iret (v := y_201) hx hb hr (fun t ht hW => ⟨⟨y_201, (), rfl, trivial, by rw [ht]; exact hP, va_K.moved hW.alike hK, hD⟩, hS.F ht⟩) hS.2.2 dX7_wordAmong_89
      · refine lv_iload hx hb dX7_wordAmong_34 (lv_at hl 2 rfl) ?_
        refine W.cut (I := fun H locs g => ∃ (y_386 : Int32) (ls : Array Slot), va_P (dC, dI) classes [(h0, .inr (7, [.ref tp, .int h0_length, .int h0_place, .int h0_fault])), (tp, .inl (ktp, 400, .inl gtp))] H ∧ va_D A [(h0, .inr (7, [.ref tp, .int h0_length, .int h0_place, .int h0_fault])), (tp, .inl (ktp, 400, .inl gtp))] ∧ va_S A s.heap H locs ∧ lv_has ls 7 [(5, .int y_198), (3, .int y_200), (2, .int y_201), (0, .ref h0), (1, .ref (kA 5))] ∧ g = F0 m 59 ls [.int y_386]) (fun H locs g h => ?_) (fun hJ59 => ?_)
        · obtain ⟨y_386, ls, hP, hD, hS, hl, rfl⟩ := h
          refine lv_istore (lv' := [(4, .int y_386), (5, .int y_198), (3, .int y_200), (2, .int y_201), (0, .ref h0), (1, .ref (kA 5))]) hx hb dX7_wordAmong_59 hl (by decide) rfl (fun ls hl => ?_)
          obtain ⟨y_388, ey_388⟩ : ∃ y : Int32, y = y_200 + 1 := ⟨_, rfl⟩
          refine lv_iinc (v := y_388) (lv' := [(3, .int y_388), (4, .int y_386), (5, .int y_198), (2, .int y_201), (0, .ref h0), (1, .ref (kA 5))]) hx hb dX7_wordAmong_61 hl (k := 2) rfl (by rw [ey_388]; rfl) (by decide) rfl (fun ls hl => ?_)
          refine lv_goto (tgt := 98) hx hb dX7_wordAmong_64 (by decide) ?_
          exact hJ98 _ _ _ ⟨y_386, y_388, y_201, _, hP, hD, hS, (lv_sub hl [1, 0, 3, 2, 4, 5] rfl), rfl⟩
        refine W.cut (I := fun H locs g => ∃ (ls : Array Slot), va_P (dC, dI) classes [(h0, .inr (7, [.ref tp, .int h0_length, .int h0_place, .int h0_fault])), (tp, .inl (ktp, 400, .inl gtp))] H ∧ va_D A [(h0, .inr (7, [.ref tp, .int h0_length, .int h0_place, .int h0_fault])), (tp, .inl (ktp, 400, .inl gtp))] ∧ va_S A s.heap H locs ∧ lv_has ls 7 [(5, .int y_198), (3, .int y_200), (2, .int y_201), (0, .ref h0), (1, .ref (kA 5))] ∧ g = F0 m 58 ls []) (fun H locs g h => ?_) (fun hJ58 => ?_)
        · obtain ⟨ls, hP, hD, hS, hl, rfl⟩ := h
          refine lv_iconst (v := 0) hx hb dX7_wordAmong_58 (by decide) ?_
          exact hJ59 _ _ _ ⟨0, _, hP, hD, hS, hl, rfl⟩
        refine lv_if_eq (tgt := 58) hx hb dX7_wordAmong_36 (by decide) (fun c_389 => ?_) (fun c_389 => ?_)
        · exact hJ58 _ _ _ ⟨_, hP, hD, hS, (lv_sub hl [1, 3, 4, 5, 6] rfl), rfl⟩
        · refine lv_aload_n hx hb dX7_wordAmong_39 rfl (lv_at hl 5 rfl) ?_
          refine lv_aload_n hx hb dX7_wordAmong_40 rfl (lv_at hl 5 rfl) ?_
          refine va_get (D := (dC, dI)) (ci := 7) (v := .int h0_place) (C := RX7) (T := TX7) (N := 4) hx hb hq inX7 hown hK hP 0 rfl rfl 2 (by decide) (hq _ qw_161) (fun _ h9 => h9) rfl dX7_wordAmong_41 ?_
          refine lv_iload_n hx hb dX7_wordAmong_44 rfl (lv_at hl 3 rfl) ?_
          refine lv_iadd hx hb dX7_wordAmong_45 ?_
          refine lv_topi (fun y_390 ey_390 => ?_)
          have hPc := hP.sub (ws' := [(h0, .inr (7, [.ref tp, .int h0_length, .int h0_place, .int h0_fault])), (tp, .inl (ktp, 400, .inl gtp))]) [0, 1] rfl
          have hDc := hD.sub (ws' := [(h0, .inr (7, [.ref tp, .int h0_length, .int h0_place, .int h0_fault])), (tp, .inl (ktp, 400, .inl gtp))]) [0, 1] (by decide) rfl
          have hKc := hK.sub (tys' := [(ktp, .int)]) [0] rfl
          have hFc := va_free (wc := [(h0, .inr (7, [.ref tp, .int h0_length, .int h0_place, .int h0_fault])), (tp, .inl (ktp, 400, .inl gtp))]) hD hS hA [0, 1] rfl
          refine va_calli (va_runV (As := [.int y_390]) (rest := []) ⟨hx, hb, hml, hown, hq⟩ (rd_byteAt l dC dI _ h0 tp h0_length h0_place h0_fault ktp gtp y_390 ) (cwV 1 hq (gV qw_542 qw_544 qw_1 qw_121 qw_545) rfl rfl rfl (by decide +kernel) ⟨Nat.le_of_ble_eq_true rfl, Nat.le_of_ble_eq_true rfl⟩) ⟨fun a U g mk q => by obtain ⟨q0, q1, qP, qK, qD, qE⟩ := q; exact ⟨q0, q1, qP, va_K.moved (u := U) (U := U.calling g mk a) (Vm.Alike.refl U.vm) qK, qD, xE.same rfl qE⟩, va_recv hKc hPc (ci := 7) (q0 := 0) rfl rfl, fun U hU hW => ⟨rfl, by rw [hU], by rw [hU]; exact hPc, va_K.moved hW.alike hKc, hDc.weaken (fun _ _ _ _ => trivial), xE.warm hW hE⟩⟩ rfl rfl hl.1 rfl (lv_room (Nat.le_of_ble_eq_true rfl)) dX7_wordAmong_46 ⟨Nat.le_of_ble_eq_true rfl, Nat.le_of_ble_eq_true rfl⟩) hS (fun q _ h => hFc q h) hFc (fun r_391 u t H1 locs ht hvm hw hB hz1 hk1 hS => ?_)
          obtain ⟨hP1, hK1, hD1⟩ := hB
          rw [ht] at hP1
          obtain ⟨hP, hD⟩ := va_join (wr := []) (w1 := [(h0, .inr (7, [.ref tp, .int h0_length, .int h0_place, .int h0_fault])), (tp, .inl (ktp, 400, .inl gtp))]) hP hD [0, 1] [] rfl rfl (by decide) (by decide) hk1 hFc hP1 hD1
          generalize H1 = H at hP hS ⊢
          have hP : va_P (dC, dI) classes [(h0, .inr (7, [.ref tp, .int h0_length, .int h0_place, .int h0_fault])), (tp, .inl (ktp, 400, .inl gtp))] H := hP
          have hD : va_D A [(h0, .inr (7, [.ref tp, .int h0_length, .int h0_place, .int h0_fault])), (tp, .inl (ktp, 400, .inl gtp))] := hD
          refine lv_iload hx hb dX7_wordAmong_49 (lv_at hl 0 rfl) ?_
          refine lv_icmp_ne (tgt := 58) hx hb dX7_wordAmong_51 (by decide) (fun c_392 => ?_) (fun c_392 => ?_)
          · exact hJ58 _ _ _ ⟨_, hP, hD, hS, (lv_sub hl [1, 3, 4, 5, 6] rfl), rfl⟩
          · refine lv_iconst (v := 1) hx hb dX7_wordAmong_54 (by decide) ?_
            refine lv_goto (tgt := 59) hx hb dX7_wordAmong_55 (by decide) ?_
            exact hJ59 _ _ _ ⟨1, _, hP, hD, hS, (lv_sub hl [1, 3, 4, 5, 6] rfl), rfl⟩

set_option maxHeartbeats 4000000 in
set_option maxRecDepth 100000 in
/-- rd_skipWord -/
theorem rd_skipWord (l : Launch) (dC : Nat → ClassId) (dI : Nat → Nat → Nat) (sz : Nat) (h0 : Nat) (tp : Nat) (h0_length : Int32) (h0_place : Int32) (h0_fault : Int32) (ktp : ClassId) (gtp : Nat → Int32) : Met l yX7_skipWord (.code yX7_skipWord cX7_skipWord 2 none :: wsA) ({ frames := 1, cells := 0, slots := 0, locals := 21 }) (va_Pc [.ref h0] (fun U => U.heap.size = sz ∧ va_P (dC, dI) classes [(h0, .inr (7, [.ref tp, .int h0_length, .int h0_place, .int h0_fault])), (tp, .inl (ktp, 400, .inl gtp))] U.heap ∧ va_K (dC, dI) classes [(ktp, .int)] U ∧ va_D (fun _ => True) [(h0, .inr (7, [.ref tp, .int h0_length, .int h0_place, .int h0_fault])), (tp, .inl (ktp, 400, .inl gtp))] ∧ xE U)) (va_Qv (fun (_ : Unit) => True) (fun _ t => ∃ (yy_49 : Nat → Int32), va_P (dC, dI) classes [(h0, .inr (7, [.ref tp, .int h0_length, .int (yy_49 0), .int h0_fault])), (tp, .inl (ktp, 400, .inl gtp))] t.heap ∧ va_K (dC, dI) classes [(ktp, .int)] t ∧ va_D (va_A [(h0, .inr (7, [.ref tp, .int h0_length, .int h0_place, .int h0_fault])), (tp, .inl (ktp, 400, .inl gtp))] sz) [(h0, .inr (7, [.ref tp, .int h0_length, .int (yy_49 0), .int h0_fault])), (tp, .inl (ktp, 400, .inl gtp))]) (va_A [(h0, .inr (7, [.ref tp, .int h0_length, .int h0_place, .int h0_fault])), (tp, .inl (ktp, 400, .inl gtp))] sz)) 0 0 (va_A [(h0, .inr (7, [.ref tp, .int h0_length, .int h0_place, .int h0_fault])), (tp, .inl (ktp, 400, .inl gtp))] sz) := by
  refine Met.ofW (cc := cX7_skipWord) (maxL := 2) (ret := none) (by decide) rfl ?_
  intro p e s m args below meth c s₁ B hml hv
  obtain ⟨rfl, hsz, hP, hK, hD0, hE⟩ := hv
  have hx := B.exec
  have hb := B.bytes
  have hr := B.returns
  have hts := atoms_spec (ws := .code yX7_skipWord cX7_skipWord 2 none :: wsA) B.pre
  have hq : ∀ w ∈ wsA, w.before _ s = true := fun w h => hts w (List.mem_cons_of_mem _ h)
  have hown : s.vm.findClass RX7 = some m.cls := findClass_of_methodNamed B.named
  have hlocks := B.notSynchronized
  subst hsz
  have hD := hD0.self (sz := s.heap.size)
  generalize hAe : va_A [(h0, .inr (7, [.ref tp, .int h0_length, .int h0_place, .int h0_fault])), (tp, .inl (ktp, 400, .inl gtp))] s.heap.size = A at hD ⊢
  have hA : ∀ q : Nat, s.heap.size ≤ q → A q := fun q h => by rw [← hAe]; exact Or.inr h
  have hS : va_S A s.heap s.heap [] := va_S.rf
  have hl := lv_entry ([.ref h0]) (n := 2) (Nat.le_of_ble_eq_true rfl)
  rw [lg_entry_eq]
  generalize (lg_sl ([.ref h0]) ++ List.replicate (2 - (lg_sl ([.ref h0])).length) Slot.unset).toArray = ls at hl ⊢
  have hl : lv_has ls 2 [(0, .ref h0)] := hl
  refine lv_iconst (v := 0) hx hb dX7_skipWord_0 (by decide) ?_
  refine lv_istore_n (lv' := [(1, .int 0), (0, .ref h0)]) hx hb dX7_skipWord_1 rfl hl (by decide) rfl (fun ls hl => ?_)
  refine W.loop (I := fun n H locs g => ∃ (y_54 : Int32) (yy_55 : Nat → Int32) (ls : Array Slot), bt 0 400 y_54 ∧ 400 - y_54.toInt < (n : Int) ∧ va_P (dC, dI) classes [(h0, .inr (7, [.ref tp, .int h0_length, .int (yy_55 0), .int h0_fault])), (tp, .inl (ktp, 400, .inl gtp))] H ∧ va_D A [(h0, .inr (7, [.ref tp, .int h0_length, .int (yy_55 0), .int h0_fault])), (tp, .inl (ktp, 400, .inl gtp))] ∧ va_S A s.heap H locs ∧ lv_has ls 2 [(1, .int y_54), (0, .ref h0)] ∧ g = F0 m 2 ls []) (fun H locs g h => ?_) (fun n ih2 H locs g h => ?_) (n := 401) ⟨0, (fun i => [h0_place].getD i 0), _, (bt_w (bt_k (x := 0) (c := 0) (by decide)) (by decide)), (ms_0 (bt_k (x := 0) (c := 0) (by decide)) (by decide)), hP, hD, hS, hl, rfl⟩
  · obtain ⟨y_54, yy_55, ls, bd_v_1, hm, hP, hD, hS, hl, rfl⟩ := h
    exact ms_z bd_v_1 hm
  · obtain ⟨y_54, yy_55, ls, bd_v_1, hm2, hP, hD, hS, hl, rfl⟩ := h
    refine lv_iload_n hx hb dX7_skipWord_2 rfl (lv_at hl 0 rfl) ?_
    refine lv_sipush (v := 400) hx hb dX7_skipWord_3 (by decide) ?_
    refine lv_icmp_ge (tgt := 39) hx hb dX7_skipWord_6 (by decide) (fun c_92 => ?_) (fun c_92 => ?_)
    · refine W.widen (k := 0) (n := 0) (Nat.le_of_ble_eq_true rfl) (Nat.le_of_ble_eq_true rfl) ?_
      exact W.vret hx hb hr (fun t ht hW => ⟨⟨(), rfl, trivial, (fun i => [(yy_55 0)].getD i 0), by rw [ht]; exact hP, va_K.moved hW.alike hK, hD⟩, hS.F ht⟩) hS.2.2 dX7_skipWord_39
    · refine lv_aload_n hx hb dX7_skipWord_9 rfl (lv_at hl 1 rfl) ?_
      refine lv_aload_n hx hb dX7_skipWord_10 rfl (lv_at hl 1 rfl) ?_
      refine va_get (D := (dC, dI)) (ci := 7) (v := .int (yy_55 0)) (C := RX7) (T := TX7) (N := 4) hx hb hq inX7 hown hK hP 0 rfl rfl 2 (by decide) (hq _ qw_161) (fun _ h9 => h9) rfl dX7_skipWord_11 ?_
      have hPc := hP.sub (ws' := [(h0, .inr (7, [.ref tp, .int h0_length, .int (yy_55 0), .int h0_fault])), (tp, .inl (ktp, 400, .inl gtp))]) [0, 1] rfl
      have hDc := hD.sub (ws' := [(h0, .inr (7, [.ref tp, .int h0_length, .int (yy_55 0), .int h0_fault])), (tp, .inl (ktp, 400, .inl gtp))]) [0, 1] (by decide) rfl
      have hKc := hK.sub (tys' := [(ktp, .int)]) [0] rfl
      have hFc := va_free (wc := [(h0, .inr (7, [.ref tp, .int h0_length, .int (yy_55 0), .int h0_fault])), (tp, .inl (ktp, 400, .inl gtp))]) hD hS hA [0, 1] rfl
      refine va_calli (va_runV (As := [.int (yy_55 0)]) (rest := []) ⟨hx, hb, hml, hown, hq⟩ (rd_byteAt l dC dI _ h0 tp h0_length (yy_55 0) h0_fault ktp gtp (yy_55 0) ) (cwV 1 hq (gV qw_542 qw_544 qw_1 qw_121 qw_545) rfl rfl rfl (by decide +kernel) ⟨Nat.le_of_ble_eq_true rfl, Nat.le_of_ble_eq_true rfl⟩) ⟨fun a U g mk q => by obtain ⟨q0, q1, qP, qK, qD, qE⟩ := q; exact ⟨q0, q1, qP, va_K.moved (u := U) (U := U.calling g mk a) (Vm.Alike.refl U.vm) qK, qD, xE.same rfl qE⟩, va_recv hKc hPc (ci := 7) (q0 := 0) rfl rfl, fun U hU hW => ⟨rfl, by rw [hU], by rw [hU]; exact hPc, va_K.moved hW.alike hKc, hDc.weaken (fun _ _ _ _ => trivial), xE.warm hW hE⟩⟩ rfl rfl hl.1 rfl (lv_room (Nat.le_of_ble_eq_true rfl)) dX7_skipWord_14 ⟨Nat.le_of_ble_eq_true rfl, Nat.le_of_ble_eq_true rfl⟩) hS (fun q _ h => hFc q h) hFc (fun r_93 u t H1 locs ht hvm hw hB hz1 hk1 hS => ?_)
      obtain ⟨hP1, hK1, hD1⟩ := hB
      rw [ht] at hP1
      obtain ⟨hP, hD⟩ := va_join (wr := []) (w1 := [(h0, .inr (7, [.ref tp, .int h0_length, .int (yy_55 0), .int h0_fault])), (tp, .inl (ktp, 400, .inl gtp))]) hP hD [0, 1] [] rfl rfl (by decide) (by decide) hk1 hFc hP1 hD1
      generalize H1 = H at hP hS ⊢
      have hP : va_P (dC, dI) classes [(h0, .inr (7, [.ref tp, .int h0_length, .int (yy_55 0), .int h0_fault])), (tp, .inl (ktp, 400, .inl gtp))] H := hP
      have hD : va_D A [(h0, .inr (7, [.ref tp, .int h0_length, .int (yy_55 0), .int h0_fault])), (tp, .inl (ktp, 400, .inl gtp))] := hD
      have hPc := hP.sub (ws' := []) [] rfl
      have hDc := hD.sub (ws' := []) [] (by decide) rfl
      have hKc := hK.sub (tys' := []) [] rfl
      have hFc := va_free (wc := []) hD hS hA [] rfl
      refine va_calli (va_runS (As := [.int r_93]) (rest := []) ⟨hx, hb, hml, hown, hq⟩ (rd_isLetter l dC dI _ r_93 ) (cwS 1 hq (gS qw_599 qw_600 qw_121 qw_601) rfl rfl rfl (by decide +kernel) ⟨Nat.le_of_ble_eq_true rfl, Nat.le_of_ble_eq_true rfl⟩) ⟨fun a U g mk q => by obtain ⟨q0, q1, qP, qK, qD, qE⟩ := q; exact ⟨q0, q1, qP, va_K.moved (u := U) (U := U.calling g mk a) (Vm.Alike.refl U.vm) qK, qD, xE.same rfl qE⟩, fun U hU hW => ⟨rfl, by rw [hU], by rw [hU]; exact hPc, va_K.moved hW.alike hKc, hDc.weaken (fun _ _ _ _ => trivial), xE.warm hW hE⟩⟩ rfl rfl hl.1 rfl (lv_room (Nat.le_of_ble_eq_true rfl)) dX7_skipWord_17 ⟨Nat.le_of_ble_eq_true rfl, Nat.le_of_ble_eq_true rfl⟩) hS (fun q _ h => hFc q h) hFc (fun r_94 u t H1 locs ht hvm hw hB hz1 hk1 hS => ?_)
      obtain ⟨hP1, hK1, hD1⟩ := hB
      rw [ht] at hP1
      obtain ⟨hP, hD⟩ := va_join (wr := [(h0, .inr (7, [.ref tp, .int h0_length, .int (yy_55 0), .int h0_fault])), (tp, .inl (ktp, 400, .inl gtp))]) (w1 := []) hP hD [] [0, 1] rfl rfl (by decide) (by decide) hk1 hFc hP1 hD1
      generalize H1 = H at hP hS ⊢
      have hP : va_P (dC, dI) classes [(h0, .inr (7, [.ref tp, .int h0_length, .int (yy_55 0), .int h0_fault])), (tp, .inl (ktp, 400, .inl gtp))] H := hP
      have hD : va_D A [(h0, .inr (7, [.ref tp, .int h0_length, .int (yy_55 0), .int h0_fault])), (tp, .inl (ktp, 400, .inl gtp))] := hD
      refine lv_if_eq (tgt := 39) hx hb dX7_skipWord_20 (by decide) (fun c_95 => ?_) (fun c_95 => ?_)
      · refine W.widen (k := 0) (n := 0) (Nat.le_of_ble_eq_true rfl) (Nat.le_of_ble_eq_true rfl) ?_
        exact W.vret hx hb hr (fun t ht hW => ⟨⟨(), rfl, trivial, (fun i => [(yy_55 0)].getD i 0), by rw [ht]; exact hP, va_K.moved hW.alike hK, hD⟩, hS.F ht⟩) hS.2.2 dX7_skipWord_39
      · refine lv_aload_n hx hb dX7_skipWord_23 rfl (lv_at hl 1 rfl) ?_
        refine lv_dup hx hb dX7_skipWord_24 rfl ?_
        refine va_get (D := (dC, dI)) (ci := 7) (v := .int (yy_55 0)) (C := RX7) (T := TX7) (N := 4) hx hb hq inX7 hown hK hP 0 rfl rfl 2 (by decide) (hq _ qw_161) (fun _ h9 => h9) rfl dX7_skipWord_25 ?_
        refine lv_iconst (v := 1) hx hb dX7_skipWord_28 (by decide) ?_
        refine lv_iadd hx hb dX7_skipWord_29 ?_
        refine lv_topi (fun y_96 ey_96 => ?_)
        refine va_put (D := (dC, dI)) (ci := 7) (v := .int y_96) (ty := .int) (C := RX7) (T := TX7) (N := 4) hx hb hq inX7 tyX7 tyX7_ok nmX7 hown hK hP hD hS 0 rfl rfl 2 (by decide) (hq _ qw_161) (fun _ h9 => h9) rfl (by decide +kernel) rfl rfl (Nat.le_of_ble_eq_true rfl) dX7_skipWord_30 (fun H locs hP hD hS => ?_)
        have hP : va_P (dC, dI) classes [(h0, .inr (7, [.ref tp, .int h0_length, .int y_96, .int h0_fault])), (tp, .inl (ktp, 400, .inl gtp))] H := hP
        have hD : va_D A [(h0, .inr (7, [.ref tp, .int h0_length, .int y_96, .int h0_fault])), (tp, .inl (ktp, 400, .inl gtp))] := hD
        obtain ⟨y_97, ey_97⟩ : ∃ y : Int32, y = y_54 + 1 := ⟨_, rfl⟩
        refine lv_iinc (v := y_97) (lv' := [(1, .int y_97), (0, .ref h0)]) hx hb dX7_skipWord_33 hl (k := 0) rfl (by rw [ey_97]; rfl) (by decide) rfl (fun ls hl => ?_)
        refine lv_goto (tgt := 2) hx hb dX7_skipWord_36 (by decide) ?_
        have b_98 : bt 0 399 y_54 := rf_lt_l bd_v_1 (bt_k (x := 400) (c := 400) (by decide)) (Int32.not_le.mp c_92) (by decide)
        have b_99 : bt 1 400 y_97 := bt_add ey_97 b_98 (bt_k (x := 1) (c := 1) (by decide)) (by decide)
        exact ih2 _ _ _ ⟨y_97, (fun i => [y_96].getD i 0), _, (bt_w b_99 (by decide)), (ms_s ey_97 b_98 hm2 (by decide)), hP, hD, hS, hl, rfl⟩

set_option maxHeartbeats 4000000 in
set_option maxRecDepth 100000 in
/-- rd_number -/
theorem rd_number (l : Launch) (dC : Nat → ClassId) (dI : Nat → Nat → Nat) (sz : Nat) (h0 : Nat) (tp : Nat) (h0_length : Int32) (h0_place : Int32) (h0_fault : Int32) (ktp : ClassId) (gtp : Nat → Int32) (x0 : Int32) (x1 : Int32) (x2 : Int32) : Met l yX7_number (.code yX7_number cX7_number 7 (some .int) :: wsA) ({ frames := 1, cells := 0, slots := 0, locals := 22 }) (va_Pc [.ref h0, .int x0, .int x1, .int x2] (fun U => U.heap.size = sz ∧ va_P (dC, dI) classes [(h0, .inr (7, [.ref tp, .int h0_length, .int h0_place, .int h0_fault])), (tp, .inl (ktp, 400, .inl gtp))] U.heap ∧ va_K (dC, dI) classes [(ktp, .int)] U ∧ va_D (fun _ => True) [(h0, .inr (7, [.ref tp, .int h0_length, .int h0_place, .int h0_fault])), (tp, .inl (ktp, 400, .inl gtp))] ∧ xE U)) (va_Qi (fun (r : Int32) (_ : Unit) => True) (fun _ t => ∃ (yy_110 : Nat → Int32), va_P (dC, dI) classes [(h0, .inr (7, [.ref tp, .int h0_length, .int (yy_110 0), .int (yy_110 1)])), (tp, .inl (ktp, 400, .inl gtp))] t.heap ∧ va_K (dC, dI) classes [(ktp, .int)] t ∧ va_D (va_A [(h0, .inr (7, [.ref tp, .int h0_length, .int h0_place, .int h0_fault])), (tp, .inl (ktp, 400, .inl gtp))] sz) [(h0, .inr (7, [.ref tp, .int h0_length, .int (yy_110 0), .int (yy_110 1)])), (tp, .inl (ktp, 400, .inl gtp))]) (va_A [(h0, .inr (7, [.ref tp, .int h0_length, .int h0_place, .int h0_fault])), (tp, .inl (ktp, 400, .inl gtp))] sz)) 0 0 (va_A [(h0, .inr (7, [.ref tp, .int h0_length, .int h0_place, .int h0_fault])), (tp, .inl (ktp, 400, .inl gtp))] sz) := by
  refine Met.ofW (cc := cX7_number) (maxL := 7) (ret := (some .int)) (by decide) rfl ?_
  intro p e s m args below meth c s₁ B hml hv
  obtain ⟨rfl, hsz, hP, hK, hD0, hE⟩ := hv
  have hx := B.exec
  have hb := B.bytes
  have hr := B.returns
  have hts := atoms_spec (ws := .code yX7_number cX7_number 7 (some .int) :: wsA) B.pre
  have hq : ∀ w ∈ wsA, w.before _ s = true := fun w h => hts w (List.mem_cons_of_mem _ h)
  have hown : s.vm.findClass RX7 = some m.cls := findClass_of_methodNamed B.named
  have hlocks := B.notSynchronized
  subst hsz
  have hD := hD0.self (sz := s.heap.size)
  generalize hAe : va_A [(h0, .inr (7, [.ref tp, .int h0_length, .int h0_place, .int h0_fault])), (tp, .inl (ktp, 400, .inl gtp))] s.heap.size = A at hD ⊢
  have hA : ∀ q : Nat, s.heap.size ≤ q → A q := fun q h => by rw [← hAe]; exact Or.inr h
  have hS : va_S A s.heap s.heap [] := va_S.rf
  have hl := lv_entry ([.ref h0, .int x0, .int x1, .int x2]) (n := 7) (Nat.le_of_ble_eq_true rfl)
  rw [lg_entry_eq]
  generalize (lg_sl ([.ref h0, .int x0, .int x1, .int x2]) ++ List.replicate (7 - (lg_sl ([.ref h0, .int x0, .int x1, .int x2])).length) Slot.unset).toArray = ls at hl ⊢
  have hl : lv_has ls 7 [(0, .ref h0), (1, .int x0), (2, .int x1), (3, .int x2)] := hl
  refine lv_aload_n hx hb dX7_number_0 rfl (lv_at hl 0 rfl) ?_
  refine lv_aload_n hx hb dX7_number_1 rfl (lv_at hl 0 rfl) ?_
  refine va_get (D := (dC, dI)) (ci := 7) (v := .int h0_place) (C := RX7) (T := TX7) (N := 4) hx hb hq inX7 hown hK hP 0 rfl rfl 2 (by decide) (hq _ qw_161) (fun _ h9 => h9) rfl dX7_number_2 ?_
  have hPc := hP.sub (ws' := [(h0, .inr (7, [.ref tp, .int h0_length, .int h0_place, .int h0_fault])), (tp, .inl (ktp, 400, .inl gtp))]) [0, 1] rfl
  have hDc := hD.sub (ws' := [(h0, .inr (7, [.ref tp, .int h0_length, .int h0_place, .int h0_fault])), (tp, .inl (ktp, 400, .inl gtp))]) [0, 1] (by decide) rfl
  have hKc := hK.sub (tys' := [(ktp, .int)]) [0] rfl
  have hFc := va_free (wc := [(h0, .inr (7, [.ref tp, .int h0_length, .int h0_place, .int h0_fault])), (tp, .inl (ktp, 400, .inl gtp))]) hD hS hA [0, 1] rfl
  refine va_calli (va_runV (As := [.int h0_place]) (rest := []) ⟨hx, hb, hml, hown, hq⟩ (rd_byteAt l dC dI _ h0 tp h0_length h0_place h0_fault ktp gtp h0_place ) (cwV 1 hq (gV qw_542 qw_544 qw_1 qw_121 qw_545) rfl rfl rfl (by decide +kernel) ⟨Nat.le_of_ble_eq_true rfl, Nat.le_of_ble_eq_true rfl⟩) ⟨fun a U g mk q => by obtain ⟨q0, q1, qP, qK, qD, qE⟩ := q; exact ⟨q0, q1, qP, va_K.moved (u := U) (U := U.calling g mk a) (Vm.Alike.refl U.vm) qK, qD, xE.same rfl qE⟩, va_recv hKc hPc (ci := 7) (q0 := 0) rfl rfl, fun U hU hW => ⟨rfl, by rw [hU], by rw [hU]; exact hPc, va_K.moved hW.alike hKc, hDc.weaken (fun _ _ _ _ => trivial), xE.warm hW hE⟩⟩ rfl rfl hl.1 rfl (lv_room (Nat.le_of_ble_eq_true rfl)) dX7_number_5 ⟨Nat.le_of_ble_eq_true rfl, Nat.le_of_ble_eq_true rfl⟩) hS (fun q _ h => hFc q h) hFc (fun r_111 u t H1 locs ht hvm hw hB hz1 hk1 hS => ?_)
  obtain ⟨hP1, hK1, hD1⟩ := hB
  rw [ht] at hP1
  obtain ⟨hP, hD⟩ := va_join (wr := []) (w1 := [(h0, .inr (7, [.ref tp, .int h0_length, .int h0_place, .int h0_fault])), (tp, .inl (ktp, 400, .inl gtp))]) hP hD [0, 1] [] rfl rfl (by decide) (by decide) hk1 hFc hP1 hD1
  generalize H1 = H at hP hS ⊢
  have hP : va_P (dC, dI) classes [(h0, .inr (7, [.ref tp, .int h0_length, .int h0_place, .int h0_fault])), (tp, .inl (ktp, 400, .inl gtp))] H := hP
  have hD : va_D A [(h0, .inr (7, [.ref tp, .int h0_length, .int h0_place, .int h0_fault])), (tp, .inl (ktp, 400, .inl gtp))] := hD
  have hPc := hP.sub (ws' := []) [] rfl
  have hDc := hD.sub (ws' := []) [] (by decide) rfl
  have hKc := hK.sub (tys' := []) [] rfl
  have hFc := va_free (wc := []) hD hS hA [] rfl
  refine va_calli (va_runS (As := [.int r_111]) (rest := []) ⟨hx, hb, hml, hown, hq⟩ (rd_isDigit l dC dI _ r_111 ) (cwS 1 hq (gS qw_625 qw_626 qw_121 qw_627) rfl rfl rfl (by decide +kernel) ⟨Nat.le_of_ble_eq_true rfl, Nat.le_of_ble_eq_true rfl⟩) ⟨fun a U g mk q => by obtain ⟨q0, q1, qP, qK, qD, qE⟩ := q; exact ⟨q0, q1, qP, va_K.moved (u := U) (U := U.calling g mk a) (Vm.Alike.refl U.vm) qK, qD, xE.same rfl qE⟩, fun U hU hW => ⟨rfl, by rw [hU], by rw [hU]; exact hPc, va_K.moved hW.alike hKc, hDc.weaken (fun _ _ _ _ => trivial), xE.warm hW hE⟩⟩ rfl rfl hl.1 rfl (lv_room (Nat.le_of_ble_eq_true rfl)) dX7_number_8 ⟨Nat.le_of_ble_eq_true rfl, Nat.le_of_ble_eq_true rfl⟩) hS (fun q _ h => hFc q h) hFc (fun r_112 u t H1 locs ht hvm hw hB hz1 hk1 hS => ?_)
  obtain ⟨hP1, hK1, hD1⟩ := hB
  rw [ht] at hP1
  obtain ⟨hP, hD⟩ := va_join (wr := [(h0, .inr (7, [.ref tp, .int h0_length, .int h0_place, .int h0_fault])), (tp, .inl (ktp, 400, .inl gtp))]) (w1 := []) hP hD [] [0, 1] rfl rfl (by decide) (by decide) hk1 hFc hP1 hD1
  generalize H1 = H at hP hS ⊢
  have hP : va_P (dC, dI) classes [(h0, .inr (7, [.ref tp, .int h0_length, .int h0_place, .int h0_fault])), (tp, .inl (ktp, 400, .inl gtp))] H := hP
  have hD : va_D A [(h0, .inr (7, [.ref tp, .int h0_length, .int h0_place, .int h0_fault])), (tp, .inl (ktp, 400, .inl gtp))] := hD
  refine lv_if_ne (tgt := 25) hx hb dX7_number_11 (by decide) (fun c_113 => ?_) (fun c_113 => ?_)
  · refine lv_aload_n hx hb dX7_number_25 rfl (lv_at hl 0 rfl) ?_
    refine va_get (D := (dC, dI)) (ci := 7) (v := .int h0_place) (C := RX7) (T := TX7) (N := 4) hx hb hq inX7 hown hK hP 0 rfl rfl 2 (by decide) (hq _ qw_161) (fun _ h9 => h9) rfl dX7_number_26 ?_
    refine lv_istore (lv' := [(4, .int h0_place), (0, .ref h0), (1, .int x0), (2, .int x1), (3, .int x2)]) hx hb dX7_number_29 hl (by decide) rfl (fun ls hl => ?_)
    refine lv_iconst (v := 0) hx hb dX7_number_31 (by decide) ?_
    refine lv_istore (lv' := [(5, .int 0), (4, .int h0_place), (0, .ref h0), (1, .int x0), (2, .int x1), (3, .int x2)]) hx hb dX7_number_32 hl (by decide) rfl (fun ls hl => ?_)
    refine lv_iconst (v := 0) hx hb dX7_number_34 (by decide) ?_
    refine lv_istore (lv' := [(6, .int 0), (5, .int 0), (4, .int h0_place), (0, .ref h0), (1, .int x0), (2, .int x1), (3, .int x2)]) hx hb dX7_number_35 hl (by decide) rfl (fun ls hl => ?_)
    refine W.loop (I := fun n H locs g => ∃ (y_123 : Int32) (y_124 : Int32) (yy_125 : Nat → Int32) (ls : Array Slot), bt 0 400 y_123 ∧ 400 - y_123.toInt < (n : Int) ∧ va_P (dC, dI) classes [(h0, .inr (7, [.ref tp, .int h0_length, .int (yy_125 0), .int h0_fault])), (tp, .inl (ktp, 400, .inl gtp))] H ∧ va_D A [(h0, .inr (7, [.ref tp, .int h0_length, .int (yy_125 0), .int h0_fault])), (tp, .inl (ktp, 400, .inl gtp))] ∧ va_S A s.heap H locs ∧ lv_has ls 7 [(6, .int y_123), (5, .int y_124), (4, .int h0_place), (0, .ref h0), (1, .int x0), (2, .int x1), (3, .int x2)] ∧ g = F0 m 37 ls []) (fun H locs g h => ?_) (fun n ih37 H locs g h => ?_) (n := 401) ⟨0, 0, (fun i => [h0_place].getD i 0), _, (bt_w (bt_k (x := 0) (c := 0) (by decide)) (by decide)), (ms_0 (bt_k (x := 0) (c := 0) (by decide)) (by decide)), hP, hD, hS, hl, rfl⟩
    · obtain ⟨y_123, y_124, yy_125, ls, bd_v_6, hm, hP, hD, hS, hl, rfl⟩ := h
      exact ms_z bd_v_6 hm
    · obtain ⟨y_123, y_124, yy_125, ls, bd_v_6, hm37, hP, hD, hS, hl, rfl⟩ := h
      refine lv_iload hx hb dX7_number_37 (lv_at hl 0 rfl) ?_
      refine lv_sipush (v := 400) hx hb dX7_number_39 (by decide) ?_
      refine W.cut (I := fun H locs g => ∃ (ls : Array Slot), va_P (dC, dI) classes [(h0, .inr (7, [.ref tp, .int h0_length, .int (yy_125 0), .int h0_fault])), (tp, .inl (ktp, 400, .inl gtp))] H ∧ va_D A [(h0, .inr (7, [.ref tp, .int h0_length, .int (yy_125 0), .int h0_fault])), (tp, .inl (ktp, 400, .inl gtp))] ∧ va_S A s.heap H locs ∧ lv_has ls 7 [(5, .int y_124), (4, .int h0_place), (0, .ref h0), (1, .int x0), (2, .int x1), (3, .int x2)] ∧ g = F0 m 105 ls []) (fun H locs g h => ?_) (fun hJ105 => ?_)
      · obtain ⟨ls, hP, hD, hS, hl, rfl⟩ := h
        refine lv_aload_n hx hb dX7_number_105 rfl (lv_at hl 2 rfl) ?_
        refine va_get (D := (dC, dI)) (ci := 7) (v := .int (yy_125 0)) (C := RX7) (T := TX7) (N := 4) hx hb hq inX7 hown hK hP 0 rfl rfl 2 (by decide) (hq _ qw_161) (fun _ h9 => h9) rfl dX7_number_106 ?_
        refine lv_iload hx hb dX7_number_109 (lv_at hl 1 rfl) ?_
        refine lv_isub hx hb dX7_number_111 ?_
        refine lv_topi (fun y_218 ey_218 => ?_)
        refine lv_iconst (v := 5) hx hb dX7_number_112 (by decide) ?_
        refine W.cut (I := fun H locs g => ∃ (yy_225 : Nat → Int32) (ls : Array Slot), va_P (dC, dI) classes [(h0, .inr (7, [.ref tp, .int h0_length, .int (yy_125 0), .int (yy_225 0)])), (tp, .inl (ktp, 400, .inl gtp))] H ∧ va_D A [(h0, .inr (7, [.ref tp, .int h0_length, .int (yy_125 0), .int (yy_225 0)])), (tp, .inl (ktp, 400, .inl gtp))] ∧ va_S A s.heap H locs ∧ lv_has ls 7 [(5, .int y_124)] ∧ g = F0 m 141 ls []) (fun H locs g h => ?_) (fun hJ141 => ?_)
        · obtain ⟨yy_225, ls, hP, hD, hS, hl, rfl⟩ := h
          refine lv_iload hx hb dX7_number_141 (lv_at hl 0 rfl) ?_
          refine W.widen (k := 0) (n := 0) (Nat.le_of_ble_eq_true rfl) (Nat.le_of_ble_eq_true rfl) ?_
          exact W.iret (v := y_124) hx hb hr (fun t ht hW => ⟨⟨y_124, (), rfl, trivial, (fun i => [(yy_125 0), (yy_225 0)].getD i 0), by rw [ht]; exact hP, va_K.moved hW.alike hK, hD⟩, hS.F ht⟩) hS.2.2 dX7_number_143
        refine W.cut (I := fun H locs g => ∃ (ls : Array Slot), va_P (dC, dI) classes [(h0, .inr (7, [.ref tp, .int h0_length, .int (yy_125 0), .int h0_fault])), (tp, .inl (ktp, 400, .inl gtp))] H ∧ va_D A [(h0, .inr (7, [.ref tp, .int h0_length, .int (yy_125 0), .int h0_fault])), (tp, .inl (ktp, 400, .inl gtp))] ∧ va_S A s.heap H locs ∧ lv_has ls 7 [(5, .int y_124), (4, .int h0_place), (0, .ref h0)] ∧ g = F0 m 134 ls []) (fun H locs g h => ?_) (fun hJ134 => ?_)
        · obtain ⟨ls, hP, hD, hS, hl, rfl⟩ := h
          refine lv_aload_n hx hb dX7_number_134 rfl (lv_at hl 2 rfl) ?_
          refine lv_iload hx hb dX7_number_135 (lv_at hl 1 rfl) ?_
          refine lv_iconst (v := 1) hx hb dX7_number_137 (by decide) ?_
          have hPc := hP.sub (ws' := [(h0, .inr (7, [.ref tp, .int h0_length, .int (yy_125 0), .int h0_fault]))]) [0] rfl
          have hDc := hD.sub (ws' := [(h0, .inr (7, [.ref tp, .int h0_length, .int (yy_125 0), .int h0_fault]))]) [0] (by decide) rfl
          have hKc := hK.sub (tys' := []) [] rfl
          have hFc := va_free (wc := [(h0, .inr (7, [.ref tp, .int h0_length, .int (yy_125 0), .int h0_fault]))]) hD hS hA [0] rfl
          refine va_callv (va_runV (As := [.int h0_place, .int 1]) (rest := []) ⟨hx, hb, hml, hown, hq⟩ (rd_blame l dC dI _ h0 tp h0_length (yy_125 0) h0_fault h0_place 1 ) (cwV 2 hq (gV qw_628 qw_603 qw_604 qw_121 qw_605) rfl rfl rfl (by decide +kernel) ⟨Nat.le_of_ble_eq_true rfl, Nat.le_of_ble_eq_true rfl⟩) ⟨fun a U g mk q => by obtain ⟨q0, q1, qP, qK, qD, qE⟩ := q; exact ⟨q0, q1, qP, va_K.moved (u := U) (U := U.calling g mk a) (Vm.Alike.refl U.vm) qK, qD, xE.same rfl qE⟩, va_recv hKc hPc (ci := 7) (q0 := 0) rfl rfl, fun U hU hW => ⟨rfl, by rw [hU], by rw [hU]; exact hPc, va_K.moved hW.alike hKc, hDc.weaken (fun _ _ _ _ => trivial), xE.warm hW hE⟩⟩ rfl rfl hl.1 rfl (lv_room (Nat.le_of_ble_eq_true rfl)) dX7_number_138 ⟨Nat.le_of_ble_eq_true rfl, Nat.le_of_ble_eq_true rfl⟩) hS (fun q _ h => hFc q h) hFc (fun u t H1 locs ht hvm hw hB hz1 hk1 hS => ?_)
          obtain ⟨yy_227, hP1, hK1, hD1⟩ := hB
          rw [ht] at hP1
          obtain ⟨hP, hD⟩ := va_join (wr := [(tp, .inl (ktp, 400, .inl gtp))]) (w1 := [(h0, .inr (7, [.ref tp, .int h0_length, .int (yy_125 0), .int (yy_227 0)]))]) hP hD [0] [1] rfl rfl (by decide) (by decide) hk1 hFc hP1 hD1
          generalize H1 = H at hP hS ⊢
          have hP : va_P (dC, dI) classes [(tp, .inl (ktp, 400, .inl gtp)), (h0, .inr (7, [.ref tp, .int h0_length, .int (yy_125 0), .int (yy_227 0)]))] H := hP
          have hD : va_D A [(tp, .inl (ktp, 400, .inl gtp)), (h0, .inr (7, [.ref tp, .int h0_length, .int (yy_125 0), .int (yy_227 0)]))] := hD
          exact hJ141 _ _ _ ⟨(fun i => [(yy_227 0)].getD i 0), _, (hP.sub (ws' := [(h0, .inr (7, [.ref tp, .int h0_length, .int (yy_125 0), .int (yy_227 0)])), (tp, .inl (ktp, 400, .inl gtp))]) [1, 0] rfl), (hD.sub (ws' := [(h0, .inr (7, [.ref tp, .int h0_length, .int (yy_125 0), .int (yy_227 0)])), (tp, .inl (ktp, 400, .inl gtp))]) [1, 0] (by decide) rfl), hS, (lv_sub hl [0] rfl), rfl⟩
        refine lv_icmp_gt (tgt := 134) hx hb dX7_number_113 (by decide) (fun c_228 => ?_) (fun c_228 => ?_)
        · exact hJ134 _ _ _ ⟨_, hP, hD, hS, (lv_sub hl [0, 1, 2] rfl), rfl⟩
        · refine lv_iload hx hb dX7_number_116 (lv_at hl 0 rfl) ?_
          refine lv_iload_n hx hb dX7_number_118 rfl (lv_at hl 3 rfl) ?_
          refine lv_icmp_lt (tgt := 134) hx hb dX7_number_119 (by decide) (fun c_229 => ?_) (fun c_229 => ?_)
          · exact hJ134 _ _ _ ⟨_, hP, hD, hS, (lv_sub hl [0, 1, 2] rfl), rfl⟩
          · refine lv_iload hx hb dX7_number_122 (lv_at hl 0 rfl) ?_
            refine lv_iload_n hx hb dX7_number_124 rfl (lv_at hl 4 rfl) ?_
            refine lv_icmp_gt (tgt := 134) hx hb dX7_number_125 (by decide) (fun c_230 => ?_) (fun c_230 => ?_)
            · exact hJ134 _ _ _ ⟨_, hP, hD, hS, (lv_sub hl [0, 1, 2] rfl), rfl⟩
            · refine lv_iload hx hb dX7_number_128 (lv_at hl 0 rfl) ?_
              refine lv_iload_n hx hb dX7_number_130 rfl (lv_at hl 5 rfl) ?_
              refine lv_icmp_ne (tgt := 141) hx hb dX7_number_131 (by decide) (fun c_231 => ?_) (fun c_231 => ?_)
              · exact hJ141 _ _ _ ⟨(fun i => [h0_fault].getD i 0), _, hP, hD, hS, (lv_sub hl [0] rfl), rfl⟩
              · exact hJ134 _ _ _ ⟨_, hP, hD, hS, (lv_sub hl [0, 1, 2] rfl), rfl⟩
      refine lv_icmp_ge (tgt := 105) hx hb dX7_number_42 (by decide) (fun c_232 => ?_) (fun c_232 => ?_)
      · exact hJ105 _ _ _ ⟨_, hP, hD, hS, (lv_sub hl [1, 2, 3, 4, 5, 6] rfl), rfl⟩
      · refine lv_aload_n hx hb dX7_number_45 rfl (lv_at hl 3 rfl) ?_
        refine lv_aload_n hx hb dX7_number_46 rfl (lv_at hl 3 rfl) ?_
        refine va_get (D := (dC, dI)) (ci := 7) (v := .int (yy_125 0)) (C := RX7) (T := TX7) (N := 4) hx hb hq inX7 hown hK hP 0 rfl rfl 2 (by decide) (hq _ qw_161) (fun _ h9 => h9) rfl dX7_number_47 ?_
        have hPc := hP.sub (ws' := [(h0, .inr (7, [.ref tp, .int h0_length, .int (yy_125 0), .int h0_fault])), (tp, .inl (ktp, 400, .inl gtp))]) [0, 1] rfl
        have hDc := hD.sub (ws' := [(h0, .inr (7, [.ref tp, .int h0_length, .int (yy_125 0), .int h0_fault])), (tp, .inl (ktp, 400, .inl gtp))]) [0, 1] (by decide) rfl
        have hKc := hK.sub (tys' := [(ktp, .int)]) [0] rfl
        have hFc := va_free (wc := [(h0, .inr (7, [.ref tp, .int h0_length, .int (yy_125 0), .int h0_fault])), (tp, .inl (ktp, 400, .inl gtp))]) hD hS hA [0, 1] rfl
        refine va_calli (va_runV (As := [.int (yy_125 0)]) (rest := []) ⟨hx, hb, hml, hown, hq⟩ (rd_byteAt l dC dI _ h0 tp h0_length (yy_125 0) h0_fault ktp gtp (yy_125 0) ) (cwV 1 hq (gV qw_542 qw_544 qw_1 qw_121 qw_545) rfl rfl rfl (by decide +kernel) ⟨Nat.le_of_ble_eq_true rfl, Nat.le_of_ble_eq_true rfl⟩) ⟨fun a U g mk q => by obtain ⟨q0, q1, qP, qK, qD, qE⟩ := q; exact ⟨q0, q1, qP, va_K.moved (u := U) (U := U.calling g mk a) (Vm.Alike.refl U.vm) qK, qD, xE.same rfl qE⟩, va_recv hKc hPc (ci := 7) (q0 := 0) rfl rfl, fun U hU hW => ⟨rfl, by rw [hU], by rw [hU]; exact hPc, va_K.moved hW.alike hKc, hDc.weaken (fun _ _ _ _ => trivial), xE.warm hW hE⟩⟩ rfl rfl hl.1 rfl (lv_room (Nat.le_of_ble_eq_true rfl)) dX7_number_50 ⟨Nat.le_of_ble_eq_true rfl, Nat.le_of_ble_eq_true rfl⟩) hS (fun q _ h => hFc q h) hFc (fun r_233 u t H1 locs ht hvm hw hB hz1 hk1 hS => ?_)
        obtain ⟨hP1, hK1, hD1⟩ := hB
        rw [ht] at hP1
        obtain ⟨hP, hD⟩ := va_join (wr := []) (w1 := [(h0, .inr (7, [.ref tp, .int h0_length, .int (yy_125 0), .int h0_fault])), (tp, .inl (ktp, 400, .inl gtp))]) hP hD [0, 1] [] rfl rfl (by decide) (by decide) hk1 hFc hP1 hD1
        generalize H1 = H at hP hS ⊢
        have hP : va_P (dC, dI) classes [(h0, .inr (7, [.ref tp, .int h0_length, .int (yy_125 0), .int h0_fault])), (tp, .inl (ktp, 400, .inl gtp))] H := hP
        have hD : va_D A [(h0, .inr (7, [.ref tp, .int h0_length, .int (yy_125 0), .int h0_fault])), (tp, .inl (ktp, 400, .inl gtp))] := hD
        have hPc := hP.sub (ws' := []) [] rfl
        have hDc := hD.sub (ws' := []) [] (by decide) rfl
        have hKc := hK.sub (tys' := []) [] rfl
        have hFc := va_free (wc := []) hD hS hA [] rfl
        refine va_calli (va_runS (As := [.int r_233]) (rest := []) ⟨hx, hb, hml, hown, hq⟩ (rd_isDigit l dC dI _ r_233 ) (cwS 1 hq (gS qw_625 qw_626 qw_121 qw_627) rfl rfl rfl (by decide +kernel) ⟨Nat.le_of_ble_eq_true rfl, Nat.le_of_ble_eq_true rfl⟩) ⟨fun a U g mk q => by obtain ⟨q0, q1, qP, qK, qD, qE⟩ := q; exact ⟨q0, q1, qP, va_K.moved (u := U) (U := U.calling g mk a) (Vm.Alike.refl U.vm) qK, qD, xE.same rfl qE⟩, fun U hU hW => ⟨rfl, by rw [hU], by rw [hU]; exact hPc, va_K.moved hW.alike hKc, hDc.weaken (fun _ _ _ _ => trivial), xE.warm hW hE⟩⟩ rfl rfl hl.1 rfl (lv_room (Nat.le_of_ble_eq_true rfl)) dX7_number_53 ⟨Nat.le_of_ble_eq_true rfl, Nat.le_of_ble_eq_true rfl⟩) hS (fun q _ h => hFc q h) hFc (fun r_234 u t H1 locs ht hvm hw hB hz1 hk1 hS => ?_)
        obtain ⟨hP1, hK1, hD1⟩ := hB
        rw [ht] at hP1
        obtain ⟨hP, hD⟩ := va_join (wr := [(h0, .inr (7, [.ref tp, .int h0_length, .int (yy_125 0), .int h0_fault])), (tp, .inl (ktp, 400, .inl gtp))]) (w1 := []) hP hD [] [0, 1] rfl rfl (by decide) (by decide) hk1 hFc hP1 hD1
        generalize H1 = H at hP hS ⊢
        have hP : va_P (dC, dI) classes [(h0, .inr (7, [.ref tp, .int h0_length, .int (yy_125 0), .int h0_fault])), (tp, .inl (ktp, 400, .inl gtp))] H := hP
        have hD : va_D A [(h0, .inr (7, [.ref tp, .int h0_length, .int (yy_125 0), .int h0_fault])), (tp, .inl (ktp, 400, .inl gtp))] := hD
        refine lv_if_eq (tgt := 105) hx hb dX7_number_56 (by decide) (fun c_235 => ?_) (fun c_235 => ?_)
        · exact hJ105 _ _ _ ⟨_, hP, hD, hS, (lv_sub hl [1, 2, 3, 4, 5, 6] rfl), rfl⟩
        · refine lv_iload hx hb dX7_number_59 (lv_at hl 0 rfl) ?_
          refine lv_iconst (v := 5) hx hb dX7_number_61 (by decide) ?_
          refine W.cut (I := fun H locs g => ∃ (y_241 : Int32) (ls : Array Slot), va_P (dC, dI) classes [(h0, .inr (7, [.ref tp, .int h0_length, .int (yy_125 0), .int h0_fault])), (tp, .inl (ktp, 400, .inl gtp))] H ∧ va_D A [(h0, .inr (7, [.ref tp, .int h0_length, .int (yy_125 0), .int h0_fault])), (tp, .inl (ktp, 400, .inl gtp))] ∧ va_S A s.heap H locs ∧ lv_has ls 7 [(6, .int y_123), (4, .int h0_place), (0, .ref h0), (1, .int x0), (2, .int x1), (3, .int x2)] ∧ g = F0 m 87 ls [.int y_241]) (fun H locs g h => ?_) (fun hJ87 => ?_)
          · obtain ⟨y_241, ls, hP, hD, hS, hl, rfl⟩ := h
            refine lv_istore (lv' := [(5, .int y_241), (6, .int y_123), (4, .int h0_place), (0, .ref h0), (1, .int x0), (2, .int x1), (3, .int x2)]) hx hb dX7_number_87 hl (by decide) rfl (fun ls hl => ?_)
            refine lv_aload_n hx hb dX7_number_89 rfl (lv_at hl 3 rfl) ?_
            refine lv_dup hx hb dX7_number_90 rfl ?_
            refine va_get (D := (dC, dI)) (ci := 7) (v := .int (yy_125 0)) (C := RX7) (T := TX7) (N := 4) hx hb hq inX7 hown hK hP 0 rfl rfl 2 (by decide) (hq _ qw_161) (fun _ h9 => h9) rfl dX7_number_91 ?_
            refine lv_iconst (v := 1) hx hb dX7_number_94 (by decide) ?_
            refine lv_iadd hx hb dX7_number_95 ?_
            refine lv_topi (fun y_244 ey_244 => ?_)
            refine va_put (D := (dC, dI)) (ci := 7) (v := .int y_244) (ty := .int) (C := RX7) (T := TX7) (N := 4) hx hb hq inX7 tyX7 tyX7_ok nmX7 hown hK hP hD hS 0 rfl rfl 2 (by decide) (hq _ qw_161) (fun _ h9 => h9) rfl (by decide +kernel) rfl rfl (Nat.le_of_ble_eq_true rfl) dX7_number_96 (fun H locs hP hD hS => ?_)
            have hP : va_P (dC, dI) classes [(h0, .inr (7, [.ref tp, .int h0_length, .int y_244, .int h0_fault])), (tp, .inl (ktp, 400, .inl gtp))] H := hP
            have hD : va_D A [(h0, .inr (7, [.ref tp, .int h0_length, .int y_244, .int h0_fault])), (tp, .inl (ktp, 400, .inl gtp))] := hD
            obtain ⟨y_245, ey_245⟩ : ∃ y : Int32, y = y_123 + 1 := ⟨_, rfl⟩
            refine lv_iinc (v := y_245) (lv' := [(6, .int y_245), (5, .int y_241), (4, .int h0_place), (0, .ref h0), (1, .int x0), (2, .int x1), (3, .int x2)]) hx hb dX7_number_99 hl (k := 1) rfl (by rw [ey_245]; rfl) (by decide) rfl (fun ls hl => ?_)
            refine lv_goto (tgt := 37) hx hb dX7_number_102 (by decide) ?_
            have b_246 : bt 0 399 y_123 := rf_lt_l bd_v_6 (bt_k (x := 400) (c := 400) (by decide)) (Int32.not_le.mp c_232) (by decide)
            have b_247 : bt 1 400 y_245 := bt_add ey_245 b_246 (bt_k (x := 1) (c := 1) (by decide)) (by decide)
            exact ih37 _ _ _ ⟨y_245, y_241, (fun i => [y_244].getD i 0), _, (bt_w b_247 (by decide)), (ms_s ey_245 b_246 hm37 (by decide)), hP, hD, hS, hl, rfl⟩
          refine lv_icmp_ge (tgt := 85) hx hb dX7_number_62 (by decide) (fun c_248 => ?_) (fun c_248 => ?_)
          · refine lv_iload hx hb dX7_number_85 (lv_at hl 1 rfl) ?_
            exact hJ87 _ _ _ ⟨y_124, _, hP, hD, hS, (lv_sub hl [0, 2, 3, 4, 5, 6] rfl), rfl⟩
          · refine lv_bipush (v := 10) hx hb dX7_number_65 (by decide) ?_
            refine lv_iload hx hb dX7_number_67 (lv_at hl 1 rfl) ?_
            refine lv_imul hx hb dX7_number_69 ?_
            refine lv_topi (fun y_249 ey_249 => ?_)
            refine lv_aload_n hx hb dX7_number_70 rfl (lv_at hl 3 rfl) ?_
            refine lv_aload_n hx hb dX7_number_71 rfl (lv_at hl 3 rfl) ?_
            refine va_get (D := (dC, dI)) (ci := 7) (v := .int (yy_125 0)) (C := RX7) (T := TX7) (N := 4) hx hb hq inX7 hown hK hP 0 rfl rfl 2 (by decide) (hq _ qw_161) (fun _ h9 => h9) rfl dX7_number_72 ?_
            have hPc := hP.sub (ws' := [(h0, .inr (7, [.ref tp, .int h0_length, .int (yy_125 0), .int h0_fault])), (tp, .inl (ktp, 400, .inl gtp))]) [0, 1] rfl
            have hDc := hD.sub (ws' := [(h0, .inr (7, [.ref tp, .int h0_length, .int (yy_125 0), .int h0_fault])), (tp, .inl (ktp, 400, .inl gtp))]) [0, 1] (by decide) rfl
            have hKc := hK.sub (tys' := [(ktp, .int)]) [0] rfl
            have hFc := va_free (wc := [(h0, .inr (7, [.ref tp, .int h0_length, .int (yy_125 0), .int h0_fault])), (tp, .inl (ktp, 400, .inl gtp))]) hD hS hA [0, 1] rfl
            refine va_calli (va_runV (As := [.int (yy_125 0)]) (rest := [.int y_249]) ⟨hx, hb, hml, hown, hq⟩ (rd_byteAt l dC dI _ h0 tp h0_length (yy_125 0) h0_fault ktp gtp (yy_125 0) ) (cwV 1 hq (gV qw_542 qw_544 qw_1 qw_121 qw_545) rfl rfl rfl (by decide +kernel) ⟨Nat.le_of_ble_eq_true rfl, Nat.le_of_ble_eq_true rfl⟩) ⟨fun a U g mk q => by obtain ⟨q0, q1, qP, qK, qD, qE⟩ := q; exact ⟨q0, q1, qP, va_K.moved (u := U) (U := U.calling g mk a) (Vm.Alike.refl U.vm) qK, qD, xE.same rfl qE⟩, va_recv hKc hPc (ci := 7) (q0 := 0) rfl rfl, fun U hU hW => ⟨rfl, by rw [hU], by rw [hU]; exact hPc, va_K.moved hW.alike hKc, hDc.weaken (fun _ _ _ _ => trivial), xE.warm hW hE⟩⟩ rfl rfl hl.1 rfl (lv_room (Nat.le_of_ble_eq_true rfl)) dX7_number_75 ⟨Nat.le_of_ble_eq_true rfl, Nat.le_of_ble_eq_true rfl⟩) hS (fun q _ h => hFc q h) hFc (fun r_250 u t H1 locs ht hvm hw hB hz1 hk1 hS => ?_)
            obtain ⟨hP1, hK1, hD1⟩ := hB
            rw [ht] at hP1
            obtain ⟨hP, hD⟩ := va_join (wr := []) (w1 := [(h0, .inr (7, [.ref tp, .int h0_length, .int (yy_125 0), .int h0_fault])), (tp, .inl (ktp, 400, .inl gtp))]) hP hD [0, 1] [] rfl rfl (by decide) (by decide) hk1 hFc hP1 hD1
            generalize H1 = H at hP hS ⊢
            have hP : va_P (dC, dI) classes [(h0, .inr (7, [.ref tp, .int h0_length, .int (yy_125 0), .int h0_fault])), (tp, .inl (ktp, 400, .inl gtp))] H := hP
            have hD : va_D A [(h0, .inr (7, [.ref tp, .int h0_length, .int (yy_125 0), .int h0_fault])), (tp, .inl (ktp, 400, .inl gtp))] := hD
            refine lv_iadd hx hb dX7_number_78 ?_
            refine lv_topi (fun y_251 ey_251 => ?_)
            refine lv_bipush (v := 48) hx hb dX7_number_79 (by decide) ?_
            refine lv_isub hx hb dX7_number_81 ?_
            refine lv_topi (fun y_252 ey_252 => ?_)
            refine lv_goto (tgt := 87) hx hb dX7_number_82 (by decide) ?_
            exact hJ87 _ _ _ ⟨y_252, _, hP, hD, hS, (lv_sub hl [0, 2, 3, 4, 5, 6] rfl), rfl⟩
  · refine lv_aload_n hx hb dX7_number_14 rfl (lv_at hl 0 rfl) ?_
    refine lv_aload_n hx hb dX7_number_15 rfl (lv_at hl 0 rfl) ?_
    refine va_get (D := (dC, dI)) (ci := 7) (v := .int h0_place) (C := RX7) (T := TX7) (N := 4) hx hb hq inX7 hown hK hP 0 rfl rfl 2 (by decide) (hq _ qw_161) (fun _ h9 => h9) rfl dX7_number_16 ?_
    refine lv_iconst (v := 0) hx hb dX7_number_19 (by decide) ?_
    have hPc := hP.sub (ws' := [(h0, .inr (7, [.ref tp, .int h0_length, .int h0_place, .int h0_fault]))]) [0] rfl
    have hDc := hD.sub (ws' := [(h0, .inr (7, [.ref tp, .int h0_length, .int h0_place, .int h0_fault]))]) [0] (by decide) rfl
    have hKc := hK.sub (tys' := []) [] rfl
    have hFc := va_free (wc := [(h0, .inr (7, [.ref tp, .int h0_length, .int h0_place, .int h0_fault]))]) hD hS hA [0] rfl
    refine va_callv (va_runV (As := [.int h0_place, .int 0]) (rest := []) ⟨hx, hb, hml, hown, hq⟩ (rd_blame l dC dI _ h0 tp h0_length h0_place h0_fault h0_place 0 ) (cwV 2 hq (gV qw_628 qw_603 qw_604 qw_121 qw_605) rfl rfl rfl (by decide +kernel) ⟨Nat.le_of_ble_eq_true rfl, Nat.le_of_ble_eq_true rfl⟩) ⟨fun a U g mk q => by obtain ⟨q0, q1, qP, qK, qD, qE⟩ := q; exact ⟨q0, q1, qP, va_K.moved (u := U) (U := U.calling g mk a) (Vm.Alike.refl U.vm) qK, qD, xE.same rfl qE⟩, va_recv hKc hPc (ci := 7) (q0 := 0) rfl rfl, fun U hU hW => ⟨rfl, by rw [hU], by rw [hU]; exact hPc, va_K.moved hW.alike hKc, hDc.weaken (fun _ _ _ _ => trivial), xE.warm hW hE⟩⟩ rfl rfl hl.1 rfl (lv_room (Nat.le_of_ble_eq_true rfl)) dX7_number_20 ⟨Nat.le_of_ble_eq_true rfl, Nat.le_of_ble_eq_true rfl⟩) hS (fun q _ h => hFc q h) hFc (fun u t H1 locs ht hvm hw hB hz1 hk1 hS => ?_)
    obtain ⟨yy_254, hP1, hK1, hD1⟩ := hB
    rw [ht] at hP1
    obtain ⟨hP, hD⟩ := va_join (wr := [(tp, .inl (ktp, 400, .inl gtp))]) (w1 := [(h0, .inr (7, [.ref tp, .int h0_length, .int h0_place, .int (yy_254 0)]))]) hP hD [0] [1] rfl rfl (by decide) (by decide) hk1 hFc hP1 hD1
    generalize H1 = H at hP hS ⊢
    have hP : va_P (dC, dI) classes [(tp, .inl (ktp, 400, .inl gtp)), (h0, .inr (7, [.ref tp, .int h0_length, .int h0_place, .int (yy_254 0)]))] H := hP
    have hD : va_D A [(tp, .inl (ktp, 400, .inl gtp)), (h0, .inr (7, [.ref tp, .int h0_length, .int h0_place, .int (yy_254 0)]))] := hD
    refine lv_iconst (v := 0) hx hb dX7_number_23 (by decide) ?_
    refine W.widen (k := 0) (n := 0) (Nat.le_of_ble_eq_true rfl) (Nat.le_of_ble_eq_true rfl) ?_
    exact W.iret (v := 0) hx hb hr (fun t ht hW => ⟨⟨0, (), rfl, trivial, (fun i => [h0_place, (yy_254 0)].getD i 0), by rw [ht]; exact (hP.sub (ws' := [(h0, .inr (7, [.ref tp, .int h0_length, .int h0_place, .int (yy_254 0)])), (tp, .inl (ktp, 400, .inl gtp))]) [1, 0] rfl), va_K.moved hW.alike hK, (hD.sub (ws' := [(h0, .inr (7, [.ref tp, .int h0_length, .int h0_place, .int (yy_254 0)])), (tp, .inl (ktp, 400, .inl gtp))]) [1, 0] (by decide) rfl)⟩, hS.F ht⟩) hS.2.2 dX7_number_24

set_option maxHeartbeats 4000000 in
set_option maxRecDepth 100000 in
/-- rd_goesOn -/
theorem rd_goesOn (l : Launch) (dC : Nat → ClassId) (dI : Nat → Nat → Nat) (sz : Nat) (h0 : Nat) (tp : Nat) (h0_length : Int32) (h0_place : Int32) (h0_fault : Int32) (ktp : ClassId) (gtp : Nat → Int32) : Met l yX7_goesOn (.code yX7_goesOn cX7_goesOn 2 (some .boolean) :: wsA) ({ frames := 2, cells := 0, slots := 0, locals := 42 }) (va_Pc [.ref h0] (fun U => U.heap.size = sz ∧ va_P (dC, dI) classes [(h0, .inr (7, [.ref tp, .int h0_length, .int h0_place, .int h0_fault])), (tp, .inl (ktp, 400, .inl gtp))] U.heap ∧ va_K (dC, dI) classes [(ktp, .int)] U ∧ va_D (fun _ => True) [(h0, .inr (7, [.ref tp, .int h0_length, .int h0_place, .int h0_fault])), (tp, .inl (ktp, 400, .inl gtp))] ∧ xE U)) (va_Qi (fun (r : Int32) (_ : Unit) => True) (fun _ t => ∃ (yy_9 : Nat → Int32), va_P (dC, dI) classes [(h0, .inr (7, [.ref tp, .int h0_length, .int (yy_9 0), .int (yy_9 1)])), (tp, .inl (ktp, 400, .inl gtp))] t.heap ∧ va_K (dC, dI) classes [(ktp, .int)] t ∧ va_D (va_A [(h0, .inr (7, [.ref tp, .int h0_length, .int h0_place, .int h0_fault])), (tp, .inl (ktp, 400, .inl gtp))] sz) [(h0, .inr (7, [.ref tp, .int h0_length, .int (yy_9 0), .int (yy_9 1)])), (tp, .inl (ktp, 400, .inl gtp))]) (va_A [(h0, .inr (7, [.ref tp, .int h0_length, .int h0_place, .int h0_fault])), (tp, .inl (ktp, 400, .inl gtp))] sz)) 0 0 (va_A [(h0, .inr (7, [.ref tp, .int h0_length, .int h0_place, .int h0_fault])), (tp, .inl (ktp, 400, .inl gtp))] sz) := by
  refine Met.ofW (cc := cX7_goesOn) (maxL := 2) (ret := (some .boolean)) (by decide) rfl ?_
  intro p e s m args below meth c s₁ B hml hv
  obtain ⟨rfl, hsz, hP, hK, hD0, hE⟩ := hv
  have hx := B.exec
  have hb := B.bytes
  have hr := B.returns
  have hts := atoms_spec (ws := .code yX7_goesOn cX7_goesOn 2 (some .boolean) :: wsA) B.pre
  have hq : ∀ w ∈ wsA, w.before _ s = true := fun w h => hts w (List.mem_cons_of_mem _ h)
  have hown : s.vm.findClass RX7 = some m.cls := findClass_of_methodNamed B.named
  have hlocks := B.notSynchronized
  subst hsz
  have hD := hD0.self (sz := s.heap.size)
  generalize hAe : va_A [(h0, .inr (7, [.ref tp, .int h0_length, .int h0_place, .int h0_fault])), (tp, .inl (ktp, 400, .inl gtp))] s.heap.size = A at hD ⊢
  have hA : ∀ q : Nat, s.heap.size ≤ q → A q := fun q h => by rw [← hAe]; exact Or.inr h
  have hS : va_S A s.heap s.heap [] := va_S.rf
  have hl := lv_entry ([.ref h0]) (n := 2) (Nat.le_of_ble_eq_true rfl)
  rw [lg_entry_eq]
  generalize (lg_sl ([.ref h0]) ++ List.replicate (2 - (lg_sl ([.ref h0])).length) Slot.unset).toArray = ls at hl ⊢
  have hl : lv_has ls 2 [(0, .ref h0)] := hl
  refine lv_aload_n hx hb dX7_goesOn_0 rfl (lv_at hl 0 rfl) ?_
  have hPc := hP.sub (ws' := [(h0, .inr (7, [.ref tp, .int h0_length, .int h0_place, .int h0_fault])), (tp, .inl (ktp, 400, .inl gtp))]) [0, 1] rfl
  have hDc := hD.sub (ws' := [(h0, .inr (7, [.ref tp, .int h0_length, .int h0_place, .int h0_fault])), (tp, .inl (ktp, 400, .inl gtp))]) [0, 1] (by decide) rfl
  have hKc := hK.sub (tys' := [(ktp, .int)]) [0] rfl
  have hFc := va_free (wc := [(h0, .inr (7, [.ref tp, .int h0_length, .int h0_place, .int h0_fault])), (tp, .inl (ktp, 400, .inl gtp))]) hD hS hA [0, 1] rfl
  refine va_calli (va_runV (As := []) (rest := []) ⟨hx, hb, hml, hown, hq⟩ (rd_sign l dC dI _ h0 tp h0_length h0_place h0_fault ktp gtp ) (cwV 0 hq (gV qw_645 qw_539 qw_540 qw_121 qw_541) rfl rfl rfl (by decide +kernel) ⟨Nat.le_of_ble_eq_true rfl, Nat.le_of_ble_eq_true rfl⟩) ⟨fun a U g mk q => by obtain ⟨q0, q1, qP, qK, qD, qE⟩ := q; exact ⟨q0, q1, qP, va_K.moved (u := U) (U := U.calling g mk a) (Vm.Alike.refl U.vm) qK, qD, xE.same rfl qE⟩, va_recv hKc hPc (ci := 7) (q0 := 0) rfl rfl, fun U hU hW => ⟨rfl, by rw [hU], by rw [hU]; exact hPc, va_K.moved hW.alike hKc, hDc.weaken (fun _ _ _ _ => trivial), xE.warm hW hE⟩⟩ rfl rfl hl.1 rfl (lv_room (Nat.le_of_ble_eq_true rfl)) dX7_goesOn_1 ⟨Nat.le_of_ble_eq_true rfl, Nat.le_of_ble_eq_true rfl⟩) hS (fun q _ h => hFc q h) hFc (fun r_10 u t H1 locs ht hvm hw hB hz1 hk1 hS => ?_)
  obtain ⟨yy_11, hP1, hK1, hD1⟩ := hB
  rw [ht] at hP1
  obtain ⟨hP, hD⟩ := va_join (wr := []) (w1 := [(h0, .inr (7, [.ref tp, .int h0_length, .int (yy_11 0), .int h0_fault])), (tp, .inl (ktp, 400, .inl gtp))]) hP hD [0, 1] [] rfl rfl (by decide) (by decide) hk1 hFc hP1 hD1
  generalize H1 = H at hP hS ⊢
  have hP : va_P (dC, dI) classes [(h0, .inr (7, [.ref tp, .int h0_length, .int (yy_11 0), .int h0_fault])), (tp, .inl (ktp, 400, .inl gtp))] H := hP
  have hD : va_D A [(h0, .inr (7, [.ref tp, .int h0_length, .int (yy_11 0), .int h0_fault])), (tp, .inl (ktp, 400, .inl gtp))] := hD
  refine lv_istore_n (lv' := [(1, .int r_10), (0, .ref h0)]) hx hb dX7_goesOn_4 rfl hl (by decide) rfl (fun ls hl => ?_)
  refine lv_aload_n hx hb dX7_goesOn_5 rfl (lv_at hl 1 rfl) ?_
  refine va_get (D := (dC, dI)) (ci := 7) (v := .int h0_fault) (C := RX7) (T := TX7) (N := 4) hx hb hq inX7 hown hK hP 0 rfl rfl 3 (by decide) (hq _ qw_164) (fun _ h9 => h9) rfl dX7_goesOn_6 ?_
  refine W.cut (I := fun H locs g => ∃ (ls : Array Slot), va_P (dC, dI) classes [(h0, .inr (7, [.ref tp, .int h0_length, .int (yy_11 0), .int h0_fault])), (tp, .inl (ktp, 400, .inl gtp))] H ∧ va_D A [(h0, .inr (7, [.ref tp, .int h0_length, .int (yy_11 0), .int h0_fault])), (tp, .inl (ktp, 400, .inl gtp))] ∧ va_S A s.heap H locs ∧ lv_has ls 2 [] ∧ g = F0 m 17 ls []) (fun H locs g h => ?_) (fun hJ17 => ?_)
  · obtain ⟨ls, hP, hD, hS, hl, rfl⟩ := h
    refine lv_iconst (v := 0) hx hb dX7_goesOn_17 (by decide) ?_
    refine W.widen (k := 0) (n := 0) (Nat.le_of_ble_eq_true rfl) (Nat.le_of_ble_eq_true rfl) ?_
    exact W.zret (v := 0) hx hb hr (by decide) (fun t ht hW => ⟨⟨0, (), rfl, trivial, (fun i => [(yy_11 0), h0_fault].getD i 0), by rw [ht]; exact hP, va_K.moved hW.alike hK, hD⟩, hS.F ht⟩) hS.2.2 dX7_goesOn_18
  refine lv_if_ne (tgt := 17) hx hb dX7_goesOn_9 (by decide) (fun c_18 => ?_) (fun c_18 => ?_)
  · exact hJ17 _ _ _ ⟨_, hP, hD, hS, (lv_sub hl [] rfl), rfl⟩
  · refine lv_iload_n hx hb dX7_goesOn_12 rfl (lv_at hl 0 rfl) ?_
    refine lv_iconst (v := (-1)) hx hb dX7_goesOn_13 (by decide) ?_
    refine lv_icmp_ne (tgt := 19) hx hb dX7_goesOn_14 (by decide) (fun c_19 => ?_) (fun c_19 => ?_)
    · refine lv_iload_n hx hb dX7_goesOn_19 rfl (lv_at hl 0 rfl) ?_
      refine lv_bipush (v := 59) hx hb dX7_goesOn_20 (by decide) ?_
      refine lv_icmp_eq (tgt := 36) hx hb dX7_goesOn_22 (by decide) (fun c_20 => ?_) (fun c_20 => ?_)
      · refine lv_aload_n hx hb dX7_goesOn_36 rfl (lv_at hl 1 rfl) ?_
        refine lv_dup hx hb dX7_goesOn_37 rfl ?_
        refine va_get (D := (dC, dI)) (ci := 7) (v := .int (yy_11 0)) (C := RX7) (T := TX7) (N := 4) hx hb hq inX7 hown hK hP 0 rfl rfl 2 (by decide) (hq _ qw_161) (fun _ h9 => h9) rfl dX7_goesOn_38 ?_
        refine lv_iconst (v := 1) hx hb dX7_goesOn_41 (by decide) ?_
        refine lv_iadd hx hb dX7_goesOn_42 ?_
        refine lv_topi (fun y_21 ey_21 => ?_)
        refine va_put (D := (dC, dI)) (ci := 7) (v := .int y_21) (ty := .int) (C := RX7) (T := TX7) (N := 4) hx hb hq inX7 tyX7 tyX7_ok nmX7 hown hK hP hD hS 0 rfl rfl 2 (by decide) (hq _ qw_161) (fun _ h9 => h9) rfl (by decide +kernel) rfl rfl (Nat.le_of_ble_eq_true rfl) dX7_goesOn_43 (fun H locs hP hD hS => ?_)
        have hP : va_P (dC, dI) classes [(h0, .inr (7, [.ref tp, .int h0_length, .int y_21, .int h0_fault])), (tp, .inl (ktp, 400, .inl gtp))] H := hP
        have hD : va_D A [(h0, .inr (7, [.ref tp, .int h0_length, .int y_21, .int h0_fault])), (tp, .inl (ktp, 400, .inl gtp))] := hD
        refine lv_iconst (v := 1) hx hb dX7_goesOn_46 (by decide) ?_
        refine W.widen (k := 0) (n := 0) (Nat.le_of_ble_eq_true rfl) (Nat.le_of_ble_eq_true rfl) ?_
        exact W.zret (v := 1) hx hb hr (by decide) (fun t ht hW => ⟨⟨1, (), rfl, trivial, (fun i => [y_21, h0_fault].getD i 0), by rw [ht]; exact hP, va_K.moved hW.alike hK, hD⟩, hS.F ht⟩) hS.2.2 dX7_goesOn_47
      · refine lv_aload_n hx hb dX7_goesOn_25 rfl (lv_at hl 1 rfl) ?_
        refine lv_aload_n hx hb dX7_goesOn_26 rfl (lv_at hl 1 rfl) ?_
        refine va_get (D := (dC, dI)) (ci := 7) (v := .int (yy_11 0)) (C := RX7) (T := TX7) (N := 4) hx hb hq inX7 hown hK hP 0 rfl rfl 2 (by decide) (hq _ qw_161) (fun _ h9 => h9) rfl dX7_goesOn_27 ?_
        refine lv_iconst (v := 0) hx hb dX7_goesOn_30 (by decide) ?_
        have hPc := hP.sub (ws' := [(h0, .inr (7, [.ref tp, .int h0_length, .int (yy_11 0), .int h0_fault]))]) [0] rfl
        have hDc := hD.sub (ws' := [(h0, .inr (7, [.ref tp, .int h0_length, .int (yy_11 0), .int h0_fault]))]) [0] (by decide) rfl
        have hKc := hK.sub (tys' := []) [] rfl
        have hFc := va_free (wc := [(h0, .inr (7, [.ref tp, .int h0_length, .int (yy_11 0), .int h0_fault]))]) hD hS hA [0] rfl
        refine va_callv (va_runV (As := [.int (yy_11 0), .int 0]) (rest := []) ⟨hx, hb, hml, hown, hq⟩ (rd_blame l dC dI _ h0 tp h0_length (yy_11 0) h0_fault (yy_11 0) 0 ) (cwV 2 hq (gV qw_628 qw_603 qw_604 qw_121 qw_605) rfl rfl rfl (by decide +kernel) ⟨Nat.le_of_ble_eq_true rfl, Nat.le_of_ble_eq_true rfl⟩) ⟨fun a U g mk q => by obtain ⟨q0, q1, qP, qK, qD, qE⟩ := q; exact ⟨q0, q1, qP, va_K.moved (u := U) (U := U.calling g mk a) (Vm.Alike.refl U.vm) qK, qD, xE.same rfl qE⟩, va_recv hKc hPc (ci := 7) (q0 := 0) rfl rfl, fun U hU hW => ⟨rfl, by rw [hU], by rw [hU]; exact hPc, va_K.moved hW.alike hKc, hDc.weaken (fun _ _ _ _ => trivial), xE.warm hW hE⟩⟩ rfl rfl hl.1 rfl (lv_room (Nat.le_of_ble_eq_true rfl)) dX7_goesOn_31 ⟨Nat.le_of_ble_eq_true rfl, Nat.le_of_ble_eq_true rfl⟩) hS (fun q _ h => hFc q h) hFc (fun u t H1 locs ht hvm hw hB hz1 hk1 hS => ?_)
        obtain ⟨yy_23, hP1, hK1, hD1⟩ := hB
        rw [ht] at hP1
        obtain ⟨hP, hD⟩ := va_join (wr := [(tp, .inl (ktp, 400, .inl gtp))]) (w1 := [(h0, .inr (7, [.ref tp, .int h0_length, .int (yy_11 0), .int (yy_23 0)]))]) hP hD [0] [1] rfl rfl (by decide) (by decide) hk1 hFc hP1 hD1
        generalize H1 = H at hP hS ⊢
        have hP : va_P (dC, dI) classes [(tp, .inl (ktp, 400, .inl gtp)), (h0, .inr (7, [.ref tp, .int h0_length, .int (yy_11 0), .int (yy_23 0)]))] H := hP
        have hD : va_D A [(tp, .inl (ktp, 400, .inl gtp)), (h0, .inr (7, [.ref tp, .int h0_length, .int (yy_11 0), .int (yy_23 0)]))] := hD
        refine lv_iconst (v := 0) hx hb dX7_goesOn_34 (by decide) ?_
        refine W.widen (k := 0) (n := 0) (Nat.le_of_ble_eq_true rfl) (Nat.le_of_ble_eq_true rfl) ?_
        exact W.zret (v := 0) hx hb hr (by decide) (fun t ht hW => ⟨⟨0, (), rfl, trivial, (fun i => [(yy_11 0), (yy_23 0)].getD i 0), by rw [ht]; exact (hP.sub (ws' := [(h0, .inr (7, [.ref tp, .int h0_length, .int (yy_11 0), .int (yy_23 0)])), (tp, .inl (ktp, 400, .inl gtp))]) [1, 0] rfl), va_K.moved hW.alike hK, (hD.sub (ws' := [(h0, .inr (7, [.ref tp, .int h0_length, .int (yy_11 0), .int (yy_23 0)])), (tp, .inl (ktp, 400, .inl gtp))]) [1, 0] (by decide) rfl)⟩, hS.F ht⟩) hS.2.2 dX7_goesOn_35
    · exact hJ17 _ _ _ ⟨_, hP, hD, hS, (lv_sub hl [] rfl), rfl⟩
