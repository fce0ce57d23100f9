theorem qw_125 : (.initialized RX3 : Cond) ∈ wsA := mA (i := 125) (by decide +kernel) rfl
theorem qw_137 : (.initialized RJ6 : Cond) ∈ wsA := mA (i := 137) (by decide +kernel) rfl
theorem qw_229 : (.fieldLink RX3 18 "SpokenBite$Dinne\x72" "dishes" "I" : Cond) ∈ wsA := mA (i := 229) (by decide +kernel) rfl
theorem qw_233 : (.fieldLink RX3 26 "SpokenBite$Dinne\x72" "guests" "I" : Cond) ∈ wsA := mA (i := 233) (by decide +kernel) rfl
theorem qw_269 : (.fieldLink RX3 15 "SpokenBite$Evening" "minute" "I" : Cond) ∈ wsA := mA (i := 269) (by decide +kernel) rfl
theorem qw_272 : (.fieldLink RX3 9 "SpokenBite$Evening" "offered" "I" : Cond) ∈ wsA := mA (i := 272) (by decide +kernel) rfl
theorem qw_275 : (.fieldLink RX3 23 "SpokenBite$Evening" "table" "I" : Cond) ∈ wsA := mA (i := 275) (by decide +kernel) rfl
theorem qw_279 : (.fieldLink RX3 29 "SpokenBite$Evening" "sitting" "I" : Cond) ∈ wsA := mA (i := 279) (by decide +kernel) rfl
theorem qw_282 : (.fieldLink RX3 32 "SpokenBite$Evening" "gullet" "I" : Cond) ∈ wsA := mA (i := 282) (by decide +kernel) rfl
theorem qw_285 : (.fieldLink RX3 35 "SpokenBite$Evening" "knows" "J" : Cond) ∈ wsA := mA (i := 285) (by decide +kernel) rfl
theorem qw_754 : (.methodLink RX3 47 yX3_dishIn : Cond) ∈ wsA := mA (i := 754) (by decide +kernel) rfl
theorem qw_755 : (.instanceMethod yX3_dishIn : Cond) ∈ wsA := mA (i := 755) (by decide +kernel) rfl
theorem qw_756 : (.selects RX3 yX3_dishIn yX3_dishIn : Cond) ∈ wsA := mA (i := 756) (by decide +kernel) rfl
theorem qw_757 : (.code yX3_dishIn cX3_dishIn 2 (some .int) : Cond) ∈ wsA := mA (i := 757) (by decide +kernel) rfl
theorem qw_767 : (.instanceMethod yX3_knownBy : Cond) ∈ wsA := mA (i := 767) (by decide +kernel) rfl
theorem qw_768 : (.selects RX3 yX3_knownBy yX3_knownBy : Cond) ∈ wsA := mA (i := 768) (by decide +kernel) rfl
theorem qw_769 : (.code yX3_knownBy cX3_knownBy 2 (some .int) : Cond) ∈ wsA := mA (i := 769) (by decide +kernel) rfl
theorem qw_771 : (.instanceMethod yX3_sits : Cond) ∈ wsA := mA (i := 771) (by decide +kernel) rfl
theorem qw_772 : (.selects RX3 yX3_sits yX3_sits : Cond) ∈ wsA := mA (i := 772) (by decide +kernel) rfl
theorem qw_773 : (.code yX3_sits cX3_sits 2 (some .boolean) : Cond) ∈ wsA := mA (i := 773) (by decide +kernel) rfl
theorem qw_824 : (.static yJ6_numberOfTrailingZeros_0f7a4 : Cond) ∈ wsA := mA (i := 824) (by decide +kernel) rfl
theorem qw_825 : (.code yJ6_numberOfTrailingZeros_0f7a4 cJ6_numberOfTrailingZeros_0f7a4 2 (some .int) : Cond) ∈ wsA := mA (i := 825) (by decide +kernel) rfl
theorem qw_835 : (.methodLink RX3 50 yJ6_numberOfTrailingZeros_0f7a4 : Cond) ∈ wsA := mA (i := 835) (by decide +kernel) rfl
theorem qw_837 : (.static yJ6_bitCount_0f7a4 : Cond) ∈ wsA := mA (i := 837) (by decide +kernel) rfl
theorem qw_838 : (.code yJ6_bitCount_0f7a4 cJ6_bitCount_0f7a4 1 (some .int) : Cond) ∈ wsA := mA (i := 838) (by decide +kernel) rfl
theorem qw_850 : (.methodLink RX3 39 yX3_knownBy : Cond) ∈ wsA := mA (i := 850) (by decide +kernel) rfl
theorem qw_906 : (.constantLong RX3 43 (255) : Cond) ∈ wsA := mA (i := 906) (by decide +kernel) rfl
theorem qw_907 : (.constantLong RX3 45 (-1) : Cond) ∈ wsA := mA (i := 907) (by decide +kernel) rfl
theorem qw_996 : (.methodLink RX3 55 yX3_sits : Cond) ∈ wsA := mA (i := 996) (by decide +kernel) rfl
theorem qw_997 : (.methodLink RX3 59 yJ6_bitCount_0f7a4 : Cond) ∈ wsA := mA (i := 997) (by decide +kernel) rfl
theorem dX3_begin_0 : decode cX3_begin 0 = .ok (.aload_n 0, 1) := by decide +kernel
theorem dX3_begin_1 : decode cX3_begin 1 = .ok (.iconst 0, 1) := by decide +kernel
theorem dX3_begin_2 : decode cX3_begin 2 = .ok (.putfield 15, 3) := by decide +kernel
theorem dX3_begin_5 : decode cX3_begin 5 = .ok (.aload_n 0, 1) := by decide +kernel
theorem dX3_begin_6 : decode cX3_begin 6 = .ok (.iconst (-1), 1) := by decide +kernel
theorem dX3_begin_7 : decode cX3_begin 7 = .ok (.putfield 9, 3) := by decide +kernel
theorem dX3_begin_10 : decode cX3_begin 10 = .ok (.aload_n 0, 1) := by decide +kernel
theorem dX3_begin_11 : decode cX3_begin 11 = .ok (.iconst 1, 1) := by decide +kernel
theorem dX3_begin_12 : decode cX3_begin 12 = .ok (.aload_n 1, 1) := by decide +kernel
theorem dX3_begin_13 : decode cX3_begin 13 = .ok (.getfield 18, 3) := by decide +kernel
theorem dX3_begin_16 : decode cX3_begin 16 = .ok (.ishl, 1) := by decide +kernel
theorem dX3_begin_17 : decode cX3_begin 17 = .ok (.iconst 1, 1) := by decide +kernel
theorem dX3_begin_18 : decode cX3_begin 18 = .ok (.isub, 1) := by decide +kernel
theorem dX3_begin_19 : decode cX3_begin 19 = .ok (.putfield 23, 3) := by decide +kernel
theorem dX3_begin_22 : decode cX3_begin 22 = .ok (.aload_n 0, 1) := by decide +kernel
theorem dX3_begin_23 : decode cX3_begin 23 = .ok (.iconst 1, 1) := by decide +kernel
theorem dX3_begin_24 : decode cX3_begin 24 = .ok (.aload_n 1, 1) := by decide +kernel
theorem dX3_begin_25 : decode cX3_begin 25 = .ok (.getfield 26, 3) := by decide +kernel
theorem dX3_begin_28 : decode cX3_begin 28 = .ok (.ishl, 1) := by decide +kernel
theorem dX3_begin_29 : decode cX3_begin 29 = .ok (.iconst 1, 1) := by decide +kernel
theorem dX3_begin_30 : decode cX3_begin 30 = .ok (.isub, 1) := by decide +kernel
theorem dX3_begin_31 : decode cX3_begin 31 = .ok (.putfield 29, 3) := by decide +kernel
theorem dX3_begin_34 : decode cX3_begin 34 = .ok (.aload_n 0, 1) := by decide +kernel
theorem dX3_begin_35 : decode cX3_begin 35 = .ok (.iconst 0, 1) := by decide +kernel
theorem dX3_begin_36 : decode cX3_begin 36 = .ok (.putfield 32, 3) := by decide +kernel
theorem dX3_begin_39 : decode cX3_begin 39 = .ok (.aload_n 0, 1) := by decide +kernel
theorem dX3_begin_40 : decode cX3_begin 40 = .ok (.lconst 0, 1) := by decide +kernel
theorem dX3_begin_41 : decode cX3_begin 41 = .ok (.putfield 35, 3) := by decide +kernel
theorem dX3_begin_44 : decode cX3_begin 44 = .ok (.return_, 1) := by decide +kernel
theorem dX3_bringUp_0 : decode cX3_bringUp 0 = .ok (.aload_n 0, 1) := by decide +kernel
theorem dX3_bringUp_1 : decode cX3_bringUp 1 = .ok (.iload_n 1, 1) := by decide +kernel
theorem dX3_bringUp_2 : decode cX3_bringUp 2 = .ok (.invokevirtual 47, 3) := by decide +kernel
theorem dX3_bringUp_5 : decode cX3_bringUp 5 = .ok (.istore_n 2, 1) := by decide +kernel
theorem dX3_bringUp_6 : decode cX3_bringUp 6 = .ok (.iload_n 2, 1) := by decide +kernel
theorem dX3_bringUp_7 : decode cX3_bringUp 7 = .ok (.iconst (-1), 1) := by decide +kernel
theorem dX3_bringUp_8 : decode cX3_bringUp 8 = .ok (.if_icmp .eq 32, 3) := by decide +kernel
theorem dX3_bringUp_11 : decode cX3_bringUp 11 = .ok (.aload_n 0, 1) := by decide +kernel
theorem dX3_bringUp_12 : decode cX3_bringUp 12 = .ok (.dup, 1) := by decide +kernel
theorem dX3_bringUp_13 : decode cX3_bringUp 13 = .ok (.getfield 32, 3) := by decide +kernel
theorem dX3_bringUp_16 : decode cX3_bringUp 16 = .ok (.bipush 15, 2) := by decide +kernel
theorem dX3_bringUp_18 : decode cX3_bringUp 18 = .ok (.iconst 4, 1) := by decide +kernel
theorem dX3_bringUp_19 : decode cX3_bringUp 19 = .ok (.iload_n 1, 1) := by decide +kernel
theorem dX3_bringUp_20 : decode cX3_bringUp 20 = .ok (.imul, 1) := by decide +kernel
theorem dX3_bringUp_21 : decode cX3_bringUp 21 = .ok (.ishl, 1) := by decide +kernel
theorem dX3_bringUp_22 : decode cX3_bringUp 22 = .ok (.iconst (-1), 1) := by decide +kernel
theorem dX3_bringUp_23 : decode cX3_bringUp 23 = .ok (.ixor, 1) := by decide +kernel
theorem dX3_bringUp_24 : decode cX3_bringUp 24 = .ok (.iand, 1) := by decide +kernel
theorem dX3_bringUp_25 : decode cX3_bringUp 25 = .ok (.putfield 32, 3) := by decide +kernel
theorem dX3_bringUp_28 : decode cX3_bringUp 28 = .ok (.aload_n 0, 1) := by decide +kernel
theorem dX3_bringUp_29 : decode cX3_bringUp 29 = .ok (.dup, 1) := by decide +kernel
theorem dX3_bringUp_30 : decode cX3_bringUp 30 = .ok (.getfield 23, 3) := by decide +kernel
theorem dX3_bringUp_33 : decode cX3_bringUp 33 = .ok (.iconst 1, 1) := by decide +kernel
theorem dX3_bringUp_34 : decode cX3_bringUp 34 = .ok (.iload_n 2, 1) := by decide +kernel
theorem dX3_bringUp_35 : decode cX3_bringUp 35 = .ok (.ishl, 1) := by decide +kernel
theorem dX3_bringUp_36 : decode cX3_bringUp 36 = .ok (.ior, 1) := by decide +kernel
theorem dX3_bringUp_37 : decode cX3_bringUp 37 = .ok (.putfield 23, 3) := by decide +kernel
theorem dX3_bringUp_40 : decode cX3_bringUp 40 = .ok (.return_, 1) := by decide +kernel
theorem dX3_dishIn_0 : decode cX3_dishIn 0 = .ok (.aload_n 0, 1) := by decide +kernel
theorem dX3_dishIn_1 : decode cX3_dishIn 1 = .ok (.getfield 32, 3) := by decide +kernel
theorem dX3_dishIn_4 : decode cX3_dishIn 4 = .ok (.iconst 4, 1) := by decide +kernel
theorem dX3_dishIn_5 : decode cX3_dishIn 5 = .ok (.iload_n 1, 1) := by decide +kernel
theorem dX3_dishIn_6 : decode cX3_dishIn 6 = .ok (.imul, 1) := by decide +kernel
theorem dX3_dishIn_7 : decode cX3_dishIn 7 = .ok (.ishr, 1) := by decide +kernel
theorem dX3_dishIn_8 : decode cX3_dishIn 8 = .ok (.bipush 15, 2) := by decide +kernel
theorem dX3_dishIn_10 : decode cX3_dishIn 10 = .ok (.iand, 1) := by decide +kernel
theorem dX3_dishIn_11 : decode cX3_dishIn 11 = .ok (.iconst 1, 1) := by decide +kernel
theorem dX3_dishIn_12 : decode cX3_dishIn 12 = .ok (.isub, 1) := by decide +kernel
theorem dX3_dishIn_13 : decode cX3_dishIn 13 = .ok (.ireturn, 1) := by decide +kernel
theorem dX3_dishesInThroat_0 : decode cX3_dishesInThroat 0 = .ok (.iconst 0, 1) := by decide +kernel
theorem dX3_dishesInThroat_1 : decode cX3_dishesInThroat 1 = .ok (.istore_n 1, 1) := by decide +kernel
theorem dX3_dishesInThroat_2 : decode cX3_dishesInThroat 2 = .ok (.aload_n 0, 1) := by decide +kernel
theorem dX3_dishesInThroat_3 : decode cX3_dishesInThroat 3 = .ok (.getfield 32, 3) := by decide +kernel
theorem dX3_dishesInThroat_6 : decode cX3_dishesInThroat 6 = .ok (.istore_n 2, 1) := by decide +kernel
theorem dX3_dishesInThroat_7 : decode cX3_dishesInThroat 7 = .ok (.iconst 0, 1) := by decide +kernel
theorem dX3_dishesInThroat_8 : decode cX3_dishesInThroat 8 = .ok (.istore_n 3, 1) := by decide +kernel
theorem dX3_dishesInThroat_9 : decode cX3_dishesInThroat 9 = .ok (.iload_n 3, 1) := by decide +kernel
theorem dX3_dishesInThroat_10 : decode cX3_dishesInThroat 10 = .ok (.bipush 6, 2) := by decide +kernel
theorem dX3_dishesInThroat_12 : decode cX3_dishesInThroat 12 = .ok (.if_icmp .ge 28, 3) := by decide +kernel
theorem dX3_dishesInThroat_15 : decode cX3_dishesInThroat 15 = .ok (.iload_n 1, 1) := by decide +kernel
theorem dX3_dishesInThroat_16 : decode cX3_dishesInThroat 16 = .ok (.iload_n 2, 1) := by decide +kernel
theorem dX3_dishesInThroat_17 : decode cX3_dishesInThroat 17 = .ok (.bipush 15, 2) := by decide +kernel
theorem dX3_dishesInThroat_19 : decode cX3_dishesInThroat 19 = .ok (.iand, 1) := by decide +kernel
theorem dX3_dishesInThroat_20 : decode cX3_dishesInThroat 20 = .ok (.ifCond .ne 7, 3) := by decide +kernel
theorem dX3_dishesInThroat_23 : decode cX3_dishesInThroat 23 = .ok (.iconst 0, 1) := by decide +kernel
theorem dX3_dishesInThroat_24 : decode cX3_dishesInThroat 24 = .ok (.goto 4, 3) := by decide +kernel
theorem dX3_dishesInThroat_27 : decode cX3_dishesInThroat 27 = .ok (.iconst 1, 1) := by decide +kernel
theorem dX3_dishesInThroat_28 : decode cX3_dishesInThroat 28 = .ok (.iadd, 1) := by decide +kernel
theorem dX3_dishesInThroat_29 : decode cX3_dishesInThroat 29 = .ok (.istore_n 1, 1) := by decide +kernel
theorem dX3_dishesInThroat_30 : decode cX3_dishesInThroat 30 = .ok (.iload_n 2, 1) := by decide +kernel
theorem dX3_dishesInThroat_31 : decode cX3_dishesInThroat 31 = .ok (.iconst 4, 1) := by decide +kernel
theorem dX3_dishesInThroat_32 : decode cX3_dishesInThroat 32 = .ok (.ishr, 1) := by decide +kernel
theorem dX3_dishesInThroat_33 : decode cX3_dishesInThroat 33 = .ok (.istore_n 2, 1) := by decide +kernel
theorem dX3_dishesInThroat_34 : decode cX3_dishesInThroat 34 = .ok (.iinc 3 1, 3) := by decide +kernel
theorem dX3_dishesInThroat_37 : decode cX3_dishesInThroat 37 = .ok (.goto (-28), 3) := by decide +kernel
theorem dX3_dishesInThroat_40 : decode cX3_dishesInThroat 40 = .ok (.iload_n 1, 1) := by decide +kernel
theorem dX3_dishesInThroat_41 : decode cX3_dishesInThroat 41 = .ok (.ireturn, 1) := by decide +kernel
theorem dX3_forget_0 : decode cX3_forget 0 = .ok (.aload_n 0, 1) := by decide +kernel
theorem dX3_forget_1 : decode cX3_forget 1 = .ok (.dup, 1) := by decide +kernel
theorem dX3_forget_2 : decode cX3_forget 2 = .ok (.getfield 35, 3) := by decide +kernel
theorem dX3_forget_5 : decode cX3_forget 5 = .ok (.ldc2_w 43, 3) := by decide +kernel
theorem dX3_forget_8 : decode cX3_forget 8 = .ok (.bipush 8, 2) := by decide +kernel
theorem dX3_forget_10 : decode cX3_forget 10 = .ok (.iload_n 1, 1) := by decide +kernel
theorem dX3_forget_11 : decode cX3_forget 11 = .ok (.imul, 1) := by decide +kernel
theorem dX3_forget_12 : decode cX3_forget 12 = .ok (.lshl, 1) := by decide +kernel
theorem dX3_forget_13 : decode cX3_forget 13 = .ok (.ldc2_w 45, 3) := by decide +kernel
theorem dX3_forget_16 : decode cX3_forget 16 = .ok (.lxor, 1) := by decide +kernel
theorem dX3_forget_17 : decode cX3_forget 17 = .ok (.land, 1) := by decide +kernel
theorem dX3_forget_18 : decode cX3_forget 18 = .ok (.putfield 35, 3) := by decide +kernel
theorem dX3_forget_21 : decode cX3_forget 21 = .ok (.return_, 1) := by decide +kernel
theorem dX3_knownBy_0 : decode cX3_knownBy 0 = .ok (.aload_n 0, 1) := by decide +kernel
theorem dX3_knownBy_1 : decode cX3_knownBy 1 = .ok (.getfield 35, 3) := by decide +kernel
theorem dX3_knownBy_4 : decode cX3_knownBy 4 = .ok (.bipush 8, 2) := by decide +kernel
theorem dX3_knownBy_6 : decode cX3_knownBy 6 = .ok (.iload_n 1, 1) := by decide +kernel
theorem dX3_knownBy_7 : decode cX3_knownBy 7 = .ok (.imul, 1) := by decide +kernel
theorem dX3_knownBy_8 : decode cX3_knownBy 8 = .ok (.lushr, 1) := by decide +kernel
theorem dX3_knownBy_9 : decode cX3_knownBy 9 = .ok (.l2i, 1) := by decide +kernel
theorem dX3_knownBy_10 : decode cX3_knownBy 10 = .ok (.sipush 255, 3) := by decide +kernel
theorem dX3_knownBy_13 : decode cX3_knownBy 13 = .ok (.iand, 1) := by decide +kernel
theorem dX3_knownBy_14 : decode cX3_knownBy 14 = .ok (.ireturn, 1) := by decide +kernel
theorem dX3_knownByAny_0 : decode cX3_knownByAny 0 = .ok (.iconst 0, 1) := by decide +kernel
theorem dX3_knownByAny_1 : decode cX3_knownByAny 1 = .ok (.istore_n 2, 1) := by decide +kernel
theorem dX3_knownByAny_2 : decode cX3_knownByAny 2 = .ok (.iconst 0, 1) := by decide +kernel
theorem dX3_knownByAny_3 : decode cX3_knownByAny 3 = .ok (.istore_n 3, 1) := by decide +kernel
theorem dX3_knownByAny_4 : decode cX3_knownByAny 4 = .ok (.iload_n 3, 1) := by decide +kernel
theorem dX3_knownByAny_5 : decode cX3_knownByAny 5 = .ok (.iconst 5, 1) := by decide +kernel
theorem dX3_knownByAny_6 : decode cX3_knownByAny 6 = .ok (.if_icmp .ge 25, 3) := by decide +kernel
theorem dX3_knownByAny_9 : decode cX3_knownByAny 9 = .ok (.iload_n 1, 1) := by decide +kernel
theorem dX3_knownByAny_10 : decode cX3_knownByAny 10 = .ok (.iload_n 3, 1) := by decide +kernel
theorem dX3_knownByAny_11 : decode cX3_knownByAny 11 = .ok (.ishr, 1) := by decide +kernel
theorem dX3_knownByAny_12 : decode cX3_knownByAny 12 = .ok (.iconst 1, 1) := by decide +kernel
theorem dX3_knownByAny_13 : decode cX3_knownByAny 13 = .ok (.iand, 1) := by decide +kernel
theorem dX3_knownByAny_14 : decode cX3_knownByAny 14 = .ok (.ifCond .eq 11, 3) := by decide +kernel
theorem dX3_knownByAny_17 : decode cX3_knownByAny 17 = .ok (.iload_n 2, 1) := by decide +kernel
theorem dX3_knownByAny_18 : decode cX3_knownByAny 18 = .ok (.aload_n 0, 1) := by decide +kernel
theorem dX3_knownByAny_19 : decode cX3_knownByAny 19 = .ok (.iload_n 3, 1) := by decide +kernel
theorem dX3_knownByAny_20 : decode cX3_knownByAny 20 = .ok (.invokevirtual 39, 3) := by decide +kernel
theorem dX3_knownByAny_23 : decode cX3_knownByAny 23 = .ok (.ior, 1) := by decide +kernel
theorem dX3_knownByAny_24 : decode cX3_knownByAny 24 = .ok (.istore_n 2, 1) := by decide +kernel
theorem dX3_knownByAny_25 : decode cX3_knownByAny 25 = .ok (.iinc 3 1, 3) := by decide +kernel
theorem dX3_knownByAny_28 : decode cX3_knownByAny 28 = .ok (.goto (-24), 3) := by decide +kernel
theorem dX3_knownByAny_31 : decode cX3_knownByAny 31 = .ok (.iload_n 2, 1) := by decide +kernel
theorem dX3_knownByAny_32 : decode cX3_knownByAny 32 = .ok (.ireturn, 1) := by decide +kernel
theorem dX3_knownBySitting_0 : decode cX3_knownBySitting 0 = .ok (.iconst 0, 1) := by decide +kernel
theorem dX3_knownBySitting_1 : decode cX3_knownBySitting 1 = .ok (.istore_n 1, 1) := by decide +kernel
theorem dX3_knownBySitting_2 : decode cX3_knownBySitting 2 = .ok (.iconst 0, 1) := by decide +kernel
theorem dX3_knownBySitting_3 : decode cX3_knownBySitting 3 = .ok (.istore_n 2, 1) := by decide +kernel
theorem dX3_knownBySitting_4 : decode cX3_knownBySitting 4 = .ok (.iload_n 2, 1) := by decide +kernel
theorem dX3_knownBySitting_5 : decode cX3_knownBySitting 5 = .ok (.iconst 5, 1) := by decide +kernel
theorem dX3_knownBySitting_6 : decode cX3_knownBySitting 6 = .ok (.if_icmp .ge 32, 3) := by decide +kernel
theorem dX3_knownBySitting_9 : decode cX3_knownBySitting 9 = .ok (.iload_n 1, 1) := by decide +kernel
theorem dX3_knownBySitting_10 : decode cX3_knownBySitting 10 = .ok (.aload_n 0, 1) := by decide +kernel
theorem dX3_knownBySitting_11 : decode cX3_knownBySitting 11 = .ok (.iload_n 2, 1) := by decide +kernel
theorem dX3_knownBySitting_12 : decode cX3_knownBySitting 12 = .ok (.invokevirtual 55, 3) := by decide +kernel
theorem dX3_knownBySitting_15 : decode cX3_knownBySitting 15 = .ok (.ifCond .eq 14, 3) := by decide +kernel
theorem dX3_knownBySitting_18 : decode cX3_knownBySitting 18 = .ok (.aload_n 0, 1) := by decide +kernel
theorem dX3_knownBySitting_19 : decode cX3_knownBySitting 19 = .ok (.iload_n 2, 1) := by decide +kernel
theorem dX3_knownBySitting_20 : decode cX3_knownBySitting 20 = .ok (.invokevirtual 39, 3) := by decide +kernel
theorem dX3_knownBySitting_23 : decode cX3_knownBySitting 23 = .ok (.invokestatic 59, 3) := by decide +kernel
theorem dX3_knownBySitting_26 : decode cX3_knownBySitting 26 = .ok (.goto 4, 3) := by decide +kernel
theorem dX3_knownBySitting_29 : decode cX3_knownBySitting 29 = .ok (.iconst 0, 1) := by decide +kernel
theorem dX3_knownBySitting_30 : decode cX3_knownBySitting 30 = .ok (.iadd, 1) := by decide +kernel
theorem dX3_knownBySitting_31 : decode cX3_knownBySitting 31 = .ok (.istore_n 1, 1) := by decide +kernel
theorem dX3_knownBySitting_32 : decode cX3_knownBySitting 32 = .ok (.iinc 2 1, 3) := by decide +kernel
theorem dX3_knownBySitting_35 : decode cX3_knownBySitting 35 = .ok (.goto (-31), 3) := by decide +kernel
theorem dX3_knownBySitting_38 : decode cX3_knownBySitting 38 = .ok (.iload_n 1, 1) := by decide +kernel
theorem dX3_knownBySitting_39 : decode cX3_knownBySitting 39 = .ok (.ireturn, 1) := by decide +kernel
theorem dX3_learn_0 : decode cX3_learn 0 = .ok (.aload_n 0, 1) := by decide +kernel
theorem dX3_learn_1 : decode cX3_learn 1 = .ok (.dup, 1) := by decide +kernel
theorem dX3_learn_2 : decode cX3_learn 2 = .ok (.getfield 35, 3) := by decide +kernel
theorem dX3_learn_5 : decode cX3_learn 5 = .ok (.iload_n 2, 1) := by decide +kernel
theorem dX3_learn_6 : decode cX3_learn 6 = .ok (.i2l, 1) := by decide +kernel
theorem dX3_learn_7 : decode cX3_learn 7 = .ok (.bipush 8, 2) := by decide +kernel
theorem dX3_learn_9 : decode cX3_learn 9 = .ok (.iload_n 1, 1) := by decide +kernel
theorem dX3_learn_10 : decode cX3_learn 10 = .ok (.imul, 1) := by decide +kernel
theorem dX3_learn_11 : decode cX3_learn 11 = .ok (.lshl, 1) := by decide +kernel
theorem dX3_learn_12 : decode cX3_learn 12 = .ok (.lor, 1) := by decide +kernel
theorem dX3_learn_13 : decode cX3_learn 13 = .ok (.putfield 35, 3) := by decide +kernel
theorem dX3_learn_16 : decode cX3_learn 16 = .ok (.return_, 1) := by decide +kernel
theorem dX3_leaveOut_0 : decode cX3_leaveOut 0 = .ok (.iload_n 1, 1) := by decide +kernel
theorem dX3_leaveOut_1 : decode cX3_leaveOut 1 = .ok (.iconst (-1), 1) := by decide +kernel
theorem dX3_leaveOut_2 : decode cX3_leaveOut 2 = .ok (.if_icmp .eq 37, 3) := by decide +kernel
theorem dX3_leaveOut_5 : decode cX3_leaveOut 5 = .ok (.aload_n 0, 1) := by decide +kernel
theorem dX3_leaveOut_6 : decode cX3_leaveOut 6 = .ok (.dup, 1) := by decide +kernel
theorem dX3_leaveOut_7 : decode cX3_leaveOut 7 = .ok (.getfield 23, 3) := by decide +kernel
theorem dX3_leaveOut_10 : decode cX3_leaveOut 10 = .ok (.iconst 1, 1) := by decide +kernel
theorem dX3_leaveOut_11 : decode cX3_leaveOut 11 = .ok (.iload_n 1, 1) := by decide +kernel
theorem dX3_leaveOut_12 : decode cX3_leaveOut 12 = .ok (.ishl, 1) := by decide +kernel
theorem dX3_leaveOut_13 : decode cX3_leaveOut 13 = .ok (.iconst (-1), 1) := by decide +kernel
theorem dX3_leaveOut_14 : decode cX3_leaveOut 14 = .ok (.ixor, 1) := by decide +kernel
theorem dX3_leaveOut_15 : decode cX3_leaveOut 15 = .ok (.iand, 1) := by decide +kernel
theorem dX3_leaveOut_16 : decode cX3_leaveOut 16 = .ok (.putfield 23, 3) := by decide +kernel
theorem dX3_leaveOut_19 : decode cX3_leaveOut 19 = .ok (.aload_n 0, 1) := by decide +kernel
theorem dX3_leaveOut_20 : decode cX3_leaveOut 20 = .ok (.aload_n 0, 1) := by decide +kernel
theorem dX3_leaveOut_21 : decode cX3_leaveOut 21 = .ok (.getfield 9, 3) := by decide +kernel
theorem dX3_leaveOut_24 : decode cX3_leaveOut 24 = .ok (.iload_n 1, 1) := by decide +kernel
theorem dX3_leaveOut_25 : decode cX3_leaveOut 25 = .ok (.if_icmp .ne 7, 3) := by decide +kernel
theorem dX3_leaveOut_28 : decode cX3_leaveOut 28 = .ok (.iconst (-1), 1) := by decide +kernel
theorem dX3_leaveOut_29 : decode cX3_leaveOut 29 = .ok (.goto 7, 3) := by decide +kernel
theorem dX3_leaveOut_32 : decode cX3_leaveOut 32 = .ok (.aload_n 0, 1) := by decide +kernel
theorem dX3_leaveOut_33 : decode cX3_leaveOut 33 = .ok (.getfield 9, 3) := by decide +kernel
theorem dX3_leaveOut_36 : decode cX3_leaveOut 36 = .ok (.putfield 9, 3) := by decide +kernel
theorem dX3_leaveOut_39 : decode cX3_leaveOut 39 = .ok (.return_, 1) := by decide +kernel
theorem dX3_onTable_0 : decode cX3_onTable 0 = .ok (.aload_n 0, 1) := by decide +kernel
theorem dX3_onTable_1 : decode cX3_onTable 1 = .ok (.getfield 23, 3) := by decide +kernel
theorem dX3_onTable_4 : decode cX3_onTable 4 = .ok (.iload_n 1, 1) := by decide +kernel
theorem dX3_onTable_5 : decode cX3_onTable 5 = .ok (.ishr, 1) := by decide +kernel
theorem dX3_onTable_6 : decode cX3_onTable 6 = .ok (.iconst 1, 1) := by decide +kernel
theorem dX3_onTable_7 : decode cX3_onTable 7 = .ok (.iand, 1) := by decide +kernel
theorem dX3_onTable_8 : decode cX3_onTable 8 = .ok (.ifCond .eq 7, 3) := by decide +kernel
theorem dX3_onTable_11 : decode cX3_onTable 11 = .ok (.iconst 1, 1) := by decide +kernel
theorem dX3_onTable_12 : decode cX3_onTable 12 = .ok (.goto 4, 3) := by decide +kernel
theorem dX3_onTable_15 : decode cX3_onTable 15 = .ok (.iconst 0, 1) := by decide +kernel
theorem dX3_onTable_16 : decode cX3_onTable 16 = .ok (.ireturn, 1) := by decide +kernel
theorem dX3_placeOf_0 : decode cX3_placeOf 0 = .ok (.iconst 0, 1) := by decide +kernel
theorem dX3_placeOf_1 : decode cX3_placeOf 1 = .ok (.istore_n 2, 1) := by decide +kernel
theorem dX3_placeOf_2 : decode cX3_placeOf 2 = .ok (.iload_n 2, 1) := by decide +kernel
theorem dX3_placeOf_3 : decode cX3_placeOf 3 = .ok (.bipush 6, 2) := by decide +kernel
theorem dX3_placeOf_5 : decode cX3_placeOf 5 = .ok (.if_icmp .ge 20, 3) := by decide +kernel
theorem dX3_placeOf_8 : decode cX3_placeOf 8 = .ok (.aload_n 0, 1) := by decide +kernel
theorem dX3_placeOf_9 : decode cX3_placeOf 9 = .ok (.iload_n 2, 1) := by decide +kernel
theorem dX3_placeOf_10 : decode cX3_placeOf 10 = .ok (.invokevirtual 47, 3) := by decide +kernel
theorem dX3_placeOf_13 : decode cX3_placeOf 13 = .ok (.iload_n 1, 1) := by decide +kernel
theorem dX3_placeOf_14 : decode cX3_placeOf 14 = .ok (.if_icmp .ne 5, 3) := by decide +kernel
theorem dX3_placeOf_17 : decode cX3_placeOf 17 = .ok (.iload_n 2, 1) := by decide +kernel
theorem dX3_placeOf_18 : decode cX3_placeOf 18 = .ok (.ireturn, 1) := by decide +kernel
theorem dX3_placeOf_19 : decode cX3_placeOf 19 = .ok (.iinc 2 1, 3) := by decide +kernel
theorem dX3_placeOf_22 : decode cX3_placeOf 22 = .ok (.goto (-20), 3) := by decide +kernel
theorem dX3_placeOf_25 : decode cX3_placeOf 25 = .ok (.bipush (-2), 2) := by decide +kernel
theorem dX3_placeOf_27 : decode cX3_placeOf 27 = .ok (.ireturn, 1) := by decide +kernel
theorem dX3_sits_0 : decode cX3_sits 0 = .ok (.aload_n 0, 1) := by decide +kernel
theorem dX3_sits_1 : decode cX3_sits 1 = .ok (.getfield 29, 3) := by decide +kernel
theorem dX3_sits_4 : decode cX3_sits 4 = .ok (.iload_n 1, 1) := by decide +kernel
theorem dX3_sits_5 : decode cX3_sits 5 = .ok (.ishr, 1) := by decide +kernel
theorem dX3_sits_6 : decode cX3_sits 6 = .ok (.iconst 1, 1) := by decide +kernel
theorem dX3_sits_7 : decode cX3_sits 7 = .ok (.iand, 1) := by decide +kernel
theorem dX3_sits_8 : decode cX3_sits 8 = .ok (.ifCond .eq 7, 3) := by decide +kernel
theorem dX3_sits_11 : decode cX3_sits 11 = .ok (.iconst 1, 1) := by decide +kernel
theorem dX3_sits_12 : decode cX3_sits 12 = .ok (.goto 4, 3) := by decide +kernel
theorem dX3_sits_15 : decode cX3_sits 15 = .ok (.iconst 0, 1) := by decide +kernel
theorem dX3_sits_16 : decode cX3_sits 16 = .ok (.ireturn, 1) := by decide +kernel
theorem dX3_take_0 : decode cX3_take 0 = .ok (.aload_n 0, 1) := by decide +kernel
theorem dX3_take_1 : decode cX3_take 1 = .ok (.aload_n 1, 1) := by decide +kernel
theorem dX3_take_2 : decode cX3_take 2 = .ok (.getfield 15, 3) := by decide +kernel
theorem dX3_take_5 : decode cX3_take 5 = .ok (.putfield 15, 3) := by decide +kernel
theorem dX3_take_8 : decode cX3_take 8 = .ok (.aload_n 0, 1) := by decide +kernel
theorem dX3_take_9 : decode cX3_take 9 = .ok (.aload_n 1, 1) := by decide +kernel
theorem dX3_take_10 : decode cX3_take 10 = .ok (.getfield 9, 3) := by decide +kernel
theorem dX3_take_13 : decode cX3_take 13 = .ok (.putfield 9, 3) := by decide +kernel
theorem dX3_take_16 : decode cX3_take 16 = .ok (.aload_n 0, 1) := by decide +kernel
theorem dX3_take_17 : decode cX3_take 17 = .ok (.aload_n 1, 1) := by decide +kernel
theorem dX3_take_18 : decode cX3_take 18 = .ok (.getfield 23, 3) := by decide +kernel
theorem dX3_take_21 : decode cX3_take 21 = .ok (.putfield 23, 3) := by decide +kernel
theorem dX3_take_24 : decode cX3_take 24 = .ok (.aload_n 0, 1) := by decide +kernel
theorem dX3_take_25 : decode cX3_take 25 = .ok (.aload_n 1, 1) := by decide +kernel
theorem dX3_take_26 : decode cX3_take 26 = .ok (.getfield 29, 3) := by decide +kernel
theorem dX3_take_29 : decode cX3_take 29 = .ok (.putfield 29, 3) := by decide +kernel
theorem dX3_take_32 : decode cX3_take 32 = .ok (.aload_n 0, 1) := by decide +kernel
theorem dX3_take_33 : decode cX3_take 33 = .ok (.aload_n 1, 1) := by decide +kernel
theorem dX3_take_34 : decode cX3_take 34 = .ok (.getfield 32, 3) := by decide +kernel
theorem dX3_take_37 : decode cX3_take 37 = .ok (.putfield 32, 3) := by decide +kernel
theorem dX3_take_40 : decode cX3_take 40 = .ok (.aload_n 0, 1) := by decide +kernel
theorem dX3_take_41 : decode cX3_take 41 = .ok (.aload_n 1, 1) := by decide +kernel
theorem dX3_take_42 : decode cX3_take 42 = .ok (.getfield 35, 3) := by decide +kernel
theorem dX3_take_45 : decode cX3_take 45 = .ok (.putfield 35, 3) := by decide +kernel
theorem dX3_take_48 : decode cX3_take 48 = .ok (.return_, 1) := by decide +kernel
theorem dX3_topDish_0 : decode cX3_topDish 0 = .ok (.aload_n 0, 1) := by decide +kernel
theorem dX3_topDish_1 : decode cX3_topDish 1 = .ok (.getfield 32, 3) := by decide +kernel
theorem dX3_topDish_4 : decode cX3_topDish 4 = .ok (.invokestatic 50, 3) := by decide +kernel
theorem dX3_topDish_7 : decode cX3_topDish 7 = .ok (.iconst 4, 1) := by decide +kernel
theorem dX3_topDish_8 : decode cX3_topDish 8 = .ok (.idiv, 1) := by decide +kernel
theorem dX3_topDish_9 : decode cX3_topDish 9 = .ok (.istore_n 1, 1) := by decide +kernel
theorem dX3_topDish_10 : decode cX3_topDish 10 = .ok (.iload_n 1, 1) := by decide +kernel
theorem dX3_topDish_11 : decode cX3_topDish 11 = .ok (.bipush 6, 2) := by decide +kernel
theorem dX3_topDish_13 : decode cX3_topDish 13 = .ok (.if_icmp .ge 19, 3) := by decide +kernel
theorem dX3_topDish_16 : decode cX3_topDish 16 = .ok (.aload_n 0, 1) := by decide +kernel
theorem dX3_topDish_17 : decode cX3_topDish 17 = .ok (.getfield 32, 3) := by decide +kernel
theorem dX3_topDish_20 : decode cX3_topDish 20 = .ok (.iconst 4, 1) := by decide +kernel
theorem dX3_topDish_21 : decode cX3_topDish 21 = .ok (.iload_n 1, 1) := by decide +kernel
theorem dX3_topDish_22 : decode cX3_topDish 22 = .ok (.imul, 1) := by decide +kernel
theorem dX3_topDish_23 : decode cX3_topDish 23 = .ok (.ishr, 1) := by decide +kernel
theorem dX3_topDish_24 : decode cX3_topDish 24 = .ok (.bipush 15, 2) := by decide +kernel
theorem dX3_topDish_26 : decode cX3_topDish 26 = .ok (.iand, 1) := by decide +kernel
theorem dX3_topDish_27 : decode cX3_topDish 27 = .ok (.iconst 1, 1) := by decide +kernel
theorem dX3_topDish_28 : decode cX3_topDish 28 = .ok (.isub, 1) := by decide +kernel
theorem dX3_topDish_29 : decode cX3_topDish 29 = .ok (.goto 4, 3) := by decide +kernel
theorem dX3_topDish_32 : decode cX3_topDish 32 = .ok (.iconst (-1), 1) := by decide +kernel
theorem dX3_topDish_33 : decode cX3_topDish 33 = .ok (.ireturn, 1) := by decide +kernel
set_option maxHeartbeats 4000000 in
set_option maxRecDepth 100000 in
/-- e_init0 -/
theorem e_init0 (l : Launch) (dC : Nat → ClassId) (dI : Nat → Nat → Nat) (sz : Nat) (h0 : Nat) (h0_minute : Int32) (h0_offered : Int32) (h0_table : Int32) (h0_sitting : Int32) (h0_gullet : Int32) (h0_knows : Int64) (h1 : Nat) (h1_deep : Int32) (h1_dishes : Int32) (h1_guests : Int32) (h1lo : Nat) (h1sa : Nat) (h1ea : Nat) (h1cl : Nat) : Met l yX3_begin (.code yX3_begin cX3_begin 2 none :: wsA) ({ frames := 0, cells := 0, slots := 0, locals := 0 }) (va_Pc [.ref h0, .ref h1] (fun U => U.heap.size = sz ∧ va_P (dC, dI) classes [(h0, .inr (3, [.int h0_minute, .int h0_offered, .int h0_table, .int h0_sitting, .int h0_gullet, .long h0_knows])), (h1, .inr (1, [.int h1_deep, .int h1_dishes, .int h1_guests, .ref h1lo, .ref h1sa, .ref h1ea, .ref h1cl]))] U.heap ∧ va_K (dC, dI) classes [] U ∧ va_D (fun _ => True) [(h0, .inr (3, [.int h0_minute, .int h0_offered, .int h0_table, .int h0_sitting, .int h0_gullet, .long h0_knows])), (h1, .inr (1, [.int h1_deep, .int h1_dishes, .int h1_guests, .ref h1lo, .ref h1sa, .ref h1ea, .ref h1cl]))] ∧ xE U)) (va_Qv (fun (_ : Unit) => True) (fun _ t => ∃ (yy_5 : Nat → Int32), va_P (dC, dI) classes [(h0, .inr (3, [.int 0, .int (-1), .int (yy_5 0), .int (yy_5 1), .int 0, .long 0])), (h1, .inr (1, [.int h1_deep, .int h1_dishes, .int h1_guests, .ref h1lo, .ref h1sa, .ref h1ea, .ref h1cl]))] t.heap ∧ va_K (dC, dI) classes [] t ∧ va_D (va_A [(h0, .inr (3, [.int h0_minute, .int h0_offered, .int h0_table, .int h0_sitting, .int h0_gullet, .long h0_knows])), (h1, .inr (1, [.int h1_deep, .int h1_dishes, .int h1_guests, .ref h1lo, .ref h1sa, .ref h1ea, .ref h1cl]))] sz) [(h0, .inr (3, [.int 0, .int (-1), .int (yy_5 0), .int (yy_5 1), .int 0, .long 0])), (h1, .inr (1, [.int h1_deep, .int h1_dishes, .int h1_guests, .ref h1lo, .ref h1sa, .ref h1ea, .ref h1cl]))]) (va_A [(h0, .inr (3, [.int h0_minute, .int h0_offered, .int h0_table, .int h0_sitting, .int h0_gullet, .long h0_knows])), (h1, .inr (1, [.int h1_deep, .int h1_dishes, .int h1_guests, .ref h1lo, .ref h1sa, .ref h1ea, .ref h1cl]))] sz)) 0 0 (va_A [(h0, .inr (3, [.int h0_minute, .int h0_offered, .int h0_table, .int h0_sitting, .int h0_gullet, .long h0_knows])), (h1, .inr (1, [.int h1_deep, .int h1_dishes, .int h1_guests, .ref h1lo, .ref h1sa, .ref h1ea, .ref h1cl]))] sz) := by
  refine Met.ofW (cc := cX3_begin) (maxL := 2) (ret := none) (by decide) rfl ?_
  intro p e s m args below meth c s₁ B hml hv
  obtain ⟨rfl, hsz, hP, hK, hD0, hE⟩ := hv
  have hx := B.exec
  have hb := B.bytes
  have hr := B.returns
  have hts := atoms_spec (ws := .code yX3_begin cX3_begin 2 none :: wsA) B.pre
  have hq : ∀ w ∈ wsA, w.before _ s = true := fun w h => hts w (List.mem_cons_of_mem _ h)
  have hown : s.vm.findClass RX3 = some m.cls := findClass_of_methodNamed B.named
  have hlocks := B.notSynchronized
  subst hsz
  have hD := hD0.self (sz := s.heap.size)
  generalize hAe : va_A [(h0, .inr (3, [.int h0_minute, .int h0_offered, .int h0_table, .int h0_sitting, .int h0_gullet, .long h0_knows])), (h1, .inr (1, [.int h1_deep, .int h1_dishes, .int h1_guests, .ref h1lo, .ref h1sa, .ref h1ea, .ref h1cl]))] s.heap.size = A at hD ⊢
  have hA : ∀ q : Nat, s.heap.size ≤ q → A q := fun q h => by rw [← hAe]; exact Or.inr h
  have hS : va_S A s.heap s.heap [] := va_S.rf
  have hl := lv_entry ([.ref h0, .ref h1]) (n := 2) (Nat.le_of_ble_eq_true rfl)
  rw [lg_entry_eq]
  generalize (lg_sl ([.ref h0, .ref h1]) ++ List.replicate (2 - (lg_sl ([.ref h0, .ref h1])).length) Slot.unset).toArray = ls at hl ⊢
  have hl : lv_has ls 2 [(0, .ref h0), (1, .ref h1)] := hl
  refine lv_aload_n hx hb dX3_begin_0 rfl (lv_at hl 0 rfl) ?_
  refine lv_iconst (v := 0) hx hb dX3_begin_1 (by decide) ?_
  refine va_put (D := (dC, dI)) (ci := 3) (v := .int 0) (ty := .int) (C := RX3) (T := TX3) (N := 6) hx hb hq inX3 tyX3 tyX3_ok nmX3 hown hK hP hD hS 0 rfl rfl 0 (by decide) (hq _ qw_269) (fun _ h9 => h9) rfl (by decide +kernel) rfl rfl (Nat.le_of_ble_eq_true rfl) dX3_begin_2 (fun H locs hP hD hS => ?_)
  have hP : va_P (dC, dI) classes [(h0, .inr (3, [.int 0, .int h0_offered, .int h0_table, .int h0_sitting, .int h0_gullet, .long h0_knows])), (h1, .inr (1, [.int h1_deep, .int h1_dishes, .int h1_guests, .ref h1lo, .ref h1sa, .ref h1ea, .ref h1cl]))] H := hP
  have hD : va_D A [(h0, .inr (3, [.int 0, .int h0_offered, .int h0_table, .int h0_sitting, .int h0_gullet, .long h0_knows])), (h1, .inr (1, [.int h1_deep, .int h1_dishes, .int h1_guests, .ref h1lo, .ref h1sa, .ref h1ea, .ref h1cl]))] := hD
  refine lv_aload_n hx hb dX3_begin_5 rfl (lv_at hl 0 rfl) ?_
  refine lv_iconst (v := (-1)) hx hb dX3_begin_6 (by decide) ?_
  refine va_put (D := (dC, dI)) (ci := 3) (v := .int (-1)) (ty := .int) (C := RX3) (T := TX3) (N := 6) hx hb hq inX3 tyX3 tyX3_ok nmX3 hown hK hP hD hS 0 rfl rfl 1 (by decide) (hq _ qw_272) (fun _ h9 => h9) rfl (by decide +kernel) rfl rfl (Nat.le_of_ble_eq_true rfl) dX3_begin_7 (fun H locs hP hD hS => ?_)
  have hP : va_P (dC, dI) classes [(h0, .inr (3, [.int 0, .int (-1), .int h0_table, .int h0_sitting, .int h0_gullet, .long h0_knows])), (h1, .inr (1, [.int h1_deep, .int h1_dishes, .int h1_guests, .ref h1lo, .ref h1sa, .ref h1ea, .ref h1cl]))] H := hP
  have hD : va_D A [(h0, .inr (3, [.int 0, .int (-1), .int h0_table, .int h0_sitting, .int h0_gullet, .long h0_knows])), (h1, .inr (1, [.int h1_deep, .int h1_dishes, .int h1_guests, .ref h1lo, .ref h1sa, .ref h1ea, .ref h1cl]))] := hD
  refine lv_aload_n hx hb dX3_begin_10 rfl (lv_at hl 0 rfl) ?_
  refine lv_iconst (v := 1) hx hb dX3_begin_11 (by decide) ?_
  refine lv_aload_n hx hb dX3_begin_12 rfl (lv_at hl 1 rfl) ?_
  refine va_get (D := (dC, dI)) (ci := 1) (v := .int h1_dishes) (C := RX1) (T := TX1) (N := 7) hx hb hq inX1 hown hK hP 1 rfl rfl 1 (by decide) (hq _ qw_229) (fun _ h9 => h9) rfl dX3_begin_13 ?_
  refine lv_ishl hx hb dX3_begin_16 ?_
  refine lv_topi (fun y_6 ey_6 => ?_)
  refine lv_iconst (v := 1) hx hb dX3_begin_17 (by decide) ?_
  refine lv_isub hx hb dX3_begin_18 ?_
  refine lv_topi (fun y_7 ey_7 => ?_)
  refine va_put (D := (dC, dI)) (ci := 3) (v := .int y_7) (ty := .int) (C := RX3) (T := TX3) (N := 6) hx hb hq inX3 tyX3 tyX3_ok nmX3 hown hK hP hD hS 0 rfl rfl 2 (by decide) (hq _ qw_275) (fun _ h9 => h9) rfl (by decide +kernel) rfl rfl (Nat.le_of_ble_eq_true rfl) dX3_begin_19 (fun H locs hP hD hS => ?_)
  have hP : va_P (dC, dI) classes [(h0, .inr (3, [.int 0, .int (-1), .int y_7, .int h0_sitting, .int h0_gullet, .long h0_knows])), (h1, .inr (1, [.int h1_deep, .int h1_dishes, .int h1_guests, .ref h1lo, .ref h1sa, .ref h1ea, .ref h1cl]))] H := hP
  have hD : va_D A [(h0, .inr (3, [.int 0, .int (-1), .int y_7, .int h0_sitting, .int h0_gullet, .long h0_knows])), (h1, .inr (1, [.int h1_deep, .int h1_dishes, .int h1_guests, .ref h1lo, .ref h1sa, .ref h1ea, .ref h1cl]))] := hD
  refine lv_aload_n hx hb dX3_begin_22 rfl (lv_at hl 0 rfl) ?_
  refine lv_iconst (v := 1) hx hb dX3_begin_23 (by decide) ?_
  refine lv_aload_n hx hb dX3_begin_24 rfl (lv_at hl 1 rfl) ?_
  refine va_get (D := (dC, dI)) (ci := 1) (v := .int h1_guests) (C := RX1) (T := TX1) (N := 7) hx hb hq inX1 hown hK hP 1 rfl rfl 2 (by decide) (hq _ qw_233) (fun _ h9 => h9) rfl dX3_begin_25 ?_
  refine lv_ishl hx hb dX3_begin_28 ?_
  refine lv_topi (fun y_8 ey_8 => ?_)
  refine lv_iconst (v := 1) hx hb dX3_begin_29 (by decide) ?_
  refine lv_isub hx hb dX3_begin_30 ?_
  refine lv_topi (fun y_9 ey_9 => ?_)
  refine va_put (D := (dC, dI)) (ci := 3) (v := .int y_9) (ty := .int) (C := RX3) (T := TX3) (N := 6) hx hb hq inX3 tyX3 tyX3_ok nmX3 hown hK hP hD hS 0 rfl rfl 3 (by decide) (hq _ qw_279) (fun _ h9 => h9) rfl (by decide +kernel) rfl rfl (Nat.le_of_ble_eq_true rfl) dX3_begin_31 (fun H locs hP hD hS => ?_)
  have hP : va_P (dC, dI) classes [(h0, .inr (3, [.int 0, .int (-1), .int y_7, .int y_9, .int h0_gullet, .long h0_knows])), (h1, .inr (1, [.int h1_deep, .int h1_dishes, .int h1_guests, .ref h1lo, .ref h1sa, .ref h1ea, .ref h1cl]))] H := hP
  have hD : va_D A [(h0, .inr (3, [.int 0, .int (-1), .int y_7, .int y_9, .int h0_gullet, .long h0_knows])), (h1, .inr (1, [.int h1_deep, .int h1_dishes, .int h1_guests, .ref h1lo, .ref h1sa, .ref h1ea, .ref h1cl]))] := hD
  refine lv_aload_n hx hb dX3_begin_34 rfl (lv_at hl 0 rfl) ?_
  refine lv_iconst (v := 0) hx hb dX3_begin_35 (by decide) ?_
  refine va_put (D := (dC, dI)) (ci := 3) (v := .int 0) (ty := .int) (C := RX3) (T := TX3) (N := 6) hx hb hq inX3 tyX3 tyX3_ok nmX3 hown hK hP hD hS 0 rfl rfl 4 (by decide) (hq _ qw_282) (fun _ h9 => h9) rfl (by decide +kernel) rfl rfl (Nat.le_of_ble_eq_true rfl) dX3_begin_36 (fun H locs hP hD hS => ?_)
  have hP : va_P (dC, dI) classes [(h0, .inr (3, [.int 0, .int (-1), .int y_7, .int y_9, .int 0, .long h0_knows])), (h1, .inr (1, [.int h1_deep, .int h1_dishes, .int h1_guests, .ref h1lo, .ref h1sa, .ref h1ea, .ref h1cl]))] H := hP
  have hD : va_D A [(h0, .inr (3, [.int 0, .int (-1), .int y_7, .int y_9, .int 0, .long h0_knows])), (h1, .inr (1, [.int h1_deep, .int h1_dishes, .int h1_guests, .ref h1lo, .ref h1sa, .ref h1ea, .ref h1cl]))] := hD
  refine lv_aload_n hx hb dX3_begin_39 rfl (lv_at hl 0 rfl) ?_
  refine lv_lconst (v := 0) hx hb dX3_begin_40 (by decide) ?_
  refine va_put (D := (dC, dI)) (ci := 3) (v := .long 0) (ty := .long) (C := RX3) (T := TX3) (N := 6) hx hb hq inX3 tyX3 tyX3_ok nmX3 hown hK hP hD hS 0 rfl rfl 5 (by decide) (hq _ qw_285) (fun _ h9 => h9) rfl (by decide +kernel) rfl rfl (Nat.le_of_ble_eq_true rfl) dX3_begin_41 (fun H locs hP hD hS => ?_)
  have hP : va_P (dC, dI) classes [(h0, .inr (3, [.int 0, .int (-1), .int y_7, .int y_9, .int 0, .long 0])), (h1, .inr (1, [.int h1_deep, .int h1_dishes, .int h1_guests, .ref h1lo, .ref h1sa, .ref h1ea, .ref h1cl]))] H := hP
  have hD : va_D A [(h0, .inr (3, [.int 0, .int (-1), .int y_7, .int y_9, .int 0, .long 0])), (h1, .inr (1, [.int h1_deep, .int h1_dishes, .int h1_guests, .ref h1lo, .ref h1sa, .ref h1ea, .ref h1cl]))] := hD
  refine W.widen (k := 0) (n := 0) (Nat.le_of_ble_eq_true rfl) (Nat.le_of_ble_eq_true rfl) ?_
  exact W.vret hx hb hr (fun t ht hW => ⟨⟨(), rfl, trivial, (fun i => [y_7, y_9].getD i 0), by rw [ht]; exact hP, va_K.moved hW.alike hK, hD⟩, hS.F ht⟩) hS.2.2 dX3_begin_44

set_option maxHeartbeats 4000000 in
set_option maxRecDepth 100000 in
/-- e_take -/
theorem e_take (l : Launch) (dC : Nat → ClassId) (dI : Nat → Nat → Nat) (sz : Nat) (h0 : Nat) (h0_minute : Int32) (h0_offered : Int32) (h0_table : Int32) (h0_sitting : Int32) (h0_gullet : Int32) (h0_knows : Int64) (h1 : Nat) (h1_minute : Int32) (h1_offered : Int32) (h1_table : Int32) (h1_sitting : Int32) (h1_gullet : Int32) (h1_knows : Int64) : Met l yX3_take (.code yX3_take cX3_take 2 none :: wsA) ({ frames := 0, cells := 0, slots := 0, locals := 0 }) (va_Pc [.ref h0, .ref h1] (fun U => U.heap.size = sz ∧ va_P (dC, dI) classes [(h0, .inr (3, [.int h0_minute, .int h0_offered, .int h0_table, .int h0_sitting, .int h0_gullet, .long h0_knows])), (h1, .inr (3, [.int h1_minute, .int h1_offered, .int h1_table, .int h1_sitting, .int h1_gullet, .long h1_knows]))] U.heap ∧ va_K (dC, dI) classes [] U ∧ va_D (fun _ => True) [(h0, .inr (3, [.int h0_minute, .int h0_offered, .int h0_table, .int h0_sitting, .int h0_gullet, .long h0_knows])), (h1, .inr (3, [.int h1_minute, .int h1_offered, .int h1_table, .int h1_sitting, .int h1_gullet, .long h1_knows]))] ∧ xE U)) (va_Qv (fun (_ : Unit) => True) (fun _ t => va_P (dC, dI) classes [(h0, .inr (3, [.int h1_minute, .int h1_offered, .int h1_table, .int h1_sitting, .int h1_gullet, .long h1_knows])), (h1, .inr (3, [.int h1_minute, .int h1_offered, .int h1_table, .int h1_sitting, .int h1_gullet, .long h1_knows]))] t.heap ∧ va_K (dC, dI) classes [] t ∧ va_D (va_A [(h0, .inr (3, [.int h0_minute, .int h0_offered, .int h0_table, .int h0_sitting, .int h0_gullet, .long h0_knows])), (h1, .inr (3, [.int h1_minute, .int h1_offered, .int h1_table, .int h1_sitting, .int h1_gullet, .long h1_knows]))] sz) [(h0, .inr (3, [.int h1_minute, .int h1_offered, .int h1_table, .int h1_sitting, .int h1_gullet, .long h1_knows])), (h1, .inr (3, [.int h1_minute, .int h1_offered, .int h1_table, .int h1_sitting, .int h1_gullet, .long h1_knows]))]) (va_A [(h0, .inr (3, [.int h0_minute, .int h0_offered, .int h0_table, .int h0_sitting, .int h0_gullet, .long h0_knows])), (h1, .inr (3, [.int h1_minute, .int h1_offered, .int h1_table, .int h1_sitting, .int h1_gullet, .long h1_knows]))] sz)) 0 0 (va_A [(h0, .inr (3, [.int h0_minute, .int h0_offered, .int h0_table, .int h0_sitting, .int h0_gullet, .long h0_knows])), (h1, .inr (3, [.int h1_minute, .int h1_offered, .int h1_table, .int h1_sitting, .int h1_gullet, .long h1_knows]))] sz) := by
  refine Met.ofW (cc := cX3_take) (maxL := 2) (ret := none) (by decide) rfl ?_
  intro p e s m args below meth c s₁ B hml hv
  obtain ⟨rfl, hsz, hP, hK, hD0, hE⟩ := hv
  have hx := B.exec
  have hb := B.bytes
  have hr := B.returns
  have hts := atoms_spec (ws := .code yX3_take cX3_take 2 none :: wsA) B.pre
  have hq : ∀ w ∈ wsA, w.before _ s = true := fun w h => hts w (List.mem_cons_of_mem _ h)
  have hown : s.vm.findClass RX3 = some m.cls := findClass_of_methodNamed B.named
  have hlocks := B.notSynchronized
  subst hsz
  have hD := hD0.self (sz := s.heap.size)
  generalize hAe : va_A [(h0, .inr (3, [.int h0_minute, .int h0_offered, .int h0_table, .int h0_sitting, .int h0_gullet, .long h0_knows])), (h1, .inr (3, [.int h1_minute, .int h1_offered, .int h1_table, .int h1_sitting, .int h1_gullet, .long h1_knows]))] s.heap.size = A at hD ⊢
  have hA : ∀ q : Nat, s.heap.size ≤ q → A q := fun q h => by rw [← hAe]; exact Or.inr h
  have hS : va_S A s.heap s.heap [] := va_S.rf
  have hl := lv_entry ([.ref h0, .ref h1]) (n := 2) (Nat.le_of_ble_eq_true rfl)
  rw [lg_entry_eq]
  generalize (lg_sl ([.ref h0, .ref h1]) ++ List.replicate (2 - (lg_sl ([.ref h0, .ref h1])).length) Slot.unset).toArray = ls at hl ⊢
  have hl : lv_has ls 2 [(0, .ref h0), (1, .ref h1)] := hl
  refine lv_aload_n hx hb dX3_take_0 rfl (lv_at hl 0 rfl) ?_
  refine lv_aload_n hx hb dX3_take_1 rfl (lv_at hl 1 rfl) ?_
  refine va_get (D := (dC, dI)) (ci := 3) (v := .int h1_minute) (C := RX3) (T := TX3) (N := 6) hx hb hq inX3 hown hK hP 1 rfl rfl 0 (by decide) (hq _ qw_269) (fun _ h9 => h9) rfl dX3_take_2 ?_
  refine va_put (D := (dC, dI)) (ci := 3) (v := .int h1_minute) (ty := .int) (C := RX3) (T := TX3) (N := 6) hx hb hq inX3 tyX3 tyX3_ok nmX3 hown hK hP hD hS 0 rfl rfl 0 (by decide) (hq _ qw_269) (fun _ h9 => h9) rfl (by decide +kernel) rfl rfl (Nat.le_of_ble_eq_true rfl) dX3_take_5 (fun H locs hP hD hS => ?_)
  have hP : va_P (dC, dI) classes [(h0, .inr (3, [.int h1_minute, .int h0_offered, .int h0_table, .int h0_sitting, .int h0_gullet, .long h0_knows])), (h1, .inr (3, [.int h1_minute, .int h1_offered, .int h1_table, .int h1_sitting, .int h1_gullet, .long h1_knows]))] H := hP
  have hD : va_D A [(h0, .inr (3, [.int h1_minute, .int h0_offered, .int h0_table, .int h0_sitting, .int h0_gullet, .long h0_knows])), (h1, .inr (3, [.int h1_minute, .int h1_offered, .int h1_table, .int h1_sitting, .int h1_gullet, .long h1_knows]))] := hD
  refine lv_aload_n hx hb dX3_take_8 rfl (lv_at hl 0 rfl) ?_
  refine lv_aload_n hx hb dX3_take_9 rfl (lv_at hl 1 rfl) ?_
  refine va_get (D := (dC, dI)) (ci := 3) (v := .int h1_offered) (C := RX3) (T := TX3) (N := 6) hx hb hq inX3 hown hK hP 1 rfl rfl 1 (by decide) (hq _ qw_272) (fun _ h9 => h9) rfl dX3_take_10 ?_
  refine va_put (D := (dC, dI)) (ci := 3) (v := .int h1_offered) (ty := .int) (C := RX3) (T := TX3) (N := 6) hx hb hq inX3 tyX3 tyX3_ok nmX3 hown hK hP hD hS 0 rfl rfl 1 (by decide) (hq _ qw_272) (fun _ h9 => h9) rfl (by decide +kernel) rfl rfl (Nat.le_of_ble_eq_true rfl) dX3_take_13 (fun H locs hP hD hS => ?_)
  have hP : va_P (dC, dI) classes [(h0, .inr (3, [.int h1_minute, .int h1_offered, .int h0_table, .int h0_sitting, .int h0_gullet, .long h0_knows])), (h1, .inr (3, [.int h1_minute, .int h1_offered, .int h1_table, .int h1_sitting, .int h1_gullet, .long h1_knows]))] H := hP
  have hD : va_D A [(h0, .inr (3, [.int h1_minute, .int h1_offered, .int h0_table, .int h0_sitting, .int h0_gullet, .long h0_knows])), (h1, .inr (3, [.int h1_minute, .int h1_offered, .int h1_table, .int h1_sitting, .int h1_gullet, .long h1_knows]))] := hD
  refine lv_aload_n hx hb dX3_take_16 rfl (lv_at hl 0 rfl) ?_
  refine lv_aload_n hx hb dX3_take_17 rfl (lv_at hl 1 rfl) ?_
  refine va_get (D := (dC, dI)) (ci := 3) (v := .int h1_table) (C := RX3) (T := TX3) (N := 6) hx hb hq inX3 hown hK hP 1 rfl rfl 2 (by decide) (hq _ qw_275) (fun _ h9 => h9) rfl dX3_take_18 ?_
  refine va_put (D := (dC, dI)) (ci := 3) (v := .int h1_table) (ty := .int) (C := RX3) (T := TX3) (N := 6) hx hb hq inX3 tyX3 tyX3_ok nmX3 hown hK hP hD hS 0 rfl rfl 2 (by decide) (hq _ qw_275) (fun _ h9 => h9) rfl (by decide +kernel) rfl rfl (Nat.le_of_ble_eq_true rfl) dX3_take_21 (fun H locs hP hD hS => ?_)
  have hP : va_P (dC, dI) classes [(h0, .inr (3, [.int h1_minute, .int h1_offered, .int h1_table, .int h0_sitting, .int h0_gullet, .long h0_knows])), (h1, .inr (3, [.int h1_minute, .int h1_offered, .int h1_table, .int h1_sitting, .int h1_gullet, .long h1_knows]))] H := hP
  have hD : va_D A [(h0, .inr (3, [.int h1_minute, .int h1_offered, .int h1_table, .int h0_sitting, .int h0_gullet, .long h0_knows])), (h1, .inr (3, [.int h1_minute, .int h1_offered, .int h1_table, .int h1_sitting, .int h1_gullet, .long h1_knows]))] := hD
  refine lv_aload_n hx hb dX3_take_24 rfl (lv_at hl 0 rfl) ?_
  refine lv_aload_n hx hb dX3_take_25 rfl (lv_at hl 1 rfl) ?_
  refine va_get (D := (dC, dI)) (ci := 3) (v := .int h1_sitting) (C := RX3) (T := TX3) (N := 6) hx hb hq inX3 hown hK hP 1 rfl rfl 3 (by decide) (hq _ qw_279) (fun _ h9 => h9) rfl dX3_take_26 ?_
  refine va_put (D := (dC, dI)) (ci := 3) (v := .int h1_sitting) (ty := .int) (C := RX3) (T := TX3) (N := 6) hx hb hq inX3 tyX3 tyX3_ok nmX3 hown hK hP hD hS 0 rfl rfl 3 (by decide) (hq _ qw_279) (fun _ h9 => h9) rfl (by decide +kernel) rfl rfl (Nat.le_of_ble_eq_true rfl) dX3_take_29 (fun H locs hP hD hS => ?_)
  have hP : va_P (dC, dI) classes [(h0, .inr (3, [.int h1_minute, .int h1_offered, .int h1_table, .int h1_sitting, .int h0_gullet, .long h0_knows])), (h1, .inr (3, [.int h1_minute, .int h1_offered, .int h1_table, .int h1_sitting, .int h1_gullet, .long h1_knows]))] H := hP
  have hD : va_D A [(h0, .inr (3, [.int h1_minute, .int h1_offered, .int h1_table, .int h1_sitting, .int h0_gullet, .long h0_knows])), (h1, .inr (3, [.int h1_minute, .int h1_offered, .int h1_table, .int h1_sitting, .int h1_gullet, .long h1_knows]))] := hD
  refine lv_aload_n hx hb dX3_take_32 rfl (lv_at hl 0 rfl) ?_
  refine lv_aload_n hx hb dX3_take_33 rfl (lv_at hl 1 rfl) ?_
  refine va_get (D := (dC, dI)) (ci := 3) (v := .int h1_gullet) (C := RX3) (T := TX3) (N := 6) hx hb hq inX3 hown hK hP 1 rfl rfl 4 (by decide) (hq _ qw_282) (fun _ h9 => h9) rfl dX3_take_34 ?_
  refine va_put (D := (dC, dI)) (ci := 3) (v := .int h1_gullet) (ty := .int) (C := RX3) (T := TX3) (N := 6) hx hb hq inX3 tyX3 tyX3_ok nmX3 hown hK hP hD hS 0 rfl rfl 4 (by decide) (hq _ qw_282) (fun _ h9 => h9) rfl (by decide +kernel) rfl rfl (Nat.le_of_ble_eq_true rfl) dX3_take_37 (fun H locs hP hD hS => ?_)
  have hP : va_P (dC, dI) classes [(h0, .inr (3, [.int h1_minute, .int h1_offered, .int h1_table, .int h1_sitting, .int h1_gullet, .long h0_knows])), (h1, .inr (3, [.int h1_minute, .int h1_offered, .int h1_table, .int h1_sitting, .int h1_gullet, .long h1_knows]))] H := hP
  have hD : va_D A [(h0, .inr (3, [.int h1_minute, .int h1_offered, .int h1_table, .int h1_sitting, .int h1_gullet, .long h0_knows])), (h1, .inr (3, [.int h1_minute, .int h1_offered, .int h1_table, .int h1_sitting, .int h1_gullet, .long h1_knows]))] := hD
  refine lv_aload_n hx hb dX3_take_40 rfl (lv_at hl 0 rfl) ?_
  refine lv_aload_n hx hb dX3_take_41 rfl (lv_at hl 1 rfl) ?_
  refine va_get (D := (dC, dI)) (ci := 3) (v := .long h1_knows) (C := RX3) (T := TX3) (N := 6) hx hb hq inX3 hown hK hP 1 rfl rfl 5 (by decide) (hq _ qw_285) (fun _ h9 => h9) rfl dX3_take_42 ?_
  refine va_put (D := (dC, dI)) (ci := 3) (v := .long h1_knows) (ty := .long) (C := RX3) (T := TX3) (N := 6) hx hb hq inX3 tyX3 tyX3_ok nmX3 hown hK hP hD hS 0 rfl rfl 5 (by decide) (hq _ qw_285) (fun _ h9 => h9) rfl (by decide +kernel) rfl rfl (Nat.le_of_ble_eq_true rfl) dX3_take_45 (fun H locs hP hD hS => ?_)
  have hP : va_P (dC, dI) classes [(h0, .inr (3, [.int h1_minute, .int h1_offered, .int h1_table, .int h1_sitting, .int h1_gullet, .long h1_knows])), (h1, .inr (3, [.int h1_minute, .int h1_offered, .int h1_table, .int h1_sitting, .int h1_gullet, .long h1_knows]))] H := hP
  have hD : va_D A [(h0, .inr (3, [.int h1_minute, .int h1_offered, .int h1_table, .int h1_sitting, .int h1_gullet, .long h1_knows])), (h1, .inr (3, [.int h1_minute, .int h1_offered, .int h1_table, .int h1_sitting, .int h1_gullet, .long h1_knows]))] := hD
  refine W.widen (k := 0) (n := 0) (Nat.le_of_ble_eq_true rfl) (Nat.le_of_ble_eq_true rfl) ?_
  exact W.vret hx hb hr (fun t ht hW => ⟨⟨(), rfl, trivial, by rw [ht]; exact hP, va_K.moved hW.alike hK, hD⟩, hS.F ht⟩) hS.2.2 dX3_take_48

set_option maxHeartbeats 4000000 in
set_option maxRecDepth 100000 in
/-- e_onTable -/
theorem e_onTable (l : Launch) (dC : Nat → ClassId) (dI : Nat → Nat → Nat) (sz : Nat) (h0 : Nat) (h0_minute : Int32) (h0_offered : Int32) (h0_table : Int32) (h0_sitting : Int32) (h0_gullet : Int32) (h0_knows : Int64) (x0 : Int32) : Met l yX3_onTable (.code yX3_onTable cX3_onTable 2 (some .boolean) :: wsA) ({ frames := 0, cells := 0, slots := 0, locals := 0 }) (va_Pc [.ref h0, .int x0] (fun U => U.heap.size = sz ∧ va_P (dC, dI) classes [(h0, .inr (3, [.int h0_minute, .int h0_offered, .int h0_table, .int h0_sitting, .int h0_gullet, .long h0_knows]))] U.heap ∧ va_K (dC, dI) classes [] U ∧ va_D (fun _ => True) [(h0, .inr (3, [.int h0_minute, .int h0_offered, .int h0_table, .int h0_sitting, .int h0_gullet, .long h0_knows]))] ∧ xE U)) (va_Qi (fun (r : Int32) (_ : Unit) => True) (fun _ t => va_P (dC, dI) classes [(h0, .inr (3, [.int h0_minute, .int h0_offered, .int h0_table, .int h0_sitting, .int h0_gullet, .long h0_knows]))] t.heap ∧ va_K (dC, dI) classes [] t ∧ va_D (va_A [(h0, .inr (3, [.int h0_minute, .int h0_offered, .int h0_table, .int h0_sitting, .int h0_gullet, .long h0_knows]))] sz) [(h0, .inr (3, [.int h0_minute, .int h0_offered, .int h0_table, .int h0_sitting, .int h0_gullet, .long h0_knows]))]) (va_A [(h0, .inr (3, [.int h0_minute, .int h0_offered, .int h0_table, .int h0_sitting, .int h0_gullet, .long h0_knows]))] sz)) 0 0 (va_A [(h0, .inr (3, [.int h0_minute, .int h0_offered, .int h0_table, .int h0_sitting, .int h0_gullet, .long h0_knows]))] sz) := by
  refine Met.ofW (cc := cX3_onTable) (maxL := 2) (ret := (some .boolean)) (by decide) rfl ?_
  intro p e s m args below meth c s₁ B hml hv
  obtain ⟨rfl, hsz, hP, hK, hD0, hE⟩ := hv
  have hx := B.exec
  have hb := B.bytes
  have hr := B.returns
  have hts := atoms_spec (ws := .code yX3_onTable cX3_onTable 2 (some .boolean) :: wsA) B.pre
  have hq : ∀ w ∈ wsA, w.before _ s = true := fun w h => hts w (List.mem_cons_of_mem _ h)
  have hown : s.vm.findClass RX3 = some m.cls := findClass_of_methodNamed B.named
  have hlocks := B.notSynchronized
  subst hsz
  have hD := hD0.self (sz := s.heap.size)
  generalize hAe : va_A [(h0, .inr (3, [.int h0_minute, .int h0_offered, .int h0_table, .int h0_sitting, .int h0_gullet, .long h0_knows]))] s.heap.size = A at hD ⊢
  have hA : ∀ q : Nat, s.heap.size ≤ q → A q := fun q h => by rw [← hAe]; exact Or.inr h
  have hS : va_S A s.heap s.heap [] := va_S.rf
  have hl := lv_entry ([.ref h0, .int x0]) (n := 2) (Nat.le_of_ble_eq_true rfl)
  rw [lg_entry_eq]
  generalize (lg_sl ([.ref h0, .int x0]) ++ List.replicate (2 - (lg_sl ([.ref h0, .int x0])).length) Slot.unset).toArray = ls at hl ⊢
  have hl : lv_has ls 2 [(0, .ref h0), (1, .int x0)] := hl
  refine lv_aload_n hx hb dX3_onTable_0 rfl (lv_at hl 0 rfl) ?_
  refine va_get (D := (dC, dI)) (ci := 3) (v := .int h0_table) (C := RX3) (T := TX3) (N := 6) hx hb hq inX3 hown hK hP 0 rfl rfl 2 (by decide) (hq _ qw_275) (fun _ h9 => h9) rfl dX3_onTable_1 ?_
  refine lv_iload_n hx hb dX3_onTable_4 rfl (lv_at hl 1 rfl) ?_
  refine lv_ishr hx hb dX3_onTable_5 ?_
  refine lv_topi (fun y_4 ey_4 => ?_)
  refine lv_iconst (v := 1) hx hb dX3_onTable_6 (by decide) ?_
  refine lv_iand hx hb dX3_onTable_7 ?_
  refine lv_topi (fun y_5 ey_5 => ?_)
  refine lv_if_eq (tgt := 15) hx hb dX3_onTable_8 (by decide) (fun c_6 => ?_) (fun c_6 => ?_)
  · refine lv_iconst (v := 0) hx hb dX3_onTable_15 (by decide) ?_
    refine W.widen (k := 0) (n := 0) (Nat.le_of_ble_eq_true rfl) (Nat.le_of_ble_eq_true rfl) ?_
    exact W.zret (v := 0) hx hb hr (by decide) (fun t ht hW => ⟨⟨0, (), rfl, trivial, by rw [ht]; exact hP, va_K.moved hW.alike hK, hD⟩, hS.F ht⟩) hS.2.2 dX3_onTable_16
  · refine lv_iconst (v := 1) hx hb dX3_onTable_11 (by decide) ?_
    refine lv_goto (tgt := 16) hx hb dX3_onTable_12 (by decide) ?_
    refine W.widen (k := 0) (n := 0) (Nat.le_of_ble_eq_true rfl) (Nat.le_of_ble_eq_true rfl) ?_
    exact W.zret (v := 1) hx hb hr (by decide) (fun t ht hW => ⟨⟨1, (), rfl, trivial, by rw [ht]; exact hP, va_K.moved hW.alike hK, hD⟩, hS.F ht⟩) hS.2.2 dX3_onTable_16

set_option maxHeartbeats 4000000 in
set_option maxRecDepth 100000 in
/-- e_sits -/
theorem e_sits (l : Launch) (dC : Nat → ClassId) (dI : Nat → Nat → Nat) (sz : Nat) (h0 : Nat) (h0_minute : Int32) (h0_offered : Int32) (h0_table : Int32) (h0_sitting : Int32) (h0_gullet : Int32) (h0_knows : Int64) (x0 : Int32) : Met l yX3_sits (.code yX3_sits cX3_sits 2 (some .boolean) :: wsA) ({ frames := 0, cells := 0, slots := 0, locals := 0 }) (va_Pc [.ref h0, .int x0] (fun U => U.heap.size = sz ∧ va_P (dC, dI) classes [(h0, .inr (3, [.int h0_minute, .int h0_offered, .int h0_table, .int h0_sitting, .int h0_gullet, .long h0_knows]))] U.heap ∧ va_K (dC, dI) classes [] U ∧ va_D (fun _ => True) [(h0, .inr (3, [.int h0_minute, .int h0_offered, .int h0_table, .int h0_sitting, .int h0_gullet, .long h0_knows]))] ∧ xE U)) (va_Qi (fun (r : Int32) (_ : Unit) => True) (fun _ t => va_P (dC, dI) classes [(h0, .inr (3, [.int h0_minute, .int h0_offered, .int h0_table, .int h0_sitting, .int h0_gullet, .long h0_knows]))] t.heap ∧ va_K (dC, dI) classes [] t ∧ va_D (va_A [(h0, .inr (3, [.int h0_minute, .int h0_offered, .int h0_table, .int h0_sitting, .int h0_gullet, .long h0_knows]))] sz) [(h0, .inr (3, [.int h0_minute, .int h0_offered, .int h0_table, .int h0_sitting, .int h0_gullet, .long h0_knows]))]) (va_A [(h0, .inr (3, [.int h0_minute, .int h0_offered, .int h0_table, .int h0_sitting, .int h0_gullet, .long h0_knows]))] sz)) 0 0 (va_A [(h0, .inr (3, [.int h0_minute, .int h0_offered, .int h0_table, .int h0_sitting, .int h0_gullet, .long h0_knows]))] sz) := by
  refine Met.ofW (cc := cX3_sits) (maxL := 2) (ret := (some .boolean)) (by decide) rfl ?_
  intro p e s m args below meth c s₁ B hml hv
  obtain ⟨rfl, hsz, hP, hK, hD0, hE⟩ := hv
  have hx := B.exec
  have hb := B.bytes
  have hr := B.returns
  have hts := atoms_spec (ws := .code yX3_sits cX3_sits 2 (some .boolean) :: wsA) B.pre
  have hq : ∀ w ∈ wsA, w.before _ s = true := fun w h => hts w (List.mem_cons_of_mem _ h)
  have hown : s.vm.findClass RX3 = some m.cls := findClass_of_methodNamed B.named
  have hlocks := B.notSynchronized
  subst hsz
  have hD := hD0.self (sz := s.heap.size)
  generalize hAe : va_A [(h0, .inr (3, [.int h0_minute, .int h0_offered, .int h0_table, .int h0_sitting, .int h0_gullet, .long h0_knows]))] s.heap.size = A at hD ⊢
  have hA : ∀ q : Nat, s.heap.size ≤ q → A q := fun q h => by rw [← hAe]; exact Or.inr h
  have hS : va_S A s.heap s.heap [] := va_S.rf
  have hl := lv_entry ([.ref h0, .int x0]) (n := 2) (Nat.le_of_ble_eq_true rfl)
  rw [lg_entry_eq]
  generalize (lg_sl ([.ref h0, .int x0]) ++ List.replicate (2 - (lg_sl ([.ref h0, .int x0])).length) Slot.unset).toArray = ls at hl ⊢
  have hl : lv_has ls 2 [(0, .ref h0), (1, .int x0)] := hl
  refine lv_aload_n hx hb dX3_sits_0 rfl (lv_at hl 0 rfl) ?_
  refine va_get (D := (dC, dI)) (ci := 3) (v := .int h0_sitting) (C := RX3) (T := TX3) (N := 6) hx hb hq inX3 hown hK hP 0 rfl rfl 3 (by decide) (hq _ qw_279) (fun _ h9 => h9) rfl dX3_sits_1 ?_
  refine lv_iload_n hx hb dX3_sits_4 rfl (lv_at hl 1 rfl) ?_
  refine lv_ishr hx hb dX3_sits_5 ?_
  refine lv_topi (fun y_4 ey_4 => ?_)
  refine lv_iconst (v := 1) hx hb dX3_sits_6 (by decide) ?_
  refine lv_iand hx hb dX3_sits_7 ?_
  refine lv_topi (fun y_5 ey_5 => ?_)
  refine lv_if_eq (tgt := 15) hx hb dX3_sits_8 (by decide) (fun c_6 => ?_) (fun c_6 => ?_)
  · refine lv_iconst (v := 0) hx hb dX3_sits_15 (by decide) ?_
    refine W.widen (k := 0) (n := 0) (Nat.le_of_ble_eq_true rfl) (Nat.le_of_ble_eq_true rfl) ?_
    exact W.zret (v := 0) hx hb hr (by decide) (fun t ht hW => ⟨⟨0, (), rfl, trivial, by rw [ht]; exact hP, va_K.moved hW.alike hK, hD⟩, hS.F ht⟩) hS.2.2 dX3_sits_16
  · refine lv_iconst (v := 1) hx hb dX3_sits_11 (by decide) ?_
    refine lv_goto (tgt := 16) hx hb dX3_sits_12 (by decide) ?_
    refine W.widen (k := 0) (n := 0) (Nat.le_of_ble_eq_true rfl) (Nat.le_of_ble_eq_true rfl) ?_
    exact W.zret (v := 1) hx hb hr (by decide) (fun t ht hW => ⟨⟨1, (), rfl, trivial, by rw [ht]; exact hP, va_K.moved hW.alike hK, hD⟩, hS.F ht⟩) hS.2.2 dX3_sits_16

set_option maxHeartbeats 4000000 in
set_option maxRecDepth 100000 in
/-- e_knownBy -/
theorem e_knownBy (l : Launch) (dC : Nat → ClassId) (dI : Nat → Nat → Nat) (sz : Nat) (h0 : Nat) (h0_minute : Int32) (h0_offered : Int32) (h0_table : Int32) (h0_sitting : Int32) (h0_gullet : Int32) (h0_knows : Int64) (x0 : Int32) : Met l yX3_knownBy (.code yX3_knownBy cX3_knownBy 2 (some .int) :: wsA) ({ frames := 0, cells := 0, slots := 0, locals := 0 }) (va_Pc [.ref h0, .int x0] (fun U => U.heap.size = sz ∧ va_P (dC, dI) classes [(h0, .inr (3, [.int h0_minute, .int h0_offered, .int h0_table, .int h0_sitting, .int h0_gullet, .long h0_knows]))] U.heap ∧ va_K (dC, dI) classes [] U ∧ va_D (fun _ => True) [(h0, .inr (3, [.int h0_minute, .int h0_offered, .int h0_table, .int h0_sitting, .int h0_gullet, .long h0_knows]))] ∧ xE U)) (va_Qi (fun (r : Int32) (_ : Unit) => True) (fun _ t => va_P (dC, dI) classes [(h0, .inr (3, [.int h0_minute, .int h0_offered, .int h0_table, .int h0_sitting, .int h0_gullet, .long h0_knows]))] t.heap ∧ va_K (dC, dI) classes [] t ∧ va_D (va_A [(h0, .inr (3, [.int h0_minute, .int h0_offered, .int h0_table, .int h0_sitting, .int h0_gullet, .long h0_knows]))] sz) [(h0, .inr (3, [.int h0_minute, .int h0_offered, .int h0_table, .int h0_sitting, .int h0_gullet, .long h0_knows]))]) (va_A [(h0, .inr (3, [.int h0_minute, .int h0_offered, .int h0_table, .int h0_sitting, .int h0_gullet, .long h0_knows]))] sz)) 0 0 (va_A [(h0, .inr (3, [.int h0_minute, .int h0_offered, .int h0_table, .int h0_sitting, .int h0_gullet, .long h0_knows]))] sz) := by
  refine Met.ofW (cc := cX3_knownBy) (maxL := 2) (ret := (some .int)) (by decide) rfl ?_
  intro p e s m args below meth c s₁ B hml hv
  obtain ⟨rfl, hsz, hP, hK, hD0, hE⟩ := hv
  have hx := B.exec
  have hb := B.bytes
  have hr := B.returns
  have hts := atoms_spec (ws := .code yX3_knownBy cX3_knownBy 2 (some .int) :: wsA) B.pre
  have hq : ∀ w ∈ wsA, w.before _ s = true := fun w h => hts w (List.mem_cons_of_mem _ h)
  have hown : s.vm.findClass RX3 = some m.cls := findClass_of_methodNamed B.named
  have hlocks := B.notSynchronized
  subst hsz
  have hD := hD0.self (sz := s.heap.size)
  generalize hAe : va_A [(h0, .inr (3, [.int h0_minute, .int h0_offered, .int h0_table, .int h0_sitting, .int h0_gullet, .long h0_knows]))] s.heap.size = A at hD ⊢
  have hA : ∀ q : Nat, s.heap.size ≤ q → A q := fun q h => by rw [← hAe]; exact Or.inr h
  have hS : va_S A s.heap s.heap [] := va_S.rf
  have hl := lv_entry ([.ref h0, .int x0]) (n := 2) (Nat.le_of_ble_eq_true rfl)
  rw [lg_entry_eq]
  generalize (lg_sl ([.ref h0, .int x0]) ++ List.replicate (2 - (lg_sl ([.ref h0, .int x0])).length) Slot.unset).toArray = ls at hl ⊢
  have hl : lv_has ls 2 [(0, .ref h0), (1, .int x0)] := hl
  refine lv_aload_n hx hb dX3_knownBy_0 rfl (lv_at hl 0 rfl) ?_
  refine va_get (D := (dC, dI)) (ci := 3) (v := .long h0_knows) (C := RX3) (T := TX3) (N := 6) hx hb hq inX3 hown hK hP 0 rfl rfl 5 (by decide) (hq _ qw_285) (fun _ h9 => h9) rfl dX3_knownBy_1 ?_
  refine lv_bipush (v := 8) hx hb dX3_knownBy_4 (by decide) ?_
  refine lv_iload_n hx hb dX3_knownBy_6 rfl (lv_at hl 1 rfl) ?_
  refine lv_imul hx hb dX3_knownBy_7 ?_
  refine lv_topi (fun y_5 ey_5 => ?_)
  refine lv_lushr hx hb dX3_knownBy_8 rfl ?_
  refine lv_topl (fun z_6 ez_6 => ?_)
  refine lv_l2i hx hb dX3_knownBy_9 rfl ?_
  refine lv_topi (fun y_7 ey_7 => ?_)
  refine lv_sipush (v := 255) hx hb dX3_knownBy_10 (by decide) ?_
  refine lv_iand hx hb dX3_knownBy_13 ?_
  refine lv_topi (fun y_8 ey_8 => ?_)
  refine W.widen (k := 0) (n := 0) (Nat.le_of_ble_eq_true rfl) (Nat.le_of_ble_eq_true rfl) ?_
  exact W.iret (v := y_8) hx hb hr (fun t ht hW => ⟨⟨y_8, (), rfl, trivial, by rw [ht]; exact hP, va_K.moved hW.alike hK, hD⟩, hS.F ht⟩) hS.2.2 dX3_knownBy_14

set_option maxHeartbeats 4000000 in
set_option maxRecDepth 100000 in
/-- e_knownByAny -/
theorem e_knownByAny (l : Launch) (dC : Nat → ClassId) (dI : Nat → Nat → Nat) (sz : Nat) (h0 : Nat) (h0_minute : Int32) (h0_offered : Int32) (h0_table : Int32) (h0_sitting : Int32) (h0_gullet : Int32) (h0_knows : Int64) (x0 : Int32) : Met l yX3_knownByAny (.code yX3_knownByAny cX3_knownByAny 4 (some .int) :: wsA) ({ frames := 1, cells := 0, slots := 0, locals := 21 }) (va_Pc [.ref h0, .int x0] (fun U => U.heap.size = sz ∧ va_P (dC, dI) classes [(h0, .inr (3, [.int h0_minute, .int h0_offered, .int h0_table, .int h0_sitting, .int h0_gullet, .long h0_knows]))] U.heap ∧ va_K (dC, dI) classes [] U ∧ va_D (fun _ => True) [(h0, .inr (3, [.int h0_minute, .int h0_offered, .int h0_table, .int h0_sitting, .int h0_gullet, .long h0_knows]))] ∧ xE U)) (va_Qi (fun (r : Int32) (_ : Unit) => True) (fun _ t => va_P (dC, dI) classes [(h0, .inr (3, [.int h0_minute, .int h0_offered, .int h0_table, .int h0_sitting, .int h0_gullet, .long h0_knows]))] t.heap ∧ va_K (dC, dI) classes [] t ∧ va_D (va_A [(h0, .inr (3, [.int h0_minute, .int h0_offered, .int h0_table, .int h0_sitting, .int h0_gullet, .long h0_knows]))] sz) [(h0, .inr (3, [.int h0_minute, .int h0_offered, .int h0_table, .int h0_sitting, .int h0_gullet, .long h0_knows]))]) (va_A [(h0, .inr (3, [.int h0_minute, .int h0_offered, .int h0_table, .int h0_sitting, .int h0_gullet, .long h0_knows]))] sz)) 0 0 (va_A [(h0, .inr (3, [.int h0_minute, .int h0_offered, .int h0_table, .int h0_sitting, .int h0_gullet, .long h0_knows]))] sz) := by
  refine Met.ofW (cc := cX3_knownByAny) (maxL := 4) (ret := (some .int)) (by decide) rfl ?_
  intro p e s m args below meth c s₁ B hml hv
  obtain ⟨rfl, hsz, hP, hK, hD0, hE⟩ := hv
  have hx := B.exec
  have hb := B.bytes
  have hr := B.returns
  have hts := atoms_spec (ws := .code yX3_knownByAny cX3_knownByAny 4 (some .int) :: wsA) B.pre
  have hq : ∀ w ∈ wsA, w.before _ s = true := fun w h => hts w (List.mem_cons_of_mem _ h)
  have hown : s.vm.findClass RX3 = some m.cls := findClass_of_methodNamed B.named
  have hlocks := B.notSynchronized
  subst hsz
  have hD := hD0.self (sz := s.heap.size)
  generalize hAe : va_A [(h0, .inr (3, [.int h0_minute, .int h0_offered, .int h0_table, .int h0_sitting, .int h0_gullet, .long h0_knows]))] s.heap.size = A at hD ⊢
  have hA : ∀ q : Nat, s.heap.size ≤ q → A q := fun q h => by rw [← hAe]; exact Or.inr h
  have hS : va_S A s.heap s.heap [] := va_S.rf
  have hl := lv_entry ([.ref h0, .int x0]) (n := 4) (Nat.le_of_ble_eq_true rfl)
  rw [lg_entry_eq]
  generalize (lg_sl ([.ref h0, .int x0]) ++ List.replicate (4 - (lg_sl ([.ref h0, .int x0])).length) Slot.unset).toArray = ls at hl ⊢
  have hl : lv_has ls 4 [(0, .ref h0), (1, .int x0)] := hl
  refine lv_iconst (v := 0) hx hb dX3_knownByAny_0 (by decide) ?_
  refine lv_istore_n (lv' := [(2, .int 0), (0, .ref h0), (1, .int x0)]) hx hb dX3_knownByAny_1 rfl hl (by decide) rfl (fun ls hl => ?_)
  refine lv_iconst (v := 0) hx hb dX3_knownByAny_2 (by decide) ?_
  refine lv_istore_n (lv' := [(3, .int 0), (2, .int 0), (0, .ref h0), (1, .int x0)]) hx hb dX3_knownByAny_3 rfl hl (by decide) rfl (fun ls hl => ?_)
  refine W.loop (I := fun n H locs g => ∃ (y_71 : Int32) (y_72 : Int32) (ls : Array Slot), bt 0 5 y_71 ∧ 5 - y_71.toInt < (n : Int) ∧ va_P (dC, dI) classes [(h0, .inr (3, [.int h0_minute, .int h0_offered, .int h0_table, .int h0_sitting, .int h0_gullet, .long h0_knows]))] H ∧ va_D A [(h0, .inr (3, [.int h0_minute, .int h0_offered, .int h0_table, .int h0_sitting, .int h0_gullet, .long h0_knows]))] ∧ va_S A s.heap H locs ∧ lv_has ls 4 [(3, .int y_71), (2, .int y_72), (0, .ref h0), (1, .int x0)] ∧ g = F0 m 4 ls []) (fun H locs g h => ?_) (fun n ih4 H locs g h => ?_) (n := 6) ⟨0, 0, _, (bt_w (bt_k (x := 0) (c := 0) (by decide)) (by decide)), (ms_0 (bt_k (x := 0) (c := 0) (by decide)) (by decide)), hP, hD, hS, hl, rfl⟩
  · obtain ⟨y_71, y_72, ls, bd_v_3, hm, hP, hD, hS, hl, rfl⟩ := h
    exact ms_z bd_v_3 hm
  · obtain ⟨y_71, y_72, ls, bd_v_3, hm4, hP, hD, hS, hl, rfl⟩ := h
    refine lv_iload_n hx hb dX3_knownByAny_4 rfl (lv_at hl 0 rfl) ?_
    refine lv_iconst (v := 5) hx hb dX3_knownByAny_5 (by decide) ?_
    refine lv_icmp_ge (tgt := 31) hx hb dX3_knownByAny_6 (by decide) (fun c_121 => ?_) (fun c_121 => ?_)
    · refine lv_iload_n hx hb dX3_knownByAny_31 rfl (lv_at hl 1 rfl) ?_
      refine W.widen (k := 0) (n := 0) (Nat.le_of_ble_eq_true rfl) (Nat.le_of_ble_eq_true rfl) ?_
      exact W.iret (v := y_72) hx hb hr (fun t ht hW => ⟨⟨y_72, (), rfl, trivial, by rw [ht]; exact hP, va_K.moved hW.alike hK, hD⟩, hS.F ht⟩) hS.2.2 dX3_knownByAny_32
    · refine lv_iload_n hx hb dX3_knownByAny_9 rfl (lv_at hl 3 rfl) ?_
      refine lv_iload_n hx hb dX3_knownByAny_10 rfl (lv_at hl 0 rfl) ?_
      refine lv_ishr hx hb dX3_knownByAny_11 ?_
      refine lv_topi (fun y_122 ey_122 => ?_)
      refine lv_iconst (v := 1) hx hb dX3_knownByAny_12 (by decide) ?_
      refine lv_iand hx hb dX3_knownByAny_13 ?_
      refine lv_topi (fun y_123 ey_123 => ?_)
      refine W.cut (I := fun H locs g => ∃ (y_127 : Int32) (ls : Array Slot), va_P (dC, dI) classes [(h0, .inr (3, [.int h0_minute, .int h0_offered, .int h0_table, .int h0_sitting, .int h0_gullet, .long h0_knows]))] H ∧ va_D A [(h0, .inr (3, [.int h0_minute, .int h0_offered, .int h0_table, .int h0_sitting, .int h0_gullet, .long h0_knows]))] ∧ va_S A s.heap H locs ∧ lv_has ls 4 [(3, .int y_71), (2, .int y_127), (0, .ref h0), (1, .int x0)] ∧ g = F0 m 25 ls []) (fun H locs g h => ?_) (fun hJ25 => ?_)
      · obtain ⟨y_127, ls, hP, hD, hS, hl, rfl⟩ := h
        obtain ⟨y_129, ey_129⟩ : ∃ y : Int32, y = y_71 + 1 := ⟨_, rfl⟩
        refine lv_iinc (v := y_129) (lv' := [(3, .int y_129), (2, .int y_127), (0, .ref h0), (1, .int x0)]) hx hb dX3_knownByAny_25 hl (k := 0) rfl (by rw [ey_129]; rfl) (by decide) rfl (fun ls hl => ?_)
        refine lv_goto (tgt := 4) hx hb dX3_knownByAny_28 (by decide) ?_
        have b_130 : bt 0 4 y_71 := rf_lt_l bd_v_3 (bt_k (x := 5) (c := 5) (by decide)) (Int32.not_le.mp c_121) (by decide)
        have b_131 : bt 1 5 y_129 := bt_add ey_129 b_130 (bt_k (x := 1) (c := 1) (by decide)) (by decide)
        exact ih4 _ _ _ ⟨y_129, y_127, _, (bt_w b_131 (by decide)), (ms_s ey_129 b_130 hm4 (by decide)), hP, hD, hS, hl, rfl⟩
      refine lv_if_eq (tgt := 25) hx hb dX3_knownByAny_14 (by decide) (fun c_132 => ?_) (fun c_132 => ?_)
      · exact hJ25 _ _ _ ⟨y_72, _, hP, hD, hS, hl, rfl⟩
      · refine lv_iload_n hx hb dX3_knownByAny_17 rfl (lv_at hl 1 rfl) ?_
        refine lv_aload_n hx hb dX3_knownByAny_18 rfl (lv_at hl 2 rfl) ?_
        refine lv_iload_n hx hb dX3_knownByAny_19 rfl (lv_at hl 0 rfl) ?_
        have hPc := hP.sub (ws' := [(h0, .inr (3, [.int h0_minute, .int h0_offered, .int h0_table, .int h0_sitting, .int h0_gullet, .long h0_knows]))]) [0] rfl
        have hDc := hD.sub (ws' := [(h0, .inr (3, [.int h0_minute, .int h0_offered, .int h0_table, .int h0_sitting, .int h0_gullet, .long h0_knows]))]) [0] (by decide) rfl
        have hKc := hK.sub (tys' := []) [] rfl
        have hFc := va_free (wc := [(h0, .inr (3, [.int h0_minute, .int h0_offered, .int h0_table, .int h0_sitting, .int h0_gullet, .long h0_knows]))]) hD hS hA [0] rfl
        refine va_calli (va_runV (As := [.int y_71]) (rest := [.int y_72]) ⟨hx, hb, hml, hown, hq⟩ (e_knownBy l dC dI _ h0 h0_minute h0_offered h0_table h0_sitting h0_gullet h0_knows y_71 ) (cwV 1 hq (gV qw_850 qw_767 qw_768 qw_125 qw_769) rfl rfl rfl (by decide +kernel) ⟨Nat.le_of_ble_eq_true rfl, Nat.le_of_ble_eq_true rfl⟩) ⟨fun a U g mk q => by obtain ⟨q0, q1, qP, qK, qD, qE⟩ := q; exact ⟨q0, q1, qP, va_K.moved (u := U) (U := U.calling g mk a) (Vm.Alike.refl U.vm) qK, qD, xE.same rfl qE⟩, va_recv hKc hPc (ci := 3) (q0 := 0) rfl rfl, fun U hU hW => ⟨rfl, by rw [hU], by rw [hU]; exact hPc, va_K.moved hW.alike hKc, hDc.weaken (fun _ _ _ _ => trivial), xE.warm hW hE⟩⟩ rfl rfl hl.1 rfl (lv_room (Nat.le_of_ble_eq_true rfl)) dX3_knownByAny_20 ⟨Nat.le_of_ble_eq_true rfl, Nat.le_of_ble_eq_true rfl⟩) hS (fun q _ h => hFc q h) hFc (fun r_133 u t H1 locs ht hvm hw hB hz1 hk1 hS => ?_)
        obtain ⟨hP1, hK1, hD1⟩ := hB
        rw [ht] at hP1
        obtain ⟨hP, hD⟩ := va_join (wr := []) (w1 := [(h0, .inr (3, [.int h0_minute, .int h0_offered, .int h0_table, .int h0_sitting, .int h0_gullet, .long h0_knows]))]) hP hD [0] [] rfl rfl (by decide) (by decide) hk1 hFc hP1 hD1
        generalize H1 = H at hP hS ⊢
        have hP : va_P (dC, dI) classes [(h0, .inr (3, [.int h0_minute, .int h0_offered, .int h0_table, .int h0_sitting, .int h0_gullet, .long h0_knows]))] H := hP
        have hD : va_D A [(h0, .inr (3, [.int h0_minute, .int h0_offered, .int h0_table, .int h0_sitting, .int h0_gullet, .long h0_knows]))] := hD
        refine lv_ior hx hb dX3_knownByAny_23 ?_
        refine lv_topi (fun y_134 ey_134 => ?_)
        refine lv_istore_n (lv' := [(2, .int y_134), (3, .int y_71), (0, .ref h0), (1, .int x0)]) hx hb dX3_knownByAny_24 rfl hl (by decide) rfl (fun ls hl => ?_)
        exact hJ25 _ _ _ ⟨y_134, _, hP, hD, hS, (lv_sub hl [1, 0, 2, 3] rfl), rfl⟩

set_option maxHeartbeats 4000000 in
set_option maxRecDepth 100000 in
/-- e_forget -/
theorem e_forget (l : Launch) (dC : Nat → ClassId) (dI : Nat → Nat → Nat) (sz : Nat) (h0 : Nat) (h0_minute : Int32) (h0_offered : Int32) (h0_table : Int32) (h0_sitting : Int32) (h0_gullet : Int32) (h0_knows : Int64) (x0 : Int32) : Met l yX3_forget (.code yX3_forget cX3_forget 2 none :: wsA) ({ frames := 0, cells := 0, slots := 0, locals := 0 }) (va_Pc [.ref h0, .int x0] (fun U => U.heap.size = sz ∧ va_P (dC, dI) classes [(h0, .inr (3, [.int h0_minute, .int h0_offered, .int h0_table, .int h0_sitting, .int h0_gullet, .long h0_knows]))] U.heap ∧ va_K (dC, dI) classes [] U ∧ va_D (fun _ => True) [(h0, .inr (3, [.int h0_minute, .int h0_offered, .int h0_table, .int h0_sitting, .int h0_gullet, .long h0_knows]))] ∧ xE U)) (va_Qv (fun (_ : Unit) => True) (fun _ t => ∃ (zz_5 : Nat → Int64), va_P (dC, dI) classes [(h0, .inr (3, [.int h0_minute, .int h0_offered, .int h0_table, .int h0_sitting, .int h0_gullet, .long (zz_5 0)]))] t.heap ∧ va_K (dC, dI) classes [] t ∧ va_D (va_A [(h0, .inr (3, [.int h0_minute, .int h0_offered, .int h0_table, .int h0_sitting, .int h0_gullet, .long h0_knows]))] sz) [(h0, .inr (3, [.int h0_minute, .int h0_offered, .int h0_table, .int h0_sitting, .int h0_gullet, .long (zz_5 0)]))]) (va_A [(h0, .inr (3, [.int h0_minute, .int h0_offered, .int h0_table, .int h0_sitting, .int h0_gullet, .long h0_knows]))] sz)) 0 0 (va_A [(h0, .inr (3, [.int h0_minute, .int h0_offered, .int h0_table, .int h0_sitting, .int h0_gullet, .long h0_knows]))] sz) := by
  refine Met.ofW (cc := cX3_forget) (maxL := 2) (ret := none) (by decide) rfl ?_
  intro p e s m args below meth c s₁ B hml hv
  obtain ⟨rfl, hsz, hP, hK, hD0, hE⟩ := hv
  have hx := B.exec
  have hb := B.bytes
  have hr := B.returns
  have hts := atoms_spec (ws := .code yX3_forget cX3_forget 2 none :: wsA) B.pre
  have hq : ∀ w ∈ wsA, w.before _ s = true := fun w h => hts w (List.mem_cons_of_mem _ h)
  have hown : s.vm.findClass RX3 = some m.cls := findClass_of_methodNamed B.named
  have hlocks := B.notSynchronized
  subst hsz
  have hD := hD0.self (sz := s.heap.size)
  generalize hAe : va_A [(h0, .inr (3, [.int h0_minute, .int h0_offered, .int h0_table, .int h0_sitting, .int h0_gullet, .long h0_knows]))] s.heap.size = A at hD ⊢
  have hA : ∀ q : Nat, s.heap.size ≤ q → A q := fun q h => by rw [← hAe]; exact Or.inr h
  have hS : va_S A s.heap s.heap [] := va_S.rf
  have hl := lv_entry ([.ref h0, .int x0]) (n := 2) (Nat.le_of_ble_eq_true rfl)
  rw [lg_entry_eq]
  generalize (lg_sl ([.ref h0, .int x0]) ++ List.replicate (2 - (lg_sl ([.ref h0, .int x0])).length) Slot.unset).toArray = ls at hl ⊢
  have hl : lv_has ls 2 [(0, .ref h0), (1, .int x0)] := hl
  refine lv_aload_n hx hb dX3_forget_0 rfl (lv_at hl 0 rfl) ?_
  refine lv_dup hx hb dX3_forget_1 rfl ?_
  refine va_get (D := (dC, dI)) (ci := 3) (v := .long h0_knows) (C := RX3) (T := TX3) (N := 6) hx hb hq inX3 hown hK hP 0 rfl rfl 5 (by decide) (hq _ qw_285) (fun _ h9 => h9) rfl dX3_forget_2 ?_
  refine lv_ldc2 (v := 255) hx hb hown (hq _ qw_906) dX3_forget_5 ?_
  refine lv_bipush (v := 8) hx hb dX3_forget_8 (by decide) ?_
  refine lv_iload_n hx hb dX3_forget_10 rfl (lv_at hl 1 rfl) ?_
  refine lv_imul hx hb dX3_forget_11 ?_
  refine lv_topi (fun y_6 ey_6 => ?_)
  refine lv_lshl hx hb dX3_forget_12 rfl ?_
  refine lv_topl (fun z_7 ez_7 => ?_)
  refine lv_ldc2 (v := (-1)) hx hb hown (hq _ qw_907) dX3_forget_13 ?_
  refine lv_lxor hx hb dX3_forget_16 ?_
  refine lv_topl (fun z_8 ez_8 => ?_)
  refine lv_land hx hb dX3_forget_17 ?_
  refine lv_topl (fun z_9 ez_9 => ?_)
  refine va_put (D := (dC, dI)) (ci := 3) (v := .long z_9) (ty := .long) (C := RX3) (T := TX3) (N := 6) hx hb hq inX3 tyX3 tyX3_ok nmX3 hown hK hP hD hS 0 rfl rfl 5 (by decide) (hq _ qw_285) (fun _ h9 => h9) rfl (by decide +kernel) rfl rfl (Nat.le_of_ble_eq_true rfl) dX3_forget_18 (fun H locs hP hD hS => ?_)
  have hP : va_P (dC, dI) classes [(h0, .inr (3, [.int h0_minute, .int h0_offered, .int h0_table, .int h0_sitting, .int h0_gullet, .long z_9]))] H := hP
  have hD : va_D A [(h0, .inr (3, [.int h0_minute, .int h0_offered, .int h0_table, .int h0_sitting, .int h0_gullet, .long z_9]))] := hD
  refine W.widen (k := 0) (n := 0) (Nat.le_of_ble_eq_true rfl) (Nat.le_of_ble_eq_true rfl) ?_
  exact W.vret hx hb hr (fun t ht hW => ⟨⟨(), rfl, trivial, (fun i => [z_9].getD i 0), by rw [ht]; exact hP, va_K.moved hW.alike hK, hD⟩, hS.F ht⟩) hS.2.2 dX3_forget_21

set_option maxHeartbeats 4000000 in
set_option maxRecDepth 100000 in
/-- e_dishIn -/
theorem e_dishIn (l : Launch) (dC : Nat → ClassId) (dI : Nat → Nat → Nat) (sz : Nat) (h0 : Nat) (h0_minute : Int32) (h0_offered : Int32) (h0_table : Int32) (h0_sitting : Int32) (h0_gullet : Int32) (h0_knows : Int64) (x0 : Int32) : Met l yX3_dishIn (.code yX3_dishIn cX3_dishIn 2 (some .int) :: wsA) ({ frames := 0, cells := 0, slots := 0, locals := 0 }) (va_Pc [.ref h0, .int x0] (fun U => U.heap.size = sz ∧ va_P (dC, dI) classes [(h0, .inr (3, [.int h0_minute, .int h0_offered, .int h0_table, .int h0_sitting, .int h0_gullet, .long h0_knows]))] U.heap ∧ va_K (dC, dI) classes [] U ∧ va_D (fun _ => True) [(h0, .inr (3, [.int h0_minute, .int h0_offered, .int h0_table, .int h0_sitting, .int h0_gullet, .long h0_knows]))] ∧ xE U)) (va_Qi (fun (r : Int32) (_ : Unit) => True) (fun _ t => va_P (dC, dI) classes [(h0, .inr (3, [.int h0_minute, .int h0_offered, .int h0_table, .int h0_sitting, .int h0_gullet, .long h0_knows]))] t.heap ∧ va_K (dC, dI) classes [] t ∧ va_D (va_A [(h0, .inr (3, [.int h0_minute, .int h0_offered, .int h0_table, .int h0_sitting, .int h0_gullet, .long h0_knows]))] sz) [(h0, .inr (3, [.int h0_minute, .int h0_offered, .int h0_table, .int h0_sitting, .int h0_gullet, .long h0_knows]))]) (va_A [(h0, .inr (3, [.int h0_minute, .int h0_offered, .int h0_table, .int h0_sitting, .int h0_gullet, .long h0_knows]))] sz)) 0 0 (va_A [(h0, .inr (3, [.int h0_minute, .int h0_offered, .int h0_table, .int h0_sitting, .int h0_gullet, .long h0_knows]))] sz) := by
  refine Met.ofW (cc := cX3_dishIn) (maxL := 2) (ret := (some .int)) (by decide) rfl ?_
  intro p e s m args below meth c s₁ B hml hv
  obtain ⟨rfl, hsz, hP, hK, hD0, hE⟩ := hv
  have hx := B.exec
  have hb := B.bytes
  have hr := B.returns
  have hts := atoms_spec (ws := .code yX3_dishIn cX3_dishIn 2 (some .int) :: wsA) B.pre
  have hq : ∀ w ∈ wsA, w.before _ s = true := fun w h => hts w (List.mem_cons_of_mem _ h)
  have hown : s.vm.findClass RX3 = some m.cls := findClass_of_methodNamed B.named
  have hlocks := B.notSynchronized
  subst hsz
  have hD := hD0.self (sz := s.heap.size)
  generalize hAe : va_A [(h0, .inr (3, [.int h0_minute, .int h0_offered, .int h0_table, .int h0_sitting, .int h0_gullet, .long h0_knows]))] s.heap.size = A at hD ⊢
  have hA : ∀ q : Nat, s.heap.size ≤ q → A q := fun q h => by rw [← hAe]; exact Or.inr h
  have hS : va_S A s.heap s.heap [] := va_S.rf
  have hl := lv_entry ([.ref h0, .int x0]) (n := 2) (Nat.le_of_ble_eq_true rfl)
  rw [lg_entry_eq]
  generalize (lg_sl ([.ref h0, .int x0]) ++ List.replicate (2 - (lg_sl ([.ref h0, .int x0])).length) Slot.unset).toArray = ls at hl ⊢
  have hl : lv_has ls 2 [(0, .ref h0), (1, .int x0)] := hl
  refine lv_aload_n hx hb dX3_dishIn_0 rfl (lv_at hl 0 rfl) ?_
  refine va_get (D := (dC, dI)) (ci := 3) (v := .int h0_gullet) (C := RX3) (T := TX3) (N := 6) hx hb hq inX3 hown hK hP 0 rfl rfl 4 (by decide) (hq _ qw_282) (fun _ h9 => h9) rfl dX3_dishIn_1 ?_
  refine lv_iconst (v := 4) hx hb dX3_dishIn_4 (by decide) ?_
  refine lv_iload_n hx hb dX3_dishIn_5 rfl (lv_at hl 1 rfl) ?_
  refine lv_imul hx hb dX3_dishIn_6 ?_
  refine lv_topi (fun y_5 ey_5 => ?_)
  refine lv_ishr hx hb dX3_dishIn_7 ?_
  refine lv_topi (fun y_6 ey_6 => ?_)
  refine lv_bipush (v := 15) hx hb dX3_dishIn_8 (by decide) ?_
  refine lv_iand hx hb dX3_dishIn_10 ?_
  refine lv_topi (fun y_7 ey_7 => ?_)
  refine lv_iconst (v := 1) hx hb dX3_dishIn_11 (by decide) ?_
  refine lv_isub hx hb dX3_dishIn_12 ?_
  refine lv_topi (fun y_8 ey_8 => ?_)
  refine W.widen (k := 0) (n := 0) (Nat.le_of_ble_eq_true rfl) (Nat.le_of_ble_eq_true rfl) ?_
  exact W.iret (v := y_8) hx hb hr (fun t ht hW => ⟨⟨y_8, (), rfl, trivial, by rw [ht]; exact hP, va_K.moved hW.alike hK, hD⟩, hS.F ht⟩) hS.2.2 dX3_dishIn_13

set_option maxHeartbeats 4000000 in
set_option maxRecDepth 100000 in
/-- e_placeOf -/
theorem e_placeOf (l : Launch) (dC : Nat → ClassId) (dI : Nat → Nat → Nat) (sz : Nat) (h0 : Nat) (h0_minute : Int32) (h0_offered : Int32) (h0_table : Int32) (h0_sitting : Int32) (h0_gullet : Int32) (h0_knows : Int64) (x0 : Int32) : Met l yX3_placeOf (.code yX3_placeOf cX3_placeOf 3 (some .int) :: wsA) ({ frames := 1, cells := 0, slots := 0, locals := 21 }) (va_Pc [.ref h0, .int x0] (fun U => U.heap.size = sz ∧ va_P (dC, dI) classes [(h0, .inr (3, [.int h0_minute, .int h0_offered, .int h0_table, .int h0_sitting, .int h0_gullet, .long h0_knows]))] U.heap ∧ va_K (dC, dI) classes [] U ∧ va_D (fun _ => True) [(h0, .inr (3, [.int h0_minute, .int h0_offered, .int h0_table, .int h0_sitting, .int h0_gullet, .long h0_knows]))] ∧ xE U)) (va_Qi (fun (r : Int32) (_ : Unit) => True) (fun _ t => va_P (dC, dI) classes [(h0, .inr (3, [.int h0_minute, .int h0_offered, .int h0_table, .int h0_sitting, .int h0_gullet, .long h0_knows]))] t.heap ∧ va_K (dC, dI) classes [] t ∧ va_D (va_A [(h0, .inr (3, [.int h0_minute, .int h0_offered, .int h0_table, .int h0_sitting, .int h0_gullet, .long h0_knows]))] sz) [(h0, .inr (3, [.int h0_minute, .int h0_offered, .int h0_table, .int h0_sitting, .int h0_gullet, .long h0_knows]))]) (va_A [(h0, .inr (3, [.int h0_minute, .int h0_offered, .int h0_table, .int h0_sitting, .int h0_gullet, .long h0_knows]))] sz)) 0 0 (va_A [(h0, .inr (3, [.int h0_minute, .int h0_offered, .int h0_table, .int h0_sitting, .int h0_gullet, .long h0_knows]))] sz) := by
  refine Met.ofW (cc := cX3_placeOf) (maxL := 3) (ret := (some .int)) (by decide) rfl ?_
  intro p e s m args below meth c s₁ B hml hv
  obtain ⟨rfl, hsz, hP, hK, hD0, hE⟩ := hv
  have hx := B.exec
  have hb := B.bytes
  have hr := B.returns
  have hts := atoms_spec (ws := .code yX3_placeOf cX3_placeOf 3 (some .int) :: wsA) B.pre
  have hq : ∀ w ∈ wsA, w.before _ s = true := fun w h => hts w (List.mem_cons_of_mem _ h)
  have hown : s.vm.findClass RX3 = some m.cls := findClass_of_methodNamed B.named
  have hlocks := B.notSynchronized
  subst hsz
  have hD := hD0.self (sz := s.heap.size)
  generalize hAe : va_A [(h0, .inr (3, [.int h0_minute, .int h0_offered, .int h0_table, .int h0_sitting, .int h0_gullet, .long h0_knows]))] s.heap.size = A at hD ⊢
  have hA : ∀ q : Nat, s.heap.size ≤ q → A q := fun q h => by rw [← hAe]; exact Or.inr h
  have hS : va_S A s.heap s.heap [] := va_S.rf
  have hl := lv_entry ([.ref h0, .int x0]) (n := 3) (Nat.le_of_ble_eq_true rfl)
  rw [lg_entry_eq]
  generalize (lg_sl ([.ref h0, .int x0]) ++ List.replicate (3 - (lg_sl ([.ref h0, .int x0])).length) Slot.unset).toArray = ls at hl ⊢
  have hl : lv_has ls 3 [(0, .ref h0), (1, .int x0)] := hl
  refine lv_iconst (v := 0) hx hb dX3_placeOf_0 (by decide) ?_
  refine lv_istore_n (lv' := [(2, .int 0), (0, .ref h0), (1, .int x0)]) hx hb dX3_placeOf_1 rfl hl (by decide) rfl (fun ls hl => ?_)
  refine W.loop (I := fun n H locs g => ∃ (y_34 : Int32) (ls : Array Slot), bt 0 6 y_34 ∧ 6 - y_34.toInt < (n : Int) ∧ va_P (dC, dI) classes [(h0, .inr (3, [.int h0_minute, .int h0_offered, .int h0_table, .int h0_sitting, .int h0_gullet, .long h0_knows]))] H ∧ va_D A [(h0, .inr (3, [.int h0_minute, .int h0_offered, .int h0_table, .int h0_sitting, .int h0_gullet, .long h0_knows]))] ∧ va_S A s.heap H locs ∧ lv_has ls 3 [(2, .int y_34), (0, .ref h0), (1, .int x0)] ∧ g = F0 m 2 ls []) (fun H locs g h => ?_) (fun n ih2 H locs g h => ?_) (n := 7) ⟨0, _, (bt_w (bt_k (x := 0) (c := 0) (by decide)) (by decide)), (ms_0 (bt_k (x := 0) (c := 0) (by decide)) (by decide)), hP, hD, hS, hl, rfl⟩
  · obtain ⟨y_34, ls, bd_v_2, hm, hP, hD, hS, hl, rfl⟩ := h
    exact ms_z bd_v_2 hm
  · obtain ⟨y_34, ls, bd_v_2, hm2, hP, hD, hS, hl, rfl⟩ := h
    refine lv_iload_n hx hb dX3_placeOf_2 rfl (lv_at hl 0 rfl) ?_
    refine lv_bipush (v := 6) hx hb dX3_placeOf_3 (by decide) ?_
    refine lv_icmp_ge (tgt := 25) hx hb dX3_placeOf_5 (by decide) (fun c_59 => ?_) (fun c_59 => ?_)
    · refine lv_bipush (v := (-2)) hx hb dX3_placeOf_25 (by decide) ?_
      refine W.widen (k := 0) (n := 0) (Nat.le_of_ble_eq_true rfl) (Nat.le_of_ble_eq_true rfl) ?_
      exact W.iret (v := (-2)) hx hb hr (fun t ht hW => ⟨⟨(-2), (), rfl, trivial, by rw [ht]; exact hP, va_K.moved hW.alike hK, hD⟩, hS.F ht⟩) hS.2.2 dX3_placeOf_27
    · refine lv_aload_n hx hb dX3_placeOf_8 rfl (lv_at hl 1 rfl) ?_
      refine lv_iload_n hx hb dX3_placeOf_9 rfl (lv_at hl 0 rfl) ?_
      have hPc := hP.sub (ws' := [(h0, .inr (3, [.int h0_minute, .int h0_offered, .int h0_table, .int h0_sitting, .int h0_gullet, .long h0_knows]))]) [0] rfl
      have hDc := hD.sub (ws' := [(h0, .inr (3, [.int h0_minute, .int h0_offered, .int h0_table, .int h0_sitting, .int h0_gullet, .long h0_knows]))]) [0] (by decide) rfl
      have hKc := hK.sub (tys' := []) [] rfl
      have hFc := va_free (wc := [(h0, .inr (3, [.int h0_minute, .int h0_offered, .int h0_table, .int h0_sitting, .int h0_gullet, .long h0_knows]))]) hD hS hA [0] rfl
      refine va_calli (va_runV (As := [.int y_34]) (rest := []) ⟨hx, hb, hml, hown, hq⟩ (e_dishIn l dC dI _ h0 h0_minute h0_offered h0_table h0_sitting h0_gullet h0_knows y_34 ) (cwV 1 hq (gV qw_754 qw_755 qw_756 qw_125 qw_757) rfl rfl rfl (by decide +kernel) ⟨Nat.le_of_ble_eq_true rfl, Nat.le_of_ble_eq_true rfl⟩) ⟨fun a U g mk q => by obtain ⟨q0, q1, qP, qK, qD, qE⟩ := q; exact ⟨q0, q1, qP, va_K.moved (u := U) (U := U.calling g mk a) (Vm.Alike.refl U.vm) qK, qD, xE.same rfl qE⟩, va_recv hKc hPc (ci := 3) (q0 := 0) rfl rfl, fun U hU hW => ⟨rfl, by rw [hU], by rw [hU]; exact hPc, va_K.moved hW.alike hKc, hDc.weaken (fun _ _ _ _ => trivial), xE.warm hW hE⟩⟩ rfl rfl hl.1 rfl (lv_room (Nat.le_of_ble_eq_true rfl)) dX3_placeOf_10 ⟨Nat.le_of_ble_eq_true rfl, Nat.le_of_ble_eq_true rfl⟩) hS (fun q _ h => hFc q h) hFc (fun r_60 u t H1 locs ht hvm hw hB hz1 hk1 hS => ?_)
      obtain ⟨hP1, hK1, hD1⟩ := hB
      rw [ht] at hP1
      obtain ⟨hP, hD⟩ := va_join (wr := []) (w1 := [(h0, .inr (3, [.int h0_minute, .int h0_offered, .int h0_table, .int h0_sitting, .int h0_gullet, .long h0_knows]))]) hP hD [0] [] rfl rfl (by decide) (by decide) hk1 hFc hP1 hD1
      generalize H1 = H at hP hS ⊢
      have hP : va_P (dC, dI) classes [(h0, .inr (3, [.int h0_minute, .int h0_offered, .int h0_table, .int h0_sitting, .int h0_gullet, .long h0_knows]))] H := hP
      have hD : va_D A [(h0, .inr (3, [.int h0_minute, .int h0_offered, .int h0_table, .int h0_sitting, .int h0_gullet, .long h0_knows]))] := hD
      refine lv_iload_n hx hb dX3_placeOf_13 rfl (lv_at hl 2 rfl) ?_
      refine lv_icmp_ne (tgt := 19) hx hb dX3_placeOf_14 (by decide) (fun c_61 => ?_) (fun c_61 => ?_)
      · obtain ⟨y_62, ey_62⟩ : ∃ y : Int32, y = y_34 + 1 := ⟨_, rfl⟩
        refine lv_iinc (v := y_62) (lv' := [(2, .int y_62), (0, .ref h0), (1, .int x0)]) hx hb dX3_placeOf_19 hl (k := 0) rfl (by rw [ey_62]; rfl) (by decide) rfl (fun ls hl => ?_)
        refine lv_goto (tgt := 2) hx hb dX3_placeOf_22 (by decide) ?_
        have b_63 : bt 0 5 y_34 := rf_lt_l bd_v_2 (bt_k (x := 6) (c := 6) (by decide)) (Int32.not_le.mp c_59) (by decide)
        have b_64 : bt 1 6 y_62 := bt_add ey_62 b_63 (bt_k (x := 1) (c := 1) (by decide)) (by decide)
        exact ih2 _ _ _ ⟨y_62, _, (bt_w b_64 (by decide)), (ms_s ey_62 b_63 hm2 (by decide)), hP, hD, hS, hl, rfl⟩
      · refine lv_iload_n hx hb dX3_placeOf_17 rfl (lv_at hl 0 rfl) ?_
        refine W.widen (k := 0) (n := 0) (Nat.le_of_ble_eq_true rfl) (Nat.le_of_ble_eq_true rfl) ?_
        exact W.iret (v := y_34) hx hb hr (fun t ht hW => ⟨⟨y_34, (), rfl, trivial, by rw [ht]; exact hP, va_K.moved hW.alike hK, hD⟩, hS.F ht⟩) hS.2.2 dX3_placeOf_18

set_option maxHeartbeats 4000000 in
set_option maxRecDepth 100000 in
/-- e_learn -/
theorem e_learn (l : Launch) (dC : Nat → ClassId) (dI : Nat → Nat → Nat) (sz : Nat) (h0 : Nat) (h0_minute : Int32) (h0_offered : Int32) (h0_table : Int32) (h0_sitting : Int32) (h0_gullet : Int32) (h0_knows : Int64) (x0 : Int32) (x1 : Int32) : Met l yX3_learn (.code yX3_learn cX3_learn 3 none :: wsA) ({ frames := 0, cells := 0, slots := 0, locals := 0 }) (va_Pc [.ref h0, .int x0, .int x1] (fun U => U.heap.size = sz ∧ va_P (dC, dI) classes [(h0, .inr (3, [.int h0_minute, .int h0_offered, .int h0_table, .int h0_sitting, .int h0_gullet, .long h0_knows]))] U.heap ∧ va_K (dC, dI) classes [] U ∧ va_D (fun _ => True) [(h0, .inr (3, [.int h0_minute, .int h0_offered, .int h0_table, .int h0_sitting, .int h0_gullet, .long h0_knows]))] ∧ xE U)) (va_Qv (fun (_ : Unit) => True) (fun _ t => ∃ (zz_5 : Nat → Int64), va_P (dC, dI) classes [(h0, .inr (3, [.int h0_minute, .int h0_offered, .int h0_table, .int h0_sitting, .int h0_gullet, .long (zz_5 0)]))] t.heap ∧ va_K (dC, dI) classes [] t ∧ va_D (va_A [(h0, .inr (3, [.int h0_minute, .int h0_offered, .int h0_table, .int h0_sitting, .int h0_gullet, .long h0_knows]))] sz) [(h0, .inr (3, [.int h0_minute, .int h0_offered, .int h0_table, .int h0_sitting, .int h0_gullet, .long (zz_5 0)]))]) (va_A [(h0, .inr (3, [.int h0_minute, .int h0_offered, .int h0_table, .int h0_sitting, .int h0_gullet, .long h0_knows]))] sz)) 0 0 (va_A [(h0, .inr (3, [.int h0_minute, .int h0_offered, .int h0_table, .int h0_sitting, .int h0_gullet, .long h0_knows]))] sz) := by
  refine Met.ofW (cc := cX3_learn) (maxL := 3) (ret := none) (by decide) rfl ?_
  intro p e s m args below meth c s₁ B hml hv
  obtain ⟨rfl, hsz, hP, hK, hD0, hE⟩ := hv
  have hx := B.exec
  have hb := B.bytes
  have hr := B.returns
  have hts := atoms_spec (ws := .code yX3_learn cX3_learn 3 none :: wsA) B.pre
  have hq : ∀ w ∈ wsA, w.before _ s = true := fun w h => hts w (List.mem_cons_of_mem _ h)
  have hown : s.vm.findClass RX3 = some m.cls := findClass_of_methodNamed B.named
  have hlocks := B.notSynchronized
  subst hsz
  have hD := hD0.self (sz := s.heap.size)
  generalize hAe : va_A [(h0, .inr (3, [.int h0_minute, .int h0_offered, .int h0_table, .int h0_sitting, .int h0_gullet, .long h0_knows]))] s.heap.size = A at hD ⊢
  have hA : ∀ q : Nat, s.heap.size ≤ q → A q := fun q h => by rw [← hAe]; exact Or.inr h
  have hS : va_S A s.heap s.heap [] := va_S.rf
  have hl := lv_entry ([.ref h0, .int x0, .int x1]) (n := 3) (Nat.le_of_ble_eq_true rfl)
  rw [lg_entry_eq]
  generalize (lg_sl ([.ref h0, .int x0, .int x1]) ++ List.replicate (3 - (lg_sl ([.ref h0, .int x0, .int x1])).length) Slot.unset).toArray = ls at hl ⊢
  have hl : lv_has ls 3 [(0, .ref h0), (1, .int x0), (2, .int x1)] := hl
  refine lv_aload_n hx hb dX3_learn_0 rfl (lv_at hl 0 rfl) ?_
  refine lv_dup hx hb dX3_learn_1 rfl ?_
  refine va_get (D := (dC, dI)) (ci := 3) (v := .long h0_knows) (C := RX3) (T := TX3) (N := 6) hx hb hq inX3 hown hK hP 0 rfl rfl 5 (by decide) (hq _ qw_285) (fun _ h9 => h9) rfl dX3_learn_2 ?_
  refine lv_iload_n hx hb dX3_learn_5 rfl (lv_at hl 2 rfl) ?_
  refine lv_i2l hx hb dX3_learn_6 rfl ?_
  refine lv_topl (fun z_6 ez_6 => ?_)
  refine lv_bipush (v := 8) hx hb dX3_learn_7 (by decide) ?_
  refine lv_iload_n hx hb dX3_learn_9 rfl (lv_at hl 1 rfl) ?_
  refine lv_imul hx hb dX3_learn_10 ?_
  refine lv_topi (fun y_7 ey_7 => ?_)
  refine lv_lshl hx hb dX3_learn_11 rfl ?_
  refine lv_topl (fun z_8 ez_8 => ?_)
  refine lv_lor hx hb dX3_learn_12 ?_
  refine lv_topl (fun z_9 ez_9 => ?_)
  refine va_put (D := (dC, dI)) (ci := 3) (v := .long z_9) (ty := .long) (C := RX3) (T := TX3) (N := 6) hx hb hq inX3 tyX3 tyX3_ok nmX3 hown hK hP hD hS 0 rfl rfl 5 (by decide) (hq _ qw_285) (fun _ h9 => h9) rfl (by decide +kernel) rfl rfl (Nat.le_of_ble_eq_true rfl) dX3_learn_13 (fun H locs hP hD hS => ?_)
  have hP : va_P (dC, dI) classes [(h0, .inr (3, [.int h0_minute, .int h0_offered, .int h0_table, .int h0_sitting, .int h0_gullet, .long z_9]))] H := hP
  have hD : va_D A [(h0, .inr (3, [.int h0_minute, .int h0_offered, .int h0_table, .int h0_sitting, .int h0_gullet, .long z_9]))] := hD
  refine W.widen (k := 0) (n := 0) (Nat.le_of_ble_eq_true rfl) (Nat.le_of_ble_eq_true rfl) ?_
  exact W.vret hx hb hr (fun t ht hW => ⟨⟨(), rfl, trivial, (fun i => [z_9].getD i 0), by rw [ht]; exact hP, va_K.moved hW.alike hK, hD⟩, hS.F ht⟩) hS.2.2 dX3_learn_16

set_option maxHeartbeats 4000000 in
set_option maxRecDepth 100000 in
/-- e_dishesInThroat -/
theorem e_dishesInThroat (l : Launch) (dC : Nat → ClassId) (dI : Nat → Nat → Nat) (sz : Nat) (h0 : Nat) (h0_minute : Int32) (h0_offered : Int32) (h0_table : Int32) (h0_sitting : Int32) (h0_gullet : Int32) (h0_knows : Int64) : Met l yX3_dishesInThroat (.code yX3_dishesInThroat cX3_dishesInThroat 4 (some .int) :: wsA) ({ frames := 0, cells := 0, slots := 0, locals := 0 }) (va_Pc [.ref h0] (fun U => U.heap.size = sz ∧ va_P (dC, dI) classes [(h0, .inr (3, [.int h0_minute, .int h0_offered, .int h0_table, .int h0_sitting, .int h0_gullet, .long h0_knows]))] U.heap ∧ va_K (dC, dI) classes [] U ∧ va_D (fun _ => True) [(h0, .inr (3, [.int h0_minute, .int h0_offered, .int h0_table, .int h0_sitting, .int h0_gullet, .long h0_knows]))] ∧ xE U)) (va_Qi (fun (r : Int32) (_ : Unit) => True) (fun _ t => va_P (dC, dI) classes [(h0, .inr (3, [.int h0_minute, .int h0_offered, .int h0_table, .int h0_sitting, .int h0_gullet, .long h0_knows]))] t.heap ∧ va_K (dC, dI) classes [] t ∧ va_D (va_A [(h0, .inr (3, [.int h0_minute, .int h0_offered, .int h0_table, .int h0_sitting, .int h0_gullet, .long h0_knows]))] sz) [(h0, .inr (3, [.int h0_minute, .int h0_offered, .int h0_table, .int h0_sitting, .int h0_gullet, .long h0_knows]))]) (va_A [(h0, .inr (3, [.int h0_minute, .int h0_offered, .int h0_table, .int h0_sitting, .int h0_gullet, .long h0_knows]))] sz)) 0 0 (va_A [(h0, .inr (3, [.int h0_minute, .int h0_offered, .int h0_table, .int h0_sitting, .int h0_gullet, .long h0_knows]))] sz) := by
  refine Met.ofW (cc := cX3_dishesInThroat) (maxL := 4) (ret := (some .int)) (by decide) rfl ?_
  intro p e s m args below meth c s₁ B hml hv
  obtain ⟨rfl, hsz, hP, hK, hD0, hE⟩ := hv
  have hx := B.exec
  have hb := B.bytes
  have hr := B.returns
  have hts := atoms_spec (ws := .code yX3_dishesInThroat cX3_dishesInThroat 4 (some .int) :: wsA) B.pre
  have hq : ∀ w ∈ wsA, w.before _ s = true := fun w h => hts w (List.mem_cons_of_mem _ h)
  have hown : s.vm.findClass RX3 = some m.cls := findClass_of_methodNamed B.named
  have hlocks := B.notSynchronized
  subst hsz
  have hD := hD0.self (sz := s.heap.size)
  generalize hAe : va_A [(h0, .inr (3, [.int h0_minute, .int h0_offered, .int h0_table, .int h0_sitting, .int h0_gullet, .long h0_knows]))] s.heap.size = A at hD ⊢
  have hA : ∀ q : Nat, s.heap.size ≤ q → A q := fun q h => by rw [← hAe]; exact Or.inr h
  have hS : va_S A s.heap s.heap [] := va_S.rf
  have hl := lv_entry ([.ref h0]) (n := 4) (Nat.le_of_ble_eq_true rfl)
  rw [lg_entry_eq]
  generalize (lg_sl ([.ref h0]) ++ List.replicate (4 - (lg_sl ([.ref h0])).length) Slot.unset).toArray = ls at hl ⊢
  have hl : lv_has ls 4 [(0, .ref h0)] := hl
  refine lv_iconst (v := 0) hx hb dX3_dishesInThroat_0 (by decide) ?_
  refine lv_istore_n (lv' := [(1, .int 0), (0, .ref h0)]) hx hb dX3_dishesInThroat_1 rfl hl (by decide) rfl (fun ls hl => ?_)
  refine lv_aload_n hx hb dX3_dishesInThroat_2 rfl (lv_at hl 1 rfl) ?_
  refine va_get (D := (dC, dI)) (ci := 3) (v := .int h0_gullet) (C := RX3) (T := TX3) (N := 6) hx hb hq inX3 hown hK hP 0 rfl rfl 4 (by decide) (hq _ qw_282) (fun _ h9 => h9) rfl dX3_dishesInThroat_3 ?_
  refine lv_istore_n (lv' := [(2, .int h0_gullet), (1, .int 0), (0, .ref h0)]) hx hb dX3_dishesInThroat_6 rfl hl (by decide) rfl (fun ls hl => ?_)
  refine lv_iconst (v := 0) hx hb dX3_dishesInThroat_7 (by decide) ?_
  refine lv_istore_n (lv' := [(3, .int 0), (2, .int h0_gullet), (1, .int 0), (0, .ref h0)]) hx hb dX3_dishesInThroat_8 rfl hl (by decide) rfl (fun ls hl => ?_)
  refine W.loop (I := fun n H locs g => ∃ (y_70 : Int32) (y_71 : Int32) (y_72 : Int32) (ls : Array Slot), bt 0 6 y_70 ∧ 6 - y_70.toInt < (n : Int) ∧ va_P (dC, dI) classes [(h0, .inr (3, [.int h0_minute, .int h0_offered, .int h0_table, .int h0_sitting, .int h0_gullet, .long h0_knows]))] H ∧ va_D A [(h0, .inr (3, [.int h0_minute, .int h0_offered, .int h0_table, .int h0_sitting, .int h0_gullet, .long h0_knows]))] ∧ va_S A s.heap H locs ∧ lv_has ls 4 [(3, .int y_70), (2, .int y_71), (1, .int y_72)] ∧ g = F0 m 9 ls []) (fun H locs g h => ?_) (fun n ih9 H locs g h => ?_) (n := 7) ⟨0, h0_gullet, 0, _, (bt_w (bt_k (x := 0) (c := 0) (by decide)) (by decide)), (ms_0 (bt_k (x := 0) (c := 0) (by decide)) (by decide)), hP, hD, hS, (lv_sub hl [0, 1, 2] rfl), rfl⟩
  · obtain ⟨y_70, y_71, y_72, ls, bd_v_3, hm, hP, hD, hS, hl, rfl⟩ := h
    exact ms_z bd_v_3 hm
  · obtain ⟨y_70, y_71, y_72, ls, bd_v_3, hm9, hP, hD, hS, hl, rfl⟩ := h
    refine lv_iload_n hx hb dX3_dishesInThroat_9 rfl (lv_at hl 0 rfl) ?_
    refine lv_bipush (v := 6) hx hb dX3_dishesInThroat_10 (by decide) ?_
    refine lv_icmp_ge (tgt := 40) hx hb dX3_dishesInThroat_12 (by decide) (fun c_122 => ?_) (fun c_122 => ?_)
    · refine lv_iload_n hx hb dX3_dishesInThroat_40 rfl (lv_at hl 2 rfl) ?_
      refine W.widen (k := 0) (n := 0) (Nat.le_of_ble_eq_true rfl) (Nat.le_of_ble_eq_true rfl) ?_
      exact W.iret (v := y_72) hx hb hr (fun t ht hW => ⟨⟨y_72, (), rfl, trivial, by rw [ht]; exact hP, va_K.moved hW.alike hK, hD⟩, hS.F ht⟩) hS.2.2 dX3_dishesInThroat_41
    · refine lv_iload_n hx hb dX3_dishesInThroat_15 rfl (lv_at hl 2 rfl) ?_
      refine lv_iload_n hx hb dX3_dishesInThroat_16 rfl (lv_at hl 1 rfl) ?_
      refine lv_bipush (v := 15) hx hb dX3_dishesInThroat_17 (by decide) ?_
      refine lv_iand hx hb dX3_dishesInThroat_19 ?_
      refine lv_topi (fun y_123 ey_123 => ?_)
      refine W.cut (I := fun H locs g => ∃ (y_125 : Int32) (ls : Array Slot), va_P (dC, dI) classes [(h0, .inr (3, [.int h0_minute, .int h0_offered, .int h0_table, .int h0_sitting, .int h0_gullet, .long h0_knows]))] H ∧ va_D A [(h0, .inr (3, [.int h0_minute, .int h0_offered, .int h0_table, .int h0_sitting, .int h0_gullet, .long h0_knows]))] ∧ va_S A s.heap H locs ∧ lv_has ls 4 [(3, .int y_70), (2, .int y_71)] ∧ g = F0 m 28 ls [.int y_125, .int y_72]) (fun H locs g h => ?_) (fun hJ28 => ?_)
      · obtain ⟨y_125, ls, hP, hD, hS, hl, rfl⟩ := h
        refine lv_iadd hx hb dX3_dishesInThroat_28 ?_
        refine lv_topi (fun y_129 ey_129 => ?_)
        refine lv_istore_n (lv' := [(1, .int y_129), (3, .int y_70), (2, .int y_71)]) hx hb dX3_dishesInThroat_29 rfl hl (by decide) rfl (fun ls hl => ?_)
        refine lv_iload_n hx hb dX3_dishesInThroat_30 rfl (lv_at hl 2 rfl) ?_
        refine lv_iconst (v := 4) hx hb dX3_dishesInThroat_31 (by decide) ?_
        refine lv_ishr hx hb dX3_dishesInThroat_32 ?_
        refine lv_topi (fun y_130 ey_130 => ?_)
        refine lv_istore_n (lv' := [(2, .int y_130), (1, .int y_129), (3, .int y_70)]) hx hb dX3_dishesInThroat_33 rfl hl (by decide) rfl (fun ls hl => ?_)
        obtain ⟨y_131, ey_131⟩ : ∃ y : Int32, y = y_70 + 1 := ⟨_, rfl⟩
        refine lv_iinc (v := y_131) (lv' := [(3, .int y_131), (2, .int y_130), (1, .int y_129)]) hx hb dX3_dishesInThroat_34 hl (k := 2) rfl (by rw [ey_131]; rfl) (by decide) rfl (fun ls hl => ?_)
        refine lv_goto (tgt := 9) hx hb dX3_dishesInThroat_37 (by decide) ?_
        have b_132 : bt 0 5 y_70 := rf_lt_l bd_v_3 (bt_k (x := 6) (c := 6) (by decide)) (Int32.not_le.mp c_122) (by decide)
        have b_133 : bt 1 6 y_131 := bt_add ey_131 b_132 (bt_k (x := 1) (c := 1) (by decide)) (by decide)
        exact ih9 _ _ _ ⟨y_131, y_130, y_129, _, (bt_w b_133 (by decide)), (ms_s ey_131 b_132 hm9 (by decide)), hP, hD, hS, hl, rfl⟩
      refine lv_if_ne (tgt := 27) hx hb dX3_dishesInThroat_20 (by decide) (fun c_134 => ?_) (fun c_134 => ?_)
      · refine lv_iconst (v := 1) hx hb dX3_dishesInThroat_27 (by decide) ?_
        exact hJ28 _ _ _ ⟨1, _, hP, hD, hS, (lv_sub hl [0, 1] rfl), rfl⟩
      · refine lv_iconst (v := 0) hx hb dX3_dishesInThroat_23 (by decide) ?_
        refine lv_goto (tgt := 28) hx hb dX3_dishesInThroat_24 (by decide) ?_
        exact hJ28 _ _ _ ⟨0, _, hP, hD, hS, (lv_sub hl [0, 1] rfl), rfl⟩

set_option maxHeartbeats 4000000 in
set_option maxRecDepth 100000 in
/-- e_topDish -/
theorem e_topDish (l : Launch) (dC : Nat → ClassId) (dI : Nat → Nat → Nat) (sz : Nat) (h0 : Nat) (h0_minute : Int32) (h0_offered : Int32) (h0_table : Int32) (h0_sitting : Int32) (h0_gullet : Int32) (h0_knows : Int64) : Met l yX3_topDish (.code yX3_topDish cX3_topDish 2 (some .int) :: wsA) ({ frames := 1, cells := 0, slots := 0, locals := 21 }) (va_Pc [.ref h0] (fun U => U.heap.size = sz ∧ va_P (dC, dI) classes [(h0, .inr (3, [.int h0_minute, .int h0_offered, .int h0_table, .int h0_sitting, .int h0_gullet, .long h0_knows]))] U.heap ∧ va_K (dC, dI) classes [] U ∧ va_D (fun _ => True) [(h0, .inr (3, [.int h0_minute, .int h0_offered, .int h0_table, .int h0_sitting, .int h0_gullet, .long h0_knows]))] ∧ xE U)) (va_Qi (fun (r : Int32) (_ : Unit) => True) (fun _ t => va_P (dC, dI) classes [(h0, .inr (3, [.int h0_minute, .int h0_offered, .int h0_table, .int h0_sitting, .int h0_gullet, .long h0_knows]))] t.heap ∧ va_K (dC, dI) classes [] t ∧ va_D (va_A [(h0, .inr (3, [.int h0_minute, .int h0_offered, .int h0_table, .int h0_sitting, .int h0_gullet, .long h0_knows]))] sz) [(h0, .inr (3, [.int h0_minute, .int h0_offered, .int h0_table, .int h0_sitting, .int h0_gullet, .long h0_knows]))]) (va_A [(h0, .inr (3, [.int h0_minute, .int h0_offered, .int h0_table, .int h0_sitting, .int h0_gullet, .long h0_knows]))] sz)) 0 0 (va_A [(h0, .inr (3, [.int h0_minute, .int h0_offered, .int h0_table, .int h0_sitting, .int h0_gullet, .long h0_knows]))] sz) := by
  refine Met.ofW (cc := cX3_topDish) (maxL := 2) (ret := (some .int)) (by decide) rfl ?_
  intro p e s m args below meth c s₁ B hml hv
  obtain ⟨rfl, hsz, hP, hK, hD0, hE⟩ := hv
  have hx := B.exec
  have hb := B.bytes
  have hr := B.returns
  have hts := atoms_spec (ws := .code yX3_topDish cX3_topDish 2 (some .int) :: wsA) B.pre
  have hq : ∀ w ∈ wsA, w.before _ s = true := fun w h => hts w (List.mem_cons_of_mem _ h)
  have hown : s.vm.findClass RX3 = some m.cls := findClass_of_methodNamed B.named
  have hlocks := B.notSynchronized
  subst hsz
  have hD := hD0.self (sz := s.heap.size)
  generalize hAe : va_A [(h0, .inr (3, [.int h0_minute, .int h0_offered, .int h0_table, .int h0_sitting, .int h0_gullet, .long h0_knows]))] s.heap.size = A at hD ⊢
  have hA : ∀ q : Nat, s.heap.size ≤ q → A q := fun q h => by rw [← hAe]; exact Or.inr h
  have hS : va_S A s.heap s.heap [] := va_S.rf
  have hl := lv_entry ([.ref h0]) (n := 2) (Nat.le_of_ble_eq_true rfl)
  rw [lg_entry_eq]
  generalize (lg_sl ([.ref h0]) ++ List.replicate (2 - (lg_sl ([.ref h0])).length) Slot.unset).toArray = ls at hl ⊢
  have hl : lv_has ls 2 [(0, .ref h0)] := hl
  refine lv_aload_n hx hb dX3_topDish_0 rfl (lv_at hl 0 rfl) ?_
  refine va_get (D := (dC, dI)) (ci := 3) (v := .int h0_gullet) (C := RX3) (T := TX3) (N := 6) hx hb hq inX3 hown hK hP 0 rfl rfl 4 (by decide) (hq _ qw_282) (fun _ h9 => h9) rfl dX3_topDish_1 ?_
  have hPc := hP.sub (ws' := []) [] rfl
  have hDc := hD.sub (ws' := []) [] (by decide) rfl
  have hKc := hK.sub (tys' := []) [] rfl
  have hFc := va_free (wc := []) hD hS hA [] rfl
  refine va_calli (va_runS (As := [.int h0_gullet]) (rest := []) ⟨hx, hb, hml, hown, hq⟩ (j_zeros l dC dI _ h0_gullet ) (va_cwS 1 hq (gT qw_835 qw_824 qw_137 qw_825) rfl rfl rfl (by decide +kernel) ⟨Nat.le_of_ble_eq_true rfl, Nat.le_of_ble_eq_true rfl⟩) ⟨fun a U g mk q => by obtain ⟨q0, q1, qP, qK, qD, qE⟩ := q; exact ⟨q0, q1, qP, va_K.moved (u := U) (U := U.calling g mk a) (Vm.Alike.refl U.vm) qK, qD, xE.same rfl qE⟩, fun U hU hW => ⟨rfl, by rw [hU], by rw [hU]; exact hPc, va_K.moved hW.alike hKc, hDc.weaken (fun _ _ _ _ => trivial), xE.warm hW hE⟩⟩ rfl rfl hl.1 rfl (lv_room (Nat.le_of_ble_eq_true rfl)) dX3_topDish_4 ⟨Nat.le_of_ble_eq_true rfl, Nat.le_of_ble_eq_true rfl⟩) hS (fun q _ h => hFc q h) hFc (fun r_8 u t H1 locs ht hvm hw hB hz1 hk1 hS => ?_)
  obtain ⟨hP1, hK1, hD1⟩ := hB
  rw [ht] at hP1
  obtain ⟨hP, hD⟩ := va_join (wr := [(h0, .inr (3, [.int h0_minute, .int h0_offered, .int h0_table, .int h0_sitting, .int h0_gullet, .long h0_knows]))]) (w1 := []) hP hD [] [0] rfl rfl (by decide) (by decide) hk1 hFc hP1 hD1
  generalize H1 = H at hP hS ⊢
  have hP : va_P (dC, dI) classes [(h0, .inr (3, [.int h0_minute, .int h0_offered, .int h0_table, .int h0_sitting, .int h0_gullet, .long h0_knows]))] H := hP
  have hD : va_D A [(h0, .inr (3, [.int h0_minute, .int h0_offered, .int h0_table, .int h0_sitting, .int h0_gullet, .long h0_knows]))] := hD
  refine lv_iconst (v := 4) hx hb dX3_topDish_7 (by decide) ?_
  refine lv_idiv hx hb dX3_topDish_8 (by decide) ?_
  refine lv_topi (fun y_9 ey_9 => ?_)
  refine lv_istore_n (lv' := [(1, .int y_9), (0, .ref h0)]) hx hb dX3_topDish_9 rfl hl (by decide) rfl (fun ls hl => ?_)
  refine lv_iload_n hx hb dX3_topDish_10 rfl (lv_at hl 0 rfl) ?_
  refine lv_bipush (v := 6) hx hb dX3_topDish_11 (by decide) ?_
  refine lv_icmp_ge (tgt := 32) hx hb dX3_topDish_13 (by decide) (fun c_10 => ?_) (fun c_10 => ?_)
  · refine lv_iconst (v := (-1)) hx hb dX3_topDish_32 (by decide) ?_
    refine W.widen (k := 0) (n := 0) (Nat.le_of_ble_eq_true rfl) (Nat.le_of_ble_eq_true rfl) ?_
    exact W.iret (v := (-1)) hx hb hr (fun t ht hW => ⟨⟨(-1), (), rfl, trivial, by rw [ht]; exact hP, va_K.moved hW.alike hK, hD⟩, hS.F ht⟩) hS.2.2 dX3_topDish_33
  · refine lv_aload_n hx hb dX3_topDish_16 rfl (lv_at hl 1 rfl) ?_
    refine va_get (D := (dC, dI)) (ci := 3) (v := .int h0_gullet) (C := RX3) (T := TX3) (N := 6) hx hb hq inX3 hown hK hP 0 rfl rfl 4 (by decide) (hq _ qw_282) (fun _ h9 => h9) rfl dX3_topDish_17 ?_
    refine lv_iconst (v := 4) hx hb dX3_topDish_20 (by decide) ?_
    refine lv_iload_n hx hb dX3_topDish_21 rfl (lv_at hl 0 rfl) ?_
    refine lv_imul hx hb dX3_topDish_22 ?_
    refine lv_topi (fun y_11 ey_11 => ?_)
    refine lv_ishr hx hb dX3_topDish_23 ?_
    refine lv_topi (fun y_12 ey_12 => ?_)
    refine lv_bipush (v := 15) hx hb dX3_topDish_24 (by decide) ?_
    refine lv_iand hx hb dX3_topDish_26 ?_
    refine lv_topi (fun y_13 ey_13 => ?_)
    refine lv_iconst (v := 1) hx hb dX3_topDish_27 (by decide) ?_
    refine lv_isub hx hb dX3_topDish_28 ?_
    refine lv_topi (fun y_14 ey_14 => ?_)
    refine lv_goto (tgt := 33) hx hb dX3_topDish_29 (by decide) ?_
    refine W.widen (k := 0) (n := 0) (Nat.le_of_ble_eq_true rfl) (Nat.le_of_ble_eq_true rfl) ?_
    exact W.iret (v := y_14) hx hb hr (fun t ht hW => ⟨⟨y_14, (), rfl, trivial, by rw [ht]; exact hP, va_K.moved hW.alike hK, hD⟩, hS.F ht⟩) hS.2.2 dX3_topDish_33

set_option maxHeartbeats 4000000 in
set_option maxRecDepth 100000 in
/-- e_knownBySitting -/
theorem e_knownBySitting (l : Launch) (dC : Nat → ClassId) (dI : Nat → Nat → Nat) (sz : Nat) (h0 : Nat) (h0_minute : Int32) (h0_offered : Int32) (h0_table : Int32) (h0_sitting : Int32) (h0_gullet : Int32) (h0_knows : Int64) : Met l yX3_knownBySitting (.code yX3_knownBySitting cX3_knownBySitting 3 (some .int) :: wsA) ({ frames := 1, cells := 0, slots := 0, locals := 21 }) (va_Pc [.ref h0] (fun U => U.heap.size = sz ∧ va_P (dC, dI) classes [(h0, .inr (3, [.int h0_minute, .int h0_offered, .int h0_table, .int h0_sitting, .int h0_gullet, .long h0_knows]))] U.heap ∧ va_K (dC, dI) classes [] U ∧ va_D (fun _ => True) [(h0, .inr (3, [.int h0_minute, .int h0_offered, .int h0_table, .int h0_sitting, .int h0_gullet, .long h0_knows]))] ∧ xE U)) (va_Qi (fun (r : Int32) (_ : Unit) => True) (fun _ t => va_P (dC, dI) classes [(h0, .inr (3, [.int h0_minute, .int h0_offered, .int h0_table, .int h0_sitting, .int h0_gullet, .long h0_knows]))] t.heap ∧ va_K (dC, dI) classes [] t ∧ va_D (va_A [(h0, .inr (3, [.int h0_minute, .int h0_offered, .int h0_table, .int h0_sitting, .int h0_gullet, .long h0_knows]))] sz) [(h0, .inr (3, [.int h0_minute, .int h0_offered, .int h0_table, .int h0_sitting, .int h0_gullet, .long h0_knows]))]) (va_A [(h0, .inr (3, [.int h0_minute, .int h0_offered, .int h0_table, .int h0_sitting, .int h0_gullet, .long h0_knows]))] sz)) 0 0 (va_A [(h0, .inr (3, [.int h0_minute, .int h0_offered, .int h0_table, .int h0_sitting, .int h0_gullet, .long h0_knows]))] sz) := by
  refine Met.ofW (cc := cX3_knownBySitting) (maxL := 3) (ret := (some .int)) (by decide) rfl ?_
  intro p e s m args below meth c s₁ B hml hv
  obtain ⟨rfl, hsz, hP, hK, hD0, hE⟩ := hv
  have hx := B.exec
  have hb := B.bytes
  have hr := B.returns
  have hts := atoms_spec (ws := .code yX3_knownBySitting cX3_knownBySitting 3 (some .int) :: wsA) B.pre
  have hq : ∀ w ∈ wsA, w.before _ s = true := fun w h => hts w (List.mem_cons_of_mem _ h)
  have hown : s.vm.findClass RX3 = some m.cls := findClass_of_methodNamed B.named
  have hlocks := B.notSynchronized
  subst hsz
  have hD := hD0.self (sz := s.heap.size)
  generalize hAe : va_A [(h0, .inr (3, [.int h0_minute, .int h0_offered, .int h0_table, .int h0_sitting, .int h0_gullet, .long h0_knows]))] s.heap.size = A at hD ⊢
  have hA : ∀ q : Nat, s.heap.size ≤ q → A q := fun q h => by rw [← hAe]; exact Or.inr h
  have hS : va_S A s.heap s.heap [] := va_S.rf
  have hl := lv_entry ([.ref h0]) (n := 3) (Nat.le_of_ble_eq_true rfl)
  rw [lg_entry_eq]
  generalize (lg_sl ([.ref h0]) ++ List.replicate (3 - (lg_sl ([.ref h0])).length) Slot.unset).toArray = ls at hl ⊢
  have hl : lv_has ls 3 [(0, .ref h0)] := hl
  refine lv_iconst (v := 0) hx hb dX3_knownBySitting_0 (by decide) ?_
  refine lv_istore_n (lv' := [(1, .int 0), (0, .ref h0)]) hx hb dX3_knownBySitting_1 rfl hl (by decide) rfl (fun ls hl => ?_)
  refine lv_iconst (v := 0) hx hb dX3_knownBySitting_2 (by decide) ?_
  refine lv_istore_n (lv' := [(2, .int 0), (1, .int 0), (0, .ref h0)]) hx hb dX3_knownBySitting_3 rfl hl (by decide) rfl (fun ls hl => ?_)
  refine W.loop (I := fun n H locs g => ∃ (y_79 : Int32) (y_80 : Int32) (ls : Array Slot), bt 0 5 y_79 ∧ 5 - y_79.toInt < (n : Int) ∧ va_P (dC, dI) classes [(h0, .inr (3, [.int h0_minute, .int h0_offered, .int h0_table, .int h0_sitting, .int h0_gullet, .long h0_knows]))] H ∧ va_D A [(h0, .inr (3, [.int h0_minute, .int h0_offered, .int h0_table, .int h0_sitting, .int h0_gullet, .long h0_knows]))] ∧ va_S A s.heap H locs ∧ lv_has ls 3 [(2, .int y_79), (1, .int y_80), (0, .ref h0)] ∧ g = F0 m 4 ls []) (fun H locs g h => ?_) (fun n ih4 H locs g h => ?_) (n := 6) ⟨0, 0, _, (bt_w (bt_k (x := 0) (c := 0) (by decide)) (by decide)), (ms_0 (bt_k (x := 0) (c := 0) (by decide)) (by decide)), hP, hD, hS, hl, rfl⟩
  · obtain ⟨y_79, y_80, ls, bd_v_2, hm, hP, hD, hS, hl, rfl⟩ := h
    exact ms_z bd_v_2 hm
  · obtain ⟨y_79, y_80, ls, bd_v_2, hm4, hP, hD, hS, hl, rfl⟩ := h
    refine lv_iload_n hx hb dX3_knownBySitting_4 rfl (lv_at hl 0 rfl) ?_
    refine lv_iconst (v := 5) hx hb dX3_knownBySitting_5 (by decide) ?_
    refine lv_icmp_ge (tgt := 38) hx hb dX3_knownBySitting_6 (by decide) (fun c_137 => ?_) (fun c_137 => ?_)
    · refine lv_iload_n hx hb dX3_knownBySitting_38 rfl (lv_at hl 1 rfl) ?_
      refine W.widen (k := 0) (n := 0) (Nat.le_of_ble_eq_true rfl) (Nat.le_of_ble_eq_true rfl) ?_
      exact W.iret (v := y_80) hx hb hr (fun t ht hW => ⟨⟨y_80, (), rfl, trivial, by rw [ht]; exact hP, va_K.moved hW.alike hK, hD⟩, hS.F ht⟩) hS.2.2 dX3_knownBySitting_39
    · refine lv_iload_n hx hb dX3_knownBySitting_9 rfl (lv_at hl 1 rfl) ?_
      refine lv_aload_n hx hb dX3_knownBySitting_10 rfl (lv_at hl 2 rfl) ?_
      refine lv_iload_n hx hb dX3_knownBySitting_11 rfl (lv_at hl 0 rfl) ?_
      have hPc := hP.sub (ws' := [(h0, .inr (3, [.int h0_minute, .int h0_offered, .int h0_table, .int h0_sitting, .int h0_gullet, .long h0_knows]))]) [0] rfl
      have hDc := hD.sub (ws' := [(h0, .inr (3, [.int h0_minute, .int h0_offered, .int h0_table, .int h0_sitting, .int h0_gullet, .long h0_knows]))]) [0] (by decide) rfl
      have hKc := hK.sub (tys' := []) [] rfl
      have hFc := va_free (wc := [(h0, .inr (3, [.int h0_minute, .int h0_offered, .int h0_table, .int h0_sitting, .int h0_gullet, .long h0_knows]))]) hD hS hA [0] rfl
      refine va_calli (va_runV (As := [.int y_79]) (rest := [.int y_80]) ⟨hx, hb, hml, hown, hq⟩ (e_sits l dC dI _ h0 h0_minute h0_offered h0_table h0_sitting h0_gullet h0_knows y_79 ) (cwV 1 hq (gV qw_996 qw_771 qw_772 qw_125 qw_773) rfl rfl rfl (by decide +kernel) ⟨Nat.le_of_ble_eq_true rfl, Nat.le_of_ble_eq_true rfl⟩) ⟨fun a U g mk q => by obtain ⟨q0, q1, qP, qK, qD, qE⟩ := q; exact ⟨q0, q1, qP, va_K.moved (u := U) (U := U.calling g mk a) (Vm.Alike.refl U.vm) qK, qD, xE.same rfl qE⟩, va_recv hKc hPc (ci := 3) (q0 := 0) rfl rfl, fun U hU hW => ⟨rfl, by rw [hU], by rw [hU]; exact hPc, va_K.moved hW.alike hKc, hDc.weaken (fun _ _ _ _ => trivial), xE.warm hW hE⟩⟩ rfl rfl hl.1 rfl (lv_room (Nat.le_of_ble_eq_true rfl)) dX3_knownBySitting_12 ⟨Nat.le_of_ble_eq_true rfl, Nat.le_of_ble_eq_true rfl⟩) hS (fun q _ h => hFc q h) hFc (fun r_138 u t H1 locs ht hvm hw hB hz1 hk1 hS => ?_)
      obtain ⟨hP1, hK1, hD1⟩ := hB
      rw [ht] at hP1
      obtain ⟨hP, hD⟩ := va_join (wr := []) (w1 := [(h0, .inr (3, [.int h0_minute, .int h0_offered, .int h0_table, .int h0_sitting, .int h0_gullet, .long h0_knows]))]) hP hD [0] [] rfl rfl (by decide) (by decide) hk1 hFc hP1 hD1
      generalize H1 = H at hP hS ⊢
      have hP : va_P (dC, dI) classes [(h0, .inr (3, [.int h0_minute, .int h0_offered, .int h0_table, .int h0_sitting, .int h0_gullet, .long h0_knows]))] H := hP
      have hD : va_D A [(h0, .inr (3, [.int h0_minute, .int h0_offered, .int h0_table, .int h0_sitting, .int h0_gullet, .long h0_knows]))] := hD
      refine W.cut (I := fun H locs g => ∃ (y_142 : Int32) (ls : Array Slot), va_P (dC, dI) classes [(h0, .inr (3, [.int h0_minute, .int h0_offered, .int h0_table, .int h0_sitting, .int h0_gullet, .long h0_knows]))] H ∧ va_D A [(h0, .inr (3, [.int h0_minute, .int h0_offered, .int h0_table, .int h0_sitting, .int h0_gullet, .long h0_knows]))] ∧ va_S A s.heap H locs ∧ lv_has ls 3 [(2, .int y_79), (0, .ref h0)] ∧ g = F0 m 30 ls [.int y_142, .int y_80]) (fun H locs g h => ?_) (fun hJ30 => ?_)
      · obtain ⟨y_142, ls, hP, hD, hS, hl, rfl⟩ := h
        refine lv_iadd hx hb dX3_knownBySitting_30 ?_
        refine lv_topi (fun y_145 ey_145 => ?_)
        refine lv_istore_n (lv' := [(1, .int y_145), (2, .int y_79), (0, .ref h0)]) hx hb dX3_knownBySitting_31 rfl hl (by decide) rfl (fun ls hl => ?_)
        obtain ⟨y_146, ey_146⟩ : ∃ y : Int32, y = y_79 + 1 := ⟨_, rfl⟩
        refine lv_iinc (v := y_146) (lv' := [(2, .int y_146), (1, .int y_145), (0, .ref h0)]) hx hb dX3_knownBySitting_32 hl (k := 1) rfl (by rw [ey_146]; rfl) (by decide) rfl (fun ls hl => ?_)
        refine lv_goto (tgt := 4) hx hb dX3_knownBySitting_35 (by decide) ?_
        have b_147 : bt 0 4 y_79 := rf_lt_l bd_v_2 (bt_k (x := 5) (c := 5) (by decide)) (Int32.not_le.mp c_137) (by decide)
        have b_148 : bt 1 5 y_146 := bt_add ey_146 b_147 (bt_k (x := 1) (c := 1) (by decide)) (by decide)
        exact ih4 _ _ _ ⟨y_146, y_145, _, (bt_w b_148 (by decide)), (ms_s ey_146 b_147 hm4 (by decide)), hP, hD, hS, hl, rfl⟩
      refine lv_if_eq (tgt := 29) hx hb dX3_knownBySitting_15 (by decide) (fun c_149 => ?_) (fun c_149 => ?_)
      · refine lv_iconst (v := 0) hx hb dX3_knownBySitting_29 (by decide) ?_
        exact hJ30 _ _ _ ⟨0, _, hP, hD, hS, (lv_sub hl [0, 2] rfl), rfl⟩
      · refine lv_aload_n hx hb dX3_knownBySitting_18 rfl (lv_at hl 2 rfl) ?_
        refine lv_iload_n hx hb dX3_knownBySitting_19 rfl (lv_at hl 0 rfl) ?_
        have hPc := hP.sub (ws' := [(h0, .inr (3, [.int h0_minute, .int h0_offered, .int h0_table, .int h0_sitting, .int h0_gullet, .long h0_knows]))]) [0] rfl
        have hDc := hD.sub (ws' := [(h0, .inr (3, [.int h0_minute, .int h0_offered, .int h0_table, .int h0_sitting, .int h0_gullet, .long h0_knows]))]) [0] (by decide) rfl
        have hKc := hK.sub (tys' := []) [] rfl
        have hFc := va_free (wc := [(h0, .inr (3, [.int h0_minute, .int h0_offered, .int h0_table, .int h0_sitting, .int h0_gullet, .long h0_knows]))]) hD hS hA [0] rfl
        refine va_calli (va_runV (As := [.int y_79]) (rest := [.int y_80]) ⟨hx, hb, hml, hown, hq⟩ (e_knownBy l dC dI _ h0 h0_minute h0_offered h0_table h0_sitting h0_gullet h0_knows y_79 ) (cwV 1 hq (gV qw_850 qw_767 qw_768 qw_125 qw_769) rfl rfl rfl (by decide +kernel) ⟨Nat.le_of_ble_eq_true rfl, Nat.le_of_ble_eq_true rfl⟩) ⟨fun a U g mk q => by obtain ⟨q0, q1, qP, qK, qD, qE⟩ := q; exact ⟨q0, q1, qP, va_K.moved (u := U) (U := U.calling g mk a) (Vm.Alike.refl U.vm) qK, qD, xE.same rfl qE⟩, va_recv hKc hPc (ci := 3) (q0 := 0) rfl rfl, fun U hU hW => ⟨rfl, by rw [hU], by rw [hU]; exact hPc, va_K.moved hW.alike hKc, hDc.weaken (fun _ _ _ _ => trivial), xE.warm hW hE⟩⟩ rfl rfl hl.1 rfl (lv_room (Nat.le_of_ble_eq_true rfl)) dX3_knownBySitting_20 ⟨Nat.le_of_ble_eq_true rfl, Nat.le_of_ble_eq_true rfl⟩) hS (fun q _ h => hFc q h) hFc (fun r_150 u t H1 locs ht hvm hw hB hz1 hk1 hS => ?_)
        obtain ⟨hP1, hK1, hD1⟩ := hB
        rw [ht] at hP1
        obtain ⟨hP, hD⟩ := va_join (wr := []) (w1 := [(h0, .inr (3, [.int h0_minute, .int h0_offered, .int h0_table, .int h0_sitting, .int h0_gullet, .long h0_knows]))]) hP hD [0] [] rfl rfl (by decide) (by decide) hk1 hFc hP1 hD1
        generalize H1 = H at hP hS ⊢
        have hP : va_P (dC, dI) classes [(h0, .inr (3, [.int h0_minute, .int h0_offered, .int h0_table, .int h0_sitting, .int h0_gullet, .long h0_knows]))] H := hP
        have hD : va_D A [(h0, .inr (3, [.int h0_minute, .int h0_offered, .int h0_table, .int h0_sitting, .int h0_gullet, .long h0_knows]))] := hD
        have hPc := hP.sub (ws' := []) [] rfl
        have hDc := hD.sub (ws' := []) [] (by decide) rfl
        have hKc := hK.sub (tys' := []) [] rfl
        have hFc := va_free (wc := []) hD hS hA [] rfl
        refine va_calli (va_runS (As := [.int r_150]) (rest := [.int y_80]) ⟨hx, hb, hml, hown, hq⟩ (j_bits l dC dI _ r_150 ) (va_cwS 1 hq (gT qw_997 qw_837 qw_137 qw_838) rfl rfl rfl (by decide +kernel) ⟨Nat.le_of_ble_eq_true rfl, Nat.le_of_ble_eq_true rfl⟩) ⟨fun a U g mk q => by obtain ⟨q0, q1, qP, qK, qD, qE⟩ := q; exact ⟨q0, q1, qP, va_K.moved (u := U) (U := U.calling g mk a) (Vm.Alike.refl U.vm) qK, qD, xE.same rfl qE⟩, fun U hU hW => ⟨rfl, by rw [hU], by rw [hU]; exact hPc, va_K.moved hW.alike hKc, hDc.weaken (fun _ _ _ _ => trivial), xE.warm hW hE⟩⟩ rfl rfl hl.1 rfl (lv_room (Nat.le_of_ble_eq_true rfl)) dX3_knownBySitting_23 ⟨Nat.le_of_ble_eq_true rfl, Nat.le_of_ble_eq_true rfl⟩) hS (fun q _ h => hFc q h) hFc (fun r_151 u t H1 locs ht hvm hw hB hz1 hk1 hS => ?_)
        obtain ⟨hP1, hK1, hD1⟩ := hB
        rw [ht] at hP1
        obtain ⟨hP, hD⟩ := va_join (wr := [(h0, .inr (3, [.int h0_minute, .int h0_offered, .int h0_table, .int h0_sitting, .int h0_gullet, .long h0_knows]))]) (w1 := []) hP hD [] [0] rfl rfl (by decide) (by decide) hk1 hFc hP1 hD1
        generalize H1 = H at hP hS ⊢
        have hP : va_P (dC, dI) classes [(h0, .inr (3, [.int h0_minute, .int h0_offered, .int h0_table, .int h0_sitting, .int h0_gullet, .long h0_knows]))] H := hP
        have hD : va_D A [(h0, .inr (3, [.int h0_minute, .int h0_offered, .int h0_table, .int h0_sitting, .int h0_gullet, .long h0_knows]))] := hD
        refine lv_goto (tgt := 30) hx hb dX3_knownBySitting_26 (by decide) ?_
        exact hJ30 _ _ _ ⟨r_151, _, hP, hD, hS, (lv_sub hl [0, 2] rfl), rfl⟩

set_option maxHeartbeats 4000000 in
set_option maxRecDepth 100000 in
/-- e_leaveOut -/
theorem e_leaveOut (l : Launch) (dC : Nat → ClassId) (dI : Nat → Nat → Nat) (sz : Nat) (h0 : Nat) (h0_minute : Int32) (h0_offered : Int32) (h0_table : Int32) (h0_sitting : Int32) (h0_gullet : Int32) (h0_knows : Int64) (x0 : Int32) : Met l yX3_leaveOut (.code yX3_leaveOut cX3_leaveOut 2 none :: wsA) ({ frames := 0, cells := 0, slots := 0, locals := 0 }) (va_Pc [.ref h0, .int x0] (fun U => U.heap.size = sz ∧ va_P (dC, dI) classes [(h0, .inr (3, [.int h0_minute, .int h0_offered, .int h0_table, .int h0_sitting, .int h0_gullet, .long h0_knows]))] U.heap ∧ va_K (dC, dI) classes [] U ∧ va_D (fun _ => True) [(h0, .inr (3, [.int h0_minute, .int h0_offered, .int h0_table, .int h0_sitting, .int h0_gullet, .long h0_knows]))] ∧ xE U)) (va_Qv (fun (_ : Unit) => True) (fun _ t => ∃ (yy_7 : Nat → Int32), va_P (dC, dI) classes [(h0, .inr (3, [.int h0_minute, .int (yy_7 0), .int (yy_7 1), .int h0_sitting, .int h0_gullet, .long h0_knows]))] t.heap ∧ va_K (dC, dI) classes [] t ∧ va_D (va_A [(h0, .inr (3, [.int h0_minute, .int h0_offered, .int h0_table, .int h0_sitting, .int h0_gullet, .long h0_knows]))] sz) [(h0, .inr (3, [.int h0_minute, .int (yy_7 0), .int (yy_7 1), .int h0_sitting, .int h0_gullet, .long h0_knows]))]) (va_A [(h0, .inr (3, [.int h0_minute, .int h0_offered, .int h0_table, .int h0_sitting, .int h0_gullet, .long h0_knows]))] sz)) 0 0 (va_A [(h0, .inr (3, [.int h0_minute, .int h0_offered, .int h0_table, .int h0_sitting, .int h0_gullet, .long h0_knows]))] sz) := by
  refine Met.ofW (cc := cX3_leaveOut) (maxL := 2) (ret := none) (by decide) rfl ?_
  intro p e s m args below meth c s₁ B hml hv
  obtain ⟨rfl, hsz, hP, hK, hD0, hE⟩ := hv
  have hx := B.exec
  have hb := B.bytes
  have hr := B.returns
  have hts := atoms_spec (ws := .code yX3_leaveOut cX3_leaveOut 2 none :: wsA) B.pre
  have hq : ∀ w ∈ wsA, w.before _ s = true := fun w h => hts w (List.mem_cons_of_mem _ h)
  have hown : s.vm.findClass RX3 = some m.cls := findClass_of_methodNamed B.named
  have hlocks := B.notSynchronized
  subst hsz
  have hD := hD0.self (sz := s.heap.size)
  generalize hAe : va_A [(h0, .inr (3, [.int h0_minute, .int h0_offered, .int h0_table, .int h0_sitting, .int h0_gullet, .long h0_knows]))] s.heap.size = A at hD ⊢
  have hA : ∀ q : Nat, s.heap.size ≤ q → A q := fun q h => by rw [← hAe]; exact Or.inr h
  have hS : va_S A s.heap s.heap [] := va_S.rf
  have hl := lv_entry ([.ref h0, .int x0]) (n := 2) (Nat.le_of_ble_eq_true rfl)
  rw [lg_entry_eq]
  generalize (lg_sl ([.ref h0, .int x0]) ++ List.replicate (2 - (lg_sl ([.ref h0, .int x0])).length) Slot.unset).toArray = ls at hl ⊢
  have hl : lv_has ls 2 [(0, .ref h0), (1, .int x0)] := hl
  refine lv_iload_n hx hb dX3_leaveOut_0 rfl (lv_at hl 1 rfl) ?_
  refine lv_iconst (v := (-1)) hx hb dX3_leaveOut_1 (by decide) ?_
  refine lv_icmp_eq (tgt := 39) hx hb dX3_leaveOut_2 (by decide) (fun c_8 => ?_) (fun c_8 => ?_)
  · refine W.widen (k := 0) (n := 0) (Nat.le_of_ble_eq_true rfl) (Nat.le_of_ble_eq_true rfl) ?_
    exact W.vret hx hb hr (fun t ht hW => ⟨⟨(), rfl, trivial, (fun i => [h0_offered, h0_table].getD i 0), by rw [ht]; exact hP, va_K.moved hW.alike hK, hD⟩, hS.F ht⟩) hS.2.2 dX3_leaveOut_39
  · refine lv_aload_n hx hb dX3_leaveOut_5 rfl (lv_at hl 0 rfl) ?_
    refine lv_dup hx hb dX3_leaveOut_6 rfl ?_
    refine va_get (D := (dC, dI)) (ci := 3) (v := .int h0_table) (C := RX3) (T := TX3) (N := 6) hx hb hq inX3 hown hK hP 0 rfl rfl 2 (by decide) (hq _ qw_275) (fun _ h9 => h9) rfl dX3_leaveOut_7 ?_
    refine lv_iconst (v := 1) hx hb dX3_leaveOut_10 (by decide) ?_
    refine lv_iload_n hx hb dX3_leaveOut_11 rfl (lv_at hl 1 rfl) ?_
    refine lv_ishl hx hb dX3_leaveOut_12 ?_
    refine lv_topi (fun y_9 ey_9 => ?_)
    refine lv_iconst (v := (-1)) hx hb dX3_leaveOut_13 (by decide) ?_
    refine lv_ixor hx hb dX3_leaveOut_14 ?_
    refine lv_topi (fun y_10 ey_10 => ?_)
    refine lv_iand hx hb dX3_leaveOut_15 ?_
    refine lv_topi (fun y_11 ey_11 => ?_)
    refine va_put (D := (dC, dI)) (ci := 3) (v := .int y_11) (ty := .int) (C := RX3) (T := TX3) (N := 6) hx hb hq inX3 tyX3 tyX3_ok nmX3 hown hK hP hD hS 0 rfl rfl 2 (by decide) (hq _ qw_275) (fun _ h9 => h9) rfl (by decide +kernel) rfl rfl (Nat.le_of_ble_eq_true rfl) dX3_leaveOut_16 (fun H locs hP hD hS => ?_)
    have hP : va_P (dC, dI) classes [(h0, .inr (3, [.int h0_minute, .int h0_offered, .int y_11, .int h0_sitting, .int h0_gullet, .long h0_knows]))] H := hP
    have hD : va_D A [(h0, .inr (3, [.int h0_minute, .int h0_offered, .int y_11, .int h0_sitting, .int h0_gullet, .long h0_knows]))] := hD
    refine lv_aload_n hx hb dX3_leaveOut_19 rfl (lv_at hl 0 rfl) ?_
    refine lv_aload_n hx hb dX3_leaveOut_20 rfl (lv_at hl 0 rfl) ?_
    refine va_get (D := (dC, dI)) (ci := 3) (v := .int h0_offered) (C := RX3) (T := TX3) (N := 6) hx hb hq inX3 hown hK hP 0 rfl rfl 1 (by decide) (hq _ qw_272) (fun _ h9 => h9) rfl dX3_leaveOut_21 ?_
    refine lv_iload_n hx hb dX3_leaveOut_24 rfl (lv_at hl 1 rfl) ?_
    refine W.cut (I := fun H locs g => ∃ (y_13 : Int32) (ls : Array Slot), va_P (dC, dI) classes [(h0, .inr (3, [.int h0_minute, .int h0_offered, .int y_11, .int h0_sitting, .int h0_gullet, .long h0_knows]))] H ∧ va_D A [(h0, .inr (3, [.int h0_minute, .int h0_offered, .int y_11, .int h0_sitting, .int h0_gullet, .long h0_knows]))] ∧ va_S A s.heap H locs ∧ lv_has ls 2 [] ∧ g = F0 m 36 ls [.int y_13, .ref h0]) (fun H locs g h => ?_) (fun hJ36 => ?_)
    · obtain ⟨y_13, ls, hP, hD, hS, hl, rfl⟩ := h
      refine va_put (D := (dC, dI)) (ci := 3) (v := .int y_13) (ty := .int) (C := RX3) (T := TX3) (N := 6) hx hb hq inX3 tyX3 tyX3_ok nmX3 hown hK hP hD hS 0 rfl rfl 1 (by decide) (hq _ qw_272) (fun _ h9 => h9) rfl (by decide +kernel) rfl rfl (Nat.le_of_ble_eq_true rfl) dX3_leaveOut_36 (fun H locs hP hD hS => ?_)
      have hP : va_P (dC, dI) classes [(h0, .inr (3, [.int h0_minute, .int y_13, .int y_11, .int h0_sitting, .int h0_gullet, .long h0_knows]))] H := hP
      have hD : va_D A [(h0, .inr (3, [.int h0_minute, .int y_13, .int y_11, .int h0_sitting, .int h0_gullet, .long h0_knows]))] := hD
      refine W.widen (k := 0) (n := 0) (Nat.le_of_ble_eq_true rfl) (Nat.le_of_ble_eq_true rfl) ?_
      exact W.vret hx hb hr (fun t ht hW => ⟨⟨(), rfl, trivial, (fun i => [y_13, y_11].getD i 0), by rw [ht]; exact hP, va_K.moved hW.alike hK, hD⟩, hS.F ht⟩) hS.2.2 dX3_leaveOut_39
    refine lv_icmp_ne (tgt := 32) hx hb dX3_leaveOut_25 (by decide) (fun c_14 => ?_) (fun c_14 => ?_)
    · refine lv_aload_n hx hb dX3_leaveOut_32 rfl (lv_at hl 0 rfl) ?_
      refine va_get (D := (dC, dI)) (ci := 3) (v := .int h0_offered) (C := RX3) (T := TX3) (N := 6) hx hb hq inX3 hown hK hP 0 rfl rfl 1 (by decide) (hq _ qw_272) (fun _ h9 => h9) rfl dX3_leaveOut_33 ?_
      exact hJ36 _ _ _ ⟨h0_offered, _, hP, hD, hS, (lv_sub hl [] rfl), rfl⟩
    · refine lv_iconst (v := (-1)) hx hb dX3_leaveOut_28 (by decide) ?_
      refine lv_goto (tgt := 36) hx hb dX3_leaveOut_29 (by decide) ?_
      exact hJ36 _ _ _ ⟨(-1), _, hP, hD, hS, (lv_sub hl [] rfl), rfl⟩

set_option maxHeartbeats 4000000 in
set_option maxRecDepth 100000 in
/-- e_bringUp -/
theorem e_bringUp (l : Launch) (dC : Nat → ClassId) (dI : Nat → Nat → Nat) (sz : Nat) (h0 : Nat) (h0_minute : Int32) (h0_offered : Int32) (h0_table : Int32) (h0_sitting : Int32) (h0_gullet : Int32) (h0_knows : Int64) (x0 : Int32) : Met l yX3_bringUp (.code yX3_bringUp cX3_bringUp 3 none :: wsA) ({ frames := 1, cells := 0, slots := 0, locals := 21 }) (va_Pc [.ref h0, .int x0] (fun U => U.heap.size = sz ∧ va_P (dC, dI) classes [(h0, .inr (3, [.int h0_minute, .int h0_offered, .int h0_table, .int h0_sitting, .int h0_gullet, .long h0_knows]))] U.heap ∧ va_K (dC, dI) classes [] U ∧ va_D (fun _ => True) [(h0, .inr (3, [.int h0_minute, .int h0_offered, .int h0_table, .int h0_sitting, .int h0_gullet, .long h0_knows]))] ∧ xE U)) (va_Qv (fun (_ : Unit) => True) (fun _ t => ∃ (yy_9 : Nat → Int32), va_P (dC, dI) classes [(h0, .inr (3, [.int h0_minute, .int h0_offered, .int (yy_9 0), .int h0_sitting, .int (yy_9 1), .long h0_knows]))] t.heap ∧ va_K (dC, dI) classes [] t ∧ va_D (va_A [(h0, .inr (3, [.int h0_minute, .int h0_offered, .int h0_table, .int h0_sitting, .int h0_gullet, .long h0_knows]))] sz) [(h0, .inr (3, [.int h0_minute, .int h0_offered, .int (yy_9 0), .int h0_sitting, .int (yy_9 1), .long h0_knows]))]) (va_A [(h0, .inr (3, [.int h0_minute, .int h0_offered, .int h0_table, .int h0_sitting, .int h0_gullet, .long h0_knows]))] sz)) 0 0 (va_A [(h0, .inr (3, [.int h0_minute, .int h0_offered, .int h0_table, .int h0_sitting, .int h0_gullet, .long h0_knows]))] sz) := by
  refine Met.ofW (cc := cX3_bringUp) (maxL := 3) (ret := none) (by decide) rfl ?_
  intro p e s m args below meth c s₁ B hml hv
  obtain ⟨rfl, hsz, hP, hK, hD0, hE⟩ := hv
  have hx := B.exec
  have hb := B.bytes
  have hr := B.returns
  have hts := atoms_spec (ws := .code yX3_bringUp cX3_bringUp 3 none :: wsA) B.pre
  have hq : ∀ w ∈ wsA, w.before _ s = true := fun w h => hts w (List.mem_cons_of_mem _ h)
  have hown : s.vm.findClass RX3 = some m.cls := findClass_of_methodNamed B.named
  have hlocks := B.notSynchronized
  subst hsz
  have hD := hD0.self (sz := s.heap.size)
  generalize hAe : va_A [(h0, .inr (3, [.int h0_minute, .int h0_offered, .int h0_table, .int h0_sitting, .int h0_gullet, .long h0_knows]))] s.heap.size = A at hD ⊢
  have hA : ∀ q : Nat, s.heap.size ≤ q → A q := fun q h => by rw [← hAe]; exact Or.inr h
  have hS : va_S A s.heap s.heap [] := va_S.rf
  have hl := lv_entry ([.ref h0, .int x0]) (n := 3) (Nat.le_of_ble_eq_true rfl)
  rw [lg_entry_eq]
  generalize (lg_sl ([.ref h0, .int x0]) ++ List.replicate (3 - (lg_sl ([.ref h0, .int x0])).length) Slot.unset).toArray = ls at hl ⊢
  have hl : lv_has ls 3 [(0, .ref h0), (1, .int x0)] := hl
  refine lv_aload_n hx hb dX3_bringUp_0 rfl (lv_at hl 0 rfl) ?_
  refine lv_iload_n hx hb dX3_bringUp_1 rfl (lv_at hl 1 rfl) ?_
  have hPc := hP.sub (ws' := [(h0, .inr (3, [.int h0_minute, .int h0_offered, .int h0_table, .int h0_sitting, .int h0_gullet, .long h0_knows]))]) [0] rfl
  have hDc := hD.sub (ws' := [(h0, .inr (3, [.int h0_minute, .int h0_offered, .int h0_table, .int h0_sitting, .int h0_gullet, .long h0_knows]))]) [0] (by decide) rfl
  have hKc := hK.sub (tys' := []) [] rfl
  have hFc := va_free (wc := [(h0, .inr (3, [.int h0_minute, .int h0_offered, .int h0_table, .int h0_sitting, .int h0_gullet, .long h0_knows]))]) hD hS hA [0] rfl
  refine va_calli (va_runV (As := [.int x0]) (rest := []) ⟨hx, hb, hml, hown, hq⟩ (e_dishIn l dC dI _ h0 h0_minute h0_offered h0_table h0_sitting h0_gullet h0_knows x0 ) (cwV 1 hq (gV qw_754 qw_755 qw_756 qw_125 qw_757) rfl rfl rfl (by decide +kernel) ⟨Nat.le_of_ble_eq_true rfl, Nat.le_of_ble_eq_true rfl⟩) ⟨fun a U g mk q => by obtain ⟨q0, q1, qP, qK, qD, qE⟩ := q; exact ⟨q0, q1, qP, va_K.moved (u := U) (U := U.calling g mk a) (Vm.Alike.refl U.vm) qK, qD, xE.same rfl qE⟩, va_recv hKc hPc (ci := 3) (q0 := 0) rfl rfl, fun U hU hW => ⟨rfl, by rw [hU], by rw [hU]; exact hPc, va_K.moved hW.alike hKc, hDc.weaken (fun _ _ _ _ => trivial), xE.warm hW hE⟩⟩ rfl rfl hl.1 rfl (lv_room (Nat.le_of_ble_eq_true rfl)) dX3_bringUp_2 ⟨Nat.le_of_ble_eq_true rfl, Nat.le_of_ble_eq_true rfl⟩) hS (fun q _ h => hFc q h) hFc (fun r_10 u t H1 locs ht hvm hw hB hz1 hk1 hS => ?_)
  obtain ⟨hP1, hK1, hD1⟩ := hB
  rw [ht] at hP1
  obtain ⟨hP, hD⟩ := va_join (wr := []) (w1 := [(h0, .inr (3, [.int h0_minute, .int h0_offered, .int h0_table, .int h0_sitting, .int h0_gullet, .long h0_knows]))]) hP hD [0] [] rfl rfl (by decide) (by decide) hk1 hFc hP1 hD1
  generalize H1 = H at hP hS ⊢
  have hP : va_P (dC, dI) classes [(h0, .inr (3, [.int h0_minute, .int h0_offered, .int h0_table, .int h0_sitting, .int h0_gullet, .long h0_knows]))] H := hP
  have hD : va_D A [(h0, .inr (3, [.int h0_minute, .int h0_offered, .int h0_table, .int h0_sitting, .int h0_gullet, .long h0_knows]))] := hD
  refine lv_istore_n (lv' := [(2, .int r_10), (0, .ref h0), (1, .int x0)]) hx hb dX3_bringUp_5 rfl hl (by decide) rfl (fun ls hl => ?_)
  refine lv_iload_n hx hb dX3_bringUp_6 rfl (lv_at hl 0 rfl) ?_
  refine lv_iconst (v := (-1)) hx hb dX3_bringUp_7 (by decide) ?_
  refine lv_icmp_eq (tgt := 40) hx hb dX3_bringUp_8 (by decide) (fun c_11 => ?_) (fun c_11 => ?_)
  · refine W.widen (k := 0) (n := 0) (Nat.le_of_ble_eq_true rfl) (Nat.le_of_ble_eq_true rfl) ?_
    exact W.vret hx hb hr (fun t ht hW => ⟨⟨(), rfl, trivial, (fun i => [h0_table, h0_gullet].getD i 0), by rw [ht]; exact hP, va_K.moved hW.alike hK, hD⟩, hS.F ht⟩) hS.2.2 dX3_bringUp_40
  · refine lv_aload_n hx hb dX3_bringUp_11 rfl (lv_at hl 1 rfl) ?_
    refine lv_dup hx hb dX3_bringUp_12 rfl ?_
    refine va_get (D := (dC, dI)) (ci := 3) (v := .int h0_gullet) (C := RX3) (T := TX3) (N := 6) hx hb hq inX3 hown hK hP 0 rfl rfl 4 (by decide) (hq _ qw_282) (fun _ h9 => h9) rfl dX3_bringUp_13 ?_
    refine lv_bipush (v := 15) hx hb dX3_bringUp_16 (by decide) ?_
    refine lv_iconst (v := 4) hx hb dX3_bringUp_18 (by decide) ?_
    refine lv_iload_n hx hb dX3_bringUp_19 rfl (lv_at hl 2 rfl) ?_
    refine lv_imul hx hb dX3_bringUp_20 ?_
    refine lv_topi (fun y_12 ey_12 => ?_)
    refine lv_ishl hx hb dX3_bringUp_21 ?_
    refine lv_topi (fun y_13 ey_13 => ?_)
    refine lv_iconst (v := (-1)) hx hb dX3_bringUp_22 (by decide) ?_
    refine lv_ixor hx hb dX3_bringUp_23 ?_
    refine lv_topi (fun y_14 ey_14 => ?_)
    refine lv_iand hx hb dX3_bringUp_24 ?_
    refine lv_topi (fun y_15 ey_15 => ?_)
    refine va_put (D := (dC, dI)) (ci := 3) (v := .int y_15) (ty := .int) (C := RX3) (T := TX3) (N := 6) hx hb hq inX3 tyX3 tyX3_ok nmX3 hown hK hP hD hS 0 rfl rfl 4 (by decide) (hq _ qw_282) (fun _ h9 => h9) rfl (by decide +kernel) rfl rfl (Nat.le_of_ble_eq_true rfl) dX3_bringUp_25 (fun H locs hP hD hS => ?_)
    have hP : va_P (dC, dI) classes [(h0, .inr (3, [.int h0_minute, .int h0_offered, .int h0_table, .int h0_sitting, .int y_15, .long h0_knows]))] H := hP
    have hD : va_D A [(h0, .inr (3, [.int h0_minute, .int h0_offered, .int h0_table, .int h0_sitting, .int y_15, .long h0_knows]))] := hD
    refine lv_aload_n hx hb dX3_bringUp_28 rfl (lv_at hl 1 rfl) ?_
    refine lv_dup hx hb dX3_bringUp_29 rfl ?_
    refine va_get (D := (dC, dI)) (ci := 3) (v := .int h0_table) (C := RX3) (T := TX3) (N := 6) hx hb hq inX3 hown hK hP 0 rfl rfl 2 (by decide) (hq _ qw_275) (fun _ h9 => h9) rfl dX3_bringUp_30 ?_
    refine lv_iconst (v := 1) hx hb dX3_bringUp_33 (by decide) ?_
    refine lv_iload_n hx hb dX3_bringUp_34 rfl (lv_at hl 0 rfl) ?_
    refine lv_ishl hx hb dX3_bringUp_35 ?_
    refine lv_topi (fun y_16 ey_16 => ?_)
    refine lv_ior hx hb dX3_bringUp_36 ?_
    refine lv_topi (fun y_17 ey_17 => ?_)
    refine va_put (D := (dC, dI)) (ci := 3) (v := .int y_17) (ty := .int) (C := RX3) (T := TX3) (N := 6) hx hb hq inX3 tyX3 tyX3_ok nmX3 hown hK hP hD hS 0 rfl rfl 2 (by decide) (hq _ qw_275) (fun _ h9 => h9) rfl (by decide +kernel) rfl rfl (Nat.le_of_ble_eq_true rfl) dX3_bringUp_37 (fun H locs hP hD hS => ?_)
    have hP : va_P (dC, dI) classes [(h0, .inr (3, [.int h0_minute, .int h0_offered, .int y_17, .int h0_sitting, .int y_15, .long h0_knows]))] H := hP
    have hD : va_D A [(h0, .inr (3, [.int h0_minute, .int h0_offered, .int y_17, .int h0_sitting, .int y_15, .long h0_knows]))] := hD
    refine W.widen (k := 0) (n := 0) (Nat.le_of_ble_eq_true rfl) (Nat.le_of_ble_eq_true rfl) ?_
    exact W.vret hx hb hr (fun t ht hW => ⟨⟨(), rfl, trivial, (fun i => [y_17, y_15].getD i 0), by rw [ht]; exact hP, va_K.moved hW.alike hK, hD⟩, hS.F ht⟩) hS.2.2 dX3_bringUp_40
