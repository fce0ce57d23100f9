theorem qw_40 : (.selects RX12 yX12_readsAll yX12_readsAll : Cond) ∈ wsA := mA (i := 40) (by decide +kernel) rfl
theorem qw_41 : (.selects RX12 yX12_clauseHere yX12_clauseHere : Cond) ∈ wsA := mA (i := 41) (by decide +kernel) rfl
theorem qw_42 : (.selects RX12 yX12_see yX12_see : Cond) ∈ wsA := mA (i := 42) (by decide +kernel) rfl
theorem qw_43 : (.selects RX12 yX12_isDinnerWord yX12_isDinnerWord : Cond) ∈ wsA := mA (i := 43) (by decide +kernel) rfl
theorem qw_44 : (.selects RX12 yX12_isWord yX12_isWord : Cond) ∈ wsA := mA (i := 44) (by decide +kernel) rfl
theorem qw_45 : (.selects RX12 yX12_isLetter yX12_isLetter : Cond) ∈ wsA := mA (i := 45) (by decide +kernel) rfl
theorem qw_46 : (.selects RX12 yX12_fails yX12_fails : Cond) ∈ wsA := mA (i := 46) (by decide +kernel) rfl
theorem qw_1168 : (.fieldLink RX12 90 "SpokenBiteModel" "next" "I" : Cond) ∈ wsA := mA (i := 1168) (by decide +kernel) rfl
theorem qw_1169 : (.fieldLink RX12 87 "SpokenBiteModel" "wrong" "I" : Cond) ∈ wsA := mA (i := 1169) (by decide +kernel) rfl
theorem qw_1171 : (.fieldLink RX12 142 "SpokenBiteModel" "text" "I" : Cond) ∈ wsA := mA (i := 1171) (by decide +kernel) rfl
theorem qw_1172 : (.fieldLink RX12 145 "SpokenBiteModel" "made" "I" : Cond) ∈ wsA := mA (i := 1172) (by decide +kernel) rfl
theorem qw_1174 : (.fieldLink RX12 241 "SpokenBiteModel" "lines" "I" : Cond) ∈ wsA := mA (i := 1174) (by decide +kernel) rfl
theorem qw_1307 : (.methodLink RX12 256 yX12_readsAll : Cond) ∈ wsA := mA (i := 1307) (by decide +kernel) rfl
theorem qw_1309 : (.instanceMethod yX12_readsAll : Cond) ∈ wsA := mA (i := 1309) (by decide +kernel) rfl
theorem qw_1310 : (.code yX12_readsAll cX12_readsAll 2 (some .boolean) : Cond) ∈ wsA := mA (i := 1310) (by decide +kernel) rfl
theorem qw_1311 : (.methodLink RX12 250 yX12_clauseHere : Cond) ∈ wsA := mA (i := 1311) (by decide +kernel) rfl
theorem qw_1313 : (.instanceMethod yX12_clauseHere : Cond) ∈ wsA := mA (i := 1313) (by decide +kernel) rfl
theorem qw_1314 : (.code yX12_clauseHere cX12_clauseHere 3 (some .boolean) : Cond) ∈ wsA := mA (i := 1314) (by decide +kernel) rfl
theorem qw_1315 : (.methodLink RX12 93 yX12_see : Cond) ∈ wsA := mA (i := 1315) (by decide +kernel) rfl
theorem qw_1317 : (.instanceMethod yX12_see : Cond) ∈ wsA := mA (i := 1317) (by decide +kernel) rfl
theorem qw_1318 : (.code yX12_see cX12_see 1 (some .int) : Cond) ∈ wsA := mA (i := 1318) (by decide +kernel) rfl
theorem qw_1319 : (.methodLink RX12 236 yX12_isDinnerWord : Cond) ∈ wsA := mA (i := 1319) (by decide +kernel) rfl
theorem qw_1321 : (.instanceMethod yX12_isDinnerWord : Cond) ∈ wsA := mA (i := 1321) (by decide +kernel) rfl
theorem qw_1322 : (.code yX12_isDinnerWord cX12_isDinnerWord 1 (some .boolean) : Cond) ∈ wsA := mA (i := 1322) (by decide +kernel) rfl
theorem qw_1323 : (.constantLong RX12 218 (110403987072370) : Cond) ∈ wsA := mA (i := 1323) (by decide +kernel) rfl
theorem qw_1324 : (.methodLink RX12 101 yX12_isWord : Cond) ∈ wsA := mA (i := 1324) (by decide +kernel) rfl
theorem qw_1326 : (.instanceMethod yX12_isWord : Cond) ∈ wsA := mA (i := 1326) (by decide +kernel) rfl
theorem qw_1327 : (.code yX12_isWord cX12_isWord 6 (some .boolean) : Cond) ∈ wsA := mA (i := 1327) (by decide +kernel) rfl
theorem qw_1328 : (.methodLink RX12 97 yX12_isLetter : Cond) ∈ wsA := mA (i := 1328) (by decide +kernel) rfl
theorem qw_1330 : (.instanceMethod yX12_isLetter : Cond) ∈ wsA := mA (i := 1330) (by decide +kernel) rfl
theorem qw_1331 : (.code yX12_isLetter cX12_isLetter 2 (some .boolean) : Cond) ∈ wsA := mA (i := 1331) (by decide +kernel) rfl
theorem qw_1332 : (.constantLong RX12 122 (1684632424) : Cond) ∈ wsA := mA (i := 1332) (by decide +kernel) rfl
theorem qw_1333 : (.constantLong RX12 226 (444351214452) : Cond) ∈ wsA := mA (i := 1333) (by decide +kernel) rfl
theorem qw_1334 : (.constantLong RX12 234 (427020088168) : Cond) ∈ wsA := mA (i := 1334) (by decide +kernel) rfl
theorem qw_1335 : (.constantLong RX12 239 (6644084) : Cond) ∈ wsA := mA (i := 1335) (by decide +kernel) rfl
theorem qw_1336 : (.methodLink RX12 111 yX12_fails : Cond) ∈ wsA := mA (i := 1336) (by decide +kernel) rfl
theorem qw_1338 : (.instanceMethod yX12_fails : Cond) ∈ wsA := mA (i := 1338) (by decide +kernel) rfl
theorem qw_1339 : (.code yX12_fails cX12_fails 3 (some .boolean) : Cond) ∈ wsA := mA (i := 1339) (by decide +kernel) rfl
theorem dX12_clauseHere_0 : decode cX12_clauseHere 0 = .ok (.aload_n 0, 1) := by decide +kernel
theorem dX12_clauseHere_1 : decode cX12_clauseHere 1 = .ok (.invokevirtual 93, 3) := by decide +kernel
theorem dX12_clauseHere_4 : decode cX12_clauseHere 4 = .ok (.pop, 1) := by decide +kernel
theorem dX12_clauseHere_5 : decode cX12_clauseHere 5 = .ok (.aload_n 0, 1) := by decide +kernel
theorem dX12_clauseHere_6 : decode cX12_clauseHere 6 = .ok (.getfield 90, 3) := by decide +kernel
theorem dX12_clauseHere_9 : decode cX12_clauseHere 9 = .ok (.istore_n 1, 1) := by decide +kernel
theorem dX12_clauseHere_10 : decode cX12_clauseHere 10 = .ok (.aload_n 0, 1) := by decide +kernel
theorem dX12_clauseHere_11 : decode cX12_clauseHere 11 = .ok (.getfield 142, 3) := by decide +kernel
theorem dX12_clauseHere_14 : decode cX12_clauseHere 14 = .ok (.bipush 6, 2) := by decide +kernel
theorem dX12_clauseHere_16 : decode cX12_clauseHere 16 = .ok (.if_icmp .ne 7, 3) := by decide +kernel
theorem dX12_clauseHere_19 : decode cX12_clauseHere 19 = .ok (.iconst 1, 1) := by decide +kernel
theorem dX12_clauseHere_20 : decode cX12_clauseHere 20 = .ok (.goto 4, 3) := by decide +kernel
theorem dX12_clauseHere_23 : decode cX12_clauseHere 23 = .ok (.iconst 0, 1) := by decide +kernel
theorem dX12_clauseHere_24 : decode cX12_clauseHere 24 = .ok (.istore_n 2, 1) := by decide +kernel
theorem dX12_clauseHere_25 : decode cX12_clauseHere 25 = .ok (.iload_n 2, 1) := by decide +kernel
theorem dX12_clauseHere_26 : decode cX12_clauseHere 26 = .ok (.ifCond .eq 13, 3) := by decide +kernel
theorem dX12_clauseHere_29 : decode cX12_clauseHere 29 = .ok (.aload_n 0, 1) := by decide +kernel
theorem dX12_clauseHere_30 : decode cX12_clauseHere 30 = .ok (.invokevirtual 236, 3) := by decide +kernel
theorem dX12_clauseHere_33 : decode cX12_clauseHere 33 = .ok (.ifCond .ne 23, 3) := by decide +kernel
theorem dX12_clauseHere_36 : decode cX12_clauseHere 36 = .ok (.goto 13, 3) := by decide +kernel
theorem dX12_clauseHere_39 : decode cX12_clauseHere 39 = .ok (.aload_n 0, 1) := by decide +kernel
theorem dX12_clauseHere_40 : decode cX12_clauseHere 40 = .ok (.ldc2_w 239, 3) := by decide +kernel
theorem dX12_clauseHere_43 : decode cX12_clauseHere 43 = .ok (.invokevirtual 101, 3) := by decide +kernel
theorem dX12_clauseHere_46 : decode cX12_clauseHere 46 = .ok (.ifCond .ne 10, 3) := by decide +kernel
theorem dX12_clauseHere_49 : decode cX12_clauseHere 49 = .ok (.aload_n 0, 1) := by decide +kernel
theorem dX12_clauseHere_50 : decode cX12_clauseHere 50 = .ok (.iconst 0, 1) := by decide +kernel
theorem dX12_clauseHere_51 : decode cX12_clauseHere 51 = .ok (.iload_n 1, 1) := by decide +kernel
theorem dX12_clauseHere_52 : decode cX12_clauseHere 52 = .ok (.invokevirtual 111, 3) := by decide +kernel
theorem dX12_clauseHere_55 : decode cX12_clauseHere 55 = .ok (.ireturn, 1) := by decide +kernel
theorem dX12_dinner_0 : decode cX12_dinner 0 = .ok (.aload_n 0, 1) := by decide +kernel
theorem dX12_dinner_1 : decode cX12_dinner 1 = .ok (.bipush 6, 2) := by decide +kernel
theorem dX12_dinner_3 : decode cX12_dinner 3 = .ok (.putfield 142, 3) := by decide +kernel
theorem dX12_dinner_6 : decode cX12_dinner 6 = .ok (.iconst 0, 1) := by decide +kernel
theorem dX12_dinner_7 : decode cX12_dinner 7 = .ok (.istore_n 1, 1) := by decide +kernel
theorem dX12_dinner_8 : decode cX12_dinner 8 = .ok (.iload_n 1, 1) := by decide +kernel
theorem dX12_dinner_9 : decode cX12_dinner 9 = .ok (.bipush 59, 2) := by decide +kernel
theorem dX12_dinner_11 : decode cX12_dinner 11 = .ok (.if_icmp .ge 16, 3) := by decide +kernel
theorem dX12_dinner_14 : decode cX12_dinner 14 = .ok (.aload_n 0, 1) := by decide +kernel
theorem dX12_dinner_15 : decode cX12_dinner 15 = .ok (.getfield 26, 3) := by decide +kernel
theorem dX12_dinner_18 : decode cX12_dinner 18 = .ok (.iload_n 1, 1) := by decide +kernel
theorem dX12_dinner_19 : decode cX12_dinner 19 = .ok (.iconst 0, 1) := by decide +kernel
theorem dX12_dinner_20 : decode cX12_dinner 20 = .ok (.iastore, 1) := by decide +kernel
theorem dX12_dinner_21 : decode cX12_dinner 21 = .ok (.iinc 1 1, 3) := by decide +kernel
theorem dX12_dinner_24 : decode cX12_dinner 24 = .ok (.goto (-16), 3) := by decide +kernel
theorem dX12_dinner_27 : decode cX12_dinner 27 = .ok (.aload_n 0, 1) := by decide +kernel
theorem dX12_dinner_28 : decode cX12_dinner 28 = .ok (.invokevirtual 256, 3) := by decide +kernel
theorem dX12_dinner_31 : decode cX12_dinner 31 = .ok (.ifCond .ne 11, 3) := by decide +kernel
theorem dX12_dinner_34 : decode cX12_dinner 34 = .ok (.bipush (-2), 2) := by decide +kernel
theorem dX12_dinner_36 : decode cX12_dinner 36 = .ok (.aload_n 0, 1) := by decide +kernel
theorem dX12_dinner_37 : decode cX12_dinner 37 = .ok (.getfield 87, 3) := by decide +kernel
theorem dX12_dinner_40 : decode cX12_dinner 40 = .ok (.isub, 1) := by decide +kernel
theorem dX12_dinner_41 : decode cX12_dinner 41 = .ok (.ireturn, 1) := by decide +kernel
theorem dX12_fails_0 : decode cX12_fails 0 = .ok (.aload_n 0, 1) := by decide +kernel
theorem dX12_fails_1 : decode cX12_fails 1 = .ok (.getfield 87, 3) := by decide +kernel
theorem dX12_fails_4 : decode cX12_fails 4 = .ok (.ifCond .ne 15, 3) := by decide +kernel
theorem dX12_fails_7 : decode cX12_fails 7 = .ok (.aload_n 0, 1) := by decide +kernel
theorem dX12_fails_8 : decode cX12_fails 8 = .ok (.iconst 1, 1) := by decide +kernel
theorem dX12_fails_9 : decode cX12_fails 9 = .ok (.bipush 8, 2) := by decide +kernel
theorem dX12_fails_11 : decode cX12_fails 11 = .ok (.iload_n 2, 1) := by decide +kernel
theorem dX12_fails_12 : decode cX12_fails 12 = .ok (.imul, 1) := by decide +kernel
theorem dX12_fails_13 : decode cX12_fails 13 = .ok (.iadd, 1) := by decide +kernel
theorem dX12_fails_14 : decode cX12_fails 14 = .ok (.iload_n 1, 1) := by decide +kernel
theorem dX12_fails_15 : decode cX12_fails 15 = .ok (.iadd, 1) := by decide +kernel
theorem dX12_fails_16 : decode cX12_fails 16 = .ok (.putfield 87, 3) := by decide +kernel
theorem dX12_fails_19 : decode cX12_fails 19 = .ok (.iconst 0, 1) := by decide +kernel
theorem dX12_fails_20 : decode cX12_fails 20 = .ok (.ireturn, 1) := by decide +kernel
theorem dX12_isDinnerWord_0 : decode cX12_isDinnerWord 0 = .ok (.aload_n 0, 1) := by decide +kernel
theorem dX12_isDinnerWord_1 : decode cX12_isDinnerWord 1 = .ok (.ldc2_w 218, 3) := by decide +kernel
theorem dX12_isDinnerWord_4 : decode cX12_isDinnerWord 4 = .ok (.invokevirtual 101, 3) := by decide +kernel
theorem dX12_isDinnerWord_7 : decode cX12_isDinnerWord 7 = .ok (.ifCond .ne 33, 3) := by decide +kernel
theorem dX12_isDinnerWord_10 : decode cX12_isDinnerWord 10 = .ok (.aload_n 0, 1) := by decide +kernel
theorem dX12_isDinnerWord_11 : decode cX12_isDinnerWord 11 = .ok (.ldc2_w 122, 3) := by decide +kernel
theorem dX12_isDinnerWord_14 : decode cX12_isDinnerWord 14 = .ok (.invokevirtual 101, 3) := by decide +kernel
theorem dX12_isDinnerWord_17 : decode cX12_isDinnerWord 17 = .ok (.ifCond .ne 23, 3) := by decide +kernel
theorem dX12_isDinnerWord_20 : decode cX12_isDinnerWord 20 = .ok (.aload_n 0, 1) := by decide +kernel
theorem dX12_isDinnerWord_21 : decode cX12_isDinnerWord 21 = .ok (.ldc2_w 226, 3) := by decide +kernel
theorem dX12_isDinnerWord_24 : decode cX12_isDinnerWord 24 = .ok (.invokevirtual 101, 3) := by decide +kernel
theorem dX12_isDinnerWord_27 : decode cX12_isDinnerWord 27 = .ok (.ifCond .ne 13, 3) := by decide +kernel
theorem dX12_isDinnerWord_30 : decode cX12_isDinnerWord 30 = .ok (.aload_n 0, 1) := by decide +kernel
theorem dX12_isDinnerWord_31 : decode cX12_isDinnerWord 31 = .ok (.ldc2_w 234, 3) := by decide +kernel
theorem dX12_isDinnerWord_34 : decode cX12_isDinnerWord 34 = .ok (.invokevirtual 101, 3) := by decide +kernel
theorem dX12_isDinnerWord_37 : decode cX12_isDinnerWord 37 = .ok (.ifCond .eq 7, 3) := by decide +kernel
theorem dX12_isDinnerWord_44 : decode cX12_isDinnerWord 44 = .ok (.iconst 0, 1) := by decide +kernel
theorem dX12_isDinnerWord_45 : decode cX12_isDinnerWord 45 = .ok (.ireturn, 1) := by decide +kernel
theorem dX12_isLetter_0 : decode cX12_isLetter 0 = .ok (.iload_n 1, 1) := by decide +kernel
theorem dX12_isLetter_1 : decode cX12_isLetter 1 = .ok (.aload_n 0, 1) := by decide +kernel
theorem dX12_isLetter_2 : decode cX12_isLetter 2 = .ok (.getfield 80, 3) := by decide +kernel
theorem dX12_isLetter_5 : decode cX12_isLetter 5 = .ok (.if_icmp .ge 29, 3) := by decide +kernel
theorem dX12_isLetter_34 : decode cX12_isLetter 34 = .ok (.iconst 0, 1) := by decide +kernel
theorem dX12_isLetter_35 : decode cX12_isLetter 35 = .ok (.ireturn, 1) := by decide +kernel
theorem dX12_isWord_0 : decode cX12_isWord 0 = .ok (.aload_n 0, 1) := by decide +kernel
theorem dX12_isWord_1 : decode cX12_isWord 1 = .ok (.invokevirtual 93, 3) := by decide +kernel
theorem dX12_isWord_4 : decode cX12_isWord 4 = .ok (.pop, 1) := by decide +kernel
theorem dX12_isWord_5 : decode cX12_isWord 5 = .ok (.lconst 0, 1) := by decide +kernel
theorem dX12_isWord_6 : decode cX12_isWord 6 = .ok (.lstore_n 3, 1) := by decide +kernel
theorem dX12_isWord_7 : decode cX12_isWord 7 = .ok (.iconst 0, 1) := by decide +kernel
theorem dX12_isWord_8 : decode cX12_isWord 8 = .ok (.istore 5, 2) := by decide +kernel
theorem dX12_isWord_10 : decode cX12_isWord 10 = .ok (.aload_n 0, 1) := by decide +kernel
theorem dX12_isWord_11 : decode cX12_isWord 11 = .ok (.aload_n 0, 1) := by decide +kernel
theorem dX12_isWord_12 : decode cX12_isWord 12 = .ok (.getfield 90, 3) := by decide +kernel
theorem dX12_isWord_15 : decode cX12_isWord 15 = .ok (.iload 5, 2) := by decide +kernel
theorem dX12_isWord_17 : decode cX12_isWord 17 = .ok (.iadd, 1) := by decide +kernel
theorem dX12_isWord_18 : decode cX12_isWord 18 = .ok (.invokevirtual 97, 3) := by decide +kernel
theorem dX12_isWord_21 : decode cX12_isWord 21 = .ok (.ifCond .eq 35, 3) := by decide +kernel
theorem dX12_isWord_56 : decode cX12_isWord 56 = .ok (.iload 5, 2) := by decide +kernel
theorem dX12_isWord_58 : decode cX12_isWord 58 = .ok (.ifCond .le 20, 3) := by decide +kernel
theorem dX12_isWord_78 : decode cX12_isWord 78 = .ok (.iconst 0, 1) := by decide +kernel
theorem dX12_isWord_79 : decode cX12_isWord 79 = .ok (.ireturn, 1) := by decide +kernel
theorem dX12_readsAll_0 : decode cX12_readsAll 0 = .ok (.aload_n 0, 1) := by decide +kernel
theorem dX12_readsAll_1 : decode cX12_readsAll 1 = .ok (.getfield 17, 3) := by decide +kernel
theorem dX12_readsAll_4 : decode cX12_readsAll 4 = .ok (.aload_n 0, 1) := by decide +kernel
theorem dX12_readsAll_5 : decode cX12_readsAll 5 = .ok (.getfield 142, 3) := by decide +kernel
theorem dX12_readsAll_8 : decode cX12_readsAll 8 = .ok (.iconst 0, 1) := by decide +kernel
theorem dX12_readsAll_9 : decode cX12_readsAll 9 = .ok (.iastore, 1) := by decide +kernel
theorem dX12_readsAll_10 : decode cX12_readsAll 10 = .ok (.aload_n 0, 1) := by decide +kernel
theorem dX12_readsAll_11 : decode cX12_readsAll 11 = .ok (.iconst 0, 1) := by decide +kernel
theorem dX12_readsAll_12 : decode cX12_readsAll 12 = .ok (.putfield 241, 3) := by decide +kernel
theorem dX12_readsAll_15 : decode cX12_readsAll 15 = .ok (.aload_n 0, 1) := by decide +kernel
theorem dX12_readsAll_16 : decode cX12_readsAll 16 = .ok (.iconst 0, 1) := by decide +kernel
theorem dX12_readsAll_17 : decode cX12_readsAll 17 = .ok (.putfield 90, 3) := by decide +kernel
theorem dX12_readsAll_20 : decode cX12_readsAll 20 = .ok (.aload_n 0, 1) := by decide +kernel
theorem dX12_readsAll_21 : decode cX12_readsAll 21 = .ok (.iconst 0, 1) := by decide +kernel
theorem dX12_readsAll_22 : decode cX12_readsAll 22 = .ok (.putfield 87, 3) := by decide +kernel
theorem dX12_readsAll_25 : decode cX12_readsAll 25 = .ok (.aload_n 0, 1) := by decide +kernel
theorem dX12_readsAll_26 : decode cX12_readsAll 26 = .ok (.iconst 0, 1) := by decide +kernel
theorem dX12_readsAll_27 : decode cX12_readsAll 27 = .ok (.putfield 145, 3) := by decide +kernel
theorem dX12_readsAll_30 : decode cX12_readsAll 30 = .ok (.aload_n 0, 1) := by decide +kernel
theorem dX12_readsAll_31 : decode cX12_readsAll 31 = .ok (.invokevirtual 250, 3) := by decide +kernel
theorem dX12_readsAll_34 : decode cX12_readsAll 34 = .ok (.istore_n 1, 1) := by decide +kernel
theorem dX12_readsAll_35 : decode cX12_readsAll 35 = .ok (.iload_n 1, 1) := by decide +kernel
theorem dX12_readsAll_36 : decode cX12_readsAll 36 = .ok (.ifCond .eq 30, 3) := by decide +kernel
theorem dX12_readsAll_66 : decode cX12_readsAll 66 = .ok (.iload_n 1, 1) := by decide +kernel
theorem dX12_readsAll_67 : decode cX12_readsAll 67 = .ok (.ifCond .eq 21, 3) := by decide +kernel
theorem dX12_readsAll_88 : decode cX12_readsAll 88 = .ok (.aload_n 0, 1) := by decide +kernel
theorem dX12_readsAll_89 : decode cX12_readsAll 89 = .ok (.iconst 0, 1) := by decide +kernel
theorem dX12_readsAll_90 : decode cX12_readsAll 90 = .ok (.putfield 80, 3) := by decide +kernel
theorem dX12_readsAll_93 : decode cX12_readsAll 93 = .ok (.aload_n 0, 1) := by decide +kernel
theorem dX12_readsAll_94 : decode cX12_readsAll 94 = .ok (.getfield 87, 3) := by decide +kernel
theorem dX12_readsAll_97 : decode cX12_readsAll 97 = .ok (.ifCond .ne 7, 3) := by decide +kernel
theorem dX12_readsAll_104 : decode cX12_readsAll 104 = .ok (.iconst 0, 1) := by decide +kernel
theorem dX12_readsAll_105 : decode cX12_readsAll 105 = .ok (.ireturn, 1) := by decide +kernel
theorem dX12_rule_0 : decode cX12_rule 0 = .ok (.aload_n 0, 1) := by decide +kernel
theorem dX12_rule_1 : decode cX12_rule 1 = .ok (.getfield 253, 3) := by decide +kernel
theorem dX12_rule_4 : decode cX12_rule 4 = .ok (.bipush 6, 2) := by decide +kernel
theorem dX12_rule_6 : decode cX12_rule 6 = .ok (.if_icmp .ne 5, 3) := by decide +kernel
theorem dX12_rule_11 : decode cX12_rule 11 = .ok (.aload_n 0, 1) := by decide +kernel
theorem dX12_rule_12 : decode cX12_rule 12 = .ok (.aload_n 0, 1) := by decide +kernel
theorem dX12_rule_13 : decode cX12_rule 13 = .ok (.getfield 253, 3) := by decide +kernel
theorem dX12_rule_16 : decode cX12_rule 16 = .ok (.putfield 142, 3) := by decide +kernel
theorem dX12_rule_19 : decode cX12_rule 19 = .ok (.aload_n 0, 1) := by decide +kernel
theorem dX12_rule_20 : decode cX12_rule 20 = .ok (.getfield 23, 3) := by decide +kernel
theorem dX12_rule_23 : decode cX12_rule 23 = .ok (.aload_n 0, 1) := by decide +kernel
theorem dX12_rule_24 : decode cX12_rule 24 = .ok (.getfield 142, 3) := by decide +kernel
theorem dX12_rule_27 : decode cX12_rule 27 = .ok (.iconst 0, 1) := by decide +kernel
theorem dX12_rule_28 : decode cX12_rule 28 = .ok (.iastore, 1) := by decide +kernel
theorem dX12_rule_29 : decode cX12_rule 29 = .ok (.aload_n 0, 1) := by decide +kernel
theorem dX12_rule_30 : decode cX12_rule 30 = .ok (.invokevirtual 256, 3) := by decide +kernel
theorem dX12_rule_33 : decode cX12_rule 33 = .ok (.ifCond .ne 11, 3) := by decide +kernel
theorem dX12_rule_36 : decode cX12_rule 36 = .ok (.bipush (-2), 2) := by decide +kernel
theorem dX12_rule_38 : decode cX12_rule 38 = .ok (.aload_n 0, 1) := by decide +kernel
theorem dX12_rule_39 : decode cX12_rule 39 = .ok (.getfield 87, 3) := by decide +kernel
theorem dX12_rule_42 : decode cX12_rule 42 = .ok (.isub, 1) := by decide +kernel
theorem dX12_rule_43 : decode cX12_rule 43 = .ok (.ireturn, 1) := by decide +kernel
theorem dX12_see_0 : decode cX12_see 0 = .ok (.aload_n 0, 1) := by decide +kernel
theorem dX12_see_1 : decode cX12_see 1 = .ok (.getfield 90, 3) := by decide +kernel
theorem dX12_see_4 : decode cX12_see 4 = .ok (.aload_n 0, 1) := by decide +kernel
theorem dX12_see_5 : decode cX12_see 5 = .ok (.getfield 80, 3) := by decide +kernel
theorem dX12_see_8 : decode cX12_see 8 = .ok (.if_icmp .ge 30, 3) := by decide +kernel
theorem dX12_see_38 : decode cX12_see 38 = .ok (.aload_n 0, 1) := by decide +kernel
theorem dX12_see_39 : decode cX12_see 39 = .ok (.getfield 90, 3) := by decide +kernel
theorem dX12_see_42 : decode cX12_see 42 = .ok (.aload_n 0, 1) := by decide +kernel
theorem dX12_see_43 : decode cX12_see 43 = .ok (.getfield 80, 3) := by decide +kernel
theorem dX12_see_46 : decode cX12_see 46 = .ok (.if_icmp .ge 19, 3) := by decide +kernel
theorem dX12_see_65 : decode cX12_see 65 = .ok (.iconst (-1), 1) := by decide +kernel
theorem dX12_see_66 : decode cX12_see 66 = .ok (.ireturn, 1) := by decide +kernel
set_option maxHeartbeats 4000000 in
set_option maxRecDepth 100000 in
/-- c_M_see -/
theorem c_M_see (l : Launch) (dC : Nat → ClassId) (dI : Nat → Nat → Nat) (sz : Nat) (h0 : Nat) (s0 : Nat) (s3 : Nat) (s4 : Nat) (s5 : Nat) (s6 : Nat) (s7 : Nat) (s15 : Nat) (s17 : Nat) (s19 : Nat) (s20 : Nat) (s27 : Nat) (s29 : Nat) (s30 : Nat) (s31 : Nat) (s35 : Nat) (s36 : Nat) (s37 : Nat) (s39 : Nat) (s40 : Nat) (s41 : Nat) (s42 : Nat) (tx : Int32) : Met l yX12_see (.code yX12_see cX12_see 1 (some .int) :: wsA) ({ frames := 0, cells := 0, slots := 0, locals := 0 }) (va_Pc [.ref h0] (fun U => U.heap.size = sz ∧ va_P (dC, dI) classes [(h0, .inr (12, [.ref s0, .int 0, .int 0, .ref s3, .ref s4, .ref s5, .ref s6, .ref s7, .int 0, .int 0, .int 0, .int tx, .int 0, .int 0, .int 0, .ref s15, .int 0, .ref s17, .int 0, .ref s19, .ref s20, .int (-1), .int 0, .int 0, .int 0, .int 0, .int 0, .ref s27, .int 0, .ref s29, .ref s30, .ref s31, .int 0, .int 0, .int 0, .ref s35, .ref s36, .ref s37, .long 0, .ref s39, .ref s40, .ref s41, .ref s42]))] U.heap ∧ va_K (dC, dI) classes [] U ∧ va_D (fun _ => True) [(h0, .inr (12, [.ref s0, .int 0, .int 0, .ref s3, .ref s4, .ref s5, .ref s6, .ref s7, .int 0, .int 0, .int 0, .int tx, .int 0, .int 0, .int 0, .ref s15, .int 0, .ref s17, .int 0, .ref s19, .ref s20, .int (-1), .int 0, .int 0, .int 0, .int 0, .int 0, .ref s27, .int 0, .ref s29, .ref s30, .ref s31, .int 0, .int 0, .int 0, .ref s35, .ref s36, .ref s37, .long 0, .ref s39, .ref s40, .ref s41, .ref s42]))] ∧ xE U)) (va_Qi (fun (r : Int32) (_ : Unit) => r = (-1)) (fun _ t => va_P (dC, dI) classes [(h0, .inr (12, [.ref s0, .int 0, .int 0, .ref s3, .ref s4, .ref s5, .ref s6, .ref s7, .int 0, .int 0, .int 0, .int tx, .int 0, .int 0, .int 0, .ref s15, .int 0, .ref s17, .int 0, .ref s19, .ref s20, .int (-1), .int 0, .int 0, .int 0, .int 0, .int 0, .ref s27, .int 0, .ref s29, .ref s30, .ref s31, .int 0, .int 0, .int 0, .ref s35, .ref s36, .ref s37, .long 0, .ref s39, .ref s40, .ref s41, .ref s42]))] t.heap ∧ va_K (dC, dI) classes [] t ∧ va_D (va_A [(h0, .inr (12, [.ref s0, .int 0, .int 0, .ref s3, .ref s4, .ref s5, .ref s6, .ref s7, .int 0, .int 0, .int 0, .int tx, .int 0, .int 0, .int 0, .ref s15, .int 0, .ref s17, .int 0, .ref s19, .ref s20, .int (-1), .int 0, .int 0, .int 0, .int 0, .int 0, .ref s27, .int 0, .ref s29, .ref s30, .ref s31, .int 0, .int 0, .int 0, .ref s35, .ref s36, .ref s37, .long 0, .ref s39, .ref s40, .ref s41, .ref s42]))] sz) [(h0, .inr (12, [.ref s0, .int 0, .int 0, .ref s3, .ref s4, .ref s5, .ref s6, .ref s7, .int 0, .int 0, .int 0, .int tx, .int 0, .int 0, .int 0, .ref s15, .int 0, .ref s17, .int 0, .ref s19, .ref s20, .int (-1), .int 0, .int 0, .int 0, .int 0, .int 0, .ref s27, .int 0, .ref s29, .ref s30, .ref s31, .int 0, .int 0, .int 0, .ref s35, .ref s36, .ref s37, .long 0, .ref s39, .ref s40, .ref s41, .ref s42]))]) (va_A [(h0, .inr (12, [.ref s0, .int 0, .int 0, .ref s3, .ref s4, .ref s5, .ref s6, .ref s7, .int 0, .int 0, .int 0, .int tx, .int 0, .int 0, .int 0, .ref s15, .int 0, .ref s17, .int 0, .ref s19, .ref s20, .int (-1), .int 0, .int 0, .int 0, .int 0, .int 0, .ref s27, .int 0, .ref s29, .ref s30, .ref s31, .int 0, .int 0, .int 0, .ref s35, .ref s36, .ref s37, .long 0, .ref s39, .ref s40, .ref s41, .ref s42]))] sz)) 0 0 (va_A [(h0, .inr (12, [.ref s0, .int 0, .int 0, .ref s3, .ref s4, .ref s5, .ref s6, .ref s7, .int 0, .int 0, .int 0, .int tx, .int 0, .int 0, .int 0, .ref s15, .int 0, .ref s17, .int 0, .ref s19, .ref s20, .int (-1), .int 0, .int 0, .int 0, .int 0, .int 0, .ref s27, .int 0, .ref s29, .ref s30, .ref s31, .int 0, .int 0, .int 0, .ref s35, .ref s36, .ref s37, .long 0, .ref s39, .ref s40, .ref s41, .ref s42]))] sz) := by
  refine Met.ofW (cc := cX12_see) (maxL := 1) (ret := (some .int)) (by decide) rfl ?_
  intro p e s m args below meth c s₁ B hml hv
  obtain ⟨rfl, hsz, hP, hK, hD0, hE⟩ := hv
  have hx := B.exec
  have hb := B.bytes
  have hr := B.returns
  have hts := atoms_spec (ws := .code yX12_see cX12_see 1 (some .int) :: wsA) B.pre
  have hq : ∀ w ∈ wsA, w.before _ s = true := fun w h => hts w (List.mem_cons_of_mem _ h)
  have hown : s.vm.findClass RX12 = some m.cls := findClass_of_methodNamed B.named
  have hlocks := B.notSynchronized
  subst hsz
  have hD := hD0.self (sz := s.heap.size)
  generalize hAe : va_A [(h0, .inr (12, [.ref s0, .int 0, .int 0, .ref s3, .ref s4, .ref s5, .ref s6, .ref s7, .int 0, .int 0, .int 0, .int tx, .int 0, .int 0, .int 0, .ref s15, .int 0, .ref s17, .int 0, .ref s19, .ref s20, .int (-1), .int 0, .int 0, .int 0, .int 0, .int 0, .ref s27, .int 0, .ref s29, .ref s30, .ref s31, .int 0, .int 0, .int 0, .ref s35, .ref s36, .ref s37, .long 0, .ref s39, .ref s40, .ref s41, .ref s42]))] s.heap.size = A at hD ⊢
  have hA : ∀ q : Nat, s.heap.size ≤ q → A q := fun q h => by rw [← hAe]; exact Or.inr h
  have hS : va_S A s.heap s.heap [] := va_S.rf
  have hl := lv_entry ([.ref h0]) (n := 1) (Nat.le_of_ble_eq_true rfl)
  rw [lg_entry_eq]
  generalize (lg_sl ([.ref h0]) ++ List.replicate (1 - (lg_sl ([.ref h0])).length) Slot.unset).toArray = ls at hl ⊢
  have hl : lv_has ls 1 [(0, .ref h0)] := hl
  refine lv_aload_n hx hb dX12_see_0 rfl (lv_at hl 0 rfl) ?_
  refine va_get (D := (dC, dI)) (ci := 12) (v := .int 0) (C := RX12) (T := TX12) (N := 43) hx hb hq inX12 hown hK hP 0 rfl rfl 8 (by decide) (hq _ qw_1168) (fun _ h9 => h9) rfl dX12_see_1 ?_
  refine lv_aload_n hx hb dX12_see_4 rfl (lv_at hl 0 rfl) ?_
  refine va_get (D := (dC, dI)) (ci := 12) (v := .int 0) (C := RX12) (T := TX12) (N := 43) hx hb hq inX12 hown hK hP 0 rfl rfl 1 (by decide) (hq _ qw_1161) (fun _ h9 => h9) rfl dX12_see_5 ?_
  refine lv_icmp_ge (tgt := 38) hx hb dX12_see_8 (by decide) (fun _ => ?_) (fun c9 => absurd c9 (by decide))
  refine lv_aload_n hx hb dX12_see_38 rfl (lv_at hl 0 rfl) ?_
  refine va_get (D := (dC, dI)) (ci := 12) (v := .int 0) (C := RX12) (T := TX12) (N := 43) hx hb hq inX12 hown hK hP 0 rfl rfl 8 (by decide) (hq _ qw_1168) (fun _ h9 => h9) rfl dX12_see_39 ?_
  refine lv_aload_n hx hb dX12_see_42 rfl (lv_at hl 0 rfl) ?_
  refine va_get (D := (dC, dI)) (ci := 12) (v := .int 0) (C := RX12) (T := TX12) (N := 43) hx hb hq inX12 hown hK hP 0 rfl rfl 1 (by decide) (hq _ qw_1161) (fun _ h9 => h9) rfl dX12_see_43 ?_
  refine lv_icmp_ge (tgt := 65) hx hb dX12_see_46 (by decide) (fun _ => ?_) (fun c9 => absurd c9 (by decide))
  refine lv_iconst (v := (-1)) hx hb dX12_see_65 (by decide) ?_
  have hP9 := hP.sub (ws' := [(h0, .inr (12, [.ref s0, .int 0, .int 0, .ref s3, .ref s4, .ref s5, .ref s6, .ref s7, .int 0, .int 0, .int 0, .int tx, .int 0, .int 0, .int 0, .ref s15, .int 0, .ref s17, .int 0, .ref s19, .ref s20, .int (-1), .int 0, .int 0, .int 0, .int 0, .int 0, .ref s27, .int 0, .ref s29, .ref s30, .ref s31, .int 0, .int 0, .int 0, .ref s35, .ref s36, .ref s37, .long 0, .ref s39, .ref s40, .ref s41, .ref s42]))]) [0] rfl
  have hD9 := hD.sub (ws' := [(h0, .inr (12, [.ref s0, .int 0, .int 0, .ref s3, .ref s4, .ref s5, .ref s6, .ref s7, .int 0, .int 0, .int 0, .int tx, .int 0, .int 0, .int 0, .ref s15, .int 0, .ref s17, .int 0, .ref s19, .ref s20, .int (-1), .int 0, .int 0, .int 0, .int 0, .int 0, .ref s27, .int 0, .ref s29, .ref s30, .ref s31, .int 0, .int 0, .int 0, .ref s35, .ref s36, .ref s37, .long 0, .ref s39, .ref s40, .ref s41, .ref s42]))]) [0] (by decide) rfl
  have hK9 := hK.sub (tys' := []) [] rfl
  refine W.widen (k := 0) (n := 0) (Nat.le_of_ble_eq_true rfl) (Nat.le_of_ble_eq_true rfl) ?_
  exact W.iret (v := (-1)) hx hb hr (fun t ht hW => ⟨⟨(-1), (), rfl, rfl, by rw [ht]; exact hP9, va_K.moved hW.alike hK9, hD9⟩, hS.F ht⟩) hS.2.2 dX12_see_66

set_option maxHeartbeats 4000000 in
set_option maxRecDepth 100000 in
/-- c_M_isLetter -/
theorem c_M_isLetter (l : Launch) (dC : Nat → ClassId) (dI : Nat → Nat → Nat) (sz : Nat) (h0 : Nat) (s0 : Nat) (s3 : Nat) (s4 : Nat) (s5 : Nat) (s6 : Nat) (s7 : Nat) (s15 : Nat) (s17 : Nat) (s19 : Nat) (s20 : Nat) (s27 : Nat) (s29 : Nat) (s30 : Nat) (s31 : Nat) (s35 : Nat) (s36 : Nat) (s37 : Nat) (s39 : Nat) (s40 : Nat) (s41 : Nat) (s42 : Nat) (tx : Int32) : Met l yX12_isLetter (.code yX12_isLetter cX12_isLetter 2 (some .boolean) :: wsA) ({ frames := 0, cells := 0, slots := 0, locals := 0 }) (va_Pc [.ref h0, .int 0] (fun U => U.heap.size = sz ∧ va_P (dC, dI) classes [(h0, .inr (12, [.ref s0, .int 0, .int 0, .ref s3, .ref s4, .ref s5, .ref s6, .ref s7, .int 0, .int 0, .int 0, .int tx, .int 0, .int 0, .int 0, .ref s15, .int 0, .ref s17, .int 0, .ref s19, .ref s20, .int (-1), .int 0, .int 0, .int 0, .int 0, .int 0, .ref s27, .int 0, .ref s29, .ref s30, .ref s31, .int 0, .int 0, .int 0, .ref s35, .ref s36, .ref s37, .long 0, .ref s39, .ref s40, .ref s41, .ref s42]))] U.heap ∧ va_K (dC, dI) classes [] U ∧ va_D (fun _ => True) [(h0, .inr (12, [.ref s0, .int 0, .int 0, .ref s3, .ref s4, .ref s5, .ref s6, .ref s7, .int 0, .int 0, .int 0, .int tx, .int 0, .int 0, .int 0, .ref s15, .int 0, .ref s17, .int 0, .ref s19, .ref s20, .int (-1), .int 0, .int 0, .int 0, .int 0, .int 0, .ref s27, .int 0, .ref s29, .ref s30, .ref s31, .int 0, .int 0, .int 0, .ref s35, .ref s36, .ref s37, .long 0, .ref s39, .ref s40, .ref s41, .ref s42]))] ∧ xE U)) (va_Qi (fun (r : Int32) (_ : Unit) => r = 0) (fun _ t => va_P (dC, dI) classes [(h0, .inr (12, [.ref s0, .int 0, .int 0, .ref s3, .ref s4, .ref s5, .ref s6, .ref s7, .int 0, .int 0, .int 0, .int tx, .int 0, .int 0, .int 0, .ref s15, .int 0, .ref s17, .int 0, .ref s19, .ref s20, .int (-1), .int 0, .int 0, .int 0, .int 0, .int 0, .ref s27, .int 0, .ref s29, .ref s30, .ref s31, .int 0, .int 0, .int 0, .ref s35, .ref s36, .ref s37, .long 0, .ref s39, .ref s40, .ref s41, .ref s42]))] t.heap ∧ va_K (dC, dI) classes [] t ∧ va_D (va_A [(h0, .inr (12, [.ref s0, .int 0, .int 0, .ref s3, .ref s4, .ref s5, .ref s6, .ref s7, .int 0, .int 0, .int 0, .int tx, .int 0, .int 0, .int 0, .ref s15, .int 0, .ref s17, .int 0, .ref s19, .ref s20, .int (-1), .int 0, .int 0, .int 0, .int 0, .int 0, .ref s27, .int 0, .ref s29, .ref s30, .ref s31, .int 0, .int 0, .int 0, .ref s35, .ref s36, .ref s37, .long 0, .ref s39, .ref s40, .ref s41, .ref s42]))] sz) [(h0, .inr (12, [.ref s0, .int 0, .int 0, .ref s3, .ref s4, .ref s5, .ref s6, .ref s7, .int 0, .int 0, .int 0, .int tx, .int 0, .int 0, .int 0, .ref s15, .int 0, .ref s17, .int 0, .ref s19, .ref s20, .int (-1), .int 0, .int 0, .int 0, .int 0, .int 0, .ref s27, .int 0, .ref s29, .ref s30, .ref s31, .int 0, .int 0, .int 0, .ref s35, .ref s36, .ref s37, .long 0, .ref s39, .ref s40, .ref s41, .ref s42]))]) (va_A [(h0, .inr (12, [.ref s0, .int 0, .int 0, .ref s3, .ref s4, .ref s5, .ref s6, .ref s7, .int 0, .int 0, .int 0, .int tx, .int 0, .int 0, .int 0, .ref s15, .int 0, .ref s17, .int 0, .ref s19, .ref s20, .int (-1), .int 0, .int 0, .int 0, .int 0, .int 0, .ref s27, .int 0, .ref s29, .ref s30, .ref s31, .int 0, .int 0, .int 0, .ref s35, .ref s36, .ref s37, .long 0, .ref s39, .ref s40, .ref s41, .ref s42]))] sz)) 0 0 (va_A [(h0, .inr (12, [.ref s0, .int 0, .int 0, .ref s3, .ref s4, .ref s5, .ref s6, .ref s7, .int 0, .int 0, .int 0, .int tx, .int 0, .int 0, .int 0, .ref s15, .int 0, .ref s17, .int 0, .ref s19, .ref s20, .int (-1), .int 0, .int 0, .int 0, .int 0, .int 0, .ref s27, .int 0, .ref s29, .ref s30, .ref s31, .int 0, .int 0, .int 0, .ref s35, .ref s36, .ref s37, .long 0, .ref s39, .ref s40, .ref s41, .ref s42]))] sz) := by
  refine Met.ofW (cc := cX12_isLetter) (maxL := 2) (ret := (some .boolean)) (by decide) rfl ?_
  intro p e s m args below meth c s₁ B hml hv
  obtain ⟨rfl, hsz, hP, hK, hD0, hE⟩ := hv
  have hx := B.exec
  have hb := B.bytes
  have hr := B.returns
  have hts := atoms_spec (ws := .code yX12_isLetter cX12_isLetter 2 (some .boolean) :: wsA) B.pre
  have hq : ∀ w ∈ wsA, w.before _ s = true := fun w h => hts w (List.mem_cons_of_mem _ h)
  have hown : s.vm.findClass RX12 = some m.cls := findClass_of_methodNamed B.named
  have hlocks := B.notSynchronized
  subst hsz
  have hD := hD0.self (sz := s.heap.size)
  generalize hAe : va_A [(h0, .inr (12, [.ref s0, .int 0, .int 0, .ref s3, .ref s4, .ref s5, .ref s6, .ref s7, .int 0, .int 0, .int 0, .int tx, .int 0, .int 0, .int 0, .ref s15, .int 0, .ref s17, .int 0, .ref s19, .ref s20, .int (-1), .int 0, .int 0, .int 0, .int 0, .int 0, .ref s27, .int 0, .ref s29, .ref s30, .ref s31, .int 0, .int 0, .int 0, .ref s35, .ref s36, .ref s37, .long 0, .ref s39, .ref s40, .ref s41, .ref s42]))] s.heap.size = A at hD ⊢
  have hA : ∀ q : Nat, s.heap.size ≤ q → A q := fun q h => by rw [← hAe]; exact Or.inr h
  have hS : va_S A s.heap s.heap [] := va_S.rf
  have hl := lv_entry ([.ref h0, .int 0]) (n := 2) (Nat.le_of_ble_eq_true rfl)
  rw [lg_entry_eq]
  generalize (lg_sl ([.ref h0, .int 0]) ++ List.replicate (2 - (lg_sl ([.ref h0, .int 0])).length) Slot.unset).toArray = ls at hl ⊢
  have hl : lv_has ls 2 [(0, .ref h0), (1, .int 0)] := hl
  refine lv_iload_n hx hb dX12_isLetter_0 rfl (lv_at hl 1 rfl) ?_
  refine lv_aload_n hx hb dX12_isLetter_1 rfl (lv_at hl 0 rfl) ?_
  refine va_get (D := (dC, dI)) (ci := 12) (v := .int 0) (C := RX12) (T := TX12) (N := 43) hx hb hq inX12 hown hK hP 0 rfl rfl 1 (by decide) (hq _ qw_1161) (fun _ h9 => h9) rfl dX12_isLetter_2 ?_
  refine lv_icmp_ge (tgt := 34) hx hb dX12_isLetter_5 (by decide) (fun _ => ?_) (fun c9 => absurd c9 (by decide))
  refine lv_iconst (v := 0) hx hb dX12_isLetter_34 (by decide) ?_
  have hP9 := hP.sub (ws' := [(h0, .inr (12, [.ref s0, .int 0, .int 0, .ref s3, .ref s4, .ref s5, .ref s6, .ref s7, .int 0, .int 0, .int 0, .int tx, .int 0, .int 0, .int 0, .ref s15, .int 0, .ref s17, .int 0, .ref s19, .ref s20, .int (-1), .int 0, .int 0, .int 0, .int 0, .int 0, .ref s27, .int 0, .ref s29, .ref s30, .ref s31, .int 0, .int 0, .int 0, .ref s35, .ref s36, .ref s37, .long 0, .ref s39, .ref s40, .ref s41, .ref s42]))]) [0] rfl
  have hD9 := hD.sub (ws' := [(h0, .inr (12, [.ref s0, .int 0, .int 0, .ref s3, .ref s4, .ref s5, .ref s6, .ref s7, .int 0, .int 0, .int 0, .int tx, .int 0, .int 0, .int 0, .ref s15, .int 0, .ref s17, .int 0, .ref s19, .ref s20, .int (-1), .int 0, .int 0, .int 0, .int 0, .int 0, .ref s27, .int 0, .ref s29, .ref s30, .ref s31, .int 0, .int 0, .int 0, .ref s35, .ref s36, .ref s37, .long 0, .ref s39, .ref s40, .ref s41, .ref s42]))]) [0] (by decide) rfl
  have hK9 := hK.sub (tys' := []) [] rfl
  refine W.widen (k := 0) (n := 0) (Nat.le_of_ble_eq_true rfl) (Nat.le_of_ble_eq_true rfl) ?_
  exact W.zret (v := 0) hx hb hr (by decide) (fun t ht hW => ⟨⟨0, (), rfl, rfl, by rw [ht]; exact hP9, va_K.moved hW.alike hK9, hD9⟩, hS.F ht⟩) hS.2.2 dX12_isLetter_35

set_option maxHeartbeats 4000000 in
set_option maxRecDepth 100000 in
/-- c_M_isWord -/
theorem c_M_isWord (l : Launch) (dC : Nat → ClassId) (dI : Nat → Nat → Nat) (sz : Nat) (h0 : Nat) (s0 : Nat) (s3 : Nat) (s4 : Nat) (s5 : Nat) (s6 : Nat) (s7 : Nat) (s15 : Nat) (s17 : Nat) (s19 : Nat) (s20 : Nat) (s27 : Nat) (s29 : Nat) (s30 : Nat) (s31 : Nat) (s35 : Nat) (s36 : Nat) (s37 : Nat) (s39 : Nat) (s40 : Nat) (s41 : Nat) (s42 : Nat) (tx : Int32) (w0 : Int64) : Met l yX12_isWord (.code yX12_isWord cX12_isWord 6 (some .boolean) :: wsA) ({ frames := 1, cells := 0, slots := 0, locals := 21 }) (va_Pc [.ref h0, .long w0] (fun U => U.heap.size = sz ∧ va_P (dC, dI) classes [(h0, .inr (12, [.ref s0, .int 0, .int 0, .ref s3, .ref s4, .ref s5, .ref s6, .ref s7, .int 0, .int 0, .int 0, .int tx, .int 0, .int 0, .int 0, .ref s15, .int 0, .ref s17, .int 0, .ref s19, .ref s20, .int (-1), .int 0, .int 0, .int 0, .int 0, .int 0, .ref s27, .int 0, .ref s29, .ref s30, .ref s31, .int 0, .int 0, .int 0, .ref s35, .ref s36, .ref s37, .long 0, .ref s39, .ref s40, .ref s41, .ref s42]))] U.heap ∧ va_K (dC, dI) classes [] U ∧ va_D (fun _ => True) [(h0, .inr (12, [.ref s0, .int 0, .int 0, .ref s3, .ref s4, .ref s5, .ref s6, .ref s7, .int 0, .int 0, .int 0, .int tx, .int 0, .int 0, .int 0, .ref s15, .int 0, .ref s17, .int 0, .ref s19, .ref s20, .int (-1), .int 0, .int 0, .int 0, .int 0, .int 0, .ref s27, .int 0, .ref s29, .ref s30, .ref s31, .int 0, .int 0, .int 0, .ref s35, .ref s36, .ref s37, .long 0, .ref s39, .ref s40, .ref s41, .ref s42]))] ∧ xE U)) (va_Qi (fun (r : Int32) (_ : Unit) => r = 0) (fun _ t => va_P (dC, dI) classes [(h0, .inr (12, [.ref s0, .int 0, .int 0, .ref s3, .ref s4, .ref s5, .ref s6, .ref s7, .int 0, .int 0, .int 0, .int tx, .int 0, .int 0, .int 0, .ref s15, .int 0, .ref s17, .int 0, .ref s19, .ref s20, .int (-1), .int 0, .int 0, .int 0, .int 0, .int 0, .ref s27, .int 0, .ref s29, .ref s30, .ref s31, .int 0, .int 0, .int 0, .ref s35, .ref s36, .ref s37, .long 0, .ref s39, .ref s40, .ref s41, .ref s42]))] t.heap ∧ va_K (dC, dI) classes [] t ∧ va_D (va_A [(h0, .inr (12, [.ref s0, .int 0, .int 0, .ref s3, .ref s4, .ref s5, .ref s6, .ref s7, .int 0, .int 0, .int 0, .int tx, .int 0, .int 0, .int 0, .ref s15, .int 0, .ref s17, .int 0, .ref s19, .ref s20, .int (-1), .int 0, .int 0, .int 0, .int 0, .int 0, .ref s27, .int 0, .ref s29, .ref s30, .ref s31, .int 0, .int 0, .int 0, .ref s35, .ref s36, .ref s37, .long 0, .ref s39, .ref s40, .ref s41, .ref s42]))] sz) [(h0, .inr (12, [.ref s0, .int 0, .int 0, .ref s3, .ref s4, .ref s5, .ref s6, .ref s7, .int 0, .int 0, .int 0, .int tx, .int 0, .int 0, .int 0, .ref s15, .int 0, .ref s17, .int 0, .ref s19, .ref s20, .int (-1), .int 0, .int 0, .int 0, .int 0, .int 0, .ref s27, .int 0, .ref s29, .ref s30, .ref s31, .int 0, .int 0, .int 0, .ref s35, .ref s36, .ref s37, .long 0, .ref s39, .ref s40, .ref s41, .ref s42]))]) (va_A [(h0, .inr (12, [.ref s0, .int 0, .int 0, .ref s3, .ref s4, .ref s5, .ref s6, .ref s7, .int 0, .int 0, .int 0, .int tx, .int 0, .int 0, .int 0, .ref s15, .int 0, .ref s17, .int 0, .ref s19, .ref s20, .int (-1), .int 0, .int 0, .int 0, .int 0, .int 0, .ref s27, .int 0, .ref s29, .ref s30, .ref s31, .int 0, .int 0, .int 0, .ref s35, .ref s36, .ref s37, .long 0, .ref s39, .ref s40, .ref s41, .ref s42]))] sz)) 0 0 (va_A [(h0, .inr (12, [.ref s0, .int 0, .int 0, .ref s3, .ref s4, .ref s5, .ref s6, .ref s7, .int 0, .int 0, .int 0, .int tx, .int 0, .int 0, .int 0, .ref s15, .int 0, .ref s17, .int 0, .ref s19, .ref s20, .int (-1), .int 0, .int 0, .int 0, .int 0, .int 0, .ref s27, .int 0, .ref s29, .ref s30, .ref s31, .int 0, .int 0, .int 0, .ref s35, .ref s36, .ref s37, .long 0, .ref s39, .ref s40, .ref s41, .ref s42]))] sz) := by
  refine Met.ofW (cc := cX12_isWord) (maxL := 6) (ret := (some .boolean)) (by decide) rfl ?_
  intro p e s m args below meth c s₁ B hml hv
  obtain ⟨rfl, hsz, hP, hK, hD0, hE⟩ := hv
  have hx := B.exec
  have hb := B.bytes
  have hr := B.returns
  have hts := atoms_spec (ws := .code yX12_isWord cX12_isWord 6 (some .boolean) :: wsA) B.pre
  have hq : ∀ w ∈ wsA, w.before _ s = true := fun w h => hts w (List.mem_cons_of_mem _ h)
  have hown : s.vm.findClass RX12 = some m.cls := findClass_of_methodNamed B.named
  have hlocks := B.notSynchronized
  subst hsz
  have hD := hD0.self (sz := s.heap.size)
  generalize hAe : va_A [(h0, .inr (12, [.ref s0, .int 0, .int 0, .ref s3, .ref s4, .ref s5, .ref s6, .ref s7, .int 0, .int 0, .int 0, .int tx, .int 0, .int 0, .int 0, .ref s15, .int 0, .ref s17, .int 0, .ref s19, .ref s20, .int (-1), .int 0, .int 0, .int 0, .int 0, .int 0, .ref s27, .int 0, .ref s29, .ref s30, .ref s31, .int 0, .int 0, .int 0, .ref s35, .ref s36, .ref s37, .long 0, .ref s39, .ref s40, .ref s41, .ref s42]))] s.heap.size = A at hD ⊢
  have hA : ∀ q : Nat, s.heap.size ≤ q → A q := fun q h => by rw [← hAe]; exact Or.inr h
  have hS : va_S A s.heap s.heap [] := va_S.rf
  have hl := lv_entry ([.ref h0, .long w0]) (n := 6) (Nat.le_of_ble_eq_true rfl)
  rw [lg_entry_eq]
  generalize (lg_sl ([.ref h0, .long w0]) ++ List.replicate (6 - (lg_sl ([.ref h0, .long w0])).length) Slot.unset).toArray = ls at hl ⊢
  have hl : lv_has ls 6 [(0, .ref h0), (1, .long w0)] := hl
  refine lv_aload_n hx hb dX12_isWord_0 rfl (lv_at hl 0 rfl) ?_
  have hPc := hP.sub (ws' := [(h0, .inr (12, [.ref s0, .int 0, .int 0, .ref s3, .ref s4, .ref s5, .ref s6, .ref s7, .int 0, .int 0, .int 0, .int tx, .int 0, .int 0, .int 0, .ref s15, .int 0, .ref s17, .int 0, .ref s19, .ref s20, .int (-1), .int 0, .int 0, .int 0, .int 0, .int 0, .ref s27, .int 0, .ref s29, .ref s30, .ref s31, .int 0, .int 0, .int 0, .ref s35, .ref s36, .ref s37, .long 0, .ref s39, .ref s40, .ref s41, .ref s42]))]) [0] rfl
  have hDc := hD.sub (ws' := [(h0, .inr (12, [.ref s0, .int 0, .int 0, .ref s3, .ref s4, .ref s5, .ref s6, .ref s7, .int 0, .int 0, .int 0, .int tx, .int 0, .int 0, .int 0, .ref s15, .int 0, .ref s17, .int 0, .ref s19, .ref s20, .int (-1), .int 0, .int 0, .int 0, .int 0, .int 0, .ref s27, .int 0, .ref s29, .ref s30, .ref s31, .int 0, .int 0, .int 0, .ref s35, .ref s36, .ref s37, .long 0, .ref s39, .ref s40, .ref s41, .ref s42]))]) [0] (by decide) rfl
  have hKc := hK.sub (tys' := []) [] rfl
  have hFc := va_free (wc := [(h0, .inr (12, [.ref s0, .int 0, .int 0, .ref s3, .ref s4, .ref s5, .ref s6, .ref s7, .int 0, .int 0, .int 0, .int tx, .int 0, .int 0, .int 0, .ref s15, .int 0, .ref s17, .int 0, .ref s19, .ref s20, .int (-1), .int 0, .int 0, .int 0, .int 0, .int 0, .ref s27, .int 0, .ref s29, .ref s30, .ref s31, .int 0, .int 0, .int 0, .ref s35, .ref s36, .ref s37, .long 0, .ref s39, .ref s40, .ref s41, .ref s42]))]) hD hS hA [0] rfl
  refine va_calli (va_runV (As := []) (rest := []) ⟨hx, hb, hml, hown, hq⟩ (c_M_see l dC dI _ h0 s0 s3 s4 s5 s6 s7 s15 s17 s19 s20 s27 s29 s30 s31 s35 s36 s37 s39 s40 s41 s42 tx ) (cwV 0 hq (gV qw_1315 qw_1317 qw_42 qw_131 qw_1318) rfl rfl rfl (by decide +kernel) ⟨Nat.le_of_ble_eq_true rfl, Nat.le_of_ble_eq_true rfl⟩) ⟨fun a U g mk q => by obtain ⟨q0, q1, qP, qK, qD, qE⟩ := q; exact ⟨q0, q1, qP, va_K.moved (u := U) (U := U.calling g mk a) (Vm.Alike.refl U.vm) qK, qD, xE.same rfl qE⟩, va_recv hKc hPc (ci := 12) (q0 := 0) rfl rfl, fun U hU hW => ⟨rfl, by rw [hU], by rw [hU]; exact hPc, va_K.moved hW.alike hKc, hDc.weaken (fun _ _ _ _ => trivial), xE.warm hW hE⟩⟩ rfl rfl hl.1 rfl (lv_room (Nat.le_of_ble_eq_true rfl)) dX12_isWord_1 ⟨Nat.le_of_ble_eq_true rfl, Nat.le_of_ble_eq_true rfl⟩) hS (fun q _ h => hFc q h) hFc (fun r_1 u t H1 locs ht hvm hw hB hz1 hk1 hS => ?_)
  obtain ⟨hP1, hK1, hD1⟩ := hB
  rw [ht] at hP1
  have hK1 := va_K.moved hvm.symm hK1
  obtain ⟨hP, hD⟩ := va_join (wr := []) (w1 := [(h0, .inr (12, [.ref s0, .int 0, .int 0, .ref s3, .ref s4, .ref s5, .ref s6, .ref s7, .int 0, .int 0, .int 0, .int tx, .int 0, .int 0, .int 0, .ref s15, .int 0, .ref s17, .int 0, .ref s19, .ref s20, .int (-1), .int 0, .int 0, .int 0, .int 0, .int 0, .ref s27, .int 0, .ref s29, .ref s30, .ref s31, .int 0, .int 0, .int 0, .ref s35, .ref s36, .ref s37, .long 0, .ref s39, .ref s40, .ref s41, .ref s42]))]) hP hD [0] [] rfl rfl (by decide) (by decide) hk1 hFc hP1 hD1
  generalize H1 = H at hP hS ⊢
  have hP : va_P (dC, dI) classes [(h0, .inr (12, [.ref s0, .int 0, .int 0, .ref s3, .ref s4, .ref s5, .ref s6, .ref s7, .int 0, .int 0, .int 0, .int tx, .int 0, .int 0, .int 0, .ref s15, .int 0, .ref s17, .int 0, .ref s19, .ref s20, .int (-1), .int 0, .int 0, .int 0, .int 0, .int 0, .ref s27, .int 0, .ref s29, .ref s30, .ref s31, .int 0, .int 0, .int 0, .ref s35, .ref s36, .ref s37, .long 0, .ref s39, .ref s40, .ref s41, .ref s42]))] H := hP
  have hD : va_D A [(h0, .inr (12, [.ref s0, .int 0, .int 0, .ref s3, .ref s4, .ref s5, .ref s6, .ref s7, .int 0, .int 0, .int 0, .int tx, .int 0, .int 0, .int 0, .ref s15, .int 0, .ref s17, .int 0, .ref s19, .ref s20, .int (-1), .int 0, .int 0, .int 0, .int 0, .int 0, .ref s27, .int 0, .ref s29, .ref s30, .ref s31, .int 0, .int 0, .int 0, .ref s35, .ref s36, .ref s37, .long 0, .ref s39, .ref s40, .ref s41, .ref s42]))] := hD
  obtain rfl : r_1 = (-1) := hw
  refine lv_pop hx hb dX12_isWord_4 rfl ?_
  refine lv_lconst (v := 0) hx hb dX12_isWord_5 (by decide) ?_
  refine lv_lstore_n (lv' := [(3, .long 0), (0, .ref h0), (1, .long w0)]) hx hb dX12_isWord_6 rfl hl (by decide) rfl (fun ls hl => ?_)
  refine lv_iconst (v := 0) hx hb dX12_isWord_7 (by decide) ?_
  refine lv_istore (lv' := [(5, .int 0), (3, .long 0), (0, .ref h0), (1, .long w0)]) hx hb dX12_isWord_8 hl (by decide) rfl (fun ls hl => ?_)
  refine lv_aload_n hx hb dX12_isWord_10 rfl (lv_at hl 2 rfl) ?_
  refine lv_aload_n hx hb dX12_isWord_11 rfl (lv_at hl 2 rfl) ?_
  refine va_get (D := (dC, dI)) (ci := 12) (v := .int 0) (C := RX12) (T := TX12) (N := 43) hx hb hq inX12 hown hK hP 0 rfl rfl 8 (by decide) (hq _ qw_1168) (fun _ h9 => h9) rfl dX12_isWord_12 ?_
  refine lv_iload hx hb dX12_isWord_15 (lv_at hl 0 rfl) ?_
  refine lv_iadd hx hb dX12_isWord_17 ?_
  refine lv_topi (fun y_2 ey_2 => ?_)
  obtain rfl : y_2 = 0 := ey_2.trans (by decide)
  have hPc := hP.sub (ws' := [(h0, .inr (12, [.ref s0, .int 0, .int 0, .ref s3, .ref s4, .ref s5, .ref s6, .ref s7, .int 0, .int 0, .int 0, .int tx, .int 0, .int 0, .int 0, .ref s15, .int 0, .ref s17, .int 0, .ref s19, .ref s20, .int (-1), .int 0, .int 0, .int 0, .int 0, .int 0, .ref s27, .int 0, .ref s29, .ref s30, .ref s31, .int 0, .int 0, .int 0, .ref s35, .ref s36, .ref s37, .long 0, .ref s39, .ref s40, .ref s41, .ref s42]))]) [0] rfl
  have hDc := hD.sub (ws' := [(h0, .inr (12, [.ref s0, .int 0, .int 0, .ref s3, .ref s4, .ref s5, .ref s6, .ref s7, .int 0, .int 0, .int 0, .int tx, .int 0, .int 0, .int 0, .ref s15, .int 0, .ref s17, .int 0, .ref s19, .ref s20, .int (-1), .int 0, .int 0, .int 0, .int 0, .int 0, .ref s27, .int 0, .ref s29, .ref s30, .ref s31, .int 0, .int 0, .int 0, .ref s35, .ref s36, .ref s37, .long 0, .ref s39, .ref s40, .ref s41, .ref s42]))]) [0] (by decide) rfl
  have hKc := hK.sub (tys' := []) [] rfl
  have hFc := va_free (wc := [(h0, .inr (12, [.ref s0, .int 0, .int 0, .ref s3, .ref s4, .ref s5, .ref s6, .ref s7, .int 0, .int 0, .int 0, .int tx, .int 0, .int 0, .int 0, .ref s15, .int 0, .ref s17, .int 0, .ref s19, .ref s20, .int (-1), .int 0, .int 0, .int 0, .int 0, .int 0, .ref s27, .int 0, .ref s29, .ref s30, .ref s31, .int 0, .int 0, .int 0, .ref s35, .ref s36, .ref s37, .long 0, .ref s39, .ref s40, .ref s41, .ref s42]))]) hD hS hA [0] rfl
  refine va_calli (va_runV (As := [.int 0]) (rest := []) ⟨hx, hb, hml, hown, hq⟩ (c_M_isLetter l dC dI _ h0 s0 s3 s4 s5 s6 s7 s15 s17 s19 s20 s27 s29 s30 s31 s35 s36 s37 s39 s40 s41 s42 tx ) (cwV 1 hq (gV qw_1328 qw_1330 qw_45 qw_131 qw_1331) rfl rfl rfl (by decide +kernel) ⟨Nat.le_of_ble_eq_true rfl, Nat.le_of_ble_eq_true rfl⟩) ⟨fun a U g mk q => by obtain ⟨q0, q1, qP, qK, qD, qE⟩ := q; exact ⟨q0, q1, qP, va_K.moved (u := U) (U := U.calling g mk a) (Vm.Alike.refl U.vm) qK, qD, xE.same rfl qE⟩, va_recv hKc hPc (ci := 12) (q0 := 0) rfl rfl, fun U hU hW => ⟨rfl, by rw [hU], by rw [hU]; exact hPc, va_K.moved hW.alike hKc, hDc.weaken (fun _ _ _ _ => trivial), xE.warm hW hE⟩⟩ rfl rfl hl.1 rfl (lv_room (Nat.le_of_ble_eq_true rfl)) dX12_isWord_18 ⟨Nat.le_of_ble_eq_true rfl, Nat.le_of_ble_eq_true rfl⟩) hS (fun q _ h => hFc q h) hFc (fun r_3 u t H1 locs ht hvm hw hB hz1 hk1 hS => ?_)
  obtain ⟨hP1, hK1, hD1⟩ := hB
  rw [ht] at hP1
  have hK1 := va_K.moved hvm.symm hK1
  obtain ⟨hP, hD⟩ := va_join (wr := []) (w1 := [(h0, .inr (12, [.ref s0, .int 0, .int 0, .ref s3, .ref s4, .ref s5, .ref s6, .ref s7, .int 0, .int 0, .int 0, .int tx, .int 0, .int 0, .int 0, .ref s15, .int 0, .ref s17, .int 0, .ref s19, .ref s20, .int (-1), .int 0, .int 0, .int 0, .int 0, .int 0, .ref s27, .int 0, .ref s29, .ref s30, .ref s31, .int 0, .int 0, .int 0, .ref s35, .ref s36, .ref s37, .long 0, .ref s39, .ref s40, .ref s41, .ref s42]))]) hP hD [0] [] rfl rfl (by decide) (by decide) hk1 hFc hP1 hD1
  generalize H1 = H at hP hS ⊢
  have hP : va_P (dC, dI) classes [(h0, .inr (12, [.ref s0, .int 0, .int 0, .ref s3, .ref s4, .ref s5, .ref s6, .ref s7, .int 0, .int 0, .int 0, .int tx, .int 0, .int 0, .int 0, .ref s15, .int 0, .ref s17, .int 0, .ref s19, .ref s20, .int (-1), .int 0, .int 0, .int 0, .int 0, .int 0, .ref s27, .int 0, .ref s29, .ref s30, .ref s31, .int 0, .int 0, .int 0, .ref s35, .ref s36, .ref s37, .long 0, .ref s39, .ref s40, .ref s41, .ref s42]))] H := hP
  have hD : va_D A [(h0, .inr (12, [.ref s0, .int 0, .int 0, .ref s3, .ref s4, .ref s5, .ref s6, .ref s7, .int 0, .int 0, .int 0, .int tx, .int 0, .int 0, .int 0, .ref s15, .int 0, .ref s17, .int 0, .ref s19, .ref s20, .int (-1), .int 0, .int 0, .int 0, .int 0, .int 0, .ref s27, .int 0, .ref s29, .ref s30, .ref s31, .int 0, .int 0, .int 0, .ref s35, .ref s36, .ref s37, .long 0, .ref s39, .ref s40, .ref s41, .ref s42]))] := hD
  obtain rfl : r_3 = 0 := hw
  refine lv_if_eq (tgt := 56) hx hb dX12_isWord_21 (by decide) (fun _ => ?_) (fun c9 => absurd c9 (by decide))
  refine lv_iload hx hb dX12_isWord_56 (lv_at hl 0 rfl) ?_
  refine lv_if_le (tgt := 78) hx hb dX12_isWord_58 (by decide) (fun _ => ?_) (fun c9 => absurd c9 (by decide))
  refine lv_iconst (v := 0) hx hb dX12_isWord_78 (by decide) ?_
  have hP9 := hP.sub (ws' := [(h0, .inr (12, [.ref s0, .int 0, .int 0, .ref s3, .ref s4, .ref s5, .ref s6, .ref s7, .int 0, .int 0, .int 0, .int tx, .int 0, .int 0, .int 0, .ref s15, .int 0, .ref s17, .int 0, .ref s19, .ref s20, .int (-1), .int 0, .int 0, .int 0, .int 0, .int 0, .ref s27, .int 0, .ref s29, .ref s30, .ref s31, .int 0, .int 0, .int 0, .ref s35, .ref s36, .ref s37, .long 0, .ref s39, .ref s40, .ref s41, .ref s42]))]) [0] rfl
  have hD9 := hD.sub (ws' := [(h0, .inr (12, [.ref s0, .int 0, .int 0, .ref s3, .ref s4, .ref s5, .ref s6, .ref s7, .int 0, .int 0, .int 0, .int tx, .int 0, .int 0, .int 0, .ref s15, .int 0, .ref s17, .int 0, .ref s19, .ref s20, .int (-1), .int 0, .int 0, .int 0, .int 0, .int 0, .ref s27, .int 0, .ref s29, .ref s30, .ref s31, .int 0, .int 0, .int 0, .ref s35, .ref s36, .ref s37, .long 0, .ref s39, .ref s40, .ref s41, .ref s42]))]) [0] (by decide) rfl
  have hK9 := hK.sub (tys' := []) [] rfl
  refine W.widen (k := 0) (n := 0) (Nat.le_of_ble_eq_true rfl) (Nat.le_of_ble_eq_true rfl) ?_
  exact W.zret (v := 0) hx hb hr (by decide) (fun t ht hW => ⟨⟨0, (), rfl, rfl, by rw [ht]; exact hP9, va_K.moved hW.alike hK9, hD9⟩, hS.F ht⟩) hS.2.2 dX12_isWord_79

set_option maxHeartbeats 4000000 in
set_option maxRecDepth 100000 in
/-- c_M_fails -/
theorem c_M_fails (l : Launch) (dC : Nat → ClassId) (dI : Nat → Nat → Nat) (sz : Nat) (h0 : Nat) (s0 : Nat) (s3 : Nat) (s4 : Nat) (s5 : Nat) (s6 : Nat) (s7 : Nat) (s15 : Nat) (s17 : Nat) (s19 : Nat) (s20 : Nat) (s27 : Nat) (s29 : Nat) (s30 : Nat) (s31 : Nat) (s35 : Nat) (s36 : Nat) (s37 : Nat) (s39 : Nat) (s40 : Nat) (s41 : Nat) (s42 : Nat) (tx : Int32) : Met l yX12_fails (.code yX12_fails cX12_fails 3 (some .boolean) :: wsA) ({ frames := 0, cells := 0, slots := 0, locals := 0 }) (va_Pc [.ref h0, .int 0, .int 0] (fun U => U.heap.size = sz ∧ va_P (dC, dI) classes [(h0, .inr (12, [.ref s0, .int 0, .int 0, .ref s3, .ref s4, .ref s5, .ref s6, .ref s7, .int 0, .int 0, .int 0, .int tx, .int 0, .int 0, .int 0, .ref s15, .int 0, .ref s17, .int 0, .ref s19, .ref s20, .int (-1), .int 0, .int 0, .int 0, .int 0, .int 0, .ref s27, .int 0, .ref s29, .ref s30, .ref s31, .int 0, .int 0, .int 0, .ref s35, .ref s36, .ref s37, .long 0, .ref s39, .ref s40, .ref s41, .ref s42]))] U.heap ∧ va_K (dC, dI) classes [] U ∧ va_D (fun _ => True) [(h0, .inr (12, [.ref s0, .int 0, .int 0, .ref s3, .ref s4, .ref s5, .ref s6, .ref s7, .int 0, .int 0, .int 0, .int tx, .int 0, .int 0, .int 0, .ref s15, .int 0, .ref s17, .int 0, .ref s19, .ref s20, .int (-1), .int 0, .int 0, .int 0, .int 0, .int 0, .ref s27, .int 0, .ref s29, .ref s30, .ref s31, .int 0, .int 0, .int 0, .ref s35, .ref s36, .ref s37, .long 0, .ref s39, .ref s40, .ref s41, .ref s42]))] ∧ xE U)) (va_Qi (fun (r : Int32) (_ : Unit) => r = 0) (fun _ t => va_P (dC, dI) classes [(h0, .inr (12, [.ref s0, .int 0, .int 0, .ref s3, .ref s4, .ref s5, .ref s6, .ref s7, .int 0, .int 1, .int 0, .int tx, .int 0, .int 0, .int 0, .ref s15, .int 0, .ref s17, .int 0, .ref s19, .ref s20, .int (-1), .int 0, .int 0, .int 0, .int 0, .int 0, .ref s27, .int 0, .ref s29, .ref s30, .ref s31, .int 0, .int 0, .int 0, .ref s35, .ref s36, .ref s37, .long 0, .ref s39, .ref s40, .ref s41, .ref s42]))] t.heap ∧ va_K (dC, dI) classes [] t ∧ va_D (va_A [(h0, .inr (12, [.ref s0, .int 0, .int 0, .ref s3, .ref s4, .ref s5, .ref s6, .ref s7, .int 0, .int 0, .int 0, .int tx, .int 0, .int 0, .int 0, .ref s15, .int 0, .ref s17, .int 0, .ref s19, .ref s20, .int (-1), .int 0, .int 0, .int 0, .int 0, .int 0, .ref s27, .int 0, .ref s29, .ref s30, .ref s31, .int 0, .int 0, .int 0, .ref s35, .ref s36, .ref s37, .long 0, .ref s39, .ref s40, .ref s41, .ref s42]))] sz) [(h0, .inr (12, [.ref s0, .int 0, .int 0, .ref s3, .ref s4, .ref s5, .ref s6, .ref s7, .int 0, .int 1, .int 0, .int tx, .int 0, .int 0, .int 0, .ref s15, .int 0, .ref s17, .int 0, .ref s19, .ref s20, .int (-1), .int 0, .int 0, .int 0, .int 0, .int 0, .ref s27, .int 0, .ref s29, .ref s30, .ref s31, .int 0, .int 0, .int 0, .ref s35, .ref s36, .ref s37, .long 0, .ref s39, .ref s40, .ref s41, .ref s42]))]) (va_A [(h0, .inr (12, [.ref s0, .int 0, .int 0, .ref s3, .ref s4, .ref s5, .ref s6, .ref s7, .int 0, .int 0, .int 0, .int tx, .int 0, .int 0, .int 0, .ref s15, .int 0, .ref s17, .int 0, .ref s19, .ref s20, .int (-1), .int 0, .int 0, .int 0, .int 0, .int 0, .ref s27, .int 0, .ref s29, .ref s30, .ref s31, .int 0, .int 0, .int 0, .ref s35, .ref s36, .ref s37, .long 0, .ref s39, .ref s40, .ref s41, .ref s42]))] sz)) 0 0 (va_A [(h0, .inr (12, [.ref s0, .int 0, .int 0, .ref s3, .ref s4, .ref s5, .ref s6, .ref s7, .int 0, .int 0, .int 0, .int tx, .int 0, .int 0, .int 0, .ref s15, .int 0, .ref s17, .int 0, .ref s19, .ref s20, .int (-1), .int 0, .int 0, .int 0, .int 0, .int 0, .ref s27, .int 0, .ref s29, .ref s30, .ref s31, .int 0, .int 0, .int 0, .ref s35, .ref s36, .ref s37, .long 0, .ref s39, .ref s40, .ref s41, .ref s42]))] sz) := by
  refine Met.ofW (cc := cX12_fails) (maxL := 3) (ret := (some .boolean)) (by decide) rfl ?_
  intro p e s m args below meth c s₁ B hml hv
  obtain ⟨rfl, hsz, hP, hK, hD0, hE⟩ := hv
  have hx := B.exec
  have hb := B.bytes
  have hr := B.returns
  have hts := atoms_spec (ws := .code yX12_fails cX12_fails 3 (some .boolean) :: wsA) B.pre
  have hq : ∀ w ∈ wsA, w.before _ s = true := fun w h => hts w (List.mem_cons_of_mem _ h)
  have hown : s.vm.findClass RX12 = some m.cls := findClass_of_methodNamed B.named
  have hlocks := B.notSynchronized
  subst hsz
  have hD := hD0.self (sz := s.heap.size)
  generalize hAe : va_A [(h0, .inr (12, [.ref s0, .int 0, .int 0, .ref s3, .ref s4, .ref s5, .ref s6, .ref s7, .int 0, .int 0, .int 0, .int tx, .int 0, .int 0, .int 0, .ref s15, .int 0, .ref s17, .int 0, .ref s19, .ref s20, .int (-1), .int 0, .int 0, .int 0, .int 0, .int 0, .ref s27, .int 0, .ref s29, .ref s30, .ref s31, .int 0, .int 0, .int 0, .ref s35, .ref s36, .ref s37, .long 0, .ref s39, .ref s40, .ref s41, .ref s42]))] s.heap.size = A at hD ⊢
  have hA : ∀ q : Nat, s.heap.size ≤ q → A q := fun q h => by rw [← hAe]; exact Or.inr h
  have hS : va_S A s.heap s.heap [] := va_S.rf
  have hl := lv_entry ([.ref h0, .int 0, .int 0]) (n := 3) (Nat.le_of_ble_eq_true rfl)
  rw [lg_entry_eq]
  generalize (lg_sl ([.ref h0, .int 0, .int 0]) ++ List.replicate (3 - (lg_sl ([.ref h0, .int 0, .int 0])).length) Slot.unset).toArray = ls at hl ⊢
  have hl : lv_has ls 3 [(0, .ref h0), (1, .int 0), (2, .int 0)] := hl
  refine lv_aload_n hx hb dX12_fails_0 rfl (lv_at hl 0 rfl) ?_
  refine va_get (D := (dC, dI)) (ci := 12) (v := .int 0) (C := RX12) (T := TX12) (N := 43) hx hb hq inX12 hown hK hP 0 rfl rfl 9 (by decide) (hq _ qw_1169) (fun _ h9 => h9) rfl dX12_fails_1 ?_
  refine lv_if_ne (tgt := 19) hx hb dX12_fails_4 (by decide) (fun c9 => absurd c9 (by decide)) (fun _ => ?_)
  refine lv_aload_n hx hb dX12_fails_7 rfl (lv_at hl 0 rfl) ?_
  refine lv_iconst (v := 1) hx hb dX12_fails_8 (by decide) ?_
  refine lv_bipush (v := 8) hx hb dX12_fails_9 (by decide) ?_
  refine lv_iload_n hx hb dX12_fails_11 rfl (lv_at hl 2 rfl) ?_
  refine lv_imul hx hb dX12_fails_12 ?_
  refine lv_topi (fun y_1 ey_1 => ?_)
  obtain rfl : y_1 = 0 := ey_1.trans (by decide)
  refine lv_iadd hx hb dX12_fails_13 ?_
  refine lv_topi (fun y_2 ey_2 => ?_)
  obtain rfl : y_2 = 1 := ey_2.trans (by decide)
  refine lv_iload_n hx hb dX12_fails_14 rfl (lv_at hl 1 rfl) ?_
  refine lv_iadd hx hb dX12_fails_15 ?_
  refine lv_topi (fun y_3 ey_3 => ?_)
  obtain rfl : y_3 = 1 := ey_3.trans (by decide)
  refine va_put (D := (dC, dI)) (ci := 12) (v := .int 1) (ty := .int) (C := RX12) (T := TX12) (N := 43) hx hb hq inX12 tyX12 tyX12_ok nmX12 hown hK hP hD hS 0 rfl rfl 9 (by decide) (hq _ qw_1169) (fun _ h9 => h9) rfl (by decide +kernel) rfl rfl (Nat.le_of_ble_eq_true rfl) dX12_fails_16 (fun H locs hP hD hS => ?_)
  have hP : va_P (dC, dI) classes [(h0, .inr (12, [.ref s0, .int 0, .int 0, .ref s3, .ref s4, .ref s5, .ref s6, .ref s7, .int 0, .int 1, .int 0, .int tx, .int 0, .int 0, .int 0, .ref s15, .int 0, .ref s17, .int 0, .ref s19, .ref s20, .int (-1), .int 0, .int 0, .int 0, .int 0, .int 0, .ref s27, .int 0, .ref s29, .ref s30, .ref s31, .int 0, .int 0, .int 0, .ref s35, .ref s36, .ref s37, .long 0, .ref s39, .ref s40, .ref s41, .ref s42]))] H := hP
  have hD : va_D A [(h0, .inr (12, [.ref s0, .int 0, .int 0, .ref s3, .ref s4, .ref s5, .ref s6, .ref s7, .int 0, .int 1, .int 0, .int tx, .int 0, .int 0, .int 0, .ref s15, .int 0, .ref s17, .int 0, .ref s19, .ref s20, .int (-1), .int 0, .int 0, .int 0, .int 0, .int 0, .ref s27, .int 0, .ref s29, .ref s30, .ref s31, .int 0, .int 0, .int 0, .ref s35, .ref s36, .ref s37, .long 0, .ref s39, .ref s40, .ref s41, .ref s42]))] := hD
  refine lv_iconst (v := 0) hx hb dX12_fails_19 (by decide) ?_
  have hP9 := hP.sub (ws' := [(h0, .inr (12, [.ref s0, .int 0, .int 0, .ref s3, .ref s4, .ref s5, .ref s6, .ref s7, .int 0, .int 1, .int 0, .int tx, .int 0, .int 0, .int 0, .ref s15, .int 0, .ref s17, .int 0, .ref s19, .ref s20, .int (-1), .int 0, .int 0, .int 0, .int 0, .int 0, .ref s27, .int 0, .ref s29, .ref s30, .ref s31, .int 0, .int 0, .int 0, .ref s35, .ref s36, .ref s37, .long 0, .ref s39, .ref s40, .ref s41, .ref s42]))]) [0] rfl
  have hD9 := hD.sub (ws' := [(h0, .inr (12, [.ref s0, .int 0, .int 0, .ref s3, .ref s4, .ref s5, .ref s6, .ref s7, .int 0, .int 1, .int 0, .int tx, .int 0, .int 0, .int 0, .ref s15, .int 0, .ref s17, .int 0, .ref s19, .ref s20, .int (-1), .int 0, .int 0, .int 0, .int 0, .int 0, .ref s27, .int 0, .ref s29, .ref s30, .ref s31, .int 0, .int 0, .int 0, .ref s35, .ref s36, .ref s37, .long 0, .ref s39, .ref s40, .ref s41, .ref s42]))]) [0] (by decide) rfl
  have hK9 := hK.sub (tys' := []) [] rfl
  refine W.widen (k := 0) (n := 0) (Nat.le_of_ble_eq_true rfl) (Nat.le_of_ble_eq_true rfl) ?_
  exact W.zret (v := 0) hx hb hr (by decide) (fun t ht hW => ⟨⟨0, (), rfl, rfl, by rw [ht]; exact hP9, va_K.moved hW.alike hK9, hD9⟩, hS.F ht⟩) hS.2.2 dX12_fails_20

set_option maxHeartbeats 4000000 in
set_option maxRecDepth 100000 in
/-- c_M_isDinnerWord -/
theorem c_M_isDinnerWord (l : Launch) (dC : Nat → ClassId) (dI : Nat → Nat → Nat) (sz : Nat) (h0 : Nat) (s0 : Nat) (s3 : Nat) (s4 : Nat) (s5 : Nat) (s6 : Nat) (s7 : Nat) (s15 : Nat) (s17 : Nat) (s19 : Nat) (s20 : Nat) (s27 : Nat) (s29 : Nat) (s30 : Nat) (s31 : Nat) (s35 : Nat) (s36 : Nat) (s37 : Nat) (s39 : Nat) (s40 : Nat) (s41 : Nat) (s42 : Nat) (tx : Int32) : Met l yX12_isDinnerWord (.code yX12_isDinnerWord cX12_isDinnerWord 1 (some .boolean) :: wsA) ({ frames := 2, cells := 0, slots := 0, locals := 46 }) (va_Pc [.ref h0] (fun U => U.heap.size = sz ∧ va_P (dC, dI) classes [(h0, .inr (12, [.ref s0, .int 0, .int 0, .ref s3, .ref s4, .ref s5, .ref s6, .ref s7, .int 0, .int 0, .int 0, .int tx, .int 0, .int 0, .int 0, .ref s15, .int 0, .ref s17, .int 0, .ref s19, .ref s20, .int (-1), .int 0, .int 0, .int 0, .int 0, .int 0, .ref s27, .int 0, .ref s29, .ref s30, .ref s31, .int 0, .int 0, .int 0, .ref s35, .ref s36, .ref s37, .long 0, .ref s39, .ref s40, .ref s41, .ref s42]))] U.heap ∧ va_K (dC, dI) classes [] U ∧ va_D (fun _ => True) [(h0, .inr (12, [.ref s0, .int 0, .int 0, .ref s3, .ref s4, .ref s5, .ref s6, .ref s7, .int 0, .int 0, .int 0, .int tx, .int 0, .int 0, .int 0, .ref s15, .int 0, .ref s17, .int 0, .ref s19, .ref s20, .int (-1), .int 0, .int 0, .int 0, .int 0, .int 0, .ref s27, .int 0, .ref s29, .ref s30, .ref s31, .int 0, .int 0, .int 0, .ref s35, .ref s36, .ref s37, .long 0, .ref s39, .ref s40, .ref s41, .ref s42]))] ∧ xE U)) (va_Qi (fun (r : Int32) (_ : Unit) => r = 0) (fun _ t => va_P (dC, dI) classes [(h0, .inr (12, [.ref s0, .int 0, .int 0, .ref s3, .ref s4, .ref s5, .ref s6, .ref s7, .int 0, .int 0, .int 0, .int tx, .int 0, .int 0, .int 0, .ref s15, .int 0, .ref s17, .int 0, .ref s19, .ref s20, .int (-1), .int 0, .int 0, .int 0, .int 0, .int 0, .ref s27, .int 0, .ref s29, .ref s30, .ref s31, .int 0, .int 0, .int 0, .ref s35, .ref s36, .ref s37, .long 0, .ref s39, .ref s40, .ref s41, .ref s42]))] t.heap ∧ va_K (dC, dI) classes [] t ∧ va_D (va_A [(h0, .inr (12, [.ref s0, .int 0, .int 0, .ref s3, .ref s4, .ref s5, .ref s6, .ref s7, .int 0, .int 0, .int 0, .int tx, .int 0, .int 0, .int 0, .ref s15, .int 0, .ref s17, .int 0, .ref s19, .ref s20, .int (-1), .int 0, .int 0, .int 0, .int 0, .int 0, .ref s27, .int 0, .ref s29, .ref s30, .ref s31, .int 0, .int 0, .int 0, .ref s35, .ref s36, .ref s37, .long 0, .ref s39, .ref s40, .ref s41, .ref s42]))] sz) [(h0, .inr (12, [.ref s0, .int 0, .int 0, .ref s3, .ref s4, .ref s5, .ref s6, .ref s7, .int 0, .int 0, .int 0, .int tx, .int 0, .int 0, .int 0, .ref s15, .int 0, .ref s17, .int 0, .ref s19, .ref s20, .int (-1), .int 0, .int 0, .int 0, .int 0, .int 0, .ref s27, .int 0, .ref s29, .ref s30, .ref s31, .int 0, .int 0, .int 0, .ref s35, .ref s36, .ref s37, .long 0, .ref s39, .ref s40, .ref s41, .ref s42]))]) (va_A [(h0, .inr (12, [.ref s0, .int 0, .int 0, .ref s3, .ref s4, .ref s5, .ref s6, .ref s7, .int 0, .int 0, .int 0, .int tx, .int 0, .int 0, .int 0, .ref s15, .int 0, .ref s17, .int 0, .ref s19, .ref s20, .int (-1), .int 0, .int 0, .int 0, .int 0, .int 0, .ref s27, .int 0, .ref s29, .ref s30, .ref s31, .int 0, .int 0, .int 0, .ref s35, .ref s36, .ref s37, .long 0, .ref s39, .ref s40, .ref s41, .ref s42]))] sz)) 0 0 (va_A [(h0, .inr (12, [.ref s0, .int 0, .int 0, .ref s3, .ref s4, .ref s5, .ref s6, .ref s7, .int 0, .int 0, .int 0, .int tx, .int 0, .int 0, .int 0, .ref s15, .int 0, .ref s17, .int 0, .ref s19, .ref s20, .int (-1), .int 0, .int 0, .int 0, .int 0, .int 0, .ref s27, .int 0, .ref s29, .ref s30, .ref s31, .int 0, .int 0, .int 0, .ref s35, .ref s36, .ref s37, .long 0, .ref s39, .ref s40, .ref s41, .ref s42]))] sz) := by
  refine Met.ofW (cc := cX12_isDinnerWord) (maxL := 1) (ret := (some .boolean)) (by decide) rfl ?_
  intro p e s m args below meth c s₁ B hml hv
  obtain ⟨rfl, hsz, hP, hK, hD0, hE⟩ := hv
  have hx := B.exec
  have hb := B.bytes
  have hr := B.returns
  have hts := atoms_spec (ws := .code yX12_isDinnerWord cX12_isDinnerWord 1 (some .boolean) :: wsA) B.pre
  have hq : ∀ w ∈ wsA, w.before _ s = true := fun w h => hts w (List.mem_cons_of_mem _ h)
  have hown : s.vm.findClass RX12 = some m.cls := findClass_of_methodNamed B.named
  have hlocks := B.notSynchronized
  subst hsz
  have hD := hD0.self (sz := s.heap.size)
  generalize hAe : va_A [(h0, .inr (12, [.ref s0, .int 0, .int 0, .ref s3, .ref s4, .ref s5, .ref s6, .ref s7, .int 0, .int 0, .int 0, .int tx, .int 0, .int 0, .int 0, .ref s15, .int 0, .ref s17, .int 0, .ref s19, .ref s20, .int (-1), .int 0, .int 0, .int 0, .int 0, .int 0, .ref s27, .int 0, .ref s29, .ref s30, .ref s31, .int 0, .int 0, .int 0, .ref s35, .ref s36, .ref s37, .long 0, .ref s39, .ref s40, .ref s41, .ref s42]))] s.heap.size = A at hD ⊢
  have hA : ∀ q : Nat, s.heap.size ≤ q → A q := fun q h => by rw [← hAe]; exact Or.inr h
  have hS : va_S A s.heap s.heap [] := va_S.rf
  have hl := lv_entry ([.ref h0]) (n := 1) (Nat.le_of_ble_eq_true rfl)
  rw [lg_entry_eq]
  generalize (lg_sl ([.ref h0]) ++ List.replicate (1 - (lg_sl ([.ref h0])).length) Slot.unset).toArray = ls at hl ⊢
  have hl : lv_has ls 1 [(0, .ref h0)] := hl
  refine lv_aload_n hx hb dX12_isDinnerWord_0 rfl (lv_at hl 0 rfl) ?_
  refine lv_ldc2 (v := 110403987072370) hx hb hown (hq _ qw_1323) dX12_isDinnerWord_1 ?_
  have hPc := hP.sub (ws' := [(h0, .inr (12, [.ref s0, .int 0, .int 0, .ref s3, .ref s4, .ref s5, .ref s6, .ref s7, .int 0, .int 0, .int 0, .int tx, .int 0, .int 0, .int 0, .ref s15, .int 0, .ref s17, .int 0, .ref s19, .ref s20, .int (-1), .int 0, .int 0, .int 0, .int 0, .int 0, .ref s27, .int 0, .ref s29, .ref s30, .ref s31, .int 0, .int 0, .int 0, .ref s35, .ref s36, .ref s37, .long 0, .ref s39, .ref s40, .ref s41, .ref s42]))]) [0] rfl
  have hDc := hD.sub (ws' := [(h0, .inr (12, [.ref s0, .int 0, .int 0, .ref s3, .ref s4, .ref s5, .ref s6, .ref s7, .int 0, .int 0, .int 0, .int tx, .int 0, .int 0, .int 0, .ref s15, .int 0, .ref s17, .int 0, .ref s19, .ref s20, .int (-1), .int 0, .int 0, .int 0, .int 0, .int 0, .ref s27, .int 0, .ref s29, .ref s30, .ref s31, .int 0, .int 0, .int 0, .ref s35, .ref s36, .ref s37, .long 0, .ref s39, .ref s40, .ref s41, .ref s42]))]) [0] (by decide) rfl
  have hKc := hK.sub (tys' := []) [] rfl
  have hFc := va_free (wc := [(h0, .inr (12, [.ref s0, .int 0, .int 0, .ref s3, .ref s4, .ref s5, .ref s6, .ref s7, .int 0, .int 0, .int 0, .int tx, .int 0, .int 0, .int 0, .ref s15, .int 0, .ref s17, .int 0, .ref s19, .ref s20, .int (-1), .int 0, .int 0, .int 0, .int 0, .int 0, .ref s27, .int 0, .ref s29, .ref s30, .ref s31, .int 0, .int 0, .int 0, .ref s35, .ref s36, .ref s37, .long 0, .ref s39, .ref s40, .ref s41, .ref s42]))]) hD hS hA [0] rfl
  refine va_calli (va_runV (As := [.long 110403987072370]) (rest := []) ⟨hx, hb, hml, hown, hq⟩ (c_M_isWord l dC dI _ h0 s0 s3 s4 s5 s6 s7 s15 s17 s19 s20 s27 s29 s30 s31 s35 s36 s37 s39 s40 s41 s42 tx 110403987072370 ) (cwV 1 hq (gV qw_1324 qw_1326 qw_44 qw_131 qw_1327) rfl rfl rfl (by decide +kernel) ⟨Nat.le_of_ble_eq_true rfl, Nat.le_of_ble_eq_true rfl⟩) ⟨fun a U g mk q => by obtain ⟨q0, q1, qP, qK, qD, qE⟩ := q; exact ⟨q0, q1, qP, va_K.moved (u := U) (U := U.calling g mk a) (Vm.Alike.refl U.vm) qK, qD, xE.same rfl qE⟩, va_recv hKc hPc (ci := 12) (q0 := 0) rfl rfl, fun U hU hW => ⟨rfl, by rw [hU], by rw [hU]; exact hPc, va_K.moved hW.alike hKc, hDc.weaken (fun _ _ _ _ => trivial), xE.warm hW hE⟩⟩ rfl rfl hl.1 rfl (lv_room (Nat.le_of_ble_eq_true rfl)) dX12_isDinnerWord_4 ⟨Nat.le_of_ble_eq_true rfl, Nat.le_of_ble_eq_true rfl⟩) hS (fun q _ h => hFc q h) hFc (fun r_1 u t H1 locs ht hvm hw hB hz1 hk1 hS => ?_)
  obtain ⟨hP1, hK1, hD1⟩ := hB
  rw [ht] at hP1
  have hK1 := va_K.moved hvm.symm hK1
  obtain ⟨hP, hD⟩ := va_join (wr := []) (w1 := [(h0, .inr (12, [.ref s0, .int 0, .int 0, .ref s3, .ref s4, .ref s5, .ref s6, .ref s7, .int 0, .int 0, .int 0, .int tx, .int 0, .int 0, .int 0, .ref s15, .int 0, .ref s17, .int 0, .ref s19, .ref s20, .int (-1), .int 0, .int 0, .int 0, .int 0, .int 0, .ref s27, .int 0, .ref s29, .ref s30, .ref s31, .int 0, .int 0, .int 0, .ref s35, .ref s36, .ref s37, .long 0, .ref s39, .ref s40, .ref s41, .ref s42]))]) hP hD [0] [] rfl rfl (by decide) (by decide) hk1 hFc hP1 hD1
  generalize H1 = H at hP hS ⊢
  have hP : va_P (dC, dI) classes [(h0, .inr (12, [.ref s0, .int 0, .int 0, .ref s3, .ref s4, .ref s5, .ref s6, .ref s7, .int 0, .int 0, .int 0, .int tx, .int 0, .int 0, .int 0, .ref s15, .int 0, .ref s17, .int 0, .ref s19, .ref s20, .int (-1), .int 0, .int 0, .int 0, .int 0, .int 0, .ref s27, .int 0, .ref s29, .ref s30, .ref s31, .int 0, .int 0, .int 0, .ref s35, .ref s36, .ref s37, .long 0, .ref s39, .ref s40, .ref s41, .ref s42]))] H := hP
  have hD : va_D A [(h0, .inr (12, [.ref s0, .int 0, .int 0, .ref s3, .ref s4, .ref s5, .ref s6, .ref s7, .int 0, .int 0, .int 0, .int tx, .int 0, .int 0, .int 0, .ref s15, .int 0, .ref s17, .int 0, .ref s19, .ref s20, .int (-1), .int 0, .int 0, .int 0, .int 0, .int 0, .ref s27, .int 0, .ref s29, .ref s30, .ref s31, .int 0, .int 0, .int 0, .ref s35, .ref s36, .ref s37, .long 0, .ref s39, .ref s40, .ref s41, .ref s42]))] := hD
  obtain rfl : r_1 = 0 := hw
  refine lv_if_ne (tgt := 40) hx hb dX12_isDinnerWord_7 (by decide) (fun c9 => absurd c9 (by decide)) (fun _ => ?_)
  refine lv_aload_n hx hb dX12_isDinnerWord_10 rfl (lv_at hl 0 rfl) ?_
  refine lv_ldc2 (v := 1684632424) hx hb hown (hq _ qw_1332) dX12_isDinnerWord_11 ?_
  have hPc := hP.sub (ws' := [(h0, .inr (12, [.ref s0, .int 0, .int 0, .ref s3, .ref s4, .ref s5, .ref s6, .ref s7, .int 0, .int 0, .int 0, .int tx, .int 0, .int 0, .int 0, .ref s15, .int 0, .ref s17, .int 0, .ref s19, .ref s20, .int (-1), .int 0, .int 0, .int 0, .int 0, .int 0, .ref s27, .int 0, .ref s29, .ref s30, .ref s31, .int 0, .int 0, .int 0, .ref s35, .ref s36, .ref s37, .long 0, .ref s39, .ref s40, .ref s41, .ref s42]))]) [0] rfl
  have hDc := hD.sub (ws' := [(h0, .inr (12, [.ref s0, .int 0, .int 0, .ref s3, .ref s4, .ref s5, .ref s6, .ref s7, .int 0, .int 0, .int 0, .int tx, .int 0, .int 0, .int 0, .ref s15, .int 0, .ref s17, .int 0, .ref s19, .ref s20, .int (-1), .int 0, .int 0, .int 0, .int 0, .int 0, .ref s27, .int 0, .ref s29, .ref s30, .ref s31, .int 0, .int 0, .int 0, .ref s35, .ref s36, .ref s37, .long 0, .ref s39, .ref s40, .ref s41, .ref s42]))]) [0] (by decide) rfl
  have hKc := hK.sub (tys' := []) [] rfl
  have hFc := va_free (wc := [(h0, .inr (12, [.ref s0, .int 0, .int 0, .ref s3, .ref s4, .ref s5, .ref s6, .ref s7, .int 0, .int 0, .int 0, .int tx, .int 0, .int 0, .int 0, .ref s15, .int 0, .ref s17, .int 0, .ref s19, .ref s20, .int (-1), .int 0, .int 0, .int 0, .int 0, .int 0, .ref s27, .int 0, .ref s29, .ref s30, .ref s31, .int 0, .int 0, .int 0, .ref s35, .ref s36, .ref s37, .long 0, .ref s39, .ref s40, .ref s41, .ref s42]))]) hD hS hA [0] rfl
  refine va_calli (va_runV (As := [.long 1684632424]) (rest := []) ⟨hx, hb, hml, hown, hq⟩ (c_M_isWord l dC dI _ h0 s0 s3 s4 s5 s6 s7 s15 s17 s19 s20 s27 s29 s30 s31 s35 s36 s37 s39 s40 s41 s42 tx 1684632424 ) (cwV 1 hq (gV qw_1324 qw_1326 qw_44 qw_131 qw_1327) rfl rfl rfl (by decide +kernel) ⟨Nat.le_of_ble_eq_true rfl, Nat.le_of_ble_eq_true rfl⟩) ⟨fun a U g mk q => by obtain ⟨q0, q1, qP, qK, qD, qE⟩ := q; exact ⟨q0, q1, qP, va_K.moved (u := U) (U := U.calling g mk a) (Vm.Alike.refl U.vm) qK, qD, xE.same rfl qE⟩, va_recv hKc hPc (ci := 12) (q0 := 0) rfl rfl, fun U hU hW => ⟨rfl, by rw [hU], by rw [hU]; exact hPc, va_K.moved hW.alike hKc, hDc.weaken (fun _ _ _ _ => trivial), xE.warm hW hE⟩⟩ rfl rfl hl.1 rfl (lv_room (Nat.le_of_ble_eq_true rfl)) dX12_isDinnerWord_14 ⟨Nat.le_of_ble_eq_true rfl, Nat.le_of_ble_eq_true rfl⟩) hS (fun q _ h => hFc q h) hFc (fun r_2 u t H1 locs ht hvm hw hB hz1 hk1 hS => ?_)
  obtain ⟨hP1, hK1, hD1⟩ := hB
  rw [ht] at hP1
  have hK1 := va_K.moved hvm.symm hK1
  obtain ⟨hP, hD⟩ := va_join (wr := []) (w1 := [(h0, .inr (12, [.ref s0, .int 0, .int 0, .ref s3, .ref s4, .ref s5, .ref s6, .ref s7, .int 0, .int 0, .int 0, .int tx, .int 0, .int 0, .int 0, .ref s15, .int 0, .ref s17, .int 0, .ref s19, .ref s20, .int (-1), .int 0, .int 0, .int 0, .int 0, .int 0, .ref s27, .int 0, .ref s29, .ref s30, .ref s31, .int 0, .int 0, .int 0, .ref s35, .ref s36, .ref s37, .long 0, .ref s39, .ref s40, .ref s41, .ref s42]))]) hP hD [0] [] rfl rfl (by decide) (by decide) hk1 hFc hP1 hD1
  generalize H1 = H at hP hS ⊢
  have hP : va_P (dC, dI) classes [(h0, .inr (12, [.ref s0, .int 0, .int 0, .ref s3, .ref s4, .ref s5, .ref s6, .ref s7, .int 0, .int 0, .int 0, .int tx, .int 0, .int 0, .int 0, .ref s15, .int 0, .ref s17, .int 0, .ref s19, .ref s20, .int (-1), .int 0, .int 0, .int 0, .int 0, .int 0, .ref s27, .int 0, .ref s29, .ref s30, .ref s31, .int 0, .int 0, .int 0, .ref s35, .ref s36, .ref s37, .long 0, .ref s39, .ref s40, .ref s41, .ref s42]))] H := hP
  have hD : va_D A [(h0, .inr (12, [.ref s0, .int 0, .int 0, .ref s3, .ref s4, .ref s5, .ref s6, .ref s7, .int 0, .int 0, .int 0, .int tx, .int 0, .int 0, .int 0, .ref s15, .int 0, .ref s17, .int 0, .ref s19, .ref s20, .int (-1), .int 0, .int 0, .int 0, .int 0, .int 0, .ref s27, .int 0, .ref s29, .ref s30, .ref s31, .int 0, .int 0, .int 0, .ref s35, .ref s36, .ref s37, .long 0, .ref s39, .ref s40, .ref s41, .ref s42]))] := hD
  obtain rfl : r_2 = 0 := hw
  refine lv_if_ne (tgt := 40) hx hb dX12_isDinnerWord_17 (by decide) (fun c9 => absurd c9 (by decide)) (fun _ => ?_)
  refine lv_aload_n hx hb dX12_isDinnerWord_20 rfl (lv_at hl 0 rfl) ?_
  refine lv_ldc2 (v := 444351214452) hx hb hown (hq _ qw_1333) dX12_isDinnerWord_21 ?_
  have hPc := hP.sub (ws' := [(h0, .inr (12, [.ref s0, .int 0, .int 0, .ref s3, .ref s4, .ref s5, .ref s6, .ref s7, .int 0, .int 0, .int 0, .int tx, .int 0, .int 0, .int 0, .ref s15, .int 0, .ref s17, .int 0, .ref s19, .ref s20, .int (-1), .int 0, .int 0, .int 0, .int 0, .int 0, .ref s27, .int 0, .ref s29, .ref s30, .ref s31, .int 0, .int 0, .int 0, .ref s35, .ref s36, .ref s37, .long 0, .ref s39, .ref s40, .ref s41, .ref s42]))]) [0] rfl
  have hDc := hD.sub (ws' := [(h0, .inr (12, [.ref s0, .int 0, .int 0, .ref s3, .ref s4, .ref s5, .ref s6, .ref s7, .int 0, .int 0, .int 0, .int tx, .int 0, .int 0, .int 0, .ref s15, .int 0, .ref s17, .int 0, .ref s19, .ref s20, .int (-1), .int 0, .int 0, .int 0, .int 0, .int 0, .ref s27, .int 0, .ref s29, .ref s30, .ref s31, .int 0, .int 0, .int 0, .ref s35, .ref s36, .ref s37, .long 0, .ref s39, .ref s40, .ref s41, .ref s42]))]) [0] (by decide) rfl
  have hKc := hK.sub (tys' := []) [] rfl
  have hFc := va_free (wc := [(h0, .inr (12, [.ref s0, .int 0, .int 0, .ref s3, .ref s4, .ref s5, .ref s6, .ref s7, .int 0, .int 0, .int 0, .int tx, .int 0, .int 0, .int 0, .ref s15, .int 0, .ref s17, .int 0, .ref s19, .ref s20, .int (-1), .int 0, .int 0, .int 0, .int 0, .int 0, .ref s27, .int 0, .ref s29, .ref s30, .ref s31, .int 0, .int 0, .int 0, .ref s35, .ref s36, .ref s37, .long 0, .ref s39, .ref s40, .ref s41, .ref s42]))]) hD hS hA [0] rfl
  refine va_calli (va_runV (As := [.long 444351214452]) (rest := []) ⟨hx, hb, hml, hown, hq⟩ (c_M_isWord l dC dI _ h0 s0 s3 s4 s5 s6 s7 s15 s17 s19 s20 s27 s29 s30 s31 s35 s36 s37 s39 s40 s41 s42 tx 444351214452 ) (cwV 1 hq (gV qw_1324 qw_1326 qw_44 qw_131 qw_1327) rfl rfl rfl (by decide +kernel) ⟨Nat.le_of_ble_eq_true rfl, Nat.le_of_ble_eq_true rfl⟩) ⟨fun a U g mk q => by obtain ⟨q0, q1, qP, qK, qD, qE⟩ := q; exact ⟨q0, q1, qP, va_K.moved (u := U) (U := U.calling g mk a) (Vm.Alike.refl U.vm) qK, qD, xE.same rfl qE⟩, va_recv hKc hPc (ci := 12) (q0 := 0) rfl rfl, fun U hU hW => ⟨rfl, by rw [hU], by rw [hU]; exact hPc, va_K.moved hW.alike hKc, hDc.weaken (fun _ _ _ _ => trivial), xE.warm hW hE⟩⟩ rfl rfl hl.1 rfl (lv_room (Nat.le_of_ble_eq_true rfl)) dX12_isDinnerWord_24 ⟨Nat.le_of_ble_eq_true rfl, Nat.le_of_ble_eq_true rfl⟩) hS (fun q _ h => hFc q h) hFc (fun r_3 u t H1 locs ht hvm hw hB hz1 hk1 hS => ?_)
  obtain ⟨hP1, hK1, hD1⟩ := hB
  rw [ht] at hP1
  have hK1 := va_K.moved hvm.symm hK1
  obtain ⟨hP, hD⟩ := va_join (wr := []) (w1 := [(h0, .inr (12, [.ref s0, .int 0, .int 0, .ref s3, .ref s4, .ref s5, .ref s6, .ref s7, .int 0, .int 0, .int 0, .int tx, .int 0, .int 0, .int 0, .ref s15, .int 0, .ref s17, .int 0, .ref s19, .ref s20, .int (-1), .int 0, .int 0, .int 0, .int 0, .int 0, .ref s27, .int 0, .ref s29, .ref s30, .ref s31, .int 0, .int 0, .int 0, .ref s35, .ref s36, .ref s37, .long 0, .ref s39, .ref s40, .ref s41, .ref s42]))]) hP hD [0] [] rfl rfl (by decide) (by decide) hk1 hFc hP1 hD1
  generalize H1 = H at hP hS ⊢
  have hP : va_P (dC, dI) classes [(h0, .inr (12, [.ref s0, .int 0, .int 0, .ref s3, .ref s4, .ref s5, .ref s6, .ref s7, .int 0, .int 0, .int 0, .int tx, .int 0, .int 0, .int 0, .ref s15, .int 0, .ref s17, .int 0, .ref s19, .ref s20, .int (-1), .int 0, .int 0, .int 0, .int 0, .int 0, .ref s27, .int 0, .ref s29, .ref s30, .ref s31, .int 0, .int 0, .int 0, .ref s35, .ref s36, .ref s37, .long 0, .ref s39, .ref s40, .ref s41, .ref s42]))] H := hP
  have hD : va_D A [(h0, .inr (12, [.ref s0, .int 0, .int 0, .ref s3, .ref s4, .ref s5, .ref s6, .ref s7, .int 0, .int 0, .int 0, .int tx, .int 0, .int 0, .int 0, .ref s15, .int 0, .ref s17, .int 0, .ref s19, .ref s20, .int (-1), .int 0, .int 0, .int 0, .int 0, .int 0, .ref s27, .int 0, .ref s29, .ref s30, .ref s31, .int 0, .int 0, .int 0, .ref s35, .ref s36, .ref s37, .long 0, .ref s39, .ref s40, .ref s41, .ref s42]))] := hD
  obtain rfl : r_3 = 0 := hw
  refine lv_if_ne (tgt := 40) hx hb dX12_isDinnerWord_27 (by decide) (fun c9 => absurd c9 (by decide)) (fun _ => ?_)
  refine lv_aload_n hx hb dX12_isDinnerWord_30 rfl (lv_at hl 0 rfl) ?_
  refine lv_ldc2 (v := 427020088168) hx hb hown (hq _ qw_1334) dX12_isDinnerWord_31 ?_
  have hPc := hP.sub (ws' := [(h0, .inr (12, [.ref s0, .int 0, .int 0, .ref s3, .ref s4, .ref s5, .ref s6, .ref s7, .int 0, .int 0, .int 0, .int tx, .int 0, .int 0, .int 0, .ref s15, .int 0, .ref s17, .int 0, .ref s19, .ref s20, .int (-1), .int 0, .int 0, .int 0, .int 0, .int 0, .ref s27, .int 0, .ref s29, .ref s30, .ref s31, .int 0, .int 0, .int 0, .ref s35, .ref s36, .ref s37, .long 0, .ref s39, .ref s40, .ref s41, .ref s42]))]) [0] rfl
  have hDc := hD.sub (ws' := [(h0, .inr (12, [.ref s0, .int 0, .int 0, .ref s3, .ref s4, .ref s5, .ref s6, .ref s7, .int 0, .int 0, .int 0, .int tx, .int 0, .int 0, .int 0, .ref s15, .int 0, .ref s17, .int 0, .ref s19, .ref s20, .int (-1), .int 0, .int 0, .int 0, .int 0, .int 0, .ref s27, .int 0, .ref s29, .ref s30, .ref s31, .int 0, .int 0, .int 0, .ref s35, .ref s36, .ref s37, .long 0, .ref s39, .ref s40, .ref s41, .ref s42]))]) [0] (by decide) rfl
  have hKc := hK.sub (tys' := []) [] rfl
  have hFc := va_free (wc := [(h0, .inr (12, [.ref s0, .int 0, .int 0, .ref s3, .ref s4, .ref s5, .ref s6, .ref s7, .int 0, .int 0, .int 0, .int tx, .int 0, .int 0, .int 0, .ref s15, .int 0, .ref s17, .int 0, .ref s19, .ref s20, .int (-1), .int 0, .int 0, .int 0, .int 0, .int 0, .ref s27, .int 0, .ref s29, .ref s30, .ref s31, .int 0, .int 0, .int 0, .ref s35, .ref s36, .ref s37, .long 0, .ref s39, .ref s40, .ref s41, .ref s42]))]) hD hS hA [0] rfl
  refine va_calli (va_runV (As := [.long 427020088168]) (rest := []) ⟨hx, hb, hml, hown, hq⟩ (c_M_isWord l dC dI _ h0 s0 s3 s4 s5 s6 s7 s15 s17 s19 s20 s27 s29 s30 s31 s35 s36 s37 s39 s40 s41 s42 tx 427020088168 ) (cwV 1 hq (gV qw_1324 qw_1326 qw_44 qw_131 qw_1327) rfl rfl rfl (by decide +kernel) ⟨Nat.le_of_ble_eq_true rfl, Nat.le_of_ble_eq_true rfl⟩) ⟨fun a U g mk q => by obtain ⟨q0, q1, qP, qK, qD, qE⟩ := q; exact ⟨q0, q1, qP, va_K.moved (u := U) (U := U.calling g mk a) (Vm.Alike.refl U.vm) qK, qD, xE.same rfl qE⟩, va_recv hKc hPc (ci := 12) (q0 := 0) rfl rfl, fun U hU hW => ⟨rfl, by rw [hU], by rw [hU]; exact hPc, va_K.moved hW.alike hKc, hDc.weaken (fun _ _ _ _ => trivial), xE.warm hW hE⟩⟩ rfl rfl hl.1 rfl (lv_room (Nat.le_of_ble_eq_true rfl)) dX12_isDinnerWord_34 ⟨Nat.le_of_ble_eq_true rfl, Nat.le_of_ble_eq_true rfl⟩) hS (fun q _ h => hFc q h) hFc (fun r_4 u t H1 locs ht hvm hw hB hz1 hk1 hS => ?_)
  obtain ⟨hP1, hK1, hD1⟩ := hB
  rw [ht] at hP1
  have hK1 := va_K.moved hvm.symm hK1
  obtain ⟨hP, hD⟩ := va_join (wr := []) (w1 := [(h0, .inr (12, [.ref s0, .int 0, .int 0, .ref s3, .ref s4, .ref s5, .ref s6, .ref s7, .int 0, .int 0, .int 0, .int tx, .int 0, .int 0, .int 0, .ref s15, .int 0, .ref s17, .int 0, .ref s19, .ref s20, .int (-1), .int 0, .int 0, .int 0, .int 0, .int 0, .ref s27, .int 0, .ref s29, .ref s30, .ref s31, .int 0, .int 0, .int 0, .ref s35, .ref s36, .ref s37, .long 0, .ref s39, .ref s40, .ref s41, .ref s42]))]) hP hD [0] [] rfl rfl (by decide) (by decide) hk1 hFc hP1 hD1
  generalize H1 = H at hP hS ⊢
  have hP : va_P (dC, dI) classes [(h0, .inr (12, [.ref s0, .int 0, .int 0, .ref s3, .ref s4, .ref s5, .ref s6, .ref s7, .int 0, .int 0, .int 0, .int tx, .int 0, .int 0, .int 0, .ref s15, .int 0, .ref s17, .int 0, .ref s19, .ref s20, .int (-1), .int 0, .int 0, .int 0, .int 0, .int 0, .ref s27, .int 0, .ref s29, .ref s30, .ref s31, .int 0, .int 0, .int 0, .ref s35, .ref s36, .ref s37, .long 0, .ref s39, .ref s40, .ref s41, .ref s42]))] H := hP
  have hD : va_D A [(h0, .inr (12, [.ref s0, .int 0, .int 0, .ref s3, .ref s4, .ref s5, .ref s6, .ref s7, .int 0, .int 0, .int 0, .int tx, .int 0, .int 0, .int 0, .ref s15, .int 0, .ref s17, .int 0, .ref s19, .ref s20, .int (-1), .int 0, .int 0, .int 0, .int 0, .int 0, .ref s27, .int 0, .ref s29, .ref s30, .ref s31, .int 0, .int 0, .int 0, .ref s35, .ref s36, .ref s37, .long 0, .ref s39, .ref s40, .ref s41, .ref s42]))] := hD
  obtain rfl : r_4 = 0 := hw
  refine lv_if_eq (tgt := 44) hx hb dX12_isDinnerWord_37 (by decide) (fun _ => ?_) (fun c9 => absurd c9 (by decide))
  refine lv_iconst (v := 0) hx hb dX12_isDinnerWord_44 (by decide) ?_
  have hP9 := hP.sub (ws' := [(h0, .inr (12, [.ref s0, .int 0, .int 0, .ref s3, .ref s4, .ref s5, .ref s6, .ref s7, .int 0, .int 0, .int 0, .int tx, .int 0, .int 0, .int 0, .ref s15, .int 0, .ref s17, .int 0, .ref s19, .ref s20, .int (-1), .int 0, .int 0, .int 0, .int 0, .int 0, .ref s27, .int 0, .ref s29, .ref s30, .ref s31, .int 0, .int 0, .int 0, .ref s35, .ref s36, .ref s37, .long 0, .ref s39, .ref s40, .ref s41, .ref s42]))]) [0] rfl
  have hD9 := hD.sub (ws' := [(h0, .inr (12, [.ref s0, .int 0, .int 0, .ref s3, .ref s4, .ref s5, .ref s6, .ref s7, .int 0, .int 0, .int 0, .int tx, .int 0, .int 0, .int 0, .ref s15, .int 0, .ref s17, .int 0, .ref s19, .ref s20, .int (-1), .int 0, .int 0, .int 0, .int 0, .int 0, .ref s27, .int 0, .ref s29, .ref s30, .ref s31, .int 0, .int 0, .int 0, .ref s35, .ref s36, .ref s37, .long 0, .ref s39, .ref s40, .ref s41, .ref s42]))]) [0] (by decide) rfl
  have hK9 := hK.sub (tys' := []) [] rfl
  refine W.widen (k := 0) (n := 0) (Nat.le_of_ble_eq_true rfl) (Nat.le_of_ble_eq_true rfl) ?_
  exact W.zret (v := 0) hx hb hr (by decide) (fun t ht hW => ⟨⟨0, (), rfl, rfl, by rw [ht]; exact hP9, va_K.moved hW.alike hK9, hD9⟩, hS.F ht⟩) hS.2.2 dX12_isDinnerWord_45

set_option maxHeartbeats 4000000 in
set_option maxRecDepth 100000 in
/-- c_M_clauseHere_6 -/
theorem c_M_clauseHere_6 (l : Launch) (dC : Nat → ClassId) (dI : Nat → Nat → Nat) (sz : Nat) (h0 : Nat) (s0 : Nat) (s3 : Nat) (s4 : Nat) (s5 : Nat) (s6 : Nat) (s7 : Nat) (s15 : Nat) (s17 : Nat) (s19 : Nat) (s20 : Nat) (s27 : Nat) (s29 : Nat) (s30 : Nat) (s31 : Nat) (s35 : Nat) (s36 : Nat) (s37 : Nat) (s39 : Nat) (s40 : Nat) (s41 : Nat) (s42 : Nat) : Met l yX12_clauseHere (.code yX12_clauseHere cX12_clauseHere 3 (some .boolean) :: wsA) ({ frames := 3, cells := 0, slots := 0, locals := 66 }) (va_Pc [.ref h0] (fun U => U.heap.size = sz ∧ va_P (dC, dI) classes [(h0, .inr (12, [.ref s0, .int 0, .int 0, .ref s3, .ref s4, .ref s5, .ref s6, .ref s7, .int 0, .int 0, .int 0, .int 6, .int 0, .int 0, .int 0, .ref s15, .int 0, .ref s17, .int 0, .ref s19, .ref s20, .int (-1), .int 0, .int 0, .int 0, .int 0, .int 0, .ref s27, .int 0, .ref s29, .ref s30, .ref s31, .int 0, .int 0, .int 0, .ref s35, .ref s36, .ref s37, .long 0, .ref s39, .ref s40, .ref s41, .ref s42]))] U.heap ∧ va_K (dC, dI) classes [] U ∧ va_D (fun _ => True) [(h0, .inr (12, [.ref s0, .int 0, .int 0, .ref s3, .ref s4, .ref s5, .ref s6, .ref s7, .int 0, .int 0, .int 0, .int 6, .int 0, .int 0, .int 0, .ref s15, .int 0, .ref s17, .int 0, .ref s19, .ref s20, .int (-1), .int 0, .int 0, .int 0, .int 0, .int 0, .ref s27, .int 0, .ref s29, .ref s30, .ref s31, .int 0, .int 0, .int 0, .ref s35, .ref s36, .ref s37, .long 0, .ref s39, .ref s40, .ref s41, .ref s42]))] ∧ xE U)) (va_Qi (fun (r : Int32) (_ : Unit) => r = 0) (fun _ t => va_P (dC, dI) classes [(h0, .inr (12, [.ref s0, .int 0, .int 0, .ref s3, .ref s4, .ref s5, .ref s6, .ref s7, .int 0, .int 1, .int 0, .int 6, .int 0, .int 0, .int 0, .ref s15, .int 0, .ref s17, .int 0, .ref s19, .ref s20, .int (-1), .int 0, .int 0, .int 0, .int 0, .int 0, .ref s27, .int 0, .ref s29, .ref s30, .ref s31, .int 0, .int 0, .int 0, .ref s35, .ref s36, .ref s37, .long 0, .ref s39, .ref s40, .ref s41, .ref s42]))] t.heap ∧ va_K (dC, dI) classes [] t ∧ va_D (va_A [(h0, .inr (12, [.ref s0, .int 0, .int 0, .ref s3, .ref s4, .ref s5, .ref s6, .ref s7, .int 0, .int 0, .int 0, .int 6, .int 0, .int 0, .int 0, .ref s15, .int 0, .ref s17, .int 0, .ref s19, .ref s20, .int (-1), .int 0, .int 0, .int 0, .int 0, .int 0, .ref s27, .int 0, .ref s29, .ref s30, .ref s31, .int 0, .int 0, .int 0, .ref s35, .ref s36, .ref s37, .long 0, .ref s39, .ref s40, .ref s41, .ref s42]))] sz) [(h0, .inr (12, [.ref s0, .int 0, .int 0, .ref s3, .ref s4, .ref s5, .ref s6, .ref s7, .int 0, .int 1, .int 0, .int 6, .int 0, .int 0, .int 0, .ref s15, .int 0, .ref s17, .int 0, .ref s19, .ref s20, .int (-1), .int 0, .int 0, .int 0, .int 0, .int 0, .ref s27, .int 0, .ref s29, .ref s30, .ref s31, .int 0, .int 0, .int 0, .ref s35, .ref s36, .ref s37, .long 0, .ref s39, .ref s40, .ref s41, .ref s42]))]) (va_A [(h0, .inr (12, [.ref s0, .int 0, .int 0, .ref s3, .ref s4, .ref s5, .ref s6, .ref s7, .int 0, .int 0, .int 0, .int 6, .int 0, .int 0, .int 0, .ref s15, .int 0, .ref s17, .int 0, .ref s19, .ref s20, .int (-1), .int 0, .int 0, .int 0, .int 0, .int 0, .ref s27, .int 0, .ref s29, .ref s30, .ref s31, .int 0, .int 0, .int 0, .ref s35, .ref s36, .ref s37, .long 0, .ref s39, .ref s40, .ref s41, .ref s42]))] sz)) 0 0 (va_A [(h0, .inr (12, [.ref s0, .int 0, .int 0, .ref s3, .ref s4, .ref s5, .ref s6, .ref s7, .int 0, .int 0, .int 0, .int 6, .int 0, .int 0, .int 0, .ref s15, .int 0, .ref s17, .int 0, .ref s19, .ref s20, .int (-1), .int 0, .int 0, .int 0, .int 0, .int 0, .ref s27, .int 0, .ref s29, .ref s30, .ref s31, .int 0, .int 0, .int 0, .ref s35, .ref s36, .ref s37, .long 0, .ref s39, .ref s40, .ref s41, .ref s42]))] sz) := by
  refine Met.ofW (cc := cX12_clauseHere) (maxL := 3) (ret := (some .boolean)) (by decide) rfl ?_
  intro p e s m args below meth c s₁ B hml hv
  obtain ⟨rfl, hsz, hP, hK, hD0, hE⟩ := hv
  have hx := B.exec
  have hb := B.bytes
  have hr := B.returns
  have hts := atoms_spec (ws := .code yX12_clauseHere cX12_clauseHere 3 (some .boolean) :: wsA) B.pre
  have hq : ∀ w ∈ wsA, w.before _ s = true := fun w h => hts w (List.mem_cons_of_mem _ h)
  have hown : s.vm.findClass RX12 = some m.cls := findClass_of_methodNamed B.named
  have hlocks := B.notSynchronized
  subst hsz
  have hD := hD0.self (sz := s.heap.size)
  generalize hAe : va_A [(h0, .inr (12, [.ref s0, .int 0, .int 0, .ref s3, .ref s4, .ref s5, .ref s6, .ref s7, .int 0, .int 0, .int 0, .int 6, .int 0, .int 0, .int 0, .ref s15, .int 0, .ref s17, .int 0, .ref s19, .ref s20, .int (-1), .int 0, .int 0, .int 0, .int 0, .int 0, .ref s27, .int 0, .ref s29, .ref s30, .ref s31, .int 0, .int 0, .int 0, .ref s35, .ref s36, .ref s37, .long 0, .ref s39, .ref s40, .ref s41, .ref s42]))] s.heap.size = A at hD ⊢
  have hA : ∀ q : Nat, s.heap.size ≤ q → A q := fun q h => by rw [← hAe]; exact Or.inr h
  have hS : va_S A s.heap s.heap [] := va_S.rf
  have hl := lv_entry ([.ref h0]) (n := 3) (Nat.le_of_ble_eq_true rfl)
  rw [lg_entry_eq]
  generalize (lg_sl ([.ref h0]) ++ List.replicate (3 - (lg_sl ([.ref h0])).length) Slot.unset).toArray = ls at hl ⊢
  have hl : lv_has ls 3 [(0, .ref h0)] := hl
  refine lv_aload_n hx hb dX12_clauseHere_0 rfl (lv_at hl 0 rfl) ?_
  have hPc := hP.sub (ws' := [(h0, .inr (12, [.ref s0, .int 0, .int 0, .ref s3, .ref s4, .ref s5, .ref s6, .ref s7, .int 0, .int 0, .int 0, .int 6, .int 0, .int 0, .int 0, .ref s15, .int 0, .ref s17, .int 0, .ref s19, .ref s20, .int (-1), .int 0, .int 0, .int 0, .int 0, .int 0, .ref s27, .int 0, .ref s29, .ref s30, .ref s31, .int 0, .int 0, .int 0, .ref s35, .ref s36, .ref s37, .long 0, .ref s39, .ref s40, .ref s41, .ref s42]))]) [0] rfl
  have hDc := hD.sub (ws' := [(h0, .inr (12, [.ref s0, .int 0, .int 0, .ref s3, .ref s4, .ref s5, .ref s6, .ref s7, .int 0, .int 0, .int 0, .int 6, .int 0, .int 0, .int 0, .ref s15, .int 0, .ref s17, .int 0, .ref s19, .ref s20, .int (-1), .int 0, .int 0, .int 0, .int 0, .int 0, .ref s27, .int 0, .ref s29, .ref s30, .ref s31, .int 0, .int 0, .int 0, .ref s35, .ref s36, .ref s37, .long 0, .ref s39, .ref s40, .ref s41, .ref s42]))]) [0] (by decide) rfl
  have hKc := hK.sub (tys' := []) [] rfl
  have hFc := va_free (wc := [(h0, .inr (12, [.ref s0, .int 0, .int 0, .ref s3, .ref s4, .ref s5, .ref s6, .ref s7, .int 0, .int 0, .int 0, .int 6, .int 0, .int 0, .int 0, .ref s15, .int 0, .ref s17, .int 0, .ref s19, .ref s20, .int (-1), .int 0, .int 0, .int 0, .int 0, .int 0, .ref s27, .int 0, .ref s29, .ref s30, .ref s31, .int 0, .int 0, .int 0, .ref s35, .ref s36, .ref s37, .long 0, .ref s39, .ref s40, .ref s41, .ref s42]))]) hD hS hA [0] rfl
  refine va_calli (va_runV (As := []) (rest := []) ⟨hx, hb, hml, hown, hq⟩ (c_M_see l dC dI _ h0 s0 s3 s4 s5 s6 s7 s15 s17 s19 s20 s27 s29 s30 s31 s35 s36 s37 s39 s40 s41 s42 6 ) (cwV 0 hq (gV qw_1315 qw_1317 qw_42 qw_131 qw_1318) rfl rfl rfl (by decide +kernel) ⟨Nat.le_of_ble_eq_true rfl, Nat.le_of_ble_eq_true rfl⟩) ⟨fun a U g mk q => by obtain ⟨q0, q1, qP, qK, qD, qE⟩ := q; exact ⟨q0, q1, qP, va_K.moved (u := U) (U := U.calling g mk a) (Vm.Alike.refl U.vm) qK, qD, xE.same rfl qE⟩, va_recv hKc hPc (ci := 12) (q0 := 0) rfl rfl, fun U hU hW => ⟨rfl, by rw [hU], by rw [hU]; exact hPc, va_K.moved hW.alike hKc, hDc.weaken (fun _ _ _ _ => trivial), xE.warm hW hE⟩⟩ rfl rfl hl.1 rfl (lv_room (Nat.le_of_ble_eq_true rfl)) dX12_clauseHere_1 ⟨Nat.le_of_ble_eq_true rfl, Nat.le_of_ble_eq_true rfl⟩) hS (fun q _ h => hFc q h) hFc (fun r_1 u t H1 locs ht hvm hw hB hz1 hk1 hS => ?_)
  obtain ⟨hP1, hK1, hD1⟩ := hB
  rw [ht] at hP1
  have hK1 := va_K.moved hvm.symm hK1
  obtain ⟨hP, hD⟩ := va_join (wr := []) (w1 := [(h0, .inr (12, [.ref s0, .int 0, .int 0, .ref s3, .ref s4, .ref s5, .ref s6, .ref s7, .int 0, .int 0, .int 0, .int 6, .int 0, .int 0, .int 0, .ref s15, .int 0, .ref s17, .int 0, .ref s19, .ref s20, .int (-1), .int 0, .int 0, .int 0, .int 0, .int 0, .ref s27, .int 0, .ref s29, .ref s30, .ref s31, .int 0, .int 0, .int 0, .ref s35, .ref s36, .ref s37, .long 0, .ref s39, .ref s40, .ref s41, .ref s42]))]) hP hD [0] [] rfl rfl (by decide) (by decide) hk1 hFc hP1 hD1
  generalize H1 = H at hP hS ⊢
  have hP : va_P (dC, dI) classes [(h0, .inr (12, [.ref s0, .int 0, .int 0, .ref s3, .ref s4, .ref s5, .ref s6, .ref s7, .int 0, .int 0, .int 0, .int 6, .int 0, .int 0, .int 0, .ref s15, .int 0, .ref s17, .int 0, .ref s19, .ref s20, .int (-1), .int 0, .int 0, .int 0, .int 0, .int 0, .ref s27, .int 0, .ref s29, .ref s30, .ref s31, .int 0, .int 0, .int 0, .ref s35, .ref s36, .ref s37, .long 0, .ref s39, .ref s40, .ref s41, .ref s42]))] H := hP
  have hD : va_D A [(h0, .inr (12, [.ref s0, .int 0, .int 0, .ref s3, .ref s4, .ref s5, .ref s6, .ref s7, .int 0, .int 0, .int 0, .int 6, .int 0, .int 0, .int 0, .ref s15, .int 0, .ref s17, .int 0, .ref s19, .ref s20, .int (-1), .int 0, .int 0, .int 0, .int 0, .int 0, .ref s27, .int 0, .ref s29, .ref s30, .ref s31, .int 0, .int 0, .int 0, .ref s35, .ref s36, .ref s37, .long 0, .ref s39, .ref s40, .ref s41, .ref s42]))] := hD
  obtain rfl : r_1 = (-1) := hw
  refine lv_pop hx hb dX12_clauseHere_4 rfl ?_
  refine lv_aload_n hx hb dX12_clauseHere_5 rfl (lv_at hl 0 rfl) ?_
  refine va_get (D := (dC, dI)) (ci := 12) (v := .int 0) (C := RX12) (T := TX12) (N := 43) hx hb hq inX12 hown hK hP 0 rfl rfl 8 (by decide) (hq _ qw_1168) (fun _ h9 => h9) rfl dX12_clauseHere_6 ?_
  refine lv_istore_n (lv' := [(1, .int 0), (0, .ref h0)]) hx hb dX12_clauseHere_9 rfl hl (by decide) rfl (fun ls hl => ?_)
  refine lv_aload_n hx hb dX12_clauseHere_10 rfl (lv_at hl 1 rfl) ?_
  refine va_get (D := (dC, dI)) (ci := 12) (v := .int 6) (C := RX12) (T := TX12) (N := 43) hx hb hq inX12 hown hK hP 0 rfl rfl 11 (by decide) (hq _ qw_1171) (fun _ h9 => h9) rfl dX12_clauseHere_11 ?_
  refine lv_bipush (v := 6) hx hb dX12_clauseHere_14 (by decide) ?_
  refine lv_icmp_ne (tgt := 23) hx hb dX12_clauseHere_16 (by decide) (fun c9 => absurd c9 (by decide)) (fun _ => ?_)
  refine lv_iconst (v := 1) hx hb dX12_clauseHere_19 (by decide) ?_
  refine lv_goto (tgt := 24) hx hb dX12_clauseHere_20 (by decide) ?_
  refine lv_istore_n (lv' := [(2, .int 1), (1, .int 0), (0, .ref h0)]) hx hb dX12_clauseHere_24 rfl hl (by decide) rfl (fun ls hl => ?_)
  refine lv_iload_n hx hb dX12_clauseHere_25 rfl (lv_at hl 0 rfl) ?_
  refine lv_if_eq (tgt := 39) hx hb dX12_clauseHere_26 (by decide) (fun c9 => absurd c9 (by decide)) (fun _ => ?_)
  refine lv_aload_n hx hb dX12_clauseHere_29 rfl (lv_at hl 2 rfl) ?_
  have hPc := hP.sub (ws' := [(h0, .inr (12, [.ref s0, .int 0, .int 0, .ref s3, .ref s4, .ref s5, .ref s6, .ref s7, .int 0, .int 0, .int 0, .int 6, .int 0, .int 0, .int 0, .ref s15, .int 0, .ref s17, .int 0, .ref s19, .ref s20, .int (-1), .int 0, .int 0, .int 0, .int 0, .int 0, .ref s27, .int 0, .ref s29, .ref s30, .ref s31, .int 0, .int 0, .int 0, .ref s35, .ref s36, .ref s37, .long 0, .ref s39, .ref s40, .ref s41, .ref s42]))]) [0] rfl
  have hDc := hD.sub (ws' := [(h0, .inr (12, [.ref s0, .int 0, .int 0, .ref s3, .ref s4, .ref s5, .ref s6, .ref s7, .int 0, .int 0, .int 0, .int 6, .int 0, .int 0, .int 0, .ref s15, .int 0, .ref s17, .int 0, .ref s19, .ref s20, .int (-1), .int 0, .int 0, .int 0, .int 0, .int 0, .ref s27, .int 0, .ref s29, .ref s30, .ref s31, .int 0, .int 0, .int 0, .ref s35, .ref s36, .ref s37, .long 0, .ref s39, .ref s40, .ref s41, .ref s42]))]) [0] (by decide) rfl
  have hKc := hK.sub (tys' := []) [] rfl
  have hFc := va_free (wc := [(h0, .inr (12, [.ref s0, .int 0, .int 0, .ref s3, .ref s4, .ref s5, .ref s6, .ref s7, .int 0, .int 0, .int 0, .int 6, .int 0, .int 0, .int 0, .ref s15, .int 0, .ref s17, .int 0, .ref s19, .ref s20, .int (-1), .int 0, .int 0, .int 0, .int 0, .int 0, .ref s27, .int 0, .ref s29, .ref s30, .ref s31, .int 0, .int 0, .int 0, .ref s35, .ref s36, .ref s37, .long 0, .ref s39, .ref s40, .ref s41, .ref s42]))]) hD hS hA [0] rfl
  refine va_calli (va_runV (As := []) (rest := []) ⟨hx, hb, hml, hown, hq⟩ (c_M_isDinnerWord l dC dI _ h0 s0 s3 s4 s5 s6 s7 s15 s17 s19 s20 s27 s29 s30 s31 s35 s36 s37 s39 s40 s41 s42 6 ) (cwV 0 hq (gV qw_1319 qw_1321 qw_43 qw_131 qw_1322) rfl rfl rfl (by decide +kernel) ⟨Nat.le_of_ble_eq_true rfl, Nat.le_of_ble_eq_true rfl⟩) ⟨fun a U g mk q => by obtain ⟨q0, q1, qP, qK, qD, qE⟩ := q; exact ⟨q0, q1, qP, va_K.moved (u := U) (U := U.calling g mk a) (Vm.Alike.refl U.vm) qK, qD, xE.same rfl qE⟩, va_recv hKc hPc (ci := 12) (q0 := 0) rfl rfl, fun U hU hW => ⟨rfl, by rw [hU], by rw [hU]; exact hPc, va_K.moved hW.alike hKc, hDc.weaken (fun _ _ _ _ => trivial), xE.warm hW hE⟩⟩ rfl rfl hl.1 rfl (lv_room (Nat.le_of_ble_eq_true rfl)) dX12_clauseHere_30 ⟨Nat.le_of_ble_eq_true rfl, Nat.le_of_ble_eq_true rfl⟩) hS (fun q _ h => hFc q h) hFc (fun r_2 u t H1 locs ht hvm hw hB hz1 hk1 hS => ?_)
  obtain ⟨hP1, hK1, hD1⟩ := hB
  rw [ht] at hP1
  have hK1 := va_K.moved hvm.symm hK1
  obtain ⟨hP, hD⟩ := va_join (wr := []) (w1 := [(h0, .inr (12, [.ref s0, .int 0, .int 0, .ref s3, .ref s4, .ref s5, .ref s6, .ref s7, .int 0, .int 0, .int 0, .int 6, .int 0, .int 0, .int 0, .ref s15, .int 0, .ref s17, .int 0, .ref s19, .ref s20, .int (-1), .int 0, .int 0, .int 0, .int 0, .int 0, .ref s27, .int 0, .ref s29, .ref s30, .ref s31, .int 0, .int 0, .int 0, .ref s35, .ref s36, .ref s37, .long 0, .ref s39, .ref s40, .ref s41, .ref s42]))]) hP hD [0] [] rfl rfl (by decide) (by decide) hk1 hFc hP1 hD1
  generalize H1 = H at hP hS ⊢
  have hP : va_P (dC, dI) classes [(h0, .inr (12, [.ref s0, .int 0, .int 0, .ref s3, .ref s4, .ref s5, .ref s6, .ref s7, .int 0, .int 0, .int 0, .int 6, .int 0, .int 0, .int 0, .ref s15, .int 0, .ref s17, .int 0, .ref s19, .ref s20, .int (-1), .int 0, .int 0, .int 0, .int 0, .int 0, .ref s27, .int 0, .ref s29, .ref s30, .ref s31, .int 0, .int 0, .int 0, .ref s35, .ref s36, .ref s37, .long 0, .ref s39, .ref s40, .ref s41, .ref s42]))] H := hP
  have hD : va_D A [(h0, .inr (12, [.ref s0, .int 0, .int 0, .ref s3, .ref s4, .ref s5, .ref s6, .ref s7, .int 0, .int 0, .int 0, .int 6, .int 0, .int 0, .int 0, .ref s15, .int 0, .ref s17, .int 0, .ref s19, .ref s20, .int (-1), .int 0, .int 0, .int 0, .int 0, .int 0, .ref s27, .int 0, .ref s29, .ref s30, .ref s31, .int 0, .int 0, .int 0, .ref s35, .ref s36, .ref s37, .long 0, .ref s39, .ref s40, .ref s41, .ref s42]))] := hD
  obtain rfl : r_2 = 0 := hw
  refine lv_if_ne (tgt := 56) hx hb dX12_clauseHere_33 (by decide) (fun c9 => absurd c9 (by decide)) (fun _ => ?_)
  refine lv_goto (tgt := 49) hx hb dX12_clauseHere_36 (by decide) ?_
  refine lv_aload_n hx hb dX12_clauseHere_49 rfl (lv_at hl 2 rfl) ?_
  refine lv_iconst (v := 0) hx hb dX12_clauseHere_50 (by decide) ?_
  refine lv_iload_n hx hb dX12_clauseHere_51 rfl (lv_at hl 1 rfl) ?_
  have hPc := hP.sub (ws' := [(h0, .inr (12, [.ref s0, .int 0, .int 0, .ref s3, .ref s4, .ref s5, .ref s6, .ref s7, .int 0, .int 0, .int 0, .int 6, .int 0, .int 0, .int 0, .ref s15, .int 0, .ref s17, .int 0, .ref s19, .ref s20, .int (-1), .int 0, .int 0, .int 0, .int 0, .int 0, .ref s27, .int 0, .ref s29, .ref s30, .ref s31, .int 0, .int 0, .int 0, .ref s35, .ref s36, .ref s37, .long 0, .ref s39, .ref s40, .ref s41, .ref s42]))]) [0] rfl
  have hDc := hD.sub (ws' := [(h0, .inr (12, [.ref s0, .int 0, .int 0, .ref s3, .ref s4, .ref s5, .ref s6, .ref s7, .int 0, .int 0, .int 0, .int 6, .int 0, .int 0, .int 0, .ref s15, .int 0, .ref s17, .int 0, .ref s19, .ref s20, .int (-1), .int 0, .int 0, .int 0, .int 0, .int 0, .ref s27, .int 0, .ref s29, .ref s30, .ref s31, .int 0, .int 0, .int 0, .ref s35, .ref s36, .ref s37, .long 0, .ref s39, .ref s40, .ref s41, .ref s42]))]) [0] (by decide) rfl
  have hKc := hK.sub (tys' := []) [] rfl
  have hFc := va_free (wc := [(h0, .inr (12, [.ref s0, .int 0, .int 0, .ref s3, .ref s4, .ref s5, .ref s6, .ref s7, .int 0, .int 0, .int 0, .int 6, .int 0, .int 0, .int 0, .ref s15, .int 0, .ref s17, .int 0, .ref s19, .ref s20, .int (-1), .int 0, .int 0, .int 0, .int 0, .int 0, .ref s27, .int 0, .ref s29, .ref s30, .ref s31, .int 0, .int 0, .int 0, .ref s35, .ref s36, .ref s37, .long 0, .ref s39, .ref s40, .ref s41, .ref s42]))]) hD hS hA [0] rfl
  refine va_calli (va_runV (As := [.int 0, .int 0]) (rest := []) ⟨hx, hb, hml, hown, hq⟩ (c_M_fails l dC dI _ h0 s0 s3 s4 s5 s6 s7 s15 s17 s19 s20 s27 s29 s30 s31 s35 s36 s37 s39 s40 s41 s42 6 ) (cwV 2 hq (gV qw_1336 qw_1338 qw_46 qw_131 qw_1339) rfl rfl rfl (by decide +kernel) ⟨Nat.le_of_ble_eq_true rfl, Nat.le_of_ble_eq_true rfl⟩) ⟨fun a U g mk q => by obtain ⟨q0, q1, qP, qK, qD, qE⟩ := q; exact ⟨q0, q1, qP, va_K.moved (u := U) (U := U.calling g mk a) (Vm.Alike.refl U.vm) qK, qD, xE.same rfl qE⟩, va_recv hKc hPc (ci := 12) (q0 := 0) rfl rfl, fun U hU hW => ⟨rfl, by rw [hU], by rw [hU]; exact hPc, va_K.moved hW.alike hKc, hDc.weaken (fun _ _ _ _ => trivial), xE.warm hW hE⟩⟩ rfl rfl hl.1 rfl (lv_room (Nat.le_of_ble_eq_true rfl)) dX12_clauseHere_52 ⟨Nat.le_of_ble_eq_true rfl, Nat.le_of_ble_eq_true rfl⟩) hS (fun q _ h => hFc q h) hFc (fun r_3 u t H1 locs ht hvm hw hB hz1 hk1 hS => ?_)
  obtain ⟨hP1, hK1, hD1⟩ := hB
  rw [ht] at hP1
  have hK1 := va_K.moved hvm.symm hK1
  obtain ⟨hP, hD⟩ := va_join (wr := []) (w1 := [(h0, .inr (12, [.ref s0, .int 0, .int 0, .ref s3, .ref s4, .ref s5, .ref s6, .ref s7, .int 0, .int 1, .int 0, .int 6, .int 0, .int 0, .int 0, .ref s15, .int 0, .ref s17, .int 0, .ref s19, .ref s20, .int (-1), .int 0, .int 0, .int 0, .int 0, .int 0, .ref s27, .int 0, .ref s29, .ref s30, .ref s31, .int 0, .int 0, .int 0, .ref s35, .ref s36, .ref s37, .long 0, .ref s39, .ref s40, .ref s41, .ref s42]))]) hP hD [0] [] rfl rfl (by decide) (by decide) hk1 hFc hP1 hD1
  generalize H1 = H at hP hS ⊢
  have hP : va_P (dC, dI) classes [(h0, .inr (12, [.ref s0, .int 0, .int 0, .ref s3, .ref s4, .ref s5, .ref s6, .ref s7, .int 0, .int 1, .int 0, .int 6, .int 0, .int 0, .int 0, .ref s15, .int 0, .ref s17, .int 0, .ref s19, .ref s20, .int (-1), .int 0, .int 0, .int 0, .int 0, .int 0, .ref s27, .int 0, .ref s29, .ref s30, .ref s31, .int 0, .int 0, .int 0, .ref s35, .ref s36, .ref s37, .long 0, .ref s39, .ref s40, .ref s41, .ref s42]))] H := hP
  have hD : va_D A [(h0, .inr (12, [.ref s0, .int 0, .int 0, .ref s3, .ref s4, .ref s5, .ref s6, .ref s7, .int 0, .int 1, .int 0, .int 6, .int 0, .int 0, .int 0, .ref s15, .int 0, .ref s17, .int 0, .ref s19, .ref s20, .int (-1), .int 0, .int 0, .int 0, .int 0, .int 0, .ref s27, .int 0, .ref s29, .ref s30, .ref s31, .int 0, .int 0, .int 0, .ref s35, .ref s36, .ref s37, .long 0, .ref s39, .ref s40, .ref s41, .ref s42]))] := hD
  obtain rfl : r_3 = 0 := hw
  have hP9 := hP.sub (ws' := [(h0, .inr (12, [.ref s0, .int 0, .int 0, .ref s3, .ref s4, .ref s5, .ref s6, .ref s7, .int 0, .int 1, .int 0, .int 6, .int 0, .int 0, .int 0, .ref s15, .int 0, .ref s17, .int 0, .ref s19, .ref s20, .int (-1), .int 0, .int 0, .int 0, .int 0, .int 0, .ref s27, .int 0, .ref s29, .ref s30, .ref s31, .int 0, .int 0, .int 0, .ref s35, .ref s36, .ref s37, .long 0, .ref s39, .ref s40, .ref s41, .ref s42]))]) [0] rfl
  have hD9 := hD.sub (ws' := [(h0, .inr (12, [.ref s0, .int 0, .int 0, .ref s3, .ref s4, .ref s5, .ref s6, .ref s7, .int 0, .int 1, .int 0, .int 6, .int 0, .int 0, .int 0, .ref s15, .int 0, .ref s17, .int 0, .ref s19, .ref s20, .int (-1), .int 0, .int 0, .int 0, .int 0, .int 0, .ref s27, .int 0, .ref s29, .ref s30, .ref s31, .int 0, .int 0, .int 0, .ref s35, .ref s36, .ref s37, .long 0, .ref s39, .ref s40, .ref s41, .ref s42]))]) [0] (by decide) rfl
  have hK9 := hK.sub (tys' := []) [] rfl
  refine W.widen (k := 0) (n := 0) (Nat.le_of_ble_eq_true rfl) (Nat.le_of_ble_eq_true rfl) ?_
  exact W.zret (v := 0) hx hb hr (by decide) (fun t ht hW => ⟨⟨0, (), rfl, rfl, by rw [ht]; exact hP9, va_K.moved hW.alike hK9, hD9⟩, hS.F ht⟩) hS.2.2 dX12_clauseHere_55

set_option maxHeartbeats 4000000 in
set_option maxRecDepth 100000 in
/-- c_M_clauseHere_0 -/
theorem c_M_clauseHere_0 (l : Launch) (dC : Nat → ClassId) (dI : Nat → Nat → Nat) (sz : Nat) (h0 : Nat) (s0 : Nat) (s3 : Nat) (s4 : Nat) (s5 : Nat) (s6 : Nat) (s7 : Nat) (s15 : Nat) (s17 : Nat) (s19 : Nat) (s20 : Nat) (s27 : Nat) (s29 : Nat) (s30 : Nat) (s31 : Nat) (s35 : Nat) (s36 : Nat) (s37 : Nat) (s39 : Nat) (s40 : Nat) (s41 : Nat) (s42 : Nat) : Met l yX12_clauseHere (.code yX12_clauseHere cX12_clauseHere 3 (some .boolean) :: wsA) ({ frames := 2, cells := 0, slots := 0, locals := 46 }) (va_Pc [.ref h0] (fun U => U.heap.size = sz ∧ va_P (dC, dI) classes [(h0, .inr (12, [.ref s0, .int 0, .int 0, .ref s3, .ref s4, .ref s5, .ref s6, .ref s7, .int 0, .int 0, .int 0, .int 0, .int 0, .int 0, .int 0, .ref s15, .int 0, .ref s17, .int 0, .ref s19, .ref s20, .int (-1), .int 0, .int 0, .int 0, .int 0, .int 0, .ref s27, .int 0, .ref s29, .ref s30, .ref s31, .int 0, .int 0, .int 0, .ref s35, .ref s36, .ref s37, .long 0, .ref s39, .ref s40, .ref s41, .ref s42]))] U.heap ∧ va_K (dC, dI) classes [] U ∧ va_D (fun _ => True) [(h0, .inr (12, [.ref s0, .int 0, .int 0, .ref s3, .ref s4, .ref s5, .ref s6, .ref s7, .int 0, .int 0, .int 0, .int 0, .int 0, .int 0, .int 0, .ref s15, .int 0, .ref s17, .int 0, .ref s19, .ref s20, .int (-1), .int 0, .int 0, .int 0, .int 0, .int 0, .ref s27, .int 0, .ref s29, .ref s30, .ref s31, .int 0, .int 0, .int 0, .ref s35, .ref s36, .ref s37, .long 0, .ref s39, .ref s40, .ref s41, .ref s42]))] ∧ xE U)) (va_Qi (fun (r : Int32) (_ : Unit) => r = 0) (fun _ t => va_P (dC, dI) classes [(h0, .inr (12, [.ref s0, .int 0, .int 0, .ref s3, .ref s4, .ref s5, .ref s6, .ref s7, .int 0, .int 1, .int 0, .int 0, .int 0, .int 0, .int 0, .ref s15, .int 0, .ref s17, .int 0, .ref s19, .ref s20, .int (-1), .int 0, .int 0, .int 0, .int 0, .int 0, .ref s27, .int 0, .ref s29, .ref s30, .ref s31, .int 0, .int 0, .int 0, .ref s35, .ref s36, .ref s37, .long 0, .ref s39, .ref s40, .ref s41, .ref s42]))] t.heap ∧ va_K (dC, dI) classes [] t ∧ va_D (va_A [(h0, .inr (12, [.ref s0, .int 0, .int 0, .ref s3, .ref s4, .ref s5, .ref s6, .ref s7, .int 0, .int 0, .int 0, .int 0, .int 0, .int 0, .int 0, .ref s15, .int 0, .ref s17, .int 0, .ref s19, .ref s20, .int (-1), .int 0, .int 0, .int 0, .int 0, .int 0, .ref s27, .int 0, .ref s29, .ref s30, .ref s31, .int 0, .int 0, .int 0, .ref s35, .ref s36, .ref s37, .long 0, .ref s39, .ref s40, .ref s41, .ref s42]))] sz) [(h0, .inr (12, [.ref s0, .int 0, .int 0, .ref s3, .ref s4, .ref s5, .ref s6, .ref s7, .int 0, .int 1, .int 0, .int 0, .int 0, .int 0, .int 0, .ref s15, .int 0, .ref s17, .int 0, .ref s19, .ref s20, .int (-1), .int 0, .int 0, .int 0, .int 0, .int 0, .ref s27, .int 0, .ref s29, .ref s30, .ref s31, .int 0, .int 0, .int 0, .ref s35, .ref s36, .ref s37, .long 0, .ref s39, .ref s40, .ref s41, .ref s42]))]) (va_A [(h0, .inr (12, [.ref s0, .int 0, .int 0, .ref s3, .ref s4, .ref s5, .ref s6, .ref s7, .int 0, .int 0, .int 0, .int 0, .int 0, .int 0, .int 0, .ref s15, .int 0, .ref s17, .int 0, .ref s19, .ref s20, .int (-1), .int 0, .int 0, .int 0, .int 0, .int 0, .ref s27, .int 0, .ref s29, .ref s30, .ref s31, .int 0, .int 0, .int 0, .ref s35, .ref s36, .ref s37, .long 0, .ref s39, .ref s40, .ref s41, .ref s42]))] sz)) 0 0 (va_A [(h0, .inr (12, [.ref s0, .int 0, .int 0, .ref s3, .ref s4, .ref s5, .ref s6, .ref s7, .int 0, .int 0, .int 0, .int 0, .int 0, .int 0, .int 0, .ref s15, .int 0, .ref s17, .int 0, .ref s19, .ref s20, .int (-1), .int 0, .int 0, .int 0, .int 0, .int 0, .ref s27, .int 0, .ref s29, .ref s30, .ref s31, .int 0, .int 0, .int 0, .ref s35, .ref s36, .ref s37, .long 0, .ref s39, .ref s40, .ref s41, .ref s42]))] sz) := by
  refine Met.ofW (cc := cX12_clauseHere) (maxL := 3) (ret := (some .boolean)) (by decide) rfl ?_
  intro p e s m args below meth c s₁ B hml hv
  obtain ⟨rfl, hsz, hP, hK, hD0, hE⟩ := hv
  have hx := B.exec
  have hb := B.bytes
  have hr := B.returns
  have hts := atoms_spec (ws := .code yX12_clauseHere cX12_clauseHere 3 (some .boolean) :: wsA) B.pre
  have hq : ∀ w ∈ wsA, w.before _ s = true := fun w h => hts w (List.mem_cons_of_mem _ h)
  have hown : s.vm.findClass RX12 = some m.cls := findClass_of_methodNamed B.named
  have hlocks := B.notSynchronized
  subst hsz
  have hD := hD0.self (sz := s.heap.size)
  generalize hAe : va_A [(h0, .inr (12, [.ref s0, .int 0, .int 0, .ref s3, .ref s4, .ref s5, .ref s6, .ref s7, .int 0, .int 0, .int 0, .int 0, .int 0, .int 0, .int 0, .ref s15, .int 0, .ref s17, .int 0, .ref s19, .ref s20, .int (-1), .int 0, .int 0, .int 0, .int 0, .int 0, .ref s27, .int 0, .ref s29, .ref s30, .ref s31, .int 0, .int 0, .int 0, .ref s35, .ref s36, .ref s37, .long 0, .ref s39, .ref s40, .ref s41, .ref s42]))] s.heap.size = A at hD ⊢
  have hA : ∀ q : Nat, s.heap.size ≤ q → A q := fun q h => by rw [← hAe]; exact Or.inr h
  have hS : va_S A s.heap s.heap [] := va_S.rf
  have hl := lv_entry ([.ref h0]) (n := 3) (Nat.le_of_ble_eq_true rfl)
  rw [lg_entry_eq]
  generalize (lg_sl ([.ref h0]) ++ List.replicate (3 - (lg_sl ([.ref h0])).length) Slot.unset).toArray = ls at hl ⊢
  have hl : lv_has ls 3 [(0, .ref h0)] := hl
  refine lv_aload_n hx hb dX12_clauseHere_0 rfl (lv_at hl 0 rfl) ?_
  have hPc := hP.sub (ws' := [(h0, .inr (12, [.ref s0, .int 0, .int 0, .ref s3, .ref s4, .ref s5, .ref s6, .ref s7, .int 0, .int 0, .int 0, .int 0, .int 0, .int 0, .int 0, .ref s15, .int 0, .ref s17, .int 0, .ref s19, .ref s20, .int (-1), .int 0, .int 0, .int 0, .int 0, .int 0, .ref s27, .int 0, .ref s29, .ref s30, .ref s31, .int 0, .int 0, .int 0, .ref s35, .ref s36, .ref s37, .long 0, .ref s39, .ref s40, .ref s41, .ref s42]))]) [0] rfl
  have hDc := hD.sub (ws' := [(h0, .inr (12, [.ref s0, .int 0, .int 0, .ref s3, .ref s4, .ref s5, .ref s6, .ref s7, .int 0, .int 0, .int 0, .int 0, .int 0, .int 0, .int 0, .ref s15, .int 0, .ref s17, .int 0, .ref s19, .ref s20, .int (-1), .int 0, .int 0, .int 0, .int 0, .int 0, .ref s27, .int 0, .ref s29, .ref s30, .ref s31, .int 0, .int 0, .int 0, .ref s35, .ref s36, .ref s37, .long 0, .ref s39, .ref s40, .ref s41, .ref s42]))]) [0] (by decide) rfl
  have hKc := hK.sub (tys' := []) [] rfl
  have hFc := va_free (wc := [(h0, .inr (12, [.ref s0, .int 0, .int 0, .ref s3, .ref s4, .ref s5, .ref s6, .ref s7, .int 0, .int 0, .int 0, .int 0, .int 0, .int 0, .int 0, .ref s15, .int 0, .ref s17, .int 0, .ref s19, .ref s20, .int (-1), .int 0, .int 0, .int 0, .int 0, .int 0, .ref s27, .int 0, .ref s29, .ref s30, .ref s31, .int 0, .int 0, .int 0, .ref s35, .ref s36, .ref s37, .long 0, .ref s39, .ref s40, .ref s41, .ref s42]))]) hD hS hA [0] rfl
  refine va_calli (va_runV (As := []) (rest := []) ⟨hx, hb, hml, hown, hq⟩ (c_M_see l dC dI _ h0 s0 s3 s4 s5 s6 s7 s15 s17 s19 s20 s27 s29 s30 s31 s35 s36 s37 s39 s40 s41 s42 0 ) (cwV 0 hq (gV qw_1315 qw_1317 qw_42 qw_131 qw_1318) rfl rfl rfl (by decide +kernel) ⟨Nat.le_of_ble_eq_true rfl, Nat.le_of_ble_eq_true rfl⟩) ⟨fun a U g mk q => by obtain ⟨q0, q1, qP, qK, qD, qE⟩ := q; exact ⟨q0, q1, qP, va_K.moved (u := U) (U := U.calling g mk a) (Vm.Alike.refl U.vm) qK, qD, xE.same rfl qE⟩, va_recv hKc hPc (ci := 12) (q0 := 0) rfl rfl, fun U hU hW => ⟨rfl, by rw [hU], by rw [hU]; exact hPc, va_K.moved hW.alike hKc, hDc.weaken (fun _ _ _ _ => trivial), xE.warm hW hE⟩⟩ rfl rfl hl.1 rfl (lv_room (Nat.le_of_ble_eq_true rfl)) dX12_clauseHere_1 ⟨Nat.le_of_ble_eq_true rfl, Nat.le_of_ble_eq_true rfl⟩) hS (fun q _ h => hFc q h) hFc (fun r_1 u t H1 locs ht hvm hw hB hz1 hk1 hS => ?_)
  obtain ⟨hP1, hK1, hD1⟩ := hB
  rw [ht] at hP1
  have hK1 := va_K.moved hvm.symm hK1
  obtain ⟨hP, hD⟩ := va_join (wr := []) (w1 := [(h0, .inr (12, [.ref s0, .int 0, .int 0, .ref s3, .ref s4, .ref s5, .ref s6, .ref s7, .int 0, .int 0, .int 0, .int 0, .int 0, .int 0, .int 0, .ref s15, .int 0, .ref s17, .int 0, .ref s19, .ref s20, .int (-1), .int 0, .int 0, .int 0, .int 0, .int 0, .ref s27, .int 0, .ref s29, .ref s30, .ref s31, .int 0, .int 0, .int 0, .ref s35, .ref s36, .ref s37, .long 0, .ref s39, .ref s40, .ref s41, .ref s42]))]) hP hD [0] [] rfl rfl (by decide) (by decide) hk1 hFc hP1 hD1
  generalize H1 = H at hP hS ⊢
  have hP : va_P (dC, dI) classes [(h0, .inr (12, [.ref s0, .int 0, .int 0, .ref s3, .ref s4, .ref s5, .ref s6, .ref s7, .int 0, .int 0, .int 0, .int 0, .int 0, .int 0, .int 0, .ref s15, .int 0, .ref s17, .int 0, .ref s19, .ref s20, .int (-1), .int 0, .int 0, .int 0, .int 0, .int 0, .ref s27, .int 0, .ref s29, .ref s30, .ref s31, .int 0, .int 0, .int 0, .ref s35, .ref s36, .ref s37, .long 0, .ref s39, .ref s40, .ref s41, .ref s42]))] H := hP
  have hD : va_D A [(h0, .inr (12, [.ref s0, .int 0, .int 0, .ref s3, .ref s4, .ref s5, .ref s6, .ref s7, .int 0, .int 0, .int 0, .int 0, .int 0, .int 0, .int 0, .ref s15, .int 0, .ref s17, .int 0, .ref s19, .ref s20, .int (-1), .int 0, .int 0, .int 0, .int 0, .int 0, .ref s27, .int 0, .ref s29, .ref s30, .ref s31, .int 0, .int 0, .int 0, .ref s35, .ref s36, .ref s37, .long 0, .ref s39, .ref s40, .ref s41, .ref s42]))] := hD
  obtain rfl : r_1 = (-1) := hw
  refine lv_pop hx hb dX12_clauseHere_4 rfl ?_
  refine lv_aload_n hx hb dX12_clauseHere_5 rfl (lv_at hl 0 rfl) ?_
  refine va_get (D := (dC, dI)) (ci := 12) (v := .int 0) (C := RX12) (T := TX12) (N := 43) hx hb hq inX12 hown hK hP 0 rfl rfl 8 (by decide) (hq _ qw_1168) (fun _ h9 => h9) rfl dX12_clauseHere_6 ?_
  refine lv_istore_n (lv' := [(1, .int 0), (0, .ref h0)]) hx hb dX12_clauseHere_9 rfl hl (by decide) rfl (fun ls hl => ?_)
  refine lv_aload_n hx hb dX12_clauseHere_10 rfl (lv_at hl 1 rfl) ?_
  refine va_get (D := (dC, dI)) (ci := 12) (v := .int 0) (C := RX12) (T := TX12) (N := 43) hx hb hq inX12 hown hK hP 0 rfl rfl 11 (by decide) (hq _ qw_1171) (fun _ h9 => h9) rfl dX12_clauseHere_11 ?_
  refine lv_bipush (v := 6) hx hb dX12_clauseHere_14 (by decide) ?_
  refine lv_icmp_ne (tgt := 23) hx hb dX12_clauseHere_16 (by decide) (fun _ => ?_) (fun c9 => absurd c9 (by decide))
  refine lv_iconst (v := 0) hx hb dX12_clauseHere_23 (by decide) ?_
  refine lv_istore_n (lv' := [(2, .int 0), (1, .int 0), (0, .ref h0)]) hx hb dX12_clauseHere_24 rfl hl (by decide) rfl (fun ls hl => ?_)
  refine lv_iload_n hx hb dX12_clauseHere_25 rfl (lv_at hl 0 rfl) ?_
  refine lv_if_eq (tgt := 39) hx hb dX12_clauseHere_26 (by decide) (fun _ => ?_) (fun c9 => absurd c9 (by decide))
  refine lv_aload_n hx hb dX12_clauseHere_39 rfl (lv_at hl 2 rfl) ?_
  refine lv_ldc2 (v := 6644084) hx hb hown (hq _ qw_1335) dX12_clauseHere_40 ?_
  have hPc := hP.sub (ws' := [(h0, .inr (12, [.ref s0, .int 0, .int 0, .ref s3, .ref s4, .ref s5, .ref s6, .ref s7, .int 0, .int 0, .int 0, .int 0, .int 0, .int 0, .int 0, .ref s15, .int 0, .ref s17, .int 0, .ref s19, .ref s20, .int (-1), .int 0, .int 0, .int 0, .int 0, .int 0, .ref s27, .int 0, .ref s29, .ref s30, .ref s31, .int 0, .int 0, .int 0, .ref s35, .ref s36, .ref s37, .long 0, .ref s39, .ref s40, .ref s41, .ref s42]))]) [0] rfl
  have hDc := hD.sub (ws' := [(h0, .inr (12, [.ref s0, .int 0, .int 0, .ref s3, .ref s4, .ref s5, .ref s6, .ref s7, .int 0, .int 0, .int 0, .int 0, .int 0, .int 0, .int 0, .ref s15, .int 0, .ref s17, .int 0, .ref s19, .ref s20, .int (-1), .int 0, .int 0, .int 0, .int 0, .int 0, .ref s27, .int 0, .ref s29, .ref s30, .ref s31, .int 0, .int 0, .int 0, .ref s35, .ref s36, .ref s37, .long 0, .ref s39, .ref s40, .ref s41, .ref s42]))]) [0] (by decide) rfl
  have hKc := hK.sub (tys' := []) [] rfl
  have hFc := va_free (wc := [(h0, .inr (12, [.ref s0, .int 0, .int 0, .ref s3, .ref s4, .ref s5, .ref s6, .ref s7, .int 0, .int 0, .int 0, .int 0, .int 0, .int 0, .int 0, .ref s15, .int 0, .ref s17, .int 0, .ref s19, .ref s20, .int (-1), .int 0, .int 0, .int 0, .int 0, .int 0, .ref s27, .int 0, .ref s29, .ref s30, .ref s31, .int 0, .int 0, .int 0, .ref s35, .ref s36, .ref s37, .long 0, .ref s39, .ref s40, .ref s41, .ref s42]))]) hD hS hA [0] rfl
  refine va_calli (va_runV (As := [.long 6644084]) (rest := []) ⟨hx, hb, hml, hown, hq⟩ (c_M_isWord l dC dI _ h0 s0 s3 s4 s5 s6 s7 s15 s17 s19 s20 s27 s29 s30 s31 s35 s36 s37 s39 s40 s41 s42 0 6644084 ) (cwV 1 hq (gV qw_1324 qw_1326 qw_44 qw_131 qw_1327) rfl rfl rfl (by decide +kernel) ⟨Nat.le_of_ble_eq_true rfl, Nat.le_of_ble_eq_true rfl⟩) ⟨fun a U g mk q => by obtain ⟨q0, q1, qP, qK, qD, qE⟩ := q; exact ⟨q0, q1, qP, va_K.moved (u := U) (U := U.calling g mk a) (Vm.Alike.refl U.vm) qK, qD, xE.same rfl qE⟩, va_recv hKc hPc (ci := 12) (q0 := 0) rfl rfl, fun U hU hW => ⟨rfl, by rw [hU], by rw [hU]; exact hPc, va_K.moved hW.alike hKc, hDc.weaken (fun _ _ _ _ => trivial), xE.warm hW hE⟩⟩ rfl rfl hl.1 rfl (lv_room (Nat.le_of_ble_eq_true rfl)) dX12_clauseHere_43 ⟨Nat.le_of_ble_eq_true rfl, Nat.le_of_ble_eq_true rfl⟩) hS (fun q _ h => hFc q h) hFc (fun r_2 u t H1 locs ht hvm hw hB hz1 hk1 hS => ?_)
  obtain ⟨hP1, hK1, hD1⟩ := hB
  rw [ht] at hP1
  have hK1 := va_K.moved hvm.symm hK1
  obtain ⟨hP, hD⟩ := va_join (wr := []) (w1 := [(h0, .inr (12, [.ref s0, .int 0, .int 0, .ref s3, .ref s4, .ref s5, .ref s6, .ref s7, .int 0, .int 0, .int 0, .int 0, .int 0, .int 0, .int 0, .ref s15, .int 0, .ref s17, .int 0, .ref s19, .ref s20, .int (-1), .int 0, .int 0, .int 0, .int 0, .int 0, .ref s27, .int 0, .ref s29, .ref s30, .ref s31, .int 0, .int 0, .int 0, .ref s35, .ref s36, .ref s37, .long 0, .ref s39, .ref s40, .ref s41, .ref s42]))]) hP hD [0] [] rfl rfl (by decide) (by decide) hk1 hFc hP1 hD1
  generalize H1 = H at hP hS ⊢
  have hP : va_P (dC, dI) classes [(h0, .inr (12, [.ref s0, .int 0, .int 0, .ref s3, .ref s4, .ref s5, .ref s6, .ref s7, .int 0, .int 0, .int 0, .int 0, .int 0, .int 0, .int 0, .ref s15, .int 0, .ref s17, .int 0, .ref s19, .ref s20, .int (-1), .int 0, .int 0, .int 0, .int 0, .int 0, .ref s27, .int 0, .ref s29, .ref s30, .ref s31, .int 0, .int 0, .int 0, .ref s35, .ref s36, .ref s37, .long 0, .ref s39, .ref s40, .ref s41, .ref s42]))] H := hP
  have hD : va_D A [(h0, .inr (12, [.ref s0, .int 0, .int 0, .ref s3, .ref s4, .ref s5, .ref s6, .ref s7, .int 0, .int 0, .int 0, .int 0, .int 0, .int 0, .int 0, .ref s15, .int 0, .ref s17, .int 0, .ref s19, .ref s20, .int (-1), .int 0, .int 0, .int 0, .int 0, .int 0, .ref s27, .int 0, .ref s29, .ref s30, .ref s31, .int 0, .int 0, .int 0, .ref s35, .ref s36, .ref s37, .long 0, .ref s39, .ref s40, .ref s41, .ref s42]))] := hD
  obtain rfl : r_2 = 0 := hw
  refine lv_if_ne (tgt := 56) hx hb dX12_clauseHere_46 (by decide) (fun c9 => absurd c9 (by decide)) (fun _ => ?_)
  refine lv_aload_n hx hb dX12_clauseHere_49 rfl (lv_at hl 2 rfl) ?_
  refine lv_iconst (v := 0) hx hb dX12_clauseHere_50 (by decide) ?_
  refine lv_iload_n hx hb dX12_clauseHere_51 rfl (lv_at hl 1 rfl) ?_
  have hPc := hP.sub (ws' := [(h0, .inr (12, [.ref s0, .int 0, .int 0, .ref s3, .ref s4, .ref s5, .ref s6, .ref s7, .int 0, .int 0, .int 0, .int 0, .int 0, .int 0, .int 0, .ref s15, .int 0, .ref s17, .int 0, .ref s19, .ref s20, .int (-1), .int 0, .int 0, .int 0, .int 0, .int 0, .ref s27, .int 0, .ref s29, .ref s30, .ref s31, .int 0, .int 0, .int 0, .ref s35, .ref s36, .ref s37, .long 0, .ref s39, .ref s40, .ref s41, .ref s42]))]) [0] rfl
  have hDc := hD.sub (ws' := [(h0, .inr (12, [.ref s0, .int 0, .int 0, .ref s3, .ref s4, .ref s5, .ref s6, .ref s7, .int 0, .int 0, .int 0, .int 0, .int 0, .int 0, .int 0, .ref s15, .int 0, .ref s17, .int 0, .ref s19, .ref s20, .int (-1), .int 0, .int 0, .int 0, .int 0, .int 0, .ref s27, .int 0, .ref s29, .ref s30, .ref s31, .int 0, .int 0, .int 0, .ref s35, .ref s36, .ref s37, .long 0, .ref s39, .ref s40, .ref s41, .ref s42]))]) [0] (by decide) rfl
  have hKc := hK.sub (tys' := []) [] rfl
  have hFc := va_free (wc := [(h0, .inr (12, [.ref s0, .int 0, .int 0, .ref s3, .ref s4, .ref s5, .ref s6, .ref s7, .int 0, .int 0, .int 0, .int 0, .int 0, .int 0, .int 0, .ref s15, .int 0, .ref s17, .int 0, .ref s19, .ref s20, .int (-1), .int 0, .int 0, .int 0, .int 0, .int 0, .ref s27, .int 0, .ref s29, .ref s30, .ref s31, .int 0, .int 0, .int 0, .ref s35, .ref s36, .ref s37, .long 0, .ref s39, .ref s40, .ref s41, .ref s42]))]) hD hS hA [0] rfl
  refine va_calli (va_runV (As := [.int 0, .int 0]) (rest := []) ⟨hx, hb, hml, hown, hq⟩ (c_M_fails l dC dI _ h0 s0 s3 s4 s5 s6 s7 s15 s17 s19 s20 s27 s29 s30 s31 s35 s36 s37 s39 s40 s41 s42 0 ) (cwV 2 hq (gV qw_1336 qw_1338 qw_46 qw_131 qw_1339) rfl rfl rfl (by decide +kernel) ⟨Nat.le_of_ble_eq_true rfl, Nat.le_of_ble_eq_true rfl⟩) ⟨fun a U g mk q => by obtain ⟨q0, q1, qP, qK, qD, qE⟩ := q; exact ⟨q0, q1, qP, va_K.moved (u := U) (U := U.calling g mk a) (Vm.Alike.refl U.vm) qK, qD, xE.same rfl qE⟩, va_recv hKc hPc (ci := 12) (q0 := 0) rfl rfl, fun U hU hW => ⟨rfl, by rw [hU], by rw [hU]; exact hPc, va_K.moved hW.alike hKc, hDc.weaken (fun _ _ _ _ => trivial), xE.warm hW hE⟩⟩ rfl rfl hl.1 rfl (lv_room (Nat.le_of_ble_eq_true rfl)) dX12_clauseHere_52 ⟨Nat.le_of_ble_eq_true rfl, Nat.le_of_ble_eq_true rfl⟩) hS (fun q _ h => hFc q h) hFc (fun r_3 u t H1 locs ht hvm hw hB hz1 hk1 hS => ?_)
  obtain ⟨hP1, hK1, hD1⟩ := hB
  rw [ht] at hP1
  have hK1 := va_K.moved hvm.symm hK1
  obtain ⟨hP, hD⟩ := va_join (wr := []) (w1 := [(h0, .inr (12, [.ref s0, .int 0, .int 0, .ref s3, .ref s4, .ref s5, .ref s6, .ref s7, .int 0, .int 1, .int 0, .int 0, .int 0, .int 0, .int 0, .ref s15, .int 0, .ref s17, .int 0, .ref s19, .ref s20, .int (-1), .int 0, .int 0, .int 0, .int 0, .int 0, .ref s27, .int 0, .ref s29, .ref s30, .ref s31, .int 0, .int 0, .int 0, .ref s35, .ref s36, .ref s37, .long 0, .ref s39, .ref s40, .ref s41, .ref s42]))]) hP hD [0] [] rfl rfl (by decide) (by decide) hk1 hFc hP1 hD1
  generalize H1 = H at hP hS ⊢
  have hP : va_P (dC, dI) classes [(h0, .inr (12, [.ref s0, .int 0, .int 0, .ref s3, .ref s4, .ref s5, .ref s6, .ref s7, .int 0, .int 1, .int 0, .int 0, .int 0, .int 0, .int 0, .ref s15, .int 0, .ref s17, .int 0, .ref s19, .ref s20, .int (-1), .int 0, .int 0, .int 0, .int 0, .int 0, .ref s27, .int 0, .ref s29, .ref s30, .ref s31, .int 0, .int 0, .int 0, .ref s35, .ref s36, .ref s37, .long 0, .ref s39, .ref s40, .ref s41, .ref s42]))] H := hP
  have hD : va_D A [(h0, .inr (12, [.ref s0, .int 0, .int 0, .ref s3, .ref s4, .ref s5, .ref s6, .ref s7, .int 0, .int 1, .int 0, .int 0, .int 0, .int 0, .int 0, .ref s15, .int 0, .ref s17, .int 0, .ref s19, .ref s20, .int (-1), .int 0, .int 0, .int 0, .int 0, .int 0, .ref s27, .int 0, .ref s29, .ref s30, .ref s31, .int 0, .int 0, .int 0, .ref s35, .ref s36, .ref s37, .long 0, .ref s39, .ref s40, .ref s41, .ref s42]))] := hD
  obtain rfl : r_3 = 0 := hw
  have hP9 := hP.sub (ws' := [(h0, .inr (12, [.ref s0, .int 0, .int 0, .ref s3, .ref s4, .ref s5, .ref s6, .ref s7, .int 0, .int 1, .int 0, .int 0, .int 0, .int 0, .int 0, .ref s15, .int 0, .ref s17, .int 0, .ref s19, .ref s20, .int (-1), .int 0, .int 0, .int 0, .int 0, .int 0, .ref s27, .int 0, .ref s29, .ref s30, .ref s31, .int 0, .int 0, .int 0, .ref s35, .ref s36, .ref s37, .long 0, .ref s39, .ref s40, .ref s41, .ref s42]))]) [0] rfl
  have hD9 := hD.sub (ws' := [(h0, .inr (12, [.ref s0, .int 0, .int 0, .ref s3, .ref s4, .ref s5, .ref s6, .ref s7, .int 0, .int 1, .int 0, .int 0, .int 0, .int 0, .int 0, .ref s15, .int 0, .ref s17, .int 0, .ref s19, .ref s20, .int (-1), .int 0, .int 0, .int 0, .int 0, .int 0, .ref s27, .int 0, .ref s29, .ref s30, .ref s31, .int 0, .int 0, .int 0, .ref s35, .ref s36, .ref s37, .long 0, .ref s39, .ref s40, .ref s41, .ref s42]))]) [0] (by decide) rfl
  have hK9 := hK.sub (tys' := []) [] rfl
  refine W.widen (k := 0) (n := 0) (Nat.le_of_ble_eq_true rfl) (Nat.le_of_ble_eq_true rfl) ?_
  exact W.zret (v := 0) hx hb hr (by decide) (fun t ht hW => ⟨⟨0, (), rfl, rfl, by rw [ht]; exact hP9, va_K.moved hW.alike hK9, hD9⟩, hS.F ht⟩) hS.2.2 dX12_clauseHere_55

set_option maxHeartbeats 4000000 in
set_option maxRecDepth 100000 in
/-- c_M_readsAll_6 -/
theorem c_M_readsAll_6 (l : Launch) (dC : Nat → ClassId) (dI : Nat → Nat → Nat) (sz : Nat) (h0 : Nat) (s0 : Nat) (s3 : Nat) (s4 : Nat) (s5 : Nat) (s6 : Nat) (s7 : Nat) (s15 : Nat) (s17 : Nat) (s19 : Nat) (s20 : Nat) (s27 : Nat) (s29 : Nat) (s30 : Nat) (s31 : Nat) (s35 : Nat) (s36 : Nat) (s37 : Nat) (s39 : Nat) (s40 : Nat) (s41 : Nat) (s42 : Nat) (k4 : ClassId) (g4 : Nat → Int32) : Met l yX12_readsAll (.code yX12_readsAll cX12_readsAll 2 (some .boolean) :: wsA) ({ frames := 4, cells := 0, slots := 0, locals := 88 }) (va_Pc [.ref h0] (fun U => U.heap.size = sz ∧ va_P (dC, dI) classes [(h0, .inr (12, [.ref s0, .int 0, .int 0, .ref s3, .ref s4, .ref s5, .ref s6, .ref s7, .int 0, .int 0, .int 0, .int 6, .int 0, .int 0, .int 0, .ref s15, .int 0, .ref s17, .int 0, .ref s19, .ref s20, .int (-1), .int 0, .int 0, .int 0, .int 0, .int 0, .ref s27, .int 0, .ref s29, .ref s30, .ref s31, .int 0, .int 0, .int 0, .ref s35, .ref s36, .ref s37, .long 0, .ref s39, .ref s40, .ref s41, .ref s42])), (s4, .inl (k4, 7, .inl g4))] U.heap ∧ va_K (dC, dI) classes [(k4, .int)] U ∧ va_D (fun _ => True) [(h0, .inr (12, [.ref s0, .int 0, .int 0, .ref s3, .ref s4, .ref s5, .ref s6, .ref s7, .int 0, .int 0, .int 0, .int 6, .int 0, .int 0, .int 0, .ref s15, .int 0, .ref s17, .int 0, .ref s19, .ref s20, .int (-1), .int 0, .int 0, .int 0, .int 0, .int 0, .ref s27, .int 0, .ref s29, .ref s30, .ref s31, .int 0, .int 0, .int 0, .ref s35, .ref s36, .ref s37, .long 0, .ref s39, .ref s40, .ref s41, .ref s42])), (s4, .inl (k4, 7, .inl g4))] ∧ xE U)) (va_Qi (fun (r : Int32) (_ : Unit) => r = 0) (fun _ t => ∃ (o_f_1 : Nat → Int32), va_P (dC, dI) classes [(h0, .inr (12, [.ref s0, .int 0, .int 0, .ref s3, .ref s4, .ref s5, .ref s6, .ref s7, .int 0, .int 1, .int 0, .int 6, .int 0, .int 0, .int 0, .ref s15, .int 0, .ref s17, .int 0, .ref s19, .ref s20, .int (-1), .int 0, .int 0, .int 0, .int 0, .int 0, .ref s27, .int 0, .ref s29, .ref s30, .ref s31, .int 0, .int 0, .int 0, .ref s35, .ref s36, .ref s37, .long 0, .ref s39, .ref s40, .ref s41, .ref s42])), (s4, .inl (k4, 7, .inl o_f_1))] t.heap ∧ va_K (dC, dI) classes [(k4, .int)] t ∧ va_D (va_A [(h0, .inr (12, [.ref s0, .int 0, .int 0, .ref s3, .ref s4, .ref s5, .ref s6, .ref s7, .int 0, .int 0, .int 0, .int 6, .int 0, .int 0, .int 0, .ref s15, .int 0, .ref s17, .int 0, .ref s19, .ref s20, .int (-1), .int 0, .int 0, .int 0, .int 0, .int 0, .ref s27, .int 0, .ref s29, .ref s30, .ref s31, .int 0, .int 0, .int 0, .ref s35, .ref s36, .ref s37, .long 0, .ref s39, .ref s40, .ref s41, .ref s42])), (s4, .inl (k4, 7, .inl g4))] sz) [(h0, .inr (12, [.ref s0, .int 0, .int 0, .ref s3, .ref s4, .ref s5, .ref s6, .ref s7, .int 0, .int 1, .int 0, .int 6, .int 0, .int 0, .int 0, .ref s15, .int 0, .ref s17, .int 0, .ref s19, .ref s20, .int (-1), .int 0, .int 0, .int 0, .int 0, .int 0, .ref s27, .int 0, .ref s29, .ref s30, .ref s31, .int 0, .int 0, .int 0, .ref s35, .ref s36, .ref s37, .long 0, .ref s39, .ref s40, .ref s41, .ref s42])), (s4, .inl (k4, 7, .inl o_f_1))]) (va_A [(h0, .inr (12, [.ref s0, .int 0, .int 0, .ref s3, .ref s4, .ref s5, .ref s6, .ref s7, .int 0, .int 0, .int 0, .int 6, .int 0, .int 0, .int 0, .ref s15, .int 0, .ref s17, .int 0, .ref s19, .ref s20, .int (-1), .int 0, .int 0, .int 0, .int 0, .int 0, .ref s27, .int 0, .ref s29, .ref s30, .ref s31, .int 0, .int 0, .int 0, .ref s35, .ref s36, .ref s37, .long 0, .ref s39, .ref s40, .ref s41, .ref s42])), (s4, .inl (k4, 7, .inl g4))] sz)) 0 0 (va_A [(h0, .inr (12, [.ref s0, .int 0, .int 0, .ref s3, .ref s4, .ref s5, .ref s6, .ref s7, .int 0, .int 0, .int 0, .int 6, .int 0, .int 0, .int 0, .ref s15, .int 0, .ref s17, .int 0, .ref s19, .ref s20, .int (-1), .int 0, .int 0, .int 0, .int 0, .int 0, .ref s27, .int 0, .ref s29, .ref s30, .ref s31, .int 0, .int 0, .int 0, .ref s35, .ref s36, .ref s37, .long 0, .ref s39, .ref s40, .ref s41, .ref s42])), (s4, .inl (k4, 7, .inl g4))] sz) := by
  refine Met.ofW (cc := cX12_readsAll) (maxL := 2) (ret := (some .boolean)) (by decide) rfl ?_
  intro p e s m args below meth c s₁ B hml hv
  obtain ⟨rfl, hsz, hP, hK, hD0, hE⟩ := hv
  have hx := B.exec
  have hb := B.bytes
  have hr := B.returns
  have hts := atoms_spec (ws := .code yX12_readsAll cX12_readsAll 2 (some .boolean) :: wsA) B.pre
  have hq : ∀ w ∈ wsA, w.before _ s = true := fun w h => hts w (List.mem_cons_of_mem _ h)
  have hown : s.vm.findClass RX12 = some m.cls := findClass_of_methodNamed B.named
  have hlocks := B.notSynchronized
  subst hsz
  have hD := hD0.self (sz := s.heap.size)
  generalize hAe : va_A [(h0, .inr (12, [.ref s0, .int 0, .int 0, .ref s3, .ref s4, .ref s5, .ref s6, .ref s7, .int 0, .int 0, .int 0, .int 6, .int 0, .int 0, .int 0, .ref s15, .int 0, .ref s17, .int 0, .ref s19, .ref s20, .int (-1), .int 0, .int 0, .int 0, .int 0, .int 0, .ref s27, .int 0, .ref s29, .ref s30, .ref s31, .int 0, .int 0, .int 0, .ref s35, .ref s36, .ref s37, .long 0, .ref s39, .ref s40, .ref s41, .ref s42])), (s4, .inl (k4, 7, .inl g4))] s.heap.size = A at hD ⊢
  have hA : ∀ q : Nat, s.heap.size ≤ q → A q := fun q h => by rw [← hAe]; exact Or.inr h
  have hS : va_S A s.heap s.heap [] := va_S.rf
  have hl := lv_entry ([.ref h0]) (n := 2) (Nat.le_of_ble_eq_true rfl)
  rw [lg_entry_eq]
  generalize (lg_sl ([.ref h0]) ++ List.replicate (2 - (lg_sl ([.ref h0])).length) Slot.unset).toArray = ls at hl ⊢
  have hl : lv_has ls 2 [(0, .ref h0)] := hl
  refine lv_aload_n hx hb dX12_readsAll_0 rfl (lv_at hl 0 rfl) ?_
  refine va_get (D := (dC, dI)) (ci := 12) (v := .ref s4) (C := RX12) (T := TX12) (N := 43) hx hb hq inX12 hown hK hP 0 rfl rfl 4 (by decide) (hq _ qw_1164) (fun _ h9 => h9) rfl dX12_readsAll_1 ?_
  refine lv_aload_n hx hb dX12_readsAll_4 rfl (lv_at hl 0 rfl) ?_
  refine va_get (D := (dC, dI)) (ci := 12) (v := .int 6) (C := RX12) (T := TX12) (N := 43) hx hb hq inX12 hown hK hP 0 rfl rfl 11 (by decide) (hq _ qw_1171) (fun _ h9 => h9) rfl dX12_readsAll_5 ?_
  refine lv_iconst (v := 0) hx hb dX12_readsAll_8 (by decide) ?_
  refine va_iast hx hb hK hP hD hS 1 0 rfl rfl (inr_ok rfl) dX12_readsAll_9 (fun H locs hP hD hS => ?_)
  generalize upd g4 (Int32.toNatClampNeg 6) 0 = f_1 at hP hD
  have hP : va_P (dC, dI) classes [(h0, .inr (12, [.ref s0, .int 0, .int 0, .ref s3, .ref s4, .ref s5, .ref s6, .ref s7, .int 0, .int 0, .int 0, .int 6, .int 0, .int 0, .int 0, .ref s15, .int 0, .ref s17, .int 0, .ref s19, .ref s20, .int (-1), .int 0, .int 0, .int 0, .int 0, .int 0, .ref s27, .int 0, .ref s29, .ref s30, .ref s31, .int 0, .int 0, .int 0, .ref s35, .ref s36, .ref s37, .long 0, .ref s39, .ref s40, .ref s41, .ref s42])), (s4, .inl (k4, 7, .inl f_1))] H := hP
  have hD : va_D A [(h0, .inr (12, [.ref s0, .int 0, .int 0, .ref s3, .ref s4, .ref s5, .ref s6, .ref s7, .int 0, .int 0, .int 0, .int 6, .int 0, .int 0, .int 0, .ref s15, .int 0, .ref s17, .int 0, .ref s19, .ref s20, .int (-1), .int 0, .int 0, .int 0, .int 0, .int 0, .ref s27, .int 0, .ref s29, .ref s30, .ref s31, .int 0, .int 0, .int 0, .ref s35, .ref s36, .ref s37, .long 0, .ref s39, .ref s40, .ref s41, .ref s42])), (s4, .inl (k4, 7, .inl f_1))] := hD
  refine lv_aload_n hx hb dX12_readsAll_10 rfl (lv_at hl 0 rfl) ?_
  refine lv_iconst (v := 0) hx hb dX12_readsAll_11 (by decide) ?_
  refine va_put (D := (dC, dI)) (ci := 12) (v := .int 0) (ty := .int) (C := RX12) (T := TX12) (N := 43) hx hb hq inX12 tyX12 tyX12_ok nmX12 hown hK hP hD hS 0 rfl rfl 14 (by decide) (hq _ qw_1174) (fun _ h9 => h9) rfl (by decide +kernel) rfl rfl (Nat.le_of_ble_eq_true rfl) dX12_readsAll_12 (fun H locs hP hD hS => ?_)
  have hP : va_P (dC, dI) classes [(h0, .inr (12, [.ref s0, .int 0, .int 0, .ref s3, .ref s4, .ref s5, .ref s6, .ref s7, .int 0, .int 0, .int 0, .int 6, .int 0, .int 0, .int 0, .ref s15, .int 0, .ref s17, .int 0, .ref s19, .ref s20, .int (-1), .int 0, .int 0, .int 0, .int 0, .int 0, .ref s27, .int 0, .ref s29, .ref s30, .ref s31, .int 0, .int 0, .int 0, .ref s35, .ref s36, .ref s37, .long 0, .ref s39, .ref s40, .ref s41, .ref s42])), (s4, .inl (k4, 7, .inl f_1))] H := hP
  have hD : va_D A [(h0, .inr (12, [.ref s0, .int 0, .int 0, .ref s3, .ref s4, .ref s5, .ref s6, .ref s7, .int 0, .int 0, .int 0, .int 6, .int 0, .int 0, .int 0, .ref s15, .int 0, .ref s17, .int 0, .ref s19, .ref s20, .int (-1), .int 0, .int 0, .int 0, .int 0, .int 0, .ref s27, .int 0, .ref s29, .ref s30, .ref s31, .int 0, .int 0, .int 0, .ref s35, .ref s36, .ref s37, .long 0, .ref s39, .ref s40, .ref s41, .ref s42])), (s4, .inl (k4, 7, .inl f_1))] := hD
  refine lv_aload_n hx hb dX12_readsAll_15 rfl (lv_at hl 0 rfl) ?_
  refine lv_iconst (v := 0) hx hb dX12_readsAll_16 (by decide) ?_
  refine va_put (D := (dC, dI)) (ci := 12) (v := .int 0) (ty := .int) (C := RX12) (T := TX12) (N := 43) hx hb hq inX12 tyX12 tyX12_ok nmX12 hown hK hP hD hS 0 rfl rfl 8 (by decide) (hq _ qw_1168) (fun _ h9 => h9) rfl (by decide +kernel) rfl rfl (Nat.le_of_ble_eq_true rfl) dX12_readsAll_17 (fun H locs hP hD hS => ?_)
  have hP : va_P (dC, dI) classes [(h0, .inr (12, [.ref s0, .int 0, .int 0, .ref s3, .ref s4, .ref s5, .ref s6, .ref s7, .int 0, .int 0, .int 0, .int 6, .int 0, .int 0, .int 0, .ref s15, .int 0, .ref s17, .int 0, .ref s19, .ref s20, .int (-1), .int 0, .int 0, .int 0, .int 0, .int 0, .ref s27, .int 0, .ref s29, .ref s30, .ref s31, .int 0, .int 0, .int 0, .ref s35, .ref s36, .ref s37, .long 0, .ref s39, .ref s40, .ref s41, .ref s42])), (s4, .inl (k4, 7, .inl f_1))] H := hP
  have hD : va_D A [(h0, .inr (12, [.ref s0, .int 0, .int 0, .ref s3, .ref s4, .ref s5, .ref s6, .ref s7, .int 0, .int 0, .int 0, .int 6, .int 0, .int 0, .int 0, .ref s15, .int 0, .ref s17, .int 0, .ref s19, .ref s20, .int (-1), .int 0, .int 0, .int 0, .int 0, .int 0, .ref s27, .int 0, .ref s29, .ref s30, .ref s31, .int 0, .int 0, .int 0, .ref s35, .ref s36, .ref s37, .long 0, .ref s39, .ref s40, .ref s41, .ref s42])), (s4, .inl (k4, 7, .inl f_1))] := hD
  refine lv_aload_n hx hb dX12_readsAll_20 rfl (lv_at hl 0 rfl) ?_
  refine lv_iconst (v := 0) hx hb dX12_readsAll_21 (by decide) ?_
  refine va_put (D := (dC, dI)) (ci := 12) (v := .int 0) (ty := .int) (C := RX12) (T := TX12) (N := 43) hx hb hq inX12 tyX12 tyX12_ok nmX12 hown hK hP hD hS 0 rfl rfl 9 (by decide) (hq _ qw_1169) (fun _ h9 => h9) rfl (by decide +kernel) rfl rfl (Nat.le_of_ble_eq_true rfl) dX12_readsAll_22 (fun H locs hP hD hS => ?_)
  have hP : va_P (dC, dI) classes [(h0, .inr (12, [.ref s0, .int 0, .int 0, .ref s3, .ref s4, .ref s5, .ref s6, .ref s7, .int 0, .int 0, .int 0, .int 6, .int 0, .int 0, .int 0, .ref s15, .int 0, .ref s17, .int 0, .ref s19, .ref s20, .int (-1), .int 0, .int 0, .int 0, .int 0, .int 0, .ref s27, .int 0, .ref s29, .ref s30, .ref s31, .int 0, .int 0, .int 0, .ref s35, .ref s36, .ref s37, .long 0, .ref s39, .ref s40, .ref s41, .ref s42])), (s4, .inl (k4, 7, .inl f_1))] H := hP
  have hD : va_D A [(h0, .inr (12, [.ref s0, .int 0, .int 0, .ref s3, .ref s4, .ref s5, .ref s6, .ref s7, .int 0, .int 0, .int 0, .int 6, .int 0, .int 0, .int 0, .ref s15, .int 0, .ref s17, .int 0, .ref s19, .ref s20, .int (-1), .int 0, .int 0, .int 0, .int 0, .int 0, .ref s27, .int 0, .ref s29, .ref s30, .ref s31, .int 0, .int 0, .int 0, .ref s35, .ref s36, .ref s37, .long 0, .ref s39, .ref s40, .ref s41, .ref s42])), (s4, .inl (k4, 7, .inl f_1))] := hD
  refine lv_aload_n hx hb dX12_readsAll_25 rfl (lv_at hl 0 rfl) ?_
  refine lv_iconst (v := 0) hx hb dX12_readsAll_26 (by decide) ?_
  refine va_put (D := (dC, dI)) (ci := 12) (v := .int 0) (ty := .int) (C := RX12) (T := TX12) (N := 43) hx hb hq inX12 tyX12 tyX12_ok nmX12 hown hK hP hD hS 0 rfl rfl 12 (by decide) (hq _ qw_1172) (fun _ h9 => h9) rfl (by decide +kernel) rfl rfl (Nat.le_of_ble_eq_true rfl) dX12_readsAll_27 (fun H locs hP hD hS => ?_)
  have hP : va_P (dC, dI) classes [(h0, .inr (12, [.ref s0, .int 0, .int 0, .ref s3, .ref s4, .ref s5, .ref s6, .ref s7, .int 0, .int 0, .int 0, .int 6, .int 0, .int 0, .int 0, .ref s15, .int 0, .ref s17, .int 0, .ref s19, .ref s20, .int (-1), .int 0, .int 0, .int 0, .int 0, .int 0, .ref s27, .int 0, .ref s29, .ref s30, .ref s31, .int 0, .int 0, .int 0, .ref s35, .ref s36, .ref s37, .long 0, .ref s39, .ref s40, .ref s41, .ref s42])), (s4, .inl (k4, 7, .inl f_1))] H := hP
  have hD : va_D A [(h0, .inr (12, [.ref s0, .int 0, .int 0, .ref s3, .ref s4, .ref s5, .ref s6, .ref s7, .int 0, .int 0, .int 0, .int 6, .int 0, .int 0, .int 0, .ref s15, .int 0, .ref s17, .int 0, .ref s19, .ref s20, .int (-1), .int 0, .int 0, .int 0, .int 0, .int 0, .ref s27, .int 0, .ref s29, .ref s30, .ref s31, .int 0, .int 0, .int 0, .ref s35, .ref s36, .ref s37, .long 0, .ref s39, .ref s40, .ref s41, .ref s42])), (s4, .inl (k4, 7, .inl f_1))] := hD
  refine lv_aload_n hx hb dX12_readsAll_30 rfl (lv_at hl 0 rfl) ?_
  have hPc := hP.sub (ws' := [(h0, .inr (12, [.ref s0, .int 0, .int 0, .ref s3, .ref s4, .ref s5, .ref s6, .ref s7, .int 0, .int 0, .int 0, .int 6, .int 0, .int 0, .int 0, .ref s15, .int 0, .ref s17, .int 0, .ref s19, .ref s20, .int (-1), .int 0, .int 0, .int 0, .int 0, .int 0, .ref s27, .int 0, .ref s29, .ref s30, .ref s31, .int 0, .int 0, .int 0, .ref s35, .ref s36, .ref s37, .long 0, .ref s39, .ref s40, .ref s41, .ref s42]))]) [0] rfl
  have hDc := hD.sub (ws' := [(h0, .inr (12, [.ref s0, .int 0, .int 0, .ref s3, .ref s4, .ref s5, .ref s6, .ref s7, .int 0, .int 0, .int 0, .int 6, .int 0, .int 0, .int 0, .ref s15, .int 0, .ref s17, .int 0, .ref s19, .ref s20, .int (-1), .int 0, .int 0, .int 0, .int 0, .int 0, .ref s27, .int 0, .ref s29, .ref s30, .ref s31, .int 0, .int 0, .int 0, .ref s35, .ref s36, .ref s37, .long 0, .ref s39, .ref s40, .ref s41, .ref s42]))]) [0] (by decide) rfl
  have hKc := hK.sub (tys' := []) [] rfl
  have hFc := va_free (wc := [(h0, .inr (12, [.ref s0, .int 0, .int 0, .ref s3, .ref s4, .ref s5, .ref s6, .ref s7, .int 0, .int 0, .int 0, .int 6, .int 0, .int 0, .int 0, .ref s15, .int 0, .ref s17, .int 0, .ref s19, .ref s20, .int (-1), .int 0, .int 0, .int 0, .int 0, .int 0, .ref s27, .int 0, .ref s29, .ref s30, .ref s31, .int 0, .int 0, .int 0, .ref s35, .ref s36, .ref s37, .long 0, .ref s39, .ref s40, .ref s41, .ref s42]))]) hD hS hA [0] rfl
  refine va_calli (va_runV (As := []) (rest := []) ⟨hx, hb, hml, hown, hq⟩ (c_M_clauseHere_6 l dC dI _ h0 s0 s3 s4 s5 s6 s7 s15 s17 s19 s20 s27 s29 s30 s31 s35 s36 s37 s39 s40 s41 s42 ) (cwV 0 hq (gV qw_1311 qw_1313 qw_41 qw_131 qw_1314) rfl rfl rfl (by decide +kernel) ⟨Nat.le_of_ble_eq_true rfl, Nat.le_of_ble_eq_true rfl⟩) ⟨fun a U g mk q => by obtain ⟨q0, q1, qP, qK, qD, qE⟩ := q; exact ⟨q0, q1, qP, va_K.moved (u := U) (U := U.calling g mk a) (Vm.Alike.refl U.vm) qK, qD, xE.same rfl qE⟩, va_recv hKc hPc (ci := 12) (q0 := 0) rfl rfl, fun U hU hW => ⟨rfl, by rw [hU], by rw [hU]; exact hPc, va_K.moved hW.alike hKc, hDc.weaken (fun _ _ _ _ => trivial), xE.warm hW hE⟩⟩ rfl rfl hl.1 rfl (lv_room (Nat.le_of_ble_eq_true rfl)) dX12_readsAll_31 ⟨Nat.le_of_ble_eq_true rfl, Nat.le_of_ble_eq_true rfl⟩) hS (fun q _ h => hFc q h) hFc (fun r_2 u t H1 locs ht hvm hw hB hz1 hk1 hS => ?_)
  obtain ⟨hP1, hK1, hD1⟩ := hB
  rw [ht] at hP1
  have hK1 := va_K.moved hvm.symm hK1
  obtain ⟨hP, hD⟩ := va_join (wr := [(s4, .inl (k4, 7, .inl f_1))]) (w1 := [(h0, .inr (12, [.ref s0, .int 0, .int 0, .ref s3, .ref s4, .ref s5, .ref s6, .ref s7, .int 0, .int 1, .int 0, .int 6, .int 0, .int 0, .int 0, .ref s15, .int 0, .ref s17, .int 0, .ref s19, .ref s20, .int (-1), .int 0, .int 0, .int 0, .int 0, .int 0, .ref s27, .int 0, .ref s29, .ref s30, .ref s31, .int 0, .int 0, .int 0, .ref s35, .ref s36, .ref s37, .long 0, .ref s39, .ref s40, .ref s41, .ref s42]))]) hP hD [0] [1] rfl rfl (by decide) (by decide) hk1 hFc hP1 hD1
  generalize H1 = H at hP hS ⊢
  have hP : va_P (dC, dI) classes [(s4, .inl (k4, 7, .inl f_1)), (h0, .inr (12, [.ref s0, .int 0, .int 0, .ref s3, .ref s4, .ref s5, .ref s6, .ref s7, .int 0, .int 1, .int 0, .int 6, .int 0, .int 0, .int 0, .ref s15, .int 0, .ref s17, .int 0, .ref s19, .ref s20, .int (-1), .int 0, .int 0, .int 0, .int 0, .int 0, .ref s27, .int 0, .ref s29, .ref s30, .ref s31, .int 0, .int 0, .int 0, .ref s35, .ref s36, .ref s37, .long 0, .ref s39, .ref s40, .ref s41, .ref s42]))] H := hP
  have hD : va_D A [(s4, .inl (k4, 7, .inl f_1)), (h0, .inr (12, [.ref s0, .int 0, .int 0, .ref s3, .ref s4, .ref s5, .ref s6, .ref s7, .int 0, .int 1, .int 0, .int 6, .int 0, .int 0, .int 0, .ref s15, .int 0, .ref s17, .int 0, .ref s19, .ref s20, .int (-1), .int 0, .int 0, .int 0, .int 0, .int 0, .ref s27, .int 0, .ref s29, .ref s30, .ref s31, .int 0, .int 0, .int 0, .ref s35, .ref s36, .ref s37, .long 0, .ref s39, .ref s40, .ref s41, .ref s42]))] := hD
  obtain rfl : r_2 = 0 := hw
  refine lv_istore_n (lv' := [(1, .int 0), (0, .ref h0)]) hx hb dX12_readsAll_34 rfl hl (by decide) rfl (fun ls hl => ?_)
  refine lv_iload_n hx hb dX12_readsAll_35 rfl (lv_at hl 0 rfl) ?_
  refine lv_if_eq (tgt := 66) hx hb dX12_readsAll_36 (by decide) (fun _ => ?_) (fun c9 => absurd c9 (by decide))
  refine lv_iload_n hx hb dX12_readsAll_66 rfl (lv_at hl 0 rfl) ?_
  refine lv_if_eq (tgt := 88) hx hb dX12_readsAll_67 (by decide) (fun _ => ?_) (fun c9 => absurd c9 (by decide))
  refine lv_aload_n hx hb dX12_readsAll_88 rfl (lv_at hl 1 rfl) ?_
  refine lv_iconst (v := 0) hx hb dX12_readsAll_89 (by decide) ?_
  refine va_put (D := (dC, dI)) (ci := 12) (v := .int 0) (ty := .int) (C := RX12) (T := TX12) (N := 43) hx hb hq inX12 tyX12 tyX12_ok nmX12 hown hK hP hD hS 1 rfl rfl 1 (by decide) (hq _ qw_1161) (fun _ h9 => h9) rfl (by decide +kernel) rfl rfl (Nat.le_of_ble_eq_true rfl) dX12_readsAll_90 (fun H locs hP hD hS => ?_)
  have hP : va_P (dC, dI) classes [(s4, .inl (k4, 7, .inl f_1)), (h0, .inr (12, [.ref s0, .int 0, .int 0, .ref s3, .ref s4, .ref s5, .ref s6, .ref s7, .int 0, .int 1, .int 0, .int 6, .int 0, .int 0, .int 0, .ref s15, .int 0, .ref s17, .int 0, .ref s19, .ref s20, .int (-1), .int 0, .int 0, .int 0, .int 0, .int 0, .ref s27, .int 0, .ref s29, .ref s30, .ref s31, .int 0, .int 0, .int 0, .ref s35, .ref s36, .ref s37, .long 0, .ref s39, .ref s40, .ref s41, .ref s42]))] H := hP
  have hD : va_D A [(s4, .inl (k4, 7, .inl f_1)), (h0, .inr (12, [.ref s0, .int 0, .int 0, .ref s3, .ref s4, .ref s5, .ref s6, .ref s7, .int 0, .int 1, .int 0, .int 6, .int 0, .int 0, .int 0, .ref s15, .int 0, .ref s17, .int 0, .ref s19, .ref s20, .int (-1), .int 0, .int 0, .int 0, .int 0, .int 0, .ref s27, .int 0, .ref s29, .ref s30, .ref s31, .int 0, .int 0, .int 0, .ref s35, .ref s36, .ref s37, .long 0, .ref s39, .ref s40, .ref s41, .ref s42]))] := hD
  refine lv_aload_n hx hb dX12_readsAll_93 rfl (lv_at hl 1 rfl) ?_
  refine va_get (D := (dC, dI)) (ci := 12) (v := .int 1) (C := RX12) (T := TX12) (N := 43) hx hb hq inX12 hown hK hP 1 rfl rfl 9 (by decide) (hq _ qw_1169) (fun _ h9 => h9) rfl dX12_readsAll_94 ?_
  refine lv_if_ne (tgt := 104) hx hb dX12_readsAll_97 (by decide) (fun _ => ?_) (fun c9 => absurd c9 (by decide))
  refine lv_iconst (v := 0) hx hb dX12_readsAll_104 (by decide) ?_
  have hP9 := hP.sub (ws' := [(h0, .inr (12, [.ref s0, .int 0, .int 0, .ref s3, .ref s4, .ref s5, .ref s6, .ref s7, .int 0, .int 1, .int 0, .int 6, .int 0, .int 0, .int 0, .ref s15, .int 0, .ref s17, .int 0, .ref s19, .ref s20, .int (-1), .int 0, .int 0, .int 0, .int 0, .int 0, .ref s27, .int 0, .ref s29, .ref s30, .ref s31, .int 0, .int 0, .int 0, .ref s35, .ref s36, .ref s37, .long 0, .ref s39, .ref s40, .ref s41, .ref s42])), (s4, .inl (k4, 7, .inl f_1))]) [1, 0] rfl
  have hD9 := hD.sub (ws' := [(h0, .inr (12, [.ref s0, .int 0, .int 0, .ref s3, .ref s4, .ref s5, .ref s6, .ref s7, .int 0, .int 1, .int 0, .int 6, .int 0, .int 0, .int 0, .ref s15, .int 0, .ref s17, .int 0, .ref s19, .ref s20, .int (-1), .int 0, .int 0, .int 0, .int 0, .int 0, .ref s27, .int 0, .ref s29, .ref s30, .ref s31, .int 0, .int 0, .int 0, .ref s35, .ref s36, .ref s37, .long 0, .ref s39, .ref s40, .ref s41, .ref s42])), (s4, .inl (k4, 7, .inl f_1))]) [1, 0] (by decide) rfl
  have hK9 := hK.sub (tys' := [(k4, .int)]) [0] rfl
  refine W.widen (k := 0) (n := 0) (Nat.le_of_ble_eq_true rfl) (Nat.le_of_ble_eq_true rfl) ?_
  exact W.zret (v := 0) hx hb hr (by decide) (fun t ht hW => ⟨⟨0, (), rfl, rfl, f_1, by rw [ht]; exact hP9, va_K.moved hW.alike hK9, hD9⟩, hS.F ht⟩) hS.2.2 dX12_readsAll_105

set_option maxHeartbeats 4000000 in
set_option maxRecDepth 100000 in
/-- c_M_readsAll_0 -/
theorem c_M_readsAll_0 (l : Launch) (dC : Nat → ClassId) (dI : Nat → Nat → Nat) (sz : Nat) (h0 : Nat) (s0 : Nat) (s3 : Nat) (s4 : Nat) (s5 : Nat) (s6 : Nat) (s7 : Nat) (s15 : Nat) (s17 : Nat) (s19 : Nat) (s20 : Nat) (s27 : Nat) (s29 : Nat) (s30 : Nat) (s31 : Nat) (s35 : Nat) (s36 : Nat) (s37 : Nat) (s39 : Nat) (s40 : Nat) (s41 : Nat) (s42 : Nat) (k4 : ClassId) (g4 : Nat → Int32) : Met l yX12_readsAll (.code yX12_readsAll cX12_readsAll 2 (some .boolean) :: wsA) ({ frames := 3, cells := 0, slots := 0, locals := 68 }) (va_Pc [.ref h0] (fun U => U.heap.size = sz ∧ va_P (dC, dI) classes [(h0, .inr (12, [.ref s0, .int 0, .int 0, .ref s3, .ref s4, .ref s5, .ref s6, .ref s7, .int 0, .int 0, .int 0, .int 0, .int 0, .int 0, .int 0, .ref s15, .int 0, .ref s17, .int 0, .ref s19, .ref s20, .int (-1), .int 0, .int 0, .int 0, .int 0, .int 0, .ref s27, .int 0, .ref s29, .ref s30, .ref s31, .int 0, .int 0, .int 0, .ref s35, .ref s36, .ref s37, .long 0, .ref s39, .ref s40, .ref s41, .ref s42])), (s4, .inl (k4, 7, .inl g4))] U.heap ∧ va_K (dC, dI) classes [(k4, .int)] U ∧ va_D (fun _ => True) [(h0, .inr (12, [.ref s0, .int 0, .int 0, .ref s3, .ref s4, .ref s5, .ref s6, .ref s7, .int 0, .int 0, .int 0, .int 0, .int 0, .int 0, .int 0, .ref s15, .int 0, .ref s17, .int 0, .ref s19, .ref s20, .int (-1), .int 0, .int 0, .int 0, .int 0, .int 0, .ref s27, .int 0, .ref s29, .ref s30, .ref s31, .int 0, .int 0, .int 0, .ref s35, .ref s36, .ref s37, .long 0, .ref s39, .ref s40, .ref s41, .ref s42])), (s4, .inl (k4, 7, .inl g4))] ∧ xE U)) (va_Qi (fun (r : Int32) (_ : Unit) => r = 0) (fun _ t => ∃ (o_f_1 : Nat → Int32), va_P (dC, dI) classes [(h0, .inr (12, [.ref s0, .int 0, .int 0, .ref s3, .ref s4, .ref s5, .ref s6, .ref s7, .int 0, .int 1, .int 0, .int 0, .int 0, .int 0, .int 0, .ref s15, .int 0, .ref s17, .int 0, .ref s19, .ref s20, .int (-1), .int 0, .int 0, .int 0, .int 0, .int 0, .ref s27, .int 0, .ref s29, .ref s30, .ref s31, .int 0, .int 0, .int 0, .ref s35, .ref s36, .ref s37, .long 0, .ref s39, .ref s40, .ref s41, .ref s42])), (s4, .inl (k4, 7, .inl o_f_1))] t.heap ∧ va_K (dC, dI) classes [(k4, .int)] t ∧ va_D (va_A [(h0, .inr (12, [.ref s0, .int 0, .int 0, .ref s3, .ref s4, .ref s5, .ref s6, .ref s7, .int 0, .int 0, .int 0, .int 0, .int 0, .int 0, .int 0, .ref s15, .int 0, .ref s17, .int 0, .ref s19, .ref s20, .int (-1), .int 0, .int 0, .int 0, .int 0, .int 0, .ref s27, .int 0, .ref s29, .ref s30, .ref s31, .int 0, .int 0, .int 0, .ref s35, .ref s36, .ref s37, .long 0, .ref s39, .ref s40, .ref s41, .ref s42])), (s4, .inl (k4, 7, .inl g4))] sz) [(h0, .inr (12, [.ref s0, .int 0, .int 0, .ref s3, .ref s4, .ref s5, .ref s6, .ref s7, .int 0, .int 1, .int 0, .int 0, .int 0, .int 0, .int 0, .ref s15, .int 0, .ref s17, .int 0, .ref s19, .ref s20, .int (-1), .int 0, .int 0, .int 0, .int 0, .int 0, .ref s27, .int 0, .ref s29, .ref s30, .ref s31, .int 0, .int 0, .int 0, .ref s35, .ref s36, .ref s37, .long 0, .ref s39, .ref s40, .ref s41, .ref s42])), (s4, .inl (k4, 7, .inl o_f_1))]) (va_A [(h0, .inr (12, [.ref s0, .int 0, .int 0, .ref s3, .ref s4, .ref s5, .ref s6, .ref s7, .int 0, .int 0, .int 0, .int 0, .int 0, .int 0, .int 0, .ref s15, .int 0, .ref s17, .int 0, .ref s19, .ref s20, .int (-1), .int 0, .int 0, .int 0, .int 0, .int 0, .ref s27, .int 0, .ref s29, .ref s30, .ref s31, .int 0, .int 0, .int 0, .ref s35, .ref s36, .ref s37, .long 0, .ref s39, .ref s40, .ref s41, .ref s42])), (s4, .inl (k4, 7, .inl g4))] sz)) 0 0 (va_A [(h0, .inr (12, [.ref s0, .int 0, .int 0, .ref s3, .ref s4, .ref s5, .ref s6, .ref s7, .int 0, .int 0, .int 0, .int 0, .int 0, .int 0, .int 0, .ref s15, .int 0, .ref s17, .int 0, .ref s19, .ref s20, .int (-1), .int 0, .int 0, .int 0, .int 0, .int 0, .ref s27, .int 0, .ref s29, .ref s30, .ref s31, .int 0, .int 0, .int 0, .ref s35, .ref s36, .ref s37, .long 0, .ref s39, .ref s40, .ref s41, .ref s42])), (s4, .inl (k4, 7, .inl g4))] sz) := by
  refine Met.ofW (cc := cX12_readsAll) (maxL := 2) (ret := (some .boolean)) (by decide) rfl ?_
  intro p e s m args below meth c s₁ B hml hv
  obtain ⟨rfl, hsz, hP, hK, hD0, hE⟩ := hv
  have hx := B.exec
  have hb := B.bytes
  have hr := B.returns
  have hts := atoms_spec (ws := .code yX12_readsAll cX12_readsAll 2 (some .boolean) :: wsA) B.pre
  have hq : ∀ w ∈ wsA, w.before _ s = true := fun w h => hts w (List.mem_cons_of_mem _ h)
  have hown : s.vm.findClass RX12 = some m.cls := findClass_of_methodNamed B.named
  have hlocks := B.notSynchronized
  subst hsz
  have hD := hD0.self (sz := s.heap.size)
  generalize hAe : va_A [(h0, .inr (12, [.ref s0, .int 0, .int 0, .ref s3, .ref s4, .ref s5, .ref s6, .ref s7, .int 0, .int 0, .int 0, .int 0, .int 0, .int 0, .int 0, .ref s15, .int 0, .ref s17, .int 0, .ref s19, .ref s20, .int (-1), .int 0, .int 0, .int 0, .int 0, .int 0, .ref s27, .int 0, .ref s29, .ref s30, .ref s31, .int 0, .int 0, .int 0, .ref s35, .ref s36, .ref s37, .long 0, .ref s39, .ref s40, .ref s41, .ref s42])), (s4, .inl (k4, 7, .inl g4))] s.heap.size = A at hD ⊢
  have hA : ∀ q : Nat, s.heap.size ≤ q → A q := fun q h => by rw [← hAe]; exact Or.inr h
  have hS : va_S A s.heap s.heap [] := va_S.rf
  have hl := lv_entry ([.ref h0]) (n := 2) (Nat.le_of_ble_eq_true rfl)
  rw [lg_entry_eq]
  generalize (lg_sl ([.ref h0]) ++ List.replicate (2 - (lg_sl ([.ref h0])).length) Slot.unset).toArray = ls at hl ⊢
  have hl : lv_has ls 2 [(0, .ref h0)] := hl
  refine lv_aload_n hx hb dX12_readsAll_0 rfl (lv_at hl 0 rfl) ?_
  refine va_get (D := (dC, dI)) (ci := 12) (v := .ref s4) (C := RX12) (T := TX12) (N := 43) hx hb hq inX12 hown hK hP 0 rfl rfl 4 (by decide) (hq _ qw_1164) (fun _ h9 => h9) rfl dX12_readsAll_1 ?_
  refine lv_aload_n hx hb dX12_readsAll_4 rfl (lv_at hl 0 rfl) ?_
  refine va_get (D := (dC, dI)) (ci := 12) (v := .int 0) (C := RX12) (T := TX12) (N := 43) hx hb hq inX12 hown hK hP 0 rfl rfl 11 (by decide) (hq _ qw_1171) (fun _ h9 => h9) rfl dX12_readsAll_5 ?_
  refine lv_iconst (v := 0) hx hb dX12_readsAll_8 (by decide) ?_
  refine va_iast hx hb hK hP hD hS 1 0 rfl rfl (inr_ok rfl) dX12_readsAll_9 (fun H locs hP hD hS => ?_)
  generalize upd g4 (Int32.toNatClampNeg 0) 0 = f_1 at hP hD
  have hP : va_P (dC, dI) classes [(h0, .inr (12, [.ref s0, .int 0, .int 0, .ref s3, .ref s4, .ref s5, .ref s6, .ref s7, .int 0, .int 0, .int 0, .int 0, .int 0, .int 0, .int 0, .ref s15, .int 0, .ref s17, .int 0, .ref s19, .ref s20, .int (-1), .int 0, .int 0, .int 0, .int 0, .int 0, .ref s27, .int 0, .ref s29, .ref s30, .ref s31, .int 0, .int 0, .int 0, .ref s35, .ref s36, .ref s37, .long 0, .ref s39, .ref s40, .ref s41, .ref s42])), (s4, .inl (k4, 7, .inl f_1))] H := hP
  have hD : va_D A [(h0, .inr (12, [.ref s0, .int 0, .int 0, .ref s3, .ref s4, .ref s5, .ref s6, .ref s7, .int 0, .int 0, .int 0, .int 0, .int 0, .int 0, .int 0, .ref s15, .int 0, .ref s17, .int 0, .ref s19, .ref s20, .int (-1), .int 0, .int 0, .int 0, .int 0, .int 0, .ref s27, .int 0, .ref s29, .ref s30, .ref s31, .int 0, .int 0, .int 0, .ref s35, .ref s36, .ref s37, .long 0, .ref s39, .ref s40, .ref s41, .ref s42])), (s4, .inl (k4, 7, .inl f_1))] := hD
  refine lv_aload_n hx hb dX12_readsAll_10 rfl (lv_at hl 0 rfl) ?_
  refine lv_iconst (v := 0) hx hb dX12_readsAll_11 (by decide) ?_
  refine va_put (D := (dC, dI)) (ci := 12) (v := .int 0) (ty := .int) (C := RX12) (T := TX12) (N := 43) hx hb hq inX12 tyX12 tyX12_ok nmX12 hown hK hP hD hS 0 rfl rfl 14 (by decide) (hq _ qw_1174) (fun _ h9 => h9) rfl (by decide +kernel) rfl rfl (Nat.le_of_ble_eq_true rfl) dX12_readsAll_12 (fun H locs hP hD hS => ?_)
  have hP : va_P (dC, dI) classes [(h0, .inr (12, [.ref s0, .int 0, .int 0, .ref s3, .ref s4, .ref s5, .ref s6, .ref s7, .int 0, .int 0, .int 0, .int 0, .int 0, .int 0, .int 0, .ref s15, .int 0, .ref s17, .int 0, .ref s19, .ref s20, .int (-1), .int 0, .int 0, .int 0, .int 0, .int 0, .ref s27, .int 0, .ref s29, .ref s30, .ref s31, .int 0, .int 0, .int 0, .ref s35, .ref s36, .ref s37, .long 0, .ref s39, .ref s40, .ref s41, .ref s42])), (s4, .inl (k4, 7, .inl f_1))] H := hP
  have hD : va_D A [(h0, .inr (12, [.ref s0, .int 0, .int 0, .ref s3, .ref s4, .ref s5, .ref s6, .ref s7, .int 0, .int 0, .int 0, .int 0, .int 0, .int 0, .int 0, .ref s15, .int 0, .ref s17, .int 0, .ref s19, .ref s20, .int (-1), .int 0, .int 0, .int 0, .int 0, .int 0, .ref s27, .int 0, .ref s29, .ref s30, .ref s31, .int 0, .int 0, .int 0, .ref s35, .ref s36, .ref s37, .long 0, .ref s39, .ref s40, .ref s41, .ref s42])), (s4, .inl (k4, 7, .inl f_1))] := hD
  refine lv_aload_n hx hb dX12_readsAll_15 rfl (lv_at hl 0 rfl) ?_
  refine lv_iconst (v := 0) hx hb dX12_readsAll_16 (by decide) ?_
  refine va_put (D := (dC, dI)) (ci := 12) (v := .int 0) (ty := .int) (C := RX12) (T := TX12) (N := 43) hx hb hq inX12 tyX12 tyX12_ok nmX12 hown hK hP hD hS 0 rfl rfl 8 (by decide) (hq _ qw_1168) (fun _ h9 => h9) rfl (by decide +kernel) rfl rfl (Nat.le_of_ble_eq_true rfl) dX12_readsAll_17 (fun H locs hP hD hS => ?_)
  have hP : va_P (dC, dI) classes [(h0, .inr (12, [.ref s0, .int 0, .int 0, .ref s3, .ref s4, .ref s5, .ref s6, .ref s7, .int 0, .int 0, .int 0, .int 0, .int 0, .int 0, .int 0, .ref s15, .int 0, .ref s17, .int 0, .ref s19, .ref s20, .int (-1), .int 0, .int 0, .int 0, .int 0, .int 0, .ref s27, .int 0, .ref s29, .ref s30, .ref s31, .int 0, .int 0, .int 0, .ref s35, .ref s36, .ref s37, .long 0, .ref s39, .ref s40, .ref s41, .ref s42])), (s4, .inl (k4, 7, .inl f_1))] H := hP
  have hD : va_D A [(h0, .inr (12, [.ref s0, .int 0, .int 0, .ref s3, .ref s4, .ref s5, .ref s6, .ref s7, .int 0, .int 0, .int 0, .int 0, .int 0, .int 0, .int 0, .ref s15, .int 0, .ref s17, .int 0, .ref s19, .ref s20, .int (-1), .int 0, .int 0, .int 0, .int 0, .int 0, .ref s27, .int 0, .ref s29, .ref s30, .ref s31, .int 0, .int 0, .int 0, .ref s35, .ref s36, .ref s37, .long 0, .ref s39, .ref s40, .ref s41, .ref s42])), (s4, .inl (k4, 7, .inl f_1))] := hD
  refine lv_aload_n hx hb dX12_readsAll_20 rfl (lv_at hl 0 rfl) ?_
  refine lv_iconst (v := 0) hx hb dX12_readsAll_21 (by decide) ?_
  refine va_put (D := (dC, dI)) (ci := 12) (v := .int 0) (ty := .int) (C := RX12) (T := TX12) (N := 43) hx hb hq inX12 tyX12 tyX12_ok nmX12 hown hK hP hD hS 0 rfl rfl 9 (by decide) (hq _ qw_1169) (fun _ h9 => h9) rfl (by decide +kernel) rfl rfl (Nat.le_of_ble_eq_true rfl) dX12_readsAll_22 (fun H locs hP hD hS => ?_)
  have hP : va_P (dC, dI) classes [(h0, .inr (12, [.ref s0, .int 0, .int 0, .ref s3, .ref s4, .ref s5, .ref s6, .ref s7, .int 0, .int 0, .int 0, .int 0, .int 0, .int 0, .int 0, .ref s15, .int 0, .ref s17, .int 0, .ref s19, .ref s20, .int (-1), .int 0, .int 0, .int 0, .int 0, .int 0, .ref s27, .int 0, .ref s29, .ref s30, .ref s31, .int 0, .int 0, .int 0, .ref s35, .ref s36, .ref s37, .long 0, .ref s39, .ref s40, .ref s41, .ref s42])), (s4, .inl (k4, 7, .inl f_1))] H := hP
  have hD : va_D A [(h0, .inr (12, [.ref s0, .int 0, .int 0, .ref s3, .ref s4, .ref s5, .ref s6, .ref s7, .int 0, .int 0, .int 0, .int 0, .int 0, .int 0, .int 0, .ref s15, .int 0, .ref s17, .int 0, .ref s19, .ref s20, .int (-1), .int 0, .int 0, .int 0, .int 0, .int 0, .ref s27, .int 0, .ref s29, .ref s30, .ref s31, .int 0, .int 0, .int 0, .ref s35, .ref s36, .ref s37, .long 0, .ref s39, .ref s40, .ref s41, .ref s42])), (s4, .inl (k4, 7, .inl f_1))] := hD
  refine lv_aload_n hx hb dX12_readsAll_25 rfl (lv_at hl 0 rfl) ?_
  refine lv_iconst (v := 0) hx hb dX12_readsAll_26 (by decide) ?_
  refine va_put (D := (dC, dI)) (ci := 12) (v := .int 0) (ty := .int) (C := RX12) (T := TX12) (N := 43) hx hb hq inX12 tyX12 tyX12_ok nmX12 hown hK hP hD hS 0 rfl rfl 12 (by decide) (hq _ qw_1172) (fun _ h9 => h9) rfl (by decide +kernel) rfl rfl (Nat.le_of_ble_eq_true rfl) dX12_readsAll_27 (fun H locs hP hD hS => ?_)
  have hP : va_P (dC, dI) classes [(h0, .inr (12, [.ref s0, .int 0, .int 0, .ref s3, .ref s4, .ref s5, .ref s6, .ref s7, .int 0, .int 0, .int 0, .int 0, .int 0, .int 0, .int 0, .ref s15, .int 0, .ref s17, .int 0, .ref s19, .ref s20, .int (-1), .int 0, .int 0, .int 0, .int 0, .int 0, .ref s27, .int 0, .ref s29, .ref s30, .ref s31, .int 0, .int 0, .int 0, .ref s35, .ref s36, .ref s37, .long 0, .ref s39, .ref s40, .ref s41, .ref s42])), (s4, .inl (k4, 7, .inl f_1))] H := hP
  have hD : va_D A [(h0, .inr (12, [.ref s0, .int 0, .int 0, .ref s3, .ref s4, .ref s5, .ref s6, .ref s7, .int 0, .int 0, .int 0, .int 0, .int 0, .int 0, .int 0, .ref s15, .int 0, .ref s17, .int 0, .ref s19, .ref s20, .int (-1), .int 0, .int 0, .int 0, .int 0, .int 0, .ref s27, .int 0, .ref s29, .ref s30, .ref s31, .int 0, .int 0, .int 0, .ref s35, .ref s36, .ref s37, .long 0, .ref s39, .ref s40, .ref s41, .ref s42])), (s4, .inl (k4, 7, .inl f_1))] := hD
  refine lv_aload_n hx hb dX12_readsAll_30 rfl (lv_at hl 0 rfl) ?_
  have hPc := hP.sub (ws' := [(h0, .inr (12, [.ref s0, .int 0, .int 0, .ref s3, .ref s4, .ref s5, .ref s6, .ref s7, .int 0, .int 0, .int 0, .int 0, .int 0, .int 0, .int 0, .ref s15, .int 0, .ref s17, .int 0, .ref s19, .ref s20, .int (-1), .int 0, .int 0, .int 0, .int 0, .int 0, .ref s27, .int 0, .ref s29, .ref s30, .ref s31, .int 0, .int 0, .int 0, .ref s35, .ref s36, .ref s37, .long 0, .ref s39, .ref s40, .ref s41, .ref s42]))]) [0] rfl
  have hDc := hD.sub (ws' := [(h0, .inr (12, [.ref s0, .int 0, .int 0, .ref s3, .ref s4, .ref s5, .ref s6, .ref s7, .int 0, .int 0, .int 0, .int 0, .int 0, .int 0, .int 0, .ref s15, .int 0, .ref s17, .int 0, .ref s19, .ref s20, .int (-1), .int 0, .int 0, .int 0, .int 0, .int 0, .ref s27, .int 0, .ref s29, .ref s30, .ref s31, .int 0, .int 0, .int 0, .ref s35, .ref s36, .ref s37, .long 0, .ref s39, .ref s40, .ref s41, .ref s42]))]) [0] (by decide) rfl
  have hKc := hK.sub (tys' := []) [] rfl
  have hFc := va_free (wc := [(h0, .inr (12, [.ref s0, .int 0, .int 0, .ref s3, .ref s4, .ref s5, .ref s6, .ref s7, .int 0, .int 0, .int 0, .int 0, .int 0, .int 0, .int 0, .ref s15, .int 0, .ref s17, .int 0, .ref s19, .ref s20, .int (-1), .int 0, .int 0, .int 0, .int 0, .int 0, .ref s27, .int 0, .ref s29, .ref s30, .ref s31, .int 0, .int 0, .int 0, .ref s35, .ref s36, .ref s37, .long 0, .ref s39, .ref s40, .ref s41, .ref s42]))]) hD hS hA [0] rfl
  refine va_calli (va_runV (As := []) (rest := []) ⟨hx, hb, hml, hown, hq⟩ (c_M_clauseHere_0 l dC dI _ h0 s0 s3 s4 s5 s6 s7 s15 s17 s19 s20 s27 s29 s30 s31 s35 s36 s37 s39 s40 s41 s42 ) (cwV 0 hq (gV qw_1311 qw_1313 qw_41 qw_131 qw_1314) rfl rfl rfl (by decide +kernel) ⟨Nat.le_of_ble_eq_true rfl, Nat.le_of_ble_eq_true rfl⟩) ⟨fun a U g mk q => by obtain ⟨q0, q1, qP, qK, qD, qE⟩ := q; exact ⟨q0, q1, qP, va_K.moved (u := U) (U := U.calling g mk a) (Vm.Alike.refl U.vm) qK, qD, xE.same rfl qE⟩, va_recv hKc hPc (ci := 12) (q0 := 0) rfl rfl, fun U hU hW => ⟨rfl, by rw [hU], by rw [hU]; exact hPc, va_K.moved hW.alike hKc, hDc.weaken (fun _ _ _ _ => trivial), xE.warm hW hE⟩⟩ rfl rfl hl.1 rfl (lv_room (Nat.le_of_ble_eq_true rfl)) dX12_readsAll_31 ⟨Nat.le_of_ble_eq_true rfl, Nat.le_of_ble_eq_true rfl⟩) hS (fun q _ h => hFc q h) hFc (fun r_2 u t H1 locs ht hvm hw hB hz1 hk1 hS => ?_)
  obtain ⟨hP1, hK1, hD1⟩ := hB
  rw [ht] at hP1
  have hK1 := va_K.moved hvm.symm hK1
  obtain ⟨hP, hD⟩ := va_join (wr := [(s4, .inl (k4, 7, .inl f_1))]) (w1 := [(h0, .inr (12, [.ref s0, .int 0, .int 0, .ref s3, .ref s4, .ref s5, .ref s6, .ref s7, .int 0, .int 1, .int 0, .int 0, .int 0, .int 0, .int 0, .ref s15, .int 0, .ref s17, .int 0, .ref s19, .ref s20, .int (-1), .int 0, .int 0, .int 0, .int 0, .int 0, .ref s27, .int 0, .ref s29, .ref s30, .ref s31, .int 0, .int 0, .int 0, .ref s35, .ref s36, .ref s37, .long 0, .ref s39, .ref s40, .ref s41, .ref s42]))]) hP hD [0] [1] rfl rfl (by decide) (by decide) hk1 hFc hP1 hD1
  generalize H1 = H at hP hS ⊢
  have hP : va_P (dC, dI) classes [(s4, .inl (k4, 7, .inl f_1)), (h0, .inr (12, [.ref s0, .int 0, .int 0, .ref s3, .ref s4, .ref s5, .ref s6, .ref s7, .int 0, .int 1, .int 0, .int 0, .int 0, .int 0, .int 0, .ref s15, .int 0, .ref s17, .int 0, .ref s19, .ref s20, .int (-1), .int 0, .int 0, .int 0, .int 0, .int 0, .ref s27, .int 0, .ref s29, .ref s30, .ref s31, .int 0, .int 0, .int 0, .ref s35, .ref s36, .ref s37, .long 0, .ref s39, .ref s40, .ref s41, .ref s42]))] H := hP
  have hD : va_D A [(s4, .inl (k4, 7, .inl f_1)), (h0, .inr (12, [.ref s0, .int 0, .int 0, .ref s3, .ref s4, .ref s5, .ref s6, .ref s7, .int 0, .int 1, .int 0, .int 0, .int 0, .int 0, .int 0, .ref s15, .int 0, .ref s17, .int 0, .ref s19, .ref s20, .int (-1), .int 0, .int 0, .int 0, .int 0, .int 0, .ref s27, .int 0, .ref s29, .ref s30, .ref s31, .int 0, .int 0, .int 0, .ref s35, .ref s36, .ref s37, .long 0, .ref s39, .ref s40, .ref s41, .ref s42]))] := hD
  obtain rfl : r_2 = 0 := hw
  refine lv_istore_n (lv' := [(1, .int 0), (0, .ref h0)]) hx hb dX12_readsAll_34 rfl hl (by decide) rfl (fun ls hl => ?_)
  refine lv_iload_n hx hb dX12_readsAll_35 rfl (lv_at hl 0 rfl) ?_
  refine lv_if_eq (tgt := 66) hx hb dX12_readsAll_36 (by decide) (fun _ => ?_) (fun c9 => absurd c9 (by decide))
  refine lv_iload_n hx hb dX12_readsAll_66 rfl (lv_at hl 0 rfl) ?_
  refine lv_if_eq (tgt := 88) hx hb dX12_readsAll_67 (by decide) (fun _ => ?_) (fun c9 => absurd c9 (by decide))
  refine lv_aload_n hx hb dX12_readsAll_88 rfl (lv_at hl 1 rfl) ?_
  refine lv_iconst (v := 0) hx hb dX12_readsAll_89 (by decide) ?_
  refine va_put (D := (dC, dI)) (ci := 12) (v := .int 0) (ty := .int) (C := RX12) (T := TX12) (N := 43) hx hb hq inX12 tyX12 tyX12_ok nmX12 hown hK hP hD hS 1 rfl rfl 1 (by decide) (hq _ qw_1161) (fun _ h9 => h9) rfl (by decide +kernel) rfl rfl (Nat.le_of_ble_eq_true rfl) dX12_readsAll_90 (fun H locs hP hD hS => ?_)
  have hP : va_P (dC, dI) classes [(s4, .inl (k4, 7, .inl f_1)), (h0, .inr (12, [.ref s0, .int 0, .int 0, .ref s3, .ref s4, .ref s5, .ref s6, .ref s7, .int 0, .int 1, .int 0, .int 0, .int 0, .int 0, .int 0, .ref s15, .int 0, .ref s17, .int 0, .ref s19, .ref s20, .int (-1), .int 0, .int 0, .int 0, .int 0, .int 0, .ref s27, .int 0, .ref s29, .ref s30, .ref s31, .int 0, .int 0, .int 0, .ref s35, .ref s36, .ref s37, .long 0, .ref s39, .ref s40, .ref s41, .ref s42]))] H := hP
  have hD : va_D A [(s4, .inl (k4, 7, .inl f_1)), (h0, .inr (12, [.ref s0, .int 0, .int 0, .ref s3, .ref s4, .ref s5, .ref s6, .ref s7, .int 0, .int 1, .int 0, .int 0, .int 0, .int 0, .int 0, .ref s15, .int 0, .ref s17, .int 0, .ref s19, .ref s20, .int (-1), .int 0, .int 0, .int 0, .int 0, .int 0, .ref s27, .int 0, .ref s29, .ref s30, .ref s31, .int 0, .int 0, .int 0, .ref s35, .ref s36, .ref s37, .long 0, .ref s39, .ref s40, .ref s41, .ref s42]))] := hD
  refine lv_aload_n hx hb dX12_readsAll_93 rfl (lv_at hl 1 rfl) ?_
  refine va_get (D := (dC, dI)) (ci := 12) (v := .int 1) (C := RX12) (T := TX12) (N := 43) hx hb hq inX12 hown hK hP 1 rfl rfl 9 (by decide) (hq _ qw_1169) (fun _ h9 => h9) rfl dX12_readsAll_94 ?_
  refine lv_if_ne (tgt := 104) hx hb dX12_readsAll_97 (by decide) (fun _ => ?_) (fun c9 => absurd c9 (by decide))
  refine lv_iconst (v := 0) hx hb dX12_readsAll_104 (by decide) ?_
  have hP9 := hP.sub (ws' := [(h0, .inr (12, [.ref s0, .int 0, .int 0, .ref s3, .ref s4, .ref s5, .ref s6, .ref s7, .int 0, .int 1, .int 0, .int 0, .int 0, .int 0, .int 0, .ref s15, .int 0, .ref s17, .int 0, .ref s19, .ref s20, .int (-1), .int 0, .int 0, .int 0, .int 0, .int 0, .ref s27, .int 0, .ref s29, .ref s30, .ref s31, .int 0, .int 0, .int 0, .ref s35, .ref s36, .ref s37, .long 0, .ref s39, .ref s40, .ref s41, .ref s42])), (s4, .inl (k4, 7, .inl f_1))]) [1, 0] rfl
  have hD9 := hD.sub (ws' := [(h0, .inr (12, [.ref s0, .int 0, .int 0, .ref s3, .ref s4, .ref s5, .ref s6, .ref s7, .int 0, .int 1, .int 0, .int 0, .int 0, .int 0, .int 0, .ref s15, .int 0, .ref s17, .int 0, .ref s19, .ref s20, .int (-1), .int 0, .int 0, .int 0, .int 0, .int 0, .ref s27, .int 0, .ref s29, .ref s30, .ref s31, .int 0, .int 0, .int 0, .ref s35, .ref s36, .ref s37, .long 0, .ref s39, .ref s40, .ref s41, .ref s42])), (s4, .inl (k4, 7, .inl f_1))]) [1, 0] (by decide) rfl
  have hK9 := hK.sub (tys' := [(k4, .int)]) [0] rfl
  refine W.widen (k := 0) (n := 0) (Nat.le_of_ble_eq_true rfl) (Nat.le_of_ble_eq_true rfl) ?_
  exact W.zret (v := 0) hx hb hr (by decide) (fun t ht hW => ⟨⟨0, (), rfl, rfl, f_1, by rw [ht]; exact hP9, va_K.moved hW.alike hK9, hD9⟩, hS.F ht⟩) hS.2.2 dX12_readsAll_105

set_option maxHeartbeats 4000000 in
set_option maxRecDepth 100000 in
/-- c_M_dinner -/
theorem c_M_dinner (l : Launch) (dC : Nat → ClassId) (dI : Nat → Nat → Nat) (sz : Nat) (h0 : Nat) (s0 : Nat) (s3 : Nat) (s4 : Nat) (s5 : Nat) (s6 : Nat) (s7 : Nat) (s15 : Nat) (s17 : Nat) (s19 : Nat) (s20 : Nat) (s27 : Nat) (s29 : Nat) (s30 : Nat) (s31 : Nat) (s35 : Nat) (s36 : Nat) (s37 : Nat) (s39 : Nat) (s40 : Nat) (s41 : Nat) (s42 : Nat) (k4 : ClassId) (g4 : Nat → Int32) (k7 : ClassId) (g7 : Nat → Int32) : Met l yX12_dinner (.code yX12_dinner cX12_dinner 2 (some .int) :: wsA) ({ frames := 5, cells := 0, slots := 0, locals := 109 }) (va_Pc [.ref h0] (fun U => U.heap.size = sz ∧ va_P (dC, dI) classes [(h0, .inr (12, [.ref s0, .int 0, .int 0, .ref s3, .ref s4, .ref s5, .ref s6, .ref s7, .int 0, .int 0, .int 0, .int 0, .int 0, .int 0, .int 0, .ref s15, .int 0, .ref s17, .int 0, .ref s19, .ref s20, .int (-1), .int 0, .int 0, .int 0, .int 0, .int 0, .ref s27, .int 0, .ref s29, .ref s30, .ref s31, .int 0, .int 0, .int 0, .ref s35, .ref s36, .ref s37, .long 0, .ref s39, .ref s40, .ref s41, .ref s42])), (s4, .inl (k4, 7, .inl g4)), (s7, .inl (k7, 59, .inl g7))] U.heap ∧ va_K (dC, dI) classes [(k4, .int), (k7, .int)] U ∧ va_D (fun _ => True) [(h0, .inr (12, [.ref s0, .int 0, .int 0, .ref s3, .ref s4, .ref s5, .ref s6, .ref s7, .int 0, .int 0, .int 0, .int 0, .int 0, .int 0, .int 0, .ref s15, .int 0, .ref s17, .int 0, .ref s19, .ref s20, .int (-1), .int 0, .int 0, .int 0, .int 0, .int 0, .ref s27, .int 0, .ref s29, .ref s30, .ref s31, .int 0, .int 0, .int 0, .ref s35, .ref s36, .ref s37, .long 0, .ref s39, .ref s40, .ref s41, .ref s42])), (s4, .inl (k4, 7, .inl g4)), (s7, .inl (k7, 59, .inl g7))] ∧ xE U)) (va_Qi (fun (r : Int32) (_ : Unit) => r = (-3)) (fun _ _ => True) (va_A [(h0, .inr (12, [.ref s0, .int 0, .int 0, .ref s3, .ref s4, .ref s5, .ref s6, .ref s7, .int 0, .int 0, .int 0, .int 0, .int 0, .int 0, .int 0, .ref s15, .int 0, .ref s17, .int 0, .ref s19, .ref s20, .int (-1), .int 0, .int 0, .int 0, .int 0, .int 0, .ref s27, .int 0, .ref s29, .ref s30, .ref s31, .int 0, .int 0, .int 0, .ref s35, .ref s36, .ref s37, .long 0, .ref s39, .ref s40, .ref s41, .ref s42])), (s4, .inl (k4, 7, .inl g4)), (s7, .inl (k7, 59, .inl g7))] sz)) 0 0 (va_A [(h0, .inr (12, [.ref s0, .int 0, .int 0, .ref s3, .ref s4, .ref s5, .ref s6, .ref s7, .int 0, .int 0, .int 0, .int 0, .int 0, .int 0, .int 0, .ref s15, .int 0, .ref s17, .int 0, .ref s19, .ref s20, .int (-1), .int 0, .int 0, .int 0, .int 0, .int 0, .ref s27, .int 0, .ref s29, .ref s30, .ref s31, .int 0, .int 0, .int 0, .ref s35, .ref s36, .ref s37, .long 0, .ref s39, .ref s40, .ref s41, .ref s42])), (s4, .inl (k4, 7, .inl g4)), (s7, .inl (k7, 59, .inl g7))] sz) := by
  refine Met.ofW (cc := cX12_dinner) (maxL := 2) (ret := (some .int)) (by decide) rfl ?_
  intro p e s m args below meth c s₁ B hml hv
  obtain ⟨rfl, hsz, hP, hK, hD0, hE⟩ := hv
  have hx := B.exec
  have hb := B.bytes
  have hr := B.returns
  have hts := atoms_spec (ws := .code yX12_dinner cX12_dinner 2 (some .int) :: wsA) B.pre
  have hq : ∀ w ∈ wsA, w.before _ s = true := fun w h => hts w (List.mem_cons_of_mem _ h)
  have hown : s.vm.findClass RX12 = some m.cls := findClass_of_methodNamed B.named
  have hlocks := B.notSynchronized
  subst hsz
  have hD := hD0.self (sz := s.heap.size)
  generalize hAe : va_A [(h0, .inr (12, [.ref s0, .int 0, .int 0, .ref s3, .ref s4, .ref s5, .ref s6, .ref s7, .int 0, .int 0, .int 0, .int 0, .int 0, .int 0, .int 0, .ref s15, .int 0, .ref s17, .int 0, .ref s19, .ref s20, .int (-1), .int 0, .int 0, .int 0, .int 0, .int 0, .ref s27, .int 0, .ref s29, .ref s30, .ref s31, .int 0, .int 0, .int 0, .ref s35, .ref s36, .ref s37, .long 0, .ref s39, .ref s40, .ref s41, .ref s42])), (s4, .inl (k4, 7, .inl g4)), (s7, .inl (k7, 59, .inl g7))] s.heap.size = A at hD ⊢
  have hA : ∀ q : Nat, s.heap.size ≤ q → A q := fun q h => by rw [← hAe]; exact Or.inr h
  have hS : va_S A s.heap s.heap [] := va_S.rf
  have hl := lv_entry ([.ref h0]) (n := 2) (Nat.le_of_ble_eq_true rfl)
  rw [lg_entry_eq]
  generalize (lg_sl ([.ref h0]) ++ List.replicate (2 - (lg_sl ([.ref h0])).length) Slot.unset).toArray = ls at hl ⊢
  have hl : lv_has ls 2 [(0, .ref h0)] := hl
  refine lv_aload_n hx hb dX12_dinner_0 rfl (lv_at hl 0 rfl) ?_
  refine lv_bipush (v := 6) hx hb dX12_dinner_1 (by decide) ?_
  refine va_put (D := (dC, dI)) (ci := 12) (v := .int 6) (ty := .int) (C := RX12) (T := TX12) (N := 43) hx hb hq inX12 tyX12 tyX12_ok nmX12 hown hK hP hD hS 0 rfl rfl 11 (by decide) (hq _ qw_1171) (fun _ h9 => h9) rfl (by decide +kernel) rfl rfl (Nat.le_of_ble_eq_true rfl) dX12_dinner_3 (fun H locs hP hD hS => ?_)
  have hP : va_P (dC, dI) classes [(h0, .inr (12, [.ref s0, .int 0, .int 0, .ref s3, .ref s4, .ref s5, .ref s6, .ref s7, .int 0, .int 0, .int 0, .int 6, .int 0, .int 0, .int 0, .ref s15, .int 0, .ref s17, .int 0, .ref s19, .ref s20, .int (-1), .int 0, .int 0, .int 0, .int 0, .int 0, .ref s27, .int 0, .ref s29, .ref s30, .ref s31, .int 0, .int 0, .int 0, .ref s35, .ref s36, .ref s37, .long 0, .ref s39, .ref s40, .ref s41, .ref s42])), (s4, .inl (k4, 7, .inl g4)), (s7, .inl (k7, 59, .inl g7))] H := hP
  have hD : va_D A [(h0, .inr (12, [.ref s0, .int 0, .int 0, .ref s3, .ref s4, .ref s5, .ref s6, .ref s7, .int 0, .int 0, .int 0, .int 6, .int 0, .int 0, .int 0, .ref s15, .int 0, .ref s17, .int 0, .ref s19, .ref s20, .int (-1), .int 0, .int 0, .int 0, .int 0, .int 0, .ref s27, .int 0, .ref s29, .ref s30, .ref s31, .int 0, .int 0, .int 0, .ref s35, .ref s36, .ref s37, .long 0, .ref s39, .ref s40, .ref s41, .ref s42])), (s4, .inl (k4, 7, .inl g4)), (s7, .inl (k7, 59, .inl g7))] := hD
  refine lv_iconst (v := 0) hx hb dX12_dinner_6 (by decide) ?_
  refine lv_istore_n (lv' := [(1, .int 0), (0, .ref h0)]) hx hb dX12_dinner_7 rfl hl (by decide) rfl (fun ls hl => ?_)
  refine lv_iload_n hx hb dX12_dinner_8 rfl (lv_at hl 0 rfl) ?_
  refine lv_bipush (v := 59) hx hb dX12_dinner_9 (by decide) ?_
  refine lv_icmp_ge (tgt := 27) hx hb dX12_dinner_11 (by decide) (fun c9 => absurd c9 (by decide)) (fun _ => ?_)
  refine lv_aload_n hx hb dX12_dinner_14 rfl (lv_at hl 1 rfl) ?_
  refine va_get (D := (dC, dI)) (ci := 12) (v := .ref s7) (C := RX12) (T := TX12) (N := 43) hx hb hq inX12 hown hK hP 0 rfl rfl 7 (by decide) (hq _ qw_1167) (fun _ h9 => h9) rfl dX12_dinner_15 ?_
  refine lv_iload_n hx hb dX12_dinner_18 rfl (lv_at hl 0 rfl) ?_
  refine lv_iconst (v := 0) hx hb dX12_dinner_19 (by decide) ?_
  refine va_iast hx hb hK hP hD hS 2 1 rfl rfl (inr_ok rfl) dX12_dinner_20 (fun H locs hP hD hS => ?_)
  generalize upd g7 (Int32.toNatClampNeg 0) 0 = f_1 at hP hD
  have hP : va_P (dC, dI) classes [(h0, .inr (12, [.ref s0, .int 0, .int 0, .ref s3, .ref s4, .ref s5, .ref s6, .ref s7, .int 0, .int 0, .int 0, .int 6, .int 0, .int 0, .int 0, .ref s15, .int 0, .ref s17, .int 0, .ref s19, .ref s20, .int (-1), .int 0, .int 0, .int 0, .int 0, .int 0, .ref s27, .int 0, .ref s29, .ref s30, .ref s31, .int 0, .int 0, .int 0, .ref s35, .ref s36, .ref s37, .long 0, .ref s39, .ref s40, .ref s41, .ref s42])), (s4, .inl (k4, 7, .inl g4)), (s7, .inl (k7, 59, .inl f_1))] H := hP
  have hD : va_D A [(h0, .inr (12, [.ref s0, .int 0, .int 0, .ref s3, .ref s4, .ref s5, .ref s6, .ref s7, .int 0, .int 0, .int 0, .int 6, .int 0, .int 0, .int 0, .ref s15, .int 0, .ref s17, .int 0, .ref s19, .ref s20, .int (-1), .int 0, .int 0, .int 0, .int 0, .int 0, .ref s27, .int 0, .ref s29, .ref s30, .ref s31, .int 0, .int 0, .int 0, .ref s35, .ref s36, .ref s37, .long 0, .ref s39, .ref s40, .ref s41, .ref s42])), (s4, .inl (k4, 7, .inl g4)), (s7, .inl (k7, 59, .inl f_1))] := hD
  refine lv_iinc (v := 1) (lv' := [(1, .int 1), (0, .ref h0)]) hx hb dX12_dinner_21 hl (k := 0) rfl (by decide) (by decide) rfl (fun ls hl => ?_)
  refine lv_goto (tgt := 8) hx hb dX12_dinner_24 (by decide) ?_
  refine lv_iload_n hx hb dX12_dinner_8 rfl (lv_at hl 0 rfl) ?_
  refine lv_bipush (v := 59) hx hb dX12_dinner_9 (by decide) ?_
  refine lv_icmp_ge (tgt := 27) hx hb dX12_dinner_11 (by decide) (fun c9 => absurd c9 (by decide)) (fun _ => ?_)
  refine lv_aload_n hx hb dX12_dinner_14 rfl (lv_at hl 1 rfl) ?_
  refine va_get (D := (dC, dI)) (ci := 12) (v := .ref s7) (C := RX12) (T := TX12) (N := 43) hx hb hq inX12 hown hK hP 0 rfl rfl 7 (by decide) (hq _ qw_1167) (fun _ h9 => h9) rfl dX12_dinner_15 ?_
  refine lv_iload_n hx hb dX12_dinner_18 rfl (lv_at hl 0 rfl) ?_
  refine lv_iconst (v := 0) hx hb dX12_dinner_19 (by decide) ?_
  refine va_iast hx hb hK hP hD hS 2 1 rfl rfl (inr_ok rfl) dX12_dinner_20 (fun H locs hP hD hS => ?_)
  generalize upd f_1 (Int32.toNatClampNeg 1) 0 = f_2 at hP hD
  have hP : va_P (dC, dI) classes [(h0, .inr (12, [.ref s0, .int 0, .int 0, .ref s3, .ref s4, .ref s5, .ref s6, .ref s7, .int 0, .int 0, .int 0, .int 6, .int 0, .int 0, .int 0, .ref s15, .int 0, .ref s17, .int 0, .ref s19, .ref s20, .int (-1), .int 0, .int 0, .int 0, .int 0, .int 0, .ref s27, .int 0, .ref s29, .ref s30, .ref s31, .int 0, .int 0, .int 0, .ref s35, .ref s36, .ref s37, .long 0, .ref s39, .ref s40, .ref s41, .ref s42])), (s4, .inl (k4, 7, .inl g4)), (s7, .inl (k7, 59, .inl f_2))] H := hP
  have hD : va_D A [(h0, .inr (12, [.ref s0, .int 0, .int 0, .ref s3, .ref s4, .ref s5, .ref s6, .ref s7, .int 0, .int 0, .int 0, .int 6, .int 0, .int 0, .int 0, .ref s15, .int 0, .ref s17, .int 0, .ref s19, .ref s20, .int (-1), .int 0, .int 0, .int 0, .int 0, .int 0, .ref s27, .int 0, .ref s29, .ref s30, .ref s31, .int 0, .int 0, .int 0, .ref s35, .ref s36, .ref s37, .long 0, .ref s39, .ref s40, .ref s41, .ref s42])), (s4, .inl (k4, 7, .inl g4)), (s7, .inl (k7, 59, .inl f_2))] := hD
  refine lv_iinc (v := 2) (lv' := [(1, .int 2), (0, .ref h0)]) hx hb dX12_dinner_21 hl (k := 0) rfl (by decide) (by decide) rfl (fun ls hl => ?_)
  refine lv_goto (tgt := 8) hx hb dX12_dinner_24 (by decide) ?_
  refine lv_iload_n hx hb dX12_dinner_8 rfl (lv_at hl 0 rfl) ?_
  refine lv_bipush (v := 59) hx hb dX12_dinner_9 (by decide) ?_
  refine lv_icmp_ge (tgt := 27) hx hb dX12_dinner_11 (by decide) (fun c9 => absurd c9 (by decide)) (fun _ => ?_)
  refine lv_aload_n hx hb dX12_dinner_14 rfl (lv_at hl 1 rfl) ?_
  refine va_get (D := (dC, dI)) (ci := 12) (v := .ref s7) (C := RX12) (T := TX12) (N := 43) hx hb hq inX12 hown hK hP 0 rfl rfl 7 (by decide) (hq _ qw_1167) (fun _ h9 => h9) rfl dX12_dinner_15 ?_
  refine lv_iload_n hx hb dX12_dinner_18 rfl (lv_at hl 0 rfl) ?_
  refine lv_iconst (v := 0) hx hb dX12_dinner_19 (by decide) ?_
  refine va_iast hx hb hK hP hD hS 2 1 rfl rfl (inr_ok rfl) dX12_dinner_20 (fun H locs hP hD hS => ?_)
  generalize upd f_2 (Int32.toNatClampNeg 2) 0 = f_3 at hP hD
  have hP : va_P (dC, dI) classes [(h0, .inr (12, [.ref s0, .int 0, .int 0, .ref s3, .ref s4, .ref s5, .ref s6, .ref s7, .int 0, .int 0, .int 0, .int 6, .int 0, .int 0, .int 0, .ref s15, .int 0, .ref s17, .int 0, .ref s19, .ref s20, .int (-1), .int 0, .int 0, .int 0, .int 0, .int 0, .ref s27, .int 0, .ref s29, .ref s30, .ref s31, .int 0, .int 0, .int 0, .ref s35, .ref s36, .ref s37, .long 0, .ref s39, .ref s40, .ref s41, .ref s42])), (s4, .inl (k4, 7, .inl g4)), (s7, .inl (k7, 59, .inl f_3))] H := hP
  have hD : va_D A [(h0, .inr (12, [.ref s0, .int 0, .int 0, .ref s3, .ref s4, .ref s5, .ref s6, .ref s7, .int 0, .int 0, .int 0, .int 6, .int 0, .int 0, .int 0, .ref s15, .int 0, .ref s17, .int 0, .ref s19, .ref s20, .int (-1), .int 0, .int 0, .int 0, .int 0, .int 0, .ref s27, .int 0, .ref s29, .ref s30, .ref s31, .int 0, .int 0, .int 0, .ref s35, .ref s36, .ref s37, .long 0, .ref s39, .ref s40, .ref s41, .ref s42])), (s4, .inl (k4, 7, .inl g4)), (s7, .inl (k7, 59, .inl f_3))] := hD
  refine lv_iinc (v := 3) (lv' := [(1, .int 3), (0, .ref h0)]) hx hb dX12_dinner_21 hl (k := 0) rfl (by decide) (by decide) rfl (fun ls hl => ?_)
  refine lv_goto (tgt := 8) hx hb dX12_dinner_24 (by decide) ?_
  refine lv_iload_n hx hb dX12_dinner_8 rfl (lv_at hl 0 rfl) ?_
  refine lv_bipush (v := 59) hx hb dX12_dinner_9 (by decide) ?_
  refine lv_icmp_ge (tgt := 27) hx hb dX12_dinner_11 (by decide) (fun c9 => absurd c9 (by decide)) (fun _ => ?_)
  refine lv_aload_n hx hb dX12_dinner_14 rfl (lv_at hl 1 rfl) ?_
  refine va_get (D := (dC, dI)) (ci := 12) (v := .ref s7) (C := RX12) (T := TX12) (N := 43) hx hb hq inX12 hown hK hP 0 rfl rfl 7 (by decide) (hq _ qw_1167) (fun _ h9 => h9) rfl dX12_dinner_15 ?_
  refine lv_iload_n hx hb dX12_dinner_18 rfl (lv_at hl 0 rfl) ?_
  refine lv_iconst (v := 0) hx hb dX12_dinner_19 (by decide) ?_
  refine va_iast hx hb hK hP hD hS 2 1 rfl rfl (inr_ok rfl) dX12_dinner_20 (fun H locs hP hD hS => ?_)
  generalize upd f_3 (Int32.toNatClampNeg 3) 0 = f_4 at hP hD
  have hP : va_P (dC, dI) classes [(h0, .inr (12, [.ref s0, .int 0, .int 0, .ref s3, .ref s4, .ref s5, .ref s6, .ref s7, .int 0, .int 0, .int 0, .int 6, .int 0, .int 0, .int 0, .ref s15, .int 0, .ref s17, .int 0, .ref s19, .ref s20, .int (-1), .int 0, .int 0, .int 0, .int 0, .int 0, .ref s27, .int 0, .ref s29, .ref s30, .ref s31, .int 0, .int 0, .int 0, .ref s35, .ref s36, .ref s37, .long 0, .ref s39, .ref s40, .ref s41, .ref s42])), (s4, .inl (k4, 7, .inl g4)), (s7, .inl (k7, 59, .inl f_4))] H := hP
  have hD : va_D A [(h0, .inr (12, [.ref s0, .int 0, .int 0, .ref s3, .ref s4, .ref s5, .ref s6, .ref s7, .int 0, .int 0, .int 0, .int 6, .int 0, .int 0, .int 0, .ref s15, .int 0, .ref s17, .int 0, .ref s19, .ref s20, .int (-1), .int 0, .int 0, .int 0, .int 0, .int 0, .ref s27, .int 0, .ref s29, .ref s30, .ref s31, .int 0, .int 0, .int 0, .ref s35, .ref s36, .ref s37, .long 0, .ref s39, .ref s40, .ref s41, .ref s42])), (s4, .inl (k4, 7, .inl g4)), (s7, .inl (k7, 59, .inl f_4))] := hD
  refine lv_iinc (v := 4) (lv' := [(1, .int 4), (0, .ref h0)]) hx hb dX12_dinner_21 hl (k := 0) rfl (by decide) (by decide) rfl (fun ls hl => ?_)
  refine lv_goto (tgt := 8) hx hb dX12_dinner_24 (by decide) ?_
  refine lv_iload_n hx hb dX12_dinner_8 rfl (lv_at hl 0 rfl) ?_
  refine lv_bipush (v := 59) hx hb dX12_dinner_9 (by decide) ?_
  refine lv_icmp_ge (tgt := 27) hx hb dX12_dinner_11 (by decide) (fun c9 => absurd c9 (by decide)) (fun _ => ?_)
  refine lv_aload_n hx hb dX12_dinner_14 rfl (lv_at hl 1 rfl) ?_
  refine va_get (D := (dC, dI)) (ci := 12) (v := .ref s7) (C := RX12) (T := TX12) (N := 43) hx hb hq inX12 hown hK hP 0 rfl rfl 7 (by decide) (hq _ qw_1167) (fun _ h9 => h9) rfl dX12_dinner_15 ?_
  refine lv_iload_n hx hb dX12_dinner_18 rfl (lv_at hl 0 rfl) ?_
  refine lv_iconst (v := 0) hx hb dX12_dinner_19 (by decide) ?_
  refine va_iast hx hb hK hP hD hS 2 1 rfl rfl (inr_ok rfl) dX12_dinner_20 (fun H locs hP hD hS => ?_)
  generalize upd f_4 (Int32.toNatClampNeg 4) 0 = f_5 at hP hD
  have hP : va_P (dC, dI) classes [(h0, .inr (12, [.ref s0, .int 0, .int 0, .ref s3, .ref s4, .ref s5, .ref s6, .ref s7, .int 0, .int 0, .int 0, .int 6, .int 0, .int 0, .int 0, .ref s15, .int 0, .ref s17, .int 0, .ref s19, .ref s20, .int (-1), .int 0, .int 0, .int 0, .int 0, .int 0, .ref s27, .int 0, .ref s29, .ref s30, .ref s31, .int 0, .int 0, .int 0, .ref s35, .ref s36, .ref s37, .long 0, .ref s39, .ref s40, .ref s41, .ref s42])), (s4, .inl (k4, 7, .inl g4)), (s7, .inl (k7, 59, .inl f_5))] H := hP
  have hD : va_D A [(h0, .inr (12, [.ref s0, .int 0, .int 0, .ref s3, .ref s4, .ref s5, .ref s6, .ref s7, .int 0, .int 0, .int 0, .int 6, .int 0, .int 0, .int 0, .ref s15, .int 0, .ref s17, .int 0, .ref s19, .ref s20, .int (-1), .int 0, .int 0, .int 0, .int 0, .int 0, .ref s27, .int 0, .ref s29, .ref s30, .ref s31, .int 0, .int 0, .int 0, .ref s35, .ref s36, .ref s37, .long 0, .ref s39, .ref s40, .ref s41, .ref s42])), (s4, .inl (k4, 7, .inl g4)), (s7, .inl (k7, 59, .inl f_5))] := hD
  refine lv_iinc (v := 5) (lv' := [(1, .int 5), (0, .ref h0)]) hx hb dX12_dinner_21 hl (k := 0) rfl (by decide) (by decide) rfl (fun ls hl => ?_)
  refine lv_goto (tgt := 8) hx hb dX12_dinner_24 (by decide) ?_
  refine lv_iload_n hx hb dX12_dinner_8 rfl (lv_at hl 0 rfl) ?_
  refine lv_bipush (v := 59) hx hb dX12_dinner_9 (by decide) ?_
  refine lv_icmp_ge (tgt := 27) hx hb dX12_dinner_11 (by decide) (fun c9 => absurd c9 (by decide)) (fun _ => ?_)
  refine lv_aload_n hx hb dX12_dinner_14 rfl (lv_at hl 1 rfl) ?_
  refine va_get (D := (dC, dI)) (ci := 12) (v := .ref s7) (C := RX12) (T := TX12) (N := 43) hx hb hq inX12 hown hK hP 0 rfl rfl 7 (by decide) (hq _ qw_1167) (fun _ h9 => h9) rfl dX12_dinner_15 ?_
  refine lv_iload_n hx hb dX12_dinner_18 rfl (lv_at hl 0 rfl) ?_
  refine lv_iconst (v := 0) hx hb dX12_dinner_19 (by decide) ?_
  refine va_iast hx hb hK hP hD hS 2 1 rfl rfl (inr_ok rfl) dX12_dinner_20 (fun H locs hP hD hS => ?_)
  generalize upd f_5 (Int32.toNatClampNeg 5) 0 = f_6 at hP hD
  have hP : va_P (dC, dI) classes [(h0, .inr (12, [.ref s0, .int 0, .int 0, .ref s3, .ref s4, .ref s5, .ref s6, .ref s7, .int 0, .int 0, .int 0, .int 6, .int 0, .int 0, .int 0, .ref s15, .int 0, .ref s17, .int 0, .ref s19, .ref s20, .int (-1), .int 0, .int 0, .int 0, .int 0, .int 0, .ref s27, .int 0, .ref s29, .ref s30, .ref s31, .int 0, .int 0, .int 0, .ref s35, .ref s36, .ref s37, .long 0, .ref s39, .ref s40, .ref s41, .ref s42])), (s4, .inl (k4, 7, .inl g4)), (s7, .inl (k7, 59, .inl f_6))] H := hP
  have hD : va_D A [(h0, .inr (12, [.ref s0, .int 0, .int 0, .ref s3, .ref s4, .ref s5, .ref s6, .ref s7, .int 0, .int 0, .int 0, .int 6, .int 0, .int 0, .int 0, .ref s15, .int 0, .ref s17, .int 0, .ref s19, .ref s20, .int (-1), .int 0, .int 0, .int 0, .int 0, .int 0, .ref s27, .int 0, .ref s29, .ref s30, .ref s31, .int 0, .int 0, .int 0, .ref s35, .ref s36, .ref s37, .long 0, .ref s39, .ref s40, .ref s41, .ref s42])), (s4, .inl (k4, 7, .inl g4)), (s7, .inl (k7, 59, .inl f_6))] := hD
  refine lv_iinc (v := 6) (lv' := [(1, .int 6), (0, .ref h0)]) hx hb dX12_dinner_21 hl (k := 0) rfl (by decide) (by decide) rfl (fun ls hl => ?_)
  refine lv_goto (tgt := 8) hx hb dX12_dinner_24 (by decide) ?_
  refine lv_iload_n hx hb dX12_dinner_8 rfl (lv_at hl 0 rfl) ?_
  refine lv_bipush (v := 59) hx hb dX12_dinner_9 (by decide) ?_
  refine lv_icmp_ge (tgt := 27) hx hb dX12_dinner_11 (by decide) (fun c9 => absurd c9 (by decide)) (fun _ => ?_)
  refine lv_aload_n hx hb dX12_dinner_14 rfl (lv_at hl 1 rfl) ?_
  refine va_get (D := (dC, dI)) (ci := 12) (v := .ref s7) (C := RX12) (T := TX12) (N := 43) hx hb hq inX12 hown hK hP 0 rfl rfl 7 (by decide) (hq _ qw_1167) (fun _ h9 => h9) rfl dX12_dinner_15 ?_
  refine lv_iload_n hx hb dX12_dinner_18 rfl (lv_at hl 0 rfl) ?_
  refine lv_iconst (v := 0) hx hb dX12_dinner_19 (by decide) ?_
  refine va_iast hx hb hK hP hD hS 2 1 rfl rfl (inr_ok rfl) dX12_dinner_20 (fun H locs hP hD hS => ?_)
  generalize upd f_6 (Int32.toNatClampNeg 6) 0 = f_7 at hP hD
  have hP : va_P (dC, dI) classes [(h0, .inr (12, [.ref s0, .int 0, .int 0, .ref s3, .ref s4, .ref s5, .ref s6, .ref s7, .int 0, .int 0, .int 0, .int 6, .int 0, .int 0, .int 0, .ref s15, .int 0, .ref s17, .int 0, .ref s19, .ref s20, .int (-1), .int 0, .int 0, .int 0, .int 0, .int 0, .ref s27, .int 0, .ref s29, .ref s30, .ref s31, .int 0, .int 0, .int 0, .ref s35, .ref s36, .ref s37, .long 0, .ref s39, .ref s40, .ref s41, .ref s42])), (s4, .inl (k4, 7, .inl g4)), (s7, .inl (k7, 59, .inl f_7))] H := hP
  have hD : va_D A [(h0, .inr (12, [.ref s0, .int 0, .int 0, .ref s3, .ref s4, .ref s5, .ref s6, .ref s7, .int 0, .int 0, .int 0, .int 6, .int 0, .int 0, .int 0, .ref s15, .int 0, .ref s17, .int 0, .ref s19, .ref s20, .int (-1), .int 0, .int 0, .int 0, .int 0, .int 0, .ref s27, .int 0, .ref s29, .ref s30, .ref s31, .int 0, .int 0, .int 0, .ref s35, .ref s36, .ref s37, .long 0, .ref s39, .ref s40, .ref s41, .ref s42])), (s4, .inl (k4, 7, .inl g4)), (s7, .inl (k7, 59, .inl f_7))] := hD
  refine lv_iinc (v := 7) (lv' := [(1, .int 7), (0, .ref h0)]) hx hb dX12_dinner_21 hl (k := 0) rfl (by decide) (by decide) rfl (fun ls hl => ?_)
  refine lv_goto (tgt := 8) hx hb dX12_dinner_24 (by decide) ?_
  refine lv_iload_n hx hb dX12_dinner_8 rfl (lv_at hl 0 rfl) ?_
  refine lv_bipush (v := 59) hx hb dX12_dinner_9 (by decide) ?_
  refine lv_icmp_ge (tgt := 27) hx hb dX12_dinner_11 (by decide) (fun c9 => absurd c9 (by decide)) (fun _ => ?_)
  refine lv_aload_n hx hb dX12_dinner_14 rfl (lv_at hl 1 rfl) ?_
  refine va_get (D := (dC, dI)) (ci := 12) (v := .ref s7) (C := RX12) (T := TX12) (N := 43) hx hb hq inX12 hown hK hP 0 rfl rfl 7 (by decide) (hq _ qw_1167) (fun _ h9 => h9) rfl dX12_dinner_15 ?_
  refine lv_iload_n hx hb dX12_dinner_18 rfl (lv_at hl 0 rfl) ?_
  refine lv_iconst (v := 0) hx hb dX12_dinner_19 (by decide) ?_
  refine va_iast hx hb hK hP hD hS 2 1 rfl rfl (inr_ok rfl) dX12_dinner_20 (fun H locs hP hD hS => ?_)
  generalize upd f_7 (Int32.toNatClampNeg 7) 0 = f_8 at hP hD
  have hP : va_P (dC, dI) classes [(h0, .inr (12, [.ref s0, .int 0, .int 0, .ref s3, .ref s4, .ref s5, .ref s6, .ref s7, .int 0, .int 0, .int 0, .int 6, .int 0, .int 0, .int 0, .ref s15, .int 0, .ref s17, .int 0, .ref s19, .ref s20, .int (-1), .int 0, .int 0, .int 0, .int 0, .int 0, .ref s27, .int 0, .ref s29, .ref s30, .ref s31, .int 0, .int 0, .int 0, .ref s35, .ref s36, .ref s37, .long 0, .ref s39, .ref s40, .ref s41, .ref s42])), (s4, .inl (k4, 7, .inl g4)), (s7, .inl (k7, 59, .inl f_8))] H := hP
  have hD : va_D A [(h0, .inr (12, [.ref s0, .int 0, .int 0, .ref s3, .ref s4, .ref s5, .ref s6, .ref s7, .int 0, .int 0, .int 0, .int 6, .int 0, .int 0, .int 0, .ref s15, .int 0, .ref s17, .int 0, .ref s19, .ref s20, .int (-1), .int 0, .int 0, .int 0, .int 0, .int 0, .ref s27, .int 0, .ref s29, .ref s30, .ref s31, .int 0, .int 0, .int 0, .ref s35, .ref s36, .ref s37, .long 0, .ref s39, .ref s40, .ref s41, .ref s42])), (s4, .inl (k4, 7, .inl g4)), (s7, .inl (k7, 59, .inl f_8))] := hD
  refine lv_iinc (v := 8) (lv' := [(1, .int 8), (0, .ref h0)]) hx hb dX12_dinner_21 hl (k := 0) rfl (by decide) (by decide) rfl (fun ls hl => ?_)
  refine lv_goto (tgt := 8) hx hb dX12_dinner_24 (by decide) ?_
  refine lv_iload_n hx hb dX12_dinner_8 rfl (lv_at hl 0 rfl) ?_
  refine lv_bipush (v := 59) hx hb dX12_dinner_9 (by decide) ?_
  refine lv_icmp_ge (tgt := 27) hx hb dX12_dinner_11 (by decide) (fun c9 => absurd c9 (by decide)) (fun _ => ?_)
  refine lv_aload_n hx hb dX12_dinner_14 rfl (lv_at hl 1 rfl) ?_
  refine va_get (D := (dC, dI)) (ci := 12) (v := .ref s7) (C := RX12) (T := TX12) (N := 43) hx hb hq inX12 hown hK hP 0 rfl rfl 7 (by decide) (hq _ qw_1167) (fun _ h9 => h9) rfl dX12_dinner_15 ?_
  refine lv_iload_n hx hb dX12_dinner_18 rfl (lv_at hl 0 rfl) ?_
  refine lv_iconst (v := 0) hx hb dX12_dinner_19 (by decide) ?_
  refine va_iast hx hb hK hP hD hS 2 1 rfl rfl (inr_ok rfl) dX12_dinner_20 (fun H locs hP hD hS => ?_)
  generalize upd f_8 (Int32.toNatClampNeg 8) 0 = f_9 at hP hD
  have hP : va_P (dC, dI) classes [(h0, .inr (12, [.ref s0, .int 0, .int 0, .ref s3, .ref s4, .ref s5, .ref s6, .ref s7, .int 0, .int 0, .int 0, .int 6, .int 0, .int 0, .int 0, .ref s15, .int 0, .ref s17, .int 0, .ref s19, .ref s20, .int (-1), .int 0, .int 0, .int 0, .int 0, .int 0, .ref s27, .int 0, .ref s29, .ref s30, .ref s31, .int 0, .int 0, .int 0, .ref s35, .ref s36, .ref s37, .long 0, .ref s39, .ref s40, .ref s41, .ref s42])), (s4, .inl (k4, 7, .inl g4)), (s7, .inl (k7, 59, .inl f_9))] H := hP
  have hD : va_D A [(h0, .inr (12, [.ref s0, .int 0, .int 0, .ref s3, .ref s4, .ref s5, .ref s6, .ref s7, .int 0, .int 0, .int 0, .int 6, .int 0, .int 0, .int 0, .ref s15, .int 0, .ref s17, .int 0, .ref s19, .ref s20, .int (-1), .int 0, .int 0, .int 0, .int 0, .int 0, .ref s27, .int 0, .ref s29, .ref s30, .ref s31, .int 0, .int 0, .int 0, .ref s35, .ref s36, .ref s37, .long 0, .ref s39, .ref s40, .ref s41, .ref s42])), (s4, .inl (k4, 7, .inl g4)), (s7, .inl (k7, 59, .inl f_9))] := hD
  refine lv_iinc (v := 9) (lv' := [(1, .int 9), (0, .ref h0)]) hx hb dX12_dinner_21 hl (k := 0) rfl (by decide) (by decide) rfl (fun ls hl => ?_)
  refine lv_goto (tgt := 8) hx hb dX12_dinner_24 (by decide) ?_
  refine lv_iload_n hx hb dX12_dinner_8 rfl (lv_at hl 0 rfl) ?_
  refine lv_bipush (v := 59) hx hb dX12_dinner_9 (by decide) ?_
  refine lv_icmp_ge (tgt := 27) hx hb dX12_dinner_11 (by decide) (fun c9 => absurd c9 (by decide)) (fun _ => ?_)
  refine lv_aload_n hx hb dX12_dinner_14 rfl (lv_at hl 1 rfl) ?_
  refine va_get (D := (dC, dI)) (ci := 12) (v := .ref s7) (C := RX12) (T := TX12) (N := 43) hx hb hq inX12 hown hK hP 0 rfl rfl 7 (by decide) (hq _ qw_1167) (fun _ h9 => h9) rfl dX12_dinner_15 ?_
  refine lv_iload_n hx hb dX12_dinner_18 rfl (lv_at hl 0 rfl) ?_
  refine lv_iconst (v := 0) hx hb dX12_dinner_19 (by decide) ?_
  refine va_iast hx hb hK hP hD hS 2 1 rfl rfl (inr_ok rfl) dX12_dinner_20 (fun H locs hP hD hS => ?_)
  generalize upd f_9 (Int32.toNatClampNeg 9) 0 = f_10 at hP hD
  have hP : va_P (dC, dI) classes [(h0, .inr (12, [.ref s0, .int 0, .int 0, .ref s3, .ref s4, .ref s5, .ref s6, .ref s7, .int 0, .int 0, .int 0, .int 6, .int 0, .int 0, .int 0, .ref s15, .int 0, .ref s17, .int 0, .ref s19, .ref s20, .int (-1), .int 0, .int 0, .int 0, .int 0, .int 0, .ref s27, .int 0, .ref s29, .ref s30, .ref s31, .int 0, .int 0, .int 0, .ref s35, .ref s36, .ref s37, .long 0, .ref s39, .ref s40, .ref s41, .ref s42])), (s4, .inl (k4, 7, .inl g4)), (s7, .inl (k7, 59, .inl f_10))] H := hP
  have hD : va_D A [(h0, .inr (12, [.ref s0, .int 0, .int 0, .ref s3, .ref s4, .ref s5, .ref s6, .ref s7, .int 0, .int 0, .int 0, .int 6, .int 0, .int 0, .int 0, .ref s15, .int 0, .ref s17, .int 0, .ref s19, .ref s20, .int (-1), .int 0, .int 0, .int 0, .int 0, .int 0, .ref s27, .int 0, .ref s29, .ref s30, .ref s31, .int 0, .int 0, .int 0, .ref s35, .ref s36, .ref s37, .long 0, .ref s39, .ref s40, .ref s41, .ref s42])), (s4, .inl (k4, 7, .inl g4)), (s7, .inl (k7, 59, .inl f_10))] := hD
  refine lv_iinc (v := 10) (lv' := [(1, .int 10), (0, .ref h0)]) hx hb dX12_dinner_21 hl (k := 0) rfl (by decide) (by decide) rfl (fun ls hl => ?_)
  refine lv_goto (tgt := 8) hx hb dX12_dinner_24 (by decide) ?_
  refine lv_iload_n hx hb dX12_dinner_8 rfl (lv_at hl 0 rfl) ?_
  refine lv_bipush (v := 59) hx hb dX12_dinner_9 (by decide) ?_
  refine lv_icmp_ge (tgt := 27) hx hb dX12_dinner_11 (by decide) (fun c9 => absurd c9 (by decide)) (fun _ => ?_)
  refine lv_aload_n hx hb dX12_dinner_14 rfl (lv_at hl 1 rfl) ?_
  refine va_get (D := (dC, dI)) (ci := 12) (v := .ref s7) (C := RX12) (T := TX12) (N := 43) hx hb hq inX12 hown hK hP 0 rfl rfl 7 (by decide) (hq _ qw_1167) (fun _ h9 => h9) rfl dX12_dinner_15 ?_
  refine lv_iload_n hx hb dX12_dinner_18 rfl (lv_at hl 0 rfl) ?_
  refine lv_iconst (v := 0) hx hb dX12_dinner_19 (by decide) ?_
  refine va_iast hx hb hK hP hD hS 2 1 rfl rfl (inr_ok rfl) dX12_dinner_20 (fun H locs hP hD hS => ?_)
  generalize upd f_10 (Int32.toNatClampNeg 10) 0 = f_11 at hP hD
  have hP : va_P (dC, dI) classes [(h0, .inr (12, [.ref s0, .int 0, .int 0, .ref s3, .ref s4, .ref s5, .ref s6, .ref s7, .int 0, .int 0, .int 0, .int 6, .int 0, .int 0, .int 0, .ref s15, .int 0, .ref s17, .int 0, .ref s19, .ref s20, .int (-1), .int 0, .int 0, .int 0, .int 0, .int 0, .ref s27, .int 0, .ref s29, .ref s30, .ref s31, .int 0, .int 0, .int 0, .ref s35, .ref s36, .ref s37, .long 0, .ref s39, .ref s40, .ref s41, .ref s42])), (s4, .inl (k4, 7, .inl g4)), (s7, .inl (k7, 59, .inl f_11))] H := hP
  have hD : va_D A [(h0, .inr (12, [.ref s0, .int 0, .int 0, .ref s3, .ref s4, .ref s5, .ref s6, .ref s7, .int 0, .int 0, .int 0, .int 6, .int 0, .int 0, .int 0, .ref s15, .int 0, .ref s17, .int 0, .ref s19, .ref s20, .int (-1), .int 0, .int 0, .int 0, .int 0, .int 0, .ref s27, .int 0, .ref s29, .ref s30, .ref s31, .int 0, .int 0, .int 0, .ref s35, .ref s36, .ref s37, .long 0, .ref s39, .ref s40, .ref s41, .ref s42])), (s4, .inl (k4, 7, .inl g4)), (s7, .inl (k7, 59, .inl f_11))] := hD
  refine lv_iinc (v := 11) (lv' := [(1, .int 11), (0, .ref h0)]) hx hb dX12_dinner_21 hl (k := 0) rfl (by decide) (by decide) rfl (fun ls hl => ?_)
  refine lv_goto (tgt := 8) hx hb dX12_dinner_24 (by decide) ?_
  refine lv_iload_n hx hb dX12_dinner_8 rfl (lv_at hl 0 rfl) ?_
  refine lv_bipush (v := 59) hx hb dX12_dinner_9 (by decide) ?_
  refine lv_icmp_ge (tgt := 27) hx hb dX12_dinner_11 (by decide) (fun c9 => absurd c9 (by decide)) (fun _ => ?_)
  refine lv_aload_n hx hb dX12_dinner_14 rfl (lv_at hl 1 rfl) ?_
  refine va_get (D := (dC, dI)) (ci := 12) (v := .ref s7) (C := RX12) (T := TX12) (N := 43) hx hb hq inX12 hown hK hP 0 rfl rfl 7 (by decide) (hq _ qw_1167) (fun _ h9 => h9) rfl dX12_dinner_15 ?_
  refine lv_iload_n hx hb dX12_dinner_18 rfl (lv_at hl 0 rfl) ?_
  refine lv_iconst (v := 0) hx hb dX12_dinner_19 (by decide) ?_
  refine va_iast hx hb hK hP hD hS 2 1 rfl rfl (inr_ok rfl) dX12_dinner_20 (fun H locs hP hD hS => ?_)
  generalize upd f_11 (Int32.toNatClampNeg 11) 0 = f_12 at hP hD
  have hP : va_P (dC, dI) classes [(h0, .inr (12, [.ref s0, .int 0, .int 0, .ref s3, .ref s4, .ref s5, .ref s6, .ref s7, .int 0, .int 0, .int 0, .int 6, .int 0, .int 0, .int 0, .ref s15, .int 0, .ref s17, .int 0, .ref s19, .ref s20, .int (-1), .int 0, .int 0, .int 0, .int 0, .int 0, .ref s27, .int 0, .ref s29, .ref s30, .ref s31, .int 0, .int 0, .int 0, .ref s35, .ref s36, .ref s37, .long 0, .ref s39, .ref s40, .ref s41, .ref s42])), (s4, .inl (k4, 7, .inl g4)), (s7, .inl (k7, 59, .inl f_12))] H := hP
  have hD : va_D A [(h0, .inr (12, [.ref s0, .int 0, .int 0, .ref s3, .ref s4, .ref s5, .ref s6, .ref s7, .int 0, .int 0, .int 0, .int 6, .int 0, .int 0, .int 0, .ref s15, .int 0, .ref s17, .int 0, .ref s19, .ref s20, .int (-1), .int 0, .int 0, .int 0, .int 0, .int 0, .ref s27, .int 0, .ref s29, .ref s30, .ref s31, .int 0, .int 0, .int 0, .ref s35, .ref s36, .ref s37, .long 0, .ref s39, .ref s40, .ref s41, .ref s42])), (s4, .inl (k4, 7, .inl g4)), (s7, .inl (k7, 59, .inl f_12))] := hD
  refine lv_iinc (v := 12) (lv' := [(1, .int 12), (0, .ref h0)]) hx hb dX12_dinner_21 hl (k := 0) rfl (by decide) (by decide) rfl (fun ls hl => ?_)
  refine lv_goto (tgt := 8) hx hb dX12_dinner_24 (by decide) ?_
  refine lv_iload_n hx hb dX12_dinner_8 rfl (lv_at hl 0 rfl) ?_
  refine lv_bipush (v := 59) hx hb dX12_dinner_9 (by decide) ?_
  refine lv_icmp_ge (tgt := 27) hx hb dX12_dinner_11 (by decide) (fun c9 => absurd c9 (by decide)) (fun _ => ?_)
  refine lv_aload_n hx hb dX12_dinner_14 rfl (lv_at hl 1 rfl) ?_
  refine va_get (D := (dC, dI)) (ci := 12) (v := .ref s7) (C := RX12) (T := TX12) (N := 43) hx hb hq inX12 hown hK hP 0 rfl rfl 7 (by decide) (hq _ qw_1167) (fun _ h9 => h9) rfl dX12_dinner_15 ?_
  refine lv_iload_n hx hb dX12_dinner_18 rfl (lv_at hl 0 rfl) ?_
  refine lv_iconst (v := 0) hx hb dX12_dinner_19 (by decide) ?_
  refine va_iast hx hb hK hP hD hS 2 1 rfl rfl (inr_ok rfl) dX12_dinner_20 (fun H locs hP hD hS => ?_)
  generalize upd f_12 (Int32.toNatClampNeg 12) 0 = f_13 at hP hD
  have hP : va_P (dC, dI) classes [(h0, .inr (12, [.ref s0, .int 0, .int 0, .ref s3, .ref s4, .ref s5, .ref s6, .ref s7, .int 0, .int 0, .int 0, .int 6, .int 0, .int 0, .int 0, .ref s15, .int 0, .ref s17, .int 0, .ref s19, .ref s20, .int (-1), .int 0, .int 0, .int 0, .int 0, .int 0, .ref s27, .int 0, .ref s29, .ref s30, .ref s31, .int 0, .int 0, .int 0, .ref s35, .ref s36, .ref s37, .long 0, .ref s39, .ref s40, .ref s41, .ref s42])), (s4, .inl (k4, 7, .inl g4)), (s7, .inl (k7, 59, .inl f_13))] H := hP
  have hD : va_D A [(h0, .inr (12, [.ref s0, .int 0, .int 0, .ref s3, .ref s4, .ref s5, .ref s6, .ref s7, .int 0, .int 0, .int 0, .int 6, .int 0, .int 0, .int 0, .ref s15, .int 0, .ref s17, .int 0, .ref s19, .ref s20, .int (-1), .int 0, .int 0, .int 0, .int 0, .int 0, .ref s27, .int 0, .ref s29, .ref s30, .ref s31, .int 0, .int 0, .int 0, .ref s35, .ref s36, .ref s37, .long 0, .ref s39, .ref s40, .ref s41, .ref s42])), (s4, .inl (k4, 7, .inl g4)), (s7, .inl (k7, 59, .inl f_13))] := hD
  refine lv_iinc (v := 13) (lv' := [(1, .int 13), (0, .ref h0)]) hx hb dX12_dinner_21 hl (k := 0) rfl (by decide) (by decide) rfl (fun ls hl => ?_)
  refine lv_goto (tgt := 8) hx hb dX12_dinner_24 (by decide) ?_
  refine lv_iload_n hx hb dX12_dinner_8 rfl (lv_at hl 0 rfl) ?_
  refine lv_bipush (v := 59) hx hb dX12_dinner_9 (by decide) ?_
  refine lv_icmp_ge (tgt := 27) hx hb dX12_dinner_11 (by decide) (fun c9 => absurd c9 (by decide)) (fun _ => ?_)
  refine lv_aload_n hx hb dX12_dinner_14 rfl (lv_at hl 1 rfl) ?_
  refine va_get (D := (dC, dI)) (ci := 12) (v := .ref s7) (C := RX12) (T := TX12) (N := 43) hx hb hq inX12 hown hK hP 0 rfl rfl 7 (by decide) (hq _ qw_1167) (fun _ h9 => h9) rfl dX12_dinner_15 ?_
  refine lv_iload_n hx hb dX12_dinner_18 rfl (lv_at hl 0 rfl) ?_
  refine lv_iconst (v := 0) hx hb dX12_dinner_19 (by decide) ?_
  refine va_iast hx hb hK hP hD hS 2 1 rfl rfl (inr_ok rfl) dX12_dinner_20 (fun H locs hP hD hS => ?_)
  generalize upd f_13 (Int32.toNatClampNeg 13) 0 = f_14 at hP hD
  have hP : va_P (dC, dI) classes [(h0, .inr (12, [.ref s0, .int 0, .int 0, .ref s3, .ref s4, .ref s5, .ref s6, .ref s7, .int 0, .int 0, .int 0, .int 6, .int 0, .int 0, .int 0, .ref s15, .int 0, .ref s17, .int 0, .ref s19, .ref s20, .int (-1), .int 0, .int 0, .int 0, .int 0, .int 0, .ref s27, .int 0, .ref s29, .ref s30, .ref s31, .int 0, .int 0, .int 0, .ref s35, .ref s36, .ref s37, .long 0, .ref s39, .ref s40, .ref s41, .ref s42])), (s4, .inl (k4, 7, .inl g4)), (s7, .inl (k7, 59, .inl f_14))] H := hP
  have hD : va_D A [(h0, .inr (12, [.ref s0, .int 0, .int 0, .ref s3, .ref s4, .ref s5, .ref s6, .ref s7, .int 0, .int 0, .int 0, .int 6, .int 0, .int 0, .int 0, .ref s15, .int 0, .ref s17, .int 0, .ref s19, .ref s20, .int (-1), .int 0, .int 0, .int 0, .int 0, .int 0, .ref s27, .int 0, .ref s29, .ref s30, .ref s31, .int 0, .int 0, .int 0, .ref s35, .ref s36, .ref s37, .long 0, .ref s39, .ref s40, .ref s41, .ref s42])), (s4, .inl (k4, 7, .inl g4)), (s7, .inl (k7, 59, .inl f_14))] := hD
  refine lv_iinc (v := 14) (lv' := [(1, .int 14), (0, .ref h0)]) hx hb dX12_dinner_21 hl (k := 0) rfl (by decide) (by decide) rfl (fun ls hl => ?_)
  refine lv_goto (tgt := 8) hx hb dX12_dinner_24 (by decide) ?_
  refine lv_iload_n hx hb dX12_dinner_8 rfl (lv_at hl 0 rfl) ?_
  refine lv_bipush (v := 59) hx hb dX12_dinner_9 (by decide) ?_
  refine lv_icmp_ge (tgt := 27) hx hb dX12_dinner_11 (by decide) (fun c9 => absurd c9 (by decide)) (fun _ => ?_)
  refine lv_aload_n hx hb dX12_dinner_14 rfl (lv_at hl 1 rfl) ?_
  refine va_get (D := (dC, dI)) (ci := 12) (v := .ref s7) (C := RX12) (T := TX12) (N := 43) hx hb hq inX12 hown hK hP 0 rfl rfl 7 (by decide) (hq _ qw_1167) (fun _ h9 => h9) rfl dX12_dinner_15 ?_
  refine lv_iload_n hx hb dX12_dinner_18 rfl (lv_at hl 0 rfl) ?_
  refine lv_iconst (v := 0) hx hb dX12_dinner_19 (by decide) ?_
  refine va_iast hx hb hK hP hD hS 2 1 rfl rfl (inr_ok rfl) dX12_dinner_20 (fun H locs hP hD hS => ?_)
  generalize upd f_14 (Int32.toNatClampNeg 14) 0 = f_15 at hP hD
  have hP : va_P (dC, dI) classes [(h0, .inr (12, [.ref s0, .int 0, .int 0, .ref s3, .ref s4, .ref s5, .ref s6, .ref s7, .int 0, .int 0, .int 0, .int 6, .int 0, .int 0, .int 0, .ref s15, .int 0, .ref s17, .int 0, .ref s19, .ref s20, .int (-1), .int 0, .int 0, .int 0, .int 0, .int 0, .ref s27, .int 0, .ref s29, .ref s30, .ref s31, .int 0, .int 0, .int 0, .ref s35, .ref s36, .ref s37, .long 0, .ref s39, .ref s40, .ref s41, .ref s42])), (s4, .inl (k4, 7, .inl g4)), (s7, .inl (k7, 59, .inl f_15))] H := hP
  have hD : va_D A [(h0, .inr (12, [.ref s0, .int 0, .int 0, .ref s3, .ref s4, .ref s5, .ref s6, .ref s7, .int 0, .int 0, .int 0, .int 6, .int 0, .int 0, .int 0, .ref s15, .int 0, .ref s17, .int 0, .ref s19, .ref s20, .int (-1), .int 0, .int 0, .int 0, .int 0, .int 0, .ref s27, .int 0, .ref s29, .ref s30, .ref s31, .int 0, .int 0, .int 0, .ref s35, .ref s36, .ref s37, .long 0, .ref s39, .ref s40, .ref s41, .ref s42])), (s4, .inl (k4, 7, .inl g4)), (s7, .inl (k7, 59, .inl f_15))] := hD
  refine lv_iinc (v := 15) (lv' := [(1, .int 15), (0, .ref h0)]) hx hb dX12_dinner_21 hl (k := 0) rfl (by decide) (by decide) rfl (fun ls hl => ?_)
  refine lv_goto (tgt := 8) hx hb dX12_dinner_24 (by decide) ?_
  refine lv_iload_n hx hb dX12_dinner_8 rfl (lv_at hl 0 rfl) ?_
  refine lv_bipush (v := 59) hx hb dX12_dinner_9 (by decide) ?_
  refine lv_icmp_ge (tgt := 27) hx hb dX12_dinner_11 (by decide) (fun c9 => absurd c9 (by decide)) (fun _ => ?_)
  refine lv_aload_n hx hb dX12_dinner_14 rfl (lv_at hl 1 rfl) ?_
  refine va_get (D := (dC, dI)) (ci := 12) (v := .ref s7) (C := RX12) (T := TX12) (N := 43) hx hb hq inX12 hown hK hP 0 rfl rfl 7 (by decide) (hq _ qw_1167) (fun _ h9 => h9) rfl dX12_dinner_15 ?_
  refine lv_iload_n hx hb dX12_dinner_18 rfl (lv_at hl 0 rfl) ?_
  refine lv_iconst (v := 0) hx hb dX12_dinner_19 (by decide) ?_
  refine va_iast hx hb hK hP hD hS 2 1 rfl rfl (inr_ok rfl) dX12_dinner_20 (fun H locs hP hD hS => ?_)
  generalize upd f_15 (Int32.toNatClampNeg 15) 0 = f_16 at hP hD
  have hP : va_P (dC, dI) classes [(h0, .inr (12, [.ref s0, .int 0, .int 0, .ref s3, .ref s4, .ref s5, .ref s6, .ref s7, .int 0, .int 0, .int 0, .int 6, .int 0, .int 0, .int 0, .ref s15, .int 0, .ref s17, .int 0, .ref s19, .ref s20, .int (-1), .int 0, .int 0, .int 0, .int 0, .int 0, .ref s27, .int 0, .ref s29, .ref s30, .ref s31, .int 0, .int 0, .int 0, .ref s35, .ref s36, .ref s37, .long 0, .ref s39, .ref s40, .ref s41, .ref s42])), (s4, .inl (k4, 7, .inl g4)), (s7, .inl (k7, 59, .inl f_16))] H := hP
  have hD : va_D A [(h0, .inr (12, [.ref s0, .int 0, .int 0, .ref s3, .ref s4, .ref s5, .ref s6, .ref s7, .int 0, .int 0, .int 0, .int 6, .int 0, .int 0, .int 0, .ref s15, .int 0, .ref s17, .int 0, .ref s19, .ref s20, .int (-1), .int 0, .int 0, .int 0, .int 0, .int 0, .ref s27, .int 0, .ref s29, .ref s30, .ref s31, .int 0, .int 0, .int 0, .ref s35, .ref s36, .ref s37, .long 0, .ref s39, .ref s40, .ref s41, .ref s42])), (s4, .inl (k4, 7, .inl g4)), (s7, .inl (k7, 59, .inl f_16))] := hD
  refine lv_iinc (v := 16) (lv' := [(1, .int 16), (0, .ref h0)]) hx hb dX12_dinner_21 hl (k := 0) rfl (by decide) (by decide) rfl (fun ls hl => ?_)
  refine lv_goto (tgt := 8) hx hb dX12_dinner_24 (by decide) ?_
  refine lv_iload_n hx hb dX12_dinner_8 rfl (lv_at hl 0 rfl) ?_
  refine lv_bipush (v := 59) hx hb dX12_dinner_9 (by decide) ?_
  refine lv_icmp_ge (tgt := 27) hx hb dX12_dinner_11 (by decide) (fun c9 => absurd c9 (by decide)) (fun _ => ?_)
  refine lv_aload_n hx hb dX12_dinner_14 rfl (lv_at hl 1 rfl) ?_
  refine va_get (D := (dC, dI)) (ci := 12) (v := .ref s7) (C := RX12) (T := TX12) (N := 43) hx hb hq inX12 hown hK hP 0 rfl rfl 7 (by decide) (hq _ qw_1167) (fun _ h9 => h9) rfl dX12_dinner_15 ?_
  refine lv_iload_n hx hb dX12_dinner_18 rfl (lv_at hl 0 rfl) ?_
  refine lv_iconst (v := 0) hx hb dX12_dinner_19 (by decide) ?_
  refine va_iast hx hb hK hP hD hS 2 1 rfl rfl (inr_ok rfl) dX12_dinner_20 (fun H locs hP hD hS => ?_)
  generalize upd f_16 (Int32.toNatClampNeg 16) 0 = f_17 at hP hD
  have hP : va_P (dC, dI) classes [(h0, .inr (12, [.ref s0, .int 0, .int 0, .ref s3, .ref s4, .ref s5, .ref s6, .ref s7, .int 0, .int 0, .int 0, .int 6, .int 0, .int 0, .int 0, .ref s15, .int 0, .ref s17, .int 0, .ref s19, .ref s20, .int (-1), .int 0, .int 0, .int 0, .int 0, .int 0, .ref s27, .int 0, .ref s29, .ref s30, .ref s31, .int 0, .int 0, .int 0, .ref s35, .ref s36, .ref s37, .long 0, .ref s39, .ref s40, .ref s41, .ref s42])), (s4, .inl (k4, 7, .inl g4)), (s7, .inl (k7, 59, .inl f_17))] H := hP
  have hD : va_D A [(h0, .inr (12, [.ref s0, .int 0, .int 0, .ref s3, .ref s4, .ref s5, .ref s6, .ref s7, .int 0, .int 0, .int 0, .int 6, .int 0, .int 0, .int 0, .ref s15, .int 0, .ref s17, .int 0, .ref s19, .ref s20, .int (-1), .int 0, .int 0, .int 0, .int 0, .int 0, .ref s27, .int 0, .ref s29, .ref s30, .ref s31, .int 0, .int 0, .int 0, .ref s35, .ref s36, .ref s37, .long 0, .ref s39, .ref s40, .ref s41, .ref s42])), (s4, .inl (k4, 7, .inl g4)), (s7, .inl (k7, 59, .inl f_17))] := hD
  refine lv_iinc (v := 17) (lv' := [(1, .int 17), (0, .ref h0)]) hx hb dX12_dinner_21 hl (k := 0) rfl (by decide) (by decide) rfl (fun ls hl => ?_)
  refine lv_goto (tgt := 8) hx hb dX12_dinner_24 (by decide) ?_
  refine lv_iload_n hx hb dX12_dinner_8 rfl (lv_at hl 0 rfl) ?_
  refine lv_bipush (v := 59) hx hb dX12_dinner_9 (by decide) ?_
  refine lv_icmp_ge (tgt := 27) hx hb dX12_dinner_11 (by decide) (fun c9 => absurd c9 (by decide)) (fun _ => ?_)
  refine lv_aload_n hx hb dX12_dinner_14 rfl (lv_at hl 1 rfl) ?_
  refine va_get (D := (dC, dI)) (ci := 12) (v := .ref s7) (C := RX12) (T := TX12) (N := 43) hx hb hq inX12 hown hK hP 0 rfl rfl 7 (by decide) (hq _ qw_1167) (fun _ h9 => h9) rfl dX12_dinner_15 ?_
  refine lv_iload_n hx hb dX12_dinner_18 rfl (lv_at hl 0 rfl) ?_
  refine lv_iconst (v := 0) hx hb dX12_dinner_19 (by decide) ?_
  refine va_iast hx hb hK hP hD hS 2 1 rfl rfl (inr_ok rfl) dX12_dinner_20 (fun H locs hP hD hS => ?_)
  generalize upd f_17 (Int32.toNatClampNeg 17) 0 = f_18 at hP hD
  have hP : va_P (dC, dI) classes [(h0, .inr (12, [.ref s0, .int 0, .int 0, .ref s3, .ref s4, .ref s5, .ref s6, .ref s7, .int 0, .int 0, .int 0, .int 6, .int 0, .int 0, .int 0, .ref s15, .int 0, .ref s17, .int 0, .ref s19, .ref s20, .int (-1), .int 0, .int 0, .int 0, .int 0, .int 0, .ref s27, .int 0, .ref s29, .ref s30, .ref s31, .int 0, .int 0, .int 0, .ref s35, .ref s36, .ref s37, .long 0, .ref s39, .ref s40, .ref s41, .ref s42])), (s4, .inl (k4, 7, .inl g4)), (s7, .inl (k7, 59, .inl f_18))] H := hP
  have hD : va_D A [(h0, .inr (12, [.ref s0, .int 0, .int 0, .ref s3, .ref s4, .ref s5, .ref s6, .ref s7, .int 0, .int 0, .int 0, .int 6, .int 0, .int 0, .int 0, .ref s15, .int 0, .ref s17, .int 0, .ref s19, .ref s20, .int (-1), .int 0, .int 0, .int 0, .int 0, .int 0, .ref s27, .int 0, .ref s29, .ref s30, .ref s31, .int 0, .int 0, .int 0, .ref s35, .ref s36, .ref s37, .long 0, .ref s39, .ref s40, .ref s41, .ref s42])), (s4, .inl (k4, 7, .inl g4)), (s7, .inl (k7, 59, .inl f_18))] := hD
  refine lv_iinc (v := 18) (lv' := [(1, .int 18), (0, .ref h0)]) hx hb dX12_dinner_21 hl (k := 0) rfl (by decide) (by decide) rfl (fun ls hl => ?_)
  refine lv_goto (tgt := 8) hx hb dX12_dinner_24 (by decide) ?_
  refine lv_iload_n hx hb dX12_dinner_8 rfl (lv_at hl 0 rfl) ?_
  refine lv_bipush (v := 59) hx hb dX12_dinner_9 (by decide) ?_
  refine lv_icmp_ge (tgt := 27) hx hb dX12_dinner_11 (by decide) (fun c9 => absurd c9 (by decide)) (fun _ => ?_)
  refine lv_aload_n hx hb dX12_dinner_14 rfl (lv_at hl 1 rfl) ?_
  refine va_get (D := (dC, dI)) (ci := 12) (v := .ref s7) (C := RX12) (T := TX12) (N := 43) hx hb hq inX12 hown hK hP 0 rfl rfl 7 (by decide) (hq _ qw_1167) (fun _ h9 => h9) rfl dX12_dinner_15 ?_
  refine lv_iload_n hx hb dX12_dinner_18 rfl (lv_at hl 0 rfl) ?_
  refine lv_iconst (v := 0) hx hb dX12_dinner_19 (by decide) ?_
  refine va_iast hx hb hK hP hD hS 2 1 rfl rfl (inr_ok rfl) dX12_dinner_20 (fun H locs hP hD hS => ?_)
  generalize upd f_18 (Int32.toNatClampNeg 18) 0 = f_19 at hP hD
  have hP : va_P (dC, dI) classes [(h0, .inr (12, [.ref s0, .int 0, .int 0, .ref s3, .ref s4, .ref s5, .ref s6, .ref s7, .int 0, .int 0, .int 0, .int 6, .int 0, .int 0, .int 0, .ref s15, .int 0, .ref s17, .int 0, .ref s19, .ref s20, .int (-1), .int 0, .int 0, .int 0, .int 0, .int 0, .ref s27, .int 0, .ref s29, .ref s30, .ref s31, .int 0, .int 0, .int 0, .ref s35, .ref s36, .ref s37, .long 0, .ref s39, .ref s40, .ref s41, .ref s42])), (s4, .inl (k4, 7, .inl g4)), (s7, .inl (k7, 59, .inl f_19))] H := hP
  have hD : va_D A [(h0, .inr (12, [.ref s0, .int 0, .int 0, .ref s3, .ref s4, .ref s5, .ref s6, .ref s7, .int 0, .int 0, .int 0, .int 6, .int 0, .int 0, .int 0, .ref s15, .int 0, .ref s17, .int 0, .ref s19, .ref s20, .int (-1), .int 0, .int 0, .int 0, .int 0, .int 0, .ref s27, .int 0, .ref s29, .ref s30, .ref s31, .int 0, .int 0, .int 0, .ref s35, .ref s36, .ref s37, .long 0, .ref s39, .ref s40, .ref s41, .ref s42])), (s4, .inl (k4, 7, .inl g4)), (s7, .inl (k7, 59, .inl f_19))] := hD
  refine lv_iinc (v := 19) (lv' := [(1, .int 19), (0, .ref h0)]) hx hb dX12_dinner_21 hl (k := 0) rfl (by decide) (by decide) rfl (fun ls hl => ?_)
  refine lv_goto (tgt := 8) hx hb dX12_dinner_24 (by decide) ?_
  refine lv_iload_n hx hb dX12_dinner_8 rfl (lv_at hl 0 rfl) ?_
  refine lv_bipush (v := 59) hx hb dX12_dinner_9 (by decide) ?_
  refine lv_icmp_ge (tgt := 27) hx hb dX12_dinner_11 (by decide) (fun c9 => absurd c9 (by decide)) (fun _ => ?_)
  refine lv_aload_n hx hb dX12_dinner_14 rfl (lv_at hl 1 rfl) ?_
  refine va_get (D := (dC, dI)) (ci := 12) (v := .ref s7) (C := RX12) (T := TX12) (N := 43) hx hb hq inX12 hown hK hP 0 rfl rfl 7 (by decide) (hq _ qw_1167) (fun _ h9 => h9) rfl dX12_dinner_15 ?_
  refine lv_iload_n hx hb dX12_dinner_18 rfl (lv_at hl 0 rfl) ?_
  refine lv_iconst (v := 0) hx hb dX12_dinner_19 (by decide) ?_
  refine va_iast hx hb hK hP hD hS 2 1 rfl rfl (inr_ok rfl) dX12_dinner_20 (fun H locs hP hD hS => ?_)
  generalize upd f_19 (Int32.toNatClampNeg 19) 0 = f_20 at hP hD
  have hP : va_P (dC, dI) classes [(h0, .inr (12, [.ref s0, .int 0, .int 0, .ref s3, .ref s4, .ref s5, .ref s6, .ref s7, .int 0, .int 0, .int 0, .int 6, .int 0, .int 0, .int 0, .ref s15, .int 0, .ref s17, .int 0, .ref s19, .ref s20, .int (-1), .int 0, .int 0, .int 0, .int 0, .int 0, .ref s27, .int 0, .ref s29, .ref s30, .ref s31, .int 0, .int 0, .int 0, .ref s35, .ref s36, .ref s37, .long 0, .ref s39, .ref s40, .ref s41, .ref s42])), (s4, .inl (k4, 7, .inl g4)), (s7, .inl (k7, 59, .inl f_20))] H := hP
  have hD : va_D A [(h0, .inr (12, [.ref s0, .int 0, .int 0, .ref s3, .ref s4, .ref s5, .ref s6, .ref s7, .int 0, .int 0, .int 0, .int 6, .int 0, .int 0, .int 0, .ref s15, .int 0, .ref s17, .int 0, .ref s19, .ref s20, .int (-1), .int 0, .int 0, .int 0, .int 0, .int 0, .ref s27, .int 0, .ref s29, .ref s30, .ref s31, .int 0, .int 0, .int 0, .ref s35, .ref s36, .ref s37, .long 0, .ref s39, .ref s40, .ref s41, .ref s42])), (s4, .inl (k4, 7, .inl g4)), (s7, .inl (k7, 59, .inl f_20))] := hD
  refine lv_iinc (v := 20) (lv' := [(1, .int 20), (0, .ref h0)]) hx hb dX12_dinner_21 hl (k := 0) rfl (by decide) (by decide) rfl (fun ls hl => ?_)
  refine lv_goto (tgt := 8) hx hb dX12_dinner_24 (by decide) ?_
  refine lv_iload_n hx hb dX12_dinner_8 rfl (lv_at hl 0 rfl) ?_
  refine lv_bipush (v := 59) hx hb dX12_dinner_9 (by decide) ?_
  refine lv_icmp_ge (tgt := 27) hx hb dX12_dinner_11 (by decide) (fun c9 => absurd c9 (by decide)) (fun _ => ?_)
  refine lv_aload_n hx hb dX12_dinner_14 rfl (lv_at hl 1 rfl) ?_
  refine va_get (D := (dC, dI)) (ci := 12) (v := .ref s7) (C := RX12) (T := TX12) (N := 43) hx hb hq inX12 hown hK hP 0 rfl rfl 7 (by decide) (hq _ qw_1167) (fun _ h9 => h9) rfl dX12_dinner_15 ?_
  refine lv_iload_n hx hb dX12_dinner_18 rfl (lv_at hl 0 rfl) ?_
  refine lv_iconst (v := 0) hx hb dX12_dinner_19 (by decide) ?_
  refine va_iast hx hb hK hP hD hS 2 1 rfl rfl (inr_ok rfl) dX12_dinner_20 (fun H locs hP hD hS => ?_)
  generalize upd f_20 (Int32.toNatClampNeg 20) 0 = f_21 at hP hD
  have hP : va_P (dC, dI) classes [(h0, .inr (12, [.ref s0, .int 0, .int 0, .ref s3, .ref s4, .ref s5, .ref s6, .ref s7, .int 0, .int 0, .int 0, .int 6, .int 0, .int 0, .int 0, .ref s15, .int 0, .ref s17, .int 0, .ref s19, .ref s20, .int (-1), .int 0, .int 0, .int 0, .int 0, .int 0, .ref s27, .int 0, .ref s29, .ref s30, .ref s31, .int 0, .int 0, .int 0, .ref s35, .ref s36, .ref s37, .long 0, .ref s39, .ref s40, .ref s41, .ref s42])), (s4, .inl (k4, 7, .inl g4)), (s7, .inl (k7, 59, .inl f_21))] H := hP
  have hD : va_D A [(h0, .inr (12, [.ref s0, .int 0, .int 0, .ref s3, .ref s4, .ref s5, .ref s6, .ref s7, .int 0, .int 0, .int 0, .int 6, .int 0, .int 0, .int 0, .ref s15, .int 0, .ref s17, .int 0, .ref s19, .ref s20, .int (-1), .int 0, .int 0, .int 0, .int 0, .int 0, .ref s27, .int 0, .ref s29, .ref s30, .ref s31, .int 0, .int 0, .int 0, .ref s35, .ref s36, .ref s37, .long 0, .ref s39, .ref s40, .ref s41, .ref s42])), (s4, .inl (k4, 7, .inl g4)), (s7, .inl (k7, 59, .inl f_21))] := hD
  refine lv_iinc (v := 21) (lv' := [(1, .int 21), (0, .ref h0)]) hx hb dX12_dinner_21 hl (k := 0) rfl (by decide) (by decide) rfl (fun ls hl => ?_)
  refine lv_goto (tgt := 8) hx hb dX12_dinner_24 (by decide) ?_
  refine lv_iload_n hx hb dX12_dinner_8 rfl (lv_at hl 0 rfl) ?_
  refine lv_bipush (v := 59) hx hb dX12_dinner_9 (by decide) ?_
  refine lv_icmp_ge (tgt := 27) hx hb dX12_dinner_11 (by decide) (fun c9 => absurd c9 (by decide)) (fun _ => ?_)
  refine lv_aload_n hx hb dX12_dinner_14 rfl (lv_at hl 1 rfl) ?_
  refine va_get (D := (dC, dI)) (ci := 12) (v := .ref s7) (C := RX12) (T := TX12) (N := 43) hx hb hq inX12 hown hK hP 0 rfl rfl 7 (by decide) (hq _ qw_1167) (fun _ h9 => h9) rfl dX12_dinner_15 ?_
  refine lv_iload_n hx hb dX12_dinner_18 rfl (lv_at hl 0 rfl) ?_
  refine lv_iconst (v := 0) hx hb dX12_dinner_19 (by decide) ?_
  refine va_iast hx hb hK hP hD hS 2 1 rfl rfl (inr_ok rfl) dX12_dinner_20 (fun H locs hP hD hS => ?_)
  generalize upd f_21 (Int32.toNatClampNeg 21) 0 = f_22 at hP hD
  have hP : va_P (dC, dI) classes [(h0, .inr (12, [.ref s0, .int 0, .int 0, .ref s3, .ref s4, .ref s5, .ref s6, .ref s7, .int 0, .int 0, .int 0, .int 6, .int 0, .int 0, .int 0, .ref s15, .int 0, .ref s17, .int 0, .ref s19, .ref s20, .int (-1), .int 0, .int 0, .int 0, .int 0, .int 0, .ref s27, .int 0, .ref s29, .ref s30, .ref s31, .int 0, .int 0, .int 0, .ref s35, .ref s36, .ref s37, .long 0, .ref s39, .ref s40, .ref s41, .ref s42])), (s4, .inl (k4, 7, .inl g4)), (s7, .inl (k7, 59, .inl f_22))] H := hP
  have hD : va_D A [(h0, .inr (12, [.ref s0, .int 0, .int 0, .ref s3, .ref s4, .ref s5, .ref s6, .ref s7, .int 0, .int 0, .int 0, .int 6, .int 0, .int 0, .int 0, .ref s15, .int 0, .ref s17, .int 0, .ref s19, .ref s20, .int (-1), .int 0, .int 0, .int 0, .int 0, .int 0, .ref s27, .int 0, .ref s29, .ref s30, .ref s31, .int 0, .int 0, .int 0, .ref s35, .ref s36, .ref s37, .long 0, .ref s39, .ref s40, .ref s41, .ref s42])), (s4, .inl (k4, 7, .inl g4)), (s7, .inl (k7, 59, .inl f_22))] := hD
  refine lv_iinc (v := 22) (lv' := [(1, .int 22), (0, .ref h0)]) hx hb dX12_dinner_21 hl (k := 0) rfl (by decide) (by decide) rfl (fun ls hl => ?_)
  refine lv_goto (tgt := 8) hx hb dX12_dinner_24 (by decide) ?_
  refine lv_iload_n hx hb dX12_dinner_8 rfl (lv_at hl 0 rfl) ?_
  refine lv_bipush (v := 59) hx hb dX12_dinner_9 (by decide) ?_
  refine lv_icmp_ge (tgt := 27) hx hb dX12_dinner_11 (by decide) (fun c9 => absurd c9 (by decide)) (fun _ => ?_)
  refine lv_aload_n hx hb dX12_dinner_14 rfl (lv_at hl 1 rfl) ?_
  refine va_get (D := (dC, dI)) (ci := 12) (v := .ref s7) (C := RX12) (T := TX12) (N := 43) hx hb hq inX12 hown hK hP 0 rfl rfl 7 (by decide) (hq _ qw_1167) (fun _ h9 => h9) rfl dX12_dinner_15 ?_
  refine lv_iload_n hx hb dX12_dinner_18 rfl (lv_at hl 0 rfl) ?_
  refine lv_iconst (v := 0) hx hb dX12_dinner_19 (by decide) ?_
  refine va_iast hx hb hK hP hD hS 2 1 rfl rfl (inr_ok rfl) dX12_dinner_20 (fun H locs hP hD hS => ?_)
  generalize upd f_22 (Int32.toNatClampNeg 22) 0 = f_23 at hP hD
  have hP : va_P (dC, dI) classes [(h0, .inr (12, [.ref s0, .int 0, .int 0, .ref s3, .ref s4, .ref s5, .ref s6, .ref s7, .int 0, .int 0, .int 0, .int 6, .int 0, .int 0, .int 0, .ref s15, .int 0, .ref s17, .int 0, .ref s19, .ref s20, .int (-1), .int 0, .int 0, .int 0, .int 0, .int 0, .ref s27, .int 0, .ref s29, .ref s30, .ref s31, .int 0, .int 0, .int 0, .ref s35, .ref s36, .ref s37, .long 0, .ref s39, .ref s40, .ref s41, .ref s42])), (s4, .inl (k4, 7, .inl g4)), (s7, .inl (k7, 59, .inl f_23))] H := hP
  have hD : va_D A [(h0, .inr (12, [.ref s0, .int 0, .int 0, .ref s3, .ref s4, .ref s5, .ref s6, .ref s7, .int 0, .int 0, .int 0, .int 6, .int 0, .int 0, .int 0, .ref s15, .int 0, .ref s17, .int 0, .ref s19, .ref s20, .int (-1), .int 0, .int 0, .int 0, .int 0, .int 0, .ref s27, .int 0, .ref s29, .ref s30, .ref s31, .int 0, .int 0, .int 0, .ref s35, .ref s36, .ref s37, .long 0, .ref s39, .ref s40, .ref s41, .ref s42])), (s4, .inl (k4, 7, .inl g4)), (s7, .inl (k7, 59, .inl f_23))] := hD
  refine lv_iinc (v := 23) (lv' := [(1, .int 23), (0, .ref h0)]) hx hb dX12_dinner_21 hl (k := 0) rfl (by decide) (by decide) rfl (fun ls hl => ?_)
  refine lv_goto (tgt := 8) hx hb dX12_dinner_24 (by decide) ?_
  refine lv_iload_n hx hb dX12_dinner_8 rfl (lv_at hl 0 rfl) ?_
  refine lv_bipush (v := 59) hx hb dX12_dinner_9 (by decide) ?_
  refine lv_icmp_ge (tgt := 27) hx hb dX12_dinner_11 (by decide) (fun c9 => absurd c9 (by decide)) (fun _ => ?_)
  refine lv_aload_n hx hb dX12_dinner_14 rfl (lv_at hl 1 rfl) ?_
  refine va_get (D := (dC, dI)) (ci := 12) (v := .ref s7) (C := RX12) (T := TX12) (N := 43) hx hb hq inX12 hown hK hP 0 rfl rfl 7 (by decide) (hq _ qw_1167) (fun _ h9 => h9) rfl dX12_dinner_15 ?_
  refine lv_iload_n hx hb dX12_dinner_18 rfl (lv_at hl 0 rfl) ?_
  refine lv_iconst (v := 0) hx hb dX12_dinner_19 (by decide) ?_
  refine va_iast hx hb hK hP hD hS 2 1 rfl rfl (inr_ok rfl) dX12_dinner_20 (fun H locs hP hD hS => ?_)
  generalize upd f_23 (Int32.toNatClampNeg 23) 0 = f_24 at hP hD
  have hP : va_P (dC, dI) classes [(h0, .inr (12, [.ref s0, .int 0, .int 0, .ref s3, .ref s4, .ref s5, .ref s6, .ref s7, .int 0, .int 0, .int 0, .int 6, .int 0, .int 0, .int 0, .ref s15, .int 0, .ref s17, .int 0, .ref s19, .ref s20, .int (-1), .int 0, .int 0, .int 0, .int 0, .int 0, .ref s27, .int 0, .ref s29, .ref s30, .ref s31, .int 0, .int 0, .int 0, .ref s35, .ref s36, .ref s37, .long 0, .ref s39, .ref s40, .ref s41, .ref s42])), (s4, .inl (k4, 7, .inl g4)), (s7, .inl (k7, 59, .inl f_24))] H := hP
  have hD : va_D A [(h0, .inr (12, [.ref s0, .int 0, .int 0, .ref s3, .ref s4, .ref s5, .ref s6, .ref s7, .int 0, .int 0, .int 0, .int 6, .int 0, .int 0, .int 0, .ref s15, .int 0, .ref s17, .int 0, .ref s19, .ref s20, .int (-1), .int 0, .int 0, .int 0, .int 0, .int 0, .ref s27, .int 0, .ref s29, .ref s30, .ref s31, .int 0, .int 0, .int 0, .ref s35, .ref s36, .ref s37, .long 0, .ref s39, .ref s40, .ref s41, .ref s42])), (s4, .inl (k4, 7, .inl g4)), (s7, .inl (k7, 59, .inl f_24))] := hD
  refine lv_iinc (v := 24) (lv' := [(1, .int 24), (0, .ref h0)]) hx hb dX12_dinner_21 hl (k := 0) rfl (by decide) (by decide) rfl (fun ls hl => ?_)
  refine lv_goto (tgt := 8) hx hb dX12_dinner_24 (by decide) ?_
  refine lv_iload_n hx hb dX12_dinner_8 rfl (lv_at hl 0 rfl) ?_
  refine lv_bipush (v := 59) hx hb dX12_dinner_9 (by decide) ?_
  refine lv_icmp_ge (tgt := 27) hx hb dX12_dinner_11 (by decide) (fun c9 => absurd c9 (by decide)) (fun _ => ?_)
  refine lv_aload_n hx hb dX12_dinner_14 rfl (lv_at hl 1 rfl) ?_
  refine va_get (D := (dC, dI)) (ci := 12) (v := .ref s7) (C := RX12) (T := TX12) (N := 43) hx hb hq inX12 hown hK hP 0 rfl rfl 7 (by decide) (hq _ qw_1167) (fun _ h9 => h9) rfl dX12_dinner_15 ?_
  refine lv_iload_n hx hb dX12_dinner_18 rfl (lv_at hl 0 rfl) ?_
  refine lv_iconst (v := 0) hx hb dX12_dinner_19 (by decide) ?_
  refine va_iast hx hb hK hP hD hS 2 1 rfl rfl (inr_ok rfl) dX12_dinner_20 (fun H locs hP hD hS => ?_)
  generalize upd f_24 (Int32.toNatClampNeg 24) 0 = f_25 at hP hD
  have hP : va_P (dC, dI) classes [(h0, .inr (12, [.ref s0, .int 0, .int 0, .ref s3, .ref s4, .ref s5, .ref s6, .ref s7, .int 0, .int 0, .int 0, .int 6, .int 0, .int 0, .int 0, .ref s15, .int 0, .ref s17, .int 0, .ref s19, .ref s20, .int (-1), .int 0, .int 0, .int 0, .int 0, .int 0, .ref s27, .int 0, .ref s29, .ref s30, .ref s31, .int 0, .int 0, .int 0, .ref s35, .ref s36, .ref s37, .long 0, .ref s39, .ref s40, .ref s41, .ref s42])), (s4, .inl (k4, 7, .inl g4)), (s7, .inl (k7, 59, .inl f_25))] H := hP
  have hD : va_D A [(h0, .inr (12, [.ref s0, .int 0, .int 0, .ref s3, .ref s4, .ref s5, .ref s6, .ref s7, .int 0, .int 0, .int 0, .int 6, .int 0, .int 0, .int 0, .ref s15, .int 0, .ref s17, .int 0, .ref s19, .ref s20, .int (-1), .int 0, .int 0, .int 0, .int 0, .int 0, .ref s27, .int 0, .ref s29, .ref s30, .ref s31, .int 0, .int 0, .int 0, .ref s35, .ref s36, .ref s37, .long 0, .ref s39, .ref s40, .ref s41, .ref s42])), (s4, .inl (k4, 7, .inl g4)), (s7, .inl (k7, 59, .inl f_25))] := hD
  refine lv_iinc (v := 25) (lv' := [(1, .int 25), (0, .ref h0)]) hx hb dX12_dinner_21 hl (k := 0) rfl (by decide) (by decide) rfl (fun ls hl => ?_)
  refine lv_goto (tgt := 8) hx hb dX12_dinner_24 (by decide) ?_
  refine lv_iload_n hx hb dX12_dinner_8 rfl (lv_at hl 0 rfl) ?_
  refine lv_bipush (v := 59) hx hb dX12_dinner_9 (by decide) ?_
  refine lv_icmp_ge (tgt := 27) hx hb dX12_dinner_11 (by decide) (fun c9 => absurd c9 (by decide)) (fun _ => ?_)
  refine lv_aload_n hx hb dX12_dinner_14 rfl (lv_at hl 1 rfl) ?_
  refine va_get (D := (dC, dI)) (ci := 12) (v := .ref s7) (C := RX12) (T := TX12) (N := 43) hx hb hq inX12 hown hK hP 0 rfl rfl 7 (by decide) (hq _ qw_1167) (fun _ h9 => h9) rfl dX12_dinner_15 ?_
  refine lv_iload_n hx hb dX12_dinner_18 rfl (lv_at hl 0 rfl) ?_
  refine lv_iconst (v := 0) hx hb dX12_dinner_19 (by decide) ?_
  refine va_iast hx hb hK hP hD hS 2 1 rfl rfl (inr_ok rfl) dX12_dinner_20 (fun H locs hP hD hS => ?_)
  generalize upd f_25 (Int32.toNatClampNeg 25) 0 = f_26 at hP hD
  have hP : va_P (dC, dI) classes [(h0, .inr (12, [.ref s0, .int 0, .int 0, .ref s3, .ref s4, .ref s5, .ref s6, .ref s7, .int 0, .int 0, .int 0, .int 6, .int 0, .int 0, .int 0, .ref s15, .int 0, .ref s17, .int 0, .ref s19, .ref s20, .int (-1), .int 0, .int 0, .int 0, .int 0, .int 0, .ref s27, .int 0, .ref s29, .ref s30, .ref s31, .int 0, .int 0, .int 0, .ref s35, .ref s36, .ref s37, .long 0, .ref s39, .ref s40, .ref s41, .ref s42])), (s4, .inl (k4, 7, .inl g4)), (s7, .inl (k7, 59, .inl f_26))] H := hP
  have hD : va_D A [(h0, .inr (12, [.ref s0, .int 0, .int 0, .ref s3, .ref s4, .ref s5, .ref s6, .ref s7, .int 0, .int 0, .int 0, .int 6, .int 0, .int 0, .int 0, .ref s15, .int 0, .ref s17, .int 0, .ref s19, .ref s20, .int (-1), .int 0, .int 0, .int 0, .int 0, .int 0, .ref s27, .int 0, .ref s29, .ref s30, .ref s31, .int 0, .int 0, .int 0, .ref s35, .ref s36, .ref s37, .long 0, .ref s39, .ref s40, .ref s41, .ref s42])), (s4, .inl (k4, 7, .inl g4)), (s7, .inl (k7, 59, .inl f_26))] := hD
  refine lv_iinc (v := 26) (lv' := [(1, .int 26), (0, .ref h0)]) hx hb dX12_dinner_21 hl (k := 0) rfl (by decide) (by decide) rfl (fun ls hl => ?_)
  refine lv_goto (tgt := 8) hx hb dX12_dinner_24 (by decide) ?_
  refine lv_iload_n hx hb dX12_dinner_8 rfl (lv_at hl 0 rfl) ?_
  refine lv_bipush (v := 59) hx hb dX12_dinner_9 (by decide) ?_
  refine lv_icmp_ge (tgt := 27) hx hb dX12_dinner_11 (by decide) (fun c9 => absurd c9 (by decide)) (fun _ => ?_)
  refine lv_aload_n hx hb dX12_dinner_14 rfl (lv_at hl 1 rfl) ?_
  refine va_get (D := (dC, dI)) (ci := 12) (v := .ref s7) (C := RX12) (T := TX12) (N := 43) hx hb hq inX12 hown hK hP 0 rfl rfl 7 (by decide) (hq _ qw_1167) (fun _ h9 => h9) rfl dX12_dinner_15 ?_
  refine lv_iload_n hx hb dX12_dinner_18 rfl (lv_at hl 0 rfl) ?_
  refine lv_iconst (v := 0) hx hb dX12_dinner_19 (by decide) ?_
  refine va_iast hx hb hK hP hD hS 2 1 rfl rfl (inr_ok rfl) dX12_dinner_20 (fun H locs hP hD hS => ?_)
  generalize upd f_26 (Int32.toNatClampNeg 26) 0 = f_27 at hP hD
  have hP : va_P (dC, dI) classes [(h0, .inr (12, [.ref s0, .int 0, .int 0, .ref s3, .ref s4, .ref s5, .ref s6, .ref s7, .int 0, .int 0, .int 0, .int 6, .int 0, .int 0, .int 0, .ref s15, .int 0, .ref s17, .int 0, .ref s19, .ref s20, .int (-1), .int 0, .int 0, .int 0, .int 0, .int 0, .ref s27, .int 0, .ref s29, .ref s30, .ref s31, .int 0, .int 0, .int 0, .ref s35, .ref s36, .ref s37, .long 0, .ref s39, .ref s40, .ref s41, .ref s42])), (s4, .inl (k4, 7, .inl g4)), (s7, .inl (k7, 59, .inl f_27))] H := hP
  have hD : va_D A [(h0, .inr (12, [.ref s0, .int 0, .int 0, .ref s3, .ref s4, .ref s5, .ref s6, .ref s7, .int 0, .int 0, .int 0, .int 6, .int 0, .int 0, .int 0, .ref s15, .int 0, .ref s17, .int 0, .ref s19, .ref s20, .int (-1), .int 0, .int 0, .int 0, .int 0, .int 0, .ref s27, .int 0, .ref s29, .ref s30, .ref s31, .int 0, .int 0, .int 0, .ref s35, .ref s36, .ref s37, .long 0, .ref s39, .ref s40, .ref s41, .ref s42])), (s4, .inl (k4, 7, .inl g4)), (s7, .inl (k7, 59, .inl f_27))] := hD
  refine lv_iinc (v := 27) (lv' := [(1, .int 27), (0, .ref h0)]) hx hb dX12_dinner_21 hl (k := 0) rfl (by decide) (by decide) rfl (fun ls hl => ?_)
  refine lv_goto (tgt := 8) hx hb dX12_dinner_24 (by decide) ?_
  refine lv_iload_n hx hb dX12_dinner_8 rfl (lv_at hl 0 rfl) ?_
  refine lv_bipush (v := 59) hx hb dX12_dinner_9 (by decide) ?_
  refine lv_icmp_ge (tgt := 27) hx hb dX12_dinner_11 (by decide) (fun c9 => absurd c9 (by decide)) (fun _ => ?_)
  refine lv_aload_n hx hb dX12_dinner_14 rfl (lv_at hl 1 rfl) ?_
  refine va_get (D := (dC, dI)) (ci := 12) (v := .ref s7) (C := RX12) (T := TX12) (N := 43) hx hb hq inX12 hown hK hP 0 rfl rfl 7 (by decide) (hq _ qw_1167) (fun _ h9 => h9) rfl dX12_dinner_15 ?_
  refine lv_iload_n hx hb dX12_dinner_18 rfl (lv_at hl 0 rfl) ?_
  refine lv_iconst (v := 0) hx hb dX12_dinner_19 (by decide) ?_
  refine va_iast hx hb hK hP hD hS 2 1 rfl rfl (inr_ok rfl) dX12_dinner_20 (fun H locs hP hD hS => ?_)
  generalize upd f_27 (Int32.toNatClampNeg 27) 0 = f_28 at hP hD
  have hP : va_P (dC, dI) classes [(h0, .inr (12, [.ref s0, .int 0, .int 0, .ref s3, .ref s4, .ref s5, .ref s6, .ref s7, .int 0, .int 0, .int 0, .int 6, .int 0, .int 0, .int 0, .ref s15, .int 0, .ref s17, .int 0, .ref s19, .ref s20, .int (-1), .int 0, .int 0, .int 0, .int 0, .int 0, .ref s27, .int 0, .ref s29, .ref s30, .ref s31, .int 0, .int 0, .int 0, .ref s35, .ref s36, .ref s37, .long 0, .ref s39, .ref s40, .ref s41, .ref s42])), (s4, .inl (k4, 7, .inl g4)), (s7, .inl (k7, 59, .inl f_28))] H := hP
  have hD : va_D A [(h0, .inr (12, [.ref s0, .int 0, .int 0, .ref s3, .ref s4, .ref s5, .ref s6, .ref s7, .int 0, .int 0, .int 0, .int 6, .int 0, .int 0, .int 0, .ref s15, .int 0, .ref s17, .int 0, .ref s19, .ref s20, .int (-1), .int 0, .int 0, .int 0, .int 0, .int 0, .ref s27, .int 0, .ref s29, .ref s30, .ref s31, .int 0, .int 0, .int 0, .ref s35, .ref s36, .ref s37, .long 0, .ref s39, .ref s40, .ref s41, .ref s42])), (s4, .inl (k4, 7, .inl g4)), (s7, .inl (k7, 59, .inl f_28))] := hD
  refine lv_iinc (v := 28) (lv' := [(1, .int 28), (0, .ref h0)]) hx hb dX12_dinner_21 hl (k := 0) rfl (by decide) (by decide) rfl (fun ls hl => ?_)
  refine lv_goto (tgt := 8) hx hb dX12_dinner_24 (by decide) ?_
  refine lv_iload_n hx hb dX12_dinner_8 rfl (lv_at hl 0 rfl) ?_
  refine lv_bipush (v := 59) hx hb dX12_dinner_9 (by decide) ?_
  refine lv_icmp_ge (tgt := 27) hx hb dX12_dinner_11 (by decide) (fun c9 => absurd c9 (by decide)) (fun _ => ?_)
  refine lv_aload_n hx hb dX12_dinner_14 rfl (lv_at hl 1 rfl) ?_
  refine va_get (D := (dC, dI)) (ci := 12) (v := .ref s7) (C := RX12) (T := TX12) (N := 43) hx hb hq inX12 hown hK hP 0 rfl rfl 7 (by decide) (hq _ qw_1167) (fun _ h9 => h9) rfl dX12_dinner_15 ?_
  refine lv_iload_n hx hb dX12_dinner_18 rfl (lv_at hl 0 rfl) ?_
  refine lv_iconst (v := 0) hx hb dX12_dinner_19 (by decide) ?_
  refine va_iast hx hb hK hP hD hS 2 1 rfl rfl (inr_ok rfl) dX12_dinner_20 (fun H locs hP hD hS => ?_)
  generalize upd f_28 (Int32.toNatClampNeg 28) 0 = f_29 at hP hD
  have hP : va_P (dC, dI) classes [(h0, .inr (12, [.ref s0, .int 0, .int 0, .ref s3, .ref s4, .ref s5, .ref s6, .ref s7, .int 0, .int 0, .int 0, .int 6, .int 0, .int 0, .int 0, .ref s15, .int 0, .ref s17, .int 0, .ref s19, .ref s20, .int (-1), .int 0, .int 0, .int 0, .int 0, .int 0, .ref s27, .int 0, .ref s29, .ref s30, .ref s31, .int 0, .int 0, .int 0, .ref s35, .ref s36, .ref s37, .long 0, .ref s39, .ref s40, .ref s41, .ref s42])), (s4, .inl (k4, 7, .inl g4)), (s7, .inl (k7, 59, .inl f_29))] H := hP
  have hD : va_D A [(h0, .inr (12, [.ref s0, .int 0, .int 0, .ref s3, .ref s4, .ref s5, .ref s6, .ref s7, .int 0, .int 0, .int 0, .int 6, .int 0, .int 0, .int 0, .ref s15, .int 0, .ref s17, .int 0, .ref s19, .ref s20, .int (-1), .int 0, .int 0, .int 0, .int 0, .int 0, .ref s27, .int 0, .ref s29, .ref s30, .ref s31, .int 0, .int 0, .int 0, .ref s35, .ref s36, .ref s37, .long 0, .ref s39, .ref s40, .ref s41, .ref s42])), (s4, .inl (k4, 7, .inl g4)), (s7, .inl (k7, 59, .inl f_29))] := hD
  refine lv_iinc (v := 29) (lv' := [(1, .int 29), (0, .ref h0)]) hx hb dX12_dinner_21 hl (k := 0) rfl (by decide) (by decide) rfl (fun ls hl => ?_)
  refine lv_goto (tgt := 8) hx hb dX12_dinner_24 (by decide) ?_
  refine lv_iload_n hx hb dX12_dinner_8 rfl (lv_at hl 0 rfl) ?_
  refine lv_bipush (v := 59) hx hb dX12_dinner_9 (by decide) ?_
  refine lv_icmp_ge (tgt := 27) hx hb dX12_dinner_11 (by decide) (fun c9 => absurd c9 (by decide)) (fun _ => ?_)
  refine lv_aload_n hx hb dX12_dinner_14 rfl (lv_at hl 1 rfl) ?_
  refine va_get (D := (dC, dI)) (ci := 12) (v := .ref s7) (C := RX12) (T := TX12) (N := 43) hx hb hq inX12 hown hK hP 0 rfl rfl 7 (by decide) (hq _ qw_1167) (fun _ h9 => h9) rfl dX12_dinner_15 ?_
  refine lv_iload_n hx hb dX12_dinner_18 rfl (lv_at hl 0 rfl) ?_
  refine lv_iconst (v := 0) hx hb dX12_dinner_19 (by decide) ?_
  refine va_iast hx hb hK hP hD hS 2 1 rfl rfl (inr_ok rfl) dX12_dinner_20 (fun H locs hP hD hS => ?_)
  generalize upd f_29 (Int32.toNatClampNeg 29) 0 = f_30 at hP hD
  have hP : va_P (dC, dI) classes [(h0, .inr (12, [.ref s0, .int 0, .int 0, .ref s3, .ref s4, .ref s5, .ref s6, .ref s7, .int 0, .int 0, .int 0, .int 6, .int 0, .int 0, .int 0, .ref s15, .int 0, .ref s17, .int 0, .ref s19, .ref s20, .int (-1), .int 0, .int 0, .int 0, .int 0, .int 0, .ref s27, .int 0, .ref s29, .ref s30, .ref s31, .int 0, .int 0, .int 0, .ref s35, .ref s36, .ref s37, .long 0, .ref s39, .ref s40, .ref s41, .ref s42])), (s4, .inl (k4, 7, .inl g4)), (s7, .inl (k7, 59, .inl f_30))] H := hP
  have hD : va_D A [(h0, .inr (12, [.ref s0, .int 0, .int 0, .ref s3, .ref s4, .ref s5, .ref s6, .ref s7, .int 0, .int 0, .int 0, .int 6, .int 0, .int 0, .int 0, .ref s15, .int 0, .ref s17, .int 0, .ref s19, .ref s20, .int (-1), .int 0, .int 0, .int 0, .int 0, .int 0, .ref s27, .int 0, .ref s29, .ref s30, .ref s31, .int 0, .int 0, .int 0, .ref s35, .ref s36, .ref s37, .long 0, .ref s39, .ref s40, .ref s41, .ref s42])), (s4, .inl (k4, 7, .inl g4)), (s7, .inl (k7, 59, .inl f_30))] := hD
  refine lv_iinc (v := 30) (lv' := [(1, .int 30), (0, .ref h0)]) hx hb dX12_dinner_21 hl (k := 0) rfl (by decide) (by decide) rfl (fun ls hl => ?_)
  refine lv_goto (tgt := 8) hx hb dX12_dinner_24 (by decide) ?_
  refine lv_iload_n hx hb dX12_dinner_8 rfl (lv_at hl 0 rfl) ?_
  refine lv_bipush (v := 59) hx hb dX12_dinner_9 (by decide) ?_
  refine lv_icmp_ge (tgt := 27) hx hb dX12_dinner_11 (by decide) (fun c9 => absurd c9 (by decide)) (fun _ => ?_)
  refine lv_aload_n hx hb dX12_dinner_14 rfl (lv_at hl 1 rfl) ?_
  refine va_get (D := (dC, dI)) (ci := 12) (v := .ref s7) (C := RX12) (T := TX12) (N := 43) hx hb hq inX12 hown hK hP 0 rfl rfl 7 (by decide) (hq _ qw_1167) (fun _ h9 => h9) rfl dX12_dinner_15 ?_
  refine lv_iload_n hx hb dX12_dinner_18 rfl (lv_at hl 0 rfl) ?_
  refine lv_iconst (v := 0) hx hb dX12_dinner_19 (by decide) ?_
  refine va_iast hx hb hK hP hD hS 2 1 rfl rfl (inr_ok rfl) dX12_dinner_20 (fun H locs hP hD hS => ?_)
  generalize upd f_30 (Int32.toNatClampNeg 30) 0 = f_31 at hP hD
  have hP : va_P (dC, dI) classes [(h0, .inr (12, [.ref s0, .int 0, .int 0, .ref s3, .ref s4, .ref s5, .ref s6, .ref s7, .int 0, .int 0, .int 0, .int 6, .int 0, .int 0, .int 0, .ref s15, .int 0, .ref s17, .int 0, .ref s19, .ref s20, .int (-1), .int 0, .int 0, .int 0, .int 0, .int 0, .ref s27, .int 0, .ref s29, .ref s30, .ref s31, .int 0, .int 0, .int 0, .ref s35, .ref s36, .ref s37, .long 0, .ref s39, .ref s40, .ref s41, .ref s42])), (s4, .inl (k4, 7, .inl g4)), (s7, .inl (k7, 59, .inl f_31))] H := hP
  have hD : va_D A [(h0, .inr (12, [.ref s0, .int 0, .int 0, .ref s3, .ref s4, .ref s5, .ref s6, .ref s7, .int 0, .int 0, .int 0, .int 6, .int 0, .int 0, .int 0, .ref s15, .int 0, .ref s17, .int 0, .ref s19, .ref s20, .int (-1), .int 0, .int 0, .int 0, .int 0, .int 0, .ref s27, .int 0, .ref s29, .ref s30, .ref s31, .int 0, .int 0, .int 0, .ref s35, .ref s36, .ref s37, .long 0, .ref s39, .ref s40, .ref s41, .ref s42])), (s4, .inl (k4, 7, .inl g4)), (s7, .inl (k7, 59, .inl f_31))] := hD
  refine lv_iinc (v := 31) (lv' := [(1, .int 31), (0, .ref h0)]) hx hb dX12_dinner_21 hl (k := 0) rfl (by decide) (by decide) rfl (fun ls hl => ?_)
  refine lv_goto (tgt := 8) hx hb dX12_dinner_24 (by decide) ?_
  refine lv_iload_n hx hb dX12_dinner_8 rfl (lv_at hl 0 rfl) ?_
  refine lv_bipush (v := 59) hx hb dX12_dinner_9 (by decide) ?_
  refine lv_icmp_ge (tgt := 27) hx hb dX12_dinner_11 (by decide) (fun c9 => absurd c9 (by decide)) (fun _ => ?_)
  refine lv_aload_n hx hb dX12_dinner_14 rfl (lv_at hl 1 rfl) ?_
  refine va_get (D := (dC, dI)) (ci := 12) (v := .ref s7) (C := RX12) (T := TX12) (N := 43) hx hb hq inX12 hown hK hP 0 rfl rfl 7 (by decide) (hq _ qw_1167) (fun _ h9 => h9) rfl dX12_dinner_15 ?_
  refine lv_iload_n hx hb dX12_dinner_18 rfl (lv_at hl 0 rfl) ?_
  refine lv_iconst (v := 0) hx hb dX12_dinner_19 (by decide) ?_
  refine va_iast hx hb hK hP hD hS 2 1 rfl rfl (inr_ok rfl) dX12_dinner_20 (fun H locs hP hD hS => ?_)
  generalize upd f_31 (Int32.toNatClampNeg 31) 0 = f_32 at hP hD
  have hP : va_P (dC, dI) classes [(h0, .inr (12, [.ref s0, .int 0, .int 0, .ref s3, .ref s4, .ref s5, .ref s6, .ref s7, .int 0, .int 0, .int 0, .int 6, .int 0, .int 0, .int 0, .ref s15, .int 0, .ref s17, .int 0, .ref s19, .ref s20, .int (-1), .int 0, .int 0, .int 0, .int 0, .int 0, .ref s27, .int 0, .ref s29, .ref s30, .ref s31, .int 0, .int 0, .int 0, .ref s35, .ref s36, .ref s37, .long 0, .ref s39, .ref s40, .ref s41, .ref s42])), (s4, .inl (k4, 7, .inl g4)), (s7, .inl (k7, 59, .inl f_32))] H := hP
  have hD : va_D A [(h0, .inr (12, [.ref s0, .int 0, .int 0, .ref s3, .ref s4, .ref s5, .ref s6, .ref s7, .int 0, .int 0, .int 0, .int 6, .int 0, .int 0, .int 0, .ref s15, .int 0, .ref s17, .int 0, .ref s19, .ref s20, .int (-1), .int 0, .int 0, .int 0, .int 0, .int 0, .ref s27, .int 0, .ref s29, .ref s30, .ref s31, .int 0, .int 0, .int 0, .ref s35, .ref s36, .ref s37, .long 0, .ref s39, .ref s40, .ref s41, .ref s42])), (s4, .inl (k4, 7, .inl g4)), (s7, .inl (k7, 59, .inl f_32))] := hD
  refine lv_iinc (v := 32) (lv' := [(1, .int 32), (0, .ref h0)]) hx hb dX12_dinner_21 hl (k := 0) rfl (by decide) (by decide) rfl (fun ls hl => ?_)
  refine lv_goto (tgt := 8) hx hb dX12_dinner_24 (by decide) ?_
  refine lv_iload_n hx hb dX12_dinner_8 rfl (lv_at hl 0 rfl) ?_
  refine lv_bipush (v := 59) hx hb dX12_dinner_9 (by decide) ?_
  refine lv_icmp_ge (tgt := 27) hx hb dX12_dinner_11 (by decide) (fun c9 => absurd c9 (by decide)) (fun _ => ?_)
  refine lv_aload_n hx hb dX12_dinner_14 rfl (lv_at hl 1 rfl) ?_
  refine va_get (D := (dC, dI)) (ci := 12) (v := .ref s7) (C := RX12) (T := TX12) (N := 43) hx hb hq inX12 hown hK hP 0 rfl rfl 7 (by decide) (hq _ qw_1167) (fun _ h9 => h9) rfl dX12_dinner_15 ?_
  refine lv_iload_n hx hb dX12_dinner_18 rfl (lv_at hl 0 rfl) ?_
  refine lv_iconst (v := 0) hx hb dX12_dinner_19 (by decide) ?_
  refine va_iast hx hb hK hP hD hS 2 1 rfl rfl (inr_ok rfl) dX12_dinner_20 (fun H locs hP hD hS => ?_)
  generalize upd f_32 (Int32.toNatClampNeg 32) 0 = f_33 at hP hD
  have hP : va_P (dC, dI) classes [(h0, .inr (12, [.ref s0, .int 0, .int 0, .ref s3, .ref s4, .ref s5, .ref s6, .ref s7, .int 0, .int 0, .int 0, .int 6, .int 0, .int 0, .int 0, .ref s15, .int 0, .ref s17, .int 0, .ref s19, .ref s20, .int (-1), .int 0, .int 0, .int 0, .int 0, .int 0, .ref s27, .int 0, .ref s29, .ref s30, .ref s31, .int 0, .int 0, .int 0, .ref s35, .ref s36, .ref s37, .long 0, .ref s39, .ref s40, .ref s41, .ref s42])), (s4, .inl (k4, 7, .inl g4)), (s7, .inl (k7, 59, .inl f_33))] H := hP
  have hD : va_D A [(h0, .inr (12, [.ref s0, .int 0, .int 0, .ref s3, .ref s4, .ref s5, .ref s6, .ref s7, .int 0, .int 0, .int 0, .int 6, .int 0, .int 0, .int 0, .ref s15, .int 0, .ref s17, .int 0, .ref s19, .ref s20, .int (-1), .int 0, .int 0, .int 0, .int 0, .int 0, .ref s27, .int 0, .ref s29, .ref s30, .ref s31, .int 0, .int 0, .int 0, .ref s35, .ref s36, .ref s37, .long 0, .ref s39, .ref s40, .ref s41, .ref s42])), (s4, .inl (k4, 7, .inl g4)), (s7, .inl (k7, 59, .inl f_33))] := hD
  refine lv_iinc (v := 33) (lv' := [(1, .int 33), (0, .ref h0)]) hx hb dX12_dinner_21 hl (k := 0) rfl (by decide) (by decide) rfl (fun ls hl => ?_)
  refine lv_goto (tgt := 8) hx hb dX12_dinner_24 (by decide) ?_
  refine lv_iload_n hx hb dX12_dinner_8 rfl (lv_at hl 0 rfl) ?_
  refine lv_bipush (v := 59) hx hb dX12_dinner_9 (by decide) ?_
  refine lv_icmp_ge (tgt := 27) hx hb dX12_dinner_11 (by decide) (fun c9 => absurd c9 (by decide)) (fun _ => ?_)
  refine lv_aload_n hx hb dX12_dinner_14 rfl (lv_at hl 1 rfl) ?_
  refine va_get (D := (dC, dI)) (ci := 12) (v := .ref s7) (C := RX12) (T := TX12) (N := 43) hx hb hq inX12 hown hK hP 0 rfl rfl 7 (by decide) (hq _ qw_1167) (fun _ h9 => h9) rfl dX12_dinner_15 ?_
  refine lv_iload_n hx hb dX12_dinner_18 rfl (lv_at hl 0 rfl) ?_
  refine lv_iconst (v := 0) hx hb dX12_dinner_19 (by decide) ?_
  refine va_iast hx hb hK hP hD hS 2 1 rfl rfl (inr_ok rfl) dX12_dinner_20 (fun H locs hP hD hS => ?_)
  generalize upd f_33 (Int32.toNatClampNeg 33) 0 = f_34 at hP hD
  have hP : va_P (dC, dI) classes [(h0, .inr (12, [.ref s0, .int 0, .int 0, .ref s3, .ref s4, .ref s5, .ref s6, .ref s7, .int 0, .int 0, .int 0, .int 6, .int 0, .int 0, .int 0, .ref s15, .int 0, .ref s17, .int 0, .ref s19, .ref s20, .int (-1), .int 0, .int 0, .int 0, .int 0, .int 0, .ref s27, .int 0, .ref s29, .ref s30, .ref s31, .int 0, .int 0, .int 0, .ref s35, .ref s36, .ref s37, .long 0, .ref s39, .ref s40, .ref s41, .ref s42])), (s4, .inl (k4, 7, .inl g4)), (s7, .inl (k7, 59, .inl f_34))] H := hP
  have hD : va_D A [(h0, .inr (12, [.ref s0, .int 0, .int 0, .ref s3, .ref s4, .ref s5, .ref s6, .ref s7, .int 0, .int 0, .int 0, .int 6, .int 0, .int 0, .int 0, .ref s15, .int 0, .ref s17, .int 0, .ref s19, .ref s20, .int (-1), .int 0, .int 0, .int 0, .int 0, .int 0, .ref s27, .int 0, .ref s29, .ref s30, .ref s31, .int 0, .int 0, .int 0, .ref s35, .ref s36, .ref s37, .long 0, .ref s39, .ref s40, .ref s41, .ref s42])), (s4, .inl (k4, 7, .inl g4)), (s7, .inl (k7, 59, .inl f_34))] := hD
  refine lv_iinc (v := 34) (lv' := [(1, .int 34), (0, .ref h0)]) hx hb dX12_dinner_21 hl (k := 0) rfl (by decide) (by decide) rfl (fun ls hl => ?_)
  refine lv_goto (tgt := 8) hx hb dX12_dinner_24 (by decide) ?_
  refine lv_iload_n hx hb dX12_dinner_8 rfl (lv_at hl 0 rfl) ?_
  refine lv_bipush (v := 59) hx hb dX12_dinner_9 (by decide) ?_
  refine lv_icmp_ge (tgt := 27) hx hb dX12_dinner_11 (by decide) (fun c9 => absurd c9 (by decide)) (fun _ => ?_)
  refine lv_aload_n hx hb dX12_dinner_14 rfl (lv_at hl 1 rfl) ?_
  refine va_get (D := (dC, dI)) (ci := 12) (v := .ref s7) (C := RX12) (T := TX12) (N := 43) hx hb hq inX12 hown hK hP 0 rfl rfl 7 (by decide) (hq _ qw_1167) (fun _ h9 => h9) rfl dX12_dinner_15 ?_
  refine lv_iload_n hx hb dX12_dinner_18 rfl (lv_at hl 0 rfl) ?_
  refine lv_iconst (v := 0) hx hb dX12_dinner_19 (by decide) ?_
  refine va_iast hx hb hK hP hD hS 2 1 rfl rfl (inr_ok rfl) dX12_dinner_20 (fun H locs hP hD hS => ?_)
  generalize upd f_34 (Int32.toNatClampNeg 34) 0 = f_35 at hP hD
  have hP : va_P (dC, dI) classes [(h0, .inr (12, [.ref s0, .int 0, .int 0, .ref s3, .ref s4, .ref s5, .ref s6, .ref s7, .int 0, .int 0, .int 0, .int 6, .int 0, .int 0, .int 0, .ref s15, .int 0, .ref s17, .int 0, .ref s19, .ref s20, .int (-1), .int 0, .int 0, .int 0, .int 0, .int 0, .ref s27, .int 0, .ref s29, .ref s30, .ref s31, .int 0, .int 0, .int 0, .ref s35, .ref s36, .ref s37, .long 0, .ref s39, .ref s40, .ref s41, .ref s42])), (s4, .inl (k4, 7, .inl g4)), (s7, .inl (k7, 59, .inl f_35))] H := hP
  have hD : va_D A [(h0, .inr (12, [.ref s0, .int 0, .int 0, .ref s3, .ref s4, .ref s5, .ref s6, .ref s7, .int 0, .int 0, .int 0, .int 6, .int 0, .int 0, .int 0, .ref s15, .int 0, .ref s17, .int 0, .ref s19, .ref s20, .int (-1), .int 0, .int 0, .int 0, .int 0, .int 0, .ref s27, .int 0, .ref s29, .ref s30, .ref s31, .int 0, .int 0, .int 0, .ref s35, .ref s36, .ref s37, .long 0, .ref s39, .ref s40, .ref s41, .ref s42])), (s4, .inl (k4, 7, .inl g4)), (s7, .inl (k7, 59, .inl f_35))] := hD
  refine lv_iinc (v := 35) (lv' := [(1, .int 35), (0, .ref h0)]) hx hb dX12_dinner_21 hl (k := 0) rfl (by decide) (by decide) rfl (fun ls hl => ?_)
  refine lv_goto (tgt := 8) hx hb dX12_dinner_24 (by decide) ?_
  refine lv_iload_n hx hb dX12_dinner_8 rfl (lv_at hl 0 rfl) ?_
  refine lv_bipush (v := 59) hx hb dX12_dinner_9 (by decide) ?_
  refine lv_icmp_ge (tgt := 27) hx hb dX12_dinner_11 (by decide) (fun c9 => absurd c9 (by decide)) (fun _ => ?_)
  refine lv_aload_n hx hb dX12_dinner_14 rfl (lv_at hl 1 rfl) ?_
  refine va_get (D := (dC, dI)) (ci := 12) (v := .ref s7) (C := RX12) (T := TX12) (N := 43) hx hb hq inX12 hown hK hP 0 rfl rfl 7 (by decide) (hq _ qw_1167) (fun _ h9 => h9) rfl dX12_dinner_15 ?_
  refine lv_iload_n hx hb dX12_dinner_18 rfl (lv_at hl 0 rfl) ?_
  refine lv_iconst (v := 0) hx hb dX12_dinner_19 (by decide) ?_
  refine va_iast hx hb hK hP hD hS 2 1 rfl rfl (inr_ok rfl) dX12_dinner_20 (fun H locs hP hD hS => ?_)
  generalize upd f_35 (Int32.toNatClampNeg 35) 0 = f_36 at hP hD
  have hP : va_P (dC, dI) classes [(h0, .inr (12, [.ref s0, .int 0, .int 0, .ref s3, .ref s4, .ref s5, .ref s6, .ref s7, .int 0, .int 0, .int 0, .int 6, .int 0, .int 0, .int 0, .ref s15, .int 0, .ref s17, .int 0, .ref s19, .ref s20, .int (-1), .int 0, .int 0, .int 0, .int 0, .int 0, .ref s27, .int 0, .ref s29, .ref s30, .ref s31, .int 0, .int 0, .int 0, .ref s35, .ref s36, .ref s37, .long 0, .ref s39, .ref s40, .ref s41, .ref s42])), (s4, .inl (k4, 7, .inl g4)), (s7, .inl (k7, 59, .inl f_36))] H := hP
  have hD : va_D A [(h0, .inr (12, [.ref s0, .int 0, .int 0, .ref s3, .ref s4, .ref s5, .ref s6, .ref s7, .int 0, .int 0, .int 0, .int 6, .int 0, .int 0, .int 0, .ref s15, .int 0, .ref s17, .int 0, .ref s19, .ref s20, .int (-1), .int 0, .int 0, .int 0, .int 0, .int 0, .ref s27, .int 0, .ref s29, .ref s30, .ref s31, .int 0, .int 0, .int 0, .ref s35, .ref s36, .ref s37, .long 0, .ref s39, .ref s40, .ref s41, .ref s42])), (s4, .inl (k4, 7, .inl g4)), (s7, .inl (k7, 59, .inl f_36))] := hD
  refine lv_iinc (v := 36) (lv' := [(1, .int 36), (0, .ref h0)]) hx hb dX12_dinner_21 hl (k := 0) rfl (by decide) (by decide) rfl (fun ls hl => ?_)
  refine lv_goto (tgt := 8) hx hb dX12_dinner_24 (by decide) ?_
  refine lv_iload_n hx hb dX12_dinner_8 rfl (lv_at hl 0 rfl) ?_
  refine lv_bipush (v := 59) hx hb dX12_dinner_9 (by decide) ?_
  refine lv_icmp_ge (tgt := 27) hx hb dX12_dinner_11 (by decide) (fun c9 => absurd c9 (by decide)) (fun _ => ?_)
  refine lv_aload_n hx hb dX12_dinner_14 rfl (lv_at hl 1 rfl) ?_
  refine va_get (D := (dC, dI)) (ci := 12) (v := .ref s7) (C := RX12) (T := TX12) (N := 43) hx hb hq inX12 hown hK hP 0 rfl rfl 7 (by decide) (hq _ qw_1167) (fun _ h9 => h9) rfl dX12_dinner_15 ?_
  refine lv_iload_n hx hb dX12_dinner_18 rfl (lv_at hl 0 rfl) ?_
  refine lv_iconst (v := 0) hx hb dX12_dinner_19 (by decide) ?_
  refine va_iast hx hb hK hP hD hS 2 1 rfl rfl (inr_ok rfl) dX12_dinner_20 (fun H locs hP hD hS => ?_)
  generalize upd f_36 (Int32.toNatClampNeg 36) 0 = f_37 at hP hD
  have hP : va_P (dC, dI) classes [(h0, .inr (12, [.ref s0, .int 0, .int 0, .ref s3, .ref s4, .ref s5, .ref s6, .ref s7, .int 0, .int 0, .int 0, .int 6, .int 0, .int 0, .int 0, .ref s15, .int 0, .ref s17, .int 0, .ref s19, .ref s20, .int (-1), .int 0, .int 0, .int 0, .int 0, .int 0, .ref s27, .int 0, .ref s29, .ref s30, .ref s31, .int 0, .int 0, .int 0, .ref s35, .ref s36, .ref s37, .long 0, .ref s39, .ref s40, .ref s41, .ref s42])), (s4, .inl (k4, 7, .inl g4)), (s7, .inl (k7, 59, .inl f_37))] H := hP
  have hD : va_D A [(h0, .inr (12, [.ref s0, .int 0, .int 0, .ref s3, .ref s4, .ref s5, .ref s6, .ref s7, .int 0, .int 0, .int 0, .int 6, .int 0, .int 0, .int 0, .ref s15, .int 0, .ref s17, .int 0, .ref s19, .ref s20, .int (-1), .int 0, .int 0, .int 0, .int 0, .int 0, .ref s27, .int 0, .ref s29, .ref s30, .ref s31, .int 0, .int 0, .int 0, .ref s35, .ref s36, .ref s37, .long 0, .ref s39, .ref s40, .ref s41, .ref s42])), (s4, .inl (k4, 7, .inl g4)), (s7, .inl (k7, 59, .inl f_37))] := hD
  refine lv_iinc (v := 37) (lv' := [(1, .int 37), (0, .ref h0)]) hx hb dX12_dinner_21 hl (k := 0) rfl (by decide) (by decide) rfl (fun ls hl => ?_)
  refine lv_goto (tgt := 8) hx hb dX12_dinner_24 (by decide) ?_
  refine lv_iload_n hx hb dX12_dinner_8 rfl (lv_at hl 0 rfl) ?_
  refine lv_bipush (v := 59) hx hb dX12_dinner_9 (by decide) ?_
  refine lv_icmp_ge (tgt := 27) hx hb dX12_dinner_11 (by decide) (fun c9 => absurd c9 (by decide)) (fun _ => ?_)
  refine lv_aload_n hx hb dX12_dinner_14 rfl (lv_at hl 1 rfl) ?_
  refine va_get (D := (dC, dI)) (ci := 12) (v := .ref s7) (C := RX12) (T := TX12) (N := 43) hx hb hq inX12 hown hK hP 0 rfl rfl 7 (by decide) (hq _ qw_1167) (fun _ h9 => h9) rfl dX12_dinner_15 ?_
  refine lv_iload_n hx hb dX12_dinner_18 rfl (lv_at hl 0 rfl) ?_
  refine lv_iconst (v := 0) hx hb dX12_dinner_19 (by decide) ?_
  refine va_iast hx hb hK hP hD hS 2 1 rfl rfl (inr_ok rfl) dX12_dinner_20 (fun H locs hP hD hS => ?_)
  generalize upd f_37 (Int32.toNatClampNeg 37) 0 = f_38 at hP hD
  have hP : va_P (dC, dI) classes [(h0, .inr (12, [.ref s0, .int 0, .int 0, .ref s3, .ref s4, .ref s5, .ref s6, .ref s7, .int 0, .int 0, .int 0, .int 6, .int 0, .int 0, .int 0, .ref s15, .int 0, .ref s17, .int 0, .ref s19, .ref s20, .int (-1), .int 0, .int 0, .int 0, .int 0, .int 0, .ref s27, .int 0, .ref s29, .ref s30, .ref s31, .int 0, .int 0, .int 0, .ref s35, .ref s36, .ref s37, .long 0, .ref s39, .ref s40, .ref s41, .ref s42])), (s4, .inl (k4, 7, .inl g4)), (s7, .inl (k7, 59, .inl f_38))] H := hP
  have hD : va_D A [(h0, .inr (12, [.ref s0, .int 0, .int 0, .ref s3, .ref s4, .ref s5, .ref s6, .ref s7, .int 0, .int 0, .int 0, .int 6, .int 0, .int 0, .int 0, .ref s15, .int 0, .ref s17, .int 0, .ref s19, .ref s20, .int (-1), .int 0, .int 0, .int 0, .int 0, .int 0, .ref s27, .int 0, .ref s29, .ref s30, .ref s31, .int 0, .int 0, .int 0, .ref s35, .ref s36, .ref s37, .long 0, .ref s39, .ref s40, .ref s41, .ref s42])), (s4, .inl (k4, 7, .inl g4)), (s7, .inl (k7, 59, .inl f_38))] := hD
  refine lv_iinc (v := 38) (lv' := [(1, .int 38), (0, .ref h0)]) hx hb dX12_dinner_21 hl (k := 0) rfl (by decide) (by decide) rfl (fun ls hl => ?_)
  refine lv_goto (tgt := 8) hx hb dX12_dinner_24 (by decide) ?_
  refine lv_iload_n hx hb dX12_dinner_8 rfl (lv_at hl 0 rfl) ?_
  refine lv_bipush (v := 59) hx hb dX12_dinner_9 (by decide) ?_
  refine lv_icmp_ge (tgt := 27) hx hb dX12_dinner_11 (by decide) (fun c9 => absurd c9 (by decide)) (fun _ => ?_)
  refine lv_aload_n hx hb dX12_dinner_14 rfl (lv_at hl 1 rfl) ?_
  refine va_get (D := (dC, dI)) (ci := 12) (v := .ref s7) (C := RX12) (T := TX12) (N := 43) hx hb hq inX12 hown hK hP 0 rfl rfl 7 (by decide) (hq _ qw_1167) (fun _ h9 => h9) rfl dX12_dinner_15 ?_
  refine lv_iload_n hx hb dX12_dinner_18 rfl (lv_at hl 0 rfl) ?_
  refine lv_iconst (v := 0) hx hb dX12_dinner_19 (by decide) ?_
  refine va_iast hx hb hK hP hD hS 2 1 rfl rfl (inr_ok rfl) dX12_dinner_20 (fun H locs hP hD hS => ?_)
  generalize upd f_38 (Int32.toNatClampNeg 38) 0 = f_39 at hP hD
  have hP : va_P (dC, dI) classes [(h0, .inr (12, [.ref s0, .int 0, .int 0, .ref s3, .ref s4, .ref s5, .ref s6, .ref s7, .int 0, .int 0, .int 0, .int 6, .int 0, .int 0, .int 0, .ref s15, .int 0, .ref s17, .int 0, .ref s19, .ref s20, .int (-1), .int 0, .int 0, .int 0, .int 0, .int 0, .ref s27, .int 0, .ref s29, .ref s30, .ref s31, .int 0, .int 0, .int 0, .ref s35, .ref s36, .ref s37, .long 0, .ref s39, .ref s40, .ref s41, .ref s42])), (s4, .inl (k4, 7, .inl g4)), (s7, .inl (k7, 59, .inl f_39))] H := hP
  have hD : va_D A [(h0, .inr (12, [.ref s0, .int 0, .int 0, .ref s3, .ref s4, .ref s5, .ref s6, .ref s7, .int 0, .int 0, .int 0, .int 6, .int 0, .int 0, .int 0, .ref s15, .int 0, .ref s17, .int 0, .ref s19, .ref s20, .int (-1), .int 0, .int 0, .int 0, .int 0, .int 0, .ref s27, .int 0, .ref s29, .ref s30, .ref s31, .int 0, .int 0, .int 0, .ref s35, .ref s36, .ref s37, .long 0, .ref s39, .ref s40, .ref s41, .ref s42])), (s4, .inl (k4, 7, .inl g4)), (s7, .inl (k7, 59, .inl f_39))] := hD
  refine lv_iinc (v := 39) (lv' := [(1, .int 39), (0, .ref h0)]) hx hb dX12_dinner_21 hl (k := 0) rfl (by decide) (by decide) rfl (fun ls hl => ?_)
  refine lv_goto (tgt := 8) hx hb dX12_dinner_24 (by decide) ?_
  refine lv_iload_n hx hb dX12_dinner_8 rfl (lv_at hl 0 rfl) ?_
  refine lv_bipush (v := 59) hx hb dX12_dinner_9 (by decide) ?_
  refine lv_icmp_ge (tgt := 27) hx hb dX12_dinner_11 (by decide) (fun c9 => absurd c9 (by decide)) (fun _ => ?_)
  refine lv_aload_n hx hb dX12_dinner_14 rfl (lv_at hl 1 rfl) ?_
  refine va_get (D := (dC, dI)) (ci := 12) (v := .ref s7) (C := RX12) (T := TX12) (N := 43) hx hb hq inX12 hown hK hP 0 rfl rfl 7 (by decide) (hq _ qw_1167) (fun _ h9 => h9) rfl dX12_dinner_15 ?_
  refine lv_iload_n hx hb dX12_dinner_18 rfl (lv_at hl 0 rfl) ?_
  refine lv_iconst (v := 0) hx hb dX12_dinner_19 (by decide) ?_
  refine va_iast hx hb hK hP hD hS 2 1 rfl rfl (inr_ok rfl) dX12_dinner_20 (fun H locs hP hD hS => ?_)
  generalize upd f_39 (Int32.toNatClampNeg 39) 0 = f_40 at hP hD
  have hP : va_P (dC, dI) classes [(h0, .inr (12, [.ref s0, .int 0, .int 0, .ref s3, .ref s4, .ref s5, .ref s6, .ref s7, .int 0, .int 0, .int 0, .int 6, .int 0, .int 0, .int 0, .ref s15, .int 0, .ref s17, .int 0, .ref s19, .ref s20, .int (-1), .int 0, .int 0, .int 0, .int 0, .int 0, .ref s27, .int 0, .ref s29, .ref s30, .ref s31, .int 0, .int 0, .int 0, .ref s35, .ref s36, .ref s37, .long 0, .ref s39, .ref s40, .ref s41, .ref s42])), (s4, .inl (k4, 7, .inl g4)), (s7, .inl (k7, 59, .inl f_40))] H := hP
  have hD : va_D A [(h0, .inr (12, [.ref s0, .int 0, .int 0, .ref s3, .ref s4, .ref s5, .ref s6, .ref s7, .int 0, .int 0, .int 0, .int 6, .int 0, .int 0, .int 0, .ref s15, .int 0, .ref s17, .int 0, .ref s19, .ref s20, .int (-1), .int 0, .int 0, .int 0, .int 0, .int 0, .ref s27, .int 0, .ref s29, .ref s30, .ref s31, .int 0, .int 0, .int 0, .ref s35, .ref s36, .ref s37, .long 0, .ref s39, .ref s40, .ref s41, .ref s42])), (s4, .inl (k4, 7, .inl g4)), (s7, .inl (k7, 59, .inl f_40))] := hD
  refine lv_iinc (v := 40) (lv' := [(1, .int 40), (0, .ref h0)]) hx hb dX12_dinner_21 hl (k := 0) rfl (by decide) (by decide) rfl (fun ls hl => ?_)
  refine lv_goto (tgt := 8) hx hb dX12_dinner_24 (by decide) ?_
  refine lv_iload_n hx hb dX12_dinner_8 rfl (lv_at hl 0 rfl) ?_
  refine lv_bipush (v := 59) hx hb dX12_dinner_9 (by decide) ?_
  refine lv_icmp_ge (tgt := 27) hx hb dX12_dinner_11 (by decide) (fun c9 => absurd c9 (by decide)) (fun _ => ?_)
  refine lv_aload_n hx hb dX12_dinner_14 rfl (lv_at hl 1 rfl) ?_
  refine va_get (D := (dC, dI)) (ci := 12) (v := .ref s7) (C := RX12) (T := TX12) (N := 43) hx hb hq inX12 hown hK hP 0 rfl rfl 7 (by decide) (hq _ qw_1167) (fun _ h9 => h9) rfl dX12_dinner_15 ?_
  refine lv_iload_n hx hb dX12_dinner_18 rfl (lv_at hl 0 rfl) ?_
  refine lv_iconst (v := 0) hx hb dX12_dinner_19 (by decide) ?_
  refine va_iast hx hb hK hP hD hS 2 1 rfl rfl (inr_ok rfl) dX12_dinner_20 (fun H locs hP hD hS => ?_)
  generalize upd f_40 (Int32.toNatClampNeg 40) 0 = f_41 at hP hD
  have hP : va_P (dC, dI) classes [(h0, .inr (12, [.ref s0, .int 0, .int 0, .ref s3, .ref s4, .ref s5, .ref s6, .ref s7, .int 0, .int 0, .int 0, .int 6, .int 0, .int 0, .int 0, .ref s15, .int 0, .ref s17, .int 0, .ref s19, .ref s20, .int (-1), .int 0, .int 0, .int 0, .int 0, .int 0, .ref s27, .int 0, .ref s29, .ref s30, .ref s31, .int 0, .int 0, .int 0, .ref s35, .ref s36, .ref s37, .long 0, .ref s39, .ref s40, .ref s41, .ref s42])), (s4, .inl (k4, 7, .inl g4)), (s7, .inl (k7, 59, .inl f_41))] H := hP
  have hD : va_D A [(h0, .inr (12, [.ref s0, .int 0, .int 0, .ref s3, .ref s4, .ref s5, .ref s6, .ref s7, .int 0, .int 0, .int 0, .int 6, .int 0, .int 0, .int 0, .ref s15, .int 0, .ref s17, .int 0, .ref s19, .ref s20, .int (-1), .int 0, .int 0, .int 0, .int 0, .int 0, .ref s27, .int 0, .ref s29, .ref s30, .ref s31, .int 0, .int 0, .int 0, .ref s35, .ref s36, .ref s37, .long 0, .ref s39, .ref s40, .ref s41, .ref s42])), (s4, .inl (k4, 7, .inl g4)), (s7, .inl (k7, 59, .inl f_41))] := hD
  refine lv_iinc (v := 41) (lv' := [(1, .int 41), (0, .ref h0)]) hx hb dX12_dinner_21 hl (k := 0) rfl (by decide) (by decide) rfl (fun ls hl => ?_)
  refine lv_goto (tgt := 8) hx hb dX12_dinner_24 (by decide) ?_
  refine lv_iload_n hx hb dX12_dinner_8 rfl (lv_at hl 0 rfl) ?_
  refine lv_bipush (v := 59) hx hb dX12_dinner_9 (by decide) ?_
  refine lv_icmp_ge (tgt := 27) hx hb dX12_dinner_11 (by decide) (fun c9 => absurd c9 (by decide)) (fun _ => ?_)
  refine lv_aload_n hx hb dX12_dinner_14 rfl (lv_at hl 1 rfl) ?_
  refine va_get (D := (dC, dI)) (ci := 12) (v := .ref s7) (C := RX12) (T := TX12) (N := 43) hx hb hq inX12 hown hK hP 0 rfl rfl 7 (by decide) (hq _ qw_1167) (fun _ h9 => h9) rfl dX12_dinner_15 ?_
  refine lv_iload_n hx hb dX12_dinner_18 rfl (lv_at hl 0 rfl) ?_
  refine lv_iconst (v := 0) hx hb dX12_dinner_19 (by decide) ?_
  refine va_iast hx hb hK hP hD hS 2 1 rfl rfl (inr_ok rfl) dX12_dinner_20 (fun H locs hP hD hS => ?_)
  generalize upd f_41 (Int32.toNatClampNeg 41) 0 = f_42 at hP hD
  have hP : va_P (dC, dI) classes [(h0, .inr (12, [.ref s0, .int 0, .int 0, .ref s3, .ref s4, .ref s5, .ref s6, .ref s7, .int 0, .int 0, .int 0, .int 6, .int 0, .int 0, .int 0, .ref s15, .int 0, .ref s17, .int 0, .ref s19, .ref s20, .int (-1), .int 0, .int 0, .int 0, .int 0, .int 0, .ref s27, .int 0, .ref s29, .ref s30, .ref s31, .int 0, .int 0, .int 0, .ref s35, .ref s36, .ref s37, .long 0, .ref s39, .ref s40, .ref s41, .ref s42])), (s4, .inl (k4, 7, .inl g4)), (s7, .inl (k7, 59, .inl f_42))] H := hP
  have hD : va_D A [(h0, .inr (12, [.ref s0, .int 0, .int 0, .ref s3, .ref s4, .ref s5, .ref s6, .ref s7, .int 0, .int 0, .int 0, .int 6, .int 0, .int 0, .int 0, .ref s15, .int 0, .ref s17, .int 0, .ref s19, .ref s20, .int (-1), .int 0, .int 0, .int 0, .int 0, .int 0, .ref s27, .int 0, .ref s29, .ref s30, .ref s31, .int 0, .int 0, .int 0, .ref s35, .ref s36, .ref s37, .long 0, .ref s39, .ref s40, .ref s41, .ref s42])), (s4, .inl (k4, 7, .inl g4)), (s7, .inl (k7, 59, .inl f_42))] := hD
  refine lv_iinc (v := 42) (lv' := [(1, .int 42), (0, .ref h0)]) hx hb dX12_dinner_21 hl (k := 0) rfl (by decide) (by decide) rfl (fun ls hl => ?_)
  refine lv_goto (tgt := 8) hx hb dX12_dinner_24 (by decide) ?_
  refine lv_iload_n hx hb dX12_dinner_8 rfl (lv_at hl 0 rfl) ?_
  refine lv_bipush (v := 59) hx hb dX12_dinner_9 (by decide) ?_
  refine lv_icmp_ge (tgt := 27) hx hb dX12_dinner_11 (by decide) (fun c9 => absurd c9 (by decide)) (fun _ => ?_)
  refine lv_aload_n hx hb dX12_dinner_14 rfl (lv_at hl 1 rfl) ?_
  refine va_get (D := (dC, dI)) (ci := 12) (v := .ref s7) (C := RX12) (T := TX12) (N := 43) hx hb hq inX12 hown hK hP 0 rfl rfl 7 (by decide) (hq _ qw_1167) (fun _ h9 => h9) rfl dX12_dinner_15 ?_
  refine lv_iload_n hx hb dX12_dinner_18 rfl (lv_at hl 0 rfl) ?_
  refine lv_iconst (v := 0) hx hb dX12_dinner_19 (by decide) ?_
  refine va_iast hx hb hK hP hD hS 2 1 rfl rfl (inr_ok rfl) dX12_dinner_20 (fun H locs hP hD hS => ?_)
  generalize upd f_42 (Int32.toNatClampNeg 42) 0 = f_43 at hP hD
  have hP : va_P (dC, dI) classes [(h0, .inr (12, [.ref s0, .int 0, .int 0, .ref s3, .ref s4, .ref s5, .ref s6, .ref s7, .int 0, .int 0, .int 0, .int 6, .int 0, .int 0, .int 0, .ref s15, .int 0, .ref s17, .int 0, .ref s19, .ref s20, .int (-1), .int 0, .int 0, .int 0, .int 0, .int 0, .ref s27, .int 0, .ref s29, .ref s30, .ref s31, .int 0, .int 0, .int 0, .ref s35, .ref s36, .ref s37, .long 0, .ref s39, .ref s40, .ref s41, .ref s42])), (s4, .inl (k4, 7, .inl g4)), (s7, .inl (k7, 59, .inl f_43))] H := hP
  have hD : va_D A [(h0, .inr (12, [.ref s0, .int 0, .int 0, .ref s3, .ref s4, .ref s5, .ref s6, .ref s7, .int 0, .int 0, .int 0, .int 6, .int 0, .int 0, .int 0, .ref s15, .int 0, .ref s17, .int 0, .ref s19, .ref s20, .int (-1), .int 0, .int 0, .int 0, .int 0, .int 0, .ref s27, .int 0, .ref s29, .ref s30, .ref s31, .int 0, .int 0, .int 0, .ref s35, .ref s36, .ref s37, .long 0, .ref s39, .ref s40, .ref s41, .ref s42])), (s4, .inl (k4, 7, .inl g4)), (s7, .inl (k7, 59, .inl f_43))] := hD
  refine lv_iinc (v := 43) (lv' := [(1, .int 43), (0, .ref h0)]) hx hb dX12_dinner_21 hl (k := 0) rfl (by decide) (by decide) rfl (fun ls hl => ?_)
  refine lv_goto (tgt := 8) hx hb dX12_dinner_24 (by decide) ?_
  refine lv_iload_n hx hb dX12_dinner_8 rfl (lv_at hl 0 rfl) ?_
  refine lv_bipush (v := 59) hx hb dX12_dinner_9 (by decide) ?_
  refine lv_icmp_ge (tgt := 27) hx hb dX12_dinner_11 (by decide) (fun c9 => absurd c9 (by decide)) (fun _ => ?_)
  refine lv_aload_n hx hb dX12_dinner_14 rfl (lv_at hl 1 rfl) ?_
  refine va_get (D := (dC, dI)) (ci := 12) (v := .ref s7) (C := RX12) (T := TX12) (N := 43) hx hb hq inX12 hown hK hP 0 rfl rfl 7 (by decide) (hq _ qw_1167) (fun _ h9 => h9) rfl dX12_dinner_15 ?_
  refine lv_iload_n hx hb dX12_dinner_18 rfl (lv_at hl 0 rfl) ?_
  refine lv_iconst (v := 0) hx hb dX12_dinner_19 (by decide) ?_
  refine va_iast hx hb hK hP hD hS 2 1 rfl rfl (inr_ok rfl) dX12_dinner_20 (fun H locs hP hD hS => ?_)
  generalize upd f_43 (Int32.toNatClampNeg 43) 0 = f_44 at hP hD
  have hP : va_P (dC, dI) classes [(h0, .inr (12, [.ref s0, .int 0, .int 0, .ref s3, .ref s4, .ref s5, .ref s6, .ref s7, .int 0, .int 0, .int 0, .int 6, .int 0, .int 0, .int 0, .ref s15, .int 0, .ref s17, .int 0, .ref s19, .ref s20, .int (-1), .int 0, .int 0, .int 0, .int 0, .int 0, .ref s27, .int 0, .ref s29, .ref s30, .ref s31, .int 0, .int 0, .int 0, .ref s35, .ref s36, .ref s37, .long 0, .ref s39, .ref s40, .ref s41, .ref s42])), (s4, .inl (k4, 7, .inl g4)), (s7, .inl (k7, 59, .inl f_44))] H := hP
  have hD : va_D A [(h0, .inr (12, [.ref s0, .int 0, .int 0, .ref s3, .ref s4, .ref s5, .ref s6, .ref s7, .int 0, .int 0, .int 0, .int 6, .int 0, .int 0, .int 0, .ref s15, .int 0, .ref s17, .int 0, .ref s19, .ref s20, .int (-1), .int 0, .int 0, .int 0, .int 0, .int 0, .ref s27, .int 0, .ref s29, .ref s30, .ref s31, .int 0, .int 0, .int 0, .ref s35, .ref s36, .ref s37, .long 0, .ref s39, .ref s40, .ref s41, .ref s42])), (s4, .inl (k4, 7, .inl g4)), (s7, .inl (k7, 59, .inl f_44))] := hD
  refine lv_iinc (v := 44) (lv' := [(1, .int 44), (0, .ref h0)]) hx hb dX12_dinner_21 hl (k := 0) rfl (by decide) (by decide) rfl (fun ls hl => ?_)
  refine lv_goto (tgt := 8) hx hb dX12_dinner_24 (by decide) ?_
  refine lv_iload_n hx hb dX12_dinner_8 rfl (lv_at hl 0 rfl) ?_
  refine lv_bipush (v := 59) hx hb dX12_dinner_9 (by decide) ?_
  refine lv_icmp_ge (tgt := 27) hx hb dX12_dinner_11 (by decide) (fun c9 => absurd c9 (by decide)) (fun _ => ?_)
  refine lv_aload_n hx hb dX12_dinner_14 rfl (lv_at hl 1 rfl) ?_
  refine va_get (D := (dC, dI)) (ci := 12) (v := .ref s7) (C := RX12) (T := TX12) (N := 43) hx hb hq inX12 hown hK hP 0 rfl rfl 7 (by decide) (hq _ qw_1167) (fun _ h9 => h9) rfl dX12_dinner_15 ?_
  refine lv_iload_n hx hb dX12_dinner_18 rfl (lv_at hl 0 rfl) ?_
  refine lv_iconst (v := 0) hx hb dX12_dinner_19 (by decide) ?_
  refine va_iast hx hb hK hP hD hS 2 1 rfl rfl (inr_ok rfl) dX12_dinner_20 (fun H locs hP hD hS => ?_)
  generalize upd f_44 (Int32.toNatClampNeg 44) 0 = f_45 at hP hD
  have hP : va_P (dC, dI) classes [(h0, .inr (12, [.ref s0, .int 0, .int 0, .ref s3, .ref s4, .ref s5, .ref s6, .ref s7, .int 0, .int 0, .int 0, .int 6, .int 0, .int 0, .int 0, .ref s15, .int 0, .ref s17, .int 0, .ref s19, .ref s20, .int (-1), .int 0, .int 0, .int 0, .int 0, .int 0, .ref s27, .int 0, .ref s29, .ref s30, .ref s31, .int 0, .int 0, .int 0, .ref s35, .ref s36, .ref s37, .long 0, .ref s39, .ref s40, .ref s41, .ref s42])), (s4, .inl (k4, 7, .inl g4)), (s7, .inl (k7, 59, .inl f_45))] H := hP
  have hD : va_D A [(h0, .inr (12, [.ref s0, .int 0, .int 0, .ref s3, .ref s4, .ref s5, .ref s6, .ref s7, .int 0, .int 0, .int 0, .int 6, .int 0, .int 0, .int 0, .ref s15, .int 0, .ref s17, .int 0, .ref s19, .ref s20, .int (-1), .int 0, .int 0, .int 0, .int 0, .int 0, .ref s27, .int 0, .ref s29, .ref s30, .ref s31, .int 0, .int 0, .int 0, .ref s35, .ref s36, .ref s37, .long 0, .ref s39, .ref s40, .ref s41, .ref s42])), (s4, .inl (k4, 7, .inl g4)), (s7, .inl (k7, 59, .inl f_45))] := hD
  refine lv_iinc (v := 45) (lv' := [(1, .int 45), (0, .ref h0)]) hx hb dX12_dinner_21 hl (k := 0) rfl (by decide) (by decide) rfl (fun ls hl => ?_)
  refine lv_goto (tgt := 8) hx hb dX12_dinner_24 (by decide) ?_
  refine lv_iload_n hx hb dX12_dinner_8 rfl (lv_at hl 0 rfl) ?_
  refine lv_bipush (v := 59) hx hb dX12_dinner_9 (by decide) ?_
  refine lv_icmp_ge (tgt := 27) hx hb dX12_dinner_11 (by decide) (fun c9 => absurd c9 (by decide)) (fun _ => ?_)
  refine lv_aload_n hx hb dX12_dinner_14 rfl (lv_at hl 1 rfl) ?_
  refine va_get (D := (dC, dI)) (ci := 12) (v := .ref s7) (C := RX12) (T := TX12) (N := 43) hx hb hq inX12 hown hK hP 0 rfl rfl 7 (by decide) (hq _ qw_1167) (fun _ h9 => h9) rfl dX12_dinner_15 ?_
  refine lv_iload_n hx hb dX12_dinner_18 rfl (lv_at hl 0 rfl) ?_
  refine lv_iconst (v := 0) hx hb dX12_dinner_19 (by decide) ?_
  refine va_iast hx hb hK hP hD hS 2 1 rfl rfl (inr_ok rfl) dX12_dinner_20 (fun H locs hP hD hS => ?_)
  generalize upd f_45 (Int32.toNatClampNeg 45) 0 = f_46 at hP hD
  have hP : va_P (dC, dI) classes [(h0, .inr (12, [.ref s0, .int 0, .int 0, .ref s3, .ref s4, .ref s5, .ref s6, .ref s7, .int 0, .int 0, .int 0, .int 6, .int 0, .int 0, .int 0, .ref s15, .int 0, .ref s17, .int 0, .ref s19, .ref s20, .int (-1), .int 0, .int 0, .int 0, .int 0, .int 0, .ref s27, .int 0, .ref s29, .ref s30, .ref s31, .int 0, .int 0, .int 0, .ref s35, .ref s36, .ref s37, .long 0, .ref s39, .ref s40, .ref s41, .ref s42])), (s4, .inl (k4, 7, .inl g4)), (s7, .inl (k7, 59, .inl f_46))] H := hP
  have hD : va_D A [(h0, .inr (12, [.ref s0, .int 0, .int 0, .ref s3, .ref s4, .ref s5, .ref s6, .ref s7, .int 0, .int 0, .int 0, .int 6, .int 0, .int 0, .int 0, .ref s15, .int 0, .ref s17, .int 0, .ref s19, .ref s20, .int (-1), .int 0, .int 0, .int 0, .int 0, .int 0, .ref s27, .int 0, .ref s29, .ref s30, .ref s31, .int 0, .int 0, .int 0, .ref s35, .ref s36, .ref s37, .long 0, .ref s39, .ref s40, .ref s41, .ref s42])), (s4, .inl (k4, 7, .inl g4)), (s7, .inl (k7, 59, .inl f_46))] := hD
  refine lv_iinc (v := 46) (lv' := [(1, .int 46), (0, .ref h0)]) hx hb dX12_dinner_21 hl (k := 0) rfl (by decide) (by decide) rfl (fun ls hl => ?_)
  refine lv_goto (tgt := 8) hx hb dX12_dinner_24 (by decide) ?_
  refine lv_iload_n hx hb dX12_dinner_8 rfl (lv_at hl 0 rfl) ?_
  refine lv_bipush (v := 59) hx hb dX12_dinner_9 (by decide) ?_
  refine lv_icmp_ge (tgt := 27) hx hb dX12_dinner_11 (by decide) (fun c9 => absurd c9 (by decide)) (fun _ => ?_)
  refine lv_aload_n hx hb dX12_dinner_14 rfl (lv_at hl 1 rfl) ?_
  refine va_get (D := (dC, dI)) (ci := 12) (v := .ref s7) (C := RX12) (T := TX12) (N := 43) hx hb hq inX12 hown hK hP 0 rfl rfl 7 (by decide) (hq _ qw_1167) (fun _ h9 => h9) rfl dX12_dinner_15 ?_
  refine lv_iload_n hx hb dX12_dinner_18 rfl (lv_at hl 0 rfl) ?_
  refine lv_iconst (v := 0) hx hb dX12_dinner_19 (by decide) ?_
  refine va_iast hx hb hK hP hD hS 2 1 rfl rfl (inr_ok rfl) dX12_dinner_20 (fun H locs hP hD hS => ?_)
  generalize upd f_46 (Int32.toNatClampNeg 46) 0 = f_47 at hP hD
  have hP : va_P (dC, dI) classes [(h0, .inr (12, [.ref s0, .int 0, .int 0, .ref s3, .ref s4, .ref s5, .ref s6, .ref s7, .int 0, .int 0, .int 0, .int 6, .int 0, .int 0, .int 0, .ref s15, .int 0, .ref s17, .int 0, .ref s19, .ref s20, .int (-1), .int 0, .int 0, .int 0, .int 0, .int 0, .ref s27, .int 0, .ref s29, .ref s30, .ref s31, .int 0, .int 0, .int 0, .ref s35, .ref s36, .ref s37, .long 0, .ref s39, .ref s40, .ref s41, .ref s42])), (s4, .inl (k4, 7, .inl g4)), (s7, .inl (k7, 59, .inl f_47))] H := hP
  have hD : va_D A [(h0, .inr (12, [.ref s0, .int 0, .int 0, .ref s3, .ref s4, .ref s5, .ref s6, .ref s7, .int 0, .int 0, .int 0, .int 6, .int 0, .int 0, .int 0, .ref s15, .int 0, .ref s17, .int 0, .ref s19, .ref s20, .int (-1), .int 0, .int 0, .int 0, .int 0, .int 0, .ref s27, .int 0, .ref s29, .ref s30, .ref s31, .int 0, .int 0, .int 0, .ref s35, .ref s36, .ref s37, .long 0, .ref s39, .ref s40, .ref s41, .ref s42])), (s4, .inl (k4, 7, .inl g4)), (s7, .inl (k7, 59, .inl f_47))] := hD
  refine lv_iinc (v := 47) (lv' := [(1, .int 47), (0, .ref h0)]) hx hb dX12_dinner_21 hl (k := 0) rfl (by decide) (by decide) rfl (fun ls hl => ?_)
  refine lv_goto (tgt := 8) hx hb dX12_dinner_24 (by decide) ?_
  refine lv_iload_n hx hb dX12_dinner_8 rfl (lv_at hl 0 rfl) ?_
  refine lv_bipush (v := 59) hx hb dX12_dinner_9 (by decide) ?_
  refine lv_icmp_ge (tgt := 27) hx hb dX12_dinner_11 (by decide) (fun c9 => absurd c9 (by decide)) (fun _ => ?_)
  refine lv_aload_n hx hb dX12_dinner_14 rfl (lv_at hl 1 rfl) ?_
  refine va_get (D := (dC, dI)) (ci := 12) (v := .ref s7) (C := RX12) (T := TX12) (N := 43) hx hb hq inX12 hown hK hP 0 rfl rfl 7 (by decide) (hq _ qw_1167) (fun _ h9 => h9) rfl dX12_dinner_15 ?_
  refine lv_iload_n hx hb dX12_dinner_18 rfl (lv_at hl 0 rfl) ?_
  refine lv_iconst (v := 0) hx hb dX12_dinner_19 (by decide) ?_
  refine va_iast hx hb hK hP hD hS 2 1 rfl rfl (inr_ok rfl) dX12_dinner_20 (fun H locs hP hD hS => ?_)
  generalize upd f_47 (Int32.toNatClampNeg 47) 0 = f_48 at hP hD
  have hP : va_P (dC, dI) classes [(h0, .inr (12, [.ref s0, .int 0, .int 0, .ref s3, .ref s4, .ref s5, .ref s6, .ref s7, .int 0, .int 0, .int 0, .int 6, .int 0, .int 0, .int 0, .ref s15, .int 0, .ref s17, .int 0, .ref s19, .ref s20, .int (-1), .int 0, .int 0, .int 0, .int 0, .int 0, .ref s27, .int 0, .ref s29, .ref s30, .ref s31, .int 0, .int 0, .int 0, .ref s35, .ref s36, .ref s37, .long 0, .ref s39, .ref s40, .ref s41, .ref s42])), (s4, .inl (k4, 7, .inl g4)), (s7, .inl (k7, 59, .inl f_48))] H := hP
  have hD : va_D A [(h0, .inr (12, [.ref s0, .int 0, .int 0, .ref s3, .ref s4, .ref s5, .ref s6, .ref s7, .int 0, .int 0, .int 0, .int 6, .int 0, .int 0, .int 0, .ref s15, .int 0, .ref s17, .int 0, .ref s19, .ref s20, .int (-1), .int 0, .int 0, .int 0, .int 0, .int 0, .ref s27, .int 0, .ref s29, .ref s30, .ref s31, .int 0, .int 0, .int 0, .ref s35, .ref s36, .ref s37, .long 0, .ref s39, .ref s40, .ref s41, .ref s42])), (s4, .inl (k4, 7, .inl g4)), (s7, .inl (k7, 59, .inl f_48))] := hD
  refine lv_iinc (v := 48) (lv' := [(1, .int 48), (0, .ref h0)]) hx hb dX12_dinner_21 hl (k := 0) rfl (by decide) (by decide) rfl (fun ls hl => ?_)
  refine lv_goto (tgt := 8) hx hb dX12_dinner_24 (by decide) ?_
  refine lv_iload_n hx hb dX12_dinner_8 rfl (lv_at hl 0 rfl) ?_
  refine lv_bipush (v := 59) hx hb dX12_dinner_9 (by decide) ?_
  refine lv_icmp_ge (tgt := 27) hx hb dX12_dinner_11 (by decide) (fun c9 => absurd c9 (by decide)) (fun _ => ?_)
  refine lv_aload_n hx hb dX12_dinner_14 rfl (lv_at hl 1 rfl) ?_
  refine va_get (D := (dC, dI)) (ci := 12) (v := .ref s7) (C := RX12) (T := TX12) (N := 43) hx hb hq inX12 hown hK hP 0 rfl rfl 7 (by decide) (hq _ qw_1167) (fun _ h9 => h9) rfl dX12_dinner_15 ?_
  refine lv_iload_n hx hb dX12_dinner_18 rfl (lv_at hl 0 rfl) ?_
  refine lv_iconst (v := 0) hx hb dX12_dinner_19 (by decide) ?_
  refine va_iast hx hb hK hP hD hS 2 1 rfl rfl (inr_ok rfl) dX12_dinner_20 (fun H locs hP hD hS => ?_)
  generalize upd f_48 (Int32.toNatClampNeg 48) 0 = f_49 at hP hD
  have hP : va_P (dC, dI) classes [(h0, .inr (12, [.ref s0, .int 0, .int 0, .ref s3, .ref s4, .ref s5, .ref s6, .ref s7, .int 0, .int 0, .int 0, .int 6, .int 0, .int 0, .int 0, .ref s15, .int 0, .ref s17, .int 0, .ref s19, .ref s20, .int (-1), .int 0, .int 0, .int 0, .int 0, .int 0, .ref s27, .int 0, .ref s29, .ref s30, .ref s31, .int 0, .int 0, .int 0, .ref s35, .ref s36, .ref s37, .long 0, .ref s39, .ref s40, .ref s41, .ref s42])), (s4, .inl (k4, 7, .inl g4)), (s7, .inl (k7, 59, .inl f_49))] H := hP
  have hD : va_D A [(h0, .inr (12, [.ref s0, .int 0, .int 0, .ref s3, .ref s4, .ref s5, .ref s6, .ref s7, .int 0, .int 0, .int 0, .int 6, .int 0, .int 0, .int 0, .ref s15, .int 0, .ref s17, .int 0, .ref s19, .ref s20, .int (-1), .int 0, .int 0, .int 0, .int 0, .int 0, .ref s27, .int 0, .ref s29, .ref s30, .ref s31, .int 0, .int 0, .int 0, .ref s35, .ref s36, .ref s37, .long 0, .ref s39, .ref s40, .ref s41, .ref s42])), (s4, .inl (k4, 7, .inl g4)), (s7, .inl (k7, 59, .inl f_49))] := hD
  refine lv_iinc (v := 49) (lv' := [(1, .int 49), (0, .ref h0)]) hx hb dX12_dinner_21 hl (k := 0) rfl (by decide) (by decide) rfl (fun ls hl => ?_)
  refine lv_goto (tgt := 8) hx hb dX12_dinner_24 (by decide) ?_
  refine lv_iload_n hx hb dX12_dinner_8 rfl (lv_at hl 0 rfl) ?_
  refine lv_bipush (v := 59) hx hb dX12_dinner_9 (by decide) ?_
  refine lv_icmp_ge (tgt := 27) hx hb dX12_dinner_11 (by decide) (fun c9 => absurd c9 (by decide)) (fun _ => ?_)
  refine lv_aload_n hx hb dX12_dinner_14 rfl (lv_at hl 1 rfl) ?_
  refine va_get (D := (dC, dI)) (ci := 12) (v := .ref s7) (C := RX12) (T := TX12) (N := 43) hx hb hq inX12 hown hK hP 0 rfl rfl 7 (by decide) (hq _ qw_1167) (fun _ h9 => h9) rfl dX12_dinner_15 ?_
  refine lv_iload_n hx hb dX12_dinner_18 rfl (lv_at hl 0 rfl) ?_
  refine lv_iconst (v := 0) hx hb dX12_dinner_19 (by decide) ?_
  refine va_iast hx hb hK hP hD hS 2 1 rfl rfl (inr_ok rfl) dX12_dinner_20 (fun H locs hP hD hS => ?_)
  generalize upd f_49 (Int32.toNatClampNeg 49) 0 = f_50 at hP hD
  have hP : va_P (dC, dI) classes [(h0, .inr (12, [.ref s0, .int 0, .int 0, .ref s3, .ref s4, .ref s5, .ref s6, .ref s7, .int 0, .int 0, .int 0, .int 6, .int 0, .int 0, .int 0, .ref s15, .int 0, .ref s17, .int 0, .ref s19, .ref s20, .int (-1), .int 0, .int 0, .int 0, .int 0, .int 0, .ref s27, .int 0, .ref s29, .ref s30, .ref s31, .int 0, .int 0, .int 0, .ref s35, .ref s36, .ref s37, .long 0, .ref s39, .ref s40, .ref s41, .ref s42])), (s4, .inl (k4, 7, .inl g4)), (s7, .inl (k7, 59, .inl f_50))] H := hP
  have hD : va_D A [(h0, .inr (12, [.ref s0, .int 0, .int 0, .ref s3, .ref s4, .ref s5, .ref s6, .ref s7, .int 0, .int 0, .int 0, .int 6, .int 0, .int 0, .int 0, .ref s15, .int 0, .ref s17, .int 0, .ref s19, .ref s20, .int (-1), .int 0, .int 0, .int 0, .int 0, .int 0, .ref s27, .int 0, .ref s29, .ref s30, .ref s31, .int 0, .int 0, .int 0, .ref s35, .ref s36, .ref s37, .long 0, .ref s39, .ref s40, .ref s41, .ref s42])), (s4, .inl (k4, 7, .inl g4)), (s7, .inl (k7, 59, .inl f_50))] := hD
  refine lv_iinc (v := 50) (lv' := [(1, .int 50), (0, .ref h0)]) hx hb dX12_dinner_21 hl (k := 0) rfl (by decide) (by decide) rfl (fun ls hl => ?_)
  refine lv_goto (tgt := 8) hx hb dX12_dinner_24 (by decide) ?_
  refine lv_iload_n hx hb dX12_dinner_8 rfl (lv_at hl 0 rfl) ?_
  refine lv_bipush (v := 59) hx hb dX12_dinner_9 (by decide) ?_
  refine lv_icmp_ge (tgt := 27) hx hb dX12_dinner_11 (by decide) (fun c9 => absurd c9 (by decide)) (fun _ => ?_)
  refine lv_aload_n hx hb dX12_dinner_14 rfl (lv_at hl 1 rfl) ?_
  refine va_get (D := (dC, dI)) (ci := 12) (v := .ref s7) (C := RX12) (T := TX12) (N := 43) hx hb hq inX12 hown hK hP 0 rfl rfl 7 (by decide) (hq _ qw_1167) (fun _ h9 => h9) rfl dX12_dinner_15 ?_
  refine lv_iload_n hx hb dX12_dinner_18 rfl (lv_at hl 0 rfl) ?_
  refine lv_iconst (v := 0) hx hb dX12_dinner_19 (by decide) ?_
  refine va_iast hx hb hK hP hD hS 2 1 rfl rfl (inr_ok rfl) dX12_dinner_20 (fun H locs hP hD hS => ?_)
  generalize upd f_50 (Int32.toNatClampNeg 50) 0 = f_51 at hP hD
  have hP : va_P (dC, dI) classes [(h0, .inr (12, [.ref s0, .int 0, .int 0, .ref s3, .ref s4, .ref s5, .ref s6, .ref s7, .int 0, .int 0, .int 0, .int 6, .int 0, .int 0, .int 0, .ref s15, .int 0, .ref s17, .int 0, .ref s19, .ref s20, .int (-1), .int 0, .int 0, .int 0, .int 0, .int 0, .ref s27, .int 0, .ref s29, .ref s30, .ref s31, .int 0, .int 0, .int 0, .ref s35, .ref s36, .ref s37, .long 0, .ref s39, .ref s40, .ref s41, .ref s42])), (s4, .inl (k4, 7, .inl g4)), (s7, .inl (k7, 59, .inl f_51))] H := hP
  have hD : va_D A [(h0, .inr (12, [.ref s0, .int 0, .int 0, .ref s3, .ref s4, .ref s5, .ref s6, .ref s7, .int 0, .int 0, .int 0, .int 6, .int 0, .int 0, .int 0, .ref s15, .int 0, .ref s17, .int 0, .ref s19, .ref s20, .int (-1), .int 0, .int 0, .int 0, .int 0, .int 0, .ref s27, .int 0, .ref s29, .ref s30, .ref s31, .int 0, .int 0, .int 0, .ref s35, .ref s36, .ref s37, .long 0, .ref s39, .ref s40, .ref s41, .ref s42])), (s4, .inl (k4, 7, .inl g4)), (s7, .inl (k7, 59, .inl f_51))] := hD
  refine lv_iinc (v := 51) (lv' := [(1, .int 51), (0, .ref h0)]) hx hb dX12_dinner_21 hl (k := 0) rfl (by decide) (by decide) rfl (fun ls hl => ?_)
  refine lv_goto (tgt := 8) hx hb dX12_dinner_24 (by decide) ?_
  refine lv_iload_n hx hb dX12_dinner_8 rfl (lv_at hl 0 rfl) ?_
  refine lv_bipush (v := 59) hx hb dX12_dinner_9 (by decide) ?_
  refine lv_icmp_ge (tgt := 27) hx hb dX12_dinner_11 (by decide) (fun c9 => absurd c9 (by decide)) (fun _ => ?_)
  refine lv_aload_n hx hb dX12_dinner_14 rfl (lv_at hl 1 rfl) ?_
  refine va_get (D := (dC, dI)) (ci := 12) (v := .ref s7) (C := RX12) (T := TX12) (N := 43) hx hb hq inX12 hown hK hP 0 rfl rfl 7 (by decide) (hq _ qw_1167) (fun _ h9 => h9) rfl dX12_dinner_15 ?_
  refine lv_iload_n hx hb dX12_dinner_18 rfl (lv_at hl 0 rfl) ?_
  refine lv_iconst (v := 0) hx hb dX12_dinner_19 (by decide) ?_
  refine va_iast hx hb hK hP hD hS 2 1 rfl rfl (inr_ok rfl) dX12_dinner_20 (fun H locs hP hD hS => ?_)
  generalize upd f_51 (Int32.toNatClampNeg 51) 0 = f_52 at hP hD
  have hP : va_P (dC, dI) classes [(h0, .inr (12, [.ref s0, .int 0, .int 0, .ref s3, .ref s4, .ref s5, .ref s6, .ref s7, .int 0, .int 0, .int 0, .int 6, .int 0, .int 0, .int 0, .ref s15, .int 0, .ref s17, .int 0, .ref s19, .ref s20, .int (-1), .int 0, .int 0, .int 0, .int 0, .int 0, .ref s27, .int 0, .ref s29, .ref s30, .ref s31, .int 0, .int 0, .int 0, .ref s35, .ref s36, .ref s37, .long 0, .ref s39, .ref s40, .ref s41, .ref s42])), (s4, .inl (k4, 7, .inl g4)), (s7, .inl (k7, 59, .inl f_52))] H := hP
  have hD : va_D A [(h0, .inr (12, [.ref s0, .int 0, .int 0, .ref s3, .ref s4, .ref s5, .ref s6, .ref s7, .int 0, .int 0, .int 0, .int 6, .int 0, .int 0, .int 0, .ref s15, .int 0, .ref s17, .int 0, .ref s19, .ref s20, .int (-1), .int 0, .int 0, .int 0, .int 0, .int 0, .ref s27, .int 0, .ref s29, .ref s30, .ref s31, .int 0, .int 0, .int 0, .ref s35, .ref s36, .ref s37, .long 0, .ref s39, .ref s40, .ref s41, .ref s42])), (s4, .inl (k4, 7, .inl g4)), (s7, .inl (k7, 59, .inl f_52))] := hD
  refine lv_iinc (v := 52) (lv' := [(1, .int 52), (0, .ref h0)]) hx hb dX12_dinner_21 hl (k := 0) rfl (by decide) (by decide) rfl (fun ls hl => ?_)
  refine lv_goto (tgt := 8) hx hb dX12_dinner_24 (by decide) ?_
  refine lv_iload_n hx hb dX12_dinner_8 rfl (lv_at hl 0 rfl) ?_
  refine lv_bipush (v := 59) hx hb dX12_dinner_9 (by decide) ?_
  refine lv_icmp_ge (tgt := 27) hx hb dX12_dinner_11 (by decide) (fun c9 => absurd c9 (by decide)) (fun _ => ?_)
  refine lv_aload_n hx hb dX12_dinner_14 rfl (lv_at hl 1 rfl) ?_
  refine va_get (D := (dC, dI)) (ci := 12) (v := .ref s7) (C := RX12) (T := TX12) (N := 43) hx hb hq inX12 hown hK hP 0 rfl rfl 7 (by decide) (hq _ qw_1167) (fun _ h9 => h9) rfl dX12_dinner_15 ?_
  refine lv_iload_n hx hb dX12_dinner_18 rfl (lv_at hl 0 rfl) ?_
  refine lv_iconst (v := 0) hx hb dX12_dinner_19 (by decide) ?_
  refine va_iast hx hb hK hP hD hS 2 1 rfl rfl (inr_ok rfl) dX12_dinner_20 (fun H locs hP hD hS => ?_)
  generalize upd f_52 (Int32.toNatClampNeg 52) 0 = f_53 at hP hD
  have hP : va_P (dC, dI) classes [(h0, .inr (12, [.ref s0, .int 0, .int 0, .ref s3, .ref s4, .ref s5, .ref s6, .ref s7, .int 0, .int 0, .int 0, .int 6, .int 0, .int 0, .int 0, .ref s15, .int 0, .ref s17, .int 0, .ref s19, .ref s20, .int (-1), .int 0, .int 0, .int 0, .int 0, .int 0, .ref s27, .int 0, .ref s29, .ref s30, .ref s31, .int 0, .int 0, .int 0, .ref s35, .ref s36, .ref s37, .long 0, .ref s39, .ref s40, .ref s41, .ref s42])), (s4, .inl (k4, 7, .inl g4)), (s7, .inl (k7, 59, .inl f_53))] H := hP
  have hD : va_D A [(h0, .inr (12, [.ref s0, .int 0, .int 0, .ref s3, .ref s4, .ref s5, .ref s6, .ref s7, .int 0, .int 0, .int 0, .int 6, .int 0, .int 0, .int 0, .ref s15, .int 0, .ref s17, .int 0, .ref s19, .ref s20, .int (-1), .int 0, .int 0, .int 0, .int 0, .int 0, .ref s27, .int 0, .ref s29, .ref s30, .ref s31, .int 0, .int 0, .int 0, .ref s35, .ref s36, .ref s37, .long 0, .ref s39, .ref s40, .ref s41, .ref s42])), (s4, .inl (k4, 7, .inl g4)), (s7, .inl (k7, 59, .inl f_53))] := hD
  refine lv_iinc (v := 53) (lv' := [(1, .int 53), (0, .ref h0)]) hx hb dX12_dinner_21 hl (k := 0) rfl (by decide) (by decide) rfl (fun ls hl => ?_)
  refine lv_goto (tgt := 8) hx hb dX12_dinner_24 (by decide) ?_
  refine lv_iload_n hx hb dX12_dinner_8 rfl (lv_at hl 0 rfl) ?_
  refine lv_bipush (v := 59) hx hb dX12_dinner_9 (by decide) ?_
  refine lv_icmp_ge (tgt := 27) hx hb dX12_dinner_11 (by decide) (fun c9 => absurd c9 (by decide)) (fun _ => ?_)
  refine lv_aload_n hx hb dX12_dinner_14 rfl (lv_at hl 1 rfl) ?_
  refine va_get (D := (dC, dI)) (ci := 12) (v := .ref s7) (C := RX12) (T := TX12) (N := 43) hx hb hq inX12 hown hK hP 0 rfl rfl 7 (by decide) (hq _ qw_1167) (fun _ h9 => h9) rfl dX12_dinner_15 ?_
  refine lv_iload_n hx hb dX12_dinner_18 rfl (lv_at hl 0 rfl) ?_
  refine lv_iconst (v := 0) hx hb dX12_dinner_19 (by decide) ?_
  refine va_iast hx hb hK hP hD hS 2 1 rfl rfl (inr_ok rfl) dX12_dinner_20 (fun H locs hP hD hS => ?_)
  generalize upd f_53 (Int32.toNatClampNeg 53) 0 = f_54 at hP hD
  have hP : va_P (dC, dI) classes [(h0, .inr (12, [.ref s0, .int 0, .int 0, .ref s3, .ref s4, .ref s5, .ref s6, .ref s7, .int 0, .int 0, .int 0, .int 6, .int 0, .int 0, .int 0, .ref s15, .int 0, .ref s17, .int 0, .ref s19, .ref s20, .int (-1), .int 0, .int 0, .int 0, .int 0, .int 0, .ref s27, .int 0, .ref s29, .ref s30, .ref s31, .int 0, .int 0, .int 0, .ref s35, .ref s36, .ref s37, .long 0, .ref s39, .ref s40, .ref s41, .ref s42])), (s4, .inl (k4, 7, .inl g4)), (s7, .inl (k7, 59, .inl f_54))] H := hP
  have hD : va_D A [(h0, .inr (12, [.ref s0, .int 0, .int 0, .ref s3, .ref s4, .ref s5, .ref s6, .ref s7, .int 0, .int 0, .int 0, .int 6, .int 0, .int 0, .int 0, .ref s15, .int 0, .ref s17, .int 0, .ref s19, .ref s20, .int (-1), .int 0, .int 0, .int 0, .int 0, .int 0, .ref s27, .int 0, .ref s29, .ref s30, .ref s31, .int 0, .int 0, .int 0, .ref s35, .ref s36, .ref s37, .long 0, .ref s39, .ref s40, .ref s41, .ref s42])), (s4, .inl (k4, 7, .inl g4)), (s7, .inl (k7, 59, .inl f_54))] := hD
  refine lv_iinc (v := 54) (lv' := [(1, .int 54), (0, .ref h0)]) hx hb dX12_dinner_21 hl (k := 0) rfl (by decide) (by decide) rfl (fun ls hl => ?_)
  refine lv_goto (tgt := 8) hx hb dX12_dinner_24 (by decide) ?_
  refine lv_iload_n hx hb dX12_dinner_8 rfl (lv_at hl 0 rfl) ?_
  refine lv_bipush (v := 59) hx hb dX12_dinner_9 (by decide) ?_
  refine lv_icmp_ge (tgt := 27) hx hb dX12_dinner_11 (by decide) (fun c9 => absurd c9 (by decide)) (fun _ => ?_)
  refine lv_aload_n hx hb dX12_dinner_14 rfl (lv_at hl 1 rfl) ?_
  refine va_get (D := (dC, dI)) (ci := 12) (v := .ref s7) (C := RX12) (T := TX12) (N := 43) hx hb hq inX12 hown hK hP 0 rfl rfl 7 (by decide) (hq _ qw_1167) (fun _ h9 => h9) rfl dX12_dinner_15 ?_
  refine lv_iload_n hx hb dX12_dinner_18 rfl (lv_at hl 0 rfl) ?_
  refine lv_iconst (v := 0) hx hb dX12_dinner_19 (by decide) ?_
  refine va_iast hx hb hK hP hD hS 2 1 rfl rfl (inr_ok rfl) dX12_dinner_20 (fun H locs hP hD hS => ?_)
  generalize upd f_54 (Int32.toNatClampNeg 54) 0 = f_55 at hP hD
  have hP : va_P (dC, dI) classes [(h0, .inr (12, [.ref s0, .int 0, .int 0, .ref s3, .ref s4, .ref s5, .ref s6, .ref s7, .int 0, .int 0, .int 0, .int 6, .int 0, .int 0, .int 0, .ref s15, .int 0, .ref s17, .int 0, .ref s19, .ref s20, .int (-1), .int 0, .int 0, .int 0, .int 0, .int 0, .ref s27, .int 0, .ref s29, .ref s30, .ref s31, .int 0, .int 0, .int 0, .ref s35, .ref s36, .ref s37, .long 0, .ref s39, .ref s40, .ref s41, .ref s42])), (s4, .inl (k4, 7, .inl g4)), (s7, .inl (k7, 59, .inl f_55))] H := hP
  have hD : va_D A [(h0, .inr (12, [.ref s0, .int 0, .int 0, .ref s3, .ref s4, .ref s5, .ref s6, .ref s7, .int 0, .int 0, .int 0, .int 6, .int 0, .int 0, .int 0, .ref s15, .int 0, .ref s17, .int 0, .ref s19, .ref s20, .int (-1), .int 0, .int 0, .int 0, .int 0, .int 0, .ref s27, .int 0, .ref s29, .ref s30, .ref s31, .int 0, .int 0, .int 0, .ref s35, .ref s36, .ref s37, .long 0, .ref s39, .ref s40, .ref s41, .ref s42])), (s4, .inl (k4, 7, .inl g4)), (s7, .inl (k7, 59, .inl f_55))] := hD
  refine lv_iinc (v := 55) (lv' := [(1, .int 55), (0, .ref h0)]) hx hb dX12_dinner_21 hl (k := 0) rfl (by decide) (by decide) rfl (fun ls hl => ?_)
  refine lv_goto (tgt := 8) hx hb dX12_dinner_24 (by decide) ?_
  refine lv_iload_n hx hb dX12_dinner_8 rfl (lv_at hl 0 rfl) ?_
  refine lv_bipush (v := 59) hx hb dX12_dinner_9 (by decide) ?_
  refine lv_icmp_ge (tgt := 27) hx hb dX12_dinner_11 (by decide) (fun c9 => absurd c9 (by decide)) (fun _ => ?_)
  refine lv_aload_n hx hb dX12_dinner_14 rfl (lv_at hl 1 rfl) ?_
  refine va_get (D := (dC, dI)) (ci := 12) (v := .ref s7) (C := RX12) (T := TX12) (N := 43) hx hb hq inX12 hown hK hP 0 rfl rfl 7 (by decide) (hq _ qw_1167) (fun _ h9 => h9) rfl dX12_dinner_15 ?_
  refine lv_iload_n hx hb dX12_dinner_18 rfl (lv_at hl 0 rfl) ?_
  refine lv_iconst (v := 0) hx hb dX12_dinner_19 (by decide) ?_
  refine va_iast hx hb hK hP hD hS 2 1 rfl rfl (inr_ok rfl) dX12_dinner_20 (fun H locs hP hD hS => ?_)
  generalize upd f_55 (Int32.toNatClampNeg 55) 0 = f_56 at hP hD
  have hP : va_P (dC, dI) classes [(h0, .inr (12, [.ref s0, .int 0, .int 0, .ref s3, .ref s4, .ref s5, .ref s6, .ref s7, .int 0, .int 0, .int 0, .int 6, .int 0, .int 0, .int 0, .ref s15, .int 0, .ref s17, .int 0, .ref s19, .ref s20, .int (-1), .int 0, .int 0, .int 0, .int 0, .int 0, .ref s27, .int 0, .ref s29, .ref s30, .ref s31, .int 0, .int 0, .int 0, .ref s35, .ref s36, .ref s37, .long 0, .ref s39, .ref s40, .ref s41, .ref s42])), (s4, .inl (k4, 7, .inl g4)), (s7, .inl (k7, 59, .inl f_56))] H := hP
  have hD : va_D A [(h0, .inr (12, [.ref s0, .int 0, .int 0, .ref s3, .ref s4, .ref s5, .ref s6, .ref s7, .int 0, .int 0, .int 0, .int 6, .int 0, .int 0, .int 0, .ref s15, .int 0, .ref s17, .int 0, .ref s19, .ref s20, .int (-1), .int 0, .int 0, .int 0, .int 0, .int 0, .ref s27, .int 0, .ref s29, .ref s30, .ref s31, .int 0, .int 0, .int 0, .ref s35, .ref s36, .ref s37, .long 0, .ref s39, .ref s40, .ref s41, .ref s42])), (s4, .inl (k4, 7, .inl g4)), (s7, .inl (k7, 59, .inl f_56))] := hD
  refine lv_iinc (v := 56) (lv' := [(1, .int 56), (0, .ref h0)]) hx hb dX12_dinner_21 hl (k := 0) rfl (by decide) (by decide) rfl (fun ls hl => ?_)
  refine lv_goto (tgt := 8) hx hb dX12_dinner_24 (by decide) ?_
  refine lv_iload_n hx hb dX12_dinner_8 rfl (lv_at hl 0 rfl) ?_
  refine lv_bipush (v := 59) hx hb dX12_dinner_9 (by decide) ?_
  refine lv_icmp_ge (tgt := 27) hx hb dX12_dinner_11 (by decide) (fun c9 => absurd c9 (by decide)) (fun _ => ?_)
  refine lv_aload_n hx hb dX12_dinner_14 rfl (lv_at hl 1 rfl) ?_
  refine va_get (D := (dC, dI)) (ci := 12) (v := .ref s7) (C := RX12) (T := TX12) (N := 43) hx hb hq inX12 hown hK hP 0 rfl rfl 7 (by decide) (hq _ qw_1167) (fun _ h9 => h9) rfl dX12_dinner_15 ?_
  refine lv_iload_n hx hb dX12_dinner_18 rfl (lv_at hl 0 rfl) ?_
  refine lv_iconst (v := 0) hx hb dX12_dinner_19 (by decide) ?_
  refine va_iast hx hb hK hP hD hS 2 1 rfl rfl (inr_ok rfl) dX12_dinner_20 (fun H locs hP hD hS => ?_)
  generalize upd f_56 (Int32.toNatClampNeg 56) 0 = f_57 at hP hD
  have hP : va_P (dC, dI) classes [(h0, .inr (12, [.ref s0, .int 0, .int 0, .ref s3, .ref s4, .ref s5, .ref s6, .ref s7, .int 0, .int 0, .int 0, .int 6, .int 0, .int 0, .int 0, .ref s15, .int 0, .ref s17, .int 0, .ref s19, .ref s20, .int (-1), .int 0, .int 0, .int 0, .int 0, .int 0, .ref s27, .int 0, .ref s29, .ref s30, .ref s31, .int 0, .int 0, .int 0, .ref s35, .ref s36, .ref s37, .long 0, .ref s39, .ref s40, .ref s41, .ref s42])), (s4, .inl (k4, 7, .inl g4)), (s7, .inl (k7, 59, .inl f_57))] H := hP
  have hD : va_D A [(h0, .inr (12, [.ref s0, .int 0, .int 0, .ref s3, .ref s4, .ref s5, .ref s6, .ref s7, .int 0, .int 0, .int 0, .int 6, .int 0, .int 0, .int 0, .ref s15, .int 0, .ref s17, .int 0, .ref s19, .ref s20, .int (-1), .int 0, .int 0, .int 0, .int 0, .int 0, .ref s27, .int 0, .ref s29, .ref s30, .ref s31, .int 0, .int 0, .int 0, .ref s35, .ref s36, .ref s37, .long 0, .ref s39, .ref s40, .ref s41, .ref s42])), (s4, .inl (k4, 7, .inl g4)), (s7, .inl (k7, 59, .inl f_57))] := hD
  refine lv_iinc (v := 57) (lv' := [(1, .int 57), (0, .ref h0)]) hx hb dX12_dinner_21 hl (k := 0) rfl (by decide) (by decide) rfl (fun ls hl => ?_)
  refine lv_goto (tgt := 8) hx hb dX12_dinner_24 (by decide) ?_
  refine lv_iload_n hx hb dX12_dinner_8 rfl (lv_at hl 0 rfl) ?_
  refine lv_bipush (v := 59) hx hb dX12_dinner_9 (by decide) ?_
  refine lv_icmp_ge (tgt := 27) hx hb dX12_dinner_11 (by decide) (fun c9 => absurd c9 (by decide)) (fun _ => ?_)
  refine lv_aload_n hx hb dX12_dinner_14 rfl (lv_at hl 1 rfl) ?_
  refine va_get (D := (dC, dI)) (ci := 12) (v := .ref s7) (C := RX12) (T := TX12) (N := 43) hx hb hq inX12 hown hK hP 0 rfl rfl 7 (by decide) (hq _ qw_1167) (fun _ h9 => h9) rfl dX12_dinner_15 ?_
  refine lv_iload_n hx hb dX12_dinner_18 rfl (lv_at hl 0 rfl) ?_
  refine lv_iconst (v := 0) hx hb dX12_dinner_19 (by decide) ?_
  refine va_iast hx hb hK hP hD hS 2 1 rfl rfl (inr_ok rfl) dX12_dinner_20 (fun H locs hP hD hS => ?_)
  generalize upd f_57 (Int32.toNatClampNeg 57) 0 = f_58 at hP hD
  have hP : va_P (dC, dI) classes [(h0, .inr (12, [.ref s0, .int 0, .int 0, .ref s3, .ref s4, .ref s5, .ref s6, .ref s7, .int 0, .int 0, .int 0, .int 6, .int 0, .int 0, .int 0, .ref s15, .int 0, .ref s17, .int 0, .ref s19, .ref s20, .int (-1), .int 0, .int 0, .int 0, .int 0, .int 0, .ref s27, .int 0, .ref s29, .ref s30, .ref s31, .int 0, .int 0, .int 0, .ref s35, .ref s36, .ref s37, .long 0, .ref s39, .ref s40, .ref s41, .ref s42])), (s4, .inl (k4, 7, .inl g4)), (s7, .inl (k7, 59, .inl f_58))] H := hP
  have hD : va_D A [(h0, .inr (12, [.ref s0, .int 0, .int 0, .ref s3, .ref s4, .ref s5, .ref s6, .ref s7, .int 0, .int 0, .int 0, .int 6, .int 0, .int 0, .int 0, .ref s15, .int 0, .ref s17, .int 0, .ref s19, .ref s20, .int (-1), .int 0, .int 0, .int 0, .int 0, .int 0, .ref s27, .int 0, .ref s29, .ref s30, .ref s31, .int 0, .int 0, .int 0, .ref s35, .ref s36, .ref s37, .long 0, .ref s39, .ref s40, .ref s41, .ref s42])), (s4, .inl (k4, 7, .inl g4)), (s7, .inl (k7, 59, .inl f_58))] := hD
  refine lv_iinc (v := 58) (lv' := [(1, .int 58), (0, .ref h0)]) hx hb dX12_dinner_21 hl (k := 0) rfl (by decide) (by decide) rfl (fun ls hl => ?_)
  refine lv_goto (tgt := 8) hx hb dX12_dinner_24 (by decide) ?_
  refine lv_iload_n hx hb dX12_dinner_8 rfl (lv_at hl 0 rfl) ?_
  refine lv_bipush (v := 59) hx hb dX12_dinner_9 (by decide) ?_
  refine lv_icmp_ge (tgt := 27) hx hb dX12_dinner_11 (by decide) (fun c9 => absurd c9 (by decide)) (fun _ => ?_)
  refine lv_aload_n hx hb dX12_dinner_14 rfl (lv_at hl 1 rfl) ?_
  refine va_get (D := (dC, dI)) (ci := 12) (v := .ref s7) (C := RX12) (T := TX12) (N := 43) hx hb hq inX12 hown hK hP 0 rfl rfl 7 (by decide) (hq _ qw_1167) (fun _ h9 => h9) rfl dX12_dinner_15 ?_
  refine lv_iload_n hx hb dX12_dinner_18 rfl (lv_at hl 0 rfl) ?_
  refine lv_iconst (v := 0) hx hb dX12_dinner_19 (by decide) ?_
  refine va_iast hx hb hK hP hD hS 2 1 rfl rfl (inr_ok rfl) dX12_dinner_20 (fun H locs hP hD hS => ?_)
  generalize upd f_58 (Int32.toNatClampNeg 58) 0 = f_59 at hP hD
  have hP : va_P (dC, dI) classes [(h0, .inr (12, [.ref s0, .int 0, .int 0, .ref s3, .ref s4, .ref s5, .ref s6, .ref s7, .int 0, .int 0, .int 0, .int 6, .int 0, .int 0, .int 0, .ref s15, .int 0, .ref s17, .int 0, .ref s19, .ref s20, .int (-1), .int 0, .int 0, .int 0, .int 0, .int 0, .ref s27, .int 0, .ref s29, .ref s30, .ref s31, .int 0, .int 0, .int 0, .ref s35, .ref s36, .ref s37, .long 0, .ref s39, .ref s40, .ref s41, .ref s42])), (s4, .inl (k4, 7, .inl g4)), (s7, .inl (k7, 59, .inl f_59))] H := hP
  have hD : va_D A [(h0, .inr (12, [.ref s0, .int 0, .int 0, .ref s3, .ref s4, .ref s5, .ref s6, .ref s7, .int 0, .int 0, .int 0, .int 6, .int 0, .int 0, .int 0, .ref s15, .int 0, .ref s17, .int 0, .ref s19, .ref s20, .int (-1), .int 0, .int 0, .int 0, .int 0, .int 0, .ref s27, .int 0, .ref s29, .ref s30, .ref s31, .int 0, .int 0, .int 0, .ref s35, .ref s36, .ref s37, .long 0, .ref s39, .ref s40, .ref s41, .ref s42])), (s4, .inl (k4, 7, .inl g4)), (s7, .inl (k7, 59, .inl f_59))] := hD
  refine lv_iinc (v := 59) (lv' := [(1, .int 59), (0, .ref h0)]) hx hb dX12_dinner_21 hl (k := 0) rfl (by decide) (by decide) rfl (fun ls hl => ?_)
  refine lv_goto (tgt := 8) hx hb dX12_dinner_24 (by decide) ?_
  refine lv_iload_n hx hb dX12_dinner_8 rfl (lv_at hl 0 rfl) ?_
  refine lv_bipush (v := 59) hx hb dX12_dinner_9 (by decide) ?_
  refine lv_icmp_ge (tgt := 27) hx hb dX12_dinner_11 (by decide) (fun _ => ?_) (fun c9 => absurd c9 (by decide))
  refine lv_aload_n hx hb dX12_dinner_27 rfl (lv_at hl 1 rfl) ?_
  have hPc := hP.sub (ws' := [(h0, .inr (12, [.ref s0, .int 0, .int 0, .ref s3, .ref s4, .ref s5, .ref s6, .ref s7, .int 0, .int 0, .int 0, .int 6, .int 0, .int 0, .int 0, .ref s15, .int 0, .ref s17, .int 0, .ref s19, .ref s20, .int (-1), .int 0, .int 0, .int 0, .int 0, .int 0, .ref s27, .int 0, .ref s29, .ref s30, .ref s31, .int 0, .int 0, .int 0, .ref s35, .ref s36, .ref s37, .long 0, .ref s39, .ref s40, .ref s41, .ref s42])), (s4, .inl (k4, 7, .inl g4))]) [0, 1] rfl
  have hDc := hD.sub (ws' := [(h0, .inr (12, [.ref s0, .int 0, .int 0, .ref s3, .ref s4, .ref s5, .ref s6, .ref s7, .int 0, .int 0, .int 0, .int 6, .int 0, .int 0, .int 0, .ref s15, .int 0, .ref s17, .int 0, .ref s19, .ref s20, .int (-1), .int 0, .int 0, .int 0, .int 0, .int 0, .ref s27, .int 0, .ref s29, .ref s30, .ref s31, .int 0, .int 0, .int 0, .ref s35, .ref s36, .ref s37, .long 0, .ref s39, .ref s40, .ref s41, .ref s42])), (s4, .inl (k4, 7, .inl g4))]) [0, 1] (by decide) rfl
  have hKc := hK.sub (tys' := [(k4, .int)]) [0] rfl
  have hFc := va_free (wc := [(h0, .inr (12, [.ref s0, .int 0, .int 0, .ref s3, .ref s4, .ref s5, .ref s6, .ref s7, .int 0, .int 0, .int 0, .int 6, .int 0, .int 0, .int 0, .ref s15, .int 0, .ref s17, .int 0, .ref s19, .ref s20, .int (-1), .int 0, .int 0, .int 0, .int 0, .int 0, .ref s27, .int 0, .ref s29, .ref s30, .ref s31, .int 0, .int 0, .int 0, .ref s35, .ref s36, .ref s37, .long 0, .ref s39, .ref s40, .ref s41, .ref s42])), (s4, .inl (k4, 7, .inl g4))]) hD hS hA [0, 1] rfl
  refine va_calli (va_runV (As := []) (rest := []) ⟨hx, hb, hml, hown, hq⟩ (c_M_readsAll_6 l dC dI _ h0 s0 s3 s4 s5 s6 s7 s15 s17 s19 s20 s27 s29 s30 s31 s35 s36 s37 s39 s40 s41 s42 k4 g4 ) (cwV 0 hq (gV qw_1307 qw_1309 qw_40 qw_131 qw_1310) rfl rfl rfl (by decide +kernel) ⟨Nat.le_of_ble_eq_true rfl, Nat.le_of_ble_eq_true rfl⟩) ⟨fun a U g mk q => by obtain ⟨q0, q1, qP, qK, qD, qE⟩ := q; exact ⟨q0, q1, qP, va_K.moved (u := U) (U := U.calling g mk a) (Vm.Alike.refl U.vm) qK, qD, xE.same rfl qE⟩, va_recv hKc hPc (ci := 12) (q0 := 0) rfl rfl, fun U hU hW => ⟨rfl, by rw [hU], by rw [hU]; exact hPc, va_K.moved hW.alike hKc, hDc.weaken (fun _ _ _ _ => trivial), xE.warm hW hE⟩⟩ rfl rfl hl.1 rfl (lv_room (Nat.le_of_ble_eq_true rfl)) dX12_dinner_28 ⟨Nat.le_of_ble_eq_true rfl, Nat.le_of_ble_eq_true rfl⟩) hS (fun q _ h => hFc q h) hFc (fun r_60 u t H1 locs ht hvm hw hB hz1 hk1 hS => ?_)
  obtain ⟨f_61, hP1, hK1, hD1⟩ := hB
  rw [ht] at hP1
  have hK1 := va_K.moved hvm.symm hK1
  obtain ⟨hP, hD⟩ := va_join (wr := [(s7, .inl (k7, 59, .inl f_59))]) (w1 := [(h0, .inr (12, [.ref s0, .int 0, .int 0, .ref s3, .ref s4, .ref s5, .ref s6, .ref s7, .int 0, .int 1, .int 0, .int 6, .int 0, .int 0, .int 0, .ref s15, .int 0, .ref s17, .int 0, .ref s19, .ref s20, .int (-1), .int 0, .int 0, .int 0, .int 0, .int 0, .ref s27, .int 0, .ref s29, .ref s30, .ref s31, .int 0, .int 0, .int 0, .ref s35, .ref s36, .ref s37, .long 0, .ref s39, .ref s40, .ref s41, .ref s42])), (s4, .inl (k4, 7, .inl f_61))]) hP hD [0, 1] [2] rfl rfl (by decide) (by decide) hk1 hFc hP1 hD1
  generalize H1 = H at hP hS ⊢
  have hP : va_P (dC, dI) classes [(s7, .inl (k7, 59, .inl f_59)), (h0, .inr (12, [.ref s0, .int 0, .int 0, .ref s3, .ref s4, .ref s5, .ref s6, .ref s7, .int 0, .int 1, .int 0, .int 6, .int 0, .int 0, .int 0, .ref s15, .int 0, .ref s17, .int 0, .ref s19, .ref s20, .int (-1), .int 0, .int 0, .int 0, .int 0, .int 0, .ref s27, .int 0, .ref s29, .ref s30, .ref s31, .int 0, .int 0, .int 0, .ref s35, .ref s36, .ref s37, .long 0, .ref s39, .ref s40, .ref s41, .ref s42])), (s4, .inl (k4, 7, .inl f_61))] H := hP
  have hD : va_D A [(s7, .inl (k7, 59, .inl f_59)), (h0, .inr (12, [.ref s0, .int 0, .int 0, .ref s3, .ref s4, .ref s5, .ref s6, .ref s7, .int 0, .int 1, .int 0, .int 6, .int 0, .int 0, .int 0, .ref s15, .int 0, .ref s17, .int 0, .ref s19, .ref s20, .int (-1), .int 0, .int 0, .int 0, .int 0, .int 0, .ref s27, .int 0, .ref s29, .ref s30, .ref s31, .int 0, .int 0, .int 0, .ref s35, .ref s36, .ref s37, .long 0, .ref s39, .ref s40, .ref s41, .ref s42])), (s4, .inl (k4, 7, .inl f_61))] := hD
  obtain rfl : r_60 = 0 := hw
  refine lv_if_ne (tgt := 42) hx hb dX12_dinner_31 (by decide) (fun c9 => absurd c9 (by decide)) (fun _ => ?_)
  refine lv_bipush (v := (-2)) hx hb dX12_dinner_34 (by decide) ?_
  refine lv_aload_n hx hb dX12_dinner_36 rfl (lv_at hl 1 rfl) ?_
  refine va_get (D := (dC, dI)) (ci := 12) (v := .int 1) (C := RX12) (T := TX12) (N := 43) hx hb hq inX12 hown hK hP 1 rfl rfl 9 (by decide) (hq _ qw_1169) (fun _ h9 => h9) rfl dX12_dinner_37 ?_
  refine lv_isub hx hb dX12_dinner_40 ?_
  refine lv_topi (fun y_62 ey_62 => ?_)
  obtain rfl : y_62 = (-3) := ey_62.trans (by decide)
  refine W.widen (k := 0) (n := 0) (Nat.le_of_ble_eq_true rfl) (Nat.le_of_ble_eq_true rfl) ?_
  exact W.iret (v := (-3)) hx hb hr (fun t ht hW => ⟨⟨(-3), (), rfl, rfl, trivial⟩, hS.F ht⟩) hS.2.2 dX12_dinner_41

set_option maxHeartbeats 4000000 in
set_option maxRecDepth 100000 in
/-- c_M_rule -/
theorem c_M_rule (l : Launch) (dC : Nat → ClassId) (dI : Nat → Nat → Nat) (sz : Nat) (h0 : Nat) (s0 : Nat) (s3 : Nat) (s4 : Nat) (s5 : Nat) (s6 : Nat) (s7 : Nat) (s15 : Nat) (s17 : Nat) (s19 : Nat) (s20 : Nat) (s27 : Nat) (s29 : Nat) (s30 : Nat) (s31 : Nat) (s35 : Nat) (s36 : Nat) (s37 : Nat) (s39 : Nat) (s40 : Nat) (s41 : Nat) (s42 : Nat) (k4 : ClassId) (g4 : Nat → Int32) (k6 : ClassId) (g6 : Nat → Int32) : Met l yX12_rule (.code yX12_rule cX12_rule 1 (some .int) :: wsA) ({ frames := 4, cells := 0, slots := 0, locals := 89 }) (va_Pc [.ref h0] (fun U => U.heap.size = sz ∧ va_P (dC, dI) classes [(h0, .inr (12, [.ref s0, .int 0, .int 0, .ref s3, .ref s4, .ref s5, .ref s6, .ref s7, .int 0, .int 0, .int 0, .int 0, .int 0, .int 0, .int 0, .ref s15, .int 0, .ref s17, .int 0, .ref s19, .ref s20, .int (-1), .int 0, .int 0, .int 0, .int 0, .int 0, .ref s27, .int 0, .ref s29, .ref s30, .ref s31, .int 0, .int 0, .int 0, .ref s35, .ref s36, .ref s37, .long 0, .ref s39, .ref s40, .ref s41, .ref s42])), (s4, .inl (k4, 7, .inl g4)), (s6, .inl (k6, 6, .inl g6))] U.heap ∧ va_K (dC, dI) classes [(k4, .int), (k6, .int)] U ∧ va_D (fun _ => True) [(h0, .inr (12, [.ref s0, .int 0, .int 0, .ref s3, .ref s4, .ref s5, .ref s6, .ref s7, .int 0, .int 0, .int 0, .int 0, .int 0, .int 0, .int 0, .ref s15, .int 0, .ref s17, .int 0, .ref s19, .ref s20, .int (-1), .int 0, .int 0, .int 0, .int 0, .int 0, .ref s27, .int 0, .ref s29, .ref s30, .ref s31, .int 0, .int 0, .int 0, .ref s35, .ref s36, .ref s37, .long 0, .ref s39, .ref s40, .ref s41, .ref s42])), (s4, .inl (k4, 7, .inl g4)), (s6, .inl (k6, 6, .inl g6))] ∧ xE U)) (va_Qi (fun (r : Int32) (_ : Unit) => r = (-3)) (fun _ _ => True) (va_A [(h0, .inr (12, [.ref s0, .int 0, .int 0, .ref s3, .ref s4, .ref s5, .ref s6, .ref s7, .int 0, .int 0, .int 0, .int 0, .int 0, .int 0, .int 0, .ref s15, .int 0, .ref s17, .int 0, .ref s19, .ref s20, .int (-1), .int 0, .int 0, .int 0, .int 0, .int 0, .ref s27, .int 0, .ref s29, .ref s30, .ref s31, .int 0, .int 0, .int 0, .ref s35, .ref s36, .ref s37, .long 0, .ref s39, .ref s40, .ref s41, .ref s42])), (s4, .inl (k4, 7, .inl g4)), (s6, .inl (k6, 6, .inl g6))] sz)) 0 0 (va_A [(h0, .inr (12, [.ref s0, .int 0, .int 0, .ref s3, .ref s4, .ref s5, .ref s6, .ref s7, .int 0, .int 0, .int 0, .int 0, .int 0, .int 0, .int 0, .ref s15, .int 0, .ref s17, .int 0, .ref s19, .ref s20, .int (-1), .int 0, .int 0, .int 0, .int 0, .int 0, .ref s27, .int 0, .ref s29, .ref s30, .ref s31, .int 0, .int 0, .int 0, .ref s35, .ref s36, .ref s37, .long 0, .ref s39, .ref s40, .ref s41, .ref s42])), (s4, .inl (k4, 7, .inl g4)), (s6, .inl (k6, 6, .inl g6))] sz) := by
  refine Met.ofW (cc := cX12_rule) (maxL := 1) (ret := (some .int)) (by decide) rfl ?_
  intro p e s m args below meth c s₁ B hml hv
  obtain ⟨rfl, hsz, hP, hK, hD0, hE⟩ := hv
  have hx := B.exec
  have hb := B.bytes
  have hr := B.returns
  have hts := atoms_spec (ws := .code yX12_rule cX12_rule 1 (some .int) :: wsA) B.pre
  have hq : ∀ w ∈ wsA, w.before _ s = true := fun w h => hts w (List.mem_cons_of_mem _ h)
  have hown : s.vm.findClass RX12 = some m.cls := findClass_of_methodNamed B.named
  have hlocks := B.notSynchronized
  subst hsz
  have hD := hD0.self (sz := s.heap.size)
  generalize hAe : va_A [(h0, .inr (12, [.ref s0, .int 0, .int 0, .ref s3, .ref s4, .ref s5, .ref s6, .ref s7, .int 0, .int 0, .int 0, .int 0, .int 0, .int 0, .int 0, .ref s15, .int 0, .ref s17, .int 0, .ref s19, .ref s20, .int (-1), .int 0, .int 0, .int 0, .int 0, .int 0, .ref s27, .int 0, .ref s29, .ref s30, .ref s31, .int 0, .int 0, .int 0, .ref s35, .ref s36, .ref s37, .long 0, .ref s39, .ref s40, .ref s41, .ref s42])), (s4, .inl (k4, 7, .inl g4)), (s6, .inl (k6, 6, .inl g6))] s.heap.size = A at hD ⊢
  have hA : ∀ q : Nat, s.heap.size ≤ q → A q := fun q h => by rw [← hAe]; exact Or.inr h
  have hS : va_S A s.heap s.heap [] := va_S.rf
  have hl := lv_entry ([.ref h0]) (n := 1) (Nat.le_of_ble_eq_true rfl)
  rw [lg_entry_eq]
  generalize (lg_sl ([.ref h0]) ++ List.replicate (1 - (lg_sl ([.ref h0])).length) Slot.unset).toArray = ls at hl ⊢
  have hl : lv_has ls 1 [(0, .ref h0)] := hl
  refine lv_aload_n hx hb dX12_rule_0 rfl (lv_at hl 0 rfl) ?_
  refine va_get (D := (dC, dI)) (ci := 12) (v := .int 0) (C := RX12) (T := TX12) (N := 43) hx hb hq inX12 hown hK hP 0 rfl rfl 2 (by decide) (hq _ qw_1162) (fun _ h9 => h9) rfl dX12_rule_1 ?_
  refine lv_bipush (v := 6) hx hb dX12_rule_4 (by decide) ?_
  refine lv_icmp_ne (tgt := 11) hx hb dX12_rule_6 (by decide) (fun _ => ?_) (fun c9 => absurd c9 (by decide))
  refine lv_aload_n hx hb dX12_rule_11 rfl (lv_at hl 0 rfl) ?_
  refine lv_aload_n hx hb dX12_rule_12 rfl (lv_at hl 0 rfl) ?_
  refine va_get (D := (dC, dI)) (ci := 12) (v := .int 0) (C := RX12) (T := TX12) (N := 43) hx hb hq inX12 hown hK hP 0 rfl rfl 2 (by decide) (hq _ qw_1162) (fun _ h9 => h9) rfl dX12_rule_13 ?_
  refine va_put (D := (dC, dI)) (ci := 12) (v := .int 0) (ty := .int) (C := RX12) (T := TX12) (N := 43) hx hb hq inX12 tyX12 tyX12_ok nmX12 hown hK hP hD hS 0 rfl rfl 11 (by decide) (hq _ qw_1171) (fun _ h9 => h9) rfl (by decide +kernel) rfl rfl (Nat.le_of_ble_eq_true rfl) dX12_rule_16 (fun H locs hP hD hS => ?_)
  have hP : va_P (dC, dI) classes [(h0, .inr (12, [.ref s0, .int 0, .int 0, .ref s3, .ref s4, .ref s5, .ref s6, .ref s7, .int 0, .int 0, .int 0, .int 0, .int 0, .int 0, .int 0, .ref s15, .int 0, .ref s17, .int 0, .ref s19, .ref s20, .int (-1), .int 0, .int 0, .int 0, .int 0, .int 0, .ref s27, .int 0, .ref s29, .ref s30, .ref s31, .int 0, .int 0, .int 0, .ref s35, .ref s36, .ref s37, .long 0, .ref s39, .ref s40, .ref s41, .ref s42])), (s4, .inl (k4, 7, .inl g4)), (s6, .inl (k6, 6, .inl g6))] H := hP
  have hD : va_D A [(h0, .inr (12, [.ref s0, .int 0, .int 0, .ref s3, .ref s4, .ref s5, .ref s6, .ref s7, .int 0, .int 0, .int 0, .int 0, .int 0, .int 0, .int 0, .ref s15, .int 0, .ref s17, .int 0, .ref s19, .ref s20, .int (-1), .int 0, .int 0, .int 0, .int 0, .int 0, .ref s27, .int 0, .ref s29, .ref s30, .ref s31, .int 0, .int 0, .int 0, .ref s35, .ref s36, .ref s37, .long 0, .ref s39, .ref s40, .ref s41, .ref s42])), (s4, .inl (k4, 7, .inl g4)), (s6, .inl (k6, 6, .inl g6))] := hD
  refine lv_aload_n hx hb dX12_rule_19 rfl (lv_at hl 0 rfl) ?_
  refine va_get (D := (dC, dI)) (ci := 12) (v := .ref s6) (C := RX12) (T := TX12) (N := 43) hx hb hq inX12 hown hK hP 0 rfl rfl 6 (by decide) (hq _ qw_1166) (fun _ h9 => h9) rfl dX12_rule_20 ?_
  refine lv_aload_n hx hb dX12_rule_23 rfl (lv_at hl 0 rfl) ?_
  refine va_get (D := (dC, dI)) (ci := 12) (v := .int 0) (C := RX12) (T := TX12) (N := 43) hx hb hq inX12 hown hK hP 0 rfl rfl 11 (by decide) (hq _ qw_1171) (fun _ h9 => h9) rfl dX12_rule_24 ?_
  refine lv_iconst (v := 0) hx hb dX12_rule_27 (by decide) ?_
  refine va_iast hx hb hK hP hD hS 2 1 rfl rfl (inr_ok rfl) dX12_rule_28 (fun H locs hP hD hS => ?_)
  generalize upd g6 (Int32.toNatClampNeg 0) 0 = f_1 at hP hD
  have hP : va_P (dC, dI) classes [(h0, .inr (12, [.ref s0, .int 0, .int 0, .ref s3, .ref s4, .ref s5, .ref s6, .ref s7, .int 0, .int 0, .int 0, .int 0, .int 0, .int 0, .int 0, .ref s15, .int 0, .ref s17, .int 0, .ref s19, .ref s20, .int (-1), .int 0, .int 0, .int 0, .int 0, .int 0, .ref s27, .int 0, .ref s29, .ref s30, .ref s31, .int 0, .int 0, .int 0, .ref s35, .ref s36, .ref s37, .long 0, .ref s39, .ref s40, .ref s41, .ref s42])), (s4, .inl (k4, 7, .inl g4)), (s6, .inl (k6, 6, .inl f_1))] H := hP
  have hD : va_D A [(h0, .inr (12, [.ref s0, .int 0, .int 0, .ref s3, .ref s4, .ref s5, .ref s6, .ref s7, .int 0, .int 0, .int 0, .int 0, .int 0, .int 0, .int 0, .ref s15, .int 0, .ref s17, .int 0, .ref s19, .ref s20, .int (-1), .int 0, .int 0, .int 0, .int 0, .int 0, .ref s27, .int 0, .ref s29, .ref s30, .ref s31, .int 0, .int 0, .int 0, .ref s35, .ref s36, .ref s37, .long 0, .ref s39, .ref s40, .ref s41, .ref s42])), (s4, .inl (k4, 7, .inl g4)), (s6, .inl (k6, 6, .inl f_1))] := hD
  refine lv_aload_n hx hb dX12_rule_29 rfl (lv_at hl 0 rfl) ?_
  have hPc := hP.sub (ws' := [(h0, .inr (12, [.ref s0, .int 0, .int 0, .ref s3, .ref s4, .ref s5, .ref s6, .ref s7, .int 0, .int 0, .int 0, .int 0, .int 0, .int 0, .int 0, .ref s15, .int 0, .ref s17, .int 0, .ref s19, .ref s20, .int (-1), .int 0, .int 0, .int 0, .int 0, .int 0, .ref s27, .int 0, .ref s29, .ref s30, .ref s31, .int 0, .int 0, .int 0, .ref s35, .ref s36, .ref s37, .long 0, .ref s39, .ref s40, .ref s41, .ref s42])), (s4, .inl (k4, 7, .inl g4))]) [0, 1] rfl
  have hDc := hD.sub (ws' := [(h0, .inr (12, [.ref s0, .int 0, .int 0, .ref s3, .ref s4, .ref s5, .ref s6, .ref s7, .int 0, .int 0, .int 0, .int 0, .int 0, .int 0, .int 0, .ref s15, .int 0, .ref s17, .int 0, .ref s19, .ref s20, .int (-1), .int 0, .int 0, .int 0, .int 0, .int 0, .ref s27, .int 0, .ref s29, .ref s30, .ref s31, .int 0, .int 0, .int 0, .ref s35, .ref s36, .ref s37, .long 0, .ref s39, .ref s40, .ref s41, .ref s42])), (s4, .inl (k4, 7, .inl g4))]) [0, 1] (by decide) rfl
  have hKc := hK.sub (tys' := [(k4, .int)]) [0] rfl
  have hFc := va_free (wc := [(h0, .inr (12, [.ref s0, .int 0, .int 0, .ref s3, .ref s4, .ref s5, .ref s6, .ref s7, .int 0, .int 0, .int 0, .int 0, .int 0, .int 0, .int 0, .ref s15, .int 0, .ref s17, .int 0, .ref s19, .ref s20, .int (-1), .int 0, .int 0, .int 0, .int 0, .int 0, .ref s27, .int 0, .ref s29, .ref s30, .ref s31, .int 0, .int 0, .int 0, .ref s35, .ref s36, .ref s37, .long 0, .ref s39, .ref s40, .ref s41, .ref s42])), (s4, .inl (k4, 7, .inl g4))]) hD hS hA [0, 1] rfl
  refine va_calli (va_runV (As := []) (rest := []) ⟨hx, hb, hml, hown, hq⟩ (c_M_readsAll_0 l dC dI _ h0 s0 s3 s4 s5 s6 s7 s15 s17 s19 s20 s27 s29 s30 s31 s35 s36 s37 s39 s40 s41 s42 k4 g4 ) (cwV 0 hq (gV qw_1307 qw_1309 qw_40 qw_131 qw_1310) rfl rfl rfl (by decide +kernel) ⟨Nat.le_of_ble_eq_true rfl, Nat.le_of_ble_eq_true rfl⟩) ⟨fun a U g mk q => by obtain ⟨q0, q1, qP, qK, qD, qE⟩ := q; exact ⟨q0, q1, qP, va_K.moved (u := U) (U := U.calling g mk a) (Vm.Alike.refl U.vm) qK, qD, xE.same rfl qE⟩, va_recv hKc hPc (ci := 12) (q0 := 0) rfl rfl, fun U hU hW => ⟨rfl, by rw [hU], by rw [hU]; exact hPc, va_K.moved hW.alike hKc, hDc.weaken (fun _ _ _ _ => trivial), xE.warm hW hE⟩⟩ rfl rfl hl.1 rfl (lv_room (Nat.le_of_ble_eq_true rfl)) dX12_rule_30 ⟨Nat.le_of_ble_eq_true rfl, Nat.le_of_ble_eq_true rfl⟩) hS (fun q _ h => hFc q h) hFc (fun r_2 u t H1 locs ht hvm hw hB hz1 hk1 hS => ?_)
  obtain ⟨f_3, hP1, hK1, hD1⟩ := hB
  rw [ht] at hP1
  have hK1 := va_K.moved hvm.symm hK1
  obtain ⟨hP, hD⟩ := va_join (wr := [(s6, .inl (k6, 6, .inl f_1))]) (w1 := [(h0, .inr (12, [.ref s0, .int 0, .int 0, .ref s3, .ref s4, .ref s5, .ref s6, .ref s7, .int 0, .int 1, .int 0, .int 0, .int 0, .int 0, .int 0, .ref s15, .int 0, .ref s17, .int 0, .ref s19, .ref s20, .int (-1), .int 0, .int 0, .int 0, .int 0, .int 0, .ref s27, .int 0, .ref s29, .ref s30, .ref s31, .int 0, .int 0, .int 0, .ref s35, .ref s36, .ref s37, .long 0, .ref s39, .ref s40, .ref s41, .ref s42])), (s4, .inl (k4, 7, .inl f_3))]) hP hD [0, 1] [2] rfl rfl (by decide) (by decide) hk1 hFc hP1 hD1
  generalize H1 = H at hP hS ⊢
  have hP : va_P (dC, dI) classes [(s6, .inl (k6, 6, .inl f_1)), (h0, .inr (12, [.ref s0, .int 0, .int 0, .ref s3, .ref s4, .ref s5, .ref s6, .ref s7, .int 0, .int 1, .int 0, .int 0, .int 0, .int 0, .int 0, .ref s15, .int 0, .ref s17, .int 0, .ref s19, .ref s20, .int (-1), .int 0, .int 0, .int 0, .int 0, .int 0, .ref s27, .int 0, .ref s29, .ref s30, .ref s31, .int 0, .int 0, .int 0, .ref s35, .ref s36, .ref s37, .long 0, .ref s39, .ref s40, .ref s41, .ref s42])), (s4, .inl (k4, 7, .inl f_3))] H := hP
  have hD : va_D A [(s6, .inl (k6, 6, .inl f_1)), (h0, .inr (12, [.ref s0, .int 0, .int 0, .ref s3, .ref s4, .ref s5, .ref s6, .ref s7, .int 0, .int 1, .int 0, .int 0, .int 0, .int 0, .int 0, .ref s15, .int 0, .ref s17, .int 0, .ref s19, .ref s20, .int (-1), .int 0, .int 0, .int 0, .int 0, .int 0, .ref s27, .int 0, .ref s29, .ref s30, .ref s31, .int 0, .int 0, .int 0, .ref s35, .ref s36, .ref s37, .long 0, .ref s39, .ref s40, .ref s41, .ref s42])), (s4, .inl (k4, 7, .inl f_3))] := hD
  obtain rfl : r_2 = 0 := hw
  refine lv_if_ne (tgt := 44) hx hb dX12_rule_33 (by decide) (fun c9 => absurd c9 (by decide)) (fun _ => ?_)
  refine lv_bipush (v := (-2)) hx hb dX12_rule_36 (by decide) ?_
  refine lv_aload_n hx hb dX12_rule_38 rfl (lv_at hl 0 rfl) ?_
  refine va_get (D := (dC, dI)) (ci := 12) (v := .int 1) (C := RX12) (T := TX12) (N := 43) hx hb hq inX12 hown hK hP 1 rfl rfl 9 (by decide) (hq _ qw_1169) (fun _ h9 => h9) rfl dX12_rule_39 ?_
  refine lv_isub hx hb dX12_rule_42 ?_
  refine lv_topi (fun y_4 ey_4 => ?_)
  obtain rfl : y_4 = (-3) := ey_4.trans (by decide)
  refine W.widen (k := 0) (n := 0) (Nat.le_of_ble_eq_true rfl) (Nat.le_of_ble_eq_true rfl) ?_
  exact W.iret (v := (-3)) hx hb hr (fun t ht hW => ⟨⟨(-3), (), rfl, rfl, trivial⟩, hS.F ht⟩) hS.2.2 dX12_rule_43
