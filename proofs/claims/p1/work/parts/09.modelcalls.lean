theorem qw_72 : (.selects RX12 yX12_isRule yX12_isRule : Cond) ∈ wsA := mA (i := 72) (by decide +kernel) rfl
theorem qw_73 : (.selects RX12 yX12_isDish yX12_isDish : Cond) ∈ wsA := mA (i := 73) (by decide +kernel) rfl
theorem qw_74 : (.selects RX12 yX12_isGuest yX12_isGuest : Cond) ∈ wsA := mA (i := 74) (by decide +kernel) rfl
theorem qw_75 : (.selects RX12 yX12_isSecret yX12_isSecret : Cond) ∈ wsA := mA (i := 75) (by decide +kernel) rfl
theorem qw_76 : (.selects RX12 yX12_isDinner yX12_isDinner : Cond) ∈ wsA := mA (i := 76) (by decide +kernel) rfl
theorem qw_84 : (.selects RX12 yX12_onTable yX12_onTable : Cond) ∈ wsA := mA (i := 84) (by decide +kernel) rfl
theorem qw_87 : (.selects RX12 yX12_sitting yX12_sitting : Cond) ∈ wsA := mA (i := 87) (by decide +kernel) rfl
theorem qw_104 : (.selects RX12 yX12_knownMany yX12_knownMany : Cond) ∈ wsA := mA (i := 104) (by decide +kernel) rfl
theorem qw_131 : (.initialized RX12 : Cond) ∈ wsA := mA (i := 131) (by decide +kernel) rfl
theorem qw_1161 : (.fieldLink RX12 80 "SpokenBiteModel" "taped" "I" : Cond) ∈ wsA := mA (i := 1161) (by decide +kernel) rfl
theorem qw_1162 : (.fieldLink RX12 253 "SpokenBiteModel" "rules" "I" : Cond) ∈ wsA := mA (i := 1162) (by decide +kernel) rfl
theorem qw_1182 : (.fieldLink RX12 456 "SpokenBiteModel" "x" "I" : Cond) ∈ wsA := mA (i := 1182) (by decide +kernel) rfl
theorem qw_1188 : (.fieldLink RX12 262 "SpokenBiteModel" "undone" "I" : Cond) ∈ wsA := mA (i := 1188) (by decide +kernel) rfl
theorem qw_1364 : (.methodLink RX12 118 yX12_in : Cond) ∈ wsA := mA (i := 1364) (by decide +kernel) rfl
theorem qw_1365 : (.static yX12_in : Cond) ∈ wsA := mA (i := 1365) (by decide +kernel) rfl
theorem qw_1366 : (.code yX12_in cX12_in 6 (some .boolean) : Cond) ∈ wsA := mA (i := 1366) (by decide +kernel) rfl
theorem qw_1468 : (.methodLink RX12 294 yX12_isRule : Cond) ∈ wsA := mA (i := 1468) (by decide +kernel) rfl
theorem qw_1470 : (.instanceMethod yX12_isRule : Cond) ∈ wsA := mA (i := 1470) (by decide +kernel) rfl
theorem qw_1471 : (.code yX12_isRule cX12_isRule 2 (some .boolean) : Cond) ∈ wsA := mA (i := 1471) (by decide +kernel) rfl
theorem qw_1476 : (.methodLink RX12 297 yX12_isDish : Cond) ∈ wsA := mA (i := 1476) (by decide +kernel) rfl
theorem qw_1478 : (.instanceMethod yX12_isDish : Cond) ∈ wsA := mA (i := 1478) (by decide +kernel) rfl
theorem qw_1479 : (.code yX12_isDish cX12_isDish 2 (some .boolean) : Cond) ∈ wsA := mA (i := 1479) (by decide +kernel) rfl
theorem qw_1485 : (.methodLink RX12 302 yX12_isGuest : Cond) ∈ wsA := mA (i := 1485) (by decide +kernel) rfl
theorem qw_1487 : (.instanceMethod yX12_isGuest : Cond) ∈ wsA := mA (i := 1487) (by decide +kernel) rfl
theorem qw_1488 : (.code yX12_isGuest cX12_isGuest 2 (some .boolean) : Cond) ∈ wsA := mA (i := 1488) (by decide +kernel) rfl
theorem qw_1493 : (.methodLink RX12 305 yX12_isSecret : Cond) ∈ wsA := mA (i := 1493) (by decide +kernel) rfl
theorem qw_1495 : (.instanceMethod yX12_isSecret : Cond) ∈ wsA := mA (i := 1495) (by decide +kernel) rfl
theorem qw_1496 : (.code yX12_isSecret cX12_isSecret 2 (some .boolean) : Cond) ∈ wsA := mA (i := 1496) (by decide +kernel) rfl
theorem qw_1497 : (.methodLink RX12 280 yX12_isDinner : Cond) ∈ wsA := mA (i := 1497) (by decide +kernel) rfl
theorem qw_1499 : (.instanceMethod yX12_isDinner : Cond) ∈ wsA := mA (i := 1499) (by decide +kernel) rfl
theorem qw_1500 : (.code yX12_isDinner cX12_isDinner 1 (some .boolean) : Cond) ∈ wsA := mA (i := 1500) (by decide +kernel) rfl
theorem qw_1548 : (.methodLink RX12 319 yX12_onTable : Cond) ∈ wsA := mA (i := 1548) (by decide +kernel) rfl
theorem qw_1550 : (.instanceMethod yX12_onTable : Cond) ∈ wsA := mA (i := 1550) (by decide +kernel) rfl
theorem qw_1551 : (.code yX12_onTable cX12_onTable 3 (some .int) : Cond) ∈ wsA := mA (i := 1551) (by decide +kernel) rfl
theorem qw_1560 : (.methodLink RX12 328 yX12_sitting : Cond) ∈ wsA := mA (i := 1560) (by decide +kernel) rfl
theorem qw_1562 : (.instanceMethod yX12_sitting : Cond) ∈ wsA := mA (i := 1562) (by decide +kernel) rfl
theorem qw_1563 : (.code yX12_sitting cX12_sitting 3 (some .int) : Cond) ∈ wsA := mA (i := 1563) (by decide +kernel) rfl
theorem qw_1669 : (.methodLink RX12 396 yX12_knownMany : Cond) ∈ wsA := mA (i := 1669) (by decide +kernel) rfl
theorem qw_1671 : (.instanceMethod yX12_knownMany : Cond) ∈ wsA := mA (i := 1671) (by decide +kernel) rfl
theorem qw_1672 : (.code yX12_knownMany cX12_knownMany 4 (some .int) : Cond) ∈ wsA := mA (i := 1672) (by decide +kernel) rfl
theorem qw_1748 : (.constantLong RX12 448 (60) : Cond) ∈ wsA := mA (i := 1748) (by decide +kernel) rfl
theorem dX12_ahead_0 : decode cX12_ahead 0 = .ok (.aload_n 0, 1) := by decide +kernel
theorem dX12_ahead_1 : decode cX12_ahead 1 = .ok (.invokevirtual 280, 3) := by decide +kernel
theorem dX12_ahead_4 : decode cX12_ahead 4 = .ok (.ifCond .eq 39, 3) := by decide +kernel
theorem dX12_ahead_43 : decode cX12_ahead 43 = .ok (.iconst (-1), 1) := by decide +kernel
theorem dX12_ahead_44 : decode cX12_ahead 44 = .ok (.ireturn, 1) := by decide +kernel
theorem dX12_believed_0 : decode cX12_believed 0 = .ok (.aload_n 0, 1) := by decide +kernel
theorem dX12_believed_1 : decode cX12_believed 1 = .ok (.invokevirtual 280, 3) := by decide +kernel
theorem dX12_believed_4 : decode cX12_believed 4 = .ok (.ifCond .eq 13, 3) := by decide +kernel
theorem dX12_believed_17 : decode cX12_believed 17 = .ok (.iconst (-1), 1) := by decide +kernel
theorem dX12_believed_18 : decode cX12_believed 18 = .ok (.ireturn, 1) := by decide +kernel
theorem dX12_bestRow_0 : decode cX12_bestRow 0 = .ok (.aload_n 0, 1) := by decide +kernel
theorem dX12_bestRow_1 : decode cX12_bestRow 1 = .ok (.invokevirtual 280, 3) := by decide +kernel
theorem dX12_bestRow_4 : decode cX12_bestRow 4 = .ok (.ifCond .eq 27, 3) := by decide +kernel
theorem dX12_bestRow_31 : decode cX12_bestRow 31 = .ok (.bipush (-3), 2) := by decide +kernel
theorem dX12_bestRow_33 : decode cX12_bestRow 33 = .ok (.ireturn, 1) := by decide +kernel
theorem dX12_clashes_0 : decode cX12_clashes 0 = .ok (.aload_n 0, 1) := by decide +kernel
theorem dX12_clashes_1 : decode cX12_clashes 1 = .ok (.iload_n 1, 1) := by decide +kernel
theorem dX12_clashes_2 : decode cX12_clashes 2 = .ok (.invokevirtual 305, 3) := by decide +kernel
theorem dX12_clashes_5 : decode cX12_clashes 5 = .ok (.ifCond .eq 15, 3) := by decide +kernel
theorem dX12_clashes_20 : decode cX12_clashes 20 = .ok (.iconst (-1), 1) := by decide +kernel
theorem dX12_clashes_21 : decode cX12_clashes 21 = .ok (.ireturn, 1) := by decide +kernel
theorem dX12_count_0 : decode cX12_count 0 = .ok (.iload_n 1, 1) := by decide +kernel
theorem dX12_count_1 : decode cX12_count 1 = .ok (.tableswitch 156 0 13 #[71, 71, 71, 80, 85, 90, 98, 103, 108, 114, 133, 141, 146, 151], 71) := by decide +kernel
theorem dX12_count_72 : decode cX12_count 72 = .ok (.aload_n 0, 1) := by decide +kernel
theorem dX12_count_73 : decode cX12_count 73 = .ok (.getfield 39, 3) := by decide +kernel
theorem dX12_count_76 : decode cX12_count 76 = .ok (.iload_n 1, 1) := by decide +kernel
theorem dX12_count_77 : decode cX12_count 77 = .ok (.iconst 1, 1) := by decide +kernel
theorem dX12_count_78 : decode cX12_count 78 = .ok (.iadd, 1) := by decide +kernel
theorem dX12_count_79 : decode cX12_count 79 = .ok (.iaload, 1) := by decide +kernel
theorem dX12_count_80 : decode cX12_count 80 = .ok (.ireturn, 1) := by decide +kernel
theorem dX12_count_81 : decode cX12_count 81 = .ok (.aload_n 0, 1) := by decide +kernel
theorem dX12_count_82 : decode cX12_count 82 = .ok (.getfield 253, 3) := by decide +kernel
theorem dX12_count_85 : decode cX12_count 85 = .ok (.ireturn, 1) := by decide +kernel
theorem dX12_count_86 : decode cX12_count 86 = .ok (.aload_n 0, 1) := by decide +kernel
theorem dX12_count_87 : decode cX12_count 87 = .ok (.getfield 42, 3) := by decide +kernel
theorem dX12_count_90 : decode cX12_count 90 = .ok (.ireturn, 1) := by decide +kernel
theorem dX12_count_91 : decode cX12_count 91 = .ok (.aload_n 0, 1) := by decide +kernel
theorem dX12_count_92 : decode cX12_count 92 = .ok (.getfield 39, 3) := by decide +kernel
theorem dX12_count_95 : decode cX12_count 95 = .ok (.bipush 10, 2) := by decide +kernel
theorem dX12_count_97 : decode cX12_count 97 = .ok (.iaload, 1) := by decide +kernel
theorem dX12_count_98 : decode cX12_count 98 = .ok (.ireturn, 1) := by decide +kernel
theorem dX12_count_99 : decode cX12_count 99 = .ok (.aload_n 0, 1) := by decide +kernel
theorem dX12_count_100 : decode cX12_count 100 = .ok (.invokevirtual 319, 3) := by decide +kernel
theorem dX12_count_103 : decode cX12_count 103 = .ok (.ireturn, 1) := by decide +kernel
theorem dX12_count_104 : decode cX12_count 104 = .ok (.aload_n 0, 1) := by decide +kernel
theorem dX12_count_105 : decode cX12_count 105 = .ok (.invokevirtual 328, 3) := by decide +kernel
theorem dX12_count_108 : decode cX12_count 108 = .ok (.ireturn, 1) := by decide +kernel
theorem dX12_count_109 : decode cX12_count 109 = .ok (.aload_n 0, 1) := by decide +kernel
theorem dX12_count_110 : decode cX12_count 110 = .ok (.iconst 0, 1) := by decide +kernel
theorem dX12_count_111 : decode cX12_count 111 = .ok (.invokevirtual 396, 3) := by decide +kernel
theorem dX12_count_114 : decode cX12_count 114 = .ok (.ireturn, 1) := by decide +kernel
theorem dX12_count_115 : decode cX12_count 115 = .ok (.aload_n 0, 1) := by decide +kernel
theorem dX12_count_116 : decode cX12_count 116 = .ok (.invokevirtual 280, 3) := by decide +kernel
theorem dX12_count_119 : decode cX12_count 119 = .ok (.ifCond .eq 13, 3) := by decide +kernel
theorem dX12_count_132 : decode cX12_count 132 = .ok (.iconst (-1), 1) := by decide +kernel
theorem dX12_count_133 : decode cX12_count 133 = .ok (.ireturn, 1) := by decide +kernel
theorem dX12_count_134 : decode cX12_count 134 = .ok (.aload_n 0, 1) := by decide +kernel
theorem dX12_count_135 : decode cX12_count 135 = .ok (.getfield 39, 3) := by decide +kernel
theorem dX12_count_138 : decode cX12_count 138 = .ok (.bipush 99, 2) := by decide +kernel
theorem dX12_count_140 : decode cX12_count 140 = .ok (.iaload, 1) := by decide +kernel
theorem dX12_count_141 : decode cX12_count 141 = .ok (.ireturn, 1) := by decide +kernel
theorem dX12_count_142 : decode cX12_count 142 = .ok (.aload_n 0, 1) := by decide +kernel
theorem dX12_count_143 : decode cX12_count 143 = .ok (.getfield 262, 3) := by decide +kernel
theorem dX12_count_146 : decode cX12_count 146 = .ok (.ireturn, 1) := by decide +kernel
theorem dX12_count_147 : decode cX12_count 147 = .ok (.aload_n 0, 1) := by decide +kernel
theorem dX12_count_148 : decode cX12_count 148 = .ok (.getfield 456, 3) := by decide +kernel
theorem dX12_count_151 : decode cX12_count 151 = .ok (.ireturn, 1) := by decide +kernel
theorem dX12_count_152 : decode cX12_count 152 = .ok (.aload_n 0, 1) := by decide +kernel
theorem dX12_count_153 : decode cX12_count 153 = .ok (.getfield 80, 3) := by decide +kernel
theorem dX12_count_156 : decode cX12_count 156 = .ok (.ireturn, 1) := by decide +kernel
theorem dX12_count_157 : decode cX12_count 157 = .ok (.iconst (-1), 1) := by decide +kernel
theorem dX12_count_158 : decode cX12_count 158 = .ok (.ireturn, 1) := by decide +kernel
theorem dX12_crumbs_0 : decode cX12_crumbs 0 = .ok (.aload_n 0, 1) := by decide +kernel
theorem dX12_crumbs_1 : decode cX12_crumbs 1 = .ok (.iload_n 2, 1) := by decide +kernel
theorem dX12_crumbs_2 : decode cX12_crumbs 2 = .ok (.invokevirtual 302, 3) := by decide +kernel
theorem dX12_crumbs_5 : decode cX12_crumbs 5 = .ok (.ifCond .eq 15, 3) := by decide +kernel
theorem dX12_crumbs_20 : decode cX12_crumbs 20 = .ok (.iconst (-1), 1) := by decide +kernel
theorem dX12_crumbs_21 : decode cX12_crumbs 21 = .ok (.ireturn, 1) := by decide +kernel
theorem dX12_dish_0 : decode cX12_dish 0 = .ok (.aload_n 0, 1) := by decide +kernel
theorem dX12_dish_1 : decode cX12_dish 1 = .ok (.iload_n 1, 1) := by decide +kernel
theorem dX12_dish_2 : decode cX12_dish 2 = .ok (.invokevirtual 297, 3) := by decide +kernel
theorem dX12_dish_5 : decode cX12_dish 5 = .ok (.ifCond .eq 15, 3) := by decide +kernel
theorem dX12_dish_20 : decode cX12_dish 20 = .ok (.bipush (-3), 2) := by decide +kernel
theorem dX12_dish_22 : decode cX12_dish 22 = .ok (.ireturn, 1) := by decide +kernel
theorem dX12_dropped_0 : decode cX12_dropped 0 = .ok (.aload_n 0, 1) := by decide +kernel
theorem dX12_dropped_1 : decode cX12_dropped 1 = .ok (.invokevirtual 280, 3) := by decide +kernel
theorem dX12_dropped_4 : decode cX12_dropped 4 = .ok (.ifCond .eq 13, 3) := by decide +kernel
theorem dX12_dropped_17 : decode cX12_dropped 17 = .ok (.iconst (-1), 1) := by decide +kernel
theorem dX12_dropped_18 : decode cX12_dropped 18 = .ok (.ireturn, 1) := by decide +kernel
theorem dX12_end_0 : decode cX12_end 0 = .ok (.iload_n 1, 1) := by decide +kernel
theorem dX12_end_1 : decode cX12_end 1 = .ok (.ifCond .lt 11, 3) := by decide +kernel
theorem dX12_end_4 : decode cX12_end 4 = .ok (.iload_n 1, 1) := by decide +kernel
theorem dX12_end_5 : decode cX12_end 5 = .ok (.aload_n 0, 1) := by decide +kernel
theorem dX12_end_6 : decode cX12_end 6 = .ok (.getfield 80, 3) := by decide +kernel
theorem dX12_end_9 : decode cX12_end 9 = .ok (.if_icmp .le 5, 3) := by decide +kernel
theorem dX12_end_12 : decode cX12_end 12 = .ok (.iconst (-1), 1) := by decide +kernel
theorem dX12_end_13 : decode cX12_end 13 = .ok (.ireturn, 1) := by decide +kernel
theorem dX12_end_14 : decode cX12_end 14 = .ok (.aload_n 0, 1) := by decide +kernel
theorem dX12_end_15 : decode cX12_end 15 = .ok (.iload_n 1, 1) := by decide +kernel
theorem dX12_end_16 : decode cX12_end 16 = .ok (.putfield 80, 3) := by decide +kernel
theorem dX12_end_19 : decode cX12_end 19 = .ok (.iload_n 1, 1) := by decide +kernel
theorem dX12_end_20 : decode cX12_end 20 = .ok (.ireturn, 1) := by decide +kernel
theorem dX12_fetch_0 : decode cX12_fetch 0 = .ok (.aload_n 0, 1) := by decide +kernel
theorem dX12_fetch_1 : decode cX12_fetch 1 = .ok (.iload_n 1, 1) := by decide +kernel
theorem dX12_fetch_2 : decode cX12_fetch 2 = .ok (.invokevirtual 302, 3) := by decide +kernel
theorem dX12_fetch_5 : decode cX12_fetch 5 = .ok (.ifCond .eq 11, 3) := by decide +kernel
theorem dX12_fetch_16 : decode cX12_fetch 16 = .ok (.iconst (-1), 1) := by decide +kernel
theorem dX12_fetch_17 : decode cX12_fetch 17 = .ok (.ireturn, 1) := by decide +kernel
theorem dX12_force_0 : decode cX12_force 0 = .ok (.iload_n 1, 1) := by decide +kernel
theorem dX12_force_1 : decode cX12_force 1 = .ok (.iconst (-1), 1) := by decide +kernel
theorem dX12_force_2 : decode cX12_force 2 = .ok (.if_icmp .eq 14, 3) := by decide +kernel
theorem dX12_force_5 : decode cX12_force 5 = .ok (.aload_n 0, 1) := by decide +kernel
theorem dX12_force_6 : decode cX12_force 6 = .ok (.iload_n 1, 1) := by decide +kernel
theorem dX12_force_7 : decode cX12_force 7 = .ok (.invokevirtual 294, 3) := by decide +kernel
theorem dX12_force_10 : decode cX12_force 10 = .ok (.ifCond .ne 6, 3) := by decide +kernel
theorem dX12_force_13 : decode cX12_force 13 = .ok (.bipush (-2), 2) := by decide +kernel
theorem dX12_force_15 : decode cX12_force 15 = .ok (.ireturn, 1) := by decide +kernel
theorem dX12_force_16 : decode cX12_force 16 = .ok (.aload_n 0, 1) := by decide +kernel
theorem dX12_force_17 : decode cX12_force 17 = .ok (.getfield 42, 3) := by decide +kernel
theorem dX12_force_20 : decode cX12_force 20 = .ok (.istore_n 2, 1) := by decide +kernel
theorem dX12_force_21 : decode cX12_force 21 = .ok (.aload_n 0, 1) := by decide +kernel
theorem dX12_force_22 : decode cX12_force 22 = .ok (.iload_n 1, 1) := by decide +kernel
theorem dX12_force_23 : decode cX12_force 23 = .ok (.putfield 42, 3) := by decide +kernel
theorem dX12_force_26 : decode cX12_force 26 = .ok (.iload_n 2, 1) := by decide +kernel
theorem dX12_force_27 : decode cX12_force 27 = .ok (.ireturn, 1) := by decide +kernel
theorem dX12_guest_0 : decode cX12_guest 0 = .ok (.aload_n 0, 1) := by decide +kernel
theorem dX12_guest_1 : decode cX12_guest 1 = .ok (.iload_n 1, 1) := by decide +kernel
theorem dX12_guest_2 : decode cX12_guest 2 = .ok (.invokevirtual 302, 3) := by decide +kernel
theorem dX12_guest_5 : decode cX12_guest 5 = .ok (.ifCond .eq 15, 3) := by decide +kernel
theorem dX12_guest_20 : decode cX12_guest 20 = .ok (.iconst (-1), 1) := by decide +kernel
theorem dX12_guest_21 : decode cX12_guest 21 = .ok (.ireturn, 1) := by decide +kernel
theorem dX12_hiccups_0 : decode cX12_hiccups 0 = .ok (.aload_n 0, 1) := by decide +kernel
theorem dX12_hiccups_1 : decode cX12_hiccups 1 = .ok (.invokevirtual 280, 3) := by decide +kernel
theorem dX12_hiccups_4 : decode cX12_hiccups 4 = .ok (.ifCond .eq 50, 3) := by decide +kernel
theorem dX12_hiccups_54 : decode cX12_hiccups 54 = .ok (.iconst (-1), 1) := by decide +kernel
theorem dX12_hiccups_55 : decode cX12_hiccups 55 = .ok (.ireturn, 1) := by decide +kernel
theorem dX12_hush_0 : decode cX12_hush 0 = .ok (.aload_n 0, 1) := by decide +kernel
theorem dX12_hush_1 : decode cX12_hush 1 = .ok (.invokevirtual 280, 3) := by decide +kernel
theorem dX12_hush_4 : decode cX12_hush 4 = .ok (.ifCond .eq 27, 3) := by decide +kernel
theorem dX12_hush_31 : decode cX12_hush 31 = .ok (.bipush (-3), 2) := by decide +kernel
theorem dX12_hush_33 : decode cX12_hush 33 = .ok (.ireturn, 1) := by decide +kernel
theorem dX12_in_0 : decode cX12_in 0 = .ok (.lload_n 0, 1) := by decide +kernel
theorem dX12_in_1 : decode cX12_in 1 = .ok (.lload_n 2, 1) := by decide +kernel
theorem dX12_in_2 : decode cX12_in 2 = .ok (.lcmp, 1) := by decide +kernel
theorem dX12_in_3 : decode cX12_in 3 = .ok (.ifCond .lt 14, 3) := by decide +kernel
theorem dX12_in_6 : decode cX12_in 6 = .ok (.lload_n 0, 1) := by decide +kernel
theorem dX12_in_7 : decode cX12_in 7 = .ok (.lload 4, 2) := by decide +kernel
theorem dX12_in_9 : decode cX12_in 9 = .ok (.lcmp, 1) := by decide +kernel
theorem dX12_in_10 : decode cX12_in 10 = .ok (.ifCond .gt 7, 3) := by decide +kernel
theorem dX12_in_13 : decode cX12_in 13 = .ok (.iconst 1, 1) := by decide +kernel
theorem dX12_in_14 : decode cX12_in 14 = .ok (.goto 4, 3) := by decide +kernel
theorem dX12_in_17 : decode cX12_in 17 = .ok (.iconst 0, 1) := by decide +kernel
theorem dX12_in_18 : decode cX12_in 18 = .ok (.ireturn, 1) := by decide +kernel
theorem dX12_isDinner_0 : decode cX12_isDinner 0 = .ok (.aload_n 0, 1) := by decide +kernel
theorem dX12_isDinner_1 : decode cX12_isDinner 1 = .ok (.getfield 39, 3) := by decide +kernel
theorem dX12_isDinner_4 : decode cX12_isDinner 4 = .ok (.iconst 0, 1) := by decide +kernel
theorem dX12_isDinner_5 : decode cX12_isDinner 5 = .ok (.iaload, 1) := by decide +kernel
theorem dX12_isDinner_6 : decode cX12_isDinner 6 = .ok (.iconst 1, 1) := by decide +kernel
theorem dX12_isDinner_7 : decode cX12_isDinner 7 = .ok (.if_icmp .ne 7, 3) := by decide +kernel
theorem dX12_isDinner_14 : decode cX12_isDinner 14 = .ok (.iconst 0, 1) := by decide +kernel
theorem dX12_isDinner_15 : decode cX12_isDinner 15 = .ok (.ireturn, 1) := by decide +kernel
theorem dX12_isDish_0 : decode cX12_isDish 0 = .ok (.iload_n 1, 1) := by decide +kernel
theorem dX12_isDish_1 : decode cX12_isDish 1 = .ok (.ifCond .lt 17, 3) := by decide +kernel
theorem dX12_isDish_4 : decode cX12_isDish 4 = .ok (.iload_n 1, 1) := by decide +kernel
theorem dX12_isDish_5 : decode cX12_isDish 5 = .ok (.aload_n 0, 1) := by decide +kernel
theorem dX12_isDish_6 : decode cX12_isDish 6 = .ok (.getfield 39, 3) := by decide +kernel
theorem dX12_isDish_9 : decode cX12_isDish 9 = .ok (.iconst 2, 1) := by decide +kernel
theorem dX12_isDish_10 : decode cX12_isDish 10 = .ok (.iaload, 1) := by decide +kernel
theorem dX12_isDish_11 : decode cX12_isDish 11 = .ok (.if_icmp .ge 7, 3) := by decide +kernel
theorem dX12_isDish_18 : decode cX12_isDish 18 = .ok (.iconst 0, 1) := by decide +kernel
theorem dX12_isDish_19 : decode cX12_isDish 19 = .ok (.ireturn, 1) := by decide +kernel
theorem dX12_isGuest_0 : decode cX12_isGuest 0 = .ok (.iload_n 1, 1) := by decide +kernel
theorem dX12_isGuest_1 : decode cX12_isGuest 1 = .ok (.ifCond .lt 17, 3) := by decide +kernel
theorem dX12_isGuest_4 : decode cX12_isGuest 4 = .ok (.iload_n 1, 1) := by decide +kernel
theorem dX12_isGuest_5 : decode cX12_isGuest 5 = .ok (.aload_n 0, 1) := by decide +kernel
theorem dX12_isGuest_6 : decode cX12_isGuest 6 = .ok (.getfield 39, 3) := by decide +kernel
theorem dX12_isGuest_9 : decode cX12_isGuest 9 = .ok (.iconst 3, 1) := by decide +kernel
theorem dX12_isGuest_10 : decode cX12_isGuest 10 = .ok (.iaload, 1) := by decide +kernel
theorem dX12_isGuest_11 : decode cX12_isGuest 11 = .ok (.if_icmp .ge 7, 3) := by decide +kernel
theorem dX12_isGuest_18 : decode cX12_isGuest 18 = .ok (.iconst 0, 1) := by decide +kernel
theorem dX12_isGuest_19 : decode cX12_isGuest 19 = .ok (.ireturn, 1) := by decide +kernel
theorem dX12_isRule_0 : decode cX12_isRule 0 = .ok (.iload_n 1, 1) := by decide +kernel
theorem dX12_isRule_1 : decode cX12_isRule 1 = .ok (.ifCond .lt 15, 3) := by decide +kernel
theorem dX12_isRule_4 : decode cX12_isRule 4 = .ok (.iload_n 1, 1) := by decide +kernel
theorem dX12_isRule_5 : decode cX12_isRule 5 = .ok (.aload_n 0, 1) := by decide +kernel
theorem dX12_isRule_6 : decode cX12_isRule 6 = .ok (.getfield 253, 3) := by decide +kernel
theorem dX12_isRule_9 : decode cX12_isRule 9 = .ok (.if_icmp .ge 7, 3) := by decide +kernel
theorem dX12_isRule_16 : decode cX12_isRule 16 = .ok (.iconst 0, 1) := by decide +kernel
theorem dX12_isRule_17 : decode cX12_isRule 17 = .ok (.ireturn, 1) := by decide +kernel
theorem dX12_isSecret_0 : decode cX12_isSecret 0 = .ok (.aload_n 0, 1) := by decide +kernel
theorem dX12_isSecret_1 : decode cX12_isSecret 1 = .ok (.invokevirtual 280, 3) := by decide +kernel
theorem dX12_isSecret_4 : decode cX12_isSecret 4 = .ok (.ifCond .eq 19, 3) := by decide +kernel
theorem dX12_isSecret_23 : decode cX12_isSecret 23 = .ok (.iconst 0, 1) := by decide +kernel
theorem dX12_isSecret_24 : decode cX12_isSecret 24 = .ok (.ireturn, 1) := by decide +kernel
theorem dX12_knowing_0 : decode cX12_knowing 0 = .ok (.aload_n 0, 1) := by decide +kernel
theorem dX12_knowing_1 : decode cX12_knowing 1 = .ok (.iload_n 1, 1) := by decide +kernel
theorem dX12_knowing_2 : decode cX12_knowing 2 = .ok (.invokevirtual 305, 3) := by decide +kernel
theorem dX12_knowing_5 : decode cX12_knowing 5 = .ok (.ifCond .ne 5, 3) := by decide +kernel
theorem dX12_knowing_8 : decode cX12_knowing 8 = .ok (.iconst (-1), 1) := by decide +kernel
theorem dX12_knowing_9 : decode cX12_knowing 9 = .ok (.ireturn, 1) := by decide +kernel
theorem dX12_knownMany_0 : decode cX12_knownMany 0 = .ok (.iconst 0, 1) := by decide +kernel
theorem dX12_knownMany_1 : decode cX12_knownMany 1 = .ok (.istore_n 2, 1) := by decide +kernel
theorem dX12_knownMany_2 : decode cX12_knownMany 2 = .ok (.iconst 0, 1) := by decide +kernel
theorem dX12_knownMany_3 : decode cX12_knownMany 3 = .ok (.istore_n 3, 1) := by decide +kernel
theorem dX12_knownMany_4 : decode cX12_knownMany 4 = .ok (.iload_n 3, 1) := by decide +kernel
theorem dX12_knownMany_5 : decode cX12_knownMany 5 = .ok (.aload_n 0, 1) := by decide +kernel
theorem dX12_knownMany_6 : decode cX12_knownMany 6 = .ok (.getfield 39, 3) := by decide +kernel
theorem dX12_knownMany_9 : decode cX12_knownMany 9 = .ok (.iconst 3, 1) := by decide +kernel
theorem dX12_knownMany_10 : decode cX12_knownMany 10 = .ok (.iaload, 1) := by decide +kernel
theorem dX12_knownMany_11 : decode cX12_knownMany 11 = .ok (.if_icmp .ge 40, 3) := by decide +kernel
theorem dX12_knownMany_51 : decode cX12_knownMany 51 = .ok (.iload_n 2, 1) := by decide +kernel
theorem dX12_knownMany_52 : decode cX12_knownMany 52 = .ok (.ireturn, 1) := by decide +kernel
theorem dX12_leftOut_0 : decode cX12_leftOut 0 = .ok (.aload_n 0, 1) := by decide +kernel
theorem dX12_leftOut_1 : decode cX12_leftOut 1 = .ok (.invokevirtual 280, 3) := by decide +kernel
theorem dX12_leftOut_4 : decode cX12_leftOut 4 = .ok (.ifCond .eq 27, 3) := by decide +kernel
theorem dX12_leftOut_31 : decode cX12_leftOut 31 = .ok (.iconst (-1), 1) := by decide +kernel
theorem dX12_leftOut_32 : decode cX12_leftOut 32 = .ok (.ireturn, 1) := by decide +kernel
theorem dX12_look_0 : decode cX12_look 0 = .ok (.aload_n 0, 1) := by decide +kernel
theorem dX12_look_1 : decode cX12_look 1 = .ok (.invokevirtual 280, 3) := by decide +kernel
theorem dX12_look_4 : decode cX12_look 4 = .ok (.ifCond .eq 25, 3) := by decide +kernel
theorem dX12_look_29 : decode cX12_look 29 = .ok (.iconst (-1), 1) := by decide +kernel
theorem dX12_look_30 : decode cX12_look 30 = .ok (.ireturn, 1) := by decide +kernel
theorem dX12_loudest_0 : decode cX12_loudest 0 = .ok (.aload_n 0, 1) := by decide +kernel
theorem dX12_loudest_1 : decode cX12_loudest 1 = .ok (.invokevirtual 280, 3) := by decide +kernel
theorem dX12_loudest_4 : decode cX12_loudest 4 = .ok (.ifCond .eq 25, 3) := by decide +kernel
theorem dX12_loudest_29 : decode cX12_loudest 29 = .ok (.iconst (-1), 1) := by decide +kernel
theorem dX12_loudest_30 : decode cX12_loudest 30 = .ok (.ireturn, 1) := by decide +kernel
theorem dX12_minute_0 : decode cX12_minute 0 = .ok (.aload_n 0, 1) := by decide +kernel
theorem dX12_minute_1 : decode cX12_minute 1 = .ok (.invokevirtual 280, 3) := by decide +kernel
theorem dX12_minute_4 : decode cX12_minute 4 = .ok (.ifCond .eq 16, 3) := by decide +kernel
theorem dX12_minute_20 : decode cX12_minute 20 = .ok (.iconst (-1), 1) := by decide +kernel
theorem dX12_minute_21 : decode cX12_minute 21 = .ok (.ireturn, 1) := by decide +kernel
theorem dX12_note_0 : decode cX12_note 0 = .ok (.iload_n 1, 1) := by decide +kernel
theorem dX12_note_1 : decode cX12_note 1 = .ok (.iconst (-1), 1) := by decide +kernel
theorem dX12_note_2 : decode cX12_note 2 = .ok (.if_icmp .ne 13, 3) := by decide +kernel
theorem dX12_note_5 : decode cX12_note 5 = .ok (.aload_n 0, 1) := by decide +kernel
theorem dX12_note_6 : decode cX12_note 6 = .ok (.getfield 39, 3) := by decide +kernel
theorem dX12_note_9 : decode cX12_note 9 = .ok (.bipush 99, 2) := by decide +kernel
theorem dX12_note_11 : decode cX12_note 11 = .ok (.iconst 0, 1) := by decide +kernel
theorem dX12_note_12 : decode cX12_note 12 = .ok (.iastore, 1) := by decide +kernel
theorem dX12_note_13 : decode cX12_note 13 = .ok (.iconst 0, 1) := by decide +kernel
theorem dX12_note_14 : decode cX12_note 14 = .ok (.ireturn, 1) := by decide +kernel
theorem dX12_note_15 : decode cX12_note 15 = .ok (.iload_n 1, 1) := by decide +kernel
theorem dX12_note_16 : decode cX12_note 16 = .ok (.i2l, 1) := by decide +kernel
theorem dX12_note_17 : decode cX12_note 17 = .ok (.lconst 0, 1) := by decide +kernel
theorem dX12_note_18 : decode cX12_note 18 = .ok (.ldc2_w 448, 3) := by decide +kernel
theorem dX12_note_21 : decode cX12_note 21 = .ok (.invokestatic 118, 3) := by decide +kernel
theorem dX12_note_24 : decode cX12_note 24 = .ok (.ifCond .eq 42, 3) := by decide +kernel
theorem dX12_note_27 : decode cX12_note 27 = .ok (.aload_n 0, 1) := by decide +kernel
theorem dX12_note_28 : decode cX12_note 28 = .ok (.iload_n 2, 1) := by decide +kernel
theorem dX12_note_29 : decode cX12_note 29 = .ok (.invokevirtual 302, 3) := by decide +kernel
theorem dX12_note_32 : decode cX12_note 32 = .ok (.ifCond .eq 34, 3) := by decide +kernel
theorem dX12_note_66 : decode cX12_note 66 = .ok (.bipush (-2), 2) := by decide +kernel
theorem dX12_note_68 : decode cX12_note 68 = .ok (.ireturn, 1) := by decide +kernel
theorem dX12_offer_0 : decode cX12_offer 0 = .ok (.aload_n 0, 1) := by decide +kernel
theorem dX12_offer_1 : decode cX12_offer 1 = .ok (.invokevirtual 280, 3) := by decide +kernel
theorem dX12_offer_4 : decode cX12_offer 4 = .ok (.ifCond .eq 40, 3) := by decide +kernel
theorem dX12_offer_44 : decode cX12_offer 44 = .ok (.bipush (-2), 2) := by decide +kernel
theorem dX12_offer_46 : decode cX12_offer 46 = .ok (.ireturn, 1) := by decide +kernel
theorem dX12_onTable_0 : decode cX12_onTable 0 = .ok (.iconst 0, 1) := by decide +kernel
theorem dX12_onTable_1 : decode cX12_onTable 1 = .ok (.istore_n 1, 1) := by decide +kernel
theorem dX12_onTable_2 : decode cX12_onTable 2 = .ok (.iconst 0, 1) := by decide +kernel
theorem dX12_onTable_3 : decode cX12_onTable 3 = .ok (.istore_n 2, 1) := by decide +kernel
theorem dX12_onTable_4 : decode cX12_onTable 4 = .ok (.iload_n 2, 1) := by decide +kernel
theorem dX12_onTable_5 : decode cX12_onTable 5 = .ok (.aload_n 0, 1) := by decide +kernel
theorem dX12_onTable_6 : decode cX12_onTable 6 = .ok (.getfield 39, 3) := by decide +kernel
theorem dX12_onTable_9 : decode cX12_onTable 9 = .ok (.iconst 2, 1) := by decide +kernel
theorem dX12_onTable_10 : decode cX12_onTable 10 = .ok (.iaload, 1) := by decide +kernel
theorem dX12_onTable_11 : decode cX12_onTable 11 = .ok (.if_icmp .ge 32, 3) := by decide +kernel
theorem dX12_onTable_43 : decode cX12_onTable 43 = .ok (.iload_n 1, 1) := by decide +kernel
theorem dX12_onTable_44 : decode cX12_onTable 44 = .ok (.ireturn, 1) := by decide +kernel
theorem dX12_quiet_0 : decode cX12_quiet 0 = .ok (.aload_n 0, 1) := by decide +kernel
theorem dX12_quiet_1 : decode cX12_quiet 1 = .ok (.invokevirtual 280, 3) := by decide +kernel
theorem dX12_quiet_4 : decode cX12_quiet 4 = .ok (.ifCond .ne 5, 3) := by decide +kernel
theorem dX12_quiet_7 : decode cX12_quiet 7 = .ok (.iconst (-1), 1) := by decide +kernel
theorem dX12_quiet_8 : decode cX12_quiet 8 = .ok (.ireturn, 1) := by decide +kernel
theorem dX12_rests_0 : decode cX12_rests 0 = .ok (.aload_n 0, 1) := by decide +kernel
theorem dX12_rests_1 : decode cX12_rests 1 = .ok (.iload_n 1, 1) := by decide +kernel
theorem dX12_rests_2 : decode cX12_rests 2 = .ok (.invokevirtual 302, 3) := by decide +kernel
theorem dX12_rests_5 : decode cX12_rests 5 = .ok (.ifCond .eq 41, 3) := by decide +kernel
theorem dX12_rests_46 : decode cX12_rests 46 = .ok (.iconst (-1), 1) := by decide +kernel
theorem dX12_rests_47 : decode cX12_rests 47 = .ok (.ireturn, 1) := by decide +kernel
theorem dX12_rows_0 : decode cX12_rows 0 = .ok (.aload_n 0, 1) := by decide +kernel
theorem dX12_rows_1 : decode cX12_rows 1 = .ok (.invokevirtual 280, 3) := by decide +kernel
theorem dX12_rows_4 : decode cX12_rows 4 = .ok (.ifCond .eq 15, 3) := by decide +kernel
theorem dX12_rows_19 : decode cX12_rows 19 = .ok (.iconst (-1), 1) := by decide +kernel
theorem dX12_rows_20 : decode cX12_rows 20 = .ok (.ireturn, 1) := by decide +kernel
theorem dX12_ruled_0 : decode cX12_ruled 0 = .ok (.aload_n 0, 1) := by decide +kernel
theorem dX12_ruled_1 : decode cX12_ruled 1 = .ok (.invokevirtual 280, 3) := by decide +kernel
theorem dX12_ruled_4 : decode cX12_ruled 4 = .ok (.ifCond .eq 13, 3) := by decide +kernel
theorem dX12_ruled_17 : decode cX12_ruled 17 = .ok (.bipush (-3), 2) := by decide +kernel
theorem dX12_ruled_19 : decode cX12_ruled 19 = .ok (.ireturn, 1) := by decide +kernel
theorem dX12_said_0 : decode cX12_said 0 = .ok (.aload_n 0, 1) := by decide +kernel
theorem dX12_said_1 : decode cX12_said 1 = .ok (.iload_n 1, 1) := by decide +kernel
theorem dX12_said_2 : decode cX12_said 2 = .ok (.invokevirtual 305, 3) := by decide +kernel
theorem dX12_said_5 : decode cX12_said 5 = .ok (.ifCond .ne 5, 3) := by decide +kernel
theorem dX12_said_8 : decode cX12_said 8 = .ok (.iconst (-1), 1) := by decide +kernel
theorem dX12_said_9 : decode cX12_said 9 = .ok (.ireturn, 1) := by decide +kernel
theorem dX12_seed_0 : decode cX12_seed 0 = .ok (.iload_n 1, 1) := by decide +kernel
theorem dX12_seed_1 : decode cX12_seed 1 = .ok (.ifCond .ge 5, 3) := by decide +kernel
theorem dX12_seed_4 : decode cX12_seed 4 = .ok (.iconst (-1), 1) := by decide +kernel
theorem dX12_seed_5 : decode cX12_seed 5 = .ok (.ireturn, 1) := by decide +kernel
theorem dX12_seed_6 : decode cX12_seed 6 = .ok (.aload_n 0, 1) := by decide +kernel
theorem dX12_seed_7 : decode cX12_seed 7 = .ok (.getfield 456, 3) := by decide +kernel
theorem dX12_seed_10 : decode cX12_seed 10 = .ok (.istore_n 2, 1) := by decide +kernel
theorem dX12_seed_11 : decode cX12_seed 11 = .ok (.aload_n 0, 1) := by decide +kernel
theorem dX12_seed_12 : decode cX12_seed 12 = .ok (.iload_n 1, 1) := by decide +kernel
theorem dX12_seed_13 : decode cX12_seed 13 = .ok (.putfield 456, 3) := by decide +kernel
theorem dX12_seed_16 : decode cX12_seed 16 = .ok (.iload_n 2, 1) := by decide +kernel
theorem dX12_seed_17 : decode cX12_seed 17 = .ok (.ireturn, 1) := by decide +kernel
theorem dX12_serve_0 : decode cX12_serve 0 = .ok (.aload_n 0, 1) := by decide +kernel
theorem dX12_serve_1 : decode cX12_serve 1 = .ok (.iload_n 1, 1) := by decide +kernel
theorem dX12_serve_2 : decode cX12_serve 2 = .ok (.invokevirtual 297, 3) := by decide +kernel
theorem dX12_serve_5 : decode cX12_serve 5 = .ok (.ifCond .eq 17, 3) := by decide +kernel
theorem dX12_serve_22 : decode cX12_serve 22 = .ok (.iconst (-1), 1) := by decide +kernel
theorem dX12_serve_23 : decode cX12_serve 23 = .ok (.ireturn, 1) := by decide +kernel
theorem dX12_sitting_0 : decode cX12_sitting 0 = .ok (.iconst 0, 1) := by decide +kernel
theorem dX12_sitting_1 : decode cX12_sitting 1 = .ok (.istore_n 1, 1) := by decide +kernel
theorem dX12_sitting_2 : decode cX12_sitting 2 = .ok (.iconst 0, 1) := by decide +kernel
theorem dX12_sitting_3 : decode cX12_sitting 3 = .ok (.istore_n 2, 1) := by decide +kernel
theorem dX12_sitting_4 : decode cX12_sitting 4 = .ok (.iload_n 2, 1) := by decide +kernel
theorem dX12_sitting_5 : decode cX12_sitting 5 = .ok (.aload_n 0, 1) := by decide +kernel
theorem dX12_sitting_6 : decode cX12_sitting 6 = .ok (.getfield 39, 3) := by decide +kernel
theorem dX12_sitting_9 : decode cX12_sitting 9 = .ok (.iconst 3, 1) := by decide +kernel
theorem dX12_sitting_10 : decode cX12_sitting 10 = .ok (.iaload, 1) := by decide +kernel
theorem dX12_sitting_11 : decode cX12_sitting 11 = .ok (.if_icmp .ge 27, 3) := by decide +kernel
theorem dX12_sitting_38 : decode cX12_sitting 38 = .ok (.iload_n 1, 1) := by decide +kernel
theorem dX12_sitting_39 : decode cX12_sitting 39 = .ok (.ireturn, 1) := by decide +kernel
theorem dX12_tell_0 : decode cX12_tell 0 = .ok (.aload_n 0, 1) := by decide +kernel
theorem dX12_tell_1 : decode cX12_tell 1 = .ok (.iload_n 1, 1) := by decide +kernel
theorem dX12_tell_2 : decode cX12_tell 2 = .ok (.invokevirtual 302, 3) := by decide +kernel
theorem dX12_tell_5 : decode cX12_tell 5 = .ok (.ifCond .eq 35, 3) := by decide +kernel
theorem dX12_tell_40 : decode cX12_tell 40 = .ok (.iconst (-1), 1) := by decide +kernel
theorem dX12_tell_41 : decode cX12_tell 41 = .ok (.ireturn, 1) := by decide +kernel
theorem dX12_throat_0 : decode cX12_throat 0 = .ok (.iload_n 1, 1) := by decide +kernel
theorem dX12_throat_1 : decode cX12_throat 1 = .ok (.i2l, 1) := by decide +kernel
theorem dX12_throat_2 : decode cX12_throat 2 = .ok (.lconst 0, 1) := by decide +kernel
theorem dX12_throat_3 : decode cX12_throat 3 = .ok (.aload_n 0, 1) := by decide +kernel
theorem dX12_throat_4 : decode cX12_throat 4 = .ok (.getfield 39, 3) := by decide +kernel
theorem dX12_throat_7 : decode cX12_throat 7 = .ok (.iconst 1, 1) := by decide +kernel
theorem dX12_throat_8 : decode cX12_throat 8 = .ok (.iaload, 1) := by decide +kernel
theorem dX12_throat_9 : decode cX12_throat 9 = .ok (.iconst 1, 1) := by decide +kernel
theorem dX12_throat_10 : decode cX12_throat 10 = .ok (.isub, 1) := by decide +kernel
theorem dX12_throat_11 : decode cX12_throat 11 = .ok (.i2l, 1) := by decide +kernel
theorem dX12_throat_12 : decode cX12_throat 12 = .ok (.invokestatic 118, 3) := by decide +kernel
theorem dX12_throat_15 : decode cX12_throat 15 = .ok (.ifCond .eq 11, 3) := by decide +kernel
theorem dX12_throat_26 : decode cX12_throat 26 = .ok (.bipush (-2), 2) := by decide +kernel
theorem dX12_throat_28 : decode cX12_throat 28 = .ok (.ireturn, 1) := by decide +kernel
theorem dX12_undo_0 : decode cX12_undo 0 = .ok (.aload_n 0, 1) := by decide +kernel
theorem dX12_undo_1 : decode cX12_undo 1 = .ok (.getfield 262, 3) := by decide +kernel
theorem dX12_undo_4 : decode cX12_undo 4 = .ok (.ifCond .ne 5, 3) := by decide +kernel
theorem dX12_undo_7 : decode cX12_undo 7 = .ok (.iconst (-1), 1) := by decide +kernel
theorem dX12_undo_8 : decode cX12_undo 8 = .ok (.ireturn, 1) := by decide +kernel

def fe_count (x : Int32) : Int32 := if x.toInt = 4 ∨ x.toInt = 9 then -1 else if 0 ≤ x.toInt ∧ x.toInt ≤ 13 then 0 else -1
theorem c14 (x : Int32) : x = 0 ∨ x = 1 ∨ x = 2 ∨ x = 3 ∨ x = 4 ∨ x = 5 ∨ x = 6 ∨ x = 7 ∨ x = 8 ∨ x = 9 ∨ x = 10 ∨ x = 11 ∨ x = 12 ∨ x = 13 ∨ (x.toInt < 0 ∨ 13 < x.toInt) := by
  have e : ∀ k : Int32, x = k ↔ x.toInt = k.toInt := fun k => Int32.toInt_inj.symm
  simp only [e, show (0 : Int32).toInt = 0 from rfl, show (1 : Int32).toInt = 1 from rfl, show (2 : Int32).toInt = 2 from rfl, show (3 : Int32).toInt = 3 from rfl, show (4 : Int32).toInt = 4 from rfl, show (5 : Int32).toInt = 5 from rfl, show (6 : Int32).toInt = 6 from rfl, show (7 : Int32).toInt = 7 from rfl, show (8 : Int32).toInt = 8 from rfl, show (9 : Int32).toInt = 9 from rfl, show (10 : Int32).toInt = 10 from rfl, show (11 : Int32).toInt = 11 from rfl, show (12 : Int32).toInt = 12 from rfl, show (13 : Int32).toInt = 13 from rfl]
  omega
theorem c4 (x : Int32) : x = 0 ∨ x = 1 ∨ x = 2 ∨ x = 3 ∨ (x < 0 ∨ 3 < x) := by
  have e : ∀ k : Int32, x = k ↔ x.toInt = k.toInt := fun k => Int32.toInt_inj.symm
  simp only [e, Int32.lt_iff_toInt_lt, show (0 : Int32).toInt = 0 from rfl, show (1 : Int32).toInt = 1 from rfl, show (2 : Int32).toInt = 2 from rfl, show (3 : Int32).toInt = 3 from rfl]
  omega
theorem out64 {x : Int32} (h : x < 0 ∨ 3 < x) : x.toInt64 < 0 ∨ 3 < x.toInt64 := by
  simp only [Int32.lt_iff_toInt_lt, Int64.lt_iff_toInt_lt, Int32.toInt_toInt64, show (0 : Int32).toInt = 0 from rfl, show (3 : Int32).toInt = 3 from rfl, show (0 : Int64).toInt = 0 from rfl, show (3 : Int64).toInt = 3 from rfl] at h ⊢
  exact h
theorem in_no {x : Int64} (h1 : ¬ lg_cmp x 0 < 0) (h2 : ¬ 0 < lg_cmp x (-1)) : False := by
  rw [lg_cmp_lt] at h1
  rw [lg_cmp_gt] at h2
  simp only [Int64.lt_iff_toInt_lt, show (0 : Int64).toInt = 0 from rfl, show (-1 : Int64).toInt = -1 from rfl] at h1 h2
  omega
theorem in_out {x : Int64} (h : x < 0 ∨ 3 < x) (h1 : ¬ lg_cmp x 0 < 0) (h2 : ¬ 0 < lg_cmp x 3) : False := by
  rw [lg_cmp_lt] at h1
  rw [lg_cmp_gt] at h2
  exact h.elim h1 h2
set_option maxHeartbeats 4000000 in
set_option maxRecDepth 100000 in
/-- c_M_in_0 -/
theorem c_M_in_0 (l : Launch) (dC : Nat → ClassId) (dI : Nat → Nat → Nat) (sz : Nat) : Met l yX12_in (.code yX12_in cX12_in 6 (some .boolean) :: wsA) ({ frames := 0, cells := 0, slots := 0, locals := 0 }) (va_Pc [.long 0, .long 0, .long 3] (fun U => U.heap.size = sz ∧ va_P (dC, dI) classes [] U.heap ∧ va_K (dC, dI) classes [] U ∧ va_D (fun _ => True) [] ∧ xE U)) (va_Qi (fun (r : Int32) (_ : Unit) => r = 1) (fun _ t => va_P (dC, dI) classes [] t.heap ∧ va_K (dC, dI) classes [] t ∧ va_D (va_A [] sz) []) (va_A [] sz)) 0 0 (va_A [] sz) := by
  refine Met.ofW (cc := cX12_in) (maxL := 6) (ret := (some .boolean)) (by decide) rfl ?_
  intro p e s m args below meth c s₁ B hml hv
  obtain ⟨rfl, hsz, hP, hK, hD0, hE⟩ := hv
  have hx := B.exec
  have hb := B.bytes
  have hr := B.returns
  have hts := atoms_spec (ws := .code yX12_in cX12_in 6 (some .boolean) :: wsA) B.pre
  have hq : ∀ w ∈ wsA, w.before _ s = true := fun w h => hts w (List.mem_cons_of_mem _ h)
  have hown : s.vm.findClass RX12 = some m.cls := findClass_of_methodNamed B.named
  have hlocks := B.notSynchronized
  subst hsz
  have hD := hD0.self (sz := s.heap.size)
  generalize hAe : va_A [] s.heap.size = A at hD ⊢
  have hA : ∀ q : Nat, s.heap.size ≤ q → A q := fun q h => by rw [← hAe]; exact Or.inr h
  have hS : va_S A s.heap s.heap [] := va_S.rf
  have hl := lv_entry ([.long 0, .long 0, .long 3]) (n := 6) (Nat.le_of_ble_eq_true rfl)
  rw [lg_entry_eq]
  generalize (lg_sl ([.long 0, .long 0, .long 3]) ++ List.replicate (6 - (lg_sl ([.long 0, .long 0, .long 3])).length) Slot.unset).toArray = ls at hl ⊢
  have hl : lv_has ls 6 [(0, .long 0), (2, .long 0), (4, .long 3)] := hl
  refine lv_lload_n hx hb dX12_in_0 rfl (lv_at hl 0 rfl) ?_
  refine lv_lload_n hx hb dX12_in_1 rfl (lv_at hl 1 rfl) ?_
  refine W.lcmp hx hb dX12_in_2 ?_
  refine lv_topi (fun y_1 ey_1 => ?_)
  obtain rfl : y_1 = 0 := ey_1.trans (by decide)
  refine lv_if_lt (tgt := 17) hx hb dX12_in_3 (by decide) (fun c9 => absurd c9 (by decide)) (fun _ => ?_)
  refine lv_lload_n hx hb dX12_in_6 rfl (lv_at hl 0 rfl) ?_
  refine lv_lload hx hb dX12_in_7 (lv_at hl 2 rfl) ?_
  refine W.lcmp hx hb dX12_in_9 ?_
  refine lv_topi (fun y_2 ey_2 => ?_)
  obtain rfl : y_2 = (-1) := ey_2.trans (by decide)
  refine lv_if_gt (tgt := 17) hx hb dX12_in_10 (by decide) (fun c9 => absurd c9 (by decide)) (fun _ => ?_)
  refine lv_iconst (v := 1) hx hb dX12_in_13 (by decide) ?_
  refine lv_goto (tgt := 18) hx hb dX12_in_14 (by decide) ?_
  have hP9 := hP.sub (ws' := []) [] rfl
  have hD9 := hD.sub (ws' := []) [] (by decide) rfl
  have hK9 := hK.sub (tys' := []) [] rfl
  refine W.widen (k := 0) (n := 0) (Nat.le_of_ble_eq_true rfl) (Nat.le_of_ble_eq_true rfl) ?_
  exact W.zret (v := 1) hx hb hr (by decide) (fun t ht hW => ⟨⟨1, (), rfl, rfl, by rw [ht]; exact hP9, va_K.moved hW.alike hK9, hD9⟩, hS.F ht⟩) hS.2.2 dX12_in_18

set_option maxHeartbeats 4000000 in
set_option maxRecDepth 100000 in
/-- c_M_in_1 -/
theorem c_M_in_1 (l : Launch) (dC : Nat → ClassId) (dI : Nat → Nat → Nat) (sz : Nat) : Met l yX12_in (.code yX12_in cX12_in 6 (some .boolean) :: wsA) ({ frames := 0, cells := 0, slots := 0, locals := 0 }) (va_Pc [.long 1, .long 0, .long 3] (fun U => U.heap.size = sz ∧ va_P (dC, dI) classes [] U.heap ∧ va_K (dC, dI) classes [] U ∧ va_D (fun _ => True) [] ∧ xE U)) (va_Qi (fun (r : Int32) (_ : Unit) => r = 1) (fun _ t => va_P (dC, dI) classes [] t.heap ∧ va_K (dC, dI) classes [] t ∧ va_D (va_A [] sz) []) (va_A [] sz)) 0 0 (va_A [] sz) := by
  refine Met.ofW (cc := cX12_in) (maxL := 6) (ret := (some .boolean)) (by decide) rfl ?_
  intro p e s m args below meth c s₁ B hml hv
  obtain ⟨rfl, hsz, hP, hK, hD0, hE⟩ := hv
  have hx := B.exec
  have hb := B.bytes
  have hr := B.returns
  have hts := atoms_spec (ws := .code yX12_in cX12_in 6 (some .boolean) :: wsA) B.pre
  have hq : ∀ w ∈ wsA, w.before _ s = true := fun w h => hts w (List.mem_cons_of_mem _ h)
  have hown : s.vm.findClass RX12 = some m.cls := findClass_of_methodNamed B.named
  have hlocks := B.notSynchronized
  subst hsz
  have hD := hD0.self (sz := s.heap.size)
  generalize hAe : va_A [] s.heap.size = A at hD ⊢
  have hA : ∀ q : Nat, s.heap.size ≤ q → A q := fun q h => by rw [← hAe]; exact Or.inr h
  have hS : va_S A s.heap s.heap [] := va_S.rf
  have hl := lv_entry ([.long 1, .long 0, .long 3]) (n := 6) (Nat.le_of_ble_eq_true rfl)
  rw [lg_entry_eq]
  generalize (lg_sl ([.long 1, .long 0, .long 3]) ++ List.replicate (6 - (lg_sl ([.long 1, .long 0, .long 3])).length) Slot.unset).toArray = ls at hl ⊢
  have hl : lv_has ls 6 [(0, .long 1), (2, .long 0), (4, .long 3)] := hl
  refine lv_lload_n hx hb dX12_in_0 rfl (lv_at hl 0 rfl) ?_
  refine lv_lload_n hx hb dX12_in_1 rfl (lv_at hl 1 rfl) ?_
  refine W.lcmp hx hb dX12_in_2 ?_
  refine lv_topi (fun y_1 ey_1 => ?_)
  obtain rfl : y_1 = 1 := ey_1.trans (by decide)
  refine lv_if_lt (tgt := 17) hx hb dX12_in_3 (by decide) (fun c9 => absurd c9 (by decide)) (fun _ => ?_)
  refine lv_lload_n hx hb dX12_in_6 rfl (lv_at hl 0 rfl) ?_
  refine lv_lload hx hb dX12_in_7 (lv_at hl 2 rfl) ?_
  refine W.lcmp hx hb dX12_in_9 ?_
  refine lv_topi (fun y_2 ey_2 => ?_)
  obtain rfl : y_2 = (-1) := ey_2.trans (by decide)
  refine lv_if_gt (tgt := 17) hx hb dX12_in_10 (by decide) (fun c9 => absurd c9 (by decide)) (fun _ => ?_)
  refine lv_iconst (v := 1) hx hb dX12_in_13 (by decide) ?_
  refine lv_goto (tgt := 18) hx hb dX12_in_14 (by decide) ?_
  have hP9 := hP.sub (ws' := []) [] rfl
  have hD9 := hD.sub (ws' := []) [] (by decide) rfl
  have hK9 := hK.sub (tys' := []) [] rfl
  refine W.widen (k := 0) (n := 0) (Nat.le_of_ble_eq_true rfl) (Nat.le_of_ble_eq_true rfl) ?_
  exact W.zret (v := 1) hx hb hr (by decide) (fun t ht hW => ⟨⟨1, (), rfl, rfl, by rw [ht]; exact hP9, va_K.moved hW.alike hK9, hD9⟩, hS.F ht⟩) hS.2.2 dX12_in_18

set_option maxHeartbeats 4000000 in
set_option maxRecDepth 100000 in
/-- c_M_in_2 -/
theorem c_M_in_2 (l : Launch) (dC : Nat → ClassId) (dI : Nat → Nat → Nat) (sz : Nat) : Met l yX12_in (.code yX12_in cX12_in 6 (some .boolean) :: wsA) ({ frames := 0, cells := 0, slots := 0, locals := 0 }) (va_Pc [.long 2, .long 0, .long 3] (fun U => U.heap.size = sz ∧ va_P (dC, dI) classes [] U.heap ∧ va_K (dC, dI) classes [] U ∧ va_D (fun _ => True) [] ∧ xE U)) (va_Qi (fun (r : Int32) (_ : Unit) => r = 1) (fun _ t => va_P (dC, dI) classes [] t.heap ∧ va_K (dC, dI) classes [] t ∧ va_D (va_A [] sz) []) (va_A [] sz)) 0 0 (va_A [] sz) := by
  refine Met.ofW (cc := cX12_in) (maxL := 6) (ret := (some .boolean)) (by decide) rfl ?_
  intro p e s m args below meth c s₁ B hml hv
  obtain ⟨rfl, hsz, hP, hK, hD0, hE⟩ := hv
  have hx := B.exec
  have hb := B.bytes
  have hr := B.returns
  have hts := atoms_spec (ws := .code yX12_in cX12_in 6 (some .boolean) :: wsA) B.pre
  have hq : ∀ w ∈ wsA, w.before _ s = true := fun w h => hts w (List.mem_cons_of_mem _ h)
  have hown : s.vm.findClass RX12 = some m.cls := findClass_of_methodNamed B.named
  have hlocks := B.notSynchronized
  subst hsz
  have hD := hD0.self (sz := s.heap.size)
  generalize hAe : va_A [] s.heap.size = A at hD ⊢
  have hA : ∀ q : Nat, s.heap.size ≤ q → A q := fun q h => by rw [← hAe]; exact Or.inr h
  have hS : va_S A s.heap s.heap [] := va_S.rf
  have hl := lv_entry ([.long 2, .long 0, .long 3]) (n := 6) (Nat.le_of_ble_eq_true rfl)
  rw [lg_entry_eq]
  generalize (lg_sl ([.long 2, .long 0, .long 3]) ++ List.replicate (6 - (lg_sl ([.long 2, .long 0, .long 3])).length) Slot.unset).toArray = ls at hl ⊢
  have hl : lv_has ls 6 [(0, .long 2), (2, .long 0), (4, .long 3)] := hl
  refine lv_lload_n hx hb dX12_in_0 rfl (lv_at hl 0 rfl) ?_
  refine lv_lload_n hx hb dX12_in_1 rfl (lv_at hl 1 rfl) ?_
  refine W.lcmp hx hb dX12_in_2 ?_
  refine lv_topi (fun y_1 ey_1 => ?_)
  obtain rfl : y_1 = 1 := ey_1.trans (by decide)
  refine lv_if_lt (tgt := 17) hx hb dX12_in_3 (by decide) (fun c9 => absurd c9 (by decide)) (fun _ => ?_)
  refine lv_lload_n hx hb dX12_in_6 rfl (lv_at hl 0 rfl) ?_
  refine lv_lload hx hb dX12_in_7 (lv_at hl 2 rfl) ?_
  refine W.lcmp hx hb dX12_in_9 ?_
  refine lv_topi (fun y_2 ey_2 => ?_)
  obtain rfl : y_2 = (-1) := ey_2.trans (by decide)
  refine lv_if_gt (tgt := 17) hx hb dX12_in_10 (by decide) (fun c9 => absurd c9 (by decide)) (fun _ => ?_)
  refine lv_iconst (v := 1) hx hb dX12_in_13 (by decide) ?_
  refine lv_goto (tgt := 18) hx hb dX12_in_14 (by decide) ?_
  have hP9 := hP.sub (ws' := []) [] rfl
  have hD9 := hD.sub (ws' := []) [] (by decide) rfl
  have hK9 := hK.sub (tys' := []) [] rfl
  refine W.widen (k := 0) (n := 0) (Nat.le_of_ble_eq_true rfl) (Nat.le_of_ble_eq_true rfl) ?_
  exact W.zret (v := 1) hx hb hr (by decide) (fun t ht hW => ⟨⟨1, (), rfl, rfl, by rw [ht]; exact hP9, va_K.moved hW.alike hK9, hD9⟩, hS.F ht⟩) hS.2.2 dX12_in_18

set_option maxHeartbeats 4000000 in
set_option maxRecDepth 100000 in
/-- c_M_in_3 -/
theorem c_M_in_3 (l : Launch) (dC : Nat → ClassId) (dI : Nat → Nat → Nat) (sz : Nat) : Met l yX12_in (.code yX12_in cX12_in 6 (some .boolean) :: wsA) ({ frames := 0, cells := 0, slots := 0, locals := 0 }) (va_Pc [.long 3, .long 0, .long 3] (fun U => U.heap.size = sz ∧ va_P (dC, dI) classes [] U.heap ∧ va_K (dC, dI) classes [] U ∧ va_D (fun _ => True) [] ∧ xE U)) (va_Qi (fun (r : Int32) (_ : Unit) => r = 1) (fun _ t => va_P (dC, dI) classes [] t.heap ∧ va_K (dC, dI) classes [] t ∧ va_D (va_A [] sz) []) (va_A [] sz)) 0 0 (va_A [] sz) := by
  refine Met.ofW (cc := cX12_in) (maxL := 6) (ret := (some .boolean)) (by decide) rfl ?_
  intro p e s m args below meth c s₁ B hml hv
  obtain ⟨rfl, hsz, hP, hK, hD0, hE⟩ := hv
  have hx := B.exec
  have hb := B.bytes
  have hr := B.returns
  have hts := atoms_spec (ws := .code yX12_in cX12_in 6 (some .boolean) :: wsA) B.pre
  have hq : ∀ w ∈ wsA, w.before _ s = true := fun w h => hts w (List.mem_cons_of_mem _ h)
  have hown : s.vm.findClass RX12 = some m.cls := findClass_of_methodNamed B.named
  have hlocks := B.notSynchronized
  subst hsz
  have hD := hD0.self (sz := s.heap.size)
  generalize hAe : va_A [] s.heap.size = A at hD ⊢
  have hA : ∀ q : Nat, s.heap.size ≤ q → A q := fun q h => by rw [← hAe]; exact Or.inr h
  have hS : va_S A s.heap s.heap [] := va_S.rf
  have hl := lv_entry ([.long 3, .long 0, .long 3]) (n := 6) (Nat.le_of_ble_eq_true rfl)
  rw [lg_entry_eq]
  generalize (lg_sl ([.long 3, .long 0, .long 3]) ++ List.replicate (6 - (lg_sl ([.long 3, .long 0, .long 3])).length) Slot.unset).toArray = ls at hl ⊢
  have hl : lv_has ls 6 [(0, .long 3), (2, .long 0), (4, .long 3)] := hl
  refine lv_lload_n hx hb dX12_in_0 rfl (lv_at hl 0 rfl) ?_
  refine lv_lload_n hx hb dX12_in_1 rfl (lv_at hl 1 rfl) ?_
  refine W.lcmp hx hb dX12_in_2 ?_
  refine lv_topi (fun y_1 ey_1 => ?_)
  obtain rfl : y_1 = 1 := ey_1.trans (by decide)
  refine lv_if_lt (tgt := 17) hx hb dX12_in_3 (by decide) (fun c9 => absurd c9 (by decide)) (fun _ => ?_)
  refine lv_lload_n hx hb dX12_in_6 rfl (lv_at hl 0 rfl) ?_
  refine lv_lload hx hb dX12_in_7 (lv_at hl 2 rfl) ?_
  refine W.lcmp hx hb dX12_in_9 ?_
  refine lv_topi (fun y_2 ey_2 => ?_)
  obtain rfl : y_2 = 0 := ey_2.trans (by decide)
  refine lv_if_gt (tgt := 17) hx hb dX12_in_10 (by decide) (fun c9 => absurd c9 (by decide)) (fun _ => ?_)
  refine lv_iconst (v := 1) hx hb dX12_in_13 (by decide) ?_
  refine lv_goto (tgt := 18) hx hb dX12_in_14 (by decide) ?_
  have hP9 := hP.sub (ws' := []) [] rfl
  have hD9 := hD.sub (ws' := []) [] (by decide) rfl
  have hK9 := hK.sub (tys' := []) [] rfl
  refine W.widen (k := 0) (n := 0) (Nat.le_of_ble_eq_true rfl) (Nat.le_of_ble_eq_true rfl) ?_
  exact W.zret (v := 1) hx hb hr (by decide) (fun t ht hW => ⟨⟨1, (), rfl, rfl, by rw [ht]; exact hP9, va_K.moved hW.alike hK9, hD9⟩, hS.F ht⟩) hS.2.2 dX12_in_18

set_option maxHeartbeats 4000000 in
set_option maxRecDepth 100000 in
/-- c_M_in_no -/
theorem c_M_in_no (l : Launch) (dC : Nat → ClassId) (dI : Nat → Nat → Nat) (sz : Nat) (x0 : Int64) : Met l yX12_in (.code yX12_in cX12_in 6 (some .boolean) :: wsA) ({ frames := 0, cells := 0, slots := 0, locals := 0 }) (va_Pc [.long x0, .long 0, .long (-1)] (fun U => U.heap.size = sz ∧ va_P (dC, dI) classes [] U.heap ∧ va_K (dC, dI) classes [] U ∧ va_D (fun _ => True) [] ∧ xE U)) (va_Qi (fun (r : Int32) (_ : Unit) => r = 0) (fun _ t => va_P (dC, dI) classes [] t.heap ∧ va_K (dC, dI) classes [] t ∧ va_D (va_A [] sz) []) (va_A [] sz)) 0 0 (va_A [] sz) := by
  refine Met.ofW (cc := cX12_in) (maxL := 6) (ret := (some .boolean)) (by decide) rfl ?_
  intro p e s m args below meth c s₁ B hml hv
  obtain ⟨rfl, hsz, hP, hK, hD0, hE⟩ := hv
  have hx := B.exec
  have hb := B.bytes
  have hr := B.returns
  have hts := atoms_spec (ws := .code yX12_in cX12_in 6 (some .boolean) :: wsA) B.pre
  have hq : ∀ w ∈ wsA, w.before _ s = true := fun w h => hts w (List.mem_cons_of_mem _ h)
  have hown : s.vm.findClass RX12 = some m.cls := findClass_of_methodNamed B.named
  have hlocks := B.notSynchronized
  subst hsz
  have hD := hD0.self (sz := s.heap.size)
  generalize hAe : va_A [] s.heap.size = A at hD ⊢
  have hA : ∀ q : Nat, s.heap.size ≤ q → A q := fun q h => by rw [← hAe]; exact Or.inr h
  have hS : va_S A s.heap s.heap [] := va_S.rf
  have hl := lv_entry ([.long x0, .long 0, .long (-1)]) (n := 6) (Nat.le_of_ble_eq_true rfl)
  rw [lg_entry_eq]
  generalize (lg_sl ([.long x0, .long 0, .long (-1)]) ++ List.replicate (6 - (lg_sl ([.long x0, .long 0, .long (-1)])).length) Slot.unset).toArray = ls at hl ⊢
  have hl : lv_has ls 6 [(0, .long x0), (2, .long 0), (4, .long (-1))] := hl
  refine lv_lload_n hx hb dX12_in_0 rfl (lv_at hl 0 rfl) ?_
  refine lv_lload_n hx hb dX12_in_1 rfl (lv_at hl 1 rfl) ?_
  refine W.lcmp hx hb dX12_in_2 ?_
  refine lv_if_lt (tgt := 17) hx hb dX12_in_3 (by decide) (fun c_1 => ?_) (fun c_1 => ?_)
  · refine lv_iconst (v := 0) hx hb dX12_in_17 (by decide) ?_
    have hP9 := hP.sub (ws' := []) [] rfl
    have hD9 := hD.sub (ws' := []) [] (by decide) rfl
    have hK9 := hK.sub (tys' := []) [] rfl
    refine W.widen (k := 0) (n := 0) (Nat.le_of_ble_eq_true rfl) (Nat.le_of_ble_eq_true rfl) ?_
    exact W.zret (v := 0) hx hb hr (by decide) (fun t ht hW => ⟨⟨0, (), rfl, rfl, by rw [ht]; exact hP9, va_K.moved hW.alike hK9, hD9⟩, hS.F ht⟩) hS.2.2 dX12_in_18
  · refine lv_lload_n hx hb dX12_in_6 rfl (lv_at hl 0 rfl) ?_
    refine lv_lload hx hb dX12_in_7 (lv_at hl 2 rfl) ?_
    refine W.lcmp hx hb dX12_in_9 ?_
    refine lv_if_gt (tgt := 17) hx hb dX12_in_10 (by decide) (fun _ => ?_) (fun c9 => (in_no c_1 c9).elim)
    refine lv_iconst (v := 0) hx hb dX12_in_17 (by decide) ?_
    have hP9 := hP.sub (ws' := []) [] rfl
    have hD9 := hD.sub (ws' := []) [] (by decide) rfl
    have hK9 := hK.sub (tys' := []) [] rfl
    refine W.widen (k := 0) (n := 0) (Nat.le_of_ble_eq_true rfl) (Nat.le_of_ble_eq_true rfl) ?_
    exact W.zret (v := 0) hx hb hr (by decide) (fun t ht hW => ⟨⟨0, (), rfl, rfl, by rw [ht]; exact hP9, va_K.moved hW.alike hK9, hD9⟩, hS.F ht⟩) hS.2.2 dX12_in_18

set_option maxHeartbeats 4000000 in
set_option maxRecDepth 100000 in
/-- c_M_in_out -/
theorem c_M_in_out (l : Launch) (dC : Nat → ClassId) (dI : Nat → Nat → Nat) (sz : Nat) (x0 : Int64) (hx0 : x0 < 0 ∨ 3 < x0) : Met l yX12_in (.code yX12_in cX12_in 6 (some .boolean) :: wsA) ({ frames := 0, cells := 0, slots := 0, locals := 0 }) (va_Pc [.long x0, .long 0, .long 3] (fun U => U.heap.size = sz ∧ va_P (dC, dI) classes [] U.heap ∧ va_K (dC, dI) classes [] U ∧ va_D (fun _ => True) [] ∧ xE U)) (va_Qi (fun (r : Int32) (_ : Unit) => r = 0) (fun _ t => va_P (dC, dI) classes [] t.heap ∧ va_K (dC, dI) classes [] t ∧ va_D (va_A [] sz) []) (va_A [] sz)) 0 0 (va_A [] sz) := by
  refine Met.ofW (cc := cX12_in) (maxL := 6) (ret := (some .boolean)) (by decide) rfl ?_
  intro p e s m args below meth c s₁ B hml hv
  obtain ⟨rfl, hsz, hP, hK, hD0, hE⟩ := hv
  have hx := B.exec
  have hb := B.bytes
  have hr := B.returns
  have hts := atoms_spec (ws := .code yX12_in cX12_in 6 (some .boolean) :: wsA) B.pre
  have hq : ∀ w ∈ wsA, w.before _ s = true := fun w h => hts w (List.mem_cons_of_mem _ h)
  have hown : s.vm.findClass RX12 = some m.cls := findClass_of_methodNamed B.named
  have hlocks := B.notSynchronized
  subst hsz
  have hD := hD0.self (sz := s.heap.size)
  generalize hAe : va_A [] s.heap.size = A at hD ⊢
  have hA : ∀ q : Nat, s.heap.size ≤ q → A q := fun q h => by rw [← hAe]; exact Or.inr h
  have hS : va_S A s.heap s.heap [] := va_S.rf
  have hl := lv_entry ([.long x0, .long 0, .long 3]) (n := 6) (Nat.le_of_ble_eq_true rfl)
  rw [lg_entry_eq]
  generalize (lg_sl ([.long x0, .long 0, .long 3]) ++ List.replicate (6 - (lg_sl ([.long x0, .long 0, .long 3])).length) Slot.unset).toArray = ls at hl ⊢
  have hl : lv_has ls 6 [(0, .long x0), (2, .long 0), (4, .long 3)] := hl
  refine lv_lload_n hx hb dX12_in_0 rfl (lv_at hl 0 rfl) ?_
  refine lv_lload_n hx hb dX12_in_1 rfl (lv_at hl 1 rfl) ?_
  refine W.lcmp hx hb dX12_in_2 ?_
  refine lv_if_lt (tgt := 17) hx hb dX12_in_3 (by decide) (fun c_1 => ?_) (fun c_1 => ?_)
  · refine lv_iconst (v := 0) hx hb dX12_in_17 (by decide) ?_
    have hP9 := hP.sub (ws' := []) [] rfl
    have hD9 := hD.sub (ws' := []) [] (by decide) rfl
    have hK9 := hK.sub (tys' := []) [] rfl
    refine W.widen (k := 0) (n := 0) (Nat.le_of_ble_eq_true rfl) (Nat.le_of_ble_eq_true rfl) ?_
    exact W.zret (v := 0) hx hb hr (by decide) (fun t ht hW => ⟨⟨0, (), rfl, rfl, by rw [ht]; exact hP9, va_K.moved hW.alike hK9, hD9⟩, hS.F ht⟩) hS.2.2 dX12_in_18
  · refine lv_lload_n hx hb dX12_in_6 rfl (lv_at hl 0 rfl) ?_
    refine lv_lload hx hb dX12_in_7 (lv_at hl 2 rfl) ?_
    refine W.lcmp hx hb dX12_in_9 ?_
    refine lv_if_gt (tgt := 17) hx hb dX12_in_10 (by decide) (fun _ => ?_) (fun c9 => (in_out hx0 c_1 c9).elim)
    refine lv_iconst (v := 0) hx hb dX12_in_17 (by decide) ?_
    have hP9 := hP.sub (ws' := []) [] rfl
    have hD9 := hD.sub (ws' := []) [] (by decide) rfl
    have hK9 := hK.sub (tys' := []) [] rfl
    refine W.widen (k := 0) (n := 0) (Nat.le_of_ble_eq_true rfl) (Nat.le_of_ble_eq_true rfl) ?_
    exact W.zret (v := 0) hx hb hr (by decide) (fun t ht hW => ⟨⟨0, (), rfl, rfl, by rw [ht]; exact hP9, va_K.moved hW.alike hK9, hD9⟩, hS.F ht⟩) hS.2.2 dX12_in_18

set_option maxHeartbeats 4000000 in
set_option maxRecDepth 100000 in
/-- c_M_in_any -/
theorem c_M_in_any (l : Launch) (dC : Nat → ClassId) (dI : Nat → Nat → Nat) (sz : Nat) (x0 : Int64) (x1 : Int64) (x2 : Int64) : Met l yX12_in (.code yX12_in cX12_in 6 (some .boolean) :: wsA) ({ frames := 0, cells := 0, slots := 0, locals := 0 }) (va_Pc [.long x0, .long x1, .long x2] (fun U => U.heap.size = sz ∧ va_P (dC, dI) classes [] U.heap ∧ va_K (dC, dI) classes [] U ∧ va_D (fun _ => True) [] ∧ xE U)) (va_Qi (fun (r : Int32) (_ : Unit) => True) (fun _ t => va_P (dC, dI) classes [] t.heap ∧ va_K (dC, dI) classes [] t ∧ va_D (va_A [] sz) []) (va_A [] sz)) 0 0 (va_A [] sz) := by
  refine Met.ofW (cc := cX12_in) (maxL := 6) (ret := (some .boolean)) (by decide) rfl ?_
  intro p e s m args below meth c s₁ B hml hv
  obtain ⟨rfl, hsz, hP, hK, hD0, hE⟩ := hv
  have hx := B.exec
  have hb := B.bytes
  have hr := B.returns
  have hts := atoms_spec (ws := .code yX12_in cX12_in 6 (some .boolean) :: wsA) B.pre
  have hq : ∀ w ∈ wsA, w.before _ s = true := fun w h => hts w (List.mem_cons_of_mem _ h)
  have hown : s.vm.findClass RX12 = some m.cls := findClass_of_methodNamed B.named
  have hlocks := B.notSynchronized
  subst hsz
  have hD := hD0.self (sz := s.heap.size)
  generalize hAe : va_A [] s.heap.size = A at hD ⊢
  have hA : ∀ q : Nat, s.heap.size ≤ q → A q := fun q h => by rw [← hAe]; exact Or.inr h
  have hS : va_S A s.heap s.heap [] := va_S.rf
  have hl := lv_entry ([.long x0, .long x1, .long x2]) (n := 6) (Nat.le_of_ble_eq_true rfl)
  rw [lg_entry_eq]
  generalize (lg_sl ([.long x0, .long x1, .long x2]) ++ List.replicate (6 - (lg_sl ([.long x0, .long x1, .long x2])).length) Slot.unset).toArray = ls at hl ⊢
  have hl : lv_has ls 6 [(0, .long x0), (2, .long x1), (4, .long x2)] := hl
  refine lv_lload_n hx hb dX12_in_0 rfl (lv_at hl 0 rfl) ?_
  refine lv_lload_n hx hb dX12_in_1 rfl (lv_at hl 1 rfl) ?_
  refine W.lcmp hx hb dX12_in_2 ?_
  refine lv_if_lt (tgt := 17) hx hb dX12_in_3 (by decide) (fun c_1 => ?_) (fun c_1 => ?_)
  · refine lv_iconst (v := 0) hx hb dX12_in_17 (by decide) ?_
    have hP9 := hP.sub (ws' := []) [] rfl
    have hD9 := hD.sub (ws' := []) [] (by decide) rfl
    have hK9 := hK.sub (tys' := []) [] rfl
    refine W.widen (k := 0) (n := 0) (Nat.le_of_ble_eq_true rfl) (Nat.le_of_ble_eq_true rfl) ?_
    exact W.zret (v := 0) hx hb hr (by decide) (fun t ht hW => ⟨⟨0, (), rfl, trivial, by rw [ht]; exact hP9, va_K.moved hW.alike hK9, hD9⟩, hS.F ht⟩) hS.2.2 dX12_in_18
  · refine lv_lload_n hx hb dX12_in_6 rfl (lv_at hl 0 rfl) ?_
    refine lv_lload hx hb dX12_in_7 (lv_at hl 2 rfl) ?_
    refine W.lcmp hx hb dX12_in_9 ?_
    refine lv_if_gt (tgt := 17) hx hb dX12_in_10 (by decide) (fun c_2 => ?_) (fun c_2 => ?_)
    · refine lv_iconst (v := 0) hx hb dX12_in_17 (by decide) ?_
      have hP9 := hP.sub (ws' := []) [] rfl
      have hD9 := hD.sub (ws' := []) [] (by decide) rfl
      have hK9 := hK.sub (tys' := []) [] rfl
      refine W.widen (k := 0) (n := 0) (Nat.le_of_ble_eq_true rfl) (Nat.le_of_ble_eq_true rfl) ?_
      exact W.zret (v := 0) hx hb hr (by decide) (fun t ht hW => ⟨⟨0, (), rfl, trivial, by rw [ht]; exact hP9, va_K.moved hW.alike hK9, hD9⟩, hS.F ht⟩) hS.2.2 dX12_in_18
    · refine lv_iconst (v := 1) hx hb dX12_in_13 (by decide) ?_
      refine lv_goto (tgt := 18) hx hb dX12_in_14 (by decide) ?_
      have hP9 := hP.sub (ws' := []) [] rfl
      have hD9 := hD.sub (ws' := []) [] (by decide) rfl
      have hK9 := hK.sub (tys' := []) [] rfl
      refine W.widen (k := 0) (n := 0) (Nat.le_of_ble_eq_true rfl) (Nat.le_of_ble_eq_true rfl) ?_
      exact W.zret (v := 1) hx hb hr (by decide) (fun t ht hW => ⟨⟨1, (), rfl, trivial, by rw [ht]; exact hP9, va_K.moved hW.alike hK9, hD9⟩, hS.F ht⟩) hS.2.2 dX12_in_18

set_option maxHeartbeats 4000000 in
set_option maxRecDepth 100000 in
/-- c_M_isDinner -/
theorem c_M_isDinner (l : Launch) (dC : Nat → ClassId) (dI : Nat → Nat → Nat) (sz : Nat) (h0 : Nat) (s0 : Nat) (s3 : Nat) (s4 : Nat) (s5 : Nat) (s6 : Nat) (s7 : Nat) (s15 : Nat) (s17 : Nat) (s19 : Nat) (s20 : Nat) (s27 : Nat) (s29 : Nat) (s30 : Nat) (s31 : Nat) (s35 : Nat) (s36 : Nat) (s37 : Nat) (s39 : Nat) (s40 : Nat) (s41 : Nat) (s42 : Nat) (k20 : ClassId) : Met l yX12_isDinner (.code yX12_isDinner cX12_isDinner 1 (some .boolean) :: wsA) ({ frames := 0, cells := 0, slots := 0, locals := 0 }) (va_Pc [.ref h0] (fun U => U.heap.size = sz ∧ va_P (dC, dI) classes [(h0, .inr (12, [.ref s0, .int 0, .int 0, .ref s3, .ref s4, .ref s5, .ref s6, .ref s7, .int 0, .int 0, .int 0, .int 0, .int 0, .int 0, .int 0, .ref s15, .int 0, .ref s17, .int 0, .ref s19, .ref s20, .int (-1), .int 0, .int 0, .int 0, .int 0, .int 0, .ref s27, .int 0, .ref s29, .ref s30, .ref s31, .int 0, .int 0, .int 0, .ref s35, .ref s36, .ref s37, .long 0, .ref s39, .ref s40, .ref s41, .ref s42])), (s20, .inl (k20, 100, .inl (fun _ => 0)))] U.heap ∧ va_K (dC, dI) classes [(k20, .int)] U ∧ va_D (fun _ => True) [(h0, .inr (12, [.ref s0, .int 0, .int 0, .ref s3, .ref s4, .ref s5, .ref s6, .ref s7, .int 0, .int 0, .int 0, .int 0, .int 0, .int 0, .int 0, .ref s15, .int 0, .ref s17, .int 0, .ref s19, .ref s20, .int (-1), .int 0, .int 0, .int 0, .int 0, .int 0, .ref s27, .int 0, .ref s29, .ref s30, .ref s31, .int 0, .int 0, .int 0, .ref s35, .ref s36, .ref s37, .long 0, .ref s39, .ref s40, .ref s41, .ref s42])), (s20, .inl (k20, 100, .inl (fun _ => 0)))] ∧ xE U)) (va_Qi (fun (r : Int32) (_ : Unit) => r = 0) (fun _ t => va_P (dC, dI) classes [(h0, .inr (12, [.ref s0, .int 0, .int 0, .ref s3, .ref s4, .ref s5, .ref s6, .ref s7, .int 0, .int 0, .int 0, .int 0, .int 0, .int 0, .int 0, .ref s15, .int 0, .ref s17, .int 0, .ref s19, .ref s20, .int (-1), .int 0, .int 0, .int 0, .int 0, .int 0, .ref s27, .int 0, .ref s29, .ref s30, .ref s31, .int 0, .int 0, .int 0, .ref s35, .ref s36, .ref s37, .long 0, .ref s39, .ref s40, .ref s41, .ref s42])), (s20, .inl (k20, 100, .inl (fun _ => 0)))] t.heap ∧ va_K (dC, dI) classes [(k20, .int)] t ∧ va_D (va_A [(h0, .inr (12, [.ref s0, .int 0, .int 0, .ref s3, .ref s4, .ref s5, .ref s6, .ref s7, .int 0, .int 0, .int 0, .int 0, .int 0, .int 0, .int 0, .ref s15, .int 0, .ref s17, .int 0, .ref s19, .ref s20, .int (-1), .int 0, .int 0, .int 0, .int 0, .int 0, .ref s27, .int 0, .ref s29, .ref s30, .ref s31, .int 0, .int 0, .int 0, .ref s35, .ref s36, .ref s37, .long 0, .ref s39, .ref s40, .ref s41, .ref s42])), (s20, .inl (k20, 100, .inl (fun _ => 0)))] sz) [(h0, .inr (12, [.ref s0, .int 0, .int 0, .ref s3, .ref s4, .ref s5, .ref s6, .ref s7, .int 0, .int 0, .int 0, .int 0, .int 0, .int 0, .int 0, .ref s15, .int 0, .ref s17, .int 0, .ref s19, .ref s20, .int (-1), .int 0, .int 0, .int 0, .int 0, .int 0, .ref s27, .int 0, .ref s29, .ref s30, .ref s31, .int 0, .int 0, .int 0, .ref s35, .ref s36, .ref s37, .long 0, .ref s39, .ref s40, .ref s41, .ref s42])), (s20, .inl (k20, 100, .inl (fun _ => 0)))]) (va_A [(h0, .inr (12, [.ref s0, .int 0, .int 0, .ref s3, .ref s4, .ref s5, .ref s6, .ref s7, .int 0, .int 0, .int 0, .int 0, .int 0, .int 0, .int 0, .ref s15, .int 0, .ref s17, .int 0, .ref s19, .ref s20, .int (-1), .int 0, .int 0, .int 0, .int 0, .int 0, .ref s27, .int 0, .ref s29, .ref s30, .ref s31, .int 0, .int 0, .int 0, .ref s35, .ref s36, .ref s37, .long 0, .ref s39, .ref s40, .ref s41, .ref s42])), (s20, .inl (k20, 100, .inl (fun _ => 0)))] sz)) 0 0 (va_A [(h0, .inr (12, [.ref s0, .int 0, .int 0, .ref s3, .ref s4, .ref s5, .ref s6, .ref s7, .int 0, .int 0, .int 0, .int 0, .int 0, .int 0, .int 0, .ref s15, .int 0, .ref s17, .int 0, .ref s19, .ref s20, .int (-1), .int 0, .int 0, .int 0, .int 0, .int 0, .ref s27, .int 0, .ref s29, .ref s30, .ref s31, .int 0, .int 0, .int 0, .ref s35, .ref s36, .ref s37, .long 0, .ref s39, .ref s40, .ref s41, .ref s42])), (s20, .inl (k20, 100, .inl (fun _ => 0)))] sz) := by
  refine Met.ofW (cc := cX12_isDinner) (maxL := 1) (ret := (some .boolean)) (by decide) rfl ?_
  intro p e s m args below meth c s₁ B hml hv
  obtain ⟨rfl, hsz, hP, hK, hD0, hE⟩ := hv
  have hx := B.exec
  have hb := B.bytes
  have hr := B.returns
  have hts := atoms_spec (ws := .code yX12_isDinner cX12_isDinner 1 (some .boolean) :: wsA) B.pre
  have hq : ∀ w ∈ wsA, w.before _ s = true := fun w h => hts w (List.mem_cons_of_mem _ h)
  have hown : s.vm.findClass RX12 = some m.cls := findClass_of_methodNamed B.named
  have hlocks := B.notSynchronized
  subst hsz
  have hD := hD0.self (sz := s.heap.size)
  generalize hAe : va_A [(h0, .inr (12, [.ref s0, .int 0, .int 0, .ref s3, .ref s4, .ref s5, .ref s6, .ref s7, .int 0, .int 0, .int 0, .int 0, .int 0, .int 0, .int 0, .ref s15, .int 0, .ref s17, .int 0, .ref s19, .ref s20, .int (-1), .int 0, .int 0, .int 0, .int 0, .int 0, .ref s27, .int 0, .ref s29, .ref s30, .ref s31, .int 0, .int 0, .int 0, .ref s35, .ref s36, .ref s37, .long 0, .ref s39, .ref s40, .ref s41, .ref s42])), (s20, .inl (k20, 100, .inl (fun _ => 0)))] s.heap.size = A at hD ⊢
  have hA : ∀ q : Nat, s.heap.size ≤ q → A q := fun q h => by rw [← hAe]; exact Or.inr h
  have hS : va_S A s.heap s.heap [] := va_S.rf
  have hl := lv_entry ([.ref h0]) (n := 1) (Nat.le_of_ble_eq_true rfl)
  rw [lg_entry_eq]
  generalize (lg_sl ([.ref h0]) ++ List.replicate (1 - (lg_sl ([.ref h0])).length) Slot.unset).toArray = ls at hl ⊢
  have hl : lv_has ls 1 [(0, .ref h0)] := hl
  refine lv_aload_n hx hb dX12_isDinner_0 rfl (lv_at hl 0 rfl) ?_
  refine va_get (D := (dC, dI)) (ci := 12) (v := .ref s20) (C := RX12) (T := TX12) (N := 43) hx hb hq inX12 hown hK hP 0 rfl rfl 20 (by decide) (hq _ qw_1180) (fun _ h9 => h9) rfl dX12_isDinner_1 ?_
  refine lv_iconst (v := 0) hx hb dX12_isDinner_4 (by decide) ?_
  refine va_iald hx hb hK hP 1 0 rfl rfl (inr_ok rfl) dX12_isDinner_5 ?_
  refine lv_topi (fun y_1 ey_1 => ?_)
  obtain rfl : y_1 = 0 := ey_1.trans (rfl)
  refine lv_iconst (v := 1) hx hb dX12_isDinner_6 (by decide) ?_
  refine lv_icmp_ne (tgt := 14) hx hb dX12_isDinner_7 (by decide) (fun _ => ?_) (fun c9 => absurd c9 (by decide))
  refine lv_iconst (v := 0) hx hb dX12_isDinner_14 (by decide) ?_
  have hP9 := hP.sub (ws' := [(h0, .inr (12, [.ref s0, .int 0, .int 0, .ref s3, .ref s4, .ref s5, .ref s6, .ref s7, .int 0, .int 0, .int 0, .int 0, .int 0, .int 0, .int 0, .ref s15, .int 0, .ref s17, .int 0, .ref s19, .ref s20, .int (-1), .int 0, .int 0, .int 0, .int 0, .int 0, .ref s27, .int 0, .ref s29, .ref s30, .ref s31, .int 0, .int 0, .int 0, .ref s35, .ref s36, .ref s37, .long 0, .ref s39, .ref s40, .ref s41, .ref s42])), (s20, .inl (k20, 100, .inl (fun _ => 0)))]) [0, 1] rfl
  have hD9 := hD.sub (ws' := [(h0, .inr (12, [.ref s0, .int 0, .int 0, .ref s3, .ref s4, .ref s5, .ref s6, .ref s7, .int 0, .int 0, .int 0, .int 0, .int 0, .int 0, .int 0, .ref s15, .int 0, .ref s17, .int 0, .ref s19, .ref s20, .int (-1), .int 0, .int 0, .int 0, .int 0, .int 0, .ref s27, .int 0, .ref s29, .ref s30, .ref s31, .int 0, .int 0, .int 0, .ref s35, .ref s36, .ref s37, .long 0, .ref s39, .ref s40, .ref s41, .ref s42])), (s20, .inl (k20, 100, .inl (fun _ => 0)))]) [0, 1] (by decide) rfl
  have hK9 := hK.sub (tys' := [(k20, .int)]) [0] rfl
  refine W.widen (k := 0) (n := 0) (Nat.le_of_ble_eq_true rfl) (Nat.le_of_ble_eq_true rfl) ?_
  exact W.zret (v := 0) hx hb hr (by decide) (fun t ht hW => ⟨⟨0, (), rfl, rfl, by rw [ht]; exact hP9, va_K.moved hW.alike hK9, hD9⟩, hS.F ht⟩) hS.2.2 dX12_isDinner_15

set_option maxHeartbeats 4000000 in
set_option maxRecDepth 100000 in
/-- c_M_isDish -/
theorem c_M_isDish (l : Launch) (dC : Nat → ClassId) (dI : Nat → Nat → Nat) (sz : Nat) (h0 : Nat) (s0 : Nat) (s3 : Nat) (s4 : Nat) (s5 : Nat) (s6 : Nat) (s7 : Nat) (s15 : Nat) (s17 : Nat) (s19 : Nat) (s20 : Nat) (s27 : Nat) (s29 : Nat) (s30 : Nat) (s31 : Nat) (s35 : Nat) (s36 : Nat) (s37 : Nat) (s39 : Nat) (s40 : Nat) (s41 : Nat) (s42 : Nat) (k20 : ClassId) (x0 : Int32) : Met l yX12_isDish (.code yX12_isDish cX12_isDish 2 (some .boolean) :: wsA) ({ frames := 0, cells := 0, slots := 0, locals := 0 }) (va_Pc [.ref h0, .int x0] (fun U => U.heap.size = sz ∧ va_P (dC, dI) classes [(h0, .inr (12, [.ref s0, .int 0, .int 0, .ref s3, .ref s4, .ref s5, .ref s6, .ref s7, .int 0, .int 0, .int 0, .int 0, .int 0, .int 0, .int 0, .ref s15, .int 0, .ref s17, .int 0, .ref s19, .ref s20, .int (-1), .int 0, .int 0, .int 0, .int 0, .int 0, .ref s27, .int 0, .ref s29, .ref s30, .ref s31, .int 0, .int 0, .int 0, .ref s35, .ref s36, .ref s37, .long 0, .ref s39, .ref s40, .ref s41, .ref s42])), (s20, .inl (k20, 100, .inl (fun _ => 0)))] U.heap ∧ va_K (dC, dI) classes [(k20, .int)] U ∧ va_D (fun _ => True) [(h0, .inr (12, [.ref s0, .int 0, .int 0, .ref s3, .ref s4, .ref s5, .ref s6, .ref s7, .int 0, .int 0, .int 0, .int 0, .int 0, .int 0, .int 0, .ref s15, .int 0, .ref s17, .int 0, .ref s19, .ref s20, .int (-1), .int 0, .int 0, .int 0, .int 0, .int 0, .ref s27, .int 0, .ref s29, .ref s30, .ref s31, .int 0, .int 0, .int 0, .ref s35, .ref s36, .ref s37, .long 0, .ref s39, .ref s40, .ref s41, .ref s42])), (s20, .inl (k20, 100, .inl (fun _ => 0)))] ∧ xE U)) (va_Qi (fun (r : Int32) (_ : Unit) => r = 0) (fun _ t => va_P (dC, dI) classes [(h0, .inr (12, [.ref s0, .int 0, .int 0, .ref s3, .ref s4, .ref s5, .ref s6, .ref s7, .int 0, .int 0, .int 0, .int 0, .int 0, .int 0, .int 0, .ref s15, .int 0, .ref s17, .int 0, .ref s19, .ref s20, .int (-1), .int 0, .int 0, .int 0, .int 0, .int 0, .ref s27, .int 0, .ref s29, .ref s30, .ref s31, .int 0, .int 0, .int 0, .ref s35, .ref s36, .ref s37, .long 0, .ref s39, .ref s40, .ref s41, .ref s42])), (s20, .inl (k20, 100, .inl (fun _ => 0)))] t.heap ∧ va_K (dC, dI) classes [(k20, .int)] t ∧ va_D (va_A [(h0, .inr (12, [.ref s0, .int 0, .int 0, .ref s3, .ref s4, .ref s5, .ref s6, .ref s7, .int 0, .int 0, .int 0, .int 0, .int 0, .int 0, .int 0, .ref s15, .int 0, .ref s17, .int 0, .ref s19, .ref s20, .int (-1), .int 0, .int 0, .int 0, .int 0, .int 0, .ref s27, .int 0, .ref s29, .ref s30, .ref s31, .int 0, .int 0, .int 0, .ref s35, .ref s36, .ref s37, .long 0, .ref s39, .ref s40, .ref s41, .ref s42])), (s20, .inl (k20, 100, .inl (fun _ => 0)))] sz) [(h0, .inr (12, [.ref s0, .int 0, .int 0, .ref s3, .ref s4, .ref s5, .ref s6, .ref s7, .int 0, .int 0, .int 0, .int 0, .int 0, .int 0, .int 0, .ref s15, .int 0, .ref s17, .int 0, .ref s19, .ref s20, .int (-1), .int 0, .int 0, .int 0, .int 0, .int 0, .ref s27, .int 0, .ref s29, .ref s30, .ref s31, .int 0, .int 0, .int 0, .ref s35, .ref s36, .ref s37, .long 0, .ref s39, .ref s40, .ref s41, .ref s42])), (s20, .inl (k20, 100, .inl (fun _ => 0)))]) (va_A [(h0, .inr (12, [.ref s0, .int 0, .int 0, .ref s3, .ref s4, .ref s5, .ref s6, .ref s7, .int 0, .int 0, .int 0, .int 0, .int 0, .int 0, .int 0, .ref s15, .int 0, .ref s17, .int 0, .ref s19, .ref s20, .int (-1), .int 0, .int 0, .int 0, .int 0, .int 0, .ref s27, .int 0, .ref s29, .ref s30, .ref s31, .int 0, .int 0, .int 0, .ref s35, .ref s36, .ref s37, .long 0, .ref s39, .ref s40, .ref s41, .ref s42])), (s20, .inl (k20, 100, .inl (fun _ => 0)))] sz)) 0 0 (va_A [(h0, .inr (12, [.ref s0, .int 0, .int 0, .ref s3, .ref s4, .ref s5, .ref s6, .ref s7, .int 0, .int 0, .int 0, .int 0, .int 0, .int 0, .int 0, .ref s15, .int 0, .ref s17, .int 0, .ref s19, .ref s20, .int (-1), .int 0, .int 0, .int 0, .int 0, .int 0, .ref s27, .int 0, .ref s29, .ref s30, .ref s31, .int 0, .int 0, .int 0, .ref s35, .ref s36, .ref s37, .long 0, .ref s39, .ref s40, .ref s41, .ref s42])), (s20, .inl (k20, 100, .inl (fun _ => 0)))] sz) := by
  refine Met.ofW (cc := cX12_isDish) (maxL := 2) (ret := (some .boolean)) (by decide) rfl ?_
  intro p e s m args below meth c s₁ B hml hv
  obtain ⟨rfl, hsz, hP, hK, hD0, hE⟩ := hv
  have hx := B.exec
  have hb := B.bytes
  have hr := B.returns
  have hts := atoms_spec (ws := .code yX12_isDish cX12_isDish 2 (some .boolean) :: wsA) B.pre
  have hq : ∀ w ∈ wsA, w.before _ s = true := fun w h => hts w (List.mem_cons_of_mem _ h)
  have hown : s.vm.findClass RX12 = some m.cls := findClass_of_methodNamed B.named
  have hlocks := B.notSynchronized
  subst hsz
  have hD := hD0.self (sz := s.heap.size)
  generalize hAe : va_A [(h0, .inr (12, [.ref s0, .int 0, .int 0, .ref s3, .ref s4, .ref s5, .ref s6, .ref s7, .int 0, .int 0, .int 0, .int 0, .int 0, .int 0, .int 0, .ref s15, .int 0, .ref s17, .int 0, .ref s19, .ref s20, .int (-1), .int 0, .int 0, .int 0, .int 0, .int 0, .ref s27, .int 0, .ref s29, .ref s30, .ref s31, .int 0, .int 0, .int 0, .ref s35, .ref s36, .ref s37, .long 0, .ref s39, .ref s40, .ref s41, .ref s42])), (s20, .inl (k20, 100, .inl (fun _ => 0)))] s.heap.size = A at hD ⊢
  have hA : ∀ q : Nat, s.heap.size ≤ q → A q := fun q h => by rw [← hAe]; exact Or.inr h
  have hS : va_S A s.heap s.heap [] := va_S.rf
  have hl := lv_entry ([.ref h0, .int x0]) (n := 2) (Nat.le_of_ble_eq_true rfl)
  rw [lg_entry_eq]
  generalize (lg_sl ([.ref h0, .int x0]) ++ List.replicate (2 - (lg_sl ([.ref h0, .int x0])).length) Slot.unset).toArray = ls at hl ⊢
  have hl : lv_has ls 2 [(0, .ref h0), (1, .int x0)] := hl
  refine lv_iload_n hx hb dX12_isDish_0 rfl (lv_at hl 1 rfl) ?_
  refine lv_if_lt (tgt := 18) hx hb dX12_isDish_1 (by decide) (fun c_1 => ?_) (fun c_1 => ?_)
  · refine lv_iconst (v := 0) hx hb dX12_isDish_18 (by decide) ?_
    have hP9 := hP.sub (ws' := [(h0, .inr (12, [.ref s0, .int 0, .int 0, .ref s3, .ref s4, .ref s5, .ref s6, .ref s7, .int 0, .int 0, .int 0, .int 0, .int 0, .int 0, .int 0, .ref s15, .int 0, .ref s17, .int 0, .ref s19, .ref s20, .int (-1), .int 0, .int 0, .int 0, .int 0, .int 0, .ref s27, .int 0, .ref s29, .ref s30, .ref s31, .int 0, .int 0, .int 0, .ref s35, .ref s36, .ref s37, .long 0, .ref s39, .ref s40, .ref s41, .ref s42])), (s20, .inl (k20, 100, .inl (fun _ => 0)))]) [0, 1] rfl
    have hD9 := hD.sub (ws' := [(h0, .inr (12, [.ref s0, .int 0, .int 0, .ref s3, .ref s4, .ref s5, .ref s6, .ref s7, .int 0, .int 0, .int 0, .int 0, .int 0, .int 0, .int 0, .ref s15, .int 0, .ref s17, .int 0, .ref s19, .ref s20, .int (-1), .int 0, .int 0, .int 0, .int 0, .int 0, .ref s27, .int 0, .ref s29, .ref s30, .ref s31, .int 0, .int 0, .int 0, .ref s35, .ref s36, .ref s37, .long 0, .ref s39, .ref s40, .ref s41, .ref s42])), (s20, .inl (k20, 100, .inl (fun _ => 0)))]) [0, 1] (by decide) rfl
    have hK9 := hK.sub (tys' := [(k20, .int)]) [0] rfl
    refine W.widen (k := 0) (n := 0) (Nat.le_of_ble_eq_true rfl) (Nat.le_of_ble_eq_true rfl) ?_
    exact W.zret (v := 0) hx hb hr (by decide) (fun t ht hW => ⟨⟨0, (), rfl, rfl, by rw [ht]; exact hP9, va_K.moved hW.alike hK9, hD9⟩, hS.F ht⟩) hS.2.2 dX12_isDish_19
  · refine lv_iload_n hx hb dX12_isDish_4 rfl (lv_at hl 1 rfl) ?_
    refine lv_aload_n hx hb dX12_isDish_5 rfl (lv_at hl 0 rfl) ?_
    refine va_get (D := (dC, dI)) (ci := 12) (v := .ref s20) (C := RX12) (T := TX12) (N := 43) hx hb hq inX12 hown hK hP 0 rfl rfl 20 (by decide) (hq _ qw_1180) (fun _ h9 => h9) rfl dX12_isDish_6 ?_
    refine lv_iconst (v := 2) hx hb dX12_isDish_9 (by decide) ?_
    refine va_iald hx hb hK hP 1 0 rfl rfl (inr_ok rfl) dX12_isDish_10 ?_
    refine lv_topi (fun y_2 ey_2 => ?_)
    obtain rfl : y_2 = 0 := ey_2.trans (rfl)
    refine lv_icmp_ge (tgt := 18) hx hb dX12_isDish_11 (by decide) (fun _ => ?_) (fun c9 => by have z0 : (0 : Int32).toInt = 0 := (by decide); simp only [Int32.le_iff_toInt_le, Int32.lt_iff_toInt_lt, ← Int32.toInt_inj, z0] at c9 c_1; omega)
    refine lv_iconst (v := 0) hx hb dX12_isDish_18 (by decide) ?_
    have hP9 := hP.sub (ws' := [(h0, .inr (12, [.ref s0, .int 0, .int 0, .ref s3, .ref s4, .ref s5, .ref s6, .ref s7, .int 0, .int 0, .int 0, .int 0, .int 0, .int 0, .int 0, .ref s15, .int 0, .ref s17, .int 0, .ref s19, .ref s20, .int (-1), .int 0, .int 0, .int 0, .int 0, .int 0, .ref s27, .int 0, .ref s29, .ref s30, .ref s31, .int 0, .int 0, .int 0, .ref s35, .ref s36, .ref s37, .long 0, .ref s39, .ref s40, .ref s41, .ref s42])), (s20, .inl (k20, 100, .inl (fun _ => 0)))]) [0, 1] rfl
    have hD9 := hD.sub (ws' := [(h0, .inr (12, [.ref s0, .int 0, .int 0, .ref s3, .ref s4, .ref s5, .ref s6, .ref s7, .int 0, .int 0, .int 0, .int 0, .int 0, .int 0, .int 0, .ref s15, .int 0, .ref s17, .int 0, .ref s19, .ref s20, .int (-1), .int 0, .int 0, .int 0, .int 0, .int 0, .ref s27, .int 0, .ref s29, .ref s30, .ref s31, .int 0, .int 0, .int 0, .ref s35, .ref s36, .ref s37, .long 0, .ref s39, .ref s40, .ref s41, .ref s42])), (s20, .inl (k20, 100, .inl (fun _ => 0)))]) [0, 1] (by decide) rfl
    have hK9 := hK.sub (tys' := [(k20, .int)]) [0] rfl
    refine W.widen (k := 0) (n := 0) (Nat.le_of_ble_eq_true rfl) (Nat.le_of_ble_eq_true rfl) ?_
    exact W.zret (v := 0) hx hb hr (by decide) (fun t ht hW => ⟨⟨0, (), rfl, rfl, by rw [ht]; exact hP9, va_K.moved hW.alike hK9, hD9⟩, hS.F ht⟩) hS.2.2 dX12_isDish_19

set_option maxHeartbeats 4000000 in
set_option maxRecDepth 100000 in
/-- c_M_isGuest -/
theorem c_M_isGuest (l : Launch) (dC : Nat → ClassId) (dI : Nat → Nat → Nat) (sz : Nat) (h0 : Nat) (s0 : Nat) (s3 : Nat) (s4 : Nat) (s5 : Nat) (s6 : Nat) (s7 : Nat) (s15 : Nat) (s17 : Nat) (s19 : Nat) (s20 : Nat) (s27 : Nat) (s29 : Nat) (s30 : Nat) (s31 : Nat) (s35 : Nat) (s36 : Nat) (s37 : Nat) (s39 : Nat) (s40 : Nat) (s41 : Nat) (s42 : Nat) (k20 : ClassId) (x0 : Int32) : Met l yX12_isGuest (.code yX12_isGuest cX12_isGuest 2 (some .boolean) :: wsA) ({ frames := 0, cells := 0, slots := 0, locals := 0 }) (va_Pc [.ref h0, .int x0] (fun U => U.heap.size = sz ∧ va_P (dC, dI) classes [(h0, .inr (12, [.ref s0, .int 0, .int 0, .ref s3, .ref s4, .ref s5, .ref s6, .ref s7, .int 0, .int 0, .int 0, .int 0, .int 0, .int 0, .int 0, .ref s15, .int 0, .ref s17, .int 0, .ref s19, .ref s20, .int (-1), .int 0, .int 0, .int 0, .int 0, .int 0, .ref s27, .int 0, .ref s29, .ref s30, .ref s31, .int 0, .int 0, .int 0, .ref s35, .ref s36, .ref s37, .long 0, .ref s39, .ref s40, .ref s41, .ref s42])), (s20, .inl (k20, 100, .inl (fun _ => 0)))] U.heap ∧ va_K (dC, dI) classes [(k20, .int)] U ∧ va_D (fun _ => True) [(h0, .inr (12, [.ref s0, .int 0, .int 0, .ref s3, .ref s4, .ref s5, .ref s6, .ref s7, .int 0, .int 0, .int 0, .int 0, .int 0, .int 0, .int 0, .ref s15, .int 0, .ref s17, .int 0, .ref s19, .ref s20, .int (-1), .int 0, .int 0, .int 0, .int 0, .int 0, .ref s27, .int 0, .ref s29, .ref s30, .ref s31, .int 0, .int 0, .int 0, .ref s35, .ref s36, .ref s37, .long 0, .ref s39, .ref s40, .ref s41, .ref s42])), (s20, .inl (k20, 100, .inl (fun _ => 0)))] ∧ xE U)) (va_Qi (fun (r : Int32) (_ : Unit) => r = 0) (fun _ t => va_P (dC, dI) classes [(h0, .inr (12, [.ref s0, .int 0, .int 0, .ref s3, .ref s4, .ref s5, .ref s6, .ref s7, .int 0, .int 0, .int 0, .int 0, .int 0, .int 0, .int 0, .ref s15, .int 0, .ref s17, .int 0, .ref s19, .ref s20, .int (-1), .int 0, .int 0, .int 0, .int 0, .int 0, .ref s27, .int 0, .ref s29, .ref s30, .ref s31, .int 0, .int 0, .int 0, .ref s35, .ref s36, .ref s37, .long 0, .ref s39, .ref s40, .ref s41, .ref s42])), (s20, .inl (k20, 100, .inl (fun _ => 0)))] t.heap ∧ va_K (dC, dI) classes [(k20, .int)] t ∧ va_D (va_A [(h0, .inr (12, [.ref s0, .int 0, .int 0, .ref s3, .ref s4, .ref s5, .ref s6, .ref s7, .int 0, .int 0, .int 0, .int 0, .int 0, .int 0, .int 0, .ref s15, .int 0, .ref s17, .int 0, .ref s19, .ref s20, .int (-1), .int 0, .int 0, .int 0, .int 0, .int 0, .ref s27, .int 0, .ref s29, .ref s30, .ref s31, .int 0, .int 0, .int 0, .ref s35, .ref s36, .ref s37, .long 0, .ref s39, .ref s40, .ref s41, .ref s42])), (s20, .inl (k20, 100, .inl (fun _ => 0)))] sz) [(h0, .inr (12, [.ref s0, .int 0, .int 0, .ref s3, .ref s4, .ref s5, .ref s6, .ref s7, .int 0, .int 0, .int 0, .int 0, .int 0, .int 0, .int 0, .ref s15, .int 0, .ref s17, .int 0, .ref s19, .ref s20, .int (-1), .int 0, .int 0, .int 0, .int 0, .int 0, .ref s27, .int 0, .ref s29, .ref s30, .ref s31, .int 0, .int 0, .int 0, .ref s35, .ref s36, .ref s37, .long 0, .ref s39, .ref s40, .ref s41, .ref s42])), (s20, .inl (k20, 100, .inl (fun _ => 0)))]) (va_A [(h0, .inr (12, [.ref s0, .int 0, .int 0, .ref s3, .ref s4, .ref s5, .ref s6, .ref s7, .int 0, .int 0, .int 0, .int 0, .int 0, .int 0, .int 0, .ref s15, .int 0, .ref s17, .int 0, .ref s19, .ref s20, .int (-1), .int 0, .int 0, .int 0, .int 0, .int 0, .ref s27, .int 0, .ref s29, .ref s30, .ref s31, .int 0, .int 0, .int 0, .ref s35, .ref s36, .ref s37, .long 0, .ref s39, .ref s40, .ref s41, .ref s42])), (s20, .inl (k20, 100, .inl (fun _ => 0)))] sz)) 0 0 (va_A [(h0, .inr (12, [.ref s0, .int 0, .int 0, .ref s3, .ref s4, .ref s5, .ref s6, .ref s7, .int 0, .int 0, .int 0, .int 0, .int 0, .int 0, .int 0, .ref s15, .int 0, .ref s17, .int 0, .ref s19, .ref s20, .int (-1), .int 0, .int 0, .int 0, .int 0, .int 0, .ref s27, .int 0, .ref s29, .ref s30, .ref s31, .int 0, .int 0, .int 0, .ref s35, .ref s36, .ref s37, .long 0, .ref s39, .ref s40, .ref s41, .ref s42])), (s20, .inl (k20, 100, .inl (fun _ => 0)))] sz) := by
  refine Met.ofW (cc := cX12_isGuest) (maxL := 2) (ret := (some .boolean)) (by decide) rfl ?_
  intro p e s m args below meth c s₁ B hml hv
  obtain ⟨rfl, hsz, hP, hK, hD0, hE⟩ := hv
  have hx := B.exec
  have hb := B.bytes
  have hr := B.returns
  have hts := atoms_spec (ws := .code yX12_isGuest cX12_isGuest 2 (some .boolean) :: wsA) B.pre
  have hq : ∀ w ∈ wsA, w.before _ s = true := fun w h => hts w (List.mem_cons_of_mem _ h)
  have hown : s.vm.findClass RX12 = some m.cls := findClass_of_methodNamed B.named
  have hlocks := B.notSynchronized
  subst hsz
  have hD := hD0.self (sz := s.heap.size)
  generalize hAe : va_A [(h0, .inr (12, [.ref s0, .int 0, .int 0, .ref s3, .ref s4, .ref s5, .ref s6, .ref s7, .int 0, .int 0, .int 0, .int 0, .int 0, .int 0, .int 0, .ref s15, .int 0, .ref s17, .int 0, .ref s19, .ref s20, .int (-1), .int 0, .int 0, .int 0, .int 0, .int 0, .ref s27, .int 0, .ref s29, .ref s30, .ref s31, .int 0, .int 0, .int 0, .ref s35, .ref s36, .ref s37, .long 0, .ref s39, .ref s40, .ref s41, .ref s42])), (s20, .inl (k20, 100, .inl (fun _ => 0)))] s.heap.size = A at hD ⊢
  have hA : ∀ q : Nat, s.heap.size ≤ q → A q := fun q h => by rw [← hAe]; exact Or.inr h
  have hS : va_S A s.heap s.heap [] := va_S.rf
  have hl := lv_entry ([.ref h0, .int x0]) (n := 2) (Nat.le_of_ble_eq_true rfl)
  rw [lg_entry_eq]
  generalize (lg_sl ([.ref h0, .int x0]) ++ List.replicate (2 - (lg_sl ([.ref h0, .int x0])).length) Slot.unset).toArray = ls at hl ⊢
  have hl : lv_has ls 2 [(0, .ref h0), (1, .int x0)] := hl
  refine lv_iload_n hx hb dX12_isGuest_0 rfl (lv_at hl 1 rfl) ?_
  refine lv_if_lt (tgt := 18) hx hb dX12_isGuest_1 (by decide) (fun c_1 => ?_) (fun c_1 => ?_)
  · refine lv_iconst (v := 0) hx hb dX12_isGuest_18 (by decide) ?_
    have hP9 := hP.sub (ws' := [(h0, .inr (12, [.ref s0, .int 0, .int 0, .ref s3, .ref s4, .ref s5, .ref s6, .ref s7, .int 0, .int 0, .int 0, .int 0, .int 0, .int 0, .int 0, .ref s15, .int 0, .ref s17, .int 0, .ref s19, .ref s20, .int (-1), .int 0, .int 0, .int 0, .int 0, .int 0, .ref s27, .int 0, .ref s29, .ref s30, .ref s31, .int 0, .int 0, .int 0, .ref s35, .ref s36, .ref s37, .long 0, .ref s39, .ref s40, .ref s41, .ref s42])), (s20, .inl (k20, 100, .inl (fun _ => 0)))]) [0, 1] rfl
    have hD9 := hD.sub (ws' := [(h0, .inr (12, [.ref s0, .int 0, .int 0, .ref s3, .ref s4, .ref s5, .ref s6, .ref s7, .int 0, .int 0, .int 0, .int 0, .int 0, .int 0, .int 0, .ref s15, .int 0, .ref s17, .int 0, .ref s19, .ref s20, .int (-1), .int 0, .int 0, .int 0, .int 0, .int 0, .ref s27, .int 0, .ref s29, .ref s30, .ref s31, .int 0, .int 0, .int 0, .ref s35, .ref s36, .ref s37, .long 0, .ref s39, .ref s40, .ref s41, .ref s42])), (s20, .inl (k20, 100, .inl (fun _ => 0)))]) [0, 1] (by decide) rfl
    have hK9 := hK.sub (tys' := [(k20, .int)]) [0] rfl
    refine W.widen (k := 0) (n := 0) (Nat.le_of_ble_eq_true rfl) (Nat.le_of_ble_eq_true rfl) ?_
    exact W.zret (v := 0) hx hb hr (by decide) (fun t ht hW => ⟨⟨0, (), rfl, rfl, by rw [ht]; exact hP9, va_K.moved hW.alike hK9, hD9⟩, hS.F ht⟩) hS.2.2 dX12_isGuest_19
  · refine lv_iload_n hx hb dX12_isGuest_4 rfl (lv_at hl 1 rfl) ?_
    refine lv_aload_n hx hb dX12_isGuest_5 rfl (lv_at hl 0 rfl) ?_
    refine va_get (D := (dC, dI)) (ci := 12) (v := .ref s20) (C := RX12) (T := TX12) (N := 43) hx hb hq inX12 hown hK hP 0 rfl rfl 20 (by decide) (hq _ qw_1180) (fun _ h9 => h9) rfl dX12_isGuest_6 ?_
    refine lv_iconst (v := 3) hx hb dX12_isGuest_9 (by decide) ?_
    refine va_iald hx hb hK hP 1 0 rfl rfl (inr_ok rfl) dX12_isGuest_10 ?_
    refine lv_topi (fun y_2 ey_2 => ?_)
    obtain rfl : y_2 = 0 := ey_2.trans (rfl)
    refine lv_icmp_ge (tgt := 18) hx hb dX12_isGuest_11 (by decide) (fun _ => ?_) (fun c9 => by have z0 : (0 : Int32).toInt = 0 := (by decide); simp only [Int32.le_iff_toInt_le, Int32.lt_iff_toInt_lt, ← Int32.toInt_inj, z0] at c9 c_1; omega)
    refine lv_iconst (v := 0) hx hb dX12_isGuest_18 (by decide) ?_
    have hP9 := hP.sub (ws' := [(h0, .inr (12, [.ref s0, .int 0, .int 0, .ref s3, .ref s4, .ref s5, .ref s6, .ref s7, .int 0, .int 0, .int 0, .int 0, .int 0, .int 0, .int 0, .ref s15, .int 0, .ref s17, .int 0, .ref s19, .ref s20, .int (-1), .int 0, .int 0, .int 0, .int 0, .int 0, .ref s27, .int 0, .ref s29, .ref s30, .ref s31, .int 0, .int 0, .int 0, .ref s35, .ref s36, .ref s37, .long 0, .ref s39, .ref s40, .ref s41, .ref s42])), (s20, .inl (k20, 100, .inl (fun _ => 0)))]) [0, 1] rfl
    have hD9 := hD.sub (ws' := [(h0, .inr (12, [.ref s0, .int 0, .int 0, .ref s3, .ref s4, .ref s5, .ref s6, .ref s7, .int 0, .int 0, .int 0, .int 0, .int 0, .int 0, .int 0, .ref s15, .int 0, .ref s17, .int 0, .ref s19, .ref s20, .int (-1), .int 0, .int 0, .int 0, .int 0, .int 0, .ref s27, .int 0, .ref s29, .ref s30, .ref s31, .int 0, .int 0, .int 0, .ref s35, .ref s36, .ref s37, .long 0, .ref s39, .ref s40, .ref s41, .ref s42])), (s20, .inl (k20, 100, .inl (fun _ => 0)))]) [0, 1] (by decide) rfl
    have hK9 := hK.sub (tys' := [(k20, .int)]) [0] rfl
    refine W.widen (k := 0) (n := 0) (Nat.le_of_ble_eq_true rfl) (Nat.le_of_ble_eq_true rfl) ?_
    exact W.zret (v := 0) hx hb hr (by decide) (fun t ht hW => ⟨⟨0, (), rfl, rfl, by rw [ht]; exact hP9, va_K.moved hW.alike hK9, hD9⟩, hS.F ht⟩) hS.2.2 dX12_isGuest_19

set_option maxHeartbeats 4000000 in
set_option maxRecDepth 100000 in
/-- c_M_isSecret -/
theorem c_M_isSecret (l : Launch) (dC : Nat → ClassId) (dI : Nat → Nat → Nat) (sz : Nat) (h0 : Nat) (s0 : Nat) (s3 : Nat) (s4 : Nat) (s5 : Nat) (s6 : Nat) (s7 : Nat) (s15 : Nat) (s17 : Nat) (s19 : Nat) (s20 : Nat) (s27 : Nat) (s29 : Nat) (s30 : Nat) (s31 : Nat) (s35 : Nat) (s36 : Nat) (s37 : Nat) (s39 : Nat) (s40 : Nat) (s41 : Nat) (s42 : Nat) (k20 : ClassId) (x0 : Int32) : Met l yX12_isSecret (.code yX12_isSecret cX12_isSecret 2 (some .boolean) :: wsA) ({ frames := 1, cells := 0, slots := 0, locals := 20 }) (va_Pc [.ref h0, .int x0] (fun U => U.heap.size = sz ∧ va_P (dC, dI) classes [(h0, .inr (12, [.ref s0, .int 0, .int 0, .ref s3, .ref s4, .ref s5, .ref s6, .ref s7, .int 0, .int 0, .int 0, .int 0, .int 0, .int 0, .int 0, .ref s15, .int 0, .ref s17, .int 0, .ref s19, .ref s20, .int (-1), .int 0, .int 0, .int 0, .int 0, .int 0, .ref s27, .int 0, .ref s29, .ref s30, .ref s31, .int 0, .int 0, .int 0, .ref s35, .ref s36, .ref s37, .long 0, .ref s39, .ref s40, .ref s41, .ref s42])), (s20, .inl (k20, 100, .inl (fun _ => 0)))] U.heap ∧ va_K (dC, dI) classes [(k20, .int)] U ∧ va_D (fun _ => True) [(h0, .inr (12, [.ref s0, .int 0, .int 0, .ref s3, .ref s4, .ref s5, .ref s6, .ref s7, .int 0, .int 0, .int 0, .int 0, .int 0, .int 0, .int 0, .ref s15, .int 0, .ref s17, .int 0, .ref s19, .ref s20, .int (-1), .int 0, .int 0, .int 0, .int 0, .int 0, .ref s27, .int 0, .ref s29, .ref s30, .ref s31, .int 0, .int 0, .int 0, .ref s35, .ref s36, .ref s37, .long 0, .ref s39, .ref s40, .ref s41, .ref s42])), (s20, .inl (k20, 100, .inl (fun _ => 0)))] ∧ xE U)) (va_Qi (fun (r : Int32) (_ : Unit) => r = 0) (fun _ t => va_P (dC, dI) classes [(h0, .inr (12, [.ref s0, .int 0, .int 0, .ref s3, .ref s4, .ref s5, .ref s6, .ref s7, .int 0, .int 0, .int 0, .int 0, .int 0, .int 0, .int 0, .ref s15, .int 0, .ref s17, .int 0, .ref s19, .ref s20, .int (-1), .int 0, .int 0, .int 0, .int 0, .int 0, .ref s27, .int 0, .ref s29, .ref s30, .ref s31, .int 0, .int 0, .int 0, .ref s35, .ref s36, .ref s37, .long 0, .ref s39, .ref s40, .ref s41, .ref s42])), (s20, .inl (k20, 100, .inl (fun _ => 0)))] t.heap ∧ va_K (dC, dI) classes [(k20, .int)] t ∧ va_D (va_A [(h0, .inr (12, [.ref s0, .int 0, .int 0, .ref s3, .ref s4, .ref s5, .ref s6, .ref s7, .int 0, .int 0, .int 0, .int 0, .int 0, .int 0, .int 0, .ref s15, .int 0, .ref s17, .int 0, .ref s19, .ref s20, .int (-1), .int 0, .int 0, .int 0, .int 0, .int 0, .ref s27, .int 0, .ref s29, .ref s30, .ref s31, .int 0, .int 0, .int 0, .ref s35, .ref s36, .ref s37, .long 0, .ref s39, .ref s40, .ref s41, .ref s42])), (s20, .inl (k20, 100, .inl (fun _ => 0)))] sz) [(h0, .inr (12, [.ref s0, .int 0, .int 0, .ref s3, .ref s4, .ref s5, .ref s6, .ref s7, .int 0, .int 0, .int 0, .int 0, .int 0, .int 0, .int 0, .ref s15, .int 0, .ref s17, .int 0, .ref s19, .ref s20, .int (-1), .int 0, .int 0, .int 0, .int 0, .int 0, .ref s27, .int 0, .ref s29, .ref s30, .ref s31, .int 0, .int 0, .int 0, .ref s35, .ref s36, .ref s37, .long 0, .ref s39, .ref s40, .ref s41, .ref s42])), (s20, .inl (k20, 100, .inl (fun _ => 0)))]) (va_A [(h0, .inr (12, [.ref s0, .int 0, .int 0, .ref s3, .ref s4, .ref s5, .ref s6, .ref s7, .int 0, .int 0, .int 0, .int 0, .int 0, .int 0, .int 0, .ref s15, .int 0, .ref s17, .int 0, .ref s19, .ref s20, .int (-1), .int 0, .int 0, .int 0, .int 0, .int 0, .ref s27, .int 0, .ref s29, .ref s30, .ref s31, .int 0, .int 0, .int 0, .ref s35, .ref s36, .ref s37, .long 0, .ref s39, .ref s40, .ref s41, .ref s42])), (s20, .inl (k20, 100, .inl (fun _ => 0)))] sz)) 0 0 (va_A [(h0, .inr (12, [.ref s0, .int 0, .int 0, .ref s3, .ref s4, .ref s5, .ref s6, .ref s7, .int 0, .int 0, .int 0, .int 0, .int 0, .int 0, .int 0, .ref s15, .int 0, .ref s17, .int 0, .ref s19, .ref s20, .int (-1), .int 0, .int 0, .int 0, .int 0, .int 0, .ref s27, .int 0, .ref s29, .ref s30, .ref s31, .int 0, .int 0, .int 0, .ref s35, .ref s36, .ref s37, .long 0, .ref s39, .ref s40, .ref s41, .ref s42])), (s20, .inl (k20, 100, .inl (fun _ => 0)))] sz) := by
  refine Met.ofW (cc := cX12_isSecret) (maxL := 2) (ret := (some .boolean)) (by decide) rfl ?_
  intro p e s m args below meth c s₁ B hml hv
  obtain ⟨rfl, hsz, hP, hK, hD0, hE⟩ := hv
  have hx := B.exec
  have hb := B.bytes
  have hr := B.returns
  have hts := atoms_spec (ws := .code yX12_isSecret cX12_isSecret 2 (some .boolean) :: wsA) B.pre
  have hq : ∀ w ∈ wsA, w.before _ s = true := fun w h => hts w (List.mem_cons_of_mem _ h)
  have hown : s.vm.findClass RX12 = some m.cls := findClass_of_methodNamed B.named
  have hlocks := B.notSynchronized
  subst hsz
  have hD := hD0.self (sz := s.heap.size)
  generalize hAe : va_A [(h0, .inr (12, [.ref s0, .int 0, .int 0, .ref s3, .ref s4, .ref s5, .ref s6, .ref s7, .int 0, .int 0, .int 0, .int 0, .int 0, .int 0, .int 0, .ref s15, .int 0, .ref s17, .int 0, .ref s19, .ref s20, .int (-1), .int 0, .int 0, .int 0, .int 0, .int 0, .ref s27, .int 0, .ref s29, .ref s30, .ref s31, .int 0, .int 0, .int 0, .ref s35, .ref s36, .ref s37, .long 0, .ref s39, .ref s40, .ref s41, .ref s42])), (s20, .inl (k20, 100, .inl (fun _ => 0)))] s.heap.size = A at hD ⊢
  have hA : ∀ q : Nat, s.heap.size ≤ q → A q := fun q h => by rw [← hAe]; exact Or.inr h
  have hS : va_S A s.heap s.heap [] := va_S.rf
  have hl := lv_entry ([.ref h0, .int x0]) (n := 2) (Nat.le_of_ble_eq_true rfl)
  rw [lg_entry_eq]
  generalize (lg_sl ([.ref h0, .int x0]) ++ List.replicate (2 - (lg_sl ([.ref h0, .int x0])).length) Slot.unset).toArray = ls at hl ⊢
  have hl : lv_has ls 2 [(0, .ref h0), (1, .int x0)] := hl
  refine lv_aload_n hx hb dX12_isSecret_0 rfl (lv_at hl 0 rfl) ?_
  have hPc := hP.sub (ws' := [(h0, .inr (12, [.ref s0, .int 0, .int 0, .ref s3, .ref s4, .ref s5, .ref s6, .ref s7, .int 0, .int 0, .int 0, .int 0, .int 0, .int 0, .int 0, .ref s15, .int 0, .ref s17, .int 0, .ref s19, .ref s20, .int (-1), .int 0, .int 0, .int 0, .int 0, .int 0, .ref s27, .int 0, .ref s29, .ref s30, .ref s31, .int 0, .int 0, .int 0, .ref s35, .ref s36, .ref s37, .long 0, .ref s39, .ref s40, .ref s41, .ref s42])), (s20, .inl (k20, 100, .inl (fun _ => 0)))]) [0, 1] rfl
  have hDc := hD.sub (ws' := [(h0, .inr (12, [.ref s0, .int 0, .int 0, .ref s3, .ref s4, .ref s5, .ref s6, .ref s7, .int 0, .int 0, .int 0, .int 0, .int 0, .int 0, .int 0, .ref s15, .int 0, .ref s17, .int 0, .ref s19, .ref s20, .int (-1), .int 0, .int 0, .int 0, .int 0, .int 0, .ref s27, .int 0, .ref s29, .ref s30, .ref s31, .int 0, .int 0, .int 0, .ref s35, .ref s36, .ref s37, .long 0, .ref s39, .ref s40, .ref s41, .ref s42])), (s20, .inl (k20, 100, .inl (fun _ => 0)))]) [0, 1] (by decide) rfl
  have hKc := hK.sub (tys' := [(k20, .int)]) [0] rfl
  have hFc := va_free (wc := [(h0, .inr (12, [.ref s0, .int 0, .int 0, .ref s3, .ref s4, .ref s5, .ref s6, .ref s7, .int 0, .int 0, .int 0, .int 0, .int 0, .int 0, .int 0, .ref s15, .int 0, .ref s17, .int 0, .ref s19, .ref s20, .int (-1), .int 0, .int 0, .int 0, .int 0, .int 0, .ref s27, .int 0, .ref s29, .ref s30, .ref s31, .int 0, .int 0, .int 0, .ref s35, .ref s36, .ref s37, .long 0, .ref s39, .ref s40, .ref s41, .ref s42])), (s20, .inl (k20, 100, .inl (fun _ => 0)))]) hD hS hA [0, 1] rfl
  refine va_calli (va_runV (As := []) (rest := []) ⟨hx, hb, hml, hown, hq⟩ (c_M_isDinner l dC dI _ h0 s0 s3 s4 s5 s6 s7 s15 s17 s19 s20 s27 s29 s30 s31 s35 s36 s37 s39 s40 s41 s42 k20 ) (cwV 0 hq (gV qw_1497 qw_1499 qw_76 qw_131 qw_1500) rfl rfl rfl (by decide +kernel) ⟨Nat.le_of_ble_eq_true rfl, Nat.le_of_ble_eq_true rfl⟩) ⟨fun a U g mk q => by obtain ⟨q0, q1, qP, qK, qD, qE⟩ := q; exact ⟨q0, q1, qP, va_K.moved (u := U) (U := U.calling g mk a) (Vm.Alike.refl U.vm) qK, qD, xE.same rfl qE⟩, va_recv hKc hPc (ci := 12) (q0 := 0) rfl rfl, fun U hU hW => ⟨rfl, by rw [hU], by rw [hU]; exact hPc, va_K.moved hW.alike hKc, hDc.weaken (fun _ _ _ _ => trivial), xE.warm hW hE⟩⟩ rfl rfl hl.1 rfl (lv_room (Nat.le_of_ble_eq_true rfl)) dX12_isSecret_1 ⟨Nat.le_of_ble_eq_true rfl, Nat.le_of_ble_eq_true rfl⟩) hS (fun q _ h => hFc q h) hFc (fun r_1 u t H1 locs ht hvm hw hB hz1 hk1 hS => ?_)
  obtain ⟨hP1, hK1, hD1⟩ := hB
  rw [ht] at hP1
  have hK1 := va_K.moved hvm.symm hK1
  obtain ⟨hP, hD⟩ := va_join (wr := []) (w1 := [(h0, .inr (12, [.ref s0, .int 0, .int 0, .ref s3, .ref s4, .ref s5, .ref s6, .ref s7, .int 0, .int 0, .int 0, .int 0, .int 0, .int 0, .int 0, .ref s15, .int 0, .ref s17, .int 0, .ref s19, .ref s20, .int (-1), .int 0, .int 0, .int 0, .int 0, .int 0, .ref s27, .int 0, .ref s29, .ref s30, .ref s31, .int 0, .int 0, .int 0, .ref s35, .ref s36, .ref s37, .long 0, .ref s39, .ref s40, .ref s41, .ref s42])), (s20, .inl (k20, 100, .inl (fun _ => 0)))]) hP hD [0, 1] [] rfl rfl (by decide) (by decide) hk1 hFc hP1 hD1
  generalize H1 = H at hP hS ⊢
  have hP : va_P (dC, dI) classes [(h0, .inr (12, [.ref s0, .int 0, .int 0, .ref s3, .ref s4, .ref s5, .ref s6, .ref s7, .int 0, .int 0, .int 0, .int 0, .int 0, .int 0, .int 0, .ref s15, .int 0, .ref s17, .int 0, .ref s19, .ref s20, .int (-1), .int 0, .int 0, .int 0, .int 0, .int 0, .ref s27, .int 0, .ref s29, .ref s30, .ref s31, .int 0, .int 0, .int 0, .ref s35, .ref s36, .ref s37, .long 0, .ref s39, .ref s40, .ref s41, .ref s42])), (s20, .inl (k20, 100, .inl (fun _ => 0)))] H := hP
  have hD : va_D A [(h0, .inr (12, [.ref s0, .int 0, .int 0, .ref s3, .ref s4, .ref s5, .ref s6, .ref s7, .int 0, .int 0, .int 0, .int 0, .int 0, .int 0, .int 0, .ref s15, .int 0, .ref s17, .int 0, .ref s19, .ref s20, .int (-1), .int 0, .int 0, .int 0, .int 0, .int 0, .ref s27, .int 0, .ref s29, .ref s30, .ref s31, .int 0, .int 0, .int 0, .ref s35, .ref s36, .ref s37, .long 0, .ref s39, .ref s40, .ref s41, .ref s42])), (s20, .inl (k20, 100, .inl (fun _ => 0)))] := hD
  obtain rfl : r_1 = 0 := hw
  refine lv_if_eq (tgt := 23) hx hb dX12_isSecret_4 (by decide) (fun _ => ?_) (fun c9 => absurd c9 (by decide))
  refine lv_iconst (v := 0) hx hb dX12_isSecret_23 (by decide) ?_
  have hP9 := hP.sub (ws' := [(h0, .inr (12, [.ref s0, .int 0, .int 0, .ref s3, .ref s4, .ref s5, .ref s6, .ref s7, .int 0, .int 0, .int 0, .int 0, .int 0, .int 0, .int 0, .ref s15, .int 0, .ref s17, .int 0, .ref s19, .ref s20, .int (-1), .int 0, .int 0, .int 0, .int 0, .int 0, .ref s27, .int 0, .ref s29, .ref s30, .ref s31, .int 0, .int 0, .int 0, .ref s35, .ref s36, .ref s37, .long 0, .ref s39, .ref s40, .ref s41, .ref s42])), (s20, .inl (k20, 100, .inl (fun _ => 0)))]) [0, 1] rfl
  have hD9 := hD.sub (ws' := [(h0, .inr (12, [.ref s0, .int 0, .int 0, .ref s3, .ref s4, .ref s5, .ref s6, .ref s7, .int 0, .int 0, .int 0, .int 0, .int 0, .int 0, .int 0, .ref s15, .int 0, .ref s17, .int 0, .ref s19, .ref s20, .int (-1), .int 0, .int 0, .int 0, .int 0, .int 0, .ref s27, .int 0, .ref s29, .ref s30, .ref s31, .int 0, .int 0, .int 0, .ref s35, .ref s36, .ref s37, .long 0, .ref s39, .ref s40, .ref s41, .ref s42])), (s20, .inl (k20, 100, .inl (fun _ => 0)))]) [0, 1] (by decide) rfl
  have hK9 := hK.sub (tys' := [(k20, .int)]) [0] rfl
  refine W.widen (k := 0) (n := 0) (Nat.le_of_ble_eq_true rfl) (Nat.le_of_ble_eq_true rfl) ?_
  exact W.zret (v := 0) hx hb hr (by decide) (fun t ht hW => ⟨⟨0, (), rfl, rfl, by rw [ht]; exact hP9, va_K.moved hW.alike hK9, hD9⟩, hS.F ht⟩) hS.2.2 dX12_isSecret_24

set_option maxHeartbeats 4000000 in
set_option maxRecDepth 100000 in
/-- c_M_isRule -/
theorem c_M_isRule (l : Launch) (dC : Nat → ClassId) (dI : Nat → Nat → Nat) (sz : Nat) (h0 : Nat) (s0 : Nat) (s3 : Nat) (s4 : Nat) (s5 : Nat) (s6 : Nat) (s7 : Nat) (s15 : Nat) (s17 : Nat) (s19 : Nat) (s20 : Nat) (s27 : Nat) (s29 : Nat) (s30 : Nat) (s31 : Nat) (s35 : Nat) (s36 : Nat) (s37 : Nat) (s39 : Nat) (s40 : Nat) (s41 : Nat) (s42 : Nat) (x0 : Int32) : Met l yX12_isRule (.code yX12_isRule cX12_isRule 2 (some .boolean) :: wsA) ({ frames := 0, cells := 0, slots := 0, locals := 0 }) (va_Pc [.ref h0, .int x0] (fun U => U.heap.size = sz ∧ va_P (dC, dI) classes [(h0, .inr (12, [.ref s0, .int 0, .int 0, .ref s3, .ref s4, .ref s5, .ref s6, .ref s7, .int 0, .int 0, .int 0, .int 0, .int 0, .int 0, .int 0, .ref s15, .int 0, .ref s17, .int 0, .ref s19, .ref s20, .int (-1), .int 0, .int 0, .int 0, .int 0, .int 0, .ref s27, .int 0, .ref s29, .ref s30, .ref s31, .int 0, .int 0, .int 0, .ref s35, .ref s36, .ref s37, .long 0, .ref s39, .ref s40, .ref s41, .ref s42]))] U.heap ∧ va_K (dC, dI) classes [] U ∧ va_D (fun _ => True) [(h0, .inr (12, [.ref s0, .int 0, .int 0, .ref s3, .ref s4, .ref s5, .ref s6, .ref s7, .int 0, .int 0, .int 0, .int 0, .int 0, .int 0, .int 0, .ref s15, .int 0, .ref s17, .int 0, .ref s19, .ref s20, .int (-1), .int 0, .int 0, .int 0, .int 0, .int 0, .ref s27, .int 0, .ref s29, .ref s30, .ref s31, .int 0, .int 0, .int 0, .ref s35, .ref s36, .ref s37, .long 0, .ref s39, .ref s40, .ref s41, .ref s42]))] ∧ xE U)) (va_Qi (fun (r : Int32) (_ : Unit) => r = 0) (fun _ t => va_P (dC, dI) classes [(h0, .inr (12, [.ref s0, .int 0, .int 0, .ref s3, .ref s4, .ref s5, .ref s6, .ref s7, .int 0, .int 0, .int 0, .int 0, .int 0, .int 0, .int 0, .ref s15, .int 0, .ref s17, .int 0, .ref s19, .ref s20, .int (-1), .int 0, .int 0, .int 0, .int 0, .int 0, .ref s27, .int 0, .ref s29, .ref s30, .ref s31, .int 0, .int 0, .int 0, .ref s35, .ref s36, .ref s37, .long 0, .ref s39, .ref s40, .ref s41, .ref s42]))] t.heap ∧ va_K (dC, dI) classes [] t ∧ va_D (va_A [(h0, .inr (12, [.ref s0, .int 0, .int 0, .ref s3, .ref s4, .ref s5, .ref s6, .ref s7, .int 0, .int 0, .int 0, .int 0, .int 0, .int 0, .int 0, .ref s15, .int 0, .ref s17, .int 0, .ref s19, .ref s20, .int (-1), .int 0, .int 0, .int 0, .int 0, .int 0, .ref s27, .int 0, .ref s29, .ref s30, .ref s31, .int 0, .int 0, .int 0, .ref s35, .ref s36, .ref s37, .long 0, .ref s39, .ref s40, .ref s41, .ref s42]))] sz) [(h0, .inr (12, [.ref s0, .int 0, .int 0, .ref s3, .ref s4, .ref s5, .ref s6, .ref s7, .int 0, .int 0, .int 0, .int 0, .int 0, .int 0, .int 0, .ref s15, .int 0, .ref s17, .int 0, .ref s19, .ref s20, .int (-1), .int 0, .int 0, .int 0, .int 0, .int 0, .ref s27, .int 0, .ref s29, .ref s30, .ref s31, .int 0, .int 0, .int 0, .ref s35, .ref s36, .ref s37, .long 0, .ref s39, .ref s40, .ref s41, .ref s42]))]) (va_A [(h0, .inr (12, [.ref s0, .int 0, .int 0, .ref s3, .ref s4, .ref s5, .ref s6, .ref s7, .int 0, .int 0, .int 0, .int 0, .int 0, .int 0, .int 0, .ref s15, .int 0, .ref s17, .int 0, .ref s19, .ref s20, .int (-1), .int 0, .int 0, .int 0, .int 0, .int 0, .ref s27, .int 0, .ref s29, .ref s30, .ref s31, .int 0, .int 0, .int 0, .ref s35, .ref s36, .ref s37, .long 0, .ref s39, .ref s40, .ref s41, .ref s42]))] sz)) 0 0 (va_A [(h0, .inr (12, [.ref s0, .int 0, .int 0, .ref s3, .ref s4, .ref s5, .ref s6, .ref s7, .int 0, .int 0, .int 0, .int 0, .int 0, .int 0, .int 0, .ref s15, .int 0, .ref s17, .int 0, .ref s19, .ref s20, .int (-1), .int 0, .int 0, .int 0, .int 0, .int 0, .ref s27, .int 0, .ref s29, .ref s30, .ref s31, .int 0, .int 0, .int 0, .ref s35, .ref s36, .ref s37, .long 0, .ref s39, .ref s40, .ref s41, .ref s42]))] sz) := by
  refine Met.ofW (cc := cX12_isRule) (maxL := 2) (ret := (some .boolean)) (by decide) rfl ?_
  intro p e s m args below meth c s₁ B hml hv
  obtain ⟨rfl, hsz, hP, hK, hD0, hE⟩ := hv
  have hx := B.exec
  have hb := B.bytes
  have hr := B.returns
  have hts := atoms_spec (ws := .code yX12_isRule cX12_isRule 2 (some .boolean) :: wsA) B.pre
  have hq : ∀ w ∈ wsA, w.before _ s = true := fun w h => hts w (List.mem_cons_of_mem _ h)
  have hown : s.vm.findClass RX12 = some m.cls := findClass_of_methodNamed B.named
  have hlocks := B.notSynchronized
  subst hsz
  have hD := hD0.self (sz := s.heap.size)
  generalize hAe : va_A [(h0, .inr (12, [.ref s0, .int 0, .int 0, .ref s3, .ref s4, .ref s5, .ref s6, .ref s7, .int 0, .int 0, .int 0, .int 0, .int 0, .int 0, .int 0, .ref s15, .int 0, .ref s17, .int 0, .ref s19, .ref s20, .int (-1), .int 0, .int 0, .int 0, .int 0, .int 0, .ref s27, .int 0, .ref s29, .ref s30, .ref s31, .int 0, .int 0, .int 0, .ref s35, .ref s36, .ref s37, .long 0, .ref s39, .ref s40, .ref s41, .ref s42]))] s.heap.size = A at hD ⊢
  have hA : ∀ q : Nat, s.heap.size ≤ q → A q := fun q h => by rw [← hAe]; exact Or.inr h
  have hS : va_S A s.heap s.heap [] := va_S.rf
  have hl := lv_entry ([.ref h0, .int x0]) (n := 2) (Nat.le_of_ble_eq_true rfl)
  rw [lg_entry_eq]
  generalize (lg_sl ([.ref h0, .int x0]) ++ List.replicate (2 - (lg_sl ([.ref h0, .int x0])).length) Slot.unset).toArray = ls at hl ⊢
  have hl : lv_has ls 2 [(0, .ref h0), (1, .int x0)] := hl
  refine lv_iload_n hx hb dX12_isRule_0 rfl (lv_at hl 1 rfl) ?_
  refine lv_if_lt (tgt := 16) hx hb dX12_isRule_1 (by decide) (fun c_1 => ?_) (fun c_1 => ?_)
  · refine lv_iconst (v := 0) hx hb dX12_isRule_16 (by decide) ?_
    have hP9 := hP.sub (ws' := [(h0, .inr (12, [.ref s0, .int 0, .int 0, .ref s3, .ref s4, .ref s5, .ref s6, .ref s7, .int 0, .int 0, .int 0, .int 0, .int 0, .int 0, .int 0, .ref s15, .int 0, .ref s17, .int 0, .ref s19, .ref s20, .int (-1), .int 0, .int 0, .int 0, .int 0, .int 0, .ref s27, .int 0, .ref s29, .ref s30, .ref s31, .int 0, .int 0, .int 0, .ref s35, .ref s36, .ref s37, .long 0, .ref s39, .ref s40, .ref s41, .ref s42]))]) [0] rfl
    have hD9 := hD.sub (ws' := [(h0, .inr (12, [.ref s0, .int 0, .int 0, .ref s3, .ref s4, .ref s5, .ref s6, .ref s7, .int 0, .int 0, .int 0, .int 0, .int 0, .int 0, .int 0, .ref s15, .int 0, .ref s17, .int 0, .ref s19, .ref s20, .int (-1), .int 0, .int 0, .int 0, .int 0, .int 0, .ref s27, .int 0, .ref s29, .ref s30, .ref s31, .int 0, .int 0, .int 0, .ref s35, .ref s36, .ref s37, .long 0, .ref s39, .ref s40, .ref s41, .ref s42]))]) [0] (by decide) rfl
    have hK9 := hK.sub (tys' := []) [] rfl
    refine W.widen (k := 0) (n := 0) (Nat.le_of_ble_eq_true rfl) (Nat.le_of_ble_eq_true rfl) ?_
    exact W.zret (v := 0) hx hb hr (by decide) (fun t ht hW => ⟨⟨0, (), rfl, rfl, by rw [ht]; exact hP9, va_K.moved hW.alike hK9, hD9⟩, hS.F ht⟩) hS.2.2 dX12_isRule_17
  · refine lv_iload_n hx hb dX12_isRule_4 rfl (lv_at hl 1 rfl) ?_
    refine lv_aload_n hx hb dX12_isRule_5 rfl (lv_at hl 0 rfl) ?_
    refine va_get (D := (dC, dI)) (ci := 12) (v := .int 0) (C := RX12) (T := TX12) (N := 43) hx hb hq inX12 hown hK hP 0 rfl rfl 2 (by decide) (hq _ qw_1162) (fun _ h9 => h9) rfl dX12_isRule_6 ?_
    refine lv_icmp_ge (tgt := 16) hx hb dX12_isRule_9 (by decide) (fun _ => ?_) (fun c9 => by have z0 : (0 : Int32).toInt = 0 := (by decide); simp only [Int32.le_iff_toInt_le, Int32.lt_iff_toInt_lt, ← Int32.toInt_inj, z0] at c9 c_1; omega)
    refine lv_iconst (v := 0) hx hb dX12_isRule_16 (by decide) ?_
    have hP9 := hP.sub (ws' := [(h0, .inr (12, [.ref s0, .int 0, .int 0, .ref s3, .ref s4, .ref s5, .ref s6, .ref s7, .int 0, .int 0, .int 0, .int 0, .int 0, .int 0, .int 0, .ref s15, .int 0, .ref s17, .int 0, .ref s19, .ref s20, .int (-1), .int 0, .int 0, .int 0, .int 0, .int 0, .ref s27, .int 0, .ref s29, .ref s30, .ref s31, .int 0, .int 0, .int 0, .ref s35, .ref s36, .ref s37, .long 0, .ref s39, .ref s40, .ref s41, .ref s42]))]) [0] rfl
    have hD9 := hD.sub (ws' := [(h0, .inr (12, [.ref s0, .int 0, .int 0, .ref s3, .ref s4, .ref s5, .ref s6, .ref s7, .int 0, .int 0, .int 0, .int 0, .int 0, .int 0, .int 0, .ref s15, .int 0, .ref s17, .int 0, .ref s19, .ref s20, .int (-1), .int 0, .int 0, .int 0, .int 0, .int 0, .ref s27, .int 0, .ref s29, .ref s30, .ref s31, .int 0, .int 0, .int 0, .ref s35, .ref s36, .ref s37, .long 0, .ref s39, .ref s40, .ref s41, .ref s42]))]) [0] (by decide) rfl
    have hK9 := hK.sub (tys' := []) [] rfl
    refine W.widen (k := 0) (n := 0) (Nat.le_of_ble_eq_true rfl) (Nat.le_of_ble_eq_true rfl) ?_
    exact W.zret (v := 0) hx hb hr (by decide) (fun t ht hW => ⟨⟨0, (), rfl, rfl, by rw [ht]; exact hP9, va_K.moved hW.alike hK9, hD9⟩, hS.F ht⟩) hS.2.2 dX12_isRule_17

set_option maxHeartbeats 4000000 in
set_option maxRecDepth 100000 in
/-- c_M_end -/
theorem c_M_end (l : Launch) (dC : Nat → ClassId) (dI : Nat → Nat → Nat) (sz : Nat) (h0 : Nat) (s0 : Nat) (s3 : Nat) (s4 : Nat) (s5 : Nat) (s6 : Nat) (s7 : Nat) (s15 : Nat) (s17 : Nat) (s19 : Nat) (s20 : Nat) (s27 : Nat) (s29 : Nat) (s30 : Nat) (s31 : Nat) (s35 : Nat) (s36 : Nat) (s37 : Nat) (s39 : Nat) (s40 : Nat) (s41 : Nat) (s42 : Nat) (x0 : Int32) : Met l yX12_end (.code yX12_end cX12_end 2 (some .int) :: wsA) ({ frames := 0, cells := 0, slots := 0, locals := 0 }) (va_Pc [.ref h0, .int x0] (fun U => U.heap.size = sz ∧ va_P (dC, dI) classes [(h0, .inr (12, [.ref s0, .int 0, .int 0, .ref s3, .ref s4, .ref s5, .ref s6, .ref s7, .int 0, .int 0, .int 0, .int 0, .int 0, .int 0, .int 0, .ref s15, .int 0, .ref s17, .int 0, .ref s19, .ref s20, .int (-1), .int 0, .int 0, .int 0, .int 0, .int 0, .ref s27, .int 0, .ref s29, .ref s30, .ref s31, .int 0, .int 0, .int 0, .ref s35, .ref s36, .ref s37, .long 0, .ref s39, .ref s40, .ref s41, .ref s42]))] U.heap ∧ va_K (dC, dI) classes [] U ∧ va_D (fun _ => True) [(h0, .inr (12, [.ref s0, .int 0, .int 0, .ref s3, .ref s4, .ref s5, .ref s6, .ref s7, .int 0, .int 0, .int 0, .int 0, .int 0, .int 0, .int 0, .ref s15, .int 0, .ref s17, .int 0, .ref s19, .ref s20, .int (-1), .int 0, .int 0, .int 0, .int 0, .int 0, .ref s27, .int 0, .ref s29, .ref s30, .ref s31, .int 0, .int 0, .int 0, .ref s35, .ref s36, .ref s37, .long 0, .ref s39, .ref s40, .ref s41, .ref s42]))] ∧ xE U)) (va_Qi (fun (r : Int32) (_ : Unit) => (x0 = 0 → r = 0) ∧ (¬ x0 = 0 → r = -1)) (fun _ _ => True) (va_A [(h0, .inr (12, [.ref s0, .int 0, .int 0, .ref s3, .ref s4, .ref s5, .ref s6, .ref s7, .int 0, .int 0, .int 0, .int 0, .int 0, .int 0, .int 0, .ref s15, .int 0, .ref s17, .int 0, .ref s19, .ref s20, .int (-1), .int 0, .int 0, .int 0, .int 0, .int 0, .ref s27, .int 0, .ref s29, .ref s30, .ref s31, .int 0, .int 0, .int 0, .ref s35, .ref s36, .ref s37, .long 0, .ref s39, .ref s40, .ref s41, .ref s42]))] sz)) 0 0 (va_A [(h0, .inr (12, [.ref s0, .int 0, .int 0, .ref s3, .ref s4, .ref s5, .ref s6, .ref s7, .int 0, .int 0, .int 0, .int 0, .int 0, .int 0, .int 0, .ref s15, .int 0, .ref s17, .int 0, .ref s19, .ref s20, .int (-1), .int 0, .int 0, .int 0, .int 0, .int 0, .ref s27, .int 0, .ref s29, .ref s30, .ref s31, .int 0, .int 0, .int 0, .ref s35, .ref s36, .ref s37, .long 0, .ref s39, .ref s40, .ref s41, .ref s42]))] sz) := by
  refine Met.ofW (cc := cX12_end) (maxL := 2) (ret := (some .int)) (by decide) rfl ?_
  intro p e s m args below meth c s₁ B hml hv
  obtain ⟨rfl, hsz, hP, hK, hD0, hE⟩ := hv
  have hx := B.exec
  have hb := B.bytes
  have hr := B.returns
  have hts := atoms_spec (ws := .code yX12_end cX12_end 2 (some .int) :: wsA) B.pre
  have hq : ∀ w ∈ wsA, w.before _ s = true := fun w h => hts w (List.mem_cons_of_mem _ h)
  have hown : s.vm.findClass RX12 = some m.cls := findClass_of_methodNamed B.named
  have hlocks := B.notSynchronized
  subst hsz
  have hD := hD0.self (sz := s.heap.size)
  generalize hAe : va_A [(h0, .inr (12, [.ref s0, .int 0, .int 0, .ref s3, .ref s4, .ref s5, .ref s6, .ref s7, .int 0, .int 0, .int 0, .int 0, .int 0, .int 0, .int 0, .ref s15, .int 0, .ref s17, .int 0, .ref s19, .ref s20, .int (-1), .int 0, .int 0, .int 0, .int 0, .int 0, .ref s27, .int 0, .ref s29, .ref s30, .ref s31, .int 0, .int 0, .int 0, .ref s35, .ref s36, .ref s37, .long 0, .ref s39, .ref s40, .ref s41, .ref s42]))] s.heap.size = A at hD ⊢
  have hA : ∀ q : Nat, s.heap.size ≤ q → A q := fun q h => by rw [← hAe]; exact Or.inr h
  have hS : va_S A s.heap s.heap [] := va_S.rf
  have hl := lv_entry ([.ref h0, .int x0]) (n := 2) (Nat.le_of_ble_eq_true rfl)
  rw [lg_entry_eq]
  generalize (lg_sl ([.ref h0, .int x0]) ++ List.replicate (2 - (lg_sl ([.ref h0, .int x0])).length) Slot.unset).toArray = ls at hl ⊢
  have hl : lv_has ls 2 [(0, .ref h0), (1, .int x0)] := hl
  refine lv_iload_n hx hb dX12_end_0 rfl (lv_at hl 1 rfl) ?_
  refine lv_if_lt (tgt := 12) hx hb dX12_end_1 (by decide) (fun c_1 => ?_) (fun c_1 => ?_)
  · refine lv_iconst (v := (-1)) hx hb dX12_end_12 (by decide) ?_
    refine W.widen (k := 0) (n := 0) (Nat.le_of_ble_eq_true rfl) (Nat.le_of_ble_eq_true rfl) ?_
    exact W.iret (v := (-1)) hx hb hr (fun t ht hW => ⟨⟨(-1), (), rfl, ⟨fun z => by first | rfl | exact z | (exfalso; have z0 : (0 : Int32).toInt = 0 := (by decide); simp only [Int32.le_iff_toInt_le, Int32.lt_iff_toInt_lt, ← Int32.toInt_inj, z0] at c_1 z; omega), fun z => by first | rfl | exact z | (exfalso; have z0 : (0 : Int32).toInt = 0 := (by decide); simp only [Int32.le_iff_toInt_le, Int32.lt_iff_toInt_lt, ← Int32.toInt_inj, z0] at c_1 z; omega)⟩, trivial⟩, hS.F ht⟩) hS.2.2 dX12_end_13
  · refine lv_iload_n hx hb dX12_end_4 rfl (lv_at hl 1 rfl) ?_
    refine lv_aload_n hx hb dX12_end_5 rfl (lv_at hl 0 rfl) ?_
    refine va_get (D := (dC, dI)) (ci := 12) (v := .int 0) (C := RX12) (T := TX12) (N := 43) hx hb hq inX12 hown hK hP 0 rfl rfl 1 (by decide) (hq _ qw_1161) (fun _ h9 => h9) rfl dX12_end_6 ?_
    refine lv_icmp_le (tgt := 14) hx hb dX12_end_9 (by decide) (fun c_2 => ?_) (fun c_2 => ?_)
    · refine lv_aload_n hx hb dX12_end_14 rfl (lv_at hl 0 rfl) ?_
      refine lv_iload_n hx hb dX12_end_15 rfl (lv_at hl 1 rfl) ?_
      refine va_put (D := (dC, dI)) (ci := 12) (v := .int x0) (ty := .int) (C := RX12) (T := TX12) (N := 43) hx hb hq inX12 tyX12 tyX12_ok nmX12 hown hK hP hD hS 0 rfl rfl 1 (by decide) (hq _ qw_1161) (fun _ h9 => h9) rfl (by decide +kernel) rfl rfl (Nat.le_of_ble_eq_true rfl) dX12_end_16 (fun H locs hP hD hS => ?_)
      have hP : va_P (dC, dI) classes [(h0, .inr (12, [.ref s0, .int x0, .int 0, .ref s3, .ref s4, .ref s5, .ref s6, .ref s7, .int 0, .int 0, .int 0, .int 0, .int 0, .int 0, .int 0, .ref s15, .int 0, .ref s17, .int 0, .ref s19, .ref s20, .int (-1), .int 0, .int 0, .int 0, .int 0, .int 0, .ref s27, .int 0, .ref s29, .ref s30, .ref s31, .int 0, .int 0, .int 0, .ref s35, .ref s36, .ref s37, .long 0, .ref s39, .ref s40, .ref s41, .ref s42]))] H := hP
      have hD : va_D A [(h0, .inr (12, [.ref s0, .int x0, .int 0, .ref s3, .ref s4, .ref s5, .ref s6, .ref s7, .int 0, .int 0, .int 0, .int 0, .int 0, .int 0, .int 0, .ref s15, .int 0, .ref s17, .int 0, .ref s19, .ref s20, .int (-1), .int 0, .int 0, .int 0, .int 0, .int 0, .ref s27, .int 0, .ref s29, .ref s30, .ref s31, .int 0, .int 0, .int 0, .ref s35, .ref s36, .ref s37, .long 0, .ref s39, .ref s40, .ref s41, .ref s42]))] := hD
      refine lv_iload_n hx hb dX12_end_19 rfl (lv_at hl 1 rfl) ?_
      refine W.widen (k := 0) (n := 0) (Nat.le_of_ble_eq_true rfl) (Nat.le_of_ble_eq_true rfl) ?_
      exact W.iret (v := x0) hx hb hr (fun t ht hW => ⟨⟨x0, (), rfl, ⟨fun z => by first | rfl | exact z | (exfalso; have z0 : (0 : Int32).toInt = 0 := (by decide); simp only [Int32.le_iff_toInt_le, Int32.lt_iff_toInt_lt, ← Int32.toInt_inj, z0] at c_1 c_2 z; omega), fun z => by first | rfl | exact z | (exfalso; have z0 : (0 : Int32).toInt = 0 := (by decide); simp only [Int32.le_iff_toInt_le, Int32.lt_iff_toInt_lt, ← Int32.toInt_inj, z0] at c_1 c_2 z; omega)⟩, trivial⟩, hS.F ht⟩) hS.2.2 dX12_end_20
    · refine lv_iconst (v := (-1)) hx hb dX12_end_12 (by decide) ?_
      refine W.widen (k := 0) (n := 0) (Nat.le_of_ble_eq_true rfl) (Nat.le_of_ble_eq_true rfl) ?_
      exact W.iret (v := (-1)) hx hb hr (fun t ht hW => ⟨⟨(-1), (), rfl, ⟨fun z => by first | rfl | exact z | (exfalso; have z0 : (0 : Int32).toInt = 0 := (by decide); simp only [Int32.le_iff_toInt_le, Int32.lt_iff_toInt_lt, ← Int32.toInt_inj, z0] at c_1 c_2 z; omega), fun z => by first | rfl | exact z | (exfalso; have z0 : (0 : Int32).toInt = 0 := (by decide); simp only [Int32.le_iff_toInt_le, Int32.lt_iff_toInt_lt, ← Int32.toInt_inj, z0] at c_1 c_2 z; omega)⟩, trivial⟩, hS.F ht⟩) hS.2.2 dX12_end_13

set_option maxHeartbeats 4000000 in
set_option maxRecDepth 100000 in
/-- c_M_seed -/
theorem c_M_seed (l : Launch) (dC : Nat → ClassId) (dI : Nat → Nat → Nat) (sz : Nat) (h0 : Nat) (s0 : Nat) (s3 : Nat) (s4 : Nat) (s5 : Nat) (s6 : Nat) (s7 : Nat) (s15 : Nat) (s17 : Nat) (s19 : Nat) (s20 : Nat) (s27 : Nat) (s29 : Nat) (s30 : Nat) (s31 : Nat) (s35 : Nat) (s36 : Nat) (s37 : Nat) (s39 : Nat) (s40 : Nat) (s41 : Nat) (s42 : Nat) (x0 : Int32) : Met l yX12_seed (.code yX12_seed cX12_seed 3 (some .int) :: wsA) ({ frames := 0, cells := 0, slots := 0, locals := 0 }) (va_Pc [.ref h0, .int x0] (fun U => U.heap.size = sz ∧ va_P (dC, dI) classes [(h0, .inr (12, [.ref s0, .int 0, .int 0, .ref s3, .ref s4, .ref s5, .ref s6, .ref s7, .int 0, .int 0, .int 0, .int 0, .int 0, .int 0, .int 0, .ref s15, .int 0, .ref s17, .int 0, .ref s19, .ref s20, .int (-1), .int 0, .int 0, .int 0, .int 0, .int 0, .ref s27, .int 0, .ref s29, .ref s30, .ref s31, .int 0, .int 0, .int 0, .ref s35, .ref s36, .ref s37, .long 0, .ref s39, .ref s40, .ref s41, .ref s42]))] U.heap ∧ va_K (dC, dI) classes [] U ∧ va_D (fun _ => True) [(h0, .inr (12, [.ref s0, .int 0, .int 0, .ref s3, .ref s4, .ref s5, .ref s6, .ref s7, .int 0, .int 0, .int 0, .int 0, .int 0, .int 0, .int 0, .ref s15, .int 0, .ref s17, .int 0, .ref s19, .ref s20, .int (-1), .int 0, .int 0, .int 0, .int 0, .int 0, .ref s27, .int 0, .ref s29, .ref s30, .ref s31, .int 0, .int 0, .int 0, .ref s35, .ref s36, .ref s37, .long 0, .ref s39, .ref s40, .ref s41, .ref s42]))] ∧ xE U)) (va_Qi (fun (r : Int32) (_ : Unit) => (x0 < 0 → r = -1) ∧ (¬ x0 < 0 → r = 0)) (fun _ _ => True) (va_A [(h0, .inr (12, [.ref s0, .int 0, .int 0, .ref s3, .ref s4, .ref s5, .ref s6, .ref s7, .int 0, .int 0, .int 0, .int 0, .int 0, .int 0, .int 0, .ref s15, .int 0, .ref s17, .int 0, .ref s19, .ref s20, .int (-1), .int 0, .int 0, .int 0, .int 0, .int 0, .ref s27, .int 0, .ref s29, .ref s30, .ref s31, .int 0, .int 0, .int 0, .ref s35, .ref s36, .ref s37, .long 0, .ref s39, .ref s40, .ref s41, .ref s42]))] sz)) 0 0 (va_A [(h0, .inr (12, [.ref s0, .int 0, .int 0, .ref s3, .ref s4, .ref s5, .ref s6, .ref s7, .int 0, .int 0, .int 0, .int 0, .int 0, .int 0, .int 0, .ref s15, .int 0, .ref s17, .int 0, .ref s19, .ref s20, .int (-1), .int 0, .int 0, .int 0, .int 0, .int 0, .ref s27, .int 0, .ref s29, .ref s30, .ref s31, .int 0, .int 0, .int 0, .ref s35, .ref s36, .ref s37, .long 0, .ref s39, .ref s40, .ref s41, .ref s42]))] sz) := by
  refine Met.ofW (cc := cX12_seed) (maxL := 3) (ret := (some .int)) (by decide) rfl ?_
  intro p e s m args below meth c s₁ B hml hv
  obtain ⟨rfl, hsz, hP, hK, hD0, hE⟩ := hv
  have hx := B.exec
  have hb := B.bytes
  have hr := B.returns
  have hts := atoms_spec (ws := .code yX12_seed cX12_seed 3 (some .int) :: wsA) B.pre
  have hq : ∀ w ∈ wsA, w.before _ s = true := fun w h => hts w (List.mem_cons_of_mem _ h)
  have hown : s.vm.findClass RX12 = some m.cls := findClass_of_methodNamed B.named
  have hlocks := B.notSynchronized
  subst hsz
  have hD := hD0.self (sz := s.heap.size)
  generalize hAe : va_A [(h0, .inr (12, [.ref s0, .int 0, .int 0, .ref s3, .ref s4, .ref s5, .ref s6, .ref s7, .int 0, .int 0, .int 0, .int 0, .int 0, .int 0, .int 0, .ref s15, .int 0, .ref s17, .int 0, .ref s19, .ref s20, .int (-1), .int 0, .int 0, .int 0, .int 0, .int 0, .ref s27, .int 0, .ref s29, .ref s30, .ref s31, .int 0, .int 0, .int 0, .ref s35, .ref s36, .ref s37, .long 0, .ref s39, .ref s40, .ref s41, .ref s42]))] s.heap.size = A at hD ⊢
  have hA : ∀ q : Nat, s.heap.size ≤ q → A q := fun q h => by rw [← hAe]; exact Or.inr h
  have hS : va_S A s.heap s.heap [] := va_S.rf
  have hl := lv_entry ([.ref h0, .int x0]) (n := 3) (Nat.le_of_ble_eq_true rfl)
  rw [lg_entry_eq]
  generalize (lg_sl ([.ref h0, .int x0]) ++ List.replicate (3 - (lg_sl ([.ref h0, .int x0])).length) Slot.unset).toArray = ls at hl ⊢
  have hl : lv_has ls 3 [(0, .ref h0), (1, .int x0)] := hl
  refine lv_iload_n hx hb dX12_seed_0 rfl (lv_at hl 1 rfl) ?_
  refine lv_if_ge (tgt := 6) hx hb dX12_seed_1 (by decide) (fun c_1 => ?_) (fun c_1 => ?_)
  · refine lv_aload_n hx hb dX12_seed_6 rfl (lv_at hl 0 rfl) ?_
    refine va_get (D := (dC, dI)) (ci := 12) (v := .int 0) (C := RX12) (T := TX12) (N := 43) hx hb hq inX12 hown hK hP 0 rfl rfl 22 (by decide) (hq _ qw_1182) (fun _ h9 => h9) rfl dX12_seed_7 ?_
    refine lv_istore_n (lv' := [(2, .int 0), (0, .ref h0), (1, .int x0)]) hx hb dX12_seed_10 rfl hl (by decide) rfl (fun ls hl => ?_)
    refine lv_aload_n hx hb dX12_seed_11 rfl (lv_at hl 1 rfl) ?_
    refine lv_iload_n hx hb dX12_seed_12 rfl (lv_at hl 2 rfl) ?_
    refine va_put (D := (dC, dI)) (ci := 12) (v := .int x0) (ty := .int) (C := RX12) (T := TX12) (N := 43) hx hb hq inX12 tyX12 tyX12_ok nmX12 hown hK hP hD hS 0 rfl rfl 22 (by decide) (hq _ qw_1182) (fun _ h9 => h9) rfl (by decide +kernel) rfl rfl (Nat.le_of_ble_eq_true rfl) dX12_seed_13 (fun H locs hP hD hS => ?_)
    have hP : va_P (dC, dI) classes [(h0, .inr (12, [.ref s0, .int 0, .int 0, .ref s3, .ref s4, .ref s5, .ref s6, .ref s7, .int 0, .int 0, .int 0, .int 0, .int 0, .int 0, .int 0, .ref s15, .int 0, .ref s17, .int 0, .ref s19, .ref s20, .int (-1), .int x0, .int 0, .int 0, .int 0, .int 0, .ref s27, .int 0, .ref s29, .ref s30, .ref s31, .int 0, .int 0, .int 0, .ref s35, .ref s36, .ref s37, .long 0, .ref s39, .ref s40, .ref s41, .ref s42]))] H := hP
    have hD : va_D A [(h0, .inr (12, [.ref s0, .int 0, .int 0, .ref s3, .ref s4, .ref s5, .ref s6, .ref s7, .int 0, .int 0, .int 0, .int 0, .int 0, .int 0, .int 0, .ref s15, .int 0, .ref s17, .int 0, .ref s19, .ref s20, .int (-1), .int x0, .int 0, .int 0, .int 0, .int 0, .ref s27, .int 0, .ref s29, .ref s30, .ref s31, .int 0, .int 0, .int 0, .ref s35, .ref s36, .ref s37, .long 0, .ref s39, .ref s40, .ref s41, .ref s42]))] := hD
    refine lv_iload_n hx hb dX12_seed_16 rfl (lv_at hl 0 rfl) ?_
    refine W.widen (k := 0) (n := 0) (Nat.le_of_ble_eq_true rfl) (Nat.le_of_ble_eq_true rfl) ?_
    exact W.iret (v := 0) hx hb hr (fun t ht hW => ⟨⟨0, (), rfl, ⟨fun h => absurd h (Int32.not_lt.mpr c_1), fun _ => rfl⟩, trivial⟩, hS.F ht⟩) hS.2.2 dX12_seed_17
  · refine lv_iconst (v := (-1)) hx hb dX12_seed_4 (by decide) ?_
    refine W.widen (k := 0) (n := 0) (Nat.le_of_ble_eq_true rfl) (Nat.le_of_ble_eq_true rfl) ?_
    exact W.iret (v := (-1)) hx hb hr (fun t ht hW => ⟨⟨(-1), (), rfl, ⟨fun _ => rfl, fun h => absurd (Int32.not_lt.mp h) c_1⟩, trivial⟩, hS.F ht⟩) hS.2.2 dX12_seed_5

set_option maxHeartbeats 4000000 in
set_option maxRecDepth 100000 in
/-- c_M_force -/
theorem c_M_force (l : Launch) (dC : Nat → ClassId) (dI : Nat → Nat → Nat) (sz : Nat) (h0 : Nat) (s0 : Nat) (s3 : Nat) (s4 : Nat) (s5 : Nat) (s6 : Nat) (s7 : Nat) (s15 : Nat) (s17 : Nat) (s19 : Nat) (s20 : Nat) (s27 : Nat) (s29 : Nat) (s30 : Nat) (s31 : Nat) (s35 : Nat) (s36 : Nat) (s37 : Nat) (s39 : Nat) (s40 : Nat) (s41 : Nat) (s42 : Nat) (x0 : Int32) : Met l yX12_force (.code yX12_force cX12_force 3 (some .int) :: wsA) ({ frames := 1, cells := 0, slots := 0, locals := 21 }) (va_Pc [.ref h0, .int x0] (fun U => U.heap.size = sz ∧ va_P (dC, dI) classes [(h0, .inr (12, [.ref s0, .int 0, .int 0, .ref s3, .ref s4, .ref s5, .ref s6, .ref s7, .int 0, .int 0, .int 0, .int 0, .int 0, .int 0, .int 0, .ref s15, .int 0, .ref s17, .int 0, .ref s19, .ref s20, .int (-1), .int 0, .int 0, .int 0, .int 0, .int 0, .ref s27, .int 0, .ref s29, .ref s30, .ref s31, .int 0, .int 0, .int 0, .ref s35, .ref s36, .ref s37, .long 0, .ref s39, .ref s40, .ref s41, .ref s42]))] U.heap ∧ va_K (dC, dI) classes [] U ∧ va_D (fun _ => True) [(h0, .inr (12, [.ref s0, .int 0, .int 0, .ref s3, .ref s4, .ref s5, .ref s6, .ref s7, .int 0, .int 0, .int 0, .int 0, .int 0, .int 0, .int 0, .ref s15, .int 0, .ref s17, .int 0, .ref s19, .ref s20, .int (-1), .int 0, .int 0, .int 0, .int 0, .int 0, .ref s27, .int 0, .ref s29, .ref s30, .ref s31, .int 0, .int 0, .int 0, .ref s35, .ref s36, .ref s37, .long 0, .ref s39, .ref s40, .ref s41, .ref s42]))] ∧ xE U)) (va_Qi (fun (r : Int32) (_ : Unit) => (x0 = -1 → r = -1) ∧ (¬ x0 = -1 → r = -2)) (fun _ _ => True) (va_A [(h0, .inr (12, [.ref s0, .int 0, .int 0, .ref s3, .ref s4, .ref s5, .ref s6, .ref s7, .int 0, .int 0, .int 0, .int 0, .int 0, .int 0, .int 0, .ref s15, .int 0, .ref s17, .int 0, .ref s19, .ref s20, .int (-1), .int 0, .int 0, .int 0, .int 0, .int 0, .ref s27, .int 0, .ref s29, .ref s30, .ref s31, .int 0, .int 0, .int 0, .ref s35, .ref s36, .ref s37, .long 0, .ref s39, .ref s40, .ref s41, .ref s42]))] sz)) 0 0 (va_A [(h0, .inr (12, [.ref s0, .int 0, .int 0, .ref s3, .ref s4, .ref s5, .ref s6, .ref s7, .int 0, .int 0, .int 0, .int 0, .int 0, .int 0, .int 0, .ref s15, .int 0, .ref s17, .int 0, .ref s19, .ref s20, .int (-1), .int 0, .int 0, .int 0, .int 0, .int 0, .ref s27, .int 0, .ref s29, .ref s30, .ref s31, .int 0, .int 0, .int 0, .ref s35, .ref s36, .ref s37, .long 0, .ref s39, .ref s40, .ref s41, .ref s42]))] sz) := by
  refine Met.ofW (cc := cX12_force) (maxL := 3) (ret := (some .int)) (by decide) rfl ?_
  intro p e s m args below meth c s₁ B hml hv
  obtain ⟨rfl, hsz, hP, hK, hD0, hE⟩ := hv
  have hx := B.exec
  have hb := B.bytes
  have hr := B.returns
  have hts := atoms_spec (ws := .code yX12_force cX12_force 3 (some .int) :: wsA) B.pre
  have hq : ∀ w ∈ wsA, w.before _ s = true := fun w h => hts w (List.mem_cons_of_mem _ h)
  have hown : s.vm.findClass RX12 = some m.cls := findClass_of_methodNamed B.named
  have hlocks := B.notSynchronized
  subst hsz
  have hD := hD0.self (sz := s.heap.size)
  generalize hAe : va_A [(h0, .inr (12, [.ref s0, .int 0, .int 0, .ref s3, .ref s4, .ref s5, .ref s6, .ref s7, .int 0, .int 0, .int 0, .int 0, .int 0, .int 0, .int 0, .ref s15, .int 0, .ref s17, .int 0, .ref s19, .ref s20, .int (-1), .int 0, .int 0, .int 0, .int 0, .int 0, .ref s27, .int 0, .ref s29, .ref s30, .ref s31, .int 0, .int 0, .int 0, .ref s35, .ref s36, .ref s37, .long 0, .ref s39, .ref s40, .ref s41, .ref s42]))] s.heap.size = A at hD ⊢
  have hA : ∀ q : Nat, s.heap.size ≤ q → A q := fun q h => by rw [← hAe]; exact Or.inr h
  have hS : va_S A s.heap s.heap [] := va_S.rf
  have hl := lv_entry ([.ref h0, .int x0]) (n := 3) (Nat.le_of_ble_eq_true rfl)
  rw [lg_entry_eq]
  generalize (lg_sl ([.ref h0, .int x0]) ++ List.replicate (3 - (lg_sl ([.ref h0, .int x0])).length) Slot.unset).toArray = ls at hl ⊢
  have hl : lv_has ls 3 [(0, .ref h0), (1, .int x0)] := hl
  refine lv_iload_n hx hb dX12_force_0 rfl (lv_at hl 1 rfl) ?_
  refine lv_iconst (v := (-1)) hx hb dX12_force_1 (by decide) ?_
  refine lv_icmp_eq (tgt := 16) hx hb dX12_force_2 (by decide) (fun c_1 => ?_) (fun c_1 => ?_)
  · refine lv_aload_n hx hb dX12_force_16 rfl (lv_at hl 0 rfl) ?_
    refine va_get (D := (dC, dI)) (ci := 12) (v := .int (-1)) (C := RX12) (T := TX12) (N := 43) hx hb hq inX12 hown hK hP 0 rfl rfl 21 (by decide) (hq _ qw_1181) (fun _ h9 => h9) rfl dX12_force_17 ?_
    refine lv_istore_n (lv' := [(2, .int (-1)), (0, .ref h0), (1, .int x0)]) hx hb dX12_force_20 rfl hl (by decide) rfl (fun ls hl => ?_)
    refine lv_aload_n hx hb dX12_force_21 rfl (lv_at hl 1 rfl) ?_
    refine lv_iload_n hx hb dX12_force_22 rfl (lv_at hl 2 rfl) ?_
    refine va_put (D := (dC, dI)) (ci := 12) (v := .int x0) (ty := .int) (C := RX12) (T := TX12) (N := 43) hx hb hq inX12 tyX12 tyX12_ok nmX12 hown hK hP hD hS 0 rfl rfl 21 (by decide) (hq _ qw_1181) (fun _ h9 => h9) rfl (by decide +kernel) rfl rfl (Nat.le_of_ble_eq_true rfl) dX12_force_23 (fun H locs hP hD hS => ?_)
    have hP : va_P (dC, dI) classes [(h0, .inr (12, [.ref s0, .int 0, .int 0, .ref s3, .ref s4, .ref s5, .ref s6, .ref s7, .int 0, .int 0, .int 0, .int 0, .int 0, .int 0, .int 0, .ref s15, .int 0, .ref s17, .int 0, .ref s19, .ref s20, .int x0, .int 0, .int 0, .int 0, .int 0, .int 0, .ref s27, .int 0, .ref s29, .ref s30, .ref s31, .int 0, .int 0, .int 0, .ref s35, .ref s36, .ref s37, .long 0, .ref s39, .ref s40, .ref s41, .ref s42]))] H := hP
    have hD : va_D A [(h0, .inr (12, [.ref s0, .int 0, .int 0, .ref s3, .ref s4, .ref s5, .ref s6, .ref s7, .int 0, .int 0, .int 0, .int 0, .int 0, .int 0, .int 0, .ref s15, .int 0, .ref s17, .int 0, .ref s19, .ref s20, .int x0, .int 0, .int 0, .int 0, .int 0, .int 0, .ref s27, .int 0, .ref s29, .ref s30, .ref s31, .int 0, .int 0, .int 0, .ref s35, .ref s36, .ref s37, .long 0, .ref s39, .ref s40, .ref s41, .ref s42]))] := hD
    refine lv_iload_n hx hb dX12_force_26 rfl (lv_at hl 0 rfl) ?_
    refine W.widen (k := 0) (n := 0) (Nat.le_of_ble_eq_true rfl) (Nat.le_of_ble_eq_true rfl) ?_
    exact W.iret (v := (-1)) hx hb hr (fun t ht hW => ⟨⟨(-1), (), rfl, ⟨fun z => by first | rfl | exact z | (exfalso; have z0 : ((-1) : Int32).toInt = (-1) := (by decide); have z1 : (0 : Int32).toInt = 0 := (by decide); simp only [Int32.le_iff_toInt_le, Int32.lt_iff_toInt_lt, ← Int32.toInt_inj, z0, z1] at c_1 z; omega), fun z => by first | rfl | exact z | (exfalso; have z0 : ((-1) : Int32).toInt = (-1) := (by decide); have z1 : (0 : Int32).toInt = 0 := (by decide); simp only [Int32.le_iff_toInt_le, Int32.lt_iff_toInt_lt, ← Int32.toInt_inj, z0, z1] at c_1 z; omega)⟩, trivial⟩, hS.F ht⟩) hS.2.2 dX12_force_27
  · refine lv_aload_n hx hb dX12_force_5 rfl (lv_at hl 0 rfl) ?_
    refine lv_iload_n hx hb dX12_force_6 rfl (lv_at hl 1 rfl) ?_
    have hPc := hP.sub (ws' := [(h0, .inr (12, [.ref s0, .int 0, .int 0, .ref s3, .ref s4, .ref s5, .ref s6, .ref s7, .int 0, .int 0, .int 0, .int 0, .int 0, .int 0, .int 0, .ref s15, .int 0, .ref s17, .int 0, .ref s19, .ref s20, .int (-1), .int 0, .int 0, .int 0, .int 0, .int 0, .ref s27, .int 0, .ref s29, .ref s30, .ref s31, .int 0, .int 0, .int 0, .ref s35, .ref s36, .ref s37, .long 0, .ref s39, .ref s40, .ref s41, .ref s42]))]) [0] rfl
    have hDc := hD.sub (ws' := [(h0, .inr (12, [.ref s0, .int 0, .int 0, .ref s3, .ref s4, .ref s5, .ref s6, .ref s7, .int 0, .int 0, .int 0, .int 0, .int 0, .int 0, .int 0, .ref s15, .int 0, .ref s17, .int 0, .ref s19, .ref s20, .int (-1), .int 0, .int 0, .int 0, .int 0, .int 0, .ref s27, .int 0, .ref s29, .ref s30, .ref s31, .int 0, .int 0, .int 0, .ref s35, .ref s36, .ref s37, .long 0, .ref s39, .ref s40, .ref s41, .ref s42]))]) [0] (by decide) rfl
    have hKc := hK.sub (tys' := []) [] rfl
    have hFc := va_free (wc := [(h0, .inr (12, [.ref s0, .int 0, .int 0, .ref s3, .ref s4, .ref s5, .ref s6, .ref s7, .int 0, .int 0, .int 0, .int 0, .int 0, .int 0, .int 0, .ref s15, .int 0, .ref s17, .int 0, .ref s19, .ref s20, .int (-1), .int 0, .int 0, .int 0, .int 0, .int 0, .ref s27, .int 0, .ref s29, .ref s30, .ref s31, .int 0, .int 0, .int 0, .ref s35, .ref s36, .ref s37, .long 0, .ref s39, .ref s40, .ref s41, .ref s42]))]) hD hS hA [0] rfl
    refine va_calli (va_runV (As := [.int x0]) (rest := []) ⟨hx, hb, hml, hown, hq⟩ (c_M_isRule l dC dI _ h0 s0 s3 s4 s5 s6 s7 s15 s17 s19 s20 s27 s29 s30 s31 s35 s36 s37 s39 s40 s41 s42 x0 ) (cwV 1 hq (gV qw_1468 qw_1470 qw_72 qw_131 qw_1471) rfl rfl rfl (by decide +kernel) ⟨Nat.le_of_ble_eq_true rfl, Nat.le_of_ble_eq_true rfl⟩) ⟨fun a U g mk q => by obtain ⟨q0, q1, qP, qK, qD, qE⟩ := q; exact ⟨q0, q1, qP, va_K.moved (u := U) (U := U.calling g mk a) (Vm.Alike.refl U.vm) qK, qD, xE.same rfl qE⟩, va_recv hKc hPc (ci := 12) (q0 := 0) rfl rfl, fun U hU hW => ⟨rfl, by rw [hU], by rw [hU]; exact hPc, va_K.moved hW.alike hKc, hDc.weaken (fun _ _ _ _ => trivial), xE.warm hW hE⟩⟩ rfl rfl hl.1 rfl (lv_room (Nat.le_of_ble_eq_true rfl)) dX12_force_7 ⟨Nat.le_of_ble_eq_true rfl, Nat.le_of_ble_eq_true rfl⟩) hS (fun q _ h => hFc q h) hFc (fun r_2 u t H1 locs ht hvm hw hB hz1 hk1 hS => ?_)
    obtain ⟨hP1, hK1, hD1⟩ := hB
    rw [ht] at hP1
    have hK1 := va_K.moved hvm.symm hK1
    obtain ⟨hP, hD⟩ := va_join (wr := []) (w1 := [(h0, .inr (12, [.ref s0, .int 0, .int 0, .ref s3, .ref s4, .ref s5, .ref s6, .ref s7, .int 0, .int 0, .int 0, .int 0, .int 0, .int 0, .int 0, .ref s15, .int 0, .ref s17, .int 0, .ref s19, .ref s20, .int (-1), .int 0, .int 0, .int 0, .int 0, .int 0, .ref s27, .int 0, .ref s29, .ref s30, .ref s31, .int 0, .int 0, .int 0, .ref s35, .ref s36, .ref s37, .long 0, .ref s39, .ref s40, .ref s41, .ref s42]))]) hP hD [0] [] rfl rfl (by decide) (by decide) hk1 hFc hP1 hD1
    generalize H1 = H at hP hS ⊢
    have hP : va_P (dC, dI) classes [(h0, .inr (12, [.ref s0, .int 0, .int 0, .ref s3, .ref s4, .ref s5, .ref s6, .ref s7, .int 0, .int 0, .int 0, .int 0, .int 0, .int 0, .int 0, .ref s15, .int 0, .ref s17, .int 0, .ref s19, .ref s20, .int (-1), .int 0, .int 0, .int 0, .int 0, .int 0, .ref s27, .int 0, .ref s29, .ref s30, .ref s31, .int 0, .int 0, .int 0, .ref s35, .ref s36, .ref s37, .long 0, .ref s39, .ref s40, .ref s41, .ref s42]))] H := hP
    have hD : va_D A [(h0, .inr (12, [.ref s0, .int 0, .int 0, .ref s3, .ref s4, .ref s5, .ref s6, .ref s7, .int 0, .int 0, .int 0, .int 0, .int 0, .int 0, .int 0, .ref s15, .int 0, .ref s17, .int 0, .ref s19, .ref s20, .int (-1), .int 0, .int 0, .int 0, .int 0, .int 0, .ref s27, .int 0, .ref s29, .ref s30, .ref s31, .int 0, .int 0, .int 0, .ref s35, .ref s36, .ref s37, .long 0, .ref s39, .ref s40, .ref s41, .ref s42]))] := hD
    obtain rfl : r_2 = 0 := hw
    refine lv_if_ne (tgt := 16) hx hb dX12_force_10 (by decide) (fun c9 => absurd c9 (by decide)) (fun _ => ?_)
    refine lv_bipush (v := (-2)) hx hb dX12_force_13 (by decide) ?_
    refine W.widen (k := 0) (n := 0) (Nat.le_of_ble_eq_true rfl) (Nat.le_of_ble_eq_true rfl) ?_
    exact W.iret (v := (-2)) hx hb hr (fun t ht hW => ⟨⟨(-2), (), rfl, ⟨fun z => by first | rfl | exact z | (exfalso; have z0 : ((-1) : Int32).toInt = (-1) := (by decide); have z1 : (0 : Int32).toInt = 0 := (by decide); simp only [Int32.le_iff_toInt_le, Int32.lt_iff_toInt_lt, ← Int32.toInt_inj, z0, z1] at c_1 z; omega), fun z => by first | rfl | exact z | (exfalso; have z0 : ((-1) : Int32).toInt = (-1) := (by decide); have z1 : (0 : Int32).toInt = 0 := (by decide); simp only [Int32.le_iff_toInt_le, Int32.lt_iff_toInt_lt, ← Int32.toInt_inj, z0, z1] at c_1 z; omega)⟩, trivial⟩, hS.F ht⟩) hS.2.2 dX12_force_15

set_option maxHeartbeats 4000000 in
set_option maxRecDepth 100000 in
/-- c_M_clashes -/
theorem c_M_clashes (l : Launch) (dC : Nat → ClassId) (dI : Nat → Nat → Nat) (sz : Nat) (h0 : Nat) (s0 : Nat) (s3 : Nat) (s4 : Nat) (s5 : Nat) (s6 : Nat) (s7 : Nat) (s15 : Nat) (s17 : Nat) (s19 : Nat) (s20 : Nat) (s27 : Nat) (s29 : Nat) (s30 : Nat) (s31 : Nat) (s35 : Nat) (s36 : Nat) (s37 : Nat) (s39 : Nat) (s40 : Nat) (s41 : Nat) (s42 : Nat) (k20 : ClassId) (x0 : Int32) : Met l yX12_clashes (.code yX12_clashes cX12_clashes 2 (some .int) :: wsA) ({ frames := 2, cells := 0, slots := 0, locals := 41 }) (va_Pc [.ref h0, .int x0] (fun U => U.heap.size = sz ∧ va_P (dC, dI) classes [(h0, .inr (12, [.ref s0, .int 0, .int 0, .ref s3, .ref s4, .ref s5, .ref s6, .ref s7, .int 0, .int 0, .int 0, .int 0, .int 0, .int 0, .int 0, .ref s15, .int 0, .ref s17, .int 0, .ref s19, .ref s20, .int (-1), .int 0, .int 0, .int 0, .int 0, .int 0, .ref s27, .int 0, .ref s29, .ref s30, .ref s31, .int 0, .int 0, .int 0, .ref s35, .ref s36, .ref s37, .long 0, .ref s39, .ref s40, .ref s41, .ref s42])), (s20, .inl (k20, 100, .inl (fun _ => 0)))] U.heap ∧ va_K (dC, dI) classes [(k20, .int)] U ∧ va_D (fun _ => True) [(h0, .inr (12, [.ref s0, .int 0, .int 0, .ref s3, .ref s4, .ref s5, .ref s6, .ref s7, .int 0, .int 0, .int 0, .int 0, .int 0, .int 0, .int 0, .ref s15, .int 0, .ref s17, .int 0, .ref s19, .ref s20, .int (-1), .int 0, .int 0, .int 0, .int 0, .int 0, .ref s27, .int 0, .ref s29, .ref s30, .ref s31, .int 0, .int 0, .int 0, .ref s35, .ref s36, .ref s37, .long 0, .ref s39, .ref s40, .ref s41, .ref s42])), (s20, .inl (k20, 100, .inl (fun _ => 0)))] ∧ xE U)) (va_Qi (fun (r : Int32) (_ : Unit) => r = (-1)) (fun _ _ => True) (va_A [(h0, .inr (12, [.ref s0, .int 0, .int 0, .ref s3, .ref s4, .ref s5, .ref s6, .ref s7, .int 0, .int 0, .int 0, .int 0, .int 0, .int 0, .int 0, .ref s15, .int 0, .ref s17, .int 0, .ref s19, .ref s20, .int (-1), .int 0, .int 0, .int 0, .int 0, .int 0, .ref s27, .int 0, .ref s29, .ref s30, .ref s31, .int 0, .int 0, .int 0, .ref s35, .ref s36, .ref s37, .long 0, .ref s39, .ref s40, .ref s41, .ref s42])), (s20, .inl (k20, 100, .inl (fun _ => 0)))] sz)) 0 0 (va_A [(h0, .inr (12, [.ref s0, .int 0, .int 0, .ref s3, .ref s4, .ref s5, .ref s6, .ref s7, .int 0, .int 0, .int 0, .int 0, .int 0, .int 0, .int 0, .ref s15, .int 0, .ref s17, .int 0, .ref s19, .ref s20, .int (-1), .int 0, .int 0, .int 0, .int 0, .int 0, .ref s27, .int 0, .ref s29, .ref s30, .ref s31, .int 0, .int 0, .int 0, .ref s35, .ref s36, .ref s37, .long 0, .ref s39, .ref s40, .ref s41, .ref s42])), (s20, .inl (k20, 100, .inl (fun _ => 0)))] sz) := by
  refine Met.ofW (cc := cX12_clashes) (maxL := 2) (ret := (some .int)) (by decide) rfl ?_
  intro p e s m args below meth c s₁ B hml hv
  obtain ⟨rfl, hsz, hP, hK, hD0, hE⟩ := hv
  have hx := B.exec
  have hb := B.bytes
  have hr := B.returns
  have hts := atoms_spec (ws := .code yX12_clashes cX12_clashes 2 (some .int) :: wsA) B.pre
  have hq : ∀ w ∈ wsA, w.before _ s = true := fun w h => hts w (List.mem_cons_of_mem _ h)
  have hown : s.vm.findClass RX12 = some m.cls := findClass_of_methodNamed B.named
  have hlocks := B.notSynchronized
  subst hsz
  have hD := hD0.self (sz := s.heap.size)
  generalize hAe : va_A [(h0, .inr (12, [.ref s0, .int 0, .int 0, .ref s3, .ref s4, .ref s5, .ref s6, .ref s7, .int 0, .int 0, .int 0, .int 0, .int 0, .int 0, .int 0, .ref s15, .int 0, .ref s17, .int 0, .ref s19, .ref s20, .int (-1), .int 0, .int 0, .int 0, .int 0, .int 0, .ref s27, .int 0, .ref s29, .ref s30, .ref s31, .int 0, .int 0, .int 0, .ref s35, .ref s36, .ref s37, .long 0, .ref s39, .ref s40, .ref s41, .ref s42])), (s20, .inl (k20, 100, .inl (fun _ => 0)))] s.heap.size = A at hD ⊢
  have hA : ∀ q : Nat, s.heap.size ≤ q → A q := fun q h => by rw [← hAe]; exact Or.inr h
  have hS : va_S A s.heap s.heap [] := va_S.rf
  have hl := lv_entry ([.ref h0, .int x0]) (n := 2) (Nat.le_of_ble_eq_true rfl)
  rw [lg_entry_eq]
  generalize (lg_sl ([.ref h0, .int x0]) ++ List.replicate (2 - (lg_sl ([.ref h0, .int x0])).length) Slot.unset).toArray = ls at hl ⊢
  have hl : lv_has ls 2 [(0, .ref h0), (1, .int x0)] := hl
  refine lv_aload_n hx hb dX12_clashes_0 rfl (lv_at hl 0 rfl) ?_
  refine lv_iload_n hx hb dX12_clashes_1 rfl (lv_at hl 1 rfl) ?_
  have hPc := hP.sub (ws' := [(h0, .inr (12, [.ref s0, .int 0, .int 0, .ref s3, .ref s4, .ref s5, .ref s6, .ref s7, .int 0, .int 0, .int 0, .int 0, .int 0, .int 0, .int 0, .ref s15, .int 0, .ref s17, .int 0, .ref s19, .ref s20, .int (-1), .int 0, .int 0, .int 0, .int 0, .int 0, .ref s27, .int 0, .ref s29, .ref s30, .ref s31, .int 0, .int 0, .int 0, .ref s35, .ref s36, .ref s37, .long 0, .ref s39, .ref s40, .ref s41, .ref s42])), (s20, .inl (k20, 100, .inl (fun _ => 0)))]) [0, 1] rfl
  have hDc := hD.sub (ws' := [(h0, .inr (12, [.ref s0, .int 0, .int 0, .ref s3, .ref s4, .ref s5, .ref s6, .ref s7, .int 0, .int 0, .int 0, .int 0, .int 0, .int 0, .int 0, .ref s15, .int 0, .ref s17, .int 0, .ref s19, .ref s20, .int (-1), .int 0, .int 0, .int 0, .int 0, .int 0, .ref s27, .int 0, .ref s29, .ref s30, .ref s31, .int 0, .int 0, .int 0, .ref s35, .ref s36, .ref s37, .long 0, .ref s39, .ref s40, .ref s41, .ref s42])), (s20, .inl (k20, 100, .inl (fun _ => 0)))]) [0, 1] (by decide) rfl
  have hKc := hK.sub (tys' := [(k20, .int)]) [0] rfl
  have hFc := va_free (wc := [(h0, .inr (12, [.ref s0, .int 0, .int 0, .ref s3, .ref s4, .ref s5, .ref s6, .ref s7, .int 0, .int 0, .int 0, .int 0, .int 0, .int 0, .int 0, .ref s15, .int 0, .ref s17, .int 0, .ref s19, .ref s20, .int (-1), .int 0, .int 0, .int 0, .int 0, .int 0, .ref s27, .int 0, .ref s29, .ref s30, .ref s31, .int 0, .int 0, .int 0, .ref s35, .ref s36, .ref s37, .long 0, .ref s39, .ref s40, .ref s41, .ref s42])), (s20, .inl (k20, 100, .inl (fun _ => 0)))]) hD hS hA [0, 1] rfl
  refine va_calli (va_runV (As := [.int x0]) (rest := []) ⟨hx, hb, hml, hown, hq⟩ (c_M_isSecret l dC dI _ h0 s0 s3 s4 s5 s6 s7 s15 s17 s19 s20 s27 s29 s30 s31 s35 s36 s37 s39 s40 s41 s42 k20 x0 ) (cwV 1 hq (gV qw_1493 qw_1495 qw_75 qw_131 qw_1496) rfl rfl rfl (by decide +kernel) ⟨Nat.le_of_ble_eq_true rfl, Nat.le_of_ble_eq_true rfl⟩) ⟨fun a U g mk q => by obtain ⟨q0, q1, qP, qK, qD, qE⟩ := q; exact ⟨q0, q1, qP, va_K.moved (u := U) (U := U.calling g mk a) (Vm.Alike.refl U.vm) qK, qD, xE.same rfl qE⟩, va_recv hKc hPc (ci := 12) (q0 := 0) rfl rfl, fun U hU hW => ⟨rfl, by rw [hU], by rw [hU]; exact hPc, va_K.moved hW.alike hKc, hDc.weaken (fun _ _ _ _ => trivial), xE.warm hW hE⟩⟩ rfl rfl hl.1 rfl (lv_room (Nat.le_of_ble_eq_true rfl)) dX12_clashes_2 ⟨Nat.le_of_ble_eq_true rfl, Nat.le_of_ble_eq_true rfl⟩) hS (fun q _ h => hFc q h) hFc (fun r_1 u t H1 locs ht hvm hw hB hz1 hk1 hS => ?_)
  obtain ⟨hP1, hK1, hD1⟩ := hB
  rw [ht] at hP1
  have hK1 := va_K.moved hvm.symm hK1
  obtain ⟨hP, hD⟩ := va_join (wr := []) (w1 := [(h0, .inr (12, [.ref s0, .int 0, .int 0, .ref s3, .ref s4, .ref s5, .ref s6, .ref s7, .int 0, .int 0, .int 0, .int 0, .int 0, .int 0, .int 0, .ref s15, .int 0, .ref s17, .int 0, .ref s19, .ref s20, .int (-1), .int 0, .int 0, .int 0, .int 0, .int 0, .ref s27, .int 0, .ref s29, .ref s30, .ref s31, .int 0, .int 0, .int 0, .ref s35, .ref s36, .ref s37, .long 0, .ref s39, .ref s40, .ref s41, .ref s42])), (s20, .inl (k20, 100, .inl (fun _ => 0)))]) hP hD [0, 1] [] rfl rfl (by decide) (by decide) hk1 hFc hP1 hD1
  generalize H1 = H at hP hS ⊢
  have hP : va_P (dC, dI) classes [(h0, .inr (12, [.ref s0, .int 0, .int 0, .ref s3, .ref s4, .ref s5, .ref s6, .ref s7, .int 0, .int 0, .int 0, .int 0, .int 0, .int 0, .int 0, .ref s15, .int 0, .ref s17, .int 0, .ref s19, .ref s20, .int (-1), .int 0, .int 0, .int 0, .int 0, .int 0, .ref s27, .int 0, .ref s29, .ref s30, .ref s31, .int 0, .int 0, .int 0, .ref s35, .ref s36, .ref s37, .long 0, .ref s39, .ref s40, .ref s41, .ref s42])), (s20, .inl (k20, 100, .inl (fun _ => 0)))] H := hP
  have hD : va_D A [(h0, .inr (12, [.ref s0, .int 0, .int 0, .ref s3, .ref s4, .ref s5, .ref s6, .ref s7, .int 0, .int 0, .int 0, .int 0, .int 0, .int 0, .int 0, .ref s15, .int 0, .ref s17, .int 0, .ref s19, .ref s20, .int (-1), .int 0, .int 0, .int 0, .int 0, .int 0, .ref s27, .int 0, .ref s29, .ref s30, .ref s31, .int 0, .int 0, .int 0, .ref s35, .ref s36, .ref s37, .long 0, .ref s39, .ref s40, .ref s41, .ref s42])), (s20, .inl (k20, 100, .inl (fun _ => 0)))] := hD
  obtain rfl : r_1 = 0 := hw
  refine lv_if_eq (tgt := 20) hx hb dX12_clashes_5 (by decide) (fun _ => ?_) (fun c9 => absurd c9 (by decide))
  refine lv_iconst (v := (-1)) hx hb dX12_clashes_20 (by decide) ?_
  refine W.widen (k := 0) (n := 0) (Nat.le_of_ble_eq_true rfl) (Nat.le_of_ble_eq_true rfl) ?_
  exact W.iret (v := (-1)) hx hb hr (fun t ht hW => ⟨⟨(-1), (), rfl, rfl, trivial⟩, hS.F ht⟩) hS.2.2 dX12_clashes_21

set_option maxHeartbeats 4000000 in
set_option maxRecDepth 100000 in
/-- c_M_minute -/
theorem c_M_minute (l : Launch) (dC : Nat → ClassId) (dI : Nat → Nat → Nat) (sz : Nat) (h0 : Nat) (s0 : Nat) (s3 : Nat) (s4 : Nat) (s5 : Nat) (s6 : Nat) (s7 : Nat) (s15 : Nat) (s17 : Nat) (s19 : Nat) (s20 : Nat) (s27 : Nat) (s29 : Nat) (s30 : Nat) (s31 : Nat) (s35 : Nat) (s36 : Nat) (s37 : Nat) (s39 : Nat) (s40 : Nat) (s41 : Nat) (s42 : Nat) (k20 : ClassId) : Met l yX12_minute (.code yX12_minute cX12_minute 1 (some .int) :: wsA) ({ frames := 1, cells := 0, slots := 0, locals := 20 }) (va_Pc [.ref h0] (fun U => U.heap.size = sz ∧ va_P (dC, dI) classes [(h0, .inr (12, [.ref s0, .int 0, .int 0, .ref s3, .ref s4, .ref s5, .ref s6, .ref s7, .int 0, .int 0, .int 0, .int 0, .int 0, .int 0, .int 0, .ref s15, .int 0, .ref s17, .int 0, .ref s19, .ref s20, .int (-1), .int 0, .int 0, .int 0, .int 0, .int 0, .ref s27, .int 0, .ref s29, .ref s30, .ref s31, .int 0, .int 0, .int 0, .ref s35, .ref s36, .ref s37, .long 0, .ref s39, .ref s40, .ref s41, .ref s42])), (s20, .inl (k20, 100, .inl (fun _ => 0)))] U.heap ∧ va_K (dC, dI) classes [(k20, .int)] U ∧ va_D (fun _ => True) [(h0, .inr (12, [.ref s0, .int 0, .int 0, .ref s3, .ref s4, .ref s5, .ref s6, .ref s7, .int 0, .int 0, .int 0, .int 0, .int 0, .int 0, .int 0, .ref s15, .int 0, .ref s17, .int 0, .ref s19, .ref s20, .int (-1), .int 0, .int 0, .int 0, .int 0, .int 0, .ref s27, .int 0, .ref s29, .ref s30, .ref s31, .int 0, .int 0, .int 0, .ref s35, .ref s36, .ref s37, .long 0, .ref s39, .ref s40, .ref s41, .ref s42])), (s20, .inl (k20, 100, .inl (fun _ => 0)))] ∧ xE U)) (va_Qi (fun (r : Int32) (_ : Unit) => r = (-1)) (fun _ _ => True) (va_A [(h0, .inr (12, [.ref s0, .int 0, .int 0, .ref s3, .ref s4, .ref s5, .ref s6, .ref s7, .int 0, .int 0, .int 0, .int 0, .int 0, .int 0, .int 0, .ref s15, .int 0, .ref s17, .int 0, .ref s19, .ref s20, .int (-1), .int 0, .int 0, .int 0, .int 0, .int 0, .ref s27, .int 0, .ref s29, .ref s30, .ref s31, .int 0, .int 0, .int 0, .ref s35, .ref s36, .ref s37, .long 0, .ref s39, .ref s40, .ref s41, .ref s42])), (s20, .inl (k20, 100, .inl (fun _ => 0)))] sz)) 0 0 (va_A [(h0, .inr (12, [.ref s0, .int 0, .int 0, .ref s3, .ref s4, .ref s5, .ref s6, .ref s7, .int 0, .int 0, .int 0, .int 0, .int 0, .int 0, .int 0, .ref s15, .int 0, .ref s17, .int 0, .ref s19, .ref s20, .int (-1), .int 0, .int 0, .int 0, .int 0, .int 0, .ref s27, .int 0, .ref s29, .ref s30, .ref s31, .int 0, .int 0, .int 0, .ref s35, .ref s36, .ref s37, .long 0, .ref s39, .ref s40, .ref s41, .ref s42])), (s20, .inl (k20, 100, .inl (fun _ => 0)))] sz) := by
  refine Met.ofW (cc := cX12_minute) (maxL := 1) (ret := (some .int)) (by decide) rfl ?_
  intro p e s m args below meth c s₁ B hml hv
  obtain ⟨rfl, hsz, hP, hK, hD0, hE⟩ := hv
  have hx := B.exec
  have hb := B.bytes
  have hr := B.returns
  have hts := atoms_spec (ws := .code yX12_minute cX12_minute 1 (some .int) :: wsA) B.pre
  have hq : ∀ w ∈ wsA, w.before _ s = true := fun w h => hts w (List.mem_cons_of_mem _ h)
  have hown : s.vm.findClass RX12 = some m.cls := findClass_of_methodNamed B.named
  have hlocks := B.notSynchronized
  subst hsz
  have hD := hD0.self (sz := s.heap.size)
  generalize hAe : va_A [(h0, .inr (12, [.ref s0, .int 0, .int 0, .ref s3, .ref s4, .ref s5, .ref s6, .ref s7, .int 0, .int 0, .int 0, .int 0, .int 0, .int 0, .int 0, .ref s15, .int 0, .ref s17, .int 0, .ref s19, .ref s20, .int (-1), .int 0, .int 0, .int 0, .int 0, .int 0, .ref s27, .int 0, .ref s29, .ref s30, .ref s31, .int 0, .int 0, .int 0, .ref s35, .ref s36, .ref s37, .long 0, .ref s39, .ref s40, .ref s41, .ref s42])), (s20, .inl (k20, 100, .inl (fun _ => 0)))] s.heap.size = A at hD ⊢
  have hA : ∀ q : Nat, s.heap.size ≤ q → A q := fun q h => by rw [← hAe]; exact Or.inr h
  have hS : va_S A s.heap s.heap [] := va_S.rf
  have hl := lv_entry ([.ref h0]) (n := 1) (Nat.le_of_ble_eq_true rfl)
  rw [lg_entry_eq]
  generalize (lg_sl ([.ref h0]) ++ List.replicate (1 - (lg_sl ([.ref h0])).length) Slot.unset).toArray = ls at hl ⊢
  have hl : lv_has ls 1 [(0, .ref h0)] := hl
  refine lv_aload_n hx hb dX12_minute_0 rfl (lv_at hl 0 rfl) ?_
  have hPc := hP.sub (ws' := [(h0, .inr (12, [.ref s0, .int 0, .int 0, .ref s3, .ref s4, .ref s5, .ref s6, .ref s7, .int 0, .int 0, .int 0, .int 0, .int 0, .int 0, .int 0, .ref s15, .int 0, .ref s17, .int 0, .ref s19, .ref s20, .int (-1), .int 0, .int 0, .int 0, .int 0, .int 0, .ref s27, .int 0, .ref s29, .ref s30, .ref s31, .int 0, .int 0, .int 0, .ref s35, .ref s36, .ref s37, .long 0, .ref s39, .ref s40, .ref s41, .ref s42])), (s20, .inl (k20, 100, .inl (fun _ => 0)))]) [0, 1] rfl
  have hDc := hD.sub (ws' := [(h0, .inr (12, [.ref s0, .int 0, .int 0, .ref s3, .ref s4, .ref s5, .ref s6, .ref s7, .int 0, .int 0, .int 0, .int 0, .int 0, .int 0, .int 0, .ref s15, .int 0, .ref s17, .int 0, .ref s19, .ref s20, .int (-1), .int 0, .int 0, .int 0, .int 0, .int 0, .ref s27, .int 0, .ref s29, .ref s30, .ref s31, .int 0, .int 0, .int 0, .ref s35, .ref s36, .ref s37, .long 0, .ref s39, .ref s40, .ref s41, .ref s42])), (s20, .inl (k20, 100, .inl (fun _ => 0)))]) [0, 1] (by decide) rfl
  have hKc := hK.sub (tys' := [(k20, .int)]) [0] rfl
  have hFc := va_free (wc := [(h0, .inr (12, [.ref s0, .int 0, .int 0, .ref s3, .ref s4, .ref s5, .ref s6, .ref s7, .int 0, .int 0, .int 0, .int 0, .int 0, .int 0, .int 0, .ref s15, .int 0, .ref s17, .int 0, .ref s19, .ref s20, .int (-1), .int 0, .int 0, .int 0, .int 0, .int 0, .ref s27, .int 0, .ref s29, .ref s30, .ref s31, .int 0, .int 0, .int 0, .ref s35, .ref s36, .ref s37, .long 0, .ref s39, .ref s40, .ref s41, .ref s42])), (s20, .inl (k20, 100, .inl (fun _ => 0)))]) hD hS hA [0, 1] rfl
  refine va_calli (va_runV (As := []) (rest := []) ⟨hx, hb, hml, hown, hq⟩ (c_M_isDinner l dC dI _ h0 s0 s3 s4 s5 s6 s7 s15 s17 s19 s20 s27 s29 s30 s31 s35 s36 s37 s39 s40 s41 s42 k20 ) (cwV 0 hq (gV qw_1497 qw_1499 qw_76 qw_131 qw_1500) rfl rfl rfl (by decide +kernel) ⟨Nat.le_of_ble_eq_true rfl, Nat.le_of_ble_eq_true rfl⟩) ⟨fun a U g mk q => by obtain ⟨q0, q1, qP, qK, qD, qE⟩ := q; exact ⟨q0, q1, qP, va_K.moved (u := U) (U := U.calling g mk a) (Vm.Alike.refl U.vm) qK, qD, xE.same rfl qE⟩, va_recv hKc hPc (ci := 12) (q0 := 0) rfl rfl, fun U hU hW => ⟨rfl, by rw [hU], by rw [hU]; exact hPc, va_K.moved hW.alike hKc, hDc.weaken (fun _ _ _ _ => trivial), xE.warm hW hE⟩⟩ rfl rfl hl.1 rfl (lv_room (Nat.le_of_ble_eq_true rfl)) dX12_minute_1 ⟨Nat.le_of_ble_eq_true rfl, Nat.le_of_ble_eq_true rfl⟩) hS (fun q _ h => hFc q h) hFc (fun r_1 u t H1 locs ht hvm hw hB hz1 hk1 hS => ?_)
  obtain ⟨hP1, hK1, hD1⟩ := hB
  rw [ht] at hP1
  have hK1 := va_K.moved hvm.symm hK1
  obtain ⟨hP, hD⟩ := va_join (wr := []) (w1 := [(h0, .inr (12, [.ref s0, .int 0, .int 0, .ref s3, .ref s4, .ref s5, .ref s6, .ref s7, .int 0, .int 0, .int 0, .int 0, .int 0, .int 0, .int 0, .ref s15, .int 0, .ref s17, .int 0, .ref s19, .ref s20, .int (-1), .int 0, .int 0, .int 0, .int 0, .int 0, .ref s27, .int 0, .ref s29, .ref s30, .ref s31, .int 0, .int 0, .int 0, .ref s35, .ref s36, .ref s37, .long 0, .ref s39, .ref s40, .ref s41, .ref s42])), (s20, .inl (k20, 100, .inl (fun _ => 0)))]) hP hD [0, 1] [] rfl rfl (by decide) (by decide) hk1 hFc hP1 hD1
  generalize H1 = H at hP hS ⊢
  have hP : va_P (dC, dI) classes [(h0, .inr (12, [.ref s0, .int 0, .int 0, .ref s3, .ref s4, .ref s5, .ref s6, .ref s7, .int 0, .int 0, .int 0, .int 0, .int 0, .int 0, .int 0, .ref s15, .int 0, .ref s17, .int 0, .ref s19, .ref s20, .int (-1), .int 0, .int 0, .int 0, .int 0, .int 0, .ref s27, .int 0, .ref s29, .ref s30, .ref s31, .int 0, .int 0, .int 0, .ref s35, .ref s36, .ref s37, .long 0, .ref s39, .ref s40, .ref s41, .ref s42])), (s20, .inl (k20, 100, .inl (fun _ => 0)))] H := hP
  have hD : va_D A [(h0, .inr (12, [.ref s0, .int 0, .int 0, .ref s3, .ref s4, .ref s5, .ref s6, .ref s7, .int 0, .int 0, .int 0, .int 0, .int 0, .int 0, .int 0, .ref s15, .int 0, .ref s17, .int 0, .ref s19, .ref s20, .int (-1), .int 0, .int 0, .int 0, .int 0, .int 0, .ref s27, .int 0, .ref s29, .ref s30, .ref s31, .int 0, .int 0, .int 0, .ref s35, .ref s36, .ref s37, .long 0, .ref s39, .ref s40, .ref s41, .ref s42])), (s20, .inl (k20, 100, .inl (fun _ => 0)))] := hD
  obtain rfl : r_1 = 0 := hw
  refine lv_if_eq (tgt := 20) hx hb dX12_minute_4 (by decide) (fun _ => ?_) (fun c9 => absurd c9 (by decide))
  refine lv_iconst (v := (-1)) hx hb dX12_minute_20 (by decide) ?_
  refine W.widen (k := 0) (n := 0) (Nat.le_of_ble_eq_true rfl) (Nat.le_of_ble_eq_true rfl) ?_
  exact W.iret (v := (-1)) hx hb hr (fun t ht hW => ⟨⟨(-1), (), rfl, rfl, trivial⟩, hS.F ht⟩) hS.2.2 dX12_minute_21

set_option maxHeartbeats 4000000 in
set_option maxRecDepth 100000 in
/-- c_M_ahead -/
theorem c_M_ahead (l : Launch) (dC : Nat → ClassId) (dI : Nat → Nat → Nat) (sz : Nat) (h0 : Nat) (s0 : Nat) (s3 : Nat) (s4 : Nat) (s5 : Nat) (s6 : Nat) (s7 : Nat) (s15 : Nat) (s17 : Nat) (s19 : Nat) (s20 : Nat) (s27 : Nat) (s29 : Nat) (s30 : Nat) (s31 : Nat) (s35 : Nat) (s36 : Nat) (s37 : Nat) (s39 : Nat) (s40 : Nat) (s41 : Nat) (s42 : Nat) (k20 : ClassId) (x0 : Int32) (x1 : Int32) (x2 : Int32) : Met l yX12_ahead (.code yX12_ahead cX12_ahead 5 (some .int) :: wsA) ({ frames := 1, cells := 0, slots := 0, locals := 20 }) (va_Pc [.ref h0, .int x0, .int x1, .int x2] (fun U => U.heap.size = sz ∧ va_P (dC, dI) classes [(h0, .inr (12, [.ref s0, .int 0, .int 0, .ref s3, .ref s4, .ref s5, .ref s6, .ref s7, .int 0, .int 0, .int 0, .int 0, .int 0, .int 0, .int 0, .ref s15, .int 0, .ref s17, .int 0, .ref s19, .ref s20, .int (-1), .int 0, .int 0, .int 0, .int 0, .int 0, .ref s27, .int 0, .ref s29, .ref s30, .ref s31, .int 0, .int 0, .int 0, .ref s35, .ref s36, .ref s37, .long 0, .ref s39, .ref s40, .ref s41, .ref s42])), (s20, .inl (k20, 100, .inl (fun _ => 0)))] U.heap ∧ va_K (dC, dI) classes [(k20, .int)] U ∧ va_D (fun _ => True) [(h0, .inr (12, [.ref s0, .int 0, .int 0, .ref s3, .ref s4, .ref s5, .ref s6, .ref s7, .int 0, .int 0, .int 0, .int 0, .int 0, .int 0, .int 0, .ref s15, .int 0, .ref s17, .int 0, .ref s19, .ref s20, .int (-1), .int 0, .int 0, .int 0, .int 0, .int 0, .ref s27, .int 0, .ref s29, .ref s30, .ref s31, .int 0, .int 0, .int 0, .ref s35, .ref s36, .ref s37, .long 0, .ref s39, .ref s40, .ref s41, .ref s42])), (s20, .inl (k20, 100, .inl (fun _ => 0)))] ∧ xE U)) (va_Qi (fun (r : Int32) (_ : Unit) => r = (-1)) (fun _ _ => True) (va_A [(h0, .inr (12, [.ref s0, .int 0, .int 0, .ref s3, .ref s4, .ref s5, .ref s6, .ref s7, .int 0, .int 0, .int 0, .int 0, .int 0, .int 0, .int 0, .ref s15, .int 0, .ref s17, .int 0, .ref s19, .ref s20, .int (-1), .int 0, .int 0, .int 0, .int 0, .int 0, .ref s27, .int 0, .ref s29, .ref s30, .ref s31, .int 0, .int 0, .int 0, .ref s35, .ref s36, .ref s37, .long 0, .ref s39, .ref s40, .ref s41, .ref s42])), (s20, .inl (k20, 100, .inl (fun _ => 0)))] sz)) 0 0 (va_A [(h0, .inr (12, [.ref s0, .int 0, .int 0, .ref s3, .ref s4, .ref s5, .ref s6, .ref s7, .int 0, .int 0, .int 0, .int 0, .int 0, .int 0, .int 0, .ref s15, .int 0, .ref s17, .int 0, .ref s19, .ref s20, .int (-1), .int 0, .int 0, .int 0, .int 0, .int 0, .ref s27, .int 0, .ref s29, .ref s30, .ref s31, .int 0, .int 0, .int 0, .ref s35, .ref s36, .ref s37, .long 0, .ref s39, .ref s40, .ref s41, .ref s42])), (s20, .inl (k20, 100, .inl (fun _ => 0)))] sz) := by
  refine Met.ofW (cc := cX12_ahead) (maxL := 5) (ret := (some .int)) (by decide) rfl ?_
  intro p e s m args below meth c s₁ B hml hv
  obtain ⟨rfl, hsz, hP, hK, hD0, hE⟩ := hv
  have hx := B.exec
  have hb := B.bytes
  have hr := B.returns
  have hts := atoms_spec (ws := .code yX12_ahead cX12_ahead 5 (some .int) :: wsA) B.pre
  have hq : ∀ w ∈ wsA, w.before _ s = true := fun w h => hts w (List.mem_cons_of_mem _ h)
  have hown : s.vm.findClass RX12 = some m.cls := findClass_of_methodNamed B.named
  have hlocks := B.notSynchronized
  subst hsz
  have hD := hD0.self (sz := s.heap.size)
  generalize hAe : va_A [(h0, .inr (12, [.ref s0, .int 0, .int 0, .ref s3, .ref s4, .ref s5, .ref s6, .ref s7, .int 0, .int 0, .int 0, .int 0, .int 0, .int 0, .int 0, .ref s15, .int 0, .ref s17, .int 0, .ref s19, .ref s20, .int (-1), .int 0, .int 0, .int 0, .int 0, .int 0, .ref s27, .int 0, .ref s29, .ref s30, .ref s31, .int 0, .int 0, .int 0, .ref s35, .ref s36, .ref s37, .long 0, .ref s39, .ref s40, .ref s41, .ref s42])), (s20, .inl (k20, 100, .inl (fun _ => 0)))] s.heap.size = A at hD ⊢
  have hA : ∀ q : Nat, s.heap.size ≤ q → A q := fun q h => by rw [← hAe]; exact Or.inr h
  have hS : va_S A s.heap s.heap [] := va_S.rf
  have hl := lv_entry ([.ref h0, .int x0, .int x1, .int x2]) (n := 5) (Nat.le_of_ble_eq_true rfl)
  rw [lg_entry_eq]
  generalize (lg_sl ([.ref h0, .int x0, .int x1, .int x2]) ++ List.replicate (5 - (lg_sl ([.ref h0, .int x0, .int x1, .int x2])).length) Slot.unset).toArray = ls at hl ⊢
  have hl : lv_has ls 5 [(0, .ref h0), (1, .int x0), (2, .int x1), (3, .int x2)] := hl
  refine lv_aload_n hx hb dX12_ahead_0 rfl (lv_at hl 0 rfl) ?_
  have hPc := hP.sub (ws' := [(h0, .inr (12, [.ref s0, .int 0, .int 0, .ref s3, .ref s4, .ref s5, .ref s6, .ref s7, .int 0, .int 0, .int 0, .int 0, .int 0, .int 0, .int 0, .ref s15, .int 0, .ref s17, .int 0, .ref s19, .ref s20, .int (-1), .int 0, .int 0, .int 0, .int 0, .int 0, .ref s27, .int 0, .ref s29, .ref s30, .ref s31, .int 0, .int 0, .int 0, .ref s35, .ref s36, .ref s37, .long 0, .ref s39, .ref s40, .ref s41, .ref s42])), (s20, .inl (k20, 100, .inl (fun _ => 0)))]) [0, 1] rfl
  have hDc := hD.sub (ws' := [(h0, .inr (12, [.ref s0, .int 0, .int 0, .ref s3, .ref s4, .ref s5, .ref s6, .ref s7, .int 0, .int 0, .int 0, .int 0, .int 0, .int 0, .int 0, .ref s15, .int 0, .ref s17, .int 0, .ref s19, .ref s20, .int (-1), .int 0, .int 0, .int 0, .int 0, .int 0, .ref s27, .int 0, .ref s29, .ref s30, .ref s31, .int 0, .int 0, .int 0, .ref s35, .ref s36, .ref s37, .long 0, .ref s39, .ref s40, .ref s41, .ref s42])), (s20, .inl (k20, 100, .inl (fun _ => 0)))]) [0, 1] (by decide) rfl
  have hKc := hK.sub (tys' := [(k20, .int)]) [0] rfl
  have hFc := va_free (wc := [(h0, .inr (12, [.ref s0, .int 0, .int 0, .ref s3, .ref s4, .ref s5, .ref s6, .ref s7, .int 0, .int 0, .int 0, .int 0, .int 0, .int 0, .int 0, .ref s15, .int 0, .ref s17, .int 0, .ref s19, .ref s20, .int (-1), .int 0, .int 0, .int 0, .int 0, .int 0, .ref s27, .int 0, .ref s29, .ref s30, .ref s31, .int 0, .int 0, .int 0, .ref s35, .ref s36, .ref s37, .long 0, .ref s39, .ref s40, .ref s41, .ref s42])), (s20, .inl (k20, 100, .inl (fun _ => 0)))]) hD hS hA [0, 1] rfl
  refine va_calli (va_runV (As := []) (rest := []) ⟨hx, hb, hml, hown, hq⟩ (c_M_isDinner l dC dI _ h0 s0 s3 s4 s5 s6 s7 s15 s17 s19 s20 s27 s29 s30 s31 s35 s36 s37 s39 s40 s41 s42 k20 ) (cwV 0 hq (gV qw_1497 qw_1499 qw_76 qw_131 qw_1500) rfl rfl rfl (by decide +kernel) ⟨Nat.le_of_ble_eq_true rfl, Nat.le_of_ble_eq_true rfl⟩) ⟨fun a U g mk q => by obtain ⟨q0, q1, qP, qK, qD, qE⟩ := q; exact ⟨q0, q1, qP, va_K.moved (u := U) (U := U.calling g mk a) (Vm.Alike.refl U.vm) qK, qD, xE.same rfl qE⟩, va_recv hKc hPc (ci := 12) (q0 := 0) rfl rfl, fun U hU hW => ⟨rfl, by rw [hU], by rw [hU]; exact hPc, va_K.moved hW.alike hKc, hDc.weaken (fun _ _ _ _ => trivial), xE.warm hW hE⟩⟩ rfl rfl hl.1 rfl (lv_room (Nat.le_of_ble_eq_true rfl)) dX12_ahead_1 ⟨Nat.le_of_ble_eq_true rfl, Nat.le_of_ble_eq_true rfl⟩) hS (fun q _ h => hFc q h) hFc (fun r_1 u t H1 locs ht hvm hw hB hz1 hk1 hS => ?_)
  obtain ⟨hP1, hK1, hD1⟩ := hB
  rw [ht] at hP1
  have hK1 := va_K.moved hvm.symm hK1
  obtain ⟨hP, hD⟩ := va_join (wr := []) (w1 := [(h0, .inr (12, [.ref s0, .int 0, .int 0, .ref s3, .ref s4, .ref s5, .ref s6, .ref s7, .int 0, .int 0, .int 0, .int 0, .int 0, .int 0, .int 0, .ref s15, .int 0, .ref s17, .int 0, .ref s19, .ref s20, .int (-1), .int 0, .int 0, .int 0, .int 0, .int 0, .ref s27, .int 0, .ref s29, .ref s30, .ref s31, .int 0, .int 0, .int 0, .ref s35, .ref s36, .ref s37, .long 0, .ref s39, .ref s40, .ref s41, .ref s42])), (s20, .inl (k20, 100, .inl (fun _ => 0)))]) hP hD [0, 1] [] rfl rfl (by decide) (by decide) hk1 hFc hP1 hD1
  generalize H1 = H at hP hS ⊢
  have hP : va_P (dC, dI) classes [(h0, .inr (12, [.ref s0, .int 0, .int 0, .ref s3, .ref s4, .ref s5, .ref s6, .ref s7, .int 0, .int 0, .int 0, .int 0, .int 0, .int 0, .int 0, .ref s15, .int 0, .ref s17, .int 0, .ref s19, .ref s20, .int (-1), .int 0, .int 0, .int 0, .int 0, .int 0, .ref s27, .int 0, .ref s29, .ref s30, .ref s31, .int 0, .int 0, .int 0, .ref s35, .ref s36, .ref s37, .long 0, .ref s39, .ref s40, .ref s41, .ref s42])), (s20, .inl (k20, 100, .inl (fun _ => 0)))] H := hP
  have hD : va_D A [(h0, .inr (12, [.ref s0, .int 0, .int 0, .ref s3, .ref s4, .ref s5, .ref s6, .ref s7, .int 0, .int 0, .int 0, .int 0, .int 0, .int 0, .int 0, .ref s15, .int 0, .ref s17, .int 0, .ref s19, .ref s20, .int (-1), .int 0, .int 0, .int 0, .int 0, .int 0, .ref s27, .int 0, .ref s29, .ref s30, .ref s31, .int 0, .int 0, .int 0, .ref s35, .ref s36, .ref s37, .long 0, .ref s39, .ref s40, .ref s41, .ref s42])), (s20, .inl (k20, 100, .inl (fun _ => 0)))] := hD
  obtain rfl : r_1 = 0 := hw
  refine lv_if_eq (tgt := 43) hx hb dX12_ahead_4 (by decide) (fun _ => ?_) (fun c9 => absurd c9 (by decide))
  refine lv_iconst (v := (-1)) hx hb dX12_ahead_43 (by decide) ?_
  refine W.widen (k := 0) (n := 0) (Nat.le_of_ble_eq_true rfl) (Nat.le_of_ble_eq_true rfl) ?_
  exact W.iret (v := (-1)) hx hb hr (fun t ht hW => ⟨⟨(-1), (), rfl, rfl, trivial⟩, hS.F ht⟩) hS.2.2 dX12_ahead_44

set_option maxHeartbeats 4000000 in
set_option maxRecDepth 100000 in
/-- c_M_said -/
theorem c_M_said (l : Launch) (dC : Nat → ClassId) (dI : Nat → Nat → Nat) (sz : Nat) (h0 : Nat) (s0 : Nat) (s3 : Nat) (s4 : Nat) (s5 : Nat) (s6 : Nat) (s7 : Nat) (s15 : Nat) (s17 : Nat) (s19 : Nat) (s20 : Nat) (s27 : Nat) (s29 : Nat) (s30 : Nat) (s31 : Nat) (s35 : Nat) (s36 : Nat) (s37 : Nat) (s39 : Nat) (s40 : Nat) (s41 : Nat) (s42 : Nat) (k20 : ClassId) (x0 : Int32) : Met l yX12_said (.code yX12_said cX12_said 4 (some .int) :: wsA) ({ frames := 2, cells := 0, slots := 0, locals := 41 }) (va_Pc [.ref h0, .int x0] (fun U => U.heap.size = sz ∧ va_P (dC, dI) classes [(h0, .inr (12, [.ref s0, .int 0, .int 0, .ref s3, .ref s4, .ref s5, .ref s6, .ref s7, .int 0, .int 0, .int 0, .int 0, .int 0, .int 0, .int 0, .ref s15, .int 0, .ref s17, .int 0, .ref s19, .ref s20, .int (-1), .int 0, .int 0, .int 0, .int 0, .int 0, .ref s27, .int 0, .ref s29, .ref s30, .ref s31, .int 0, .int 0, .int 0, .ref s35, .ref s36, .ref s37, .long 0, .ref s39, .ref s40, .ref s41, .ref s42])), (s20, .inl (k20, 100, .inl (fun _ => 0)))] U.heap ∧ va_K (dC, dI) classes [(k20, .int)] U ∧ va_D (fun _ => True) [(h0, .inr (12, [.ref s0, .int 0, .int 0, .ref s3, .ref s4, .ref s5, .ref s6, .ref s7, .int 0, .int 0, .int 0, .int 0, .int 0, .int 0, .int 0, .ref s15, .int 0, .ref s17, .int 0, .ref s19, .ref s20, .int (-1), .int 0, .int 0, .int 0, .int 0, .int 0, .ref s27, .int 0, .ref s29, .ref s30, .ref s31, .int 0, .int 0, .int 0, .ref s35, .ref s36, .ref s37, .long 0, .ref s39, .ref s40, .ref s41, .ref s42])), (s20, .inl (k20, 100, .inl (fun _ => 0)))] ∧ xE U)) (va_Qi (fun (r : Int32) (_ : Unit) => r = (-1)) (fun _ _ => True) (va_A [(h0, .inr (12, [.ref s0, .int 0, .int 0, .ref s3, .ref s4, .ref s5, .ref s6, .ref s7, .int 0, .int 0, .int 0, .int 0, .int 0, .int 0, .int 0, .ref s15, .int 0, .ref s17, .int 0, .ref s19, .ref s20, .int (-1), .int 0, .int 0, .int 0, .int 0, .int 0, .ref s27, .int 0, .ref s29, .ref s30, .ref s31, .int 0, .int 0, .int 0, .ref s35, .ref s36, .ref s37, .long 0, .ref s39, .ref s40, .ref s41, .ref s42])), (s20, .inl (k20, 100, .inl (fun _ => 0)))] sz)) 0 0 (va_A [(h0, .inr (12, [.ref s0, .int 0, .int 0, .ref s3, .ref s4, .ref s5, .ref s6, .ref s7, .int 0, .int 0, .int 0, .int 0, .int 0, .int 0, .int 0, .ref s15, .int 0, .ref s17, .int 0, .ref s19, .ref s20, .int (-1), .int 0, .int 0, .int 0, .int 0, .int 0, .ref s27, .int 0, .ref s29, .ref s30, .ref s31, .int 0, .int 0, .int 0, .ref s35, .ref s36, .ref s37, .long 0, .ref s39, .ref s40, .ref s41, .ref s42])), (s20, .inl (k20, 100, .inl (fun _ => 0)))] sz) := by
  refine Met.ofW (cc := cX12_said) (maxL := 4) (ret := (some .int)) (by decide) rfl ?_
  intro p e s m args below meth c s₁ B hml hv
  obtain ⟨rfl, hsz, hP, hK, hD0, hE⟩ := hv
  have hx := B.exec
  have hb := B.bytes
  have hr := B.returns
  have hts := atoms_spec (ws := .code yX12_said cX12_said 4 (some .int) :: wsA) B.pre
  have hq : ∀ w ∈ wsA, w.before _ s = true := fun w h => hts w (List.mem_cons_of_mem _ h)
  have hown : s.vm.findClass RX12 = some m.cls := findClass_of_methodNamed B.named
  have hlocks := B.notSynchronized
  subst hsz
  have hD := hD0.self (sz := s.heap.size)
  generalize hAe : va_A [(h0, .inr (12, [.ref s0, .int 0, .int 0, .ref s3, .ref s4, .ref s5, .ref s6, .ref s7, .int 0, .int 0, .int 0, .int 0, .int 0, .int 0, .int 0, .ref s15, .int 0, .ref s17, .int 0, .ref s19, .ref s20, .int (-1), .int 0, .int 0, .int 0, .int 0, .int 0, .ref s27, .int 0, .ref s29, .ref s30, .ref s31, .int 0, .int 0, .int 0, .ref s35, .ref s36, .ref s37, .long 0, .ref s39, .ref s40, .ref s41, .ref s42])), (s20, .inl (k20, 100, .inl (fun _ => 0)))] s.heap.size = A at hD ⊢
  have hA : ∀ q : Nat, s.heap.size ≤ q → A q := fun q h => by rw [← hAe]; exact Or.inr h
  have hS : va_S A s.heap s.heap [] := va_S.rf
  have hl := lv_entry ([.ref h0, .int x0]) (n := 4) (Nat.le_of_ble_eq_true rfl)
  rw [lg_entry_eq]
  generalize (lg_sl ([.ref h0, .int x0]) ++ List.replicate (4 - (lg_sl ([.ref h0, .int x0])).length) Slot.unset).toArray = ls at hl ⊢
  have hl : lv_has ls 4 [(0, .ref h0), (1, .int x0)] := hl
  refine lv_aload_n hx hb dX12_said_0 rfl (lv_at hl 0 rfl) ?_
  refine lv_iload_n hx hb dX12_said_1 rfl (lv_at hl 1 rfl) ?_
  have hPc := hP.sub (ws' := [(h0, .inr (12, [.ref s0, .int 0, .int 0, .ref s3, .ref s4, .ref s5, .ref s6, .ref s7, .int 0, .int 0, .int 0, .int 0, .int 0, .int 0, .int 0, .ref s15, .int 0, .ref s17, .int 0, .ref s19, .ref s20, .int (-1), .int 0, .int 0, .int 0, .int 0, .int 0, .ref s27, .int 0, .ref s29, .ref s30, .ref s31, .int 0, .int 0, .int 0, .ref s35, .ref s36, .ref s37, .long 0, .ref s39, .ref s40, .ref s41, .ref s42])), (s20, .inl (k20, 100, .inl (fun _ => 0)))]) [0, 1] rfl
  have hDc := hD.sub (ws' := [(h0, .inr (12, [.ref s0, .int 0, .int 0, .ref s3, .ref s4, .ref s5, .ref s6, .ref s7, .int 0, .int 0, .int 0, .int 0, .int 0, .int 0, .int 0, .ref s15, .int 0, .ref s17, .int 0, .ref s19, .ref s20, .int (-1), .int 0, .int 0, .int 0, .int 0, .int 0, .ref s27, .int 0, .ref s29, .ref s30, .ref s31, .int 0, .int 0, .int 0, .ref s35, .ref s36, .ref s37, .long 0, .ref s39, .ref s40, .ref s41, .ref s42])), (s20, .inl (k20, 100, .inl (fun _ => 0)))]) [0, 1] (by decide) rfl
  have hKc := hK.sub (tys' := [(k20, .int)]) [0] rfl
  have hFc := va_free (wc := [(h0, .inr (12, [.ref s0, .int 0, .int 0, .ref s3, .ref s4, .ref s5, .ref s6, .ref s7, .int 0, .int 0, .int 0, .int 0, .int 0, .int 0, .int 0, .ref s15, .int 0, .ref s17, .int 0, .ref s19, .ref s20, .int (-1), .int 0, .int 0, .int 0, .int 0, .int 0, .ref s27, .int 0, .ref s29, .ref s30, .ref s31, .int 0, .int 0, .int 0, .ref s35, .ref s36, .ref s37, .long 0, .ref s39, .ref s40, .ref s41, .ref s42])), (s20, .inl (k20, 100, .inl (fun _ => 0)))]) hD hS hA [0, 1] rfl
  refine va_calli (va_runV (As := [.int x0]) (rest := []) ⟨hx, hb, hml, hown, hq⟩ (c_M_isSecret l dC dI _ h0 s0 s3 s4 s5 s6 s7 s15 s17 s19 s20 s27 s29 s30 s31 s35 s36 s37 s39 s40 s41 s42 k20 x0 ) (cwV 1 hq (gV qw_1493 qw_1495 qw_75 qw_131 qw_1496) rfl rfl rfl (by decide +kernel) ⟨Nat.le_of_ble_eq_true rfl, Nat.le_of_ble_eq_true rfl⟩) ⟨fun a U g mk q => by obtain ⟨q0, q1, qP, qK, qD, qE⟩ := q; exact ⟨q0, q1, qP, va_K.moved (u := U) (U := U.calling g mk a) (Vm.Alike.refl U.vm) qK, qD, xE.same rfl qE⟩, va_recv hKc hPc (ci := 12) (q0 := 0) rfl rfl, fun U hU hW => ⟨rfl, by rw [hU], by rw [hU]; exact hPc, va_K.moved hW.alike hKc, hDc.weaken (fun _ _ _ _ => trivial), xE.warm hW hE⟩⟩ rfl rfl hl.1 rfl (lv_room (Nat.le_of_ble_eq_true rfl)) dX12_said_2 ⟨Nat.le_of_ble_eq_true rfl, Nat.le_of_ble_eq_true rfl⟩) hS (fun q _ h => hFc q h) hFc (fun r_1 u t H1 locs ht hvm hw hB hz1 hk1 hS => ?_)
  obtain ⟨hP1, hK1, hD1⟩ := hB
  rw [ht] at hP1
  have hK1 := va_K.moved hvm.symm hK1
  obtain ⟨hP, hD⟩ := va_join (wr := []) (w1 := [(h0, .inr (12, [.ref s0, .int 0, .int 0, .ref s3, .ref s4, .ref s5, .ref s6, .ref s7, .int 0, .int 0, .int 0, .int 0, .int 0, .int 0, .int 0, .ref s15, .int 0, .ref s17, .int 0, .ref s19, .ref s20, .int (-1), .int 0, .int 0, .int 0, .int 0, .int 0, .ref s27, .int 0, .ref s29, .ref s30, .ref s31, .int 0, .int 0, .int 0, .ref s35, .ref s36, .ref s37, .long 0, .ref s39, .ref s40, .ref s41, .ref s42])), (s20, .inl (k20, 100, .inl (fun _ => 0)))]) hP hD [0, 1] [] rfl rfl (by decide) (by decide) hk1 hFc hP1 hD1
  generalize H1 = H at hP hS ⊢
  have hP : va_P (dC, dI) classes [(h0, .inr (12, [.ref s0, .int 0, .int 0, .ref s3, .ref s4, .ref s5, .ref s6, .ref s7, .int 0, .int 0, .int 0, .int 0, .int 0, .int 0, .int 0, .ref s15, .int 0, .ref s17, .int 0, .ref s19, .ref s20, .int (-1), .int 0, .int 0, .int 0, .int 0, .int 0, .ref s27, .int 0, .ref s29, .ref s30, .ref s31, .int 0, .int 0, .int 0, .ref s35, .ref s36, .ref s37, .long 0, .ref s39, .ref s40, .ref s41, .ref s42])), (s20, .inl (k20, 100, .inl (fun _ => 0)))] H := hP
  have hD : va_D A [(h0, .inr (12, [.ref s0, .int 0, .int 0, .ref s3, .ref s4, .ref s5, .ref s6, .ref s7, .int 0, .int 0, .int 0, .int 0, .int 0, .int 0, .int 0, .ref s15, .int 0, .ref s17, .int 0, .ref s19, .ref s20, .int (-1), .int 0, .int 0, .int 0, .int 0, .int 0, .ref s27, .int 0, .ref s29, .ref s30, .ref s31, .int 0, .int 0, .int 0, .ref s35, .ref s36, .ref s37, .long 0, .ref s39, .ref s40, .ref s41, .ref s42])), (s20, .inl (k20, 100, .inl (fun _ => 0)))] := hD
  obtain rfl : r_1 = 0 := hw
  refine lv_if_ne (tgt := 10) hx hb dX12_said_5 (by decide) (fun c9 => absurd c9 (by decide)) (fun _ => ?_)
  refine lv_iconst (v := (-1)) hx hb dX12_said_8 (by decide) ?_
  refine W.widen (k := 0) (n := 0) (Nat.le_of_ble_eq_true rfl) (Nat.le_of_ble_eq_true rfl) ?_
  exact W.iret (v := (-1)) hx hb hr (fun t ht hW => ⟨⟨(-1), (), rfl, rfl, trivial⟩, hS.F ht⟩) hS.2.2 dX12_said_9

set_option maxHeartbeats 4000000 in
set_option maxRecDepth 100000 in
/-- c_M_quiet -/
theorem c_M_quiet (l : Launch) (dC : Nat → ClassId) (dI : Nat → Nat → Nat) (sz : Nat) (h0 : Nat) (s0 : Nat) (s3 : Nat) (s4 : Nat) (s5 : Nat) (s6 : Nat) (s7 : Nat) (s15 : Nat) (s17 : Nat) (s19 : Nat) (s20 : Nat) (s27 : Nat) (s29 : Nat) (s30 : Nat) (s31 : Nat) (s35 : Nat) (s36 : Nat) (s37 : Nat) (s39 : Nat) (s40 : Nat) (s41 : Nat) (s42 : Nat) (k20 : ClassId) : Met l yX12_quiet (.code yX12_quiet cX12_quiet 3 (some .int) :: wsA) ({ frames := 1, cells := 0, slots := 0, locals := 20 }) (va_Pc [.ref h0] (fun U => U.heap.size = sz ∧ va_P (dC, dI) classes [(h0, .inr (12, [.ref s0, .int 0, .int 0, .ref s3, .ref s4, .ref s5, .ref s6, .ref s7, .int 0, .int 0, .int 0, .int 0, .int 0, .int 0, .int 0, .ref s15, .int 0, .ref s17, .int 0, .ref s19, .ref s20, .int (-1), .int 0, .int 0, .int 0, .int 0, .int 0, .ref s27, .int 0, .ref s29, .ref s30, .ref s31, .int 0, .int 0, .int 0, .ref s35, .ref s36, .ref s37, .long 0, .ref s39, .ref s40, .ref s41, .ref s42])), (s20, .inl (k20, 100, .inl (fun _ => 0)))] U.heap ∧ va_K (dC, dI) classes [(k20, .int)] U ∧ va_D (fun _ => True) [(h0, .inr (12, [.ref s0, .int 0, .int 0, .ref s3, .ref s4, .ref s5, .ref s6, .ref s7, .int 0, .int 0, .int 0, .int 0, .int 0, .int 0, .int 0, .ref s15, .int 0, .ref s17, .int 0, .ref s19, .ref s20, .int (-1), .int 0, .int 0, .int 0, .int 0, .int 0, .ref s27, .int 0, .ref s29, .ref s30, .ref s31, .int 0, .int 0, .int 0, .ref s35, .ref s36, .ref s37, .long 0, .ref s39, .ref s40, .ref s41, .ref s42])), (s20, .inl (k20, 100, .inl (fun _ => 0)))] ∧ xE U)) (va_Qi (fun (r : Int32) (_ : Unit) => r = (-1)) (fun _ _ => True) (va_A [(h0, .inr (12, [.ref s0, .int 0, .int 0, .ref s3, .ref s4, .ref s5, .ref s6, .ref s7, .int 0, .int 0, .int 0, .int 0, .int 0, .int 0, .int 0, .ref s15, .int 0, .ref s17, .int 0, .ref s19, .ref s20, .int (-1), .int 0, .int 0, .int 0, .int 0, .int 0, .ref s27, .int 0, .ref s29, .ref s30, .ref s31, .int 0, .int 0, .int 0, .ref s35, .ref s36, .ref s37, .long 0, .ref s39, .ref s40, .ref s41, .ref s42])), (s20, .inl (k20, 100, .inl (fun _ => 0)))] sz)) 0 0 (va_A [(h0, .inr (12, [.ref s0, .int 0, .int 0, .ref s3, .ref s4, .ref s5, .ref s6, .ref s7, .int 0, .int 0, .int 0, .int 0, .int 0, .int 0, .int 0, .ref s15, .int 0, .ref s17, .int 0, .ref s19, .ref s20, .int (-1), .int 0, .int 0, .int 0, .int 0, .int 0, .ref s27, .int 0, .ref s29, .ref s30, .ref s31, .int 0, .int 0, .int 0, .ref s35, .ref s36, .ref s37, .long 0, .ref s39, .ref s40, .ref s41, .ref s42])), (s20, .inl (k20, 100, .inl (fun _ => 0)))] sz) := by
  refine Met.ofW (cc := cX12_quiet) (maxL := 3) (ret := (some .int)) (by decide) rfl ?_
  intro p e s m args below meth c s₁ B hml hv
  obtain ⟨rfl, hsz, hP, hK, hD0, hE⟩ := hv
  have hx := B.exec
  have hb := B.bytes
  have hr := B.returns
  have hts := atoms_spec (ws := .code yX12_quiet cX12_quiet 3 (some .int) :: wsA) B.pre
  have hq : ∀ w ∈ wsA, w.before _ s = true := fun w h => hts w (List.mem_cons_of_mem _ h)
  have hown : s.vm.findClass RX12 = some m.cls := findClass_of_methodNamed B.named
  have hlocks := B.notSynchronized
  subst hsz
  have hD := hD0.self (sz := s.heap.size)
  generalize hAe : va_A [(h0, .inr (12, [.ref s0, .int 0, .int 0, .ref s3, .ref s4, .ref s5, .ref s6, .ref s7, .int 0, .int 0, .int 0, .int 0, .int 0, .int 0, .int 0, .ref s15, .int 0, .ref s17, .int 0, .ref s19, .ref s20, .int (-1), .int 0, .int 0, .int 0, .int 0, .int 0, .ref s27, .int 0, .ref s29, .ref s30, .ref s31, .int 0, .int 0, .int 0, .ref s35, .ref s36, .ref s37, .long 0, .ref s39, .ref s40, .ref s41, .ref s42])), (s20, .inl (k20, 100, .inl (fun _ => 0)))] s.heap.size = A at hD ⊢
  have hA : ∀ q : Nat, s.heap.size ≤ q → A q := fun q h => by rw [← hAe]; exact Or.inr h
  have hS : va_S A s.heap s.heap [] := va_S.rf
  have hl := lv_entry ([.ref h0]) (n := 3) (Nat.le_of_ble_eq_true rfl)
  rw [lg_entry_eq]
  generalize (lg_sl ([.ref h0]) ++ List.replicate (3 - (lg_sl ([.ref h0])).length) Slot.unset).toArray = ls at hl ⊢
  have hl : lv_has ls 3 [(0, .ref h0)] := hl
  refine lv_aload_n hx hb dX12_quiet_0 rfl (lv_at hl 0 rfl) ?_
  have hPc := hP.sub (ws' := [(h0, .inr (12, [.ref s0, .int 0, .int 0, .ref s3, .ref s4, .ref s5, .ref s6, .ref s7, .int 0, .int 0, .int 0, .int 0, .int 0, .int 0, .int 0, .ref s15, .int 0, .ref s17, .int 0, .ref s19, .ref s20, .int (-1), .int 0, .int 0, .int 0, .int 0, .int 0, .ref s27, .int 0, .ref s29, .ref s30, .ref s31, .int 0, .int 0, .int 0, .ref s35, .ref s36, .ref s37, .long 0, .ref s39, .ref s40, .ref s41, .ref s42])), (s20, .inl (k20, 100, .inl (fun _ => 0)))]) [0, 1] rfl
  have hDc := hD.sub (ws' := [(h0, .inr (12, [.ref s0, .int 0, .int 0, .ref s3, .ref s4, .ref s5, .ref s6, .ref s7, .int 0, .int 0, .int 0, .int 0, .int 0, .int 0, .int 0, .ref s15, .int 0, .ref s17, .int 0, .ref s19, .ref s20, .int (-1), .int 0, .int 0, .int 0, .int 0, .int 0, .ref s27, .int 0, .ref s29, .ref s30, .ref s31, .int 0, .int 0, .int 0, .ref s35, .ref s36, .ref s37, .long 0, .ref s39, .ref s40, .ref s41, .ref s42])), (s20, .inl (k20, 100, .inl (fun _ => 0)))]) [0, 1] (by decide) rfl
  have hKc := hK.sub (tys' := [(k20, .int)]) [0] rfl
  have hFc := va_free (wc := [(h0, .inr (12, [.ref s0, .int 0, .int 0, .ref s3, .ref s4, .ref s5, .ref s6, .ref s7, .int 0, .int 0, .int 0, .int 0, .int 0, .int 0, .int 0, .ref s15, .int 0, .ref s17, .int 0, .ref s19, .ref s20, .int (-1), .int 0, .int 0, .int 0, .int 0, .int 0, .ref s27, .int 0, .ref s29, .ref s30, .ref s31, .int 0, .int 0, .int 0, .ref s35, .ref s36, .ref s37, .long 0, .ref s39, .ref s40, .ref s41, .ref s42])), (s20, .inl (k20, 100, .inl (fun _ => 0)))]) hD hS hA [0, 1] rfl
  refine va_calli (va_runV (As := []) (rest := []) ⟨hx, hb, hml, hown, hq⟩ (c_M_isDinner l dC dI _ h0 s0 s3 s4 s5 s6 s7 s15 s17 s19 s20 s27 s29 s30 s31 s35 s36 s37 s39 s40 s41 s42 k20 ) (cwV 0 hq (gV qw_1497 qw_1499 qw_76 qw_131 qw_1500) rfl rfl rfl (by decide +kernel) ⟨Nat.le_of_ble_eq_true rfl, Nat.le_of_ble_eq_true rfl⟩) ⟨fun a U g mk q => by obtain ⟨q0, q1, qP, qK, qD, qE⟩ := q; exact ⟨q0, q1, qP, va_K.moved (u := U) (U := U.calling g mk a) (Vm.Alike.refl U.vm) qK, qD, xE.same rfl qE⟩, va_recv hKc hPc (ci := 12) (q0 := 0) rfl rfl, fun U hU hW => ⟨rfl, by rw [hU], by rw [hU]; exact hPc, va_K.moved hW.alike hKc, hDc.weaken (fun _ _ _ _ => trivial), xE.warm hW hE⟩⟩ rfl rfl hl.1 rfl (lv_room (Nat.le_of_ble_eq_true rfl)) dX12_quiet_1 ⟨Nat.le_of_ble_eq_true rfl, Nat.le_of_ble_eq_true rfl⟩) hS (fun q _ h => hFc q h) hFc (fun r_1 u t H1 locs ht hvm hw hB hz1 hk1 hS => ?_)
  obtain ⟨hP1, hK1, hD1⟩ := hB
  rw [ht] at hP1
  have hK1 := va_K.moved hvm.symm hK1
  obtain ⟨hP, hD⟩ := va_join (wr := []) (w1 := [(h0, .inr (12, [.ref s0, .int 0, .int 0, .ref s3, .ref s4, .ref s5, .ref s6, .ref s7, .int 0, .int 0, .int 0, .int 0, .int 0, .int 0, .int 0, .ref s15, .int 0, .ref s17, .int 0, .ref s19, .ref s20, .int (-1), .int 0, .int 0, .int 0, .int 0, .int 0, .ref s27, .int 0, .ref s29, .ref s30, .ref s31, .int 0, .int 0, .int 0, .ref s35, .ref s36, .ref s37, .long 0, .ref s39, .ref s40, .ref s41, .ref s42])), (s20, .inl (k20, 100, .inl (fun _ => 0)))]) hP hD [0, 1] [] rfl rfl (by decide) (by decide) hk1 hFc hP1 hD1
  generalize H1 = H at hP hS ⊢
  have hP : va_P (dC, dI) classes [(h0, .inr (12, [.ref s0, .int 0, .int 0, .ref s3, .ref s4, .ref s5, .ref s6, .ref s7, .int 0, .int 0, .int 0, .int 0, .int 0, .int 0, .int 0, .ref s15, .int 0, .ref s17, .int 0, .ref s19, .ref s20, .int (-1), .int 0, .int 0, .int 0, .int 0, .int 0, .ref s27, .int 0, .ref s29, .ref s30, .ref s31, .int 0, .int 0, .int 0, .ref s35, .ref s36, .ref s37, .long 0, .ref s39, .ref s40, .ref s41, .ref s42])), (s20, .inl (k20, 100, .inl (fun _ => 0)))] H := hP
  have hD : va_D A [(h0, .inr (12, [.ref s0, .int 0, .int 0, .ref s3, .ref s4, .ref s5, .ref s6, .ref s7, .int 0, .int 0, .int 0, .int 0, .int 0, .int 0, .int 0, .ref s15, .int 0, .ref s17, .int 0, .ref s19, .ref s20, .int (-1), .int 0, .int 0, .int 0, .int 0, .int 0, .ref s27, .int 0, .ref s29, .ref s30, .ref s31, .int 0, .int 0, .int 0, .ref s35, .ref s36, .ref s37, .long 0, .ref s39, .ref s40, .ref s41, .ref s42])), (s20, .inl (k20, 100, .inl (fun _ => 0)))] := hD
  obtain rfl : r_1 = 0 := hw
  refine lv_if_ne (tgt := 9) hx hb dX12_quiet_4 (by decide) (fun c9 => absurd c9 (by decide)) (fun _ => ?_)
  refine lv_iconst (v := (-1)) hx hb dX12_quiet_7 (by decide) ?_
  refine W.widen (k := 0) (n := 0) (Nat.le_of_ble_eq_true rfl) (Nat.le_of_ble_eq_true rfl) ?_
  exact W.iret (v := (-1)) hx hb hr (fun t ht hW => ⟨⟨(-1), (), rfl, rfl, trivial⟩, hS.F ht⟩) hS.2.2 dX12_quiet_8

set_option maxHeartbeats 4000000 in
set_option maxRecDepth 100000 in
/-- c_M_knowing -/
theorem c_M_knowing (l : Launch) (dC : Nat → ClassId) (dI : Nat → Nat → Nat) (sz : Nat) (h0 : Nat) (s0 : Nat) (s3 : Nat) (s4 : Nat) (s5 : Nat) (s6 : Nat) (s7 : Nat) (s15 : Nat) (s17 : Nat) (s19 : Nat) (s20 : Nat) (s27 : Nat) (s29 : Nat) (s30 : Nat) (s31 : Nat) (s35 : Nat) (s36 : Nat) (s37 : Nat) (s39 : Nat) (s40 : Nat) (s41 : Nat) (s42 : Nat) (k20 : ClassId) (x0 : Int32) : Met l yX12_knowing (.code yX12_knowing cX12_knowing 4 (some .int) :: wsA) ({ frames := 2, cells := 0, slots := 0, locals := 41 }) (va_Pc [.ref h0, .int x0] (fun U => U.heap.size = sz ∧ va_P (dC, dI) classes [(h0, .inr (12, [.ref s0, .int 0, .int 0, .ref s3, .ref s4, .ref s5, .ref s6, .ref s7, .int 0, .int 0, .int 0, .int 0, .int 0, .int 0, .int 0, .ref s15, .int 0, .ref s17, .int 0, .ref s19, .ref s20, .int (-1), .int 0, .int 0, .int 0, .int 0, .int 0, .ref s27, .int 0, .ref s29, .ref s30, .ref s31, .int 0, .int 0, .int 0, .ref s35, .ref s36, .ref s37, .long 0, .ref s39, .ref s40, .ref s41, .ref s42])), (s20, .inl (k20, 100, .inl (fun _ => 0)))] U.heap ∧ va_K (dC, dI) classes [(k20, .int)] U ∧ va_D (fun _ => True) [(h0, .inr (12, [.ref s0, .int 0, .int 0, .ref s3, .ref s4, .ref s5, .ref s6, .ref s7, .int 0, .int 0, .int 0, .int 0, .int 0, .int 0, .int 0, .ref s15, .int 0, .ref s17, .int 0, .ref s19, .ref s20, .int (-1), .int 0, .int 0, .int 0, .int 0, .int 0, .ref s27, .int 0, .ref s29, .ref s30, .ref s31, .int 0, .int 0, .int 0, .ref s35, .ref s36, .ref s37, .long 0, .ref s39, .ref s40, .ref s41, .ref s42])), (s20, .inl (k20, 100, .inl (fun _ => 0)))] ∧ xE U)) (va_Qi (fun (r : Int32) (_ : Unit) => r = (-1)) (fun _ _ => True) (va_A [(h0, .inr (12, [.ref s0, .int 0, .int 0, .ref s3, .ref s4, .ref s5, .ref s6, .ref s7, .int 0, .int 0, .int 0, .int 0, .int 0, .int 0, .int 0, .ref s15, .int 0, .ref s17, .int 0, .ref s19, .ref s20, .int (-1), .int 0, .int 0, .int 0, .int 0, .int 0, .ref s27, .int 0, .ref s29, .ref s30, .ref s31, .int 0, .int 0, .int 0, .ref s35, .ref s36, .ref s37, .long 0, .ref s39, .ref s40, .ref s41, .ref s42])), (s20, .inl (k20, 100, .inl (fun _ => 0)))] sz)) 0 0 (va_A [(h0, .inr (12, [.ref s0, .int 0, .int 0, .ref s3, .ref s4, .ref s5, .ref s6, .ref s7, .int 0, .int 0, .int 0, .int 0, .int 0, .int 0, .int 0, .ref s15, .int 0, .ref s17, .int 0, .ref s19, .ref s20, .int (-1), .int 0, .int 0, .int 0, .int 0, .int 0, .ref s27, .int 0, .ref s29, .ref s30, .ref s31, .int 0, .int 0, .int 0, .ref s35, .ref s36, .ref s37, .long 0, .ref s39, .ref s40, .ref s41, .ref s42])), (s20, .inl (k20, 100, .inl (fun _ => 0)))] sz) := by
  refine Met.ofW (cc := cX12_knowing) (maxL := 4) (ret := (some .int)) (by decide) rfl ?_
  intro p e s m args below meth c s₁ B hml hv
  obtain ⟨rfl, hsz, hP, hK, hD0, hE⟩ := hv
  have hx := B.exec
  have hb := B.bytes
  have hr := B.returns
  have hts := atoms_spec (ws := .code yX12_knowing cX12_knowing 4 (some .int) :: wsA) B.pre
  have hq : ∀ w ∈ wsA, w.before _ s = true := fun w h => hts w (List.mem_cons_of_mem _ h)
  have hown : s.vm.findClass RX12 = some m.cls := findClass_of_methodNamed B.named
  have hlocks := B.notSynchronized
  subst hsz
  have hD := hD0.self (sz := s.heap.size)
  generalize hAe : va_A [(h0, .inr (12, [.ref s0, .int 0, .int 0, .ref s3, .ref s4, .ref s5, .ref s6, .ref s7, .int 0, .int 0, .int 0, .int 0, .int 0, .int 0, .int 0, .ref s15, .int 0, .ref s17, .int 0, .ref s19, .ref s20, .int (-1), .int 0, .int 0, .int 0, .int 0, .int 0, .ref s27, .int 0, .ref s29, .ref s30, .ref s31, .int 0, .int 0, .int 0, .ref s35, .ref s36, .ref s37, .long 0, .ref s39, .ref s40, .ref s41, .ref s42])), (s20, .inl (k20, 100, .inl (fun _ => 0)))] s.heap.size = A at hD ⊢
  have hA : ∀ q : Nat, s.heap.size ≤ q → A q := fun q h => by rw [← hAe]; exact Or.inr h
  have hS : va_S A s.heap s.heap [] := va_S.rf
  have hl := lv_entry ([.ref h0, .int x0]) (n := 4) (Nat.le_of_ble_eq_true rfl)
  rw [lg_entry_eq]
  generalize (lg_sl ([.ref h0, .int x0]) ++ List.replicate (4 - (lg_sl ([.ref h0, .int x0])).length) Slot.unset).toArray = ls at hl ⊢
  have hl : lv_has ls 4 [(0, .ref h0), (1, .int x0)] := hl
  refine lv_aload_n hx hb dX12_knowing_0 rfl (lv_at hl 0 rfl) ?_
  refine lv_iload_n hx hb dX12_knowing_1 rfl (lv_at hl 1 rfl) ?_
  have hPc := hP.sub (ws' := [(h0, .inr (12, [.ref s0, .int 0, .int 0, .ref s3, .ref s4, .ref s5, .ref s6, .ref s7, .int 0, .int 0, .int 0, .int 0, .int 0, .int 0, .int 0, .ref s15, .int 0, .ref s17, .int 0, .ref s19, .ref s20, .int (-1), .int 0, .int 0, .int 0, .int 0, .int 0, .ref s27, .int 0, .ref s29, .ref s30, .ref s31, .int 0, .int 0, .int 0, .ref s35, .ref s36, .ref s37, .long 0, .ref s39, .ref s40, .ref s41, .ref s42])), (s20, .inl (k20, 100, .inl (fun _ => 0)))]) [0, 1] rfl
  have hDc := hD.sub (ws' := [(h0, .inr (12, [.ref s0, .int 0, .int 0, .ref s3, .ref s4, .ref s5, .ref s6, .ref s7, .int 0, .int 0, .int 0, .int 0, .int 0, .int 0, .int 0, .ref s15, .int 0, .ref s17, .int 0, .ref s19, .ref s20, .int (-1), .int 0, .int 0, .int 0, .int 0, .int 0, .ref s27, .int 0, .ref s29, .ref s30, .ref s31, .int 0, .int 0, .int 0, .ref s35, .ref s36, .ref s37, .long 0, .ref s39, .ref s40, .ref s41, .ref s42])), (s20, .inl (k20, 100, .inl (fun _ => 0)))]) [0, 1] (by decide) rfl
  have hKc := hK.sub (tys' := [(k20, .int)]) [0] rfl
  have hFc := va_free (wc := [(h0, .inr (12, [.ref s0, .int 0, .int 0, .ref s3, .ref s4, .ref s5, .ref s6, .ref s7, .int 0, .int 0, .int 0, .int 0, .int 0, .int 0, .int 0, .ref s15, .int 0, .ref s17, .int 0, .ref s19, .ref s20, .int (-1), .int 0, .int 0, .int 0, .int 0, .int 0, .ref s27, .int 0, .ref s29, .ref s30, .ref s31, .int 0, .int 0, .int 0, .ref s35, .ref s36, .ref s37, .long 0, .ref s39, .ref s40, .ref s41, .ref s42])), (s20, .inl (k20, 100, .inl (fun _ => 0)))]) hD hS hA [0, 1] rfl
  refine va_calli (va_runV (As := [.int x0]) (rest := []) ⟨hx, hb, hml, hown, hq⟩ (c_M_isSecret l dC dI _ h0 s0 s3 s4 s5 s6 s7 s15 s17 s19 s20 s27 s29 s30 s31 s35 s36 s37 s39 s40 s41 s42 k20 x0 ) (cwV 1 hq (gV qw_1493 qw_1495 qw_75 qw_131 qw_1496) rfl rfl rfl (by decide +kernel) ⟨Nat.le_of_ble_eq_true rfl, Nat.le_of_ble_eq_true rfl⟩) ⟨fun a U g mk q => by obtain ⟨q0, q1, qP, qK, qD, qE⟩ := q; exact ⟨q0, q1, qP, va_K.moved (u := U) (U := U.calling g mk a) (Vm.Alike.refl U.vm) qK, qD, xE.same rfl qE⟩, va_recv hKc hPc (ci := 12) (q0 := 0) rfl rfl, fun U hU hW => ⟨rfl, by rw [hU], by rw [hU]; exact hPc, va_K.moved hW.alike hKc, hDc.weaken (fun _ _ _ _ => trivial), xE.warm hW hE⟩⟩ rfl rfl hl.1 rfl (lv_room (Nat.le_of_ble_eq_true rfl)) dX12_knowing_2 ⟨Nat.le_of_ble_eq_true rfl, Nat.le_of_ble_eq_true rfl⟩) hS (fun q _ h => hFc q h) hFc (fun r_1 u t H1 locs ht hvm hw hB hz1 hk1 hS => ?_)
  obtain ⟨hP1, hK1, hD1⟩ := hB
  rw [ht] at hP1
  have hK1 := va_K.moved hvm.symm hK1
  obtain ⟨hP, hD⟩ := va_join (wr := []) (w1 := [(h0, .inr (12, [.ref s0, .int 0, .int 0, .ref s3, .ref s4, .ref s5, .ref s6, .ref s7, .int 0, .int 0, .int 0, .int 0, .int 0, .int 0, .int 0, .ref s15, .int 0, .ref s17, .int 0, .ref s19, .ref s20, .int (-1), .int 0, .int 0, .int 0, .int 0, .int 0, .ref s27, .int 0, .ref s29, .ref s30, .ref s31, .int 0, .int 0, .int 0, .ref s35, .ref s36, .ref s37, .long 0, .ref s39, .ref s40, .ref s41, .ref s42])), (s20, .inl (k20, 100, .inl (fun _ => 0)))]) hP hD [0, 1] [] rfl rfl (by decide) (by decide) hk1 hFc hP1 hD1
  generalize H1 = H at hP hS ⊢
  have hP : va_P (dC, dI) classes [(h0, .inr (12, [.ref s0, .int 0, .int 0, .ref s3, .ref s4, .ref s5, .ref s6, .ref s7, .int 0, .int 0, .int 0, .int 0, .int 0, .int 0, .int 0, .ref s15, .int 0, .ref s17, .int 0, .ref s19, .ref s20, .int (-1), .int 0, .int 0, .int 0, .int 0, .int 0, .ref s27, .int 0, .ref s29, .ref s30, .ref s31, .int 0, .int 0, .int 0, .ref s35, .ref s36, .ref s37, .long 0, .ref s39, .ref s40, .ref s41, .ref s42])), (s20, .inl (k20, 100, .inl (fun _ => 0)))] H := hP
  have hD : va_D A [(h0, .inr (12, [.ref s0, .int 0, .int 0, .ref s3, .ref s4, .ref s5, .ref s6, .ref s7, .int 0, .int 0, .int 0, .int 0, .int 0, .int 0, .int 0, .ref s15, .int 0, .ref s17, .int 0, .ref s19, .ref s20, .int (-1), .int 0, .int 0, .int 0, .int 0, .int 0, .ref s27, .int 0, .ref s29, .ref s30, .ref s31, .int 0, .int 0, .int 0, .ref s35, .ref s36, .ref s37, .long 0, .ref s39, .ref s40, .ref s41, .ref s42])), (s20, .inl (k20, 100, .inl (fun _ => 0)))] := hD
  obtain rfl : r_1 = 0 := hw
  refine lv_if_ne (tgt := 10) hx hb dX12_knowing_5 (by decide) (fun c9 => absurd c9 (by decide)) (fun _ => ?_)
  refine lv_iconst (v := (-1)) hx hb dX12_knowing_8 (by decide) ?_
  refine W.widen (k := 0) (n := 0) (Nat.le_of_ble_eq_true rfl) (Nat.le_of_ble_eq_true rfl) ?_
  exact W.iret (v := (-1)) hx hb hr (fun t ht hW => ⟨⟨(-1), (), rfl, rfl, trivial⟩, hS.F ht⟩) hS.2.2 dX12_knowing_9

set_option maxHeartbeats 4000000 in
set_option maxRecDepth 100000 in
/-- c_M_rows -/
theorem c_M_rows (l : Launch) (dC : Nat → ClassId) (dI : Nat → Nat → Nat) (sz : Nat) (h0 : Nat) (s0 : Nat) (s3 : Nat) (s4 : Nat) (s5 : Nat) (s6 : Nat) (s7 : Nat) (s15 : Nat) (s17 : Nat) (s19 : Nat) (s20 : Nat) (s27 : Nat) (s29 : Nat) (s30 : Nat) (s31 : Nat) (s35 : Nat) (s36 : Nat) (s37 : Nat) (s39 : Nat) (s40 : Nat) (s41 : Nat) (s42 : Nat) (k20 : ClassId) (x0 : Int32) : Met l yX12_rows (.code yX12_rows cX12_rows 4 (some .int) :: wsA) ({ frames := 1, cells := 0, slots := 0, locals := 20 }) (va_Pc [.ref h0, .int x0] (fun U => U.heap.size = sz ∧ va_P (dC, dI) classes [(h0, .inr (12, [.ref s0, .int 0, .int 0, .ref s3, .ref s4, .ref s5, .ref s6, .ref s7, .int 0, .int 0, .int 0, .int 0, .int 0, .int 0, .int 0, .ref s15, .int 0, .ref s17, .int 0, .ref s19, .ref s20, .int (-1), .int 0, .int 0, .int 0, .int 0, .int 0, .ref s27, .int 0, .ref s29, .ref s30, .ref s31, .int 0, .int 0, .int 0, .ref s35, .ref s36, .ref s37, .long 0, .ref s39, .ref s40, .ref s41, .ref s42])), (s20, .inl (k20, 100, .inl (fun _ => 0)))] U.heap ∧ va_K (dC, dI) classes [(k20, .int)] U ∧ va_D (fun _ => True) [(h0, .inr (12, [.ref s0, .int 0, .int 0, .ref s3, .ref s4, .ref s5, .ref s6, .ref s7, .int 0, .int 0, .int 0, .int 0, .int 0, .int 0, .int 0, .ref s15, .int 0, .ref s17, .int 0, .ref s19, .ref s20, .int (-1), .int 0, .int 0, .int 0, .int 0, .int 0, .ref s27, .int 0, .ref s29, .ref s30, .ref s31, .int 0, .int 0, .int 0, .ref s35, .ref s36, .ref s37, .long 0, .ref s39, .ref s40, .ref s41, .ref s42])), (s20, .inl (k20, 100, .inl (fun _ => 0)))] ∧ xE U)) (va_Qi (fun (r : Int32) (_ : Unit) => r = (-1)) (fun _ _ => True) (va_A [(h0, .inr (12, [.ref s0, .int 0, .int 0, .ref s3, .ref s4, .ref s5, .ref s6, .ref s7, .int 0, .int 0, .int 0, .int 0, .int 0, .int 0, .int 0, .ref s15, .int 0, .ref s17, .int 0, .ref s19, .ref s20, .int (-1), .int 0, .int 0, .int 0, .int 0, .int 0, .ref s27, .int 0, .ref s29, .ref s30, .ref s31, .int 0, .int 0, .int 0, .ref s35, .ref s36, .ref s37, .long 0, .ref s39, .ref s40, .ref s41, .ref s42])), (s20, .inl (k20, 100, .inl (fun _ => 0)))] sz)) 0 0 (va_A [(h0, .inr (12, [.ref s0, .int 0, .int 0, .ref s3, .ref s4, .ref s5, .ref s6, .ref s7, .int 0, .int 0, .int 0, .int 0, .int 0, .int 0, .int 0, .ref s15, .int 0, .ref s17, .int 0, .ref s19, .ref s20, .int (-1), .int 0, .int 0, .int 0, .int 0, .int 0, .ref s27, .int 0, .ref s29, .ref s30, .ref s31, .int 0, .int 0, .int 0, .ref s35, .ref s36, .ref s37, .long 0, .ref s39, .ref s40, .ref s41, .ref s42])), (s20, .inl (k20, 100, .inl (fun _ => 0)))] sz) := by
  refine Met.ofW (cc := cX12_rows) (maxL := 4) (ret := (some .int)) (by decide) rfl ?_
  intro p e s m args below meth c s₁ B hml hv
  obtain ⟨rfl, hsz, hP, hK, hD0, hE⟩ := hv
  have hx := B.exec
  have hb := B.bytes
  have hr := B.returns
  have hts := atoms_spec (ws := .code yX12_rows cX12_rows 4 (some .int) :: wsA) B.pre
  have hq : ∀ w ∈ wsA, w.before _ s = true := fun w h => hts w (List.mem_cons_of_mem _ h)
  have hown : s.vm.findClass RX12 = some m.cls := findClass_of_methodNamed B.named
  have hlocks := B.notSynchronized
  subst hsz
  have hD := hD0.self (sz := s.heap.size)
  generalize hAe : va_A [(h0, .inr (12, [.ref s0, .int 0, .int 0, .ref s3, .ref s4, .ref s5, .ref s6, .ref s7, .int 0, .int 0, .int 0, .int 0, .int 0, .int 0, .int 0, .ref s15, .int 0, .ref s17, .int 0, .ref s19, .ref s20, .int (-1), .int 0, .int 0, .int 0, .int 0, .int 0, .ref s27, .int 0, .ref s29, .ref s30, .ref s31, .int 0, .int 0, .int 0, .ref s35, .ref s36, .ref s37, .long 0, .ref s39, .ref s40, .ref s41, .ref s42])), (s20, .inl (k20, 100, .inl (fun _ => 0)))] s.heap.size = A at hD ⊢
  have hA : ∀ q : Nat, s.heap.size ≤ q → A q := fun q h => by rw [← hAe]; exact Or.inr h
  have hS : va_S A s.heap s.heap [] := va_S.rf
  have hl := lv_entry ([.ref h0, .int x0]) (n := 4) (Nat.le_of_ble_eq_true rfl)
  rw [lg_entry_eq]
  generalize (lg_sl ([.ref h0, .int x0]) ++ List.replicate (4 - (lg_sl ([.ref h0, .int x0])).length) Slot.unset).toArray = ls at hl ⊢
  have hl : lv_has ls 4 [(0, .ref h0), (1, .int x0)] := hl
  refine lv_aload_n hx hb dX12_rows_0 rfl (lv_at hl 0 rfl) ?_
  have hPc := hP.sub (ws' := [(h0, .inr (12, [.ref s0, .int 0, .int 0, .ref s3, .ref s4, .ref s5, .ref s6, .ref s7, .int 0, .int 0, .int 0, .int 0, .int 0, .int 0, .int 0, .ref s15, .int 0, .ref s17, .int 0, .ref s19, .ref s20, .int (-1), .int 0, .int 0, .int 0, .int 0, .int 0, .ref s27, .int 0, .ref s29, .ref s30, .ref s31, .int 0, .int 0, .int 0, .ref s35, .ref s36, .ref s37, .long 0, .ref s39, .ref s40, .ref s41, .ref s42])), (s20, .inl (k20, 100, .inl (fun _ => 0)))]) [0, 1] rfl
  have hDc := hD.sub (ws' := [(h0, .inr (12, [.ref s0, .int 0, .int 0, .ref s3, .ref s4, .ref s5, .ref s6, .ref s7, .int 0, .int 0, .int 0, .int 0, .int 0, .int 0, .int 0, .ref s15, .int 0, .ref s17, .int 0, .ref s19, .ref s20, .int (-1), .int 0, .int 0, .int 0, .int 0, .int 0, .ref s27, .int 0, .ref s29, .ref s30, .ref s31, .int 0, .int 0, .int 0, .ref s35, .ref s36, .ref s37, .long 0, .ref s39, .ref s40, .ref s41, .ref s42])), (s20, .inl (k20, 100, .inl (fun _ => 0)))]) [0, 1] (by decide) rfl
  have hKc := hK.sub (tys' := [(k20, .int)]) [0] rfl
  have hFc := va_free (wc := [(h0, .inr (12, [.ref s0, .int 0, .int 0, .ref s3, .ref s4, .ref s5, .ref s6, .ref s7, .int 0, .int 0, .int 0, .int 0, .int 0, .int 0, .int 0, .ref s15, .int 0, .ref s17, .int 0, .ref s19, .ref s20, .int (-1), .int 0, .int 0, .int 0, .int 0, .int 0, .ref s27, .int 0, .ref s29, .ref s30, .ref s31, .int 0, .int 0, .int 0, .ref s35, .ref s36, .ref s37, .long 0, .ref s39, .ref s40, .ref s41, .ref s42])), (s20, .inl (k20, 100, .inl (fun _ => 0)))]) hD hS hA [0, 1] rfl
  refine va_calli (va_runV (As := []) (rest := []) ⟨hx, hb, hml, hown, hq⟩ (c_M_isDinner l dC dI _ h0 s0 s3 s4 s5 s6 s7 s15 s17 s19 s20 s27 s29 s30 s31 s35 s36 s37 s39 s40 s41 s42 k20 ) (cwV 0 hq (gV qw_1497 qw_1499 qw_76 qw_131 qw_1500) rfl rfl rfl (by decide +kernel) ⟨Nat.le_of_ble_eq_true rfl, Nat.le_of_ble_eq_true rfl⟩) ⟨fun a U g mk q => by obtain ⟨q0, q1, qP, qK, qD, qE⟩ := q; exact ⟨q0, q1, qP, va_K.moved (u := U) (U := U.calling g mk a) (Vm.Alike.refl U.vm) qK, qD, xE.same rfl qE⟩, va_recv hKc hPc (ci := 12) (q0 := 0) rfl rfl, fun U hU hW => ⟨rfl, by rw [hU], by rw [hU]; exact hPc, va_K.moved hW.alike hKc, hDc.weaken (fun _ _ _ _ => trivial), xE.warm hW hE⟩⟩ rfl rfl hl.1 rfl (lv_room (Nat.le_of_ble_eq_true rfl)) dX12_rows_1 ⟨Nat.le_of_ble_eq_true rfl, Nat.le_of_ble_eq_true rfl⟩) hS (fun q _ h => hFc q h) hFc (fun r_1 u t H1 locs ht hvm hw hB hz1 hk1 hS => ?_)
  obtain ⟨hP1, hK1, hD1⟩ := hB
  rw [ht] at hP1
  have hK1 := va_K.moved hvm.symm hK1
  obtain ⟨hP, hD⟩ := va_join (wr := []) (w1 := [(h0, .inr (12, [.ref s0, .int 0, .int 0, .ref s3, .ref s4, .ref s5, .ref s6, .ref s7, .int 0, .int 0, .int 0, .int 0, .int 0, .int 0, .int 0, .ref s15, .int 0, .ref s17, .int 0, .ref s19, .ref s20, .int (-1), .int 0, .int 0, .int 0, .int 0, .int 0, .ref s27, .int 0, .ref s29, .ref s30, .ref s31, .int 0, .int 0, .int 0, .ref s35, .ref s36, .ref s37, .long 0, .ref s39, .ref s40, .ref s41, .ref s42])), (s20, .inl (k20, 100, .inl (fun _ => 0)))]) hP hD [0, 1] [] rfl rfl (by decide) (by decide) hk1 hFc hP1 hD1
  generalize H1 = H at hP hS ⊢
  have hP : va_P (dC, dI) classes [(h0, .inr (12, [.ref s0, .int 0, .int 0, .ref s3, .ref s4, .ref s5, .ref s6, .ref s7, .int 0, .int 0, .int 0, .int 0, .int 0, .int 0, .int 0, .ref s15, .int 0, .ref s17, .int 0, .ref s19, .ref s20, .int (-1), .int 0, .int 0, .int 0, .int 0, .int 0, .ref s27, .int 0, .ref s29, .ref s30, .ref s31, .int 0, .int 0, .int 0, .ref s35, .ref s36, .ref s37, .long 0, .ref s39, .ref s40, .ref s41, .ref s42])), (s20, .inl (k20, 100, .inl (fun _ => 0)))] H := hP
  have hD : va_D A [(h0, .inr (12, [.ref s0, .int 0, .int 0, .ref s3, .ref s4, .ref s5, .ref s6, .ref s7, .int 0, .int 0, .int 0, .int 0, .int 0, .int 0, .int 0, .ref s15, .int 0, .ref s17, .int 0, .ref s19, .ref s20, .int (-1), .int 0, .int 0, .int 0, .int 0, .int 0, .ref s27, .int 0, .ref s29, .ref s30, .ref s31, .int 0, .int 0, .int 0, .ref s35, .ref s36, .ref s37, .long 0, .ref s39, .ref s40, .ref s41, .ref s42])), (s20, .inl (k20, 100, .inl (fun _ => 0)))] := hD
  obtain rfl : r_1 = 0 := hw
  refine lv_if_eq (tgt := 19) hx hb dX12_rows_4 (by decide) (fun _ => ?_) (fun c9 => absurd c9 (by decide))
  refine lv_iconst (v := (-1)) hx hb dX12_rows_19 (by decide) ?_
  refine W.widen (k := 0) (n := 0) (Nat.le_of_ble_eq_true rfl) (Nat.le_of_ble_eq_true rfl) ?_
  exact W.iret (v := (-1)) hx hb hr (fun t ht hW => ⟨⟨(-1), (), rfl, rfl, trivial⟩, hS.F ht⟩) hS.2.2 dX12_rows_20

set_option maxHeartbeats 4000000 in
set_option maxRecDepth 100000 in
/-- c_M_believed -/
theorem c_M_believed (l : Launch) (dC : Nat → ClassId) (dI : Nat → Nat → Nat) (sz : Nat) (h0 : Nat) (s0 : Nat) (s3 : Nat) (s4 : Nat) (s5 : Nat) (s6 : Nat) (s7 : Nat) (s15 : Nat) (s17 : Nat) (s19 : Nat) (s20 : Nat) (s27 : Nat) (s29 : Nat) (s30 : Nat) (s31 : Nat) (s35 : Nat) (s36 : Nat) (s37 : Nat) (s39 : Nat) (s40 : Nat) (s41 : Nat) (s42 : Nat) (k20 : ClassId) (x0 : Int32) : Met l yX12_believed (.code yX12_believed cX12_believed 5 (some .int) :: wsA) ({ frames := 1, cells := 0, slots := 0, locals := 20 }) (va_Pc [.ref h0, .int x0] (fun U => U.heap.size = sz ∧ va_P (dC, dI) classes [(h0, .inr (12, [.ref s0, .int 0, .int 0, .ref s3, .ref s4, .ref s5, .ref s6, .ref s7, .int 0, .int 0, .int 0, .int 0, .int 0, .int 0, .int 0, .ref s15, .int 0, .ref s17, .int 0, .ref s19, .ref s20, .int (-1), .int 0, .int 0, .int 0, .int 0, .int 0, .ref s27, .int 0, .ref s29, .ref s30, .ref s31, .int 0, .int 0, .int 0, .ref s35, .ref s36, .ref s37, .long 0, .ref s39, .ref s40, .ref s41, .ref s42])), (s20, .inl (k20, 100, .inl (fun _ => 0)))] U.heap ∧ va_K (dC, dI) classes [(k20, .int)] U ∧ va_D (fun _ => True) [(h0, .inr (12, [.ref s0, .int 0, .int 0, .ref s3, .ref s4, .ref s5, .ref s6, .ref s7, .int 0, .int 0, .int 0, .int 0, .int 0, .int 0, .int 0, .ref s15, .int 0, .ref s17, .int 0, .ref s19, .ref s20, .int (-1), .int 0, .int 0, .int 0, .int 0, .int 0, .ref s27, .int 0, .ref s29, .ref s30, .ref s31, .int 0, .int 0, .int 0, .ref s35, .ref s36, .ref s37, .long 0, .ref s39, .ref s40, .ref s41, .ref s42])), (s20, .inl (k20, 100, .inl (fun _ => 0)))] ∧ xE U)) (va_Qi (fun (r : Int32) (_ : Unit) => r = (-1)) (fun _ _ => True) (va_A [(h0, .inr (12, [.ref s0, .int 0, .int 0, .ref s3, .ref s4, .ref s5, .ref s6, .ref s7, .int 0, .int 0, .int 0, .int 0, .int 0, .int 0, .int 0, .ref s15, .int 0, .ref s17, .int 0, .ref s19, .ref s20, .int (-1), .int 0, .int 0, .int 0, .int 0, .int 0, .ref s27, .int 0, .ref s29, .ref s30, .ref s31, .int 0, .int 0, .int 0, .ref s35, .ref s36, .ref s37, .long 0, .ref s39, .ref s40, .ref s41, .ref s42])), (s20, .inl (k20, 100, .inl (fun _ => 0)))] sz)) 0 0 (va_A [(h0, .inr (12, [.ref s0, .int 0, .int 0, .ref s3, .ref s4, .ref s5, .ref s6, .ref s7, .int 0, .int 0, .int 0, .int 0, .int 0, .int 0, .int 0, .ref s15, .int 0, .ref s17, .int 0, .ref s19, .ref s20, .int (-1), .int 0, .int 0, .int 0, .int 0, .int 0, .ref s27, .int 0, .ref s29, .ref s30, .ref s31, .int 0, .int 0, .int 0, .ref s35, .ref s36, .ref s37, .long 0, .ref s39, .ref s40, .ref s41, .ref s42])), (s20, .inl (k20, 100, .inl (fun _ => 0)))] sz) := by
  refine Met.ofW (cc := cX12_believed) (maxL := 5) (ret := (some .int)) (by decide) rfl ?_
  intro p e s m args below meth c s₁ B hml hv
  obtain ⟨rfl, hsz, hP, hK, hD0, hE⟩ := hv
  have hx := B.exec
  have hb := B.bytes
  have hr := B.returns
  have hts := atoms_spec (ws := .code yX12_believed cX12_believed 5 (some .int) :: wsA) B.pre
  have hq : ∀ w ∈ wsA, w.before _ s = true := fun w h => hts w (List.mem_cons_of_mem _ h)
  have hown : s.vm.findClass RX12 = some m.cls := findClass_of_methodNamed B.named
  have hlocks := B.notSynchronized
  subst hsz
  have hD := hD0.self (sz := s.heap.size)
  generalize hAe : va_A [(h0, .inr (12, [.ref s0, .int 0, .int 0, .ref s3, .ref s4, .ref s5, .ref s6, .ref s7, .int 0, .int 0, .int 0, .int 0, .int 0, .int 0, .int 0, .ref s15, .int 0, .ref s17, .int 0, .ref s19, .ref s20, .int (-1), .int 0, .int 0, .int 0, .int 0, .int 0, .ref s27, .int 0, .ref s29, .ref s30, .ref s31, .int 0, .int 0, .int 0, .ref s35, .ref s36, .ref s37, .long 0, .ref s39, .ref s40, .ref s41, .ref s42])), (s20, .inl (k20, 100, .inl (fun _ => 0)))] s.heap.size = A at hD ⊢
  have hA : ∀ q : Nat, s.heap.size ≤ q → A q := fun q h => by rw [← hAe]; exact Or.inr h
  have hS : va_S A s.heap s.heap [] := va_S.rf
  have hl := lv_entry ([.ref h0, .int x0]) (n := 5) (Nat.le_of_ble_eq_true rfl)
  rw [lg_entry_eq]
  generalize (lg_sl ([.ref h0, .int x0]) ++ List.replicate (5 - (lg_sl ([.ref h0, .int x0])).length) Slot.unset).toArray = ls at hl ⊢
  have hl : lv_has ls 5 [(0, .ref h0), (1, .int x0)] := hl
  refine lv_aload_n hx hb dX12_believed_0 rfl (lv_at hl 0 rfl) ?_
  have hPc := hP.sub (ws' := [(h0, .inr (12, [.ref s0, .int 0, .int 0, .ref s3, .ref s4, .ref s5, .ref s6, .ref s7, .int 0, .int 0, .int 0, .int 0, .int 0, .int 0, .int 0, .ref s15, .int 0, .ref s17, .int 0, .ref s19, .ref s20, .int (-1), .int 0, .int 0, .int 0, .int 0, .int 0, .ref s27, .int 0, .ref s29, .ref s30, .ref s31, .int 0, .int 0, .int 0, .ref s35, .ref s36, .ref s37, .long 0, .ref s39, .ref s40, .ref s41, .ref s42])), (s20, .inl (k20, 100, .inl (fun _ => 0)))]) [0, 1] rfl
  have hDc := hD.sub (ws' := [(h0, .inr (12, [.ref s0, .int 0, .int 0, .ref s3, .ref s4, .ref s5, .ref s6, .ref s7, .int 0, .int 0, .int 0, .int 0, .int 0, .int 0, .int 0, .ref s15, .int 0, .ref s17, .int 0, .ref s19, .ref s20, .int (-1), .int 0, .int 0, .int 0, .int 0, .int 0, .ref s27, .int 0, .ref s29, .ref s30, .ref s31, .int 0, .int 0, .int 0, .ref s35, .ref s36, .ref s37, .long 0, .ref s39, .ref s40, .ref s41, .ref s42])), (s20, .inl (k20, 100, .inl (fun _ => 0)))]) [0, 1] (by decide) rfl
  have hKc := hK.sub (tys' := [(k20, .int)]) [0] rfl
  have hFc := va_free (wc := [(h0, .inr (12, [.ref s0, .int 0, .int 0, .ref s3, .ref s4, .ref s5, .ref s6, .ref s7, .int 0, .int 0, .int 0, .int 0, .int 0, .int 0, .int 0, .ref s15, .int 0, .ref s17, .int 0, .ref s19, .ref s20, .int (-1), .int 0, .int 0, .int 0, .int 0, .int 0, .ref s27, .int 0, .ref s29, .ref s30, .ref s31, .int 0, .int 0, .int 0, .ref s35, .ref s36, .ref s37, .long 0, .ref s39, .ref s40, .ref s41, .ref s42])), (s20, .inl (k20, 100, .inl (fun _ => 0)))]) hD hS hA [0, 1] rfl
  refine va_calli (va_runV (As := []) (rest := []) ⟨hx, hb, hml, hown, hq⟩ (c_M_isDinner l dC dI _ h0 s0 s3 s4 s5 s6 s7 s15 s17 s19 s20 s27 s29 s30 s31 s35 s36 s37 s39 s40 s41 s42 k20 ) (cwV 0 hq (gV qw_1497 qw_1499 qw_76 qw_131 qw_1500) rfl rfl rfl (by decide +kernel) ⟨Nat.le_of_ble_eq_true rfl, Nat.le_of_ble_eq_true rfl⟩) ⟨fun a U g mk q => by obtain ⟨q0, q1, qP, qK, qD, qE⟩ := q; exact ⟨q0, q1, qP, va_K.moved (u := U) (U := U.calling g mk a) (Vm.Alike.refl U.vm) qK, qD, xE.same rfl qE⟩, va_recv hKc hPc (ci := 12) (q0 := 0) rfl rfl, fun U hU hW => ⟨rfl, by rw [hU], by rw [hU]; exact hPc, va_K.moved hW.alike hKc, hDc.weaken (fun _ _ _ _ => trivial), xE.warm hW hE⟩⟩ rfl rfl hl.1 rfl (lv_room (Nat.le_of_ble_eq_true rfl)) dX12_believed_1 ⟨Nat.le_of_ble_eq_true rfl, Nat.le_of_ble_eq_true rfl⟩) hS (fun q _ h => hFc q h) hFc (fun r_1 u t H1 locs ht hvm hw hB hz1 hk1 hS => ?_)
  obtain ⟨hP1, hK1, hD1⟩ := hB
  rw [ht] at hP1
  have hK1 := va_K.moved hvm.symm hK1
  obtain ⟨hP, hD⟩ := va_join (wr := []) (w1 := [(h0, .inr (12, [.ref s0, .int 0, .int 0, .ref s3, .ref s4, .ref s5, .ref s6, .ref s7, .int 0, .int 0, .int 0, .int 0, .int 0, .int 0, .int 0, .ref s15, .int 0, .ref s17, .int 0, .ref s19, .ref s20, .int (-1), .int 0, .int 0, .int 0, .int 0, .int 0, .ref s27, .int 0, .ref s29, .ref s30, .ref s31, .int 0, .int 0, .int 0, .ref s35, .ref s36, .ref s37, .long 0, .ref s39, .ref s40, .ref s41, .ref s42])), (s20, .inl (k20, 100, .inl (fun _ => 0)))]) hP hD [0, 1] [] rfl rfl (by decide) (by decide) hk1 hFc hP1 hD1
  generalize H1 = H at hP hS ⊢
  have hP : va_P (dC, dI) classes [(h0, .inr (12, [.ref s0, .int 0, .int 0, .ref s3, .ref s4, .ref s5, .ref s6, .ref s7, .int 0, .int 0, .int 0, .int 0, .int 0, .int 0, .int 0, .ref s15, .int 0, .ref s17, .int 0, .ref s19, .ref s20, .int (-1), .int 0, .int 0, .int 0, .int 0, .int 0, .ref s27, .int 0, .ref s29, .ref s30, .ref s31, .int 0, .int 0, .int 0, .ref s35, .ref s36, .ref s37, .long 0, .ref s39, .ref s40, .ref s41, .ref s42])), (s20, .inl (k20, 100, .inl (fun _ => 0)))] H := hP
  have hD : va_D A [(h0, .inr (12, [.ref s0, .int 0, .int 0, .ref s3, .ref s4, .ref s5, .ref s6, .ref s7, .int 0, .int 0, .int 0, .int 0, .int 0, .int 0, .int 0, .ref s15, .int 0, .ref s17, .int 0, .ref s19, .ref s20, .int (-1), .int 0, .int 0, .int 0, .int 0, .int 0, .ref s27, .int 0, .ref s29, .ref s30, .ref s31, .int 0, .int 0, .int 0, .ref s35, .ref s36, .ref s37, .long 0, .ref s39, .ref s40, .ref s41, .ref s42])), (s20, .inl (k20, 100, .inl (fun _ => 0)))] := hD
  obtain rfl : r_1 = 0 := hw
  refine lv_if_eq (tgt := 17) hx hb dX12_believed_4 (by decide) (fun _ => ?_) (fun c9 => absurd c9 (by decide))
  refine lv_iconst (v := (-1)) hx hb dX12_believed_17 (by decide) ?_
  refine W.widen (k := 0) (n := 0) (Nat.le_of_ble_eq_true rfl) (Nat.le_of_ble_eq_true rfl) ?_
  exact W.iret (v := (-1)) hx hb hr (fun t ht hW => ⟨⟨(-1), (), rfl, rfl, trivial⟩, hS.F ht⟩) hS.2.2 dX12_believed_18

set_option maxHeartbeats 4000000 in
set_option maxRecDepth 100000 in
/-- c_M_dropped -/
theorem c_M_dropped (l : Launch) (dC : Nat → ClassId) (dI : Nat → Nat → Nat) (sz : Nat) (h0 : Nat) (s0 : Nat) (s3 : Nat) (s4 : Nat) (s5 : Nat) (s6 : Nat) (s7 : Nat) (s15 : Nat) (s17 : Nat) (s19 : Nat) (s20 : Nat) (s27 : Nat) (s29 : Nat) (s30 : Nat) (s31 : Nat) (s35 : Nat) (s36 : Nat) (s37 : Nat) (s39 : Nat) (s40 : Nat) (s41 : Nat) (s42 : Nat) (k20 : ClassId) (x0 : Int32) : Met l yX12_dropped (.code yX12_dropped cX12_dropped 4 (some .int) :: wsA) ({ frames := 1, cells := 0, slots := 0, locals := 20 }) (va_Pc [.ref h0, .int x0] (fun U => U.heap.size = sz ∧ va_P (dC, dI) classes [(h0, .inr (12, [.ref s0, .int 0, .int 0, .ref s3, .ref s4, .ref s5, .ref s6, .ref s7, .int 0, .int 0, .int 0, .int 0, .int 0, .int 0, .int 0, .ref s15, .int 0, .ref s17, .int 0, .ref s19, .ref s20, .int (-1), .int 0, .int 0, .int 0, .int 0, .int 0, .ref s27, .int 0, .ref s29, .ref s30, .ref s31, .int 0, .int 0, .int 0, .ref s35, .ref s36, .ref s37, .long 0, .ref s39, .ref s40, .ref s41, .ref s42])), (s20, .inl (k20, 100, .inl (fun _ => 0)))] U.heap ∧ va_K (dC, dI) classes [(k20, .int)] U ∧ va_D (fun _ => True) [(h0, .inr (12, [.ref s0, .int 0, .int 0, .ref s3, .ref s4, .ref s5, .ref s6, .ref s7, .int 0, .int 0, .int 0, .int 0, .int 0, .int 0, .int 0, .ref s15, .int 0, .ref s17, .int 0, .ref s19, .ref s20, .int (-1), .int 0, .int 0, .int 0, .int 0, .int 0, .ref s27, .int 0, .ref s29, .ref s30, .ref s31, .int 0, .int 0, .int 0, .ref s35, .ref s36, .ref s37, .long 0, .ref s39, .ref s40, .ref s41, .ref s42])), (s20, .inl (k20, 100, .inl (fun _ => 0)))] ∧ xE U)) (va_Qi (fun (r : Int32) (_ : Unit) => r = (-1)) (fun _ _ => True) (va_A [(h0, .inr (12, [.ref s0, .int 0, .int 0, .ref s3, .ref s4, .ref s5, .ref s6, .ref s7, .int 0, .int 0, .int 0, .int 0, .int 0, .int 0, .int 0, .ref s15, .int 0, .ref s17, .int 0, .ref s19, .ref s20, .int (-1), .int 0, .int 0, .int 0, .int 0, .int 0, .ref s27, .int 0, .ref s29, .ref s30, .ref s31, .int 0, .int 0, .int 0, .ref s35, .ref s36, .ref s37, .long 0, .ref s39, .ref s40, .ref s41, .ref s42])), (s20, .inl (k20, 100, .inl (fun _ => 0)))] sz)) 0 0 (va_A [(h0, .inr (12, [.ref s0, .int 0, .int 0, .ref s3, .ref s4, .ref s5, .ref s6, .ref s7, .int 0, .int 0, .int 0, .int 0, .int 0, .int 0, .int 0, .ref s15, .int 0, .ref s17, .int 0, .ref s19, .ref s20, .int (-1), .int 0, .int 0, .int 0, .int 0, .int 0, .ref s27, .int 0, .ref s29, .ref s30, .ref s31, .int 0, .int 0, .int 0, .ref s35, .ref s36, .ref s37, .long 0, .ref s39, .ref s40, .ref s41, .ref s42])), (s20, .inl (k20, 100, .inl (fun _ => 0)))] sz) := by
  refine Met.ofW (cc := cX12_dropped) (maxL := 4) (ret := (some .int)) (by decide) rfl ?_
  intro p e s m args below meth c s₁ B hml hv
  obtain ⟨rfl, hsz, hP, hK, hD0, hE⟩ := hv
  have hx := B.exec
  have hb := B.bytes
  have hr := B.returns
  have hts := atoms_spec (ws := .code yX12_dropped cX12_dropped 4 (some .int) :: wsA) B.pre
  have hq : ∀ w ∈ wsA, w.before _ s = true := fun w h => hts w (List.mem_cons_of_mem _ h)
  have hown : s.vm.findClass RX12 = some m.cls := findClass_of_methodNamed B.named
  have hlocks := B.notSynchronized
  subst hsz
  have hD := hD0.self (sz := s.heap.size)
  generalize hAe : va_A [(h0, .inr (12, [.ref s0, .int 0, .int 0, .ref s3, .ref s4, .ref s5, .ref s6, .ref s7, .int 0, .int 0, .int 0, .int 0, .int 0, .int 0, .int 0, .ref s15, .int 0, .ref s17, .int 0, .ref s19, .ref s20, .int (-1), .int 0, .int 0, .int 0, .int 0, .int 0, .ref s27, .int 0, .ref s29, .ref s30, .ref s31, .int 0, .int 0, .int 0, .ref s35, .ref s36, .ref s37, .long 0, .ref s39, .ref s40, .ref s41, .ref s42])), (s20, .inl (k20, 100, .inl (fun _ => 0)))] s.heap.size = A at hD ⊢
  have hA : ∀ q : Nat, s.heap.size ≤ q → A q := fun q h => by rw [← hAe]; exact Or.inr h
  have hS : va_S A s.heap s.heap [] := va_S.rf
  have hl := lv_entry ([.ref h0, .int x0]) (n := 4) (Nat.le_of_ble_eq_true rfl)
  rw [lg_entry_eq]
  generalize (lg_sl ([.ref h0, .int x0]) ++ List.replicate (4 - (lg_sl ([.ref h0, .int x0])).length) Slot.unset).toArray = ls at hl ⊢
  have hl : lv_has ls 4 [(0, .ref h0), (1, .int x0)] := hl
  refine lv_aload_n hx hb dX12_dropped_0 rfl (lv_at hl 0 rfl) ?_
  have hPc := hP.sub (ws' := [(h0, .inr (12, [.ref s0, .int 0, .int 0, .ref s3, .ref s4, .ref s5, .ref s6, .ref s7, .int 0, .int 0, .int 0, .int 0, .int 0, .int 0, .int 0, .ref s15, .int 0, .ref s17, .int 0, .ref s19, .ref s20, .int (-1), .int 0, .int 0, .int 0, .int 0, .int 0, .ref s27, .int 0, .ref s29, .ref s30, .ref s31, .int 0, .int 0, .int 0, .ref s35, .ref s36, .ref s37, .long 0, .ref s39, .ref s40, .ref s41, .ref s42])), (s20, .inl (k20, 100, .inl (fun _ => 0)))]) [0, 1] rfl
  have hDc := hD.sub (ws' := [(h0, .inr (12, [.ref s0, .int 0, .int 0, .ref s3, .ref s4, .ref s5, .ref s6, .ref s7, .int 0, .int 0, .int 0, .int 0, .int 0, .int 0, .int 0, .ref s15, .int 0, .ref s17, .int 0, .ref s19, .ref s20, .int (-1), .int 0, .int 0, .int 0, .int 0, .int 0, .ref s27, .int 0, .ref s29, .ref s30, .ref s31, .int 0, .int 0, .int 0, .ref s35, .ref s36, .ref s37, .long 0, .ref s39, .ref s40, .ref s41, .ref s42])), (s20, .inl (k20, 100, .inl (fun _ => 0)))]) [0, 1] (by decide) rfl
  have hKc := hK.sub (tys' := [(k20, .int)]) [0] rfl
  have hFc := va_free (wc := [(h0, .inr (12, [.ref s0, .int 0, .int 0, .ref s3, .ref s4, .ref s5, .ref s6, .ref s7, .int 0, .int 0, .int 0, .int 0, .int 0, .int 0, .int 0, .ref s15, .int 0, .ref s17, .int 0, .ref s19, .ref s20, .int (-1), .int 0, .int 0, .int 0, .int 0, .int 0, .ref s27, .int 0, .ref s29, .ref s30, .ref s31, .int 0, .int 0, .int 0, .ref s35, .ref s36, .ref s37, .long 0, .ref s39, .ref s40, .ref s41, .ref s42])), (s20, .inl (k20, 100, .inl (fun _ => 0)))]) hD hS hA [0, 1] rfl
  refine va_calli (va_runV (As := []) (rest := []) ⟨hx, hb, hml, hown, hq⟩ (c_M_isDinner l dC dI _ h0 s0 s3 s4 s5 s6 s7 s15 s17 s19 s20 s27 s29 s30 s31 s35 s36 s37 s39 s40 s41 s42 k20 ) (cwV 0 hq (gV qw_1497 qw_1499 qw_76 qw_131 qw_1500) rfl rfl rfl (by decide +kernel) ⟨Nat.le_of_ble_eq_true rfl, Nat.le_of_ble_eq_true rfl⟩) ⟨fun a U g mk q => by obtain ⟨q0, q1, qP, qK, qD, qE⟩ := q; exact ⟨q0, q1, qP, va_K.moved (u := U) (U := U.calling g mk a) (Vm.Alike.refl U.vm) qK, qD, xE.same rfl qE⟩, va_recv hKc hPc (ci := 12) (q0 := 0) rfl rfl, fun U hU hW => ⟨rfl, by rw [hU], by rw [hU]; exact hPc, va_K.moved hW.alike hKc, hDc.weaken (fun _ _ _ _ => trivial), xE.warm hW hE⟩⟩ rfl rfl hl.1 rfl (lv_room (Nat.le_of_ble_eq_true rfl)) dX12_dropped_1 ⟨Nat.le_of_ble_eq_true rfl, Nat.le_of_ble_eq_true rfl⟩) hS (fun q _ h => hFc q h) hFc (fun r_1 u t H1 locs ht hvm hw hB hz1 hk1 hS => ?_)
  obtain ⟨hP1, hK1, hD1⟩ := hB
  rw [ht] at hP1
  have hK1 := va_K.moved hvm.symm hK1
  obtain ⟨hP, hD⟩ := va_join (wr := []) (w1 := [(h0, .inr (12, [.ref s0, .int 0, .int 0, .ref s3, .ref s4, .ref s5, .ref s6, .ref s7, .int 0, .int 0, .int 0, .int 0, .int 0, .int 0, .int 0, .ref s15, .int 0, .ref s17, .int 0, .ref s19, .ref s20, .int (-1), .int 0, .int 0, .int 0, .int 0, .int 0, .ref s27, .int 0, .ref s29, .ref s30, .ref s31, .int 0, .int 0, .int 0, .ref s35, .ref s36, .ref s37, .long 0, .ref s39, .ref s40, .ref s41, .ref s42])), (s20, .inl (k20, 100, .inl (fun _ => 0)))]) hP hD [0, 1] [] rfl rfl (by decide) (by decide) hk1 hFc hP1 hD1
  generalize H1 = H at hP hS ⊢
  have hP : va_P (dC, dI) classes [(h0, .inr (12, [.ref s0, .int 0, .int 0, .ref s3, .ref s4, .ref s5, .ref s6, .ref s7, .int 0, .int 0, .int 0, .int 0, .int 0, .int 0, .int 0, .ref s15, .int 0, .ref s17, .int 0, .ref s19, .ref s20, .int (-1), .int 0, .int 0, .int 0, .int 0, .int 0, .ref s27, .int 0, .ref s29, .ref s30, .ref s31, .int 0, .int 0, .int 0, .ref s35, .ref s36, .ref s37, .long 0, .ref s39, .ref s40, .ref s41, .ref s42])), (s20, .inl (k20, 100, .inl (fun _ => 0)))] H := hP
  have hD : va_D A [(h0, .inr (12, [.ref s0, .int 0, .int 0, .ref s3, .ref s4, .ref s5, .ref s6, .ref s7, .int 0, .int 0, .int 0, .int 0, .int 0, .int 0, .int 0, .ref s15, .int 0, .ref s17, .int 0, .ref s19, .ref s20, .int (-1), .int 0, .int 0, .int 0, .int 0, .int 0, .ref s27, .int 0, .ref s29, .ref s30, .ref s31, .int 0, .int 0, .int 0, .ref s35, .ref s36, .ref s37, .long 0, .ref s39, .ref s40, .ref s41, .ref s42])), (s20, .inl (k20, 100, .inl (fun _ => 0)))] := hD
  obtain rfl : r_1 = 0 := hw
  refine lv_if_eq (tgt := 17) hx hb dX12_dropped_4 (by decide) (fun _ => ?_) (fun c9 => absurd c9 (by decide))
  refine lv_iconst (v := (-1)) hx hb dX12_dropped_17 (by decide) ?_
  refine W.widen (k := 0) (n := 0) (Nat.le_of_ble_eq_true rfl) (Nat.le_of_ble_eq_true rfl) ?_
  exact W.iret (v := (-1)) hx hb hr (fun t ht hW => ⟨⟨(-1), (), rfl, rfl, trivial⟩, hS.F ht⟩) hS.2.2 dX12_dropped_18

set_option maxHeartbeats 4000000 in
set_option maxRecDepth 100000 in
/-- c_M_leftOut -/
theorem c_M_leftOut (l : Launch) (dC : Nat → ClassId) (dI : Nat → Nat → Nat) (sz : Nat) (h0 : Nat) (s0 : Nat) (s3 : Nat) (s4 : Nat) (s5 : Nat) (s6 : Nat) (s7 : Nat) (s15 : Nat) (s17 : Nat) (s19 : Nat) (s20 : Nat) (s27 : Nat) (s29 : Nat) (s30 : Nat) (s31 : Nat) (s35 : Nat) (s36 : Nat) (s37 : Nat) (s39 : Nat) (s40 : Nat) (s41 : Nat) (s42 : Nat) (k20 : ClassId) (x0 : Int32) (x1 : Int32) : Met l yX12_leftOut (.code yX12_leftOut cX12_leftOut 4 (some .int) :: wsA) ({ frames := 1, cells := 0, slots := 0, locals := 20 }) (va_Pc [.ref h0, .int x0, .int x1] (fun U => U.heap.size = sz ∧ va_P (dC, dI) classes [(h0, .inr (12, [.ref s0, .int 0, .int 0, .ref s3, .ref s4, .ref s5, .ref s6, .ref s7, .int 0, .int 0, .int 0, .int 0, .int 0, .int 0, .int 0, .ref s15, .int 0, .ref s17, .int 0, .ref s19, .ref s20, .int (-1), .int 0, .int 0, .int 0, .int 0, .int 0, .ref s27, .int 0, .ref s29, .ref s30, .ref s31, .int 0, .int 0, .int 0, .ref s35, .ref s36, .ref s37, .long 0, .ref s39, .ref s40, .ref s41, .ref s42])), (s20, .inl (k20, 100, .inl (fun _ => 0)))] U.heap ∧ va_K (dC, dI) classes [(k20, .int)] U ∧ va_D (fun _ => True) [(h0, .inr (12, [.ref s0, .int 0, .int 0, .ref s3, .ref s4, .ref s5, .ref s6, .ref s7, .int 0, .int 0, .int 0, .int 0, .int 0, .int 0, .int 0, .ref s15, .int 0, .ref s17, .int 0, .ref s19, .ref s20, .int (-1), .int 0, .int 0, .int 0, .int 0, .int 0, .ref s27, .int 0, .ref s29, .ref s30, .ref s31, .int 0, .int 0, .int 0, .ref s35, .ref s36, .ref s37, .long 0, .ref s39, .ref s40, .ref s41, .ref s42])), (s20, .inl (k20, 100, .inl (fun _ => 0)))] ∧ xE U)) (va_Qi (fun (r : Int32) (_ : Unit) => r = (-1)) (fun _ _ => True) (va_A [(h0, .inr (12, [.ref s0, .int 0, .int 0, .ref s3, .ref s4, .ref s5, .ref s6, .ref s7, .int 0, .int 0, .int 0, .int 0, .int 0, .int 0, .int 0, .ref s15, .int 0, .ref s17, .int 0, .ref s19, .ref s20, .int (-1), .int 0, .int 0, .int 0, .int 0, .int 0, .ref s27, .int 0, .ref s29, .ref s30, .ref s31, .int 0, .int 0, .int 0, .ref s35, .ref s36, .ref s37, .long 0, .ref s39, .ref s40, .ref s41, .ref s42])), (s20, .inl (k20, 100, .inl (fun _ => 0)))] sz)) 0 0 (va_A [(h0, .inr (12, [.ref s0, .int 0, .int 0, .ref s3, .ref s4, .ref s5, .ref s6, .ref s7, .int 0, .int 0, .int 0, .int 0, .int 0, .int 0, .int 0, .ref s15, .int 0, .ref s17, .int 0, .ref s19, .ref s20, .int (-1), .int 0, .int 0, .int 0, .int 0, .int 0, .ref s27, .int 0, .ref s29, .ref s30, .ref s31, .int 0, .int 0, .int 0, .ref s35, .ref s36, .ref s37, .long 0, .ref s39, .ref s40, .ref s41, .ref s42])), (s20, .inl (k20, 100, .inl (fun _ => 0)))] sz) := by
  refine Met.ofW (cc := cX12_leftOut) (maxL := 4) (ret := (some .int)) (by decide) rfl ?_
  intro p e s m args below meth c s₁ B hml hv
  obtain ⟨rfl, hsz, hP, hK, hD0, hE⟩ := hv
  have hx := B.exec
  have hb := B.bytes
  have hr := B.returns
  have hts := atoms_spec (ws := .code yX12_leftOut cX12_leftOut 4 (some .int) :: wsA) B.pre
  have hq : ∀ w ∈ wsA, w.before _ s = true := fun w h => hts w (List.mem_cons_of_mem _ h)
  have hown : s.vm.findClass RX12 = some m.cls := findClass_of_methodNamed B.named
  have hlocks := B.notSynchronized
  subst hsz
  have hD := hD0.self (sz := s.heap.size)
  generalize hAe : va_A [(h0, .inr (12, [.ref s0, .int 0, .int 0, .ref s3, .ref s4, .ref s5, .ref s6, .ref s7, .int 0, .int 0, .int 0, .int 0, .int 0, .int 0, .int 0, .ref s15, .int 0, .ref s17, .int 0, .ref s19, .ref s20, .int (-1), .int 0, .int 0, .int 0, .int 0, .int 0, .ref s27, .int 0, .ref s29, .ref s30, .ref s31, .int 0, .int 0, .int 0, .ref s35, .ref s36, .ref s37, .long 0, .ref s39, .ref s40, .ref s41, .ref s42])), (s20, .inl (k20, 100, .inl (fun _ => 0)))] s.heap.size = A at hD ⊢
  have hA : ∀ q : Nat, s.heap.size ≤ q → A q := fun q h => by rw [← hAe]; exact Or.inr h
  have hS : va_S A s.heap s.heap [] := va_S.rf
  have hl := lv_entry ([.ref h0, .int x0, .int x1]) (n := 4) (Nat.le_of_ble_eq_true rfl)
  rw [lg_entry_eq]
  generalize (lg_sl ([.ref h0, .int x0, .int x1]) ++ List.replicate (4 - (lg_sl ([.ref h0, .int x0, .int x1])).length) Slot.unset).toArray = ls at hl ⊢
  have hl : lv_has ls 4 [(0, .ref h0), (1, .int x0), (2, .int x1)] := hl
  refine lv_aload_n hx hb dX12_leftOut_0 rfl (lv_at hl 0 rfl) ?_
  have hPc := hP.sub (ws' := [(h0, .inr (12, [.ref s0, .int 0, .int 0, .ref s3, .ref s4, .ref s5, .ref s6, .ref s7, .int 0, .int 0, .int 0, .int 0, .int 0, .int 0, .int 0, .ref s15, .int 0, .ref s17, .int 0, .ref s19, .ref s20, .int (-1), .int 0, .int 0, .int 0, .int 0, .int 0, .ref s27, .int 0, .ref s29, .ref s30, .ref s31, .int 0, .int 0, .int 0, .ref s35, .ref s36, .ref s37, .long 0, .ref s39, .ref s40, .ref s41, .ref s42])), (s20, .inl (k20, 100, .inl (fun _ => 0)))]) [0, 1] rfl
  have hDc := hD.sub (ws' := [(h0, .inr (12, [.ref s0, .int 0, .int 0, .ref s3, .ref s4, .ref s5, .ref s6, .ref s7, .int 0, .int 0, .int 0, .int 0, .int 0, .int 0, .int 0, .ref s15, .int 0, .ref s17, .int 0, .ref s19, .ref s20, .int (-1), .int 0, .int 0, .int 0, .int 0, .int 0, .ref s27, .int 0, .ref s29, .ref s30, .ref s31, .int 0, .int 0, .int 0, .ref s35, .ref s36, .ref s37, .long 0, .ref s39, .ref s40, .ref s41, .ref s42])), (s20, .inl (k20, 100, .inl (fun _ => 0)))]) [0, 1] (by decide) rfl
  have hKc := hK.sub (tys' := [(k20, .int)]) [0] rfl
  have hFc := va_free (wc := [(h0, .inr (12, [.ref s0, .int 0, .int 0, .ref s3, .ref s4, .ref s5, .ref s6, .ref s7, .int 0, .int 0, .int 0, .int 0, .int 0, .int 0, .int 0, .ref s15, .int 0, .ref s17, .int 0, .ref s19, .ref s20, .int (-1), .int 0, .int 0, .int 0, .int 0, .int 0, .ref s27, .int 0, .ref s29, .ref s30, .ref s31, .int 0, .int 0, .int 0, .ref s35, .ref s36, .ref s37, .long 0, .ref s39, .ref s40, .ref s41, .ref s42])), (s20, .inl (k20, 100, .inl (fun _ => 0)))]) hD hS hA [0, 1] rfl
  refine va_calli (va_runV (As := []) (rest := []) ⟨hx, hb, hml, hown, hq⟩ (c_M_isDinner l dC dI _ h0 s0 s3 s4 s5 s6 s7 s15 s17 s19 s20 s27 s29 s30 s31 s35 s36 s37 s39 s40 s41 s42 k20 ) (cwV 0 hq (gV qw_1497 qw_1499 qw_76 qw_131 qw_1500) rfl rfl rfl (by decide +kernel) ⟨Nat.le_of_ble_eq_true rfl, Nat.le_of_ble_eq_true rfl⟩) ⟨fun a U g mk q => by obtain ⟨q0, q1, qP, qK, qD, qE⟩ := q; exact ⟨q0, q1, qP, va_K.moved (u := U) (U := U.calling g mk a) (Vm.Alike.refl U.vm) qK, qD, xE.same rfl qE⟩, va_recv hKc hPc (ci := 12) (q0 := 0) rfl rfl, fun U hU hW => ⟨rfl, by rw [hU], by rw [hU]; exact hPc, va_K.moved hW.alike hKc, hDc.weaken (fun _ _ _ _ => trivial), xE.warm hW hE⟩⟩ rfl rfl hl.1 rfl (lv_room (Nat.le_of_ble_eq_true rfl)) dX12_leftOut_1 ⟨Nat.le_of_ble_eq_true rfl, Nat.le_of_ble_eq_true rfl⟩) hS (fun q _ h => hFc q h) hFc (fun r_1 u t H1 locs ht hvm hw hB hz1 hk1 hS => ?_)
  obtain ⟨hP1, hK1, hD1⟩ := hB
  rw [ht] at hP1
  have hK1 := va_K.moved hvm.symm hK1
  obtain ⟨hP, hD⟩ := va_join (wr := []) (w1 := [(h0, .inr (12, [.ref s0, .int 0, .int 0, .ref s3, .ref s4, .ref s5, .ref s6, .ref s7, .int 0, .int 0, .int 0, .int 0, .int 0, .int 0, .int 0, .ref s15, .int 0, .ref s17, .int 0, .ref s19, .ref s20, .int (-1), .int 0, .int 0, .int 0, .int 0, .int 0, .ref s27, .int 0, .ref s29, .ref s30, .ref s31, .int 0, .int 0, .int 0, .ref s35, .ref s36, .ref s37, .long 0, .ref s39, .ref s40, .ref s41, .ref s42])), (s20, .inl (k20, 100, .inl (fun _ => 0)))]) hP hD [0, 1] [] rfl rfl (by decide) (by decide) hk1 hFc hP1 hD1
  generalize H1 = H at hP hS ⊢
  have hP : va_P (dC, dI) classes [(h0, .inr (12, [.ref s0, .int 0, .int 0, .ref s3, .ref s4, .ref s5, .ref s6, .ref s7, .int 0, .int 0, .int 0, .int 0, .int 0, .int 0, .int 0, .ref s15, .int 0, .ref s17, .int 0, .ref s19, .ref s20, .int (-1), .int 0, .int 0, .int 0, .int 0, .int 0, .ref s27, .int 0, .ref s29, .ref s30, .ref s31, .int 0, .int 0, .int 0, .ref s35, .ref s36, .ref s37, .long 0, .ref s39, .ref s40, .ref s41, .ref s42])), (s20, .inl (k20, 100, .inl (fun _ => 0)))] H := hP
  have hD : va_D A [(h0, .inr (12, [.ref s0, .int 0, .int 0, .ref s3, .ref s4, .ref s5, .ref s6, .ref s7, .int 0, .int 0, .int 0, .int 0, .int 0, .int 0, .int 0, .ref s15, .int 0, .ref s17, .int 0, .ref s19, .ref s20, .int (-1), .int 0, .int 0, .int 0, .int 0, .int 0, .ref s27, .int 0, .ref s29, .ref s30, .ref s31, .int 0, .int 0, .int 0, .ref s35, .ref s36, .ref s37, .long 0, .ref s39, .ref s40, .ref s41, .ref s42])), (s20, .inl (k20, 100, .inl (fun _ => 0)))] := hD
  obtain rfl : r_1 = 0 := hw
  refine lv_if_eq (tgt := 31) hx hb dX12_leftOut_4 (by decide) (fun _ => ?_) (fun c9 => absurd c9 (by decide))
  refine lv_iconst (v := (-1)) hx hb dX12_leftOut_31 (by decide) ?_
  refine W.widen (k := 0) (n := 0) (Nat.le_of_ble_eq_true rfl) (Nat.le_of_ble_eq_true rfl) ?_
  exact W.iret (v := (-1)) hx hb hr (fun t ht hW => ⟨⟨(-1), (), rfl, rfl, trivial⟩, hS.F ht⟩) hS.2.2 dX12_leftOut_32

set_option maxHeartbeats 4000000 in
set_option maxRecDepth 100000 in
/-- c_M_loudest -/
theorem c_M_loudest (l : Launch) (dC : Nat → ClassId) (dI : Nat → Nat → Nat) (sz : Nat) (h0 : Nat) (s0 : Nat) (s3 : Nat) (s4 : Nat) (s5 : Nat) (s6 : Nat) (s7 : Nat) (s15 : Nat) (s17 : Nat) (s19 : Nat) (s20 : Nat) (s27 : Nat) (s29 : Nat) (s30 : Nat) (s31 : Nat) (s35 : Nat) (s36 : Nat) (s37 : Nat) (s39 : Nat) (s40 : Nat) (s41 : Nat) (s42 : Nat) (k20 : ClassId) (x0 : Int32) (x1 : Int32) : Met l yX12_loudest (.code yX12_loudest cX12_loudest 6 (some .int) :: wsA) ({ frames := 1, cells := 0, slots := 0, locals := 20 }) (va_Pc [.ref h0, .int x0, .int x1] (fun U => U.heap.size = sz ∧ va_P (dC, dI) classes [(h0, .inr (12, [.ref s0, .int 0, .int 0, .ref s3, .ref s4, .ref s5, .ref s6, .ref s7, .int 0, .int 0, .int 0, .int 0, .int 0, .int 0, .int 0, .ref s15, .int 0, .ref s17, .int 0, .ref s19, .ref s20, .int (-1), .int 0, .int 0, .int 0, .int 0, .int 0, .ref s27, .int 0, .ref s29, .ref s30, .ref s31, .int 0, .int 0, .int 0, .ref s35, .ref s36, .ref s37, .long 0, .ref s39, .ref s40, .ref s41, .ref s42])), (s20, .inl (k20, 100, .inl (fun _ => 0)))] U.heap ∧ va_K (dC, dI) classes [(k20, .int)] U ∧ va_D (fun _ => True) [(h0, .inr (12, [.ref s0, .int 0, .int 0, .ref s3, .ref s4, .ref s5, .ref s6, .ref s7, .int 0, .int 0, .int 0, .int 0, .int 0, .int 0, .int 0, .ref s15, .int 0, .ref s17, .int 0, .ref s19, .ref s20, .int (-1), .int 0, .int 0, .int 0, .int 0, .int 0, .ref s27, .int 0, .ref s29, .ref s30, .ref s31, .int 0, .int 0, .int 0, .ref s35, .ref s36, .ref s37, .long 0, .ref s39, .ref s40, .ref s41, .ref s42])), (s20, .inl (k20, 100, .inl (fun _ => 0)))] ∧ xE U)) (va_Qi (fun (r : Int32) (_ : Unit) => r = (-1)) (fun _ _ => True) (va_A [(h0, .inr (12, [.ref s0, .int 0, .int 0, .ref s3, .ref s4, .ref s5, .ref s6, .ref s7, .int 0, .int 0, .int 0, .int 0, .int 0, .int 0, .int 0, .ref s15, .int 0, .ref s17, .int 0, .ref s19, .ref s20, .int (-1), .int 0, .int 0, .int 0, .int 0, .int 0, .ref s27, .int 0, .ref s29, .ref s30, .ref s31, .int 0, .int 0, .int 0, .ref s35, .ref s36, .ref s37, .long 0, .ref s39, .ref s40, .ref s41, .ref s42])), (s20, .inl (k20, 100, .inl (fun _ => 0)))] sz)) 0 0 (va_A [(h0, .inr (12, [.ref s0, .int 0, .int 0, .ref s3, .ref s4, .ref s5, .ref s6, .ref s7, .int 0, .int 0, .int 0, .int 0, .int 0, .int 0, .int 0, .ref s15, .int 0, .ref s17, .int 0, .ref s19, .ref s20, .int (-1), .int 0, .int 0, .int 0, .int 0, .int 0, .ref s27, .int 0, .ref s29, .ref s30, .ref s31, .int 0, .int 0, .int 0, .ref s35, .ref s36, .ref s37, .long 0, .ref s39, .ref s40, .ref s41, .ref s42])), (s20, .inl (k20, 100, .inl (fun _ => 0)))] sz) := by
  refine Met.ofW (cc := cX12_loudest) (maxL := 6) (ret := (some .int)) (by decide) rfl ?_
  intro p e s m args below meth c s₁ B hml hv
  obtain ⟨rfl, hsz, hP, hK, hD0, hE⟩ := hv
  have hx := B.exec
  have hb := B.bytes
  have hr := B.returns
  have hts := atoms_spec (ws := .code yX12_loudest cX12_loudest 6 (some .int) :: wsA) B.pre
  have hq : ∀ w ∈ wsA, w.before _ s = true := fun w h => hts w (List.mem_cons_of_mem _ h)
  have hown : s.vm.findClass RX12 = some m.cls := findClass_of_methodNamed B.named
  have hlocks := B.notSynchronized
  subst hsz
  have hD := hD0.self (sz := s.heap.size)
  generalize hAe : va_A [(h0, .inr (12, [.ref s0, .int 0, .int 0, .ref s3, .ref s4, .ref s5, .ref s6, .ref s7, .int 0, .int 0, .int 0, .int 0, .int 0, .int 0, .int 0, .ref s15, .int 0, .ref s17, .int 0, .ref s19, .ref s20, .int (-1), .int 0, .int 0, .int 0, .int 0, .int 0, .ref s27, .int 0, .ref s29, .ref s30, .ref s31, .int 0, .int 0, .int 0, .ref s35, .ref s36, .ref s37, .long 0, .ref s39, .ref s40, .ref s41, .ref s42])), (s20, .inl (k20, 100, .inl (fun _ => 0)))] s.heap.size = A at hD ⊢
  have hA : ∀ q : Nat, s.heap.size ≤ q → A q := fun q h => by rw [← hAe]; exact Or.inr h
  have hS : va_S A s.heap s.heap [] := va_S.rf
  have hl := lv_entry ([.ref h0, .int x0, .int x1]) (n := 6) (Nat.le_of_ble_eq_true rfl)
  rw [lg_entry_eq]
  generalize (lg_sl ([.ref h0, .int x0, .int x1]) ++ List.replicate (6 - (lg_sl ([.ref h0, .int x0, .int x1])).length) Slot.unset).toArray = ls at hl ⊢
  have hl : lv_has ls 6 [(0, .ref h0), (1, .int x0), (2, .int x1)] := hl
  refine lv_aload_n hx hb dX12_loudest_0 rfl (lv_at hl 0 rfl) ?_
  have hPc := hP.sub (ws' := [(h0, .inr (12, [.ref s0, .int 0, .int 0, .ref s3, .ref s4, .ref s5, .ref s6, .ref s7, .int 0, .int 0, .int 0, .int 0, .int 0, .int 0, .int 0, .ref s15, .int 0, .ref s17, .int 0, .ref s19, .ref s20, .int (-1), .int 0, .int 0, .int 0, .int 0, .int 0, .ref s27, .int 0, .ref s29, .ref s30, .ref s31, .int 0, .int 0, .int 0, .ref s35, .ref s36, .ref s37, .long 0, .ref s39, .ref s40, .ref s41, .ref s42])), (s20, .inl (k20, 100, .inl (fun _ => 0)))]) [0, 1] rfl
  have hDc := hD.sub (ws' := [(h0, .inr (12, [.ref s0, .int 0, .int 0, .ref s3, .ref s4, .ref s5, .ref s6, .ref s7, .int 0, .int 0, .int 0, .int 0, .int 0, .int 0, .int 0, .ref s15, .int 0, .ref s17, .int 0, .ref s19, .ref s20, .int (-1), .int 0, .int 0, .int 0, .int 0, .int 0, .ref s27, .int 0, .ref s29, .ref s30, .ref s31, .int 0, .int 0, .int 0, .ref s35, .ref s36, .ref s37, .long 0, .ref s39, .ref s40, .ref s41, .ref s42])), (s20, .inl (k20, 100, .inl (fun _ => 0)))]) [0, 1] (by decide) rfl
  have hKc := hK.sub (tys' := [(k20, .int)]) [0] rfl
  have hFc := va_free (wc := [(h0, .inr (12, [.ref s0, .int 0, .int 0, .ref s3, .ref s4, .ref s5, .ref s6, .ref s7, .int 0, .int 0, .int 0, .int 0, .int 0, .int 0, .int 0, .ref s15, .int 0, .ref s17, .int 0, .ref s19, .ref s20, .int (-1), .int 0, .int 0, .int 0, .int 0, .int 0, .ref s27, .int 0, .ref s29, .ref s30, .ref s31, .int 0, .int 0, .int 0, .ref s35, .ref s36, .ref s37, .long 0, .ref s39, .ref s40, .ref s41, .ref s42])), (s20, .inl (k20, 100, .inl (fun _ => 0)))]) hD hS hA [0, 1] rfl
  refine va_calli (va_runV (As := []) (rest := []) ⟨hx, hb, hml, hown, hq⟩ (c_M_isDinner l dC dI _ h0 s0 s3 s4 s5 s6 s7 s15 s17 s19 s20 s27 s29 s30 s31 s35 s36 s37 s39 s40 s41 s42 k20 ) (cwV 0 hq (gV qw_1497 qw_1499 qw_76 qw_131 qw_1500) rfl rfl rfl (by decide +kernel) ⟨Nat.le_of_ble_eq_true rfl, Nat.le_of_ble_eq_true rfl⟩) ⟨fun a U g mk q => by obtain ⟨q0, q1, qP, qK, qD, qE⟩ := q; exact ⟨q0, q1, qP, va_K.moved (u := U) (U := U.calling g mk a) (Vm.Alike.refl U.vm) qK, qD, xE.same rfl qE⟩, va_recv hKc hPc (ci := 12) (q0 := 0) rfl rfl, fun U hU hW => ⟨rfl, by rw [hU], by rw [hU]; exact hPc, va_K.moved hW.alike hKc, hDc.weaken (fun _ _ _ _ => trivial), xE.warm hW hE⟩⟩ rfl rfl hl.1 rfl (lv_room (Nat.le_of_ble_eq_true rfl)) dX12_loudest_1 ⟨Nat.le_of_ble_eq_true rfl, Nat.le_of_ble_eq_true rfl⟩) hS (fun q _ h => hFc q h) hFc (fun r_1 u t H1 locs ht hvm hw hB hz1 hk1 hS => ?_)
  obtain ⟨hP1, hK1, hD1⟩ := hB
  rw [ht] at hP1
  have hK1 := va_K.moved hvm.symm hK1
  obtain ⟨hP, hD⟩ := va_join (wr := []) (w1 := [(h0, .inr (12, [.ref s0, .int 0, .int 0, .ref s3, .ref s4, .ref s5, .ref s6, .ref s7, .int 0, .int 0, .int 0, .int 0, .int 0, .int 0, .int 0, .ref s15, .int 0, .ref s17, .int 0, .ref s19, .ref s20, .int (-1), .int 0, .int 0, .int 0, .int 0, .int 0, .ref s27, .int 0, .ref s29, .ref s30, .ref s31, .int 0, .int 0, .int 0, .ref s35, .ref s36, .ref s37, .long 0, .ref s39, .ref s40, .ref s41, .ref s42])), (s20, .inl (k20, 100, .inl (fun _ => 0)))]) hP hD [0, 1] [] rfl rfl (by decide) (by decide) hk1 hFc hP1 hD1
  generalize H1 = H at hP hS ⊢
  have hP : va_P (dC, dI) classes [(h0, .inr (12, [.ref s0, .int 0, .int 0, .ref s3, .ref s4, .ref s5, .ref s6, .ref s7, .int 0, .int 0, .int 0, .int 0, .int 0, .int 0, .int 0, .ref s15, .int 0, .ref s17, .int 0, .ref s19, .ref s20, .int (-1), .int 0, .int 0, .int 0, .int 0, .int 0, .ref s27, .int 0, .ref s29, .ref s30, .ref s31, .int 0, .int 0, .int 0, .ref s35, .ref s36, .ref s37, .long 0, .ref s39, .ref s40, .ref s41, .ref s42])), (s20, .inl (k20, 100, .inl (fun _ => 0)))] H := hP
  have hD : va_D A [(h0, .inr (12, [.ref s0, .int 0, .int 0, .ref s3, .ref s4, .ref s5, .ref s6, .ref s7, .int 0, .int 0, .int 0, .int 0, .int 0, .int 0, .int 0, .ref s15, .int 0, .ref s17, .int 0, .ref s19, .ref s20, .int (-1), .int 0, .int 0, .int 0, .int 0, .int 0, .ref s27, .int 0, .ref s29, .ref s30, .ref s31, .int 0, .int 0, .int 0, .ref s35, .ref s36, .ref s37, .long 0, .ref s39, .ref s40, .ref s41, .ref s42])), (s20, .inl (k20, 100, .inl (fun _ => 0)))] := hD
  obtain rfl : r_1 = 0 := hw
  refine lv_if_eq (tgt := 29) hx hb dX12_loudest_4 (by decide) (fun _ => ?_) (fun c9 => absurd c9 (by decide))
  refine lv_iconst (v := (-1)) hx hb dX12_loudest_29 (by decide) ?_
  refine W.widen (k := 0) (n := 0) (Nat.le_of_ble_eq_true rfl) (Nat.le_of_ble_eq_true rfl) ?_
  exact W.iret (v := (-1)) hx hb hr (fun t ht hW => ⟨⟨(-1), (), rfl, rfl, trivial⟩, hS.F ht⟩) hS.2.2 dX12_loudest_30

set_option maxHeartbeats 4000000 in
set_option maxRecDepth 100000 in
/-- c_M_ruled -/
theorem c_M_ruled (l : Launch) (dC : Nat → ClassId) (dI : Nat → Nat → Nat) (sz : Nat) (h0 : Nat) (s0 : Nat) (s3 : Nat) (s4 : Nat) (s5 : Nat) (s6 : Nat) (s7 : Nat) (s15 : Nat) (s17 : Nat) (s19 : Nat) (s20 : Nat) (s27 : Nat) (s29 : Nat) (s30 : Nat) (s31 : Nat) (s35 : Nat) (s36 : Nat) (s37 : Nat) (s39 : Nat) (s40 : Nat) (s41 : Nat) (s42 : Nat) (k20 : ClassId) (x0 : Int32) : Met l yX12_ruled (.code yX12_ruled cX12_ruled 5 (some .int) :: wsA) ({ frames := 1, cells := 0, slots := 0, locals := 20 }) (va_Pc [.ref h0, .int x0] (fun U => U.heap.size = sz ∧ va_P (dC, dI) classes [(h0, .inr (12, [.ref s0, .int 0, .int 0, .ref s3, .ref s4, .ref s5, .ref s6, .ref s7, .int 0, .int 0, .int 0, .int 0, .int 0, .int 0, .int 0, .ref s15, .int 0, .ref s17, .int 0, .ref s19, .ref s20, .int (-1), .int 0, .int 0, .int 0, .int 0, .int 0, .ref s27, .int 0, .ref s29, .ref s30, .ref s31, .int 0, .int 0, .int 0, .ref s35, .ref s36, .ref s37, .long 0, .ref s39, .ref s40, .ref s41, .ref s42])), (s20, .inl (k20, 100, .inl (fun _ => 0)))] U.heap ∧ va_K (dC, dI) classes [(k20, .int)] U ∧ va_D (fun _ => True) [(h0, .inr (12, [.ref s0, .int 0, .int 0, .ref s3, .ref s4, .ref s5, .ref s6, .ref s7, .int 0, .int 0, .int 0, .int 0, .int 0, .int 0, .int 0, .ref s15, .int 0, .ref s17, .int 0, .ref s19, .ref s20, .int (-1), .int 0, .int 0, .int 0, .int 0, .int 0, .ref s27, .int 0, .ref s29, .ref s30, .ref s31, .int 0, .int 0, .int 0, .ref s35, .ref s36, .ref s37, .long 0, .ref s39, .ref s40, .ref s41, .ref s42])), (s20, .inl (k20, 100, .inl (fun _ => 0)))] ∧ xE U)) (va_Qi (fun (r : Int32) (_ : Unit) => r = (-3)) (fun _ _ => True) (va_A [(h0, .inr (12, [.ref s0, .int 0, .int 0, .ref s3, .ref s4, .ref s5, .ref s6, .ref s7, .int 0, .int 0, .int 0, .int 0, .int 0, .int 0, .int 0, .ref s15, .int 0, .ref s17, .int 0, .ref s19, .ref s20, .int (-1), .int 0, .int 0, .int 0, .int 0, .int 0, .ref s27, .int 0, .ref s29, .ref s30, .ref s31, .int 0, .int 0, .int 0, .ref s35, .ref s36, .ref s37, .long 0, .ref s39, .ref s40, .ref s41, .ref s42])), (s20, .inl (k20, 100, .inl (fun _ => 0)))] sz)) 0 0 (va_A [(h0, .inr (12, [.ref s0, .int 0, .int 0, .ref s3, .ref s4, .ref s5, .ref s6, .ref s7, .int 0, .int 0, .int 0, .int 0, .int 0, .int 0, .int 0, .ref s15, .int 0, .ref s17, .int 0, .ref s19, .ref s20, .int (-1), .int 0, .int 0, .int 0, .int 0, .int 0, .ref s27, .int 0, .ref s29, .ref s30, .ref s31, .int 0, .int 0, .int 0, .ref s35, .ref s36, .ref s37, .long 0, .ref s39, .ref s40, .ref s41, .ref s42])), (s20, .inl (k20, 100, .inl (fun _ => 0)))] sz) := by
  refine Met.ofW (cc := cX12_ruled) (maxL := 5) (ret := (some .int)) (by decide) rfl ?_
  intro p e s m args below meth c s₁ B hml hv
  obtain ⟨rfl, hsz, hP, hK, hD0, hE⟩ := hv
  have hx := B.exec
  have hb := B.bytes
  have hr := B.returns
  have hts := atoms_spec (ws := .code yX12_ruled cX12_ruled 5 (some .int) :: wsA) B.pre
  have hq : ∀ w ∈ wsA, w.before _ s = true := fun w h => hts w (List.mem_cons_of_mem _ h)
  have hown : s.vm.findClass RX12 = some m.cls := findClass_of_methodNamed B.named
  have hlocks := B.notSynchronized
  subst hsz
  have hD := hD0.self (sz := s.heap.size)
  generalize hAe : va_A [(h0, .inr (12, [.ref s0, .int 0, .int 0, .ref s3, .ref s4, .ref s5, .ref s6, .ref s7, .int 0, .int 0, .int 0, .int 0, .int 0, .int 0, .int 0, .ref s15, .int 0, .ref s17, .int 0, .ref s19, .ref s20, .int (-1), .int 0, .int 0, .int 0, .int 0, .int 0, .ref s27, .int 0, .ref s29, .ref s30, .ref s31, .int 0, .int 0, .int 0, .ref s35, .ref s36, .ref s37, .long 0, .ref s39, .ref s40, .ref s41, .ref s42])), (s20, .inl (k20, 100, .inl (fun _ => 0)))] s.heap.size = A at hD ⊢
  have hA : ∀ q : Nat, s.heap.size ≤ q → A q := fun q h => by rw [← hAe]; exact Or.inr h
  have hS : va_S A s.heap s.heap [] := va_S.rf
  have hl := lv_entry ([.ref h0, .int x0]) (n := 5) (Nat.le_of_ble_eq_true rfl)
  rw [lg_entry_eq]
  generalize (lg_sl ([.ref h0, .int x0]) ++ List.replicate (5 - (lg_sl ([.ref h0, .int x0])).length) Slot.unset).toArray = ls at hl ⊢
  have hl : lv_has ls 5 [(0, .ref h0), (1, .int x0)] := hl
  refine lv_aload_n hx hb dX12_ruled_0 rfl (lv_at hl 0 rfl) ?_
  have hPc := hP.sub (ws' := [(h0, .inr (12, [.ref s0, .int 0, .int 0, .ref s3, .ref s4, .ref s5, .ref s6, .ref s7, .int 0, .int 0, .int 0, .int 0, .int 0, .int 0, .int 0, .ref s15, .int 0, .ref s17, .int 0, .ref s19, .ref s20, .int (-1), .int 0, .int 0, .int 0, .int 0, .int 0, .ref s27, .int 0, .ref s29, .ref s30, .ref s31, .int 0, .int 0, .int 0, .ref s35, .ref s36, .ref s37, .long 0, .ref s39, .ref s40, .ref s41, .ref s42])), (s20, .inl (k20, 100, .inl (fun _ => 0)))]) [0, 1] rfl
  have hDc := hD.sub (ws' := [(h0, .inr (12, [.ref s0, .int 0, .int 0, .ref s3, .ref s4, .ref s5, .ref s6, .ref s7, .int 0, .int 0, .int 0, .int 0, .int 0, .int 0, .int 0, .ref s15, .int 0, .ref s17, .int 0, .ref s19, .ref s20, .int (-1), .int 0, .int 0, .int 0, .int 0, .int 0, .ref s27, .int 0, .ref s29, .ref s30, .ref s31, .int 0, .int 0, .int 0, .ref s35, .ref s36, .ref s37, .long 0, .ref s39, .ref s40, .ref s41, .ref s42])), (s20, .inl (k20, 100, .inl (fun _ => 0)))]) [0, 1] (by decide) rfl
  have hKc := hK.sub (tys' := [(k20, .int)]) [0] rfl
  have hFc := va_free (wc := [(h0, .inr (12, [.ref s0, .int 0, .int 0, .ref s3, .ref s4, .ref s5, .ref s6, .ref s7, .int 0, .int 0, .int 0, .int 0, .int 0, .int 0, .int 0, .ref s15, .int 0, .ref s17, .int 0, .ref s19, .ref s20, .int (-1), .int 0, .int 0, .int 0, .int 0, .int 0, .ref s27, .int 0, .ref s29, .ref s30, .ref s31, .int 0, .int 0, .int 0, .ref s35, .ref s36, .ref s37, .long 0, .ref s39, .ref s40, .ref s41, .ref s42])), (s20, .inl (k20, 100, .inl (fun _ => 0)))]) hD hS hA [0, 1] rfl
  refine va_calli (va_runV (As := []) (rest := []) ⟨hx, hb, hml, hown, hq⟩ (c_M_isDinner l dC dI _ h0 s0 s3 s4 s5 s6 s7 s15 s17 s19 s20 s27 s29 s30 s31 s35 s36 s37 s39 s40 s41 s42 k20 ) (cwV 0 hq (gV qw_1497 qw_1499 qw_76 qw_131 qw_1500) rfl rfl rfl (by decide +kernel) ⟨Nat.le_of_ble_eq_true rfl, Nat.le_of_ble_eq_true rfl⟩) ⟨fun a U g mk q => by obtain ⟨q0, q1, qP, qK, qD, qE⟩ := q; exact ⟨q0, q1, qP, va_K.moved (u := U) (U := U.calling g mk a) (Vm.Alike.refl U.vm) qK, qD, xE.same rfl qE⟩, va_recv hKc hPc (ci := 12) (q0 := 0) rfl rfl, fun U hU hW => ⟨rfl, by rw [hU], by rw [hU]; exact hPc, va_K.moved hW.alike hKc, hDc.weaken (fun _ _ _ _ => trivial), xE.warm hW hE⟩⟩ rfl rfl hl.1 rfl (lv_room (Nat.le_of_ble_eq_true rfl)) dX12_ruled_1 ⟨Nat.le_of_ble_eq_true rfl, Nat.le_of_ble_eq_true rfl⟩) hS (fun q _ h => hFc q h) hFc (fun r_1 u t H1 locs ht hvm hw hB hz1 hk1 hS => ?_)
  obtain ⟨hP1, hK1, hD1⟩ := hB
  rw [ht] at hP1
  have hK1 := va_K.moved hvm.symm hK1
  obtain ⟨hP, hD⟩ := va_join (wr := []) (w1 := [(h0, .inr (12, [.ref s0, .int 0, .int 0, .ref s3, .ref s4, .ref s5, .ref s6, .ref s7, .int 0, .int 0, .int 0, .int 0, .int 0, .int 0, .int 0, .ref s15, .int 0, .ref s17, .int 0, .ref s19, .ref s20, .int (-1), .int 0, .int 0, .int 0, .int 0, .int 0, .ref s27, .int 0, .ref s29, .ref s30, .ref s31, .int 0, .int 0, .int 0, .ref s35, .ref s36, .ref s37, .long 0, .ref s39, .ref s40, .ref s41, .ref s42])), (s20, .inl (k20, 100, .inl (fun _ => 0)))]) hP hD [0, 1] [] rfl rfl (by decide) (by decide) hk1 hFc hP1 hD1
  generalize H1 = H at hP hS ⊢
  have hP : va_P (dC, dI) classes [(h0, .inr (12, [.ref s0, .int 0, .int 0, .ref s3, .ref s4, .ref s5, .ref s6, .ref s7, .int 0, .int 0, .int 0, .int 0, .int 0, .int 0, .int 0, .ref s15, .int 0, .ref s17, .int 0, .ref s19, .ref s20, .int (-1), .int 0, .int 0, .int 0, .int 0, .int 0, .ref s27, .int 0, .ref s29, .ref s30, .ref s31, .int 0, .int 0, .int 0, .ref s35, .ref s36, .ref s37, .long 0, .ref s39, .ref s40, .ref s41, .ref s42])), (s20, .inl (k20, 100, .inl (fun _ => 0)))] H := hP
  have hD : va_D A [(h0, .inr (12, [.ref s0, .int 0, .int 0, .ref s3, .ref s4, .ref s5, .ref s6, .ref s7, .int 0, .int 0, .int 0, .int 0, .int 0, .int 0, .int 0, .ref s15, .int 0, .ref s17, .int 0, .ref s19, .ref s20, .int (-1), .int 0, .int 0, .int 0, .int 0, .int 0, .ref s27, .int 0, .ref s29, .ref s30, .ref s31, .int 0, .int 0, .int 0, .ref s35, .ref s36, .ref s37, .long 0, .ref s39, .ref s40, .ref s41, .ref s42])), (s20, .inl (k20, 100, .inl (fun _ => 0)))] := hD
  obtain rfl : r_1 = 0 := hw
  refine lv_if_eq (tgt := 17) hx hb dX12_ruled_4 (by decide) (fun _ => ?_) (fun c9 => absurd c9 (by decide))
  refine lv_bipush (v := (-3)) hx hb dX12_ruled_17 (by decide) ?_
  refine W.widen (k := 0) (n := 0) (Nat.le_of_ble_eq_true rfl) (Nat.le_of_ble_eq_true rfl) ?_
  exact W.iret (v := (-3)) hx hb hr (fun t ht hW => ⟨⟨(-3), (), rfl, rfl, trivial⟩, hS.F ht⟩) hS.2.2 dX12_ruled_19

set_option maxHeartbeats 4000000 in
set_option maxRecDepth 100000 in
/-- c_M_look -/
theorem c_M_look (l : Launch) (dC : Nat → ClassId) (dI : Nat → Nat → Nat) (sz : Nat) (h0 : Nat) (s0 : Nat) (s3 : Nat) (s4 : Nat) (s5 : Nat) (s6 : Nat) (s7 : Nat) (s15 : Nat) (s17 : Nat) (s19 : Nat) (s20 : Nat) (s27 : Nat) (s29 : Nat) (s30 : Nat) (s31 : Nat) (s35 : Nat) (s36 : Nat) (s37 : Nat) (s39 : Nat) (s40 : Nat) (s41 : Nat) (s42 : Nat) (k20 : ClassId) (x0 : Int32) (x1 : Int32) : Met l yX12_look (.code yX12_look cX12_look 7 (some .int) :: wsA) ({ frames := 1, cells := 0, slots := 0, locals := 20 }) (va_Pc [.ref h0, .int x0, .int x1] (fun U => U.heap.size = sz ∧ va_P (dC, dI) classes [(h0, .inr (12, [.ref s0, .int 0, .int 0, .ref s3, .ref s4, .ref s5, .ref s6, .ref s7, .int 0, .int 0, .int 0, .int 0, .int 0, .int 0, .int 0, .ref s15, .int 0, .ref s17, .int 0, .ref s19, .ref s20, .int (-1), .int 0, .int 0, .int 0, .int 0, .int 0, .ref s27, .int 0, .ref s29, .ref s30, .ref s31, .int 0, .int 0, .int 0, .ref s35, .ref s36, .ref s37, .long 0, .ref s39, .ref s40, .ref s41, .ref s42])), (s20, .inl (k20, 100, .inl (fun _ => 0)))] U.heap ∧ va_K (dC, dI) classes [(k20, .int)] U ∧ va_D (fun _ => True) [(h0, .inr (12, [.ref s0, .int 0, .int 0, .ref s3, .ref s4, .ref s5, .ref s6, .ref s7, .int 0, .int 0, .int 0, .int 0, .int 0, .int 0, .int 0, .ref s15, .int 0, .ref s17, .int 0, .ref s19, .ref s20, .int (-1), .int 0, .int 0, .int 0, .int 0, .int 0, .ref s27, .int 0, .ref s29, .ref s30, .ref s31, .int 0, .int 0, .int 0, .ref s35, .ref s36, .ref s37, .long 0, .ref s39, .ref s40, .ref s41, .ref s42])), (s20, .inl (k20, 100, .inl (fun _ => 0)))] ∧ xE U)) (va_Qi (fun (r : Int32) (_ : Unit) => r = (-1)) (fun _ _ => True) (va_A [(h0, .inr (12, [.ref s0, .int 0, .int 0, .ref s3, .ref s4, .ref s5, .ref s6, .ref s7, .int 0, .int 0, .int 0, .int 0, .int 0, .int 0, .int 0, .ref s15, .int 0, .ref s17, .int 0, .ref s19, .ref s20, .int (-1), .int 0, .int 0, .int 0, .int 0, .int 0, .ref s27, .int 0, .ref s29, .ref s30, .ref s31, .int 0, .int 0, .int 0, .ref s35, .ref s36, .ref s37, .long 0, .ref s39, .ref s40, .ref s41, .ref s42])), (s20, .inl (k20, 100, .inl (fun _ => 0)))] sz)) 0 0 (va_A [(h0, .inr (12, [.ref s0, .int 0, .int 0, .ref s3, .ref s4, .ref s5, .ref s6, .ref s7, .int 0, .int 0, .int 0, .int 0, .int 0, .int 0, .int 0, .ref s15, .int 0, .ref s17, .int 0, .ref s19, .ref s20, .int (-1), .int 0, .int 0, .int 0, .int 0, .int 0, .ref s27, .int 0, .ref s29, .ref s30, .ref s31, .int 0, .int 0, .int 0, .ref s35, .ref s36, .ref s37, .long 0, .ref s39, .ref s40, .ref s41, .ref s42])), (s20, .inl (k20, 100, .inl (fun _ => 0)))] sz) := by
  refine Met.ofW (cc := cX12_look) (maxL := 7) (ret := (some .int)) (by decide) rfl ?_
  intro p e s m args below meth c s₁ B hml hv
  obtain ⟨rfl, hsz, hP, hK, hD0, hE⟩ := hv
  have hx := B.exec
  have hb := B.bytes
  have hr := B.returns
  have hts := atoms_spec (ws := .code yX12_look cX12_look 7 (some .int) :: wsA) B.pre
  have hq : ∀ w ∈ wsA, w.before _ s = true := fun w h => hts w (List.mem_cons_of_mem _ h)
  have hown : s.vm.findClass RX12 = some m.cls := findClass_of_methodNamed B.named
  have hlocks := B.notSynchronized
  subst hsz
  have hD := hD0.self (sz := s.heap.size)
  generalize hAe : va_A [(h0, .inr (12, [.ref s0, .int 0, .int 0, .ref s3, .ref s4, .ref s5, .ref s6, .ref s7, .int 0, .int 0, .int 0, .int 0, .int 0, .int 0, .int 0, .ref s15, .int 0, .ref s17, .int 0, .ref s19, .ref s20, .int (-1), .int 0, .int 0, .int 0, .int 0, .int 0, .ref s27, .int 0, .ref s29, .ref s30, .ref s31, .int 0, .int 0, .int 0, .ref s35, .ref s36, .ref s37, .long 0, .ref s39, .ref s40, .ref s41, .ref s42])), (s20, .inl (k20, 100, .inl (fun _ => 0)))] s.heap.size = A at hD ⊢
  have hA : ∀ q : Nat, s.heap.size ≤ q → A q := fun q h => by rw [← hAe]; exact Or.inr h
  have hS : va_S A s.heap s.heap [] := va_S.rf
  have hl := lv_entry ([.ref h0, .int x0, .int x1]) (n := 7) (Nat.le_of_ble_eq_true rfl)
  rw [lg_entry_eq]
  generalize (lg_sl ([.ref h0, .int x0, .int x1]) ++ List.replicate (7 - (lg_sl ([.ref h0, .int x0, .int x1])).length) Slot.unset).toArray = ls at hl ⊢
  have hl : lv_has ls 7 [(0, .ref h0), (1, .int x0), (2, .int x1)] := hl
  refine lv_aload_n hx hb dX12_look_0 rfl (lv_at hl 0 rfl) ?_
  have hPc := hP.sub (ws' := [(h0, .inr (12, [.ref s0, .int 0, .int 0, .ref s3, .ref s4, .ref s5, .ref s6, .ref s7, .int 0, .int 0, .int 0, .int 0, .int 0, .int 0, .int 0, .ref s15, .int 0, .ref s17, .int 0, .ref s19, .ref s20, .int (-1), .int 0, .int 0, .int 0, .int 0, .int 0, .ref s27, .int 0, .ref s29, .ref s30, .ref s31, .int 0, .int 0, .int 0, .ref s35, .ref s36, .ref s37, .long 0, .ref s39, .ref s40, .ref s41, .ref s42])), (s20, .inl (k20, 100, .inl (fun _ => 0)))]) [0, 1] rfl
  have hDc := hD.sub (ws' := [(h0, .inr (12, [.ref s0, .int 0, .int 0, .ref s3, .ref s4, .ref s5, .ref s6, .ref s7, .int 0, .int 0, .int 0, .int 0, .int 0, .int 0, .int 0, .ref s15, .int 0, .ref s17, .int 0, .ref s19, .ref s20, .int (-1), .int 0, .int 0, .int 0, .int 0, .int 0, .ref s27, .int 0, .ref s29, .ref s30, .ref s31, .int 0, .int 0, .int 0, .ref s35, .ref s36, .ref s37, .long 0, .ref s39, .ref s40, .ref s41, .ref s42])), (s20, .inl (k20, 100, .inl (fun _ => 0)))]) [0, 1] (by decide) rfl
  have hKc := hK.sub (tys' := [(k20, .int)]) [0] rfl
  have hFc := va_free (wc := [(h0, .inr (12, [.ref s0, .int 0, .int 0, .ref s3, .ref s4, .ref s5, .ref s6, .ref s7, .int 0, .int 0, .int 0, .int 0, .int 0, .int 0, .int 0, .ref s15, .int 0, .ref s17, .int 0, .ref s19, .ref s20, .int (-1), .int 0, .int 0, .int 0, .int 0, .int 0, .ref s27, .int 0, .ref s29, .ref s30, .ref s31, .int 0, .int 0, .int 0, .ref s35, .ref s36, .ref s37, .long 0, .ref s39, .ref s40, .ref s41, .ref s42])), (s20, .inl (k20, 100, .inl (fun _ => 0)))]) hD hS hA [0, 1] rfl
  refine va_calli (va_runV (As := []) (rest := []) ⟨hx, hb, hml, hown, hq⟩ (c_M_isDinner l dC dI _ h0 s0 s3 s4 s5 s6 s7 s15 s17 s19 s20 s27 s29 s30 s31 s35 s36 s37 s39 s40 s41 s42 k20 ) (cwV 0 hq (gV qw_1497 qw_1499 qw_76 qw_131 qw_1500) rfl rfl rfl (by decide +kernel) ⟨Nat.le_of_ble_eq_true rfl, Nat.le_of_ble_eq_true rfl⟩) ⟨fun a U g mk q => by obtain ⟨q0, q1, qP, qK, qD, qE⟩ := q; exact ⟨q0, q1, qP, va_K.moved (u := U) (U := U.calling g mk a) (Vm.Alike.refl U.vm) qK, qD, xE.same rfl qE⟩, va_recv hKc hPc (ci := 12) (q0 := 0) rfl rfl, fun U hU hW => ⟨rfl, by rw [hU], by rw [hU]; exact hPc, va_K.moved hW.alike hKc, hDc.weaken (fun _ _ _ _ => trivial), xE.warm hW hE⟩⟩ rfl rfl hl.1 rfl (lv_room (Nat.le_of_ble_eq_true rfl)) dX12_look_1 ⟨Nat.le_of_ble_eq_true rfl, Nat.le_of_ble_eq_true rfl⟩) hS (fun q _ h => hFc q h) hFc (fun r_1 u t H1 locs ht hvm hw hB hz1 hk1 hS => ?_)
  obtain ⟨hP1, hK1, hD1⟩ := hB
  rw [ht] at hP1
  have hK1 := va_K.moved hvm.symm hK1
  obtain ⟨hP, hD⟩ := va_join (wr := []) (w1 := [(h0, .inr (12, [.ref s0, .int 0, .int 0, .ref s3, .ref s4, .ref s5, .ref s6, .ref s7, .int 0, .int 0, .int 0, .int 0, .int 0, .int 0, .int 0, .ref s15, .int 0, .ref s17, .int 0, .ref s19, .ref s20, .int (-1), .int 0, .int 0, .int 0, .int 0, .int 0, .ref s27, .int 0, .ref s29, .ref s30, .ref s31, .int 0, .int 0, .int 0, .ref s35, .ref s36, .ref s37, .long 0, .ref s39, .ref s40, .ref s41, .ref s42])), (s20, .inl (k20, 100, .inl (fun _ => 0)))]) hP hD [0, 1] [] rfl rfl (by decide) (by decide) hk1 hFc hP1 hD1
  generalize H1 = H at hP hS ⊢
  have hP : va_P (dC, dI) classes [(h0, .inr (12, [.ref s0, .int 0, .int 0, .ref s3, .ref s4, .ref s5, .ref s6, .ref s7, .int 0, .int 0, .int 0, .int 0, .int 0, .int 0, .int 0, .ref s15, .int 0, .ref s17, .int 0, .ref s19, .ref s20, .int (-1), .int 0, .int 0, .int 0, .int 0, .int 0, .ref s27, .int 0, .ref s29, .ref s30, .ref s31, .int 0, .int 0, .int 0, .ref s35, .ref s36, .ref s37, .long 0, .ref s39, .ref s40, .ref s41, .ref s42])), (s20, .inl (k20, 100, .inl (fun _ => 0)))] H := hP
  have hD : va_D A [(h0, .inr (12, [.ref s0, .int 0, .int 0, .ref s3, .ref s4, .ref s5, .ref s6, .ref s7, .int 0, .int 0, .int 0, .int 0, .int 0, .int 0, .int 0, .ref s15, .int 0, .ref s17, .int 0, .ref s19, .ref s20, .int (-1), .int 0, .int 0, .int 0, .int 0, .int 0, .ref s27, .int 0, .ref s29, .ref s30, .ref s31, .int 0, .int 0, .int 0, .ref s35, .ref s36, .ref s37, .long 0, .ref s39, .ref s40, .ref s41, .ref s42])), (s20, .inl (k20, 100, .inl (fun _ => 0)))] := hD
  obtain rfl : r_1 = 0 := hw
  refine lv_if_eq (tgt := 29) hx hb dX12_look_4 (by decide) (fun _ => ?_) (fun c9 => absurd c9 (by decide))
  refine lv_iconst (v := (-1)) hx hb dX12_look_29 (by decide) ?_
  refine W.widen (k := 0) (n := 0) (Nat.le_of_ble_eq_true rfl) (Nat.le_of_ble_eq_true rfl) ?_
  exact W.iret (v := (-1)) hx hb hr (fun t ht hW => ⟨⟨(-1), (), rfl, rfl, trivial⟩, hS.F ht⟩) hS.2.2 dX12_look_30

set_option maxHeartbeats 4000000 in
set_option maxRecDepth 100000 in
/-- c_M_hiccups -/
theorem c_M_hiccups (l : Launch) (dC : Nat → ClassId) (dI : Nat → Nat → Nat) (sz : Nat) (h0 : Nat) (s0 : Nat) (s3 : Nat) (s4 : Nat) (s5 : Nat) (s6 : Nat) (s7 : Nat) (s15 : Nat) (s17 : Nat) (s19 : Nat) (s20 : Nat) (s27 : Nat) (s29 : Nat) (s30 : Nat) (s31 : Nat) (s35 : Nat) (s36 : Nat) (s37 : Nat) (s39 : Nat) (s40 : Nat) (s41 : Nat) (s42 : Nat) (k20 : ClassId) (x0 : Int32) (x1 : Int32) (x2 : Int32) (x3 : Int32) : Met l yX12_hiccups (.code yX12_hiccups cX12_hiccups 9 (some .int) :: wsA) ({ frames := 1, cells := 0, slots := 0, locals := 20 }) (va_Pc [.ref h0, .int x0, .int x1, .int x2, .int x3] (fun U => U.heap.size = sz ∧ va_P (dC, dI) classes [(h0, .inr (12, [.ref s0, .int 0, .int 0, .ref s3, .ref s4, .ref s5, .ref s6, .ref s7, .int 0, .int 0, .int 0, .int 0, .int 0, .int 0, .int 0, .ref s15, .int 0, .ref s17, .int 0, .ref s19, .ref s20, .int (-1), .int 0, .int 0, .int 0, .int 0, .int 0, .ref s27, .int 0, .ref s29, .ref s30, .ref s31, .int 0, .int 0, .int 0, .ref s35, .ref s36, .ref s37, .long 0, .ref s39, .ref s40, .ref s41, .ref s42])), (s20, .inl (k20, 100, .inl (fun _ => 0)))] U.heap ∧ va_K (dC, dI) classes [(k20, .int)] U ∧ va_D (fun _ => True) [(h0, .inr (12, [.ref s0, .int 0, .int 0, .ref s3, .ref s4, .ref s5, .ref s6, .ref s7, .int 0, .int 0, .int 0, .int 0, .int 0, .int 0, .int 0, .ref s15, .int 0, .ref s17, .int 0, .ref s19, .ref s20, .int (-1), .int 0, .int 0, .int 0, .int 0, .int 0, .ref s27, .int 0, .ref s29, .ref s30, .ref s31, .int 0, .int 0, .int 0, .ref s35, .ref s36, .ref s37, .long 0, .ref s39, .ref s40, .ref s41, .ref s42])), (s20, .inl (k20, 100, .inl (fun _ => 0)))] ∧ xE U)) (va_Qi (fun (r : Int32) (_ : Unit) => r = (-1)) (fun _ _ => True) (va_A [(h0, .inr (12, [.ref s0, .int 0, .int 0, .ref s3, .ref s4, .ref s5, .ref s6, .ref s7, .int 0, .int 0, .int 0, .int 0, .int 0, .int 0, .int 0, .ref s15, .int 0, .ref s17, .int 0, .ref s19, .ref s20, .int (-1), .int 0, .int 0, .int 0, .int 0, .int 0, .ref s27, .int 0, .ref s29, .ref s30, .ref s31, .int 0, .int 0, .int 0, .ref s35, .ref s36, .ref s37, .long 0, .ref s39, .ref s40, .ref s41, .ref s42])), (s20, .inl (k20, 100, .inl (fun _ => 0)))] sz)) 0 0 (va_A [(h0, .inr (12, [.ref s0, .int 0, .int 0, .ref s3, .ref s4, .ref s5, .ref s6, .ref s7, .int 0, .int 0, .int 0, .int 0, .int 0, .int 0, .int 0, .ref s15, .int 0, .ref s17, .int 0, .ref s19, .ref s20, .int (-1), .int 0, .int 0, .int 0, .int 0, .int 0, .ref s27, .int 0, .ref s29, .ref s30, .ref s31, .int 0, .int 0, .int 0, .ref s35, .ref s36, .ref s37, .long 0, .ref s39, .ref s40, .ref s41, .ref s42])), (s20, .inl (k20, 100, .inl (fun _ => 0)))] sz) := by
  refine Met.ofW (cc := cX12_hiccups) (maxL := 9) (ret := (some .int)) (by decide) rfl ?_
  intro p e s m args below meth c s₁ B hml hv
  obtain ⟨rfl, hsz, hP, hK, hD0, hE⟩ := hv
  have hx := B.exec
  have hb := B.bytes
  have hr := B.returns
  have hts := atoms_spec (ws := .code yX12_hiccups cX12_hiccups 9 (some .int) :: wsA) B.pre
  have hq : ∀ w ∈ wsA, w.before _ s = true := fun w h => hts w (List.mem_cons_of_mem _ h)
  have hown : s.vm.findClass RX12 = some m.cls := findClass_of_methodNamed B.named
  have hlocks := B.notSynchronized
  subst hsz
  have hD := hD0.self (sz := s.heap.size)
  generalize hAe : va_A [(h0, .inr (12, [.ref s0, .int 0, .int 0, .ref s3, .ref s4, .ref s5, .ref s6, .ref s7, .int 0, .int 0, .int 0, .int 0, .int 0, .int 0, .int 0, .ref s15, .int 0, .ref s17, .int 0, .ref s19, .ref s20, .int (-1), .int 0, .int 0, .int 0, .int 0, .int 0, .ref s27, .int 0, .ref s29, .ref s30, .ref s31, .int 0, .int 0, .int 0, .ref s35, .ref s36, .ref s37, .long 0, .ref s39, .ref s40, .ref s41, .ref s42])), (s20, .inl (k20, 100, .inl (fun _ => 0)))] s.heap.size = A at hD ⊢
  have hA : ∀ q : Nat, s.heap.size ≤ q → A q := fun q h => by rw [← hAe]; exact Or.inr h
  have hS : va_S A s.heap s.heap [] := va_S.rf
  have hl := lv_entry ([.ref h0, .int x0, .int x1, .int x2, .int x3]) (n := 9) (Nat.le_of_ble_eq_true rfl)
  rw [lg_entry_eq]
  generalize (lg_sl ([.ref h0, .int x0, .int x1, .int x2, .int x3]) ++ List.replicate (9 - (lg_sl ([.ref h0, .int x0, .int x1, .int x2, .int x3])).length) Slot.unset).toArray = ls at hl ⊢
  have hl : lv_has ls 9 [(0, .ref h0), (1, .int x0), (2, .int x1), (3, .int x2), (4, .int x3)] := hl
  refine lv_aload_n hx hb dX12_hiccups_0 rfl (lv_at hl 0 rfl) ?_
  have hPc := hP.sub (ws' := [(h0, .inr (12, [.ref s0, .int 0, .int 0, .ref s3, .ref s4, .ref s5, .ref s6, .ref s7, .int 0, .int 0, .int 0, .int 0, .int 0, .int 0, .int 0, .ref s15, .int 0, .ref s17, .int 0, .ref s19, .ref s20, .int (-1), .int 0, .int 0, .int 0, .int 0, .int 0, .ref s27, .int 0, .ref s29, .ref s30, .ref s31, .int 0, .int 0, .int 0, .ref s35, .ref s36, .ref s37, .long 0, .ref s39, .ref s40, .ref s41, .ref s42])), (s20, .inl (k20, 100, .inl (fun _ => 0)))]) [0, 1] rfl
  have hDc := hD.sub (ws' := [(h0, .inr (12, [.ref s0, .int 0, .int 0, .ref s3, .ref s4, .ref s5, .ref s6, .ref s7, .int 0, .int 0, .int 0, .int 0, .int 0, .int 0, .int 0, .ref s15, .int 0, .ref s17, .int 0, .ref s19, .ref s20, .int (-1), .int 0, .int 0, .int 0, .int 0, .int 0, .ref s27, .int 0, .ref s29, .ref s30, .ref s31, .int 0, .int 0, .int 0, .ref s35, .ref s36, .ref s37, .long 0, .ref s39, .ref s40, .ref s41, .ref s42])), (s20, .inl (k20, 100, .inl (fun _ => 0)))]) [0, 1] (by decide) rfl
  have hKc := hK.sub (tys' := [(k20, .int)]) [0] rfl
  have hFc := va_free (wc := [(h0, .inr (12, [.ref s0, .int 0, .int 0, .ref s3, .ref s4, .ref s5, .ref s6, .ref s7, .int 0, .int 0, .int 0, .int 0, .int 0, .int 0, .int 0, .ref s15, .int 0, .ref s17, .int 0, .ref s19, .ref s20, .int (-1), .int 0, .int 0, .int 0, .int 0, .int 0, .ref s27, .int 0, .ref s29, .ref s30, .ref s31, .int 0, .int 0, .int 0, .ref s35, .ref s36, .ref s37, .long 0, .ref s39, .ref s40, .ref s41, .ref s42])), (s20, .inl (k20, 100, .inl (fun _ => 0)))]) hD hS hA [0, 1] rfl
  refine va_calli (va_runV (As := []) (rest := []) ⟨hx, hb, hml, hown, hq⟩ (c_M_isDinner l dC dI _ h0 s0 s3 s4 s5 s6 s7 s15 s17 s19 s20 s27 s29 s30 s31 s35 s36 s37 s39 s40 s41 s42 k20 ) (cwV 0 hq (gV qw_1497 qw_1499 qw_76 qw_131 qw_1500) rfl rfl rfl (by decide +kernel) ⟨Nat.le_of_ble_eq_true rfl, Nat.le_of_ble_eq_true rfl⟩) ⟨fun a U g mk q => by obtain ⟨q0, q1, qP, qK, qD, qE⟩ := q; exact ⟨q0, q1, qP, va_K.moved (u := U) (U := U.calling g mk a) (Vm.Alike.refl U.vm) qK, qD, xE.same rfl qE⟩, va_recv hKc hPc (ci := 12) (q0 := 0) rfl rfl, fun U hU hW => ⟨rfl, by rw [hU], by rw [hU]; exact hPc, va_K.moved hW.alike hKc, hDc.weaken (fun _ _ _ _ => trivial), xE.warm hW hE⟩⟩ rfl rfl hl.1 rfl (lv_room (Nat.le_of_ble_eq_true rfl)) dX12_hiccups_1 ⟨Nat.le_of_ble_eq_true rfl, Nat.le_of_ble_eq_true rfl⟩) hS (fun q _ h => hFc q h) hFc (fun r_1 u t H1 locs ht hvm hw hB hz1 hk1 hS => ?_)
  obtain ⟨hP1, hK1, hD1⟩ := hB
  rw [ht] at hP1
  have hK1 := va_K.moved hvm.symm hK1
  obtain ⟨hP, hD⟩ := va_join (wr := []) (w1 := [(h0, .inr (12, [.ref s0, .int 0, .int 0, .ref s3, .ref s4, .ref s5, .ref s6, .ref s7, .int 0, .int 0, .int 0, .int 0, .int 0, .int 0, .int 0, .ref s15, .int 0, .ref s17, .int 0, .ref s19, .ref s20, .int (-1), .int 0, .int 0, .int 0, .int 0, .int 0, .ref s27, .int 0, .ref s29, .ref s30, .ref s31, .int 0, .int 0, .int 0, .ref s35, .ref s36, .ref s37, .long 0, .ref s39, .ref s40, .ref s41, .ref s42])), (s20, .inl (k20, 100, .inl (fun _ => 0)))]) hP hD [0, 1] [] rfl rfl (by decide) (by decide) hk1 hFc hP1 hD1
  generalize H1 = H at hP hS ⊢
  have hP : va_P (dC, dI) classes [(h0, .inr (12, [.ref s0, .int 0, .int 0, .ref s3, .ref s4, .ref s5, .ref s6, .ref s7, .int 0, .int 0, .int 0, .int 0, .int 0, .int 0, .int 0, .ref s15, .int 0, .ref s17, .int 0, .ref s19, .ref s20, .int (-1), .int 0, .int 0, .int 0, .int 0, .int 0, .ref s27, .int 0, .ref s29, .ref s30, .ref s31, .int 0, .int 0, .int 0, .ref s35, .ref s36, .ref s37, .long 0, .ref s39, .ref s40, .ref s41, .ref s42])), (s20, .inl (k20, 100, .inl (fun _ => 0)))] H := hP
  have hD : va_D A [(h0, .inr (12, [.ref s0, .int 0, .int 0, .ref s3, .ref s4, .ref s5, .ref s6, .ref s7, .int 0, .int 0, .int 0, .int 0, .int 0, .int 0, .int 0, .ref s15, .int 0, .ref s17, .int 0, .ref s19, .ref s20, .int (-1), .int 0, .int 0, .int 0, .int 0, .int 0, .ref s27, .int 0, .ref s29, .ref s30, .ref s31, .int 0, .int 0, .int 0, .ref s35, .ref s36, .ref s37, .long 0, .ref s39, .ref s40, .ref s41, .ref s42])), (s20, .inl (k20, 100, .inl (fun _ => 0)))] := hD
  obtain rfl : r_1 = 0 := hw
  refine lv_if_eq (tgt := 54) hx hb dX12_hiccups_4 (by decide) (fun _ => ?_) (fun c9 => absurd c9 (by decide))
  refine lv_iconst (v := (-1)) hx hb dX12_hiccups_54 (by decide) ?_
  refine W.widen (k := 0) (n := 0) (Nat.le_of_ble_eq_true rfl) (Nat.le_of_ble_eq_true rfl) ?_
  exact W.iret (v := (-1)) hx hb hr (fun t ht hW => ⟨⟨(-1), (), rfl, rfl, trivial⟩, hS.F ht⟩) hS.2.2 dX12_hiccups_55

set_option maxHeartbeats 4000000 in
set_option maxRecDepth 100000 in
/-- c_M_dish -/
theorem c_M_dish (l : Launch) (dC : Nat → ClassId) (dI : Nat → Nat → Nat) (sz : Nat) (h0 : Nat) (s0 : Nat) (s3 : Nat) (s4 : Nat) (s5 : Nat) (s6 : Nat) (s7 : Nat) (s15 : Nat) (s17 : Nat) (s19 : Nat) (s20 : Nat) (s27 : Nat) (s29 : Nat) (s30 : Nat) (s31 : Nat) (s35 : Nat) (s36 : Nat) (s37 : Nat) (s39 : Nat) (s40 : Nat) (s41 : Nat) (s42 : Nat) (k20 : ClassId) (x0 : Int32) (x1 : Int32) : Met l yX12_dish (.code yX12_dish cX12_dish 3 (some .int) :: wsA) ({ frames := 1, cells := 0, slots := 0, locals := 21 }) (va_Pc [.ref h0, .int x0, .int x1] (fun U => U.heap.size = sz ∧ va_P (dC, dI) classes [(h0, .inr (12, [.ref s0, .int 0, .int 0, .ref s3, .ref s4, .ref s5, .ref s6, .ref s7, .int 0, .int 0, .int 0, .int 0, .int 0, .int 0, .int 0, .ref s15, .int 0, .ref s17, .int 0, .ref s19, .ref s20, .int (-1), .int 0, .int 0, .int 0, .int 0, .int 0, .ref s27, .int 0, .ref s29, .ref s30, .ref s31, .int 0, .int 0, .int 0, .ref s35, .ref s36, .ref s37, .long 0, .ref s39, .ref s40, .ref s41, .ref s42])), (s20, .inl (k20, 100, .inl (fun _ => 0)))] U.heap ∧ va_K (dC, dI) classes [(k20, .int)] U ∧ va_D (fun _ => True) [(h0, .inr (12, [.ref s0, .int 0, .int 0, .ref s3, .ref s4, .ref s5, .ref s6, .ref s7, .int 0, .int 0, .int 0, .int 0, .int 0, .int 0, .int 0, .ref s15, .int 0, .ref s17, .int 0, .ref s19, .ref s20, .int (-1), .int 0, .int 0, .int 0, .int 0, .int 0, .ref s27, .int 0, .ref s29, .ref s30, .ref s31, .int 0, .int 0, .int 0, .ref s35, .ref s36, .ref s37, .long 0, .ref s39, .ref s40, .ref s41, .ref s42])), (s20, .inl (k20, 100, .inl (fun _ => 0)))] ∧ xE U)) (va_Qi (fun (r : Int32) (_ : Unit) => r = (-3)) (fun _ _ => True) (va_A [(h0, .inr (12, [.ref s0, .int 0, .int 0, .ref s3, .ref s4, .ref s5, .ref s6, .ref s7, .int 0, .int 0, .int 0, .int 0, .int 0, .int 0, .int 0, .ref s15, .int 0, .ref s17, .int 0, .ref s19, .ref s20, .int (-1), .int 0, .int 0, .int 0, .int 0, .int 0, .ref s27, .int 0, .ref s29, .ref s30, .ref s31, .int 0, .int 0, .int 0, .ref s35, .ref s36, .ref s37, .long 0, .ref s39, .ref s40, .ref s41, .ref s42])), (s20, .inl (k20, 100, .inl (fun _ => 0)))] sz)) 0 0 (va_A [(h0, .inr (12, [.ref s0, .int 0, .int 0, .ref s3, .ref s4, .ref s5, .ref s6, .ref s7, .int 0, .int 0, .int 0, .int 0, .int 0, .int 0, .int 0, .ref s15, .int 0, .ref s17, .int 0, .ref s19, .ref s20, .int (-1), .int 0, .int 0, .int 0, .int 0, .int 0, .ref s27, .int 0, .ref s29, .ref s30, .ref s31, .int 0, .int 0, .int 0, .ref s35, .ref s36, .ref s37, .long 0, .ref s39, .ref s40, .ref s41, .ref s42])), (s20, .inl (k20, 100, .inl (fun _ => 0)))] sz) := by
  refine Met.ofW (cc := cX12_dish) (maxL := 3) (ret := (some .int)) (by decide) rfl ?_
  intro p e s m args below meth c s₁ B hml hv
  obtain ⟨rfl, hsz, hP, hK, hD0, hE⟩ := hv
  have hx := B.exec
  have hb := B.bytes
  have hr := B.returns
  have hts := atoms_spec (ws := .code yX12_dish cX12_dish 3 (some .int) :: wsA) B.pre
  have hq : ∀ w ∈ wsA, w.before _ s = true := fun w h => hts w (List.mem_cons_of_mem _ h)
  have hown : s.vm.findClass RX12 = some m.cls := findClass_of_methodNamed B.named
  have hlocks := B.notSynchronized
  subst hsz
  have hD := hD0.self (sz := s.heap.size)
  generalize hAe : va_A [(h0, .inr (12, [.ref s0, .int 0, .int 0, .ref s3, .ref s4, .ref s5, .ref s6, .ref s7, .int 0, .int 0, .int 0, .int 0, .int 0, .int 0, .int 0, .ref s15, .int 0, .ref s17, .int 0, .ref s19, .ref s20, .int (-1), .int 0, .int 0, .int 0, .int 0, .int 0, .ref s27, .int 0, .ref s29, .ref s30, .ref s31, .int 0, .int 0, .int 0, .ref s35, .ref s36, .ref s37, .long 0, .ref s39, .ref s40, .ref s41, .ref s42])), (s20, .inl (k20, 100, .inl (fun _ => 0)))] s.heap.size = A at hD ⊢
  have hA : ∀ q : Nat, s.heap.size ≤ q → A q := fun q h => by rw [← hAe]; exact Or.inr h
  have hS : va_S A s.heap s.heap [] := va_S.rf
  have hl := lv_entry ([.ref h0, .int x0, .int x1]) (n := 3) (Nat.le_of_ble_eq_true rfl)
  rw [lg_entry_eq]
  generalize (lg_sl ([.ref h0, .int x0, .int x1]) ++ List.replicate (3 - (lg_sl ([.ref h0, .int x0, .int x1])).length) Slot.unset).toArray = ls at hl ⊢
  have hl : lv_has ls 3 [(0, .ref h0), (1, .int x0), (2, .int x1)] := hl
  refine lv_aload_n hx hb dX12_dish_0 rfl (lv_at hl 0 rfl) ?_
  refine lv_iload_n hx hb dX12_dish_1 rfl (lv_at hl 1 rfl) ?_
  have hPc := hP.sub (ws' := [(h0, .inr (12, [.ref s0, .int 0, .int 0, .ref s3, .ref s4, .ref s5, .ref s6, .ref s7, .int 0, .int 0, .int 0, .int 0, .int 0, .int 0, .int 0, .ref s15, .int 0, .ref s17, .int 0, .ref s19, .ref s20, .int (-1), .int 0, .int 0, .int 0, .int 0, .int 0, .ref s27, .int 0, .ref s29, .ref s30, .ref s31, .int 0, .int 0, .int 0, .ref s35, .ref s36, .ref s37, .long 0, .ref s39, .ref s40, .ref s41, .ref s42])), (s20, .inl (k20, 100, .inl (fun _ => 0)))]) [0, 1] rfl
  have hDc := hD.sub (ws' := [(h0, .inr (12, [.ref s0, .int 0, .int 0, .ref s3, .ref s4, .ref s5, .ref s6, .ref s7, .int 0, .int 0, .int 0, .int 0, .int 0, .int 0, .int 0, .ref s15, .int 0, .ref s17, .int 0, .ref s19, .ref s20, .int (-1), .int 0, .int 0, .int 0, .int 0, .int 0, .ref s27, .int 0, .ref s29, .ref s30, .ref s31, .int 0, .int 0, .int 0, .ref s35, .ref s36, .ref s37, .long 0, .ref s39, .ref s40, .ref s41, .ref s42])), (s20, .inl (k20, 100, .inl (fun _ => 0)))]) [0, 1] (by decide) rfl
  have hKc := hK.sub (tys' := [(k20, .int)]) [0] rfl
  have hFc := va_free (wc := [(h0, .inr (12, [.ref s0, .int 0, .int 0, .ref s3, .ref s4, .ref s5, .ref s6, .ref s7, .int 0, .int 0, .int 0, .int 0, .int 0, .int 0, .int 0, .ref s15, .int 0, .ref s17, .int 0, .ref s19, .ref s20, .int (-1), .int 0, .int 0, .int 0, .int 0, .int 0, .ref s27, .int 0, .ref s29, .ref s30, .ref s31, .int 0, .int 0, .int 0, .ref s35, .ref s36, .ref s37, .long 0, .ref s39, .ref s40, .ref s41, .ref s42])), (s20, .inl (k20, 100, .inl (fun _ => 0)))]) hD hS hA [0, 1] rfl
  refine va_calli (va_runV (As := [.int x0]) (rest := []) ⟨hx, hb, hml, hown, hq⟩ (c_M_isDish l dC dI _ h0 s0 s3 s4 s5 s6 s7 s15 s17 s19 s20 s27 s29 s30 s31 s35 s36 s37 s39 s40 s41 s42 k20 x0 ) (cwV 1 hq (gV qw_1476 qw_1478 qw_73 qw_131 qw_1479) rfl rfl rfl (by decide +kernel) ⟨Nat.le_of_ble_eq_true rfl, Nat.le_of_ble_eq_true rfl⟩) ⟨fun a U g mk q => by obtain ⟨q0, q1, qP, qK, qD, qE⟩ := q; exact ⟨q0, q1, qP, va_K.moved (u := U) (U := U.calling g mk a) (Vm.Alike.refl U.vm) qK, qD, xE.same rfl qE⟩, va_recv hKc hPc (ci := 12) (q0 := 0) rfl rfl, fun U hU hW => ⟨rfl, by rw [hU], by rw [hU]; exact hPc, va_K.moved hW.alike hKc, hDc.weaken (fun _ _ _ _ => trivial), xE.warm hW hE⟩⟩ rfl rfl hl.1 rfl (lv_room (Nat.le_of_ble_eq_true rfl)) dX12_dish_2 ⟨Nat.le_of_ble_eq_true rfl, Nat.le_of_ble_eq_true rfl⟩) hS (fun q _ h => hFc q h) hFc (fun r_1 u t H1 locs ht hvm hw hB hz1 hk1 hS => ?_)
  obtain ⟨hP1, hK1, hD1⟩ := hB
  rw [ht] at hP1
  have hK1 := va_K.moved hvm.symm hK1
  obtain ⟨hP, hD⟩ := va_join (wr := []) (w1 := [(h0, .inr (12, [.ref s0, .int 0, .int 0, .ref s3, .ref s4, .ref s5, .ref s6, .ref s7, .int 0, .int 0, .int 0, .int 0, .int 0, .int 0, .int 0, .ref s15, .int 0, .ref s17, .int 0, .ref s19, .ref s20, .int (-1), .int 0, .int 0, .int 0, .int 0, .int 0, .ref s27, .int 0, .ref s29, .ref s30, .ref s31, .int 0, .int 0, .int 0, .ref s35, .ref s36, .ref s37, .long 0, .ref s39, .ref s40, .ref s41, .ref s42])), (s20, .inl (k20, 100, .inl (fun _ => 0)))]) hP hD [0, 1] [] rfl rfl (by decide) (by decide) hk1 hFc hP1 hD1
  generalize H1 = H at hP hS ⊢
  have hP : va_P (dC, dI) classes [(h0, .inr (12, [.ref s0, .int 0, .int 0, .ref s3, .ref s4, .ref s5, .ref s6, .ref s7, .int 0, .int 0, .int 0, .int 0, .int 0, .int 0, .int 0, .ref s15, .int 0, .ref s17, .int 0, .ref s19, .ref s20, .int (-1), .int 0, .int 0, .int 0, .int 0, .int 0, .ref s27, .int 0, .ref s29, .ref s30, .ref s31, .int 0, .int 0, .int 0, .ref s35, .ref s36, .ref s37, .long 0, .ref s39, .ref s40, .ref s41, .ref s42])), (s20, .inl (k20, 100, .inl (fun _ => 0)))] H := hP
  have hD : va_D A [(h0, .inr (12, [.ref s0, .int 0, .int 0, .ref s3, .ref s4, .ref s5, .ref s6, .ref s7, .int 0, .int 0, .int 0, .int 0, .int 0, .int 0, .int 0, .ref s15, .int 0, .ref s17, .int 0, .ref s19, .ref s20, .int (-1), .int 0, .int 0, .int 0, .int 0, .int 0, .ref s27, .int 0, .ref s29, .ref s30, .ref s31, .int 0, .int 0, .int 0, .ref s35, .ref s36, .ref s37, .long 0, .ref s39, .ref s40, .ref s41, .ref s42])), (s20, .inl (k20, 100, .inl (fun _ => 0)))] := hD
  obtain rfl : r_1 = 0 := hw
  refine lv_if_eq (tgt := 20) hx hb dX12_dish_5 (by decide) (fun _ => ?_) (fun c9 => absurd c9 (by decide))
  refine lv_bipush (v := (-3)) hx hb dX12_dish_20 (by decide) ?_
  refine W.widen (k := 0) (n := 0) (Nat.le_of_ble_eq_true rfl) (Nat.le_of_ble_eq_true rfl) ?_
  exact W.iret (v := (-3)) hx hb hr (fun t ht hW => ⟨⟨(-3), (), rfl, rfl, trivial⟩, hS.F ht⟩) hS.2.2 dX12_dish_22

set_option maxHeartbeats 4000000 in
set_option maxRecDepth 100000 in
/-- c_M_serve -/
theorem c_M_serve (l : Launch) (dC : Nat → ClassId) (dI : Nat → Nat → Nat) (sz : Nat) (h0 : Nat) (s0 : Nat) (s3 : Nat) (s4 : Nat) (s5 : Nat) (s6 : Nat) (s7 : Nat) (s15 : Nat) (s17 : Nat) (s19 : Nat) (s20 : Nat) (s27 : Nat) (s29 : Nat) (s30 : Nat) (s31 : Nat) (s35 : Nat) (s36 : Nat) (s37 : Nat) (s39 : Nat) (s40 : Nat) (s41 : Nat) (s42 : Nat) (k20 : ClassId) (x0 : Int32) : Met l yX12_serve (.code yX12_serve cX12_serve 2 (some .int) :: wsA) ({ frames := 1, cells := 0, slots := 0, locals := 21 }) (va_Pc [.ref h0, .int x0] (fun U => U.heap.size = sz ∧ va_P (dC, dI) classes [(h0, .inr (12, [.ref s0, .int 0, .int 0, .ref s3, .ref s4, .ref s5, .ref s6, .ref s7, .int 0, .int 0, .int 0, .int 0, .int 0, .int 0, .int 0, .ref s15, .int 0, .ref s17, .int 0, .ref s19, .ref s20, .int (-1), .int 0, .int 0, .int 0, .int 0, .int 0, .ref s27, .int 0, .ref s29, .ref s30, .ref s31, .int 0, .int 0, .int 0, .ref s35, .ref s36, .ref s37, .long 0, .ref s39, .ref s40, .ref s41, .ref s42])), (s20, .inl (k20, 100, .inl (fun _ => 0)))] U.heap ∧ va_K (dC, dI) classes [(k20, .int)] U ∧ va_D (fun _ => True) [(h0, .inr (12, [.ref s0, .int 0, .int 0, .ref s3, .ref s4, .ref s5, .ref s6, .ref s7, .int 0, .int 0, .int 0, .int 0, .int 0, .int 0, .int 0, .ref s15, .int 0, .ref s17, .int 0, .ref s19, .ref s20, .int (-1), .int 0, .int 0, .int 0, .int 0, .int 0, .ref s27, .int 0, .ref s29, .ref s30, .ref s31, .int 0, .int 0, .int 0, .ref s35, .ref s36, .ref s37, .long 0, .ref s39, .ref s40, .ref s41, .ref s42])), (s20, .inl (k20, 100, .inl (fun _ => 0)))] ∧ xE U)) (va_Qi (fun (r : Int32) (_ : Unit) => r = (-1)) (fun _ _ => True) (va_A [(h0, .inr (12, [.ref s0, .int 0, .int 0, .ref s3, .ref s4, .ref s5, .ref s6, .ref s7, .int 0, .int 0, .int 0, .int 0, .int 0, .int 0, .int 0, .ref s15, .int 0, .ref s17, .int 0, .ref s19, .ref s20, .int (-1), .int 0, .int 0, .int 0, .int 0, .int 0, .ref s27, .int 0, .ref s29, .ref s30, .ref s31, .int 0, .int 0, .int 0, .ref s35, .ref s36, .ref s37, .long 0, .ref s39, .ref s40, .ref s41, .ref s42])), (s20, .inl (k20, 100, .inl (fun _ => 0)))] sz)) 0 0 (va_A [(h0, .inr (12, [.ref s0, .int 0, .int 0, .ref s3, .ref s4, .ref s5, .ref s6, .ref s7, .int 0, .int 0, .int 0, .int 0, .int 0, .int 0, .int 0, .ref s15, .int 0, .ref s17, .int 0, .ref s19, .ref s20, .int (-1), .int 0, .int 0, .int 0, .int 0, .int 0, .ref s27, .int 0, .ref s29, .ref s30, .ref s31, .int 0, .int 0, .int 0, .ref s35, .ref s36, .ref s37, .long 0, .ref s39, .ref s40, .ref s41, .ref s42])), (s20, .inl (k20, 100, .inl (fun _ => 0)))] sz) := by
  refine Met.ofW (cc := cX12_serve) (maxL := 2) (ret := (some .int)) (by decide) rfl ?_
  intro p e s m args below meth c s₁ B hml hv
  obtain ⟨rfl, hsz, hP, hK, hD0, hE⟩ := hv
  have hx := B.exec
  have hb := B.bytes
  have hr := B.returns
  have hts := atoms_spec (ws := .code yX12_serve cX12_serve 2 (some .int) :: wsA) B.pre
  have hq : ∀ w ∈ wsA, w.before _ s = true := fun w h => hts w (List.mem_cons_of_mem _ h)
  have hown : s.vm.findClass RX12 = some m.cls := findClass_of_methodNamed B.named
  have hlocks := B.notSynchronized
  subst hsz
  have hD := hD0.self (sz := s.heap.size)
  generalize hAe : va_A [(h0, .inr (12, [.ref s0, .int 0, .int 0, .ref s3, .ref s4, .ref s5, .ref s6, .ref s7, .int 0, .int 0, .int 0, .int 0, .int 0, .int 0, .int 0, .ref s15, .int 0, .ref s17, .int 0, .ref s19, .ref s20, .int (-1), .int 0, .int 0, .int 0, .int 0, .int 0, .ref s27, .int 0, .ref s29, .ref s30, .ref s31, .int 0, .int 0, .int 0, .ref s35, .ref s36, .ref s37, .long 0, .ref s39, .ref s40, .ref s41, .ref s42])), (s20, .inl (k20, 100, .inl (fun _ => 0)))] s.heap.size = A at hD ⊢
  have hA : ∀ q : Nat, s.heap.size ≤ q → A q := fun q h => by rw [← hAe]; exact Or.inr h
  have hS : va_S A s.heap s.heap [] := va_S.rf
  have hl := lv_entry ([.ref h0, .int x0]) (n := 2) (Nat.le_of_ble_eq_true rfl)
  rw [lg_entry_eq]
  generalize (lg_sl ([.ref h0, .int x0]) ++ List.replicate (2 - (lg_sl ([.ref h0, .int x0])).length) Slot.unset).toArray = ls at hl ⊢
  have hl : lv_has ls 2 [(0, .ref h0), (1, .int x0)] := hl
  refine lv_aload_n hx hb dX12_serve_0 rfl (lv_at hl 0 rfl) ?_
  refine lv_iload_n hx hb dX12_serve_1 rfl (lv_at hl 1 rfl) ?_
  have hPc := hP.sub (ws' := [(h0, .inr (12, [.ref s0, .int 0, .int 0, .ref s3, .ref s4, .ref s5, .ref s6, .ref s7, .int 0, .int 0, .int 0, .int 0, .int 0, .int 0, .int 0, .ref s15, .int 0, .ref s17, .int 0, .ref s19, .ref s20, .int (-1), .int 0, .int 0, .int 0, .int 0, .int 0, .ref s27, .int 0, .ref s29, .ref s30, .ref s31, .int 0, .int 0, .int 0, .ref s35, .ref s36, .ref s37, .long 0, .ref s39, .ref s40, .ref s41, .ref s42])), (s20, .inl (k20, 100, .inl (fun _ => 0)))]) [0, 1] rfl
  have hDc := hD.sub (ws' := [(h0, .inr (12, [.ref s0, .int 0, .int 0, .ref s3, .ref s4, .ref s5, .ref s6, .ref s7, .int 0, .int 0, .int 0, .int 0, .int 0, .int 0, .int 0, .ref s15, .int 0, .ref s17, .int 0, .ref s19, .ref s20, .int (-1), .int 0, .int 0, .int 0, .int 0, .int 0, .ref s27, .int 0, .ref s29, .ref s30, .ref s31, .int 0, .int 0, .int 0, .ref s35, .ref s36, .ref s37, .long 0, .ref s39, .ref s40, .ref s41, .ref s42])), (s20, .inl (k20, 100, .inl (fun _ => 0)))]) [0, 1] (by decide) rfl
  have hKc := hK.sub (tys' := [(k20, .int)]) [0] rfl
  have hFc := va_free (wc := [(h0, .inr (12, [.ref s0, .int 0, .int 0, .ref s3, .ref s4, .ref s5, .ref s6, .ref s7, .int 0, .int 0, .int 0, .int 0, .int 0, .int 0, .int 0, .ref s15, .int 0, .ref s17, .int 0, .ref s19, .ref s20, .int (-1), .int 0, .int 0, .int 0, .int 0, .int 0, .ref s27, .int 0, .ref s29, .ref s30, .ref s31, .int 0, .int 0, .int 0, .ref s35, .ref s36, .ref s37, .long 0, .ref s39, .ref s40, .ref s41, .ref s42])), (s20, .inl (k20, 100, .inl (fun _ => 0)))]) hD hS hA [0, 1] rfl
  refine va_calli (va_runV (As := [.int x0]) (rest := []) ⟨hx, hb, hml, hown, hq⟩ (c_M_isDish l dC dI _ h0 s0 s3 s4 s5 s6 s7 s15 s17 s19 s20 s27 s29 s30 s31 s35 s36 s37 s39 s40 s41 s42 k20 x0 ) (cwV 1 hq (gV qw_1476 qw_1478 qw_73 qw_131 qw_1479) rfl rfl rfl (by decide +kernel) ⟨Nat.le_of_ble_eq_true rfl, Nat.le_of_ble_eq_true rfl⟩) ⟨fun a U g mk q => by obtain ⟨q0, q1, qP, qK, qD, qE⟩ := q; exact ⟨q0, q1, qP, va_K.moved (u := U) (U := U.calling g mk a) (Vm.Alike.refl U.vm) qK, qD, xE.same rfl qE⟩, va_recv hKc hPc (ci := 12) (q0 := 0) rfl rfl, fun U hU hW => ⟨rfl, by rw [hU], by rw [hU]; exact hPc, va_K.moved hW.alike hKc, hDc.weaken (fun _ _ _ _ => trivial), xE.warm hW hE⟩⟩ rfl rfl hl.1 rfl (lv_room (Nat.le_of_ble_eq_true rfl)) dX12_serve_2 ⟨Nat.le_of_ble_eq_true rfl, Nat.le_of_ble_eq_true rfl⟩) hS (fun q _ h => hFc q h) hFc (fun r_1 u t H1 locs ht hvm hw hB hz1 hk1 hS => ?_)
  obtain ⟨hP1, hK1, hD1⟩ := hB
  rw [ht] at hP1
  have hK1 := va_K.moved hvm.symm hK1
  obtain ⟨hP, hD⟩ := va_join (wr := []) (w1 := [(h0, .inr (12, [.ref s0, .int 0, .int 0, .ref s3, .ref s4, .ref s5, .ref s6, .ref s7, .int 0, .int 0, .int 0, .int 0, .int 0, .int 0, .int 0, .ref s15, .int 0, .ref s17, .int 0, .ref s19, .ref s20, .int (-1), .int 0, .int 0, .int 0, .int 0, .int 0, .ref s27, .int 0, .ref s29, .ref s30, .ref s31, .int 0, .int 0, .int 0, .ref s35, .ref s36, .ref s37, .long 0, .ref s39, .ref s40, .ref s41, .ref s42])), (s20, .inl (k20, 100, .inl (fun _ => 0)))]) hP hD [0, 1] [] rfl rfl (by decide) (by decide) hk1 hFc hP1 hD1
  generalize H1 = H at hP hS ⊢
  have hP : va_P (dC, dI) classes [(h0, .inr (12, [.ref s0, .int 0, .int 0, .ref s3, .ref s4, .ref s5, .ref s6, .ref s7, .int 0, .int 0, .int 0, .int 0, .int 0, .int 0, .int 0, .ref s15, .int 0, .ref s17, .int 0, .ref s19, .ref s20, .int (-1), .int 0, .int 0, .int 0, .int 0, .int 0, .ref s27, .int 0, .ref s29, .ref s30, .ref s31, .int 0, .int 0, .int 0, .ref s35, .ref s36, .ref s37, .long 0, .ref s39, .ref s40, .ref s41, .ref s42])), (s20, .inl (k20, 100, .inl (fun _ => 0)))] H := hP
  have hD : va_D A [(h0, .inr (12, [.ref s0, .int 0, .int 0, .ref s3, .ref s4, .ref s5, .ref s6, .ref s7, .int 0, .int 0, .int 0, .int 0, .int 0, .int 0, .int 0, .ref s15, .int 0, .ref s17, .int 0, .ref s19, .ref s20, .int (-1), .int 0, .int 0, .int 0, .int 0, .int 0, .ref s27, .int 0, .ref s29, .ref s30, .ref s31, .int 0, .int 0, .int 0, .ref s35, .ref s36, .ref s37, .long 0, .ref s39, .ref s40, .ref s41, .ref s42])), (s20, .inl (k20, 100, .inl (fun _ => 0)))] := hD
  obtain rfl : r_1 = 0 := hw
  refine lv_if_eq (tgt := 22) hx hb dX12_serve_5 (by decide) (fun _ => ?_) (fun c9 => absurd c9 (by decide))
  refine lv_iconst (v := (-1)) hx hb dX12_serve_22 (by decide) ?_
  refine W.widen (k := 0) (n := 0) (Nat.le_of_ble_eq_true rfl) (Nat.le_of_ble_eq_true rfl) ?_
  exact W.iret (v := (-1)) hx hb hr (fun t ht hW => ⟨⟨(-1), (), rfl, rfl, trivial⟩, hS.F ht⟩) hS.2.2 dX12_serve_23

set_option maxHeartbeats 4000000 in
set_option maxRecDepth 100000 in
/-- c_M_guest -/
theorem c_M_guest (l : Launch) (dC : Nat → ClassId) (dI : Nat → Nat → Nat) (sz : Nat) (h0 : Nat) (s0 : Nat) (s3 : Nat) (s4 : Nat) (s5 : Nat) (s6 : Nat) (s7 : Nat) (s15 : Nat) (s17 : Nat) (s19 : Nat) (s20 : Nat) (s27 : Nat) (s29 : Nat) (s30 : Nat) (s31 : Nat) (s35 : Nat) (s36 : Nat) (s37 : Nat) (s39 : Nat) (s40 : Nat) (s41 : Nat) (s42 : Nat) (k20 : ClassId) (x0 : Int32) (x1 : Int32) : Met l yX12_guest (.code yX12_guest cX12_guest 3 (some .int) :: wsA) ({ frames := 1, cells := 0, slots := 0, locals := 21 }) (va_Pc [.ref h0, .int x0, .int x1] (fun U => U.heap.size = sz ∧ va_P (dC, dI) classes [(h0, .inr (12, [.ref s0, .int 0, .int 0, .ref s3, .ref s4, .ref s5, .ref s6, .ref s7, .int 0, .int 0, .int 0, .int 0, .int 0, .int 0, .int 0, .ref s15, .int 0, .ref s17, .int 0, .ref s19, .ref s20, .int (-1), .int 0, .int 0, .int 0, .int 0, .int 0, .ref s27, .int 0, .ref s29, .ref s30, .ref s31, .int 0, .int 0, .int 0, .ref s35, .ref s36, .ref s37, .long 0, .ref s39, .ref s40, .ref s41, .ref s42])), (s20, .inl (k20, 100, .inl (fun _ => 0)))] U.heap ∧ va_K (dC, dI) classes [(k20, .int)] U ∧ va_D (fun _ => True) [(h0, .inr (12, [.ref s0, .int 0, .int 0, .ref s3, .ref s4, .ref s5, .ref s6, .ref s7, .int 0, .int 0, .int 0, .int 0, .int 0, .int 0, .int 0, .ref s15, .int 0, .ref s17, .int 0, .ref s19, .ref s20, .int (-1), .int 0, .int 0, .int 0, .int 0, .int 0, .ref s27, .int 0, .ref s29, .ref s30, .ref s31, .int 0, .int 0, .int 0, .ref s35, .ref s36, .ref s37, .long 0, .ref s39, .ref s40, .ref s41, .ref s42])), (s20, .inl (k20, 100, .inl (fun _ => 0)))] ∧ xE U)) (va_Qi (fun (r : Int32) (_ : Unit) => r = (-1)) (fun _ _ => True) (va_A [(h0, .inr (12, [.ref s0, .int 0, .int 0, .ref s3, .ref s4, .ref s5, .ref s6, .ref s7, .int 0, .int 0, .int 0, .int 0, .int 0, .int 0, .int 0, .ref s15, .int 0, .ref s17, .int 0, .ref s19, .ref s20, .int (-1), .int 0, .int 0, .int 0, .int 0, .int 0, .ref s27, .int 0, .ref s29, .ref s30, .ref s31, .int 0, .int 0, .int 0, .ref s35, .ref s36, .ref s37, .long 0, .ref s39, .ref s40, .ref s41, .ref s42])), (s20, .inl (k20, 100, .inl (fun _ => 0)))] sz)) 0 0 (va_A [(h0, .inr (12, [.ref s0, .int 0, .int 0, .ref s3, .ref s4, .ref s5, .ref s6, .ref s7, .int 0, .int 0, .int 0, .int 0, .int 0, .int 0, .int 0, .ref s15, .int 0, .ref s17, .int 0, .ref s19, .ref s20, .int (-1), .int 0, .int 0, .int 0, .int 0, .int 0, .ref s27, .int 0, .ref s29, .ref s30, .ref s31, .int 0, .int 0, .int 0, .ref s35, .ref s36, .ref s37, .long 0, .ref s39, .ref s40, .ref s41, .ref s42])), (s20, .inl (k20, 100, .inl (fun _ => 0)))] sz) := by
  refine Met.ofW (cc := cX12_guest) (maxL := 3) (ret := (some .int)) (by decide) rfl ?_
  intro p e s m args below meth c s₁ B hml hv
  obtain ⟨rfl, hsz, hP, hK, hD0, hE⟩ := hv
  have hx := B.exec
  have hb := B.bytes
  have hr := B.returns
  have hts := atoms_spec (ws := .code yX12_guest cX12_guest 3 (some .int) :: wsA) B.pre
  have hq : ∀ w ∈ wsA, w.before _ s = true := fun w h => hts w (List.mem_cons_of_mem _ h)
  have hown : s.vm.findClass RX12 = some m.cls := findClass_of_methodNamed B.named
  have hlocks := B.notSynchronized
  subst hsz
  have hD := hD0.self (sz := s.heap.size)
  generalize hAe : va_A [(h0, .inr (12, [.ref s0, .int 0, .int 0, .ref s3, .ref s4, .ref s5, .ref s6, .ref s7, .int 0, .int 0, .int 0, .int 0, .int 0, .int 0, .int 0, .ref s15, .int 0, .ref s17, .int 0, .ref s19, .ref s20, .int (-1), .int 0, .int 0, .int 0, .int 0, .int 0, .ref s27, .int 0, .ref s29, .ref s30, .ref s31, .int 0, .int 0, .int 0, .ref s35, .ref s36, .ref s37, .long 0, .ref s39, .ref s40, .ref s41, .ref s42])), (s20, .inl (k20, 100, .inl (fun _ => 0)))] s.heap.size = A at hD ⊢
  have hA : ∀ q : Nat, s.heap.size ≤ q → A q := fun q h => by rw [← hAe]; exact Or.inr h
  have hS : va_S A s.heap s.heap [] := va_S.rf
  have hl := lv_entry ([.ref h0, .int x0, .int x1]) (n := 3) (Nat.le_of_ble_eq_true rfl)
  rw [lg_entry_eq]
  generalize (lg_sl ([.ref h0, .int x0, .int x1]) ++ List.replicate (3 - (lg_sl ([.ref h0, .int x0, .int x1])).length) Slot.unset).toArray = ls at hl ⊢
  have hl : lv_has ls 3 [(0, .ref h0), (1, .int x0), (2, .int x1)] := hl
  refine lv_aload_n hx hb dX12_guest_0 rfl (lv_at hl 0 rfl) ?_
  refine lv_iload_n hx hb dX12_guest_1 rfl (lv_at hl 1 rfl) ?_
  have hPc := hP.sub (ws' := [(h0, .inr (12, [.ref s0, .int 0, .int 0, .ref s3, .ref s4, .ref s5, .ref s6, .ref s7, .int 0, .int 0, .int 0, .int 0, .int 0, .int 0, .int 0, .ref s15, .int 0, .ref s17, .int 0, .ref s19, .ref s20, .int (-1), .int 0, .int 0, .int 0, .int 0, .int 0, .ref s27, .int 0, .ref s29, .ref s30, .ref s31, .int 0, .int 0, .int 0, .ref s35, .ref s36, .ref s37, .long 0, .ref s39, .ref s40, .ref s41, .ref s42])), (s20, .inl (k20, 100, .inl (fun _ => 0)))]) [0, 1] rfl
  have hDc := hD.sub (ws' := [(h0, .inr (12, [.ref s0, .int 0, .int 0, .ref s3, .ref s4, .ref s5, .ref s6, .ref s7, .int 0, .int 0, .int 0, .int 0, .int 0, .int 0, .int 0, .ref s15, .int 0, .ref s17, .int 0, .ref s19, .ref s20, .int (-1), .int 0, .int 0, .int 0, .int 0, .int 0, .ref s27, .int 0, .ref s29, .ref s30, .ref s31, .int 0, .int 0, .int 0, .ref s35, .ref s36, .ref s37, .long 0, .ref s39, .ref s40, .ref s41, .ref s42])), (s20, .inl (k20, 100, .inl (fun _ => 0)))]) [0, 1] (by decide) rfl
  have hKc := hK.sub (tys' := [(k20, .int)]) [0] rfl
  have hFc := va_free (wc := [(h0, .inr (12, [.ref s0, .int 0, .int 0, .ref s3, .ref s4, .ref s5, .ref s6, .ref s7, .int 0, .int 0, .int 0, .int 0, .int 0, .int 0, .int 0, .ref s15, .int 0, .ref s17, .int 0, .ref s19, .ref s20, .int (-1), .int 0, .int 0, .int 0, .int 0, .int 0, .ref s27, .int 0, .ref s29, .ref s30, .ref s31, .int 0, .int 0, .int 0, .ref s35, .ref s36, .ref s37, .long 0, .ref s39, .ref s40, .ref s41, .ref s42])), (s20, .inl (k20, 100, .inl (fun _ => 0)))]) hD hS hA [0, 1] rfl
  refine va_calli (va_runV (As := [.int x0]) (rest := []) ⟨hx, hb, hml, hown, hq⟩ (c_M_isGuest l dC dI _ h0 s0 s3 s4 s5 s6 s7 s15 s17 s19 s20 s27 s29 s30 s31 s35 s36 s37 s39 s40 s41 s42 k20 x0 ) (cwV 1 hq (gV qw_1485 qw_1487 qw_74 qw_131 qw_1488) rfl rfl rfl (by decide +kernel) ⟨Nat.le_of_ble_eq_true rfl, Nat.le_of_ble_eq_true rfl⟩) ⟨fun a U g mk q => by obtain ⟨q0, q1, qP, qK, qD, qE⟩ := q; exact ⟨q0, q1, qP, va_K.moved (u := U) (U := U.calling g mk a) (Vm.Alike.refl U.vm) qK, qD, xE.same rfl qE⟩, va_recv hKc hPc (ci := 12) (q0 := 0) rfl rfl, fun U hU hW => ⟨rfl, by rw [hU], by rw [hU]; exact hPc, va_K.moved hW.alike hKc, hDc.weaken (fun _ _ _ _ => trivial), xE.warm hW hE⟩⟩ rfl rfl hl.1 rfl (lv_room (Nat.le_of_ble_eq_true rfl)) dX12_guest_2 ⟨Nat.le_of_ble_eq_true rfl, Nat.le_of_ble_eq_true rfl⟩) hS (fun q _ h => hFc q h) hFc (fun r_1 u t H1 locs ht hvm hw hB hz1 hk1 hS => ?_)
  obtain ⟨hP1, hK1, hD1⟩ := hB
  rw [ht] at hP1
  have hK1 := va_K.moved hvm.symm hK1
  obtain ⟨hP, hD⟩ := va_join (wr := []) (w1 := [(h0, .inr (12, [.ref s0, .int 0, .int 0, .ref s3, .ref s4, .ref s5, .ref s6, .ref s7, .int 0, .int 0, .int 0, .int 0, .int 0, .int 0, .int 0, .ref s15, .int 0, .ref s17, .int 0, .ref s19, .ref s20, .int (-1), .int 0, .int 0, .int 0, .int 0, .int 0, .ref s27, .int 0, .ref s29, .ref s30, .ref s31, .int 0, .int 0, .int 0, .ref s35, .ref s36, .ref s37, .long 0, .ref s39, .ref s40, .ref s41, .ref s42])), (s20, .inl (k20, 100, .inl (fun _ => 0)))]) hP hD [0, 1] [] rfl rfl (by decide) (by decide) hk1 hFc hP1 hD1
  generalize H1 = H at hP hS ⊢
  have hP : va_P (dC, dI) classes [(h0, .inr (12, [.ref s0, .int 0, .int 0, .ref s3, .ref s4, .ref s5, .ref s6, .ref s7, .int 0, .int 0, .int 0, .int 0, .int 0, .int 0, .int 0, .ref s15, .int 0, .ref s17, .int 0, .ref s19, .ref s20, .int (-1), .int 0, .int 0, .int 0, .int 0, .int 0, .ref s27, .int 0, .ref s29, .ref s30, .ref s31, .int 0, .int 0, .int 0, .ref s35, .ref s36, .ref s37, .long 0, .ref s39, .ref s40, .ref s41, .ref s42])), (s20, .inl (k20, 100, .inl (fun _ => 0)))] H := hP
  have hD : va_D A [(h0, .inr (12, [.ref s0, .int 0, .int 0, .ref s3, .ref s4, .ref s5, .ref s6, .ref s7, .int 0, .int 0, .int 0, .int 0, .int 0, .int 0, .int 0, .ref s15, .int 0, .ref s17, .int 0, .ref s19, .ref s20, .int (-1), .int 0, .int 0, .int 0, .int 0, .int 0, .ref s27, .int 0, .ref s29, .ref s30, .ref s31, .int 0, .int 0, .int 0, .ref s35, .ref s36, .ref s37, .long 0, .ref s39, .ref s40, .ref s41, .ref s42])), (s20, .inl (k20, 100, .inl (fun _ => 0)))] := hD
  obtain rfl : r_1 = 0 := hw
  refine lv_if_eq (tgt := 20) hx hb dX12_guest_5 (by decide) (fun _ => ?_) (fun c9 => absurd c9 (by decide))
  refine lv_iconst (v := (-1)) hx hb dX12_guest_20 (by decide) ?_
  refine W.widen (k := 0) (n := 0) (Nat.le_of_ble_eq_true rfl) (Nat.le_of_ble_eq_true rfl) ?_
  exact W.iret (v := (-1)) hx hb hr (fun t ht hW => ⟨⟨(-1), (), rfl, rfl, trivial⟩, hS.F ht⟩) hS.2.2 dX12_guest_21

set_option maxHeartbeats 4000000 in
set_option maxRecDepth 100000 in
/-- c_M_fetch -/
theorem c_M_fetch (l : Launch) (dC : Nat → ClassId) (dI : Nat → Nat → Nat) (sz : Nat) (h0 : Nat) (s0 : Nat) (s3 : Nat) (s4 : Nat) (s5 : Nat) (s6 : Nat) (s7 : Nat) (s15 : Nat) (s17 : Nat) (s19 : Nat) (s20 : Nat) (s27 : Nat) (s29 : Nat) (s30 : Nat) (s31 : Nat) (s35 : Nat) (s36 : Nat) (s37 : Nat) (s39 : Nat) (s40 : Nat) (s41 : Nat) (s42 : Nat) (k20 : ClassId) (x0 : Int32) : Met l yX12_fetch (.code yX12_fetch cX12_fetch 3 (some .int) :: wsA) ({ frames := 1, cells := 0, slots := 0, locals := 21 }) (va_Pc [.ref h0, .int x0] (fun U => U.heap.size = sz ∧ va_P (dC, dI) classes [(h0, .inr (12, [.ref s0, .int 0, .int 0, .ref s3, .ref s4, .ref s5, .ref s6, .ref s7, .int 0, .int 0, .int 0, .int 0, .int 0, .int 0, .int 0, .ref s15, .int 0, .ref s17, .int 0, .ref s19, .ref s20, .int (-1), .int 0, .int 0, .int 0, .int 0, .int 0, .ref s27, .int 0, .ref s29, .ref s30, .ref s31, .int 0, .int 0, .int 0, .ref s35, .ref s36, .ref s37, .long 0, .ref s39, .ref s40, .ref s41, .ref s42])), (s20, .inl (k20, 100, .inl (fun _ => 0)))] U.heap ∧ va_K (dC, dI) classes [(k20, .int)] U ∧ va_D (fun _ => True) [(h0, .inr (12, [.ref s0, .int 0, .int 0, .ref s3, .ref s4, .ref s5, .ref s6, .ref s7, .int 0, .int 0, .int 0, .int 0, .int 0, .int 0, .int 0, .ref s15, .int 0, .ref s17, .int 0, .ref s19, .ref s20, .int (-1), .int 0, .int 0, .int 0, .int 0, .int 0, .ref s27, .int 0, .ref s29, .ref s30, .ref s31, .int 0, .int 0, .int 0, .ref s35, .ref s36, .ref s37, .long 0, .ref s39, .ref s40, .ref s41, .ref s42])), (s20, .inl (k20, 100, .inl (fun _ => 0)))] ∧ xE U)) (va_Qi (fun (r : Int32) (_ : Unit) => r = (-1)) (fun _ _ => True) (va_A [(h0, .inr (12, [.ref s0, .int 0, .int 0, .ref s3, .ref s4, .ref s5, .ref s6, .ref s7, .int 0, .int 0, .int 0, .int 0, .int 0, .int 0, .int 0, .ref s15, .int 0, .ref s17, .int 0, .ref s19, .ref s20, .int (-1), .int 0, .int 0, .int 0, .int 0, .int 0, .ref s27, .int 0, .ref s29, .ref s30, .ref s31, .int 0, .int 0, .int 0, .ref s35, .ref s36, .ref s37, .long 0, .ref s39, .ref s40, .ref s41, .ref s42])), (s20, .inl (k20, 100, .inl (fun _ => 0)))] sz)) 0 0 (va_A [(h0, .inr (12, [.ref s0, .int 0, .int 0, .ref s3, .ref s4, .ref s5, .ref s6, .ref s7, .int 0, .int 0, .int 0, .int 0, .int 0, .int 0, .int 0, .ref s15, .int 0, .ref s17, .int 0, .ref s19, .ref s20, .int (-1), .int 0, .int 0, .int 0, .int 0, .int 0, .ref s27, .int 0, .ref s29, .ref s30, .ref s31, .int 0, .int 0, .int 0, .ref s35, .ref s36, .ref s37, .long 0, .ref s39, .ref s40, .ref s41, .ref s42])), (s20, .inl (k20, 100, .inl (fun _ => 0)))] sz) := by
  refine Met.ofW (cc := cX12_fetch) (maxL := 3) (ret := (some .int)) (by decide) rfl ?_
  intro p e s m args below meth c s₁ B hml hv
  obtain ⟨rfl, hsz, hP, hK, hD0, hE⟩ := hv
  have hx := B.exec
  have hb := B.bytes
  have hr := B.returns
  have hts := atoms_spec (ws := .code yX12_fetch cX12_fetch 3 (some .int) :: wsA) B.pre
  have hq : ∀ w ∈ wsA, w.before _ s = true := fun w h => hts w (List.mem_cons_of_mem _ h)
  have hown : s.vm.findClass RX12 = some m.cls := findClass_of_methodNamed B.named
  have hlocks := B.notSynchronized
  subst hsz
  have hD := hD0.self (sz := s.heap.size)
  generalize hAe : va_A [(h0, .inr (12, [.ref s0, .int 0, .int 0, .ref s3, .ref s4, .ref s5, .ref s6, .ref s7, .int 0, .int 0, .int 0, .int 0, .int 0, .int 0, .int 0, .ref s15, .int 0, .ref s17, .int 0, .ref s19, .ref s20, .int (-1), .int 0, .int 0, .int 0, .int 0, .int 0, .ref s27, .int 0, .ref s29, .ref s30, .ref s31, .int 0, .int 0, .int 0, .ref s35, .ref s36, .ref s37, .long 0, .ref s39, .ref s40, .ref s41, .ref s42])), (s20, .inl (k20, 100, .inl (fun _ => 0)))] s.heap.size = A at hD ⊢
  have hA : ∀ q : Nat, s.heap.size ≤ q → A q := fun q h => by rw [← hAe]; exact Or.inr h
  have hS : va_S A s.heap s.heap [] := va_S.rf
  have hl := lv_entry ([.ref h0, .int x0]) (n := 3) (Nat.le_of_ble_eq_true rfl)
  rw [lg_entry_eq]
  generalize (lg_sl ([.ref h0, .int x0]) ++ List.replicate (3 - (lg_sl ([.ref h0, .int x0])).length) Slot.unset).toArray = ls at hl ⊢
  have hl : lv_has ls 3 [(0, .ref h0), (1, .int x0)] := hl
  refine lv_aload_n hx hb dX12_fetch_0 rfl (lv_at hl 0 rfl) ?_
  refine lv_iload_n hx hb dX12_fetch_1 rfl (lv_at hl 1 rfl) ?_
  have hPc := hP.sub (ws' := [(h0, .inr (12, [.ref s0, .int 0, .int 0, .ref s3, .ref s4, .ref s5, .ref s6, .ref s7, .int 0, .int 0, .int 0, .int 0, .int 0, .int 0, .int 0, .ref s15, .int 0, .ref s17, .int 0, .ref s19, .ref s20, .int (-1), .int 0, .int 0, .int 0, .int 0, .int 0, .ref s27, .int 0, .ref s29, .ref s30, .ref s31, .int 0, .int 0, .int 0, .ref s35, .ref s36, .ref s37, .long 0, .ref s39, .ref s40, .ref s41, .ref s42])), (s20, .inl (k20, 100, .inl (fun _ => 0)))]) [0, 1] rfl
  have hDc := hD.sub (ws' := [(h0, .inr (12, [.ref s0, .int 0, .int 0, .ref s3, .ref s4, .ref s5, .ref s6, .ref s7, .int 0, .int 0, .int 0, .int 0, .int 0, .int 0, .int 0, .ref s15, .int 0, .ref s17, .int 0, .ref s19, .ref s20, .int (-1), .int 0, .int 0, .int 0, .int 0, .int 0, .ref s27, .int 0, .ref s29, .ref s30, .ref s31, .int 0, .int 0, .int 0, .ref s35, .ref s36, .ref s37, .long 0, .ref s39, .ref s40, .ref s41, .ref s42])), (s20, .inl (k20, 100, .inl (fun _ => 0)))]) [0, 1] (by decide) rfl
  have hKc := hK.sub (tys' := [(k20, .int)]) [0] rfl
  have hFc := va_free (wc := [(h0, .inr (12, [.ref s0, .int 0, .int 0, .ref s3, .ref s4, .ref s5, .ref s6, .ref s7, .int 0, .int 0, .int 0, .int 0, .int 0, .int 0, .int 0, .ref s15, .int 0, .ref s17, .int 0, .ref s19, .ref s20, .int (-1), .int 0, .int 0, .int 0, .int 0, .int 0, .ref s27, .int 0, .ref s29, .ref s30, .ref s31, .int 0, .int 0, .int 0, .ref s35, .ref s36, .ref s37, .long 0, .ref s39, .ref s40, .ref s41, .ref s42])), (s20, .inl (k20, 100, .inl (fun _ => 0)))]) hD hS hA [0, 1] rfl
  refine va_calli (va_runV (As := [.int x0]) (rest := []) ⟨hx, hb, hml, hown, hq⟩ (c_M_isGuest l dC dI _ h0 s0 s3 s4 s5 s6 s7 s15 s17 s19 s20 s27 s29 s30 s31 s35 s36 s37 s39 s40 s41 s42 k20 x0 ) (cwV 1 hq (gV qw_1485 qw_1487 qw_74 qw_131 qw_1488) rfl rfl rfl (by decide +kernel) ⟨Nat.le_of_ble_eq_true rfl, Nat.le_of_ble_eq_true rfl⟩) ⟨fun a U g mk q => by obtain ⟨q0, q1, qP, qK, qD, qE⟩ := q; exact ⟨q0, q1, qP, va_K.moved (u := U) (U := U.calling g mk a) (Vm.Alike.refl U.vm) qK, qD, xE.same rfl qE⟩, va_recv hKc hPc (ci := 12) (q0 := 0) rfl rfl, fun U hU hW => ⟨rfl, by rw [hU], by rw [hU]; exact hPc, va_K.moved hW.alike hKc, hDc.weaken (fun _ _ _ _ => trivial), xE.warm hW hE⟩⟩ rfl rfl hl.1 rfl (lv_room (Nat.le_of_ble_eq_true rfl)) dX12_fetch_2 ⟨Nat.le_of_ble_eq_true rfl, Nat.le_of_ble_eq_true rfl⟩) hS (fun q _ h => hFc q h) hFc (fun r_1 u t H1 locs ht hvm hw hB hz1 hk1 hS => ?_)
  obtain ⟨hP1, hK1, hD1⟩ := hB
  rw [ht] at hP1
  have hK1 := va_K.moved hvm.symm hK1
  obtain ⟨hP, hD⟩ := va_join (wr := []) (w1 := [(h0, .inr (12, [.ref s0, .int 0, .int 0, .ref s3, .ref s4, .ref s5, .ref s6, .ref s7, .int 0, .int 0, .int 0, .int 0, .int 0, .int 0, .int 0, .ref s15, .int 0, .ref s17, .int 0, .ref s19, .ref s20, .int (-1), .int 0, .int 0, .int 0, .int 0, .int 0, .ref s27, .int 0, .ref s29, .ref s30, .ref s31, .int 0, .int 0, .int 0, .ref s35, .ref s36, .ref s37, .long 0, .ref s39, .ref s40, .ref s41, .ref s42])), (s20, .inl (k20, 100, .inl (fun _ => 0)))]) hP hD [0, 1] [] rfl rfl (by decide) (by decide) hk1 hFc hP1 hD1
  generalize H1 = H at hP hS ⊢
  have hP : va_P (dC, dI) classes [(h0, .inr (12, [.ref s0, .int 0, .int 0, .ref s3, .ref s4, .ref s5, .ref s6, .ref s7, .int 0, .int 0, .int 0, .int 0, .int 0, .int 0, .int 0, .ref s15, .int 0, .ref s17, .int 0, .ref s19, .ref s20, .int (-1), .int 0, .int 0, .int 0, .int 0, .int 0, .ref s27, .int 0, .ref s29, .ref s30, .ref s31, .int 0, .int 0, .int 0, .ref s35, .ref s36, .ref s37, .long 0, .ref s39, .ref s40, .ref s41, .ref s42])), (s20, .inl (k20, 100, .inl (fun _ => 0)))] H := hP
  have hD : va_D A [(h0, .inr (12, [.ref s0, .int 0, .int 0, .ref s3, .ref s4, .ref s5, .ref s6, .ref s7, .int 0, .int 0, .int 0, .int 0, .int 0, .int 0, .int 0, .ref s15, .int 0, .ref s17, .int 0, .ref s19, .ref s20, .int (-1), .int 0, .int 0, .int 0, .int 0, .int 0, .ref s27, .int 0, .ref s29, .ref s30, .ref s31, .int 0, .int 0, .int 0, .ref s35, .ref s36, .ref s37, .long 0, .ref s39, .ref s40, .ref s41, .ref s42])), (s20, .inl (k20, 100, .inl (fun _ => 0)))] := hD
  obtain rfl : r_1 = 0 := hw
  refine lv_if_eq (tgt := 16) hx hb dX12_fetch_5 (by decide) (fun _ => ?_) (fun c9 => absurd c9 (by decide))
  refine lv_iconst (v := (-1)) hx hb dX12_fetch_16 (by decide) ?_
  refine W.widen (k := 0) (n := 0) (Nat.le_of_ble_eq_true rfl) (Nat.le_of_ble_eq_true rfl) ?_
  exact W.iret (v := (-1)) hx hb hr (fun t ht hW => ⟨⟨(-1), (), rfl, rfl, trivial⟩, hS.F ht⟩) hS.2.2 dX12_fetch_17

set_option maxHeartbeats 4000000 in
set_option maxRecDepth 100000 in
/-- c_M_tell -/
theorem c_M_tell (l : Launch) (dC : Nat → ClassId) (dI : Nat → Nat → Nat) (sz : Nat) (h0 : Nat) (s0 : Nat) (s3 : Nat) (s4 : Nat) (s5 : Nat) (s6 : Nat) (s7 : Nat) (s15 : Nat) (s17 : Nat) (s19 : Nat) (s20 : Nat) (s27 : Nat) (s29 : Nat) (s30 : Nat) (s31 : Nat) (s35 : Nat) (s36 : Nat) (s37 : Nat) (s39 : Nat) (s40 : Nat) (s41 : Nat) (s42 : Nat) (k20 : ClassId) (x0 : Int32) (x1 : Int32) : Met l yX12_tell (.code yX12_tell cX12_tell 3 (some .int) :: wsA) ({ frames := 1, cells := 0, slots := 0, locals := 21 }) (va_Pc [.ref h0, .int x0, .int x1] (fun U => U.heap.size = sz ∧ va_P (dC, dI) classes [(h0, .inr (12, [.ref s0, .int 0, .int 0, .ref s3, .ref s4, .ref s5, .ref s6, .ref s7, .int 0, .int 0, .int 0, .int 0, .int 0, .int 0, .int 0, .ref s15, .int 0, .ref s17, .int 0, .ref s19, .ref s20, .int (-1), .int 0, .int 0, .int 0, .int 0, .int 0, .ref s27, .int 0, .ref s29, .ref s30, .ref s31, .int 0, .int 0, .int 0, .ref s35, .ref s36, .ref s37, .long 0, .ref s39, .ref s40, .ref s41, .ref s42])), (s20, .inl (k20, 100, .inl (fun _ => 0)))] U.heap ∧ va_K (dC, dI) classes [(k20, .int)] U ∧ va_D (fun _ => True) [(h0, .inr (12, [.ref s0, .int 0, .int 0, .ref s3, .ref s4, .ref s5, .ref s6, .ref s7, .int 0, .int 0, .int 0, .int 0, .int 0, .int 0, .int 0, .ref s15, .int 0, .ref s17, .int 0, .ref s19, .ref s20, .int (-1), .int 0, .int 0, .int 0, .int 0, .int 0, .ref s27, .int 0, .ref s29, .ref s30, .ref s31, .int 0, .int 0, .int 0, .ref s35, .ref s36, .ref s37, .long 0, .ref s39, .ref s40, .ref s41, .ref s42])), (s20, .inl (k20, 100, .inl (fun _ => 0)))] ∧ xE U)) (va_Qi (fun (r : Int32) (_ : Unit) => r = (-1)) (fun _ _ => True) (va_A [(h0, .inr (12, [.ref s0, .int 0, .int 0, .ref s3, .ref s4, .ref s5, .ref s6, .ref s7, .int 0, .int 0, .int 0, .int 0, .int 0, .int 0, .int 0, .ref s15, .int 0, .ref s17, .int 0, .ref s19, .ref s20, .int (-1), .int 0, .int 0, .int 0, .int 0, .int 0, .ref s27, .int 0, .ref s29, .ref s30, .ref s31, .int 0, .int 0, .int 0, .ref s35, .ref s36, .ref s37, .long 0, .ref s39, .ref s40, .ref s41, .ref s42])), (s20, .inl (k20, 100, .inl (fun _ => 0)))] sz)) 0 0 (va_A [(h0, .inr (12, [.ref s0, .int 0, .int 0, .ref s3, .ref s4, .ref s5, .ref s6, .ref s7, .int 0, .int 0, .int 0, .int 0, .int 0, .int 0, .int 0, .ref s15, .int 0, .ref s17, .int 0, .ref s19, .ref s20, .int (-1), .int 0, .int 0, .int 0, .int 0, .int 0, .ref s27, .int 0, .ref s29, .ref s30, .ref s31, .int 0, .int 0, .int 0, .ref s35, .ref s36, .ref s37, .long 0, .ref s39, .ref s40, .ref s41, .ref s42])), (s20, .inl (k20, 100, .inl (fun _ => 0)))] sz) := by
  refine Met.ofW (cc := cX12_tell) (maxL := 3) (ret := (some .int)) (by decide) rfl ?_
  intro p e s m args below meth c s₁ B hml hv
  obtain ⟨rfl, hsz, hP, hK, hD0, hE⟩ := hv
  have hx := B.exec
  have hb := B.bytes
  have hr := B.returns
  have hts := atoms_spec (ws := .code yX12_tell cX12_tell 3 (some .int) :: wsA) B.pre
  have hq : ∀ w ∈ wsA, w.before _ s = true := fun w h => hts w (List.mem_cons_of_mem _ h)
  have hown : s.vm.findClass RX12 = some m.cls := findClass_of_methodNamed B.named
  have hlocks := B.notSynchronized
  subst hsz
  have hD := hD0.self (sz := s.heap.size)
  generalize hAe : va_A [(h0, .inr (12, [.ref s0, .int 0, .int 0, .ref s3, .ref s4, .ref s5, .ref s6, .ref s7, .int 0, .int 0, .int 0, .int 0, .int 0, .int 0, .int 0, .ref s15, .int 0, .ref s17, .int 0, .ref s19, .ref s20, .int (-1), .int 0, .int 0, .int 0, .int 0, .int 0, .ref s27, .int 0, .ref s29, .ref s30, .ref s31, .int 0, .int 0, .int 0, .ref s35, .ref s36, .ref s37, .long 0, .ref s39, .ref s40, .ref s41, .ref s42])), (s20, .inl (k20, 100, .inl (fun _ => 0)))] s.heap.size = A at hD ⊢
  have hA : ∀ q : Nat, s.heap.size ≤ q → A q := fun q h => by rw [← hAe]; exact Or.inr h
  have hS : va_S A s.heap s.heap [] := va_S.rf
  have hl := lv_entry ([.ref h0, .int x0, .int x1]) (n := 3) (Nat.le_of_ble_eq_true rfl)
  rw [lg_entry_eq]
  generalize (lg_sl ([.ref h0, .int x0, .int x1]) ++ List.replicate (3 - (lg_sl ([.ref h0, .int x0, .int x1])).length) Slot.unset).toArray = ls at hl ⊢
  have hl : lv_has ls 3 [(0, .ref h0), (1, .int x0), (2, .int x1)] := hl
  refine lv_aload_n hx hb dX12_tell_0 rfl (lv_at hl 0 rfl) ?_
  refine lv_iload_n hx hb dX12_tell_1 rfl (lv_at hl 1 rfl) ?_
  have hPc := hP.sub (ws' := [(h0, .inr (12, [.ref s0, .int 0, .int 0, .ref s3, .ref s4, .ref s5, .ref s6, .ref s7, .int 0, .int 0, .int 0, .int 0, .int 0, .int 0, .int 0, .ref s15, .int 0, .ref s17, .int 0, .ref s19, .ref s20, .int (-1), .int 0, .int 0, .int 0, .int 0, .int 0, .ref s27, .int 0, .ref s29, .ref s30, .ref s31, .int 0, .int 0, .int 0, .ref s35, .ref s36, .ref s37, .long 0, .ref s39, .ref s40, .ref s41, .ref s42])), (s20, .inl (k20, 100, .inl (fun _ => 0)))]) [0, 1] rfl
  have hDc := hD.sub (ws' := [(h0, .inr (12, [.ref s0, .int 0, .int 0, .ref s3, .ref s4, .ref s5, .ref s6, .ref s7, .int 0, .int 0, .int 0, .int 0, .int 0, .int 0, .int 0, .ref s15, .int 0, .ref s17, .int 0, .ref s19, .ref s20, .int (-1), .int 0, .int 0, .int 0, .int 0, .int 0, .ref s27, .int 0, .ref s29, .ref s30, .ref s31, .int 0, .int 0, .int 0, .ref s35, .ref s36, .ref s37, .long 0, .ref s39, .ref s40, .ref s41, .ref s42])), (s20, .inl (k20, 100, .inl (fun _ => 0)))]) [0, 1] (by decide) rfl
  have hKc := hK.sub (tys' := [(k20, .int)]) [0] rfl
  have hFc := va_free (wc := [(h0, .inr (12, [.ref s0, .int 0, .int 0, .ref s3, .ref s4, .ref s5, .ref s6, .ref s7, .int 0, .int 0, .int 0, .int 0, .int 0, .int 0, .int 0, .ref s15, .int 0, .ref s17, .int 0, .ref s19, .ref s20, .int (-1), .int 0, .int 0, .int 0, .int 0, .int 0, .ref s27, .int 0, .ref s29, .ref s30, .ref s31, .int 0, .int 0, .int 0, .ref s35, .ref s36, .ref s37, .long 0, .ref s39, .ref s40, .ref s41, .ref s42])), (s20, .inl (k20, 100, .inl (fun _ => 0)))]) hD hS hA [0, 1] rfl
  refine va_calli (va_runV (As := [.int x0]) (rest := []) ⟨hx, hb, hml, hown, hq⟩ (c_M_isGuest l dC dI _ h0 s0 s3 s4 s5 s6 s7 s15 s17 s19 s20 s27 s29 s30 s31 s35 s36 s37 s39 s40 s41 s42 k20 x0 ) (cwV 1 hq (gV qw_1485 qw_1487 qw_74 qw_131 qw_1488) rfl rfl rfl (by decide +kernel) ⟨Nat.le_of_ble_eq_true rfl, Nat.le_of_ble_eq_true rfl⟩) ⟨fun a U g mk q => by obtain ⟨q0, q1, qP, qK, qD, qE⟩ := q; exact ⟨q0, q1, qP, va_K.moved (u := U) (U := U.calling g mk a) (Vm.Alike.refl U.vm) qK, qD, xE.same rfl qE⟩, va_recv hKc hPc (ci := 12) (q0 := 0) rfl rfl, fun U hU hW => ⟨rfl, by rw [hU], by rw [hU]; exact hPc, va_K.moved hW.alike hKc, hDc.weaken (fun _ _ _ _ => trivial), xE.warm hW hE⟩⟩ rfl rfl hl.1 rfl (lv_room (Nat.le_of_ble_eq_true rfl)) dX12_tell_2 ⟨Nat.le_of_ble_eq_true rfl, Nat.le_of_ble_eq_true rfl⟩) hS (fun q _ h => hFc q h) hFc (fun r_1 u t H1 locs ht hvm hw hB hz1 hk1 hS => ?_)
  obtain ⟨hP1, hK1, hD1⟩ := hB
  rw [ht] at hP1
  have hK1 := va_K.moved hvm.symm hK1
  obtain ⟨hP, hD⟩ := va_join (wr := []) (w1 := [(h0, .inr (12, [.ref s0, .int 0, .int 0, .ref s3, .ref s4, .ref s5, .ref s6, .ref s7, .int 0, .int 0, .int 0, .int 0, .int 0, .int 0, .int 0, .ref s15, .int 0, .ref s17, .int 0, .ref s19, .ref s20, .int (-1), .int 0, .int 0, .int 0, .int 0, .int 0, .ref s27, .int 0, .ref s29, .ref s30, .ref s31, .int 0, .int 0, .int 0, .ref s35, .ref s36, .ref s37, .long 0, .ref s39, .ref s40, .ref s41, .ref s42])), (s20, .inl (k20, 100, .inl (fun _ => 0)))]) hP hD [0, 1] [] rfl rfl (by decide) (by decide) hk1 hFc hP1 hD1
  generalize H1 = H at hP hS ⊢
  have hP : va_P (dC, dI) classes [(h0, .inr (12, [.ref s0, .int 0, .int 0, .ref s3, .ref s4, .ref s5, .ref s6, .ref s7, .int 0, .int 0, .int 0, .int 0, .int 0, .int 0, .int 0, .ref s15, .int 0, .ref s17, .int 0, .ref s19, .ref s20, .int (-1), .int 0, .int 0, .int 0, .int 0, .int 0, .ref s27, .int 0, .ref s29, .ref s30, .ref s31, .int 0, .int 0, .int 0, .ref s35, .ref s36, .ref s37, .long 0, .ref s39, .ref s40, .ref s41, .ref s42])), (s20, .inl (k20, 100, .inl (fun _ => 0)))] H := hP
  have hD : va_D A [(h0, .inr (12, [.ref s0, .int 0, .int 0, .ref s3, .ref s4, .ref s5, .ref s6, .ref s7, .int 0, .int 0, .int 0, .int 0, .int 0, .int 0, .int 0, .ref s15, .int 0, .ref s17, .int 0, .ref s19, .ref s20, .int (-1), .int 0, .int 0, .int 0, .int 0, .int 0, .ref s27, .int 0, .ref s29, .ref s30, .ref s31, .int 0, .int 0, .int 0, .ref s35, .ref s36, .ref s37, .long 0, .ref s39, .ref s40, .ref s41, .ref s42])), (s20, .inl (k20, 100, .inl (fun _ => 0)))] := hD
  obtain rfl : r_1 = 0 := hw
  refine lv_if_eq (tgt := 40) hx hb dX12_tell_5 (by decide) (fun _ => ?_) (fun c9 => absurd c9 (by decide))
  refine lv_iconst (v := (-1)) hx hb dX12_tell_40 (by decide) ?_
  refine W.widen (k := 0) (n := 0) (Nat.le_of_ble_eq_true rfl) (Nat.le_of_ble_eq_true rfl) ?_
  exact W.iret (v := (-1)) hx hb hr (fun t ht hW => ⟨⟨(-1), (), rfl, rfl, trivial⟩, hS.F ht⟩) hS.2.2 dX12_tell_41

set_option maxHeartbeats 4000000 in
set_option maxRecDepth 100000 in
/-- c_M_rests -/
theorem c_M_rests (l : Launch) (dC : Nat → ClassId) (dI : Nat → Nat → Nat) (sz : Nat) (h0 : Nat) (s0 : Nat) (s3 : Nat) (s4 : Nat) (s5 : Nat) (s6 : Nat) (s7 : Nat) (s15 : Nat) (s17 : Nat) (s19 : Nat) (s20 : Nat) (s27 : Nat) (s29 : Nat) (s30 : Nat) (s31 : Nat) (s35 : Nat) (s36 : Nat) (s37 : Nat) (s39 : Nat) (s40 : Nat) (s41 : Nat) (s42 : Nat) (k20 : ClassId) (x0 : Int32) (x1 : Int32) (x2 : Int32) (x3 : Int32) : Met l yX12_rests (.code yX12_rests cX12_rests 8 (some .int) :: wsA) ({ frames := 1, cells := 0, slots := 0, locals := 21 }) (va_Pc [.ref h0, .int x0, .int x1, .int x2, .int x3] (fun U => U.heap.size = sz ∧ va_P (dC, dI) classes [(h0, .inr (12, [.ref s0, .int 0, .int 0, .ref s3, .ref s4, .ref s5, .ref s6, .ref s7, .int 0, .int 0, .int 0, .int 0, .int 0, .int 0, .int 0, .ref s15, .int 0, .ref s17, .int 0, .ref s19, .ref s20, .int (-1), .int 0, .int 0, .int 0, .int 0, .int 0, .ref s27, .int 0, .ref s29, .ref s30, .ref s31, .int 0, .int 0, .int 0, .ref s35, .ref s36, .ref s37, .long 0, .ref s39, .ref s40, .ref s41, .ref s42])), (s20, .inl (k20, 100, .inl (fun _ => 0)))] U.heap ∧ va_K (dC, dI) classes [(k20, .int)] U ∧ va_D (fun _ => True) [(h0, .inr (12, [.ref s0, .int 0, .int 0, .ref s3, .ref s4, .ref s5, .ref s6, .ref s7, .int 0, .int 0, .int 0, .int 0, .int 0, .int 0, .int 0, .ref s15, .int 0, .ref s17, .int 0, .ref s19, .ref s20, .int (-1), .int 0, .int 0, .int 0, .int 0, .int 0, .ref s27, .int 0, .ref s29, .ref s30, .ref s31, .int 0, .int 0, .int 0, .ref s35, .ref s36, .ref s37, .long 0, .ref s39, .ref s40, .ref s41, .ref s42])), (s20, .inl (k20, 100, .inl (fun _ => 0)))] ∧ xE U)) (va_Qi (fun (r : Int32) (_ : Unit) => r = (-1)) (fun _ _ => True) (va_A [(h0, .inr (12, [.ref s0, .int 0, .int 0, .ref s3, .ref s4, .ref s5, .ref s6, .ref s7, .int 0, .int 0, .int 0, .int 0, .int 0, .int 0, .int 0, .ref s15, .int 0, .ref s17, .int 0, .ref s19, .ref s20, .int (-1), .int 0, .int 0, .int 0, .int 0, .int 0, .ref s27, .int 0, .ref s29, .ref s30, .ref s31, .int 0, .int 0, .int 0, .ref s35, .ref s36, .ref s37, .long 0, .ref s39, .ref s40, .ref s41, .ref s42])), (s20, .inl (k20, 100, .inl (fun _ => 0)))] sz)) 0 0 (va_A [(h0, .inr (12, [.ref s0, .int 0, .int 0, .ref s3, .ref s4, .ref s5, .ref s6, .ref s7, .int 0, .int 0, .int 0, .int 0, .int 0, .int 0, .int 0, .ref s15, .int 0, .ref s17, .int 0, .ref s19, .ref s20, .int (-1), .int 0, .int 0, .int 0, .int 0, .int 0, .ref s27, .int 0, .ref s29, .ref s30, .ref s31, .int 0, .int 0, .int 0, .ref s35, .ref s36, .ref s37, .long 0, .ref s39, .ref s40, .ref s41, .ref s42])), (s20, .inl (k20, 100, .inl (fun _ => 0)))] sz) := by
  refine Met.ofW (cc := cX12_rests) (maxL := 8) (ret := (some .int)) (by decide) rfl ?_
  intro p e s m args below meth c s₁ B hml hv
  obtain ⟨rfl, hsz, hP, hK, hD0, hE⟩ := hv
  have hx := B.exec
  have hb := B.bytes
  have hr := B.returns
  have hts := atoms_spec (ws := .code yX12_rests cX12_rests 8 (some .int) :: wsA) B.pre
  have hq : ∀ w ∈ wsA, w.before _ s = true := fun w h => hts w (List.mem_cons_of_mem _ h)
  have hown : s.vm.findClass RX12 = some m.cls := findClass_of_methodNamed B.named
  have hlocks := B.notSynchronized
  subst hsz
  have hD := hD0.self (sz := s.heap.size)
  generalize hAe : va_A [(h0, .inr (12, [.ref s0, .int 0, .int 0, .ref s3, .ref s4, .ref s5, .ref s6, .ref s7, .int 0, .int 0, .int 0, .int 0, .int 0, .int 0, .int 0, .ref s15, .int 0, .ref s17, .int 0, .ref s19, .ref s20, .int (-1), .int 0, .int 0, .int 0, .int 0, .int 0, .ref s27, .int 0, .ref s29, .ref s30, .ref s31, .int 0, .int 0, .int 0, .ref s35, .ref s36, .ref s37, .long 0, .ref s39, .ref s40, .ref s41, .ref s42])), (s20, .inl (k20, 100, .inl (fun _ => 0)))] s.heap.size = A at hD ⊢
  have hA : ∀ q : Nat, s.heap.size ≤ q → A q := fun q h => by rw [← hAe]; exact Or.inr h
  have hS : va_S A s.heap s.heap [] := va_S.rf
  have hl := lv_entry ([.ref h0, .int x0, .int x1, .int x2, .int x3]) (n := 8) (Nat.le_of_ble_eq_true rfl)
  rw [lg_entry_eq]
  generalize (lg_sl ([.ref h0, .int x0, .int x1, .int x2, .int x3]) ++ List.replicate (8 - (lg_sl ([.ref h0, .int x0, .int x1, .int x2, .int x3])).length) Slot.unset).toArray = ls at hl ⊢
  have hl : lv_has ls 8 [(0, .ref h0), (1, .int x0), (2, .int x1), (3, .int x2), (4, .int x3)] := hl
  refine lv_aload_n hx hb dX12_rests_0 rfl (lv_at hl 0 rfl) ?_
  refine lv_iload_n hx hb dX12_rests_1 rfl (lv_at hl 1 rfl) ?_
  have hPc := hP.sub (ws' := [(h0, .inr (12, [.ref s0, .int 0, .int 0, .ref s3, .ref s4, .ref s5, .ref s6, .ref s7, .int 0, .int 0, .int 0, .int 0, .int 0, .int 0, .int 0, .ref s15, .int 0, .ref s17, .int 0, .ref s19, .ref s20, .int (-1), .int 0, .int 0, .int 0, .int 0, .int 0, .ref s27, .int 0, .ref s29, .ref s30, .ref s31, .int 0, .int 0, .int 0, .ref s35, .ref s36, .ref s37, .long 0, .ref s39, .ref s40, .ref s41, .ref s42])), (s20, .inl (k20, 100, .inl (fun _ => 0)))]) [0, 1] rfl
  have hDc := hD.sub (ws' := [(h0, .inr (12, [.ref s0, .int 0, .int 0, .ref s3, .ref s4, .ref s5, .ref s6, .ref s7, .int 0, .int 0, .int 0, .int 0, .int 0, .int 0, .int 0, .ref s15, .int 0, .ref s17, .int 0, .ref s19, .ref s20, .int (-1), .int 0, .int 0, .int 0, .int 0, .int 0, .ref s27, .int 0, .ref s29, .ref s30, .ref s31, .int 0, .int 0, .int 0, .ref s35, .ref s36, .ref s37, .long 0, .ref s39, .ref s40, .ref s41, .ref s42])), (s20, .inl (k20, 100, .inl (fun _ => 0)))]) [0, 1] (by decide) rfl
  have hKc := hK.sub (tys' := [(k20, .int)]) [0] rfl
  have hFc := va_free (wc := [(h0, .inr (12, [.ref s0, .int 0, .int 0, .ref s3, .ref s4, .ref s5, .ref s6, .ref s7, .int 0, .int 0, .int 0, .int 0, .int 0, .int 0, .int 0, .ref s15, .int 0, .ref s17, .int 0, .ref s19, .ref s20, .int (-1), .int 0, .int 0, .int 0, .int 0, .int 0, .ref s27, .int 0, .ref s29, .ref s30, .ref s31, .int 0, .int 0, .int 0, .ref s35, .ref s36, .ref s37, .long 0, .ref s39, .ref s40, .ref s41, .ref s42])), (s20, .inl (k20, 100, .inl (fun _ => 0)))]) hD hS hA [0, 1] rfl
  refine va_calli (va_runV (As := [.int x0]) (rest := []) ⟨hx, hb, hml, hown, hq⟩ (c_M_isGuest l dC dI _ h0 s0 s3 s4 s5 s6 s7 s15 s17 s19 s20 s27 s29 s30 s31 s35 s36 s37 s39 s40 s41 s42 k20 x0 ) (cwV 1 hq (gV qw_1485 qw_1487 qw_74 qw_131 qw_1488) rfl rfl rfl (by decide +kernel) ⟨Nat.le_of_ble_eq_true rfl, Nat.le_of_ble_eq_true rfl⟩) ⟨fun a U g mk q => by obtain ⟨q0, q1, qP, qK, qD, qE⟩ := q; exact ⟨q0, q1, qP, va_K.moved (u := U) (U := U.calling g mk a) (Vm.Alike.refl U.vm) qK, qD, xE.same rfl qE⟩, va_recv hKc hPc (ci := 12) (q0 := 0) rfl rfl, fun U hU hW => ⟨rfl, by rw [hU], by rw [hU]; exact hPc, va_K.moved hW.alike hKc, hDc.weaken (fun _ _ _ _ => trivial), xE.warm hW hE⟩⟩ rfl rfl hl.1 rfl (lv_room (Nat.le_of_ble_eq_true rfl)) dX12_rests_2 ⟨Nat.le_of_ble_eq_true rfl, Nat.le_of_ble_eq_true rfl⟩) hS (fun q _ h => hFc q h) hFc (fun r_1 u t H1 locs ht hvm hw hB hz1 hk1 hS => ?_)
  obtain ⟨hP1, hK1, hD1⟩ := hB
  rw [ht] at hP1
  have hK1 := va_K.moved hvm.symm hK1
  obtain ⟨hP, hD⟩ := va_join (wr := []) (w1 := [(h0, .inr (12, [.ref s0, .int 0, .int 0, .ref s3, .ref s4, .ref s5, .ref s6, .ref s7, .int 0, .int 0, .int 0, .int 0, .int 0, .int 0, .int 0, .ref s15, .int 0, .ref s17, .int 0, .ref s19, .ref s20, .int (-1), .int 0, .int 0, .int 0, .int 0, .int 0, .ref s27, .int 0, .ref s29, .ref s30, .ref s31, .int 0, .int 0, .int 0, .ref s35, .ref s36, .ref s37, .long 0, .ref s39, .ref s40, .ref s41, .ref s42])), (s20, .inl (k20, 100, .inl (fun _ => 0)))]) hP hD [0, 1] [] rfl rfl (by decide) (by decide) hk1 hFc hP1 hD1
  generalize H1 = H at hP hS ⊢
  have hP : va_P (dC, dI) classes [(h0, .inr (12, [.ref s0, .int 0, .int 0, .ref s3, .ref s4, .ref s5, .ref s6, .ref s7, .int 0, .int 0, .int 0, .int 0, .int 0, .int 0, .int 0, .ref s15, .int 0, .ref s17, .int 0, .ref s19, .ref s20, .int (-1), .int 0, .int 0, .int 0, .int 0, .int 0, .ref s27, .int 0, .ref s29, .ref s30, .ref s31, .int 0, .int 0, .int 0, .ref s35, .ref s36, .ref s37, .long 0, .ref s39, .ref s40, .ref s41, .ref s42])), (s20, .inl (k20, 100, .inl (fun _ => 0)))] H := hP
  have hD : va_D A [(h0, .inr (12, [.ref s0, .int 0, .int 0, .ref s3, .ref s4, .ref s5, .ref s6, .ref s7, .int 0, .int 0, .int 0, .int 0, .int 0, .int 0, .int 0, .ref s15, .int 0, .ref s17, .int 0, .ref s19, .ref s20, .int (-1), .int 0, .int 0, .int 0, .int 0, .int 0, .ref s27, .int 0, .ref s29, .ref s30, .ref s31, .int 0, .int 0, .int 0, .ref s35, .ref s36, .ref s37, .long 0, .ref s39, .ref s40, .ref s41, .ref s42])), (s20, .inl (k20, 100, .inl (fun _ => 0)))] := hD
  obtain rfl : r_1 = 0 := hw
  refine lv_if_eq (tgt := 46) hx hb dX12_rests_5 (by decide) (fun _ => ?_) (fun c9 => absurd c9 (by decide))
  refine lv_iconst (v := (-1)) hx hb dX12_rests_46 (by decide) ?_
  refine W.widen (k := 0) (n := 0) (Nat.le_of_ble_eq_true rfl) (Nat.le_of_ble_eq_true rfl) ?_
  exact W.iret (v := (-1)) hx hb hr (fun t ht hW => ⟨⟨(-1), (), rfl, rfl, trivial⟩, hS.F ht⟩) hS.2.2 dX12_rests_47

set_option maxHeartbeats 4000000 in
set_option maxRecDepth 100000 in
/-- c_M_crumbs -/
theorem c_M_crumbs (l : Launch) (dC : Nat → ClassId) (dI : Nat → Nat → Nat) (sz : Nat) (h0 : Nat) (s0 : Nat) (s3 : Nat) (s4 : Nat) (s5 : Nat) (s6 : Nat) (s7 : Nat) (s15 : Nat) (s17 : Nat) (s19 : Nat) (s20 : Nat) (s27 : Nat) (s29 : Nat) (s30 : Nat) (s31 : Nat) (s35 : Nat) (s36 : Nat) (s37 : Nat) (s39 : Nat) (s40 : Nat) (s41 : Nat) (s42 : Nat) (k20 : ClassId) (x0 : Int32) (x1 : Int32) : Met l yX12_crumbs (.code yX12_crumbs cX12_crumbs 9 (some .int) :: wsA) ({ frames := 1, cells := 0, slots := 0, locals := 21 }) (va_Pc [.ref h0, .int x0, .int x1] (fun U => U.heap.size = sz ∧ va_P (dC, dI) classes [(h0, .inr (12, [.ref s0, .int 0, .int 0, .ref s3, .ref s4, .ref s5, .ref s6, .ref s7, .int 0, .int 0, .int 0, .int 0, .int 0, .int 0, .int 0, .ref s15, .int 0, .ref s17, .int 0, .ref s19, .ref s20, .int (-1), .int 0, .int 0, .int 0, .int 0, .int 0, .ref s27, .int 0, .ref s29, .ref s30, .ref s31, .int 0, .int 0, .int 0, .ref s35, .ref s36, .ref s37, .long 0, .ref s39, .ref s40, .ref s41, .ref s42])), (s20, .inl (k20, 100, .inl (fun _ => 0)))] U.heap ∧ va_K (dC, dI) classes [(k20, .int)] U ∧ va_D (fun _ => True) [(h0, .inr (12, [.ref s0, .int 0, .int 0, .ref s3, .ref s4, .ref s5, .ref s6, .ref s7, .int 0, .int 0, .int 0, .int 0, .int 0, .int 0, .int 0, .ref s15, .int 0, .ref s17, .int 0, .ref s19, .ref s20, .int (-1), .int 0, .int 0, .int 0, .int 0, .int 0, .ref s27, .int 0, .ref s29, .ref s30, .ref s31, .int 0, .int 0, .int 0, .ref s35, .ref s36, .ref s37, .long 0, .ref s39, .ref s40, .ref s41, .ref s42])), (s20, .inl (k20, 100, .inl (fun _ => 0)))] ∧ xE U)) (va_Qi (fun (r : Int32) (_ : Unit) => r = (-1)) (fun _ _ => True) (va_A [(h0, .inr (12, [.ref s0, .int 0, .int 0, .ref s3, .ref s4, .ref s5, .ref s6, .ref s7, .int 0, .int 0, .int 0, .int 0, .int 0, .int 0, .int 0, .ref s15, .int 0, .ref s17, .int 0, .ref s19, .ref s20, .int (-1), .int 0, .int 0, .int 0, .int 0, .int 0, .ref s27, .int 0, .ref s29, .ref s30, .ref s31, .int 0, .int 0, .int 0, .ref s35, .ref s36, .ref s37, .long 0, .ref s39, .ref s40, .ref s41, .ref s42])), (s20, .inl (k20, 100, .inl (fun _ => 0)))] sz)) 0 0 (va_A [(h0, .inr (12, [.ref s0, .int 0, .int 0, .ref s3, .ref s4, .ref s5, .ref s6, .ref s7, .int 0, .int 0, .int 0, .int 0, .int 0, .int 0, .int 0, .ref s15, .int 0, .ref s17, .int 0, .ref s19, .ref s20, .int (-1), .int 0, .int 0, .int 0, .int 0, .int 0, .ref s27, .int 0, .ref s29, .ref s30, .ref s31, .int 0, .int 0, .int 0, .ref s35, .ref s36, .ref s37, .long 0, .ref s39, .ref s40, .ref s41, .ref s42])), (s20, .inl (k20, 100, .inl (fun _ => 0)))] sz) := by
  refine Met.ofW (cc := cX12_crumbs) (maxL := 9) (ret := (some .int)) (by decide) rfl ?_
  intro p e s m args below meth c s₁ B hml hv
  obtain ⟨rfl, hsz, hP, hK, hD0, hE⟩ := hv
  have hx := B.exec
  have hb := B.bytes
  have hr := B.returns
  have hts := atoms_spec (ws := .code yX12_crumbs cX12_crumbs 9 (some .int) :: wsA) B.pre
  have hq : ∀ w ∈ wsA, w.before _ s = true := fun w h => hts w (List.mem_cons_of_mem _ h)
  have hown : s.vm.findClass RX12 = some m.cls := findClass_of_methodNamed B.named
  have hlocks := B.notSynchronized
  subst hsz
  have hD := hD0.self (sz := s.heap.size)
  generalize hAe : va_A [(h0, .inr (12, [.ref s0, .int 0, .int 0, .ref s3, .ref s4, .ref s5, .ref s6, .ref s7, .int 0, .int 0, .int 0, .int 0, .int 0, .int 0, .int 0, .ref s15, .int 0, .ref s17, .int 0, .ref s19, .ref s20, .int (-1), .int 0, .int 0, .int 0, .int 0, .int 0, .ref s27, .int 0, .ref s29, .ref s30, .ref s31, .int 0, .int 0, .int 0, .ref s35, .ref s36, .ref s37, .long 0, .ref s39, .ref s40, .ref s41, .ref s42])), (s20, .inl (k20, 100, .inl (fun _ => 0)))] s.heap.size = A at hD ⊢
  have hA : ∀ q : Nat, s.heap.size ≤ q → A q := fun q h => by rw [← hAe]; exact Or.inr h
  have hS : va_S A s.heap s.heap [] := va_S.rf
  have hl := lv_entry ([.ref h0, .int x0, .int x1]) (n := 9) (Nat.le_of_ble_eq_true rfl)
  rw [lg_entry_eq]
  generalize (lg_sl ([.ref h0, .int x0, .int x1]) ++ List.replicate (9 - (lg_sl ([.ref h0, .int x0, .int x1])).length) Slot.unset).toArray = ls at hl ⊢
  have hl : lv_has ls 9 [(0, .ref h0), (1, .int x0), (2, .int x1)] := hl
  refine lv_aload_n hx hb dX12_crumbs_0 rfl (lv_at hl 0 rfl) ?_
  refine lv_iload_n hx hb dX12_crumbs_1 rfl (lv_at hl 2 rfl) ?_
  have hPc := hP.sub (ws' := [(h0, .inr (12, [.ref s0, .int 0, .int 0, .ref s3, .ref s4, .ref s5, .ref s6, .ref s7, .int 0, .int 0, .int 0, .int 0, .int 0, .int 0, .int 0, .ref s15, .int 0, .ref s17, .int 0, .ref s19, .ref s20, .int (-1), .int 0, .int 0, .int 0, .int 0, .int 0, .ref s27, .int 0, .ref s29, .ref s30, .ref s31, .int 0, .int 0, .int 0, .ref s35, .ref s36, .ref s37, .long 0, .ref s39, .ref s40, .ref s41, .ref s42])), (s20, .inl (k20, 100, .inl (fun _ => 0)))]) [0, 1] rfl
  have hDc := hD.sub (ws' := [(h0, .inr (12, [.ref s0, .int 0, .int 0, .ref s3, .ref s4, .ref s5, .ref s6, .ref s7, .int 0, .int 0, .int 0, .int 0, .int 0, .int 0, .int 0, .ref s15, .int 0, .ref s17, .int 0, .ref s19, .ref s20, .int (-1), .int 0, .int 0, .int 0, .int 0, .int 0, .ref s27, .int 0, .ref s29, .ref s30, .ref s31, .int 0, .int 0, .int 0, .ref s35, .ref s36, .ref s37, .long 0, .ref s39, .ref s40, .ref s41, .ref s42])), (s20, .inl (k20, 100, .inl (fun _ => 0)))]) [0, 1] (by decide) rfl
  have hKc := hK.sub (tys' := [(k20, .int)]) [0] rfl
  have hFc := va_free (wc := [(h0, .inr (12, [.ref s0, .int 0, .int 0, .ref s3, .ref s4, .ref s5, .ref s6, .ref s7, .int 0, .int 0, .int 0, .int 0, .int 0, .int 0, .int 0, .ref s15, .int 0, .ref s17, .int 0, .ref s19, .ref s20, .int (-1), .int 0, .int 0, .int 0, .int 0, .int 0, .ref s27, .int 0, .ref s29, .ref s30, .ref s31, .int 0, .int 0, .int 0, .ref s35, .ref s36, .ref s37, .long 0, .ref s39, .ref s40, .ref s41, .ref s42])), (s20, .inl (k20, 100, .inl (fun _ => 0)))]) hD hS hA [0, 1] rfl
  refine va_calli (va_runV (As := [.int x1]) (rest := []) ⟨hx, hb, hml, hown, hq⟩ (c_M_isGuest l dC dI _ h0 s0 s3 s4 s5 s6 s7 s15 s17 s19 s20 s27 s29 s30 s31 s35 s36 s37 s39 s40 s41 s42 k20 x1 ) (cwV 1 hq (gV qw_1485 qw_1487 qw_74 qw_131 qw_1488) rfl rfl rfl (by decide +kernel) ⟨Nat.le_of_ble_eq_true rfl, Nat.le_of_ble_eq_true rfl⟩) ⟨fun a U g mk q => by obtain ⟨q0, q1, qP, qK, qD, qE⟩ := q; exact ⟨q0, q1, qP, va_K.moved (u := U) (U := U.calling g mk a) (Vm.Alike.refl U.vm) qK, qD, xE.same rfl qE⟩, va_recv hKc hPc (ci := 12) (q0 := 0) rfl rfl, fun U hU hW => ⟨rfl, by rw [hU], by rw [hU]; exact hPc, va_K.moved hW.alike hKc, hDc.weaken (fun _ _ _ _ => trivial), xE.warm hW hE⟩⟩ rfl rfl hl.1 rfl (lv_room (Nat.le_of_ble_eq_true rfl)) dX12_crumbs_2 ⟨Nat.le_of_ble_eq_true rfl, Nat.le_of_ble_eq_true rfl⟩) hS (fun q _ h => hFc q h) hFc (fun r_1 u t H1 locs ht hvm hw hB hz1 hk1 hS => ?_)
  obtain ⟨hP1, hK1, hD1⟩ := hB
  rw [ht] at hP1
  have hK1 := va_K.moved hvm.symm hK1
  obtain ⟨hP, hD⟩ := va_join (wr := []) (w1 := [(h0, .inr (12, [.ref s0, .int 0, .int 0, .ref s3, .ref s4, .ref s5, .ref s6, .ref s7, .int 0, .int 0, .int 0, .int 0, .int 0, .int 0, .int 0, .ref s15, .int 0, .ref s17, .int 0, .ref s19, .ref s20, .int (-1), .int 0, .int 0, .int 0, .int 0, .int 0, .ref s27, .int 0, .ref s29, .ref s30, .ref s31, .int 0, .int 0, .int 0, .ref s35, .ref s36, .ref s37, .long 0, .ref s39, .ref s40, .ref s41, .ref s42])), (s20, .inl (k20, 100, .inl (fun _ => 0)))]) hP hD [0, 1] [] rfl rfl (by decide) (by decide) hk1 hFc hP1 hD1
  generalize H1 = H at hP hS ⊢
  have hP : va_P (dC, dI) classes [(h0, .inr (12, [.ref s0, .int 0, .int 0, .ref s3, .ref s4, .ref s5, .ref s6, .ref s7, .int 0, .int 0, .int 0, .int 0, .int 0, .int 0, .int 0, .ref s15, .int 0, .ref s17, .int 0, .ref s19, .ref s20, .int (-1), .int 0, .int 0, .int 0, .int 0, .int 0, .ref s27, .int 0, .ref s29, .ref s30, .ref s31, .int 0, .int 0, .int 0, .ref s35, .ref s36, .ref s37, .long 0, .ref s39, .ref s40, .ref s41, .ref s42])), (s20, .inl (k20, 100, .inl (fun _ => 0)))] H := hP
  have hD : va_D A [(h0, .inr (12, [.ref s0, .int 0, .int 0, .ref s3, .ref s4, .ref s5, .ref s6, .ref s7, .int 0, .int 0, .int 0, .int 0, .int 0, .int 0, .int 0, .ref s15, .int 0, .ref s17, .int 0, .ref s19, .ref s20, .int (-1), .int 0, .int 0, .int 0, .int 0, .int 0, .ref s27, .int 0, .ref s29, .ref s30, .ref s31, .int 0, .int 0, .int 0, .ref s35, .ref s36, .ref s37, .long 0, .ref s39, .ref s40, .ref s41, .ref s42])), (s20, .inl (k20, 100, .inl (fun _ => 0)))] := hD
  obtain rfl : r_1 = 0 := hw
  refine lv_if_eq (tgt := 20) hx hb dX12_crumbs_5 (by decide) (fun _ => ?_) (fun c9 => absurd c9 (by decide))
  refine lv_iconst (v := (-1)) hx hb dX12_crumbs_20 (by decide) ?_
  refine W.widen (k := 0) (n := 0) (Nat.le_of_ble_eq_true rfl) (Nat.le_of_ble_eq_true rfl) ?_
  exact W.iret (v := (-1)) hx hb hr (fun t ht hW => ⟨⟨(-1), (), rfl, rfl, trivial⟩, hS.F ht⟩) hS.2.2 dX12_crumbs_21

set_option maxHeartbeats 4000000 in
set_option maxRecDepth 100000 in
/-- c_M_throat -/
theorem c_M_throat (l : Launch) (dC : Nat → ClassId) (dI : Nat → Nat → Nat) (sz : Nat) (h0 : Nat) (s0 : Nat) (s3 : Nat) (s4 : Nat) (s5 : Nat) (s6 : Nat) (s7 : Nat) (s15 : Nat) (s17 : Nat) (s19 : Nat) (s20 : Nat) (s27 : Nat) (s29 : Nat) (s30 : Nat) (s31 : Nat) (s35 : Nat) (s36 : Nat) (s37 : Nat) (s39 : Nat) (s40 : Nat) (s41 : Nat) (s42 : Nat) (k20 : ClassId) (x0 : Int32) : Met l yX12_throat (.code yX12_throat cX12_throat 2 (some .int) :: wsA) ({ frames := 1, cells := 0, slots := 0, locals := 25 }) (va_Pc [.ref h0, .int x0] (fun U => U.heap.size = sz ∧ va_P (dC, dI) classes [(h0, .inr (12, [.ref s0, .int 0, .int 0, .ref s3, .ref s4, .ref s5, .ref s6, .ref s7, .int 0, .int 0, .int 0, .int 0, .int 0, .int 0, .int 0, .ref s15, .int 0, .ref s17, .int 0, .ref s19, .ref s20, .int (-1), .int 0, .int 0, .int 0, .int 0, .int 0, .ref s27, .int 0, .ref s29, .ref s30, .ref s31, .int 0, .int 0, .int 0, .ref s35, .ref s36, .ref s37, .long 0, .ref s39, .ref s40, .ref s41, .ref s42])), (s20, .inl (k20, 100, .inl (fun _ => 0)))] U.heap ∧ va_K (dC, dI) classes [(k20, .int)] U ∧ va_D (fun _ => True) [(h0, .inr (12, [.ref s0, .int 0, .int 0, .ref s3, .ref s4, .ref s5, .ref s6, .ref s7, .int 0, .int 0, .int 0, .int 0, .int 0, .int 0, .int 0, .ref s15, .int 0, .ref s17, .int 0, .ref s19, .ref s20, .int (-1), .int 0, .int 0, .int 0, .int 0, .int 0, .ref s27, .int 0, .ref s29, .ref s30, .ref s31, .int 0, .int 0, .int 0, .ref s35, .ref s36, .ref s37, .long 0, .ref s39, .ref s40, .ref s41, .ref s42])), (s20, .inl (k20, 100, .inl (fun _ => 0)))] ∧ xE U)) (va_Qi (fun (r : Int32) (_ : Unit) => r = (-2)) (fun _ _ => True) (va_A [(h0, .inr (12, [.ref s0, .int 0, .int 0, .ref s3, .ref s4, .ref s5, .ref s6, .ref s7, .int 0, .int 0, .int 0, .int 0, .int 0, .int 0, .int 0, .ref s15, .int 0, .ref s17, .int 0, .ref s19, .ref s20, .int (-1), .int 0, .int 0, .int 0, .int 0, .int 0, .ref s27, .int 0, .ref s29, .ref s30, .ref s31, .int 0, .int 0, .int 0, .ref s35, .ref s36, .ref s37, .long 0, .ref s39, .ref s40, .ref s41, .ref s42])), (s20, .inl (k20, 100, .inl (fun _ => 0)))] sz)) 0 0 (va_A [(h0, .inr (12, [.ref s0, .int 0, .int 0, .ref s3, .ref s4, .ref s5, .ref s6, .ref s7, .int 0, .int 0, .int 0, .int 0, .int 0, .int 0, .int 0, .ref s15, .int 0, .ref s17, .int 0, .ref s19, .ref s20, .int (-1), .int 0, .int 0, .int 0, .int 0, .int 0, .ref s27, .int 0, .ref s29, .ref s30, .ref s31, .int 0, .int 0, .int 0, .ref s35, .ref s36, .ref s37, .long 0, .ref s39, .ref s40, .ref s41, .ref s42])), (s20, .inl (k20, 100, .inl (fun _ => 0)))] sz) := by
  refine Met.ofW (cc := cX12_throat) (maxL := 2) (ret := (some .int)) (by decide) rfl ?_
  intro p e s m args below meth c s₁ B hml hv
  obtain ⟨rfl, hsz, hP, hK, hD0, hE⟩ := hv
  have hx := B.exec
  have hb := B.bytes
  have hr := B.returns
  have hts := atoms_spec (ws := .code yX12_throat cX12_throat 2 (some .int) :: wsA) B.pre
  have hq : ∀ w ∈ wsA, w.before _ s = true := fun w h => hts w (List.mem_cons_of_mem _ h)
  have hown : s.vm.findClass RX12 = some m.cls := findClass_of_methodNamed B.named
  have hlocks := B.notSynchronized
  subst hsz
  have hD := hD0.self (sz := s.heap.size)
  generalize hAe : va_A [(h0, .inr (12, [.ref s0, .int 0, .int 0, .ref s3, .ref s4, .ref s5, .ref s6, .ref s7, .int 0, .int 0, .int 0, .int 0, .int 0, .int 0, .int 0, .ref s15, .int 0, .ref s17, .int 0, .ref s19, .ref s20, .int (-1), .int 0, .int 0, .int 0, .int 0, .int 0, .ref s27, .int 0, .ref s29, .ref s30, .ref s31, .int 0, .int 0, .int 0, .ref s35, .ref s36, .ref s37, .long 0, .ref s39, .ref s40, .ref s41, .ref s42])), (s20, .inl (k20, 100, .inl (fun _ => 0)))] s.heap.size = A at hD ⊢
  have hA : ∀ q : Nat, s.heap.size ≤ q → A q := fun q h => by rw [← hAe]; exact Or.inr h
  have hS : va_S A s.heap s.heap [] := va_S.rf
  have hl := lv_entry ([.ref h0, .int x0]) (n := 2) (Nat.le_of_ble_eq_true rfl)
  rw [lg_entry_eq]
  generalize (lg_sl ([.ref h0, .int x0]) ++ List.replicate (2 - (lg_sl ([.ref h0, .int x0])).length) Slot.unset).toArray = ls at hl ⊢
  have hl : lv_has ls 2 [(0, .ref h0), (1, .int x0)] := hl
  refine lv_iload_n hx hb dX12_throat_0 rfl (lv_at hl 1 rfl) ?_
  refine lv_i2l hx hb dX12_throat_1 rfl ?_
  refine lv_lconst (v := 0) hx hb dX12_throat_2 (by decide) ?_
  refine lv_aload_n hx hb dX12_throat_3 rfl (lv_at hl 0 rfl) ?_
  refine va_get (D := (dC, dI)) (ci := 12) (v := .ref s20) (C := RX12) (T := TX12) (N := 43) hx hb hq inX12 hown hK hP 0 rfl rfl 20 (by decide) (hq _ qw_1180) (fun _ h9 => h9) rfl dX12_throat_4 ?_
  refine lv_iconst (v := 1) hx hb dX12_throat_7 (by decide) ?_
  refine va_iald hx hb hK hP 1 0 rfl rfl (inr_ok rfl) dX12_throat_8 ?_
  refine lv_topi (fun y_1 ey_1 => ?_)
  obtain rfl : y_1 = 0 := ey_1.trans (rfl)
  refine lv_iconst (v := 1) hx hb dX12_throat_9 (by decide) ?_
  refine lv_isub hx hb dX12_throat_10 ?_
  refine lv_topi (fun y_2 ey_2 => ?_)
  obtain rfl : y_2 = (-1) := ey_2.trans (by decide)
  refine lv_i2l hx hb dX12_throat_11 rfl ?_
  refine lv_topl (fun y_3 ey_3 => ?_)
  obtain rfl : y_3 = (-1) := ey_3.trans (by decide)
  have hPc := hP.sub (ws' := []) [] rfl
  have hDc := hD.sub (ws' := []) [] (by decide) rfl
  have hKc := hK.sub (tys' := []) [] rfl
  have hFc := va_free (wc := []) hD hS hA [] rfl
  refine va_calli (va_runS (As := [.long x0.toInt64, .long 0, .long (-1)]) (rest := []) ⟨hx, hb, hml, hown, hq⟩ (c_M_in_no l dC dI _ x0.toInt64 ) (cwS 3 hq (gS qw_1364 qw_1365 qw_131 qw_1366) rfl rfl rfl (by decide +kernel) ⟨Nat.le_of_ble_eq_true rfl, Nat.le_of_ble_eq_true rfl⟩) ⟨fun a U g mk q => by obtain ⟨q0, q1, qP, qK, qD, qE⟩ := q; exact ⟨q0, q1, qP, va_K.moved (u := U) (U := U.calling g mk a) (Vm.Alike.refl U.vm) qK, qD, xE.same rfl qE⟩, fun U hU hW => ⟨rfl, by rw [hU], by rw [hU]; exact hPc, va_K.moved hW.alike hKc, hDc.weaken (fun _ _ _ _ => trivial), xE.warm hW hE⟩⟩ rfl rfl hl.1 rfl (lv_room (Nat.le_of_ble_eq_true rfl)) dX12_throat_12 ⟨Nat.le_of_ble_eq_true rfl, Nat.le_of_ble_eq_true rfl⟩) hS (fun q _ h => hFc q h) hFc (fun r_4 u t H1 locs ht hvm hw hB hz1 hk1 hS => ?_)
  obtain ⟨hP1, hK1, hD1⟩ := hB
  rw [ht] at hP1
  have hK1 := va_K.moved hvm.symm hK1
  obtain ⟨hP, hD⟩ := va_join (wr := [(h0, .inr (12, [.ref s0, .int 0, .int 0, .ref s3, .ref s4, .ref s5, .ref s6, .ref s7, .int 0, .int 0, .int 0, .int 0, .int 0, .int 0, .int 0, .ref s15, .int 0, .ref s17, .int 0, .ref s19, .ref s20, .int (-1), .int 0, .int 0, .int 0, .int 0, .int 0, .ref s27, .int 0, .ref s29, .ref s30, .ref s31, .int 0, .int 0, .int 0, .ref s35, .ref s36, .ref s37, .long 0, .ref s39, .ref s40, .ref s41, .ref s42])), (s20, .inl (k20, 100, .inl (fun _ => 0)))]) (w1 := []) hP hD [] [0, 1] rfl rfl (by decide) (by decide) hk1 hFc hP1 hD1
  generalize H1 = H at hP hS ⊢
  have hP : va_P (dC, dI) classes [(h0, .inr (12, [.ref s0, .int 0, .int 0, .ref s3, .ref s4, .ref s5, .ref s6, .ref s7, .int 0, .int 0, .int 0, .int 0, .int 0, .int 0, .int 0, .ref s15, .int 0, .ref s17, .int 0, .ref s19, .ref s20, .int (-1), .int 0, .int 0, .int 0, .int 0, .int 0, .ref s27, .int 0, .ref s29, .ref s30, .ref s31, .int 0, .int 0, .int 0, .ref s35, .ref s36, .ref s37, .long 0, .ref s39, .ref s40, .ref s41, .ref s42])), (s20, .inl (k20, 100, .inl (fun _ => 0)))] H := hP
  have hD : va_D A [(h0, .inr (12, [.ref s0, .int 0, .int 0, .ref s3, .ref s4, .ref s5, .ref s6, .ref s7, .int 0, .int 0, .int 0, .int 0, .int 0, .int 0, .int 0, .ref s15, .int 0, .ref s17, .int 0, .ref s19, .ref s20, .int (-1), .int 0, .int 0, .int 0, .int 0, .int 0, .ref s27, .int 0, .ref s29, .ref s30, .ref s31, .int 0, .int 0, .int 0, .ref s35, .ref s36, .ref s37, .long 0, .ref s39, .ref s40, .ref s41, .ref s42])), (s20, .inl (k20, 100, .inl (fun _ => 0)))] := hD
  obtain rfl : r_4 = 0 := hw
  refine lv_if_eq (tgt := 26) hx hb dX12_throat_15 (by decide) (fun _ => ?_) (fun c9 => absurd c9 (by decide))
  refine lv_bipush (v := (-2)) hx hb dX12_throat_26 (by decide) ?_
  refine W.widen (k := 0) (n := 0) (Nat.le_of_ble_eq_true rfl) (Nat.le_of_ble_eq_true rfl) ?_
  exact W.iret (v := (-2)) hx hb hr (fun t ht hW => ⟨⟨(-2), (), rfl, rfl, trivial⟩, hS.F ht⟩) hS.2.2 dX12_throat_28

set_option maxHeartbeats 4000000 in
set_option maxRecDepth 100000 in
/-- c_M_offer -/
theorem c_M_offer (l : Launch) (dC : Nat → ClassId) (dI : Nat → Nat → Nat) (sz : Nat) (h0 : Nat) (s0 : Nat) (s3 : Nat) (s4 : Nat) (s5 : Nat) (s6 : Nat) (s7 : Nat) (s15 : Nat) (s17 : Nat) (s19 : Nat) (s20 : Nat) (s27 : Nat) (s29 : Nat) (s30 : Nat) (s31 : Nat) (s35 : Nat) (s36 : Nat) (s37 : Nat) (s39 : Nat) (s40 : Nat) (s41 : Nat) (s42 : Nat) (k20 : ClassId) (x0 : Int32) : Met l yX12_offer (.code yX12_offer cX12_offer 3 (some .int) :: wsA) ({ frames := 1, cells := 0, slots := 0, locals := 20 }) (va_Pc [.ref h0, .int x0] (fun U => U.heap.size = sz ∧ va_P (dC, dI) classes [(h0, .inr (12, [.ref s0, .int 0, .int 0, .ref s3, .ref s4, .ref s5, .ref s6, .ref s7, .int 0, .int 0, .int 0, .int 0, .int 0, .int 0, .int 0, .ref s15, .int 0, .ref s17, .int 0, .ref s19, .ref s20, .int (-1), .int 0, .int 0, .int 0, .int 0, .int 0, .ref s27, .int 0, .ref s29, .ref s30, .ref s31, .int 0, .int 0, .int 0, .ref s35, .ref s36, .ref s37, .long 0, .ref s39, .ref s40, .ref s41, .ref s42])), (s20, .inl (k20, 100, .inl (fun _ => 0)))] U.heap ∧ va_K (dC, dI) classes [(k20, .int)] U ∧ va_D (fun _ => True) [(h0, .inr (12, [.ref s0, .int 0, .int 0, .ref s3, .ref s4, .ref s5, .ref s6, .ref s7, .int 0, .int 0, .int 0, .int 0, .int 0, .int 0, .int 0, .ref s15, .int 0, .ref s17, .int 0, .ref s19, .ref s20, .int (-1), .int 0, .int 0, .int 0, .int 0, .int 0, .ref s27, .int 0, .ref s29, .ref s30, .ref s31, .int 0, .int 0, .int 0, .ref s35, .ref s36, .ref s37, .long 0, .ref s39, .ref s40, .ref s41, .ref s42])), (s20, .inl (k20, 100, .inl (fun _ => 0)))] ∧ xE U)) (va_Qi (fun (r : Int32) (_ : Unit) => r = (-2)) (fun _ _ => True) (va_A [(h0, .inr (12, [.ref s0, .int 0, .int 0, .ref s3, .ref s4, .ref s5, .ref s6, .ref s7, .int 0, .int 0, .int 0, .int 0, .int 0, .int 0, .int 0, .ref s15, .int 0, .ref s17, .int 0, .ref s19, .ref s20, .int (-1), .int 0, .int 0, .int 0, .int 0, .int 0, .ref s27, .int 0, .ref s29, .ref s30, .ref s31, .int 0, .int 0, .int 0, .ref s35, .ref s36, .ref s37, .long 0, .ref s39, .ref s40, .ref s41, .ref s42])), (s20, .inl (k20, 100, .inl (fun _ => 0)))] sz)) 0 0 (va_A [(h0, .inr (12, [.ref s0, .int 0, .int 0, .ref s3, .ref s4, .ref s5, .ref s6, .ref s7, .int 0, .int 0, .int 0, .int 0, .int 0, .int 0, .int 0, .ref s15, .int 0, .ref s17, .int 0, .ref s19, .ref s20, .int (-1), .int 0, .int 0, .int 0, .int 0, .int 0, .ref s27, .int 0, .ref s29, .ref s30, .ref s31, .int 0, .int 0, .int 0, .ref s35, .ref s36, .ref s37, .long 0, .ref s39, .ref s40, .ref s41, .ref s42])), (s20, .inl (k20, 100, .inl (fun _ => 0)))] sz) := by
  refine Met.ofW (cc := cX12_offer) (maxL := 3) (ret := (some .int)) (by decide) rfl ?_
  intro p e s m args below meth c s₁ B hml hv
  obtain ⟨rfl, hsz, hP, hK, hD0, hE⟩ := hv
  have hx := B.exec
  have hb := B.bytes
  have hr := B.returns
  have hts := atoms_spec (ws := .code yX12_offer cX12_offer 3 (some .int) :: wsA) B.pre
  have hq : ∀ w ∈ wsA, w.before _ s = true := fun w h => hts w (List.mem_cons_of_mem _ h)
  have hown : s.vm.findClass RX12 = some m.cls := findClass_of_methodNamed B.named
  have hlocks := B.notSynchronized
  subst hsz
  have hD := hD0.self (sz := s.heap.size)
  generalize hAe : va_A [(h0, .inr (12, [.ref s0, .int 0, .int 0, .ref s3, .ref s4, .ref s5, .ref s6, .ref s7, .int 0, .int 0, .int 0, .int 0, .int 0, .int 0, .int 0, .ref s15, .int 0, .ref s17, .int 0, .ref s19, .ref s20, .int (-1), .int 0, .int 0, .int 0, .int 0, .int 0, .ref s27, .int 0, .ref s29, .ref s30, .ref s31, .int 0, .int 0, .int 0, .ref s35, .ref s36, .ref s37, .long 0, .ref s39, .ref s40, .ref s41, .ref s42])), (s20, .inl (k20, 100, .inl (fun _ => 0)))] s.heap.size = A at hD ⊢
  have hA : ∀ q : Nat, s.heap.size ≤ q → A q := fun q h => by rw [← hAe]; exact Or.inr h
  have hS : va_S A s.heap s.heap [] := va_S.rf
  have hl := lv_entry ([.ref h0, .int x0]) (n := 3) (Nat.le_of_ble_eq_true rfl)
  rw [lg_entry_eq]
  generalize (lg_sl ([.ref h0, .int x0]) ++ List.replicate (3 - (lg_sl ([.ref h0, .int x0])).length) Slot.unset).toArray = ls at hl ⊢
  have hl : lv_has ls 3 [(0, .ref h0), (1, .int x0)] := hl
  refine lv_aload_n hx hb dX12_offer_0 rfl (lv_at hl 0 rfl) ?_
  have hPc := hP.sub (ws' := [(h0, .inr (12, [.ref s0, .int 0, .int 0, .ref s3, .ref s4, .ref s5, .ref s6, .ref s7, .int 0, .int 0, .int 0, .int 0, .int 0, .int 0, .int 0, .ref s15, .int 0, .ref s17, .int 0, .ref s19, .ref s20, .int (-1), .int 0, .int 0, .int 0, .int 0, .int 0, .ref s27, .int 0, .ref s29, .ref s30, .ref s31, .int 0, .int 0, .int 0, .ref s35, .ref s36, .ref s37, .long 0, .ref s39, .ref s40, .ref s41, .ref s42])), (s20, .inl (k20, 100, .inl (fun _ => 0)))]) [0, 1] rfl
  have hDc := hD.sub (ws' := [(h0, .inr (12, [.ref s0, .int 0, .int 0, .ref s3, .ref s4, .ref s5, .ref s6, .ref s7, .int 0, .int 0, .int 0, .int 0, .int 0, .int 0, .int 0, .ref s15, .int 0, .ref s17, .int 0, .ref s19, .ref s20, .int (-1), .int 0, .int 0, .int 0, .int 0, .int 0, .ref s27, .int 0, .ref s29, .ref s30, .ref s31, .int 0, .int 0, .int 0, .ref s35, .ref s36, .ref s37, .long 0, .ref s39, .ref s40, .ref s41, .ref s42])), (s20, .inl (k20, 100, .inl (fun _ => 0)))]) [0, 1] (by decide) rfl
  have hKc := hK.sub (tys' := [(k20, .int)]) [0] rfl
  have hFc := va_free (wc := [(h0, .inr (12, [.ref s0, .int 0, .int 0, .ref s3, .ref s4, .ref s5, .ref s6, .ref s7, .int 0, .int 0, .int 0, .int 0, .int 0, .int 0, .int 0, .ref s15, .int 0, .ref s17, .int 0, .ref s19, .ref s20, .int (-1), .int 0, .int 0, .int 0, .int 0, .int 0, .ref s27, .int 0, .ref s29, .ref s30, .ref s31, .int 0, .int 0, .int 0, .ref s35, .ref s36, .ref s37, .long 0, .ref s39, .ref s40, .ref s41, .ref s42])), (s20, .inl (k20, 100, .inl (fun _ => 0)))]) hD hS hA [0, 1] rfl
  refine va_calli (va_runV (As := []) (rest := []) ⟨hx, hb, hml, hown, hq⟩ (c_M_isDinner l dC dI _ h0 s0 s3 s4 s5 s6 s7 s15 s17 s19 s20 s27 s29 s30 s31 s35 s36 s37 s39 s40 s41 s42 k20 ) (cwV 0 hq (gV qw_1497 qw_1499 qw_76 qw_131 qw_1500) rfl rfl rfl (by decide +kernel) ⟨Nat.le_of_ble_eq_true rfl, Nat.le_of_ble_eq_true rfl⟩) ⟨fun a U g mk q => by obtain ⟨q0, q1, qP, qK, qD, qE⟩ := q; exact ⟨q0, q1, qP, va_K.moved (u := U) (U := U.calling g mk a) (Vm.Alike.refl U.vm) qK, qD, xE.same rfl qE⟩, va_recv hKc hPc (ci := 12) (q0 := 0) rfl rfl, fun U hU hW => ⟨rfl, by rw [hU], by rw [hU]; exact hPc, va_K.moved hW.alike hKc, hDc.weaken (fun _ _ _ _ => trivial), xE.warm hW hE⟩⟩ rfl rfl hl.1 rfl (lv_room (Nat.le_of_ble_eq_true rfl)) dX12_offer_1 ⟨Nat.le_of_ble_eq_true rfl, Nat.le_of_ble_eq_true rfl⟩) hS (fun q _ h => hFc q h) hFc (fun r_1 u t H1 locs ht hvm hw hB hz1 hk1 hS => ?_)
  obtain ⟨hP1, hK1, hD1⟩ := hB
  rw [ht] at hP1
  have hK1 := va_K.moved hvm.symm hK1
  obtain ⟨hP, hD⟩ := va_join (wr := []) (w1 := [(h0, .inr (12, [.ref s0, .int 0, .int 0, .ref s3, .ref s4, .ref s5, .ref s6, .ref s7, .int 0, .int 0, .int 0, .int 0, .int 0, .int 0, .int 0, .ref s15, .int 0, .ref s17, .int 0, .ref s19, .ref s20, .int (-1), .int 0, .int 0, .int 0, .int 0, .int 0, .ref s27, .int 0, .ref s29, .ref s30, .ref s31, .int 0, .int 0, .int 0, .ref s35, .ref s36, .ref s37, .long 0, .ref s39, .ref s40, .ref s41, .ref s42])), (s20, .inl (k20, 100, .inl (fun _ => 0)))]) hP hD [0, 1] [] rfl rfl (by decide) (by decide) hk1 hFc hP1 hD1
  generalize H1 = H at hP hS ⊢
  have hP : va_P (dC, dI) classes [(h0, .inr (12, [.ref s0, .int 0, .int 0, .ref s3, .ref s4, .ref s5, .ref s6, .ref s7, .int 0, .int 0, .int 0, .int 0, .int 0, .int 0, .int 0, .ref s15, .int 0, .ref s17, .int 0, .ref s19, .ref s20, .int (-1), .int 0, .int 0, .int 0, .int 0, .int 0, .ref s27, .int 0, .ref s29, .ref s30, .ref s31, .int 0, .int 0, .int 0, .ref s35, .ref s36, .ref s37, .long 0, .ref s39, .ref s40, .ref s41, .ref s42])), (s20, .inl (k20, 100, .inl (fun _ => 0)))] H := hP
  have hD : va_D A [(h0, .inr (12, [.ref s0, .int 0, .int 0, .ref s3, .ref s4, .ref s5, .ref s6, .ref s7, .int 0, .int 0, .int 0, .int 0, .int 0, .int 0, .int 0, .ref s15, .int 0, .ref s17, .int 0, .ref s19, .ref s20, .int (-1), .int 0, .int 0, .int 0, .int 0, .int 0, .ref s27, .int 0, .ref s29, .ref s30, .ref s31, .int 0, .int 0, .int 0, .ref s35, .ref s36, .ref s37, .long 0, .ref s39, .ref s40, .ref s41, .ref s42])), (s20, .inl (k20, 100, .inl (fun _ => 0)))] := hD
  obtain rfl : r_1 = 0 := hw
  refine lv_if_eq (tgt := 44) hx hb dX12_offer_4 (by decide) (fun _ => ?_) (fun c9 => absurd c9 (by decide))
  refine lv_bipush (v := (-2)) hx hb dX12_offer_44 (by decide) ?_
  refine W.widen (k := 0) (n := 0) (Nat.le_of_ble_eq_true rfl) (Nat.le_of_ble_eq_true rfl) ?_
  exact W.iret (v := (-2)) hx hb hr (fun t ht hW => ⟨⟨(-2), (), rfl, rfl, trivial⟩, hS.F ht⟩) hS.2.2 dX12_offer_46

set_option maxHeartbeats 4000000 in
set_option maxRecDepth 100000 in
/-- c_M_bestRow -/
theorem c_M_bestRow (l : Launch) (dC : Nat → ClassId) (dI : Nat → Nat → Nat) (sz : Nat) (h0 : Nat) (s0 : Nat) (s3 : Nat) (s4 : Nat) (s5 : Nat) (s6 : Nat) (s7 : Nat) (s15 : Nat) (s17 : Nat) (s19 : Nat) (s20 : Nat) (s27 : Nat) (s29 : Nat) (s30 : Nat) (s31 : Nat) (s35 : Nat) (s36 : Nat) (s37 : Nat) (s39 : Nat) (s40 : Nat) (s41 : Nat) (s42 : Nat) (k20 : ClassId) (x0 : Int32) (x1 : Int32) : Met l yX12_bestRow (.code yX12_bestRow cX12_bestRow 4 (some .int) :: wsA) ({ frames := 1, cells := 0, slots := 0, locals := 20 }) (va_Pc [.ref h0, .int x0, .int x1] (fun U => U.heap.size = sz ∧ va_P (dC, dI) classes [(h0, .inr (12, [.ref s0, .int 0, .int 0, .ref s3, .ref s4, .ref s5, .ref s6, .ref s7, .int 0, .int 0, .int 0, .int 0, .int 0, .int 0, .int 0, .ref s15, .int 0, .ref s17, .int 0, .ref s19, .ref s20, .int (-1), .int 0, .int 0, .int 0, .int 0, .int 0, .ref s27, .int 0, .ref s29, .ref s30, .ref s31, .int 0, .int 0, .int 0, .ref s35, .ref s36, .ref s37, .long 0, .ref s39, .ref s40, .ref s41, .ref s42])), (s20, .inl (k20, 100, .inl (fun _ => 0)))] U.heap ∧ va_K (dC, dI) classes [(k20, .int)] U ∧ va_D (fun _ => True) [(h0, .inr (12, [.ref s0, .int 0, .int 0, .ref s3, .ref s4, .ref s5, .ref s6, .ref s7, .int 0, .int 0, .int 0, .int 0, .int 0, .int 0, .int 0, .ref s15, .int 0, .ref s17, .int 0, .ref s19, .ref s20, .int (-1), .int 0, .int 0, .int 0, .int 0, .int 0, .ref s27, .int 0, .ref s29, .ref s30, .ref s31, .int 0, .int 0, .int 0, .ref s35, .ref s36, .ref s37, .long 0, .ref s39, .ref s40, .ref s41, .ref s42])), (s20, .inl (k20, 100, .inl (fun _ => 0)))] ∧ xE U)) (va_Qi (fun (r : Int32) (_ : Unit) => r = (-3)) (fun _ _ => True) (va_A [(h0, .inr (12, [.ref s0, .int 0, .int 0, .ref s3, .ref s4, .ref s5, .ref s6, .ref s7, .int 0, .int 0, .int 0, .int 0, .int 0, .int 0, .int 0, .ref s15, .int 0, .ref s17, .int 0, .ref s19, .ref s20, .int (-1), .int 0, .int 0, .int 0, .int 0, .int 0, .ref s27, .int 0, .ref s29, .ref s30, .ref s31, .int 0, .int 0, .int 0, .ref s35, .ref s36, .ref s37, .long 0, .ref s39, .ref s40, .ref s41, .ref s42])), (s20, .inl (k20, 100, .inl (fun _ => 0)))] sz)) 0 0 (va_A [(h0, .inr (12, [.ref s0, .int 0, .int 0, .ref s3, .ref s4, .ref s5, .ref s6, .ref s7, .int 0, .int 0, .int 0, .int 0, .int 0, .int 0, .int 0, .ref s15, .int 0, .ref s17, .int 0, .ref s19, .ref s20, .int (-1), .int 0, .int 0, .int 0, .int 0, .int 0, .ref s27, .int 0, .ref s29, .ref s30, .ref s31, .int 0, .int 0, .int 0, .ref s35, .ref s36, .ref s37, .long 0, .ref s39, .ref s40, .ref s41, .ref s42])), (s20, .inl (k20, 100, .inl (fun _ => 0)))] sz) := by
  refine Met.ofW (cc := cX12_bestRow) (maxL := 4) (ret := (some .int)) (by decide) rfl ?_
  intro p e s m args below meth c s₁ B hml hv
  obtain ⟨rfl, hsz, hP, hK, hD0, hE⟩ := hv
  have hx := B.exec
  have hb := B.bytes
  have hr := B.returns
  have hts := atoms_spec (ws := .code yX12_bestRow cX12_bestRow 4 (some .int) :: wsA) B.pre
  have hq : ∀ w ∈ wsA, w.before _ s = true := fun w h => hts w (List.mem_cons_of_mem _ h)
  have hown : s.vm.findClass RX12 = some m.cls := findClass_of_methodNamed B.named
  have hlocks := B.notSynchronized
  subst hsz
  have hD := hD0.self (sz := s.heap.size)
  generalize hAe : va_A [(h0, .inr (12, [.ref s0, .int 0, .int 0, .ref s3, .ref s4, .ref s5, .ref s6, .ref s7, .int 0, .int 0, .int 0, .int 0, .int 0, .int 0, .int 0, .ref s15, .int 0, .ref s17, .int 0, .ref s19, .ref s20, .int (-1), .int 0, .int 0, .int 0, .int 0, .int 0, .ref s27, .int 0, .ref s29, .ref s30, .ref s31, .int 0, .int 0, .int 0, .ref s35, .ref s36, .ref s37, .long 0, .ref s39, .ref s40, .ref s41, .ref s42])), (s20, .inl (k20, 100, .inl (fun _ => 0)))] s.heap.size = A at hD ⊢
  have hA : ∀ q : Nat, s.heap.size ≤ q → A q := fun q h => by rw [← hAe]; exact Or.inr h
  have hS : va_S A s.heap s.heap [] := va_S.rf
  have hl := lv_entry ([.ref h0, .int x0, .int x1]) (n := 4) (Nat.le_of_ble_eq_true rfl)
  rw [lg_entry_eq]
  generalize (lg_sl ([.ref h0, .int x0, .int x1]) ++ List.replicate (4 - (lg_sl ([.ref h0, .int x0, .int x1])).length) Slot.unset).toArray = ls at hl ⊢
  have hl : lv_has ls 4 [(0, .ref h0), (1, .int x0), (2, .int x1)] := hl
  refine lv_aload_n hx hb dX12_bestRow_0 rfl (lv_at hl 0 rfl) ?_
  have hPc := hP.sub (ws' := [(h0, .inr (12, [.ref s0, .int 0, .int 0, .ref s3, .ref s4, .ref s5, .ref s6, .ref s7, .int 0, .int 0, .int 0, .int 0, .int 0, .int 0, .int 0, .ref s15, .int 0, .ref s17, .int 0, .ref s19, .ref s20, .int (-1), .int 0, .int 0, .int 0, .int 0, .int 0, .ref s27, .int 0, .ref s29, .ref s30, .ref s31, .int 0, .int 0, .int 0, .ref s35, .ref s36, .ref s37, .long 0, .ref s39, .ref s40, .ref s41, .ref s42])), (s20, .inl (k20, 100, .inl (fun _ => 0)))]) [0, 1] rfl
  have hDc := hD.sub (ws' := [(h0, .inr (12, [.ref s0, .int 0, .int 0, .ref s3, .ref s4, .ref s5, .ref s6, .ref s7, .int 0, .int 0, .int 0, .int 0, .int 0, .int 0, .int 0, .ref s15, .int 0, .ref s17, .int 0, .ref s19, .ref s20, .int (-1), .int 0, .int 0, .int 0, .int 0, .int 0, .ref s27, .int 0, .ref s29, .ref s30, .ref s31, .int 0, .int 0, .int 0, .ref s35, .ref s36, .ref s37, .long 0, .ref s39, .ref s40, .ref s41, .ref s42])), (s20, .inl (k20, 100, .inl (fun _ => 0)))]) [0, 1] (by decide) rfl
  have hKc := hK.sub (tys' := [(k20, .int)]) [0] rfl
  have hFc := va_free (wc := [(h0, .inr (12, [.ref s0, .int 0, .int 0, .ref s3, .ref s4, .ref s5, .ref s6, .ref s7, .int 0, .int 0, .int 0, .int 0, .int 0, .int 0, .int 0, .ref s15, .int 0, .ref s17, .int 0, .ref s19, .ref s20, .int (-1), .int 0, .int 0, .int 0, .int 0, .int 0, .ref s27, .int 0, .ref s29, .ref s30, .ref s31, .int 0, .int 0, .int 0, .ref s35, .ref s36, .ref s37, .long 0, .ref s39, .ref s40, .ref s41, .ref s42])), (s20, .inl (k20, 100, .inl (fun _ => 0)))]) hD hS hA [0, 1] rfl
  refine va_calli (va_runV (As := []) (rest := []) ⟨hx, hb, hml, hown, hq⟩ (c_M_isDinner l dC dI _ h0 s0 s3 s4 s5 s6 s7 s15 s17 s19 s20 s27 s29 s30 s31 s35 s36 s37 s39 s40 s41 s42 k20 ) (cwV 0 hq (gV qw_1497 qw_1499 qw_76 qw_131 qw_1500) rfl rfl rfl (by decide +kernel) ⟨Nat.le_of_ble_eq_true rfl, Nat.le_of_ble_eq_true rfl⟩) ⟨fun a U g mk q => by obtain ⟨q0, q1, qP, qK, qD, qE⟩ := q; exact ⟨q0, q1, qP, va_K.moved (u := U) (U := U.calling g mk a) (Vm.Alike.refl U.vm) qK, qD, xE.same rfl qE⟩, va_recv hKc hPc (ci := 12) (q0 := 0) rfl rfl, fun U hU hW => ⟨rfl, by rw [hU], by rw [hU]; exact hPc, va_K.moved hW.alike hKc, hDc.weaken (fun _ _ _ _ => trivial), xE.warm hW hE⟩⟩ rfl rfl hl.1 rfl (lv_room (Nat.le_of_ble_eq_true rfl)) dX12_bestRow_1 ⟨Nat.le_of_ble_eq_true rfl, Nat.le_of_ble_eq_true rfl⟩) hS (fun q _ h => hFc q h) hFc (fun r_1 u t H1 locs ht hvm hw hB hz1 hk1 hS => ?_)
  obtain ⟨hP1, hK1, hD1⟩ := hB
  rw [ht] at hP1
  have hK1 := va_K.moved hvm.symm hK1
  obtain ⟨hP, hD⟩ := va_join (wr := []) (w1 := [(h0, .inr (12, [.ref s0, .int 0, .int 0, .ref s3, .ref s4, .ref s5, .ref s6, .ref s7, .int 0, .int 0, .int 0, .int 0, .int 0, .int 0, .int 0, .ref s15, .int 0, .ref s17, .int 0, .ref s19, .ref s20, .int (-1), .int 0, .int 0, .int 0, .int 0, .int 0, .ref s27, .int 0, .ref s29, .ref s30, .ref s31, .int 0, .int 0, .int 0, .ref s35, .ref s36, .ref s37, .long 0, .ref s39, .ref s40, .ref s41, .ref s42])), (s20, .inl (k20, 100, .inl (fun _ => 0)))]) hP hD [0, 1] [] rfl rfl (by decide) (by decide) hk1 hFc hP1 hD1
  generalize H1 = H at hP hS ⊢
  have hP : va_P (dC, dI) classes [(h0, .inr (12, [.ref s0, .int 0, .int 0, .ref s3, .ref s4, .ref s5, .ref s6, .ref s7, .int 0, .int 0, .int 0, .int 0, .int 0, .int 0, .int 0, .ref s15, .int 0, .ref s17, .int 0, .ref s19, .ref s20, .int (-1), .int 0, .int 0, .int 0, .int 0, .int 0, .ref s27, .int 0, .ref s29, .ref s30, .ref s31, .int 0, .int 0, .int 0, .ref s35, .ref s36, .ref s37, .long 0, .ref s39, .ref s40, .ref s41, .ref s42])), (s20, .inl (k20, 100, .inl (fun _ => 0)))] H := hP
  have hD : va_D A [(h0, .inr (12, [.ref s0, .int 0, .int 0, .ref s3, .ref s4, .ref s5, .ref s6, .ref s7, .int 0, .int 0, .int 0, .int 0, .int 0, .int 0, .int 0, .ref s15, .int 0, .ref s17, .int 0, .ref s19, .ref s20, .int (-1), .int 0, .int 0, .int 0, .int 0, .int 0, .ref s27, .int 0, .ref s29, .ref s30, .ref s31, .int 0, .int 0, .int 0, .ref s35, .ref s36, .ref s37, .long 0, .ref s39, .ref s40, .ref s41, .ref s42])), (s20, .inl (k20, 100, .inl (fun _ => 0)))] := hD
  obtain rfl : r_1 = 0 := hw
  refine lv_if_eq (tgt := 31) hx hb dX12_bestRow_4 (by decide) (fun _ => ?_) (fun c9 => absurd c9 (by decide))
  refine lv_bipush (v := (-3)) hx hb dX12_bestRow_31 (by decide) ?_
  refine W.widen (k := 0) (n := 0) (Nat.le_of_ble_eq_true rfl) (Nat.le_of_ble_eq_true rfl) ?_
  exact W.iret (v := (-3)) hx hb hr (fun t ht hW => ⟨⟨(-3), (), rfl, rfl, trivial⟩, hS.F ht⟩) hS.2.2 dX12_bestRow_33

set_option maxHeartbeats 4000000 in
set_option maxRecDepth 100000 in
/-- c_M_hush -/
theorem c_M_hush (l : Launch) (dC : Nat → ClassId) (dI : Nat → Nat → Nat) (sz : Nat) (h0 : Nat) (s0 : Nat) (s3 : Nat) (s4 : Nat) (s5 : Nat) (s6 : Nat) (s7 : Nat) (s15 : Nat) (s17 : Nat) (s19 : Nat) (s20 : Nat) (s27 : Nat) (s29 : Nat) (s30 : Nat) (s31 : Nat) (s35 : Nat) (s36 : Nat) (s37 : Nat) (s39 : Nat) (s40 : Nat) (s41 : Nat) (s42 : Nat) (k20 : ClassId) (x0 : Int32) (x1 : Int32) : Met l yX12_hush (.code yX12_hush cX12_hush 4 (some .int) :: wsA) ({ frames := 1, cells := 0, slots := 0, locals := 20 }) (va_Pc [.ref h0, .int x0, .int x1] (fun U => U.heap.size = sz ∧ va_P (dC, dI) classes [(h0, .inr (12, [.ref s0, .int 0, .int 0, .ref s3, .ref s4, .ref s5, .ref s6, .ref s7, .int 0, .int 0, .int 0, .int 0, .int 0, .int 0, .int 0, .ref s15, .int 0, .ref s17, .int 0, .ref s19, .ref s20, .int (-1), .int 0, .int 0, .int 0, .int 0, .int 0, .ref s27, .int 0, .ref s29, .ref s30, .ref s31, .int 0, .int 0, .int 0, .ref s35, .ref s36, .ref s37, .long 0, .ref s39, .ref s40, .ref s41, .ref s42])), (s20, .inl (k20, 100, .inl (fun _ => 0)))] U.heap ∧ va_K (dC, dI) classes [(k20, .int)] U ∧ va_D (fun _ => True) [(h0, .inr (12, [.ref s0, .int 0, .int 0, .ref s3, .ref s4, .ref s5, .ref s6, .ref s7, .int 0, .int 0, .int 0, .int 0, .int 0, .int 0, .int 0, .ref s15, .int 0, .ref s17, .int 0, .ref s19, .ref s20, .int (-1), .int 0, .int 0, .int 0, .int 0, .int 0, .ref s27, .int 0, .ref s29, .ref s30, .ref s31, .int 0, .int 0, .int 0, .ref s35, .ref s36, .ref s37, .long 0, .ref s39, .ref s40, .ref s41, .ref s42])), (s20, .inl (k20, 100, .inl (fun _ => 0)))] ∧ xE U)) (va_Qi (fun (r : Int32) (_ : Unit) => r = (-3)) (fun _ _ => True) (va_A [(h0, .inr (12, [.ref s0, .int 0, .int 0, .ref s3, .ref s4, .ref s5, .ref s6, .ref s7, .int 0, .int 0, .int 0, .int 0, .int 0, .int 0, .int 0, .ref s15, .int 0, .ref s17, .int 0, .ref s19, .ref s20, .int (-1), .int 0, .int 0, .int 0, .int 0, .int 0, .ref s27, .int 0, .ref s29, .ref s30, .ref s31, .int 0, .int 0, .int 0, .ref s35, .ref s36, .ref s37, .long 0, .ref s39, .ref s40, .ref s41, .ref s42])), (s20, .inl (k20, 100, .inl (fun _ => 0)))] sz)) 0 0 (va_A [(h0, .inr (12, [.ref s0, .int 0, .int 0, .ref s3, .ref s4, .ref s5, .ref s6, .ref s7, .int 0, .int 0, .int 0, .int 0, .int 0, .int 0, .int 0, .ref s15, .int 0, .ref s17, .int 0, .ref s19, .ref s20, .int (-1), .int 0, .int 0, .int 0, .int 0, .int 0, .ref s27, .int 0, .ref s29, .ref s30, .ref s31, .int 0, .int 0, .int 0, .ref s35, .ref s36, .ref s37, .long 0, .ref s39, .ref s40, .ref s41, .ref s42])), (s20, .inl (k20, 100, .inl (fun _ => 0)))] sz) := by
  refine Met.ofW (cc := cX12_hush) (maxL := 4) (ret := (some .int)) (by decide) rfl ?_
  intro p e s m args below meth c s₁ B hml hv
  obtain ⟨rfl, hsz, hP, hK, hD0, hE⟩ := hv
  have hx := B.exec
  have hb := B.bytes
  have hr := B.returns
  have hts := atoms_spec (ws := .code yX12_hush cX12_hush 4 (some .int) :: wsA) B.pre
  have hq : ∀ w ∈ wsA, w.before _ s = true := fun w h => hts w (List.mem_cons_of_mem _ h)
  have hown : s.vm.findClass RX12 = some m.cls := findClass_of_methodNamed B.named
  have hlocks := B.notSynchronized
  subst hsz
  have hD := hD0.self (sz := s.heap.size)
  generalize hAe : va_A [(h0, .inr (12, [.ref s0, .int 0, .int 0, .ref s3, .ref s4, .ref s5, .ref s6, .ref s7, .int 0, .int 0, .int 0, .int 0, .int 0, .int 0, .int 0, .ref s15, .int 0, .ref s17, .int 0, .ref s19, .ref s20, .int (-1), .int 0, .int 0, .int 0, .int 0, .int 0, .ref s27, .int 0, .ref s29, .ref s30, .ref s31, .int 0, .int 0, .int 0, .ref s35, .ref s36, .ref s37, .long 0, .ref s39, .ref s40, .ref s41, .ref s42])), (s20, .inl (k20, 100, .inl (fun _ => 0)))] s.heap.size = A at hD ⊢
  have hA : ∀ q : Nat, s.heap.size ≤ q → A q := fun q h => by rw [← hAe]; exact Or.inr h
  have hS : va_S A s.heap s.heap [] := va_S.rf
  have hl := lv_entry ([.ref h0, .int x0, .int x1]) (n := 4) (Nat.le_of_ble_eq_true rfl)
  rw [lg_entry_eq]
  generalize (lg_sl ([.ref h0, .int x0, .int x1]) ++ List.replicate (4 - (lg_sl ([.ref h0, .int x0, .int x1])).length) Slot.unset).toArray = ls at hl ⊢
  have hl : lv_has ls 4 [(0, .ref h0), (1, .int x0), (2, .int x1)] := hl
  refine lv_aload_n hx hb dX12_hush_0 rfl (lv_at hl 0 rfl) ?_
  have hPc := hP.sub (ws' := [(h0, .inr (12, [.ref s0, .int 0, .int 0, .ref s3, .ref s4, .ref s5, .ref s6, .ref s7, .int 0, .int 0, .int 0, .int 0, .int 0, .int 0, .int 0, .ref s15, .int 0, .ref s17, .int 0, .ref s19, .ref s20, .int (-1), .int 0, .int 0, .int 0, .int 0, .int 0, .ref s27, .int 0, .ref s29, .ref s30, .ref s31, .int 0, .int 0, .int 0, .ref s35, .ref s36, .ref s37, .long 0, .ref s39, .ref s40, .ref s41, .ref s42])), (s20, .inl (k20, 100, .inl (fun _ => 0)))]) [0, 1] rfl
  have hDc := hD.sub (ws' := [(h0, .inr (12, [.ref s0, .int 0, .int 0, .ref s3, .ref s4, .ref s5, .ref s6, .ref s7, .int 0, .int 0, .int 0, .int 0, .int 0, .int 0, .int 0, .ref s15, .int 0, .ref s17, .int 0, .ref s19, .ref s20, .int (-1), .int 0, .int 0, .int 0, .int 0, .int 0, .ref s27, .int 0, .ref s29, .ref s30, .ref s31, .int 0, .int 0, .int 0, .ref s35, .ref s36, .ref s37, .long 0, .ref s39, .ref s40, .ref s41, .ref s42])), (s20, .inl (k20, 100, .inl (fun _ => 0)))]) [0, 1] (by decide) rfl
  have hKc := hK.sub (tys' := [(k20, .int)]) [0] rfl
  have hFc := va_free (wc := [(h0, .inr (12, [.ref s0, .int 0, .int 0, .ref s3, .ref s4, .ref s5, .ref s6, .ref s7, .int 0, .int 0, .int 0, .int 0, .int 0, .int 0, .int 0, .ref s15, .int 0, .ref s17, .int 0, .ref s19, .ref s20, .int (-1), .int 0, .int 0, .int 0, .int 0, .int 0, .ref s27, .int 0, .ref s29, .ref s30, .ref s31, .int 0, .int 0, .int 0, .ref s35, .ref s36, .ref s37, .long 0, .ref s39, .ref s40, .ref s41, .ref s42])), (s20, .inl (k20, 100, .inl (fun _ => 0)))]) hD hS hA [0, 1] rfl
  refine va_calli (va_runV (As := []) (rest := []) ⟨hx, hb, hml, hown, hq⟩ (c_M_isDinner l dC dI _ h0 s0 s3 s4 s5 s6 s7 s15 s17 s19 s20 s27 s29 s30 s31 s35 s36 s37 s39 s40 s41 s42 k20 ) (cwV 0 hq (gV qw_1497 qw_1499 qw_76 qw_131 qw_1500) rfl rfl rfl (by decide +kernel) ⟨Nat.le_of_ble_eq_true rfl, Nat.le_of_ble_eq_true rfl⟩) ⟨fun a U g mk q => by obtain ⟨q0, q1, qP, qK, qD, qE⟩ := q; exact ⟨q0, q1, qP, va_K.moved (u := U) (U := U.calling g mk a) (Vm.Alike.refl U.vm) qK, qD, xE.same rfl qE⟩, va_recv hKc hPc (ci := 12) (q0 := 0) rfl rfl, fun U hU hW => ⟨rfl, by rw [hU], by rw [hU]; exact hPc, va_K.moved hW.alike hKc, hDc.weaken (fun _ _ _ _ => trivial), xE.warm hW hE⟩⟩ rfl rfl hl.1 rfl (lv_room (Nat.le_of_ble_eq_true rfl)) dX12_hush_1 ⟨Nat.le_of_ble_eq_true rfl, Nat.le_of_ble_eq_true rfl⟩) hS (fun q _ h => hFc q h) hFc (fun r_1 u t H1 locs ht hvm hw hB hz1 hk1 hS => ?_)
  obtain ⟨hP1, hK1, hD1⟩ := hB
  rw [ht] at hP1
  have hK1 := va_K.moved hvm.symm hK1
  obtain ⟨hP, hD⟩ := va_join (wr := []) (w1 := [(h0, .inr (12, [.ref s0, .int 0, .int 0, .ref s3, .ref s4, .ref s5, .ref s6, .ref s7, .int 0, .int 0, .int 0, .int 0, .int 0, .int 0, .int 0, .ref s15, .int 0, .ref s17, .int 0, .ref s19, .ref s20, .int (-1), .int 0, .int 0, .int 0, .int 0, .int 0, .ref s27, .int 0, .ref s29, .ref s30, .ref s31, .int 0, .int 0, .int 0, .ref s35, .ref s36, .ref s37, .long 0, .ref s39, .ref s40, .ref s41, .ref s42])), (s20, .inl (k20, 100, .inl (fun _ => 0)))]) hP hD [0, 1] [] rfl rfl (by decide) (by decide) hk1 hFc hP1 hD1
  generalize H1 = H at hP hS ⊢
  have hP : va_P (dC, dI) classes [(h0, .inr (12, [.ref s0, .int 0, .int 0, .ref s3, .ref s4, .ref s5, .ref s6, .ref s7, .int 0, .int 0, .int 0, .int 0, .int 0, .int 0, .int 0, .ref s15, .int 0, .ref s17, .int 0, .ref s19, .ref s20, .int (-1), .int 0, .int 0, .int 0, .int 0, .int 0, .ref s27, .int 0, .ref s29, .ref s30, .ref s31, .int 0, .int 0, .int 0, .ref s35, .ref s36, .ref s37, .long 0, .ref s39, .ref s40, .ref s41, .ref s42])), (s20, .inl (k20, 100, .inl (fun _ => 0)))] H := hP
  have hD : va_D A [(h0, .inr (12, [.ref s0, .int 0, .int 0, .ref s3, .ref s4, .ref s5, .ref s6, .ref s7, .int 0, .int 0, .int 0, .int 0, .int 0, .int 0, .int 0, .ref s15, .int 0, .ref s17, .int 0, .ref s19, .ref s20, .int (-1), .int 0, .int 0, .int 0, .int 0, .int 0, .ref s27, .int 0, .ref s29, .ref s30, .ref s31, .int 0, .int 0, .int 0, .ref s35, .ref s36, .ref s37, .long 0, .ref s39, .ref s40, .ref s41, .ref s42])), (s20, .inl (k20, 100, .inl (fun _ => 0)))] := hD
  obtain rfl : r_1 = 0 := hw
  refine lv_if_eq (tgt := 31) hx hb dX12_hush_4 (by decide) (fun _ => ?_) (fun c9 => absurd c9 (by decide))
  refine lv_bipush (v := (-3)) hx hb dX12_hush_31 (by decide) ?_
  refine W.widen (k := 0) (n := 0) (Nat.le_of_ble_eq_true rfl) (Nat.le_of_ble_eq_true rfl) ?_
  exact W.iret (v := (-3)) hx hb hr (fun t ht hW => ⟨⟨(-3), (), rfl, rfl, trivial⟩, hS.F ht⟩) hS.2.2 dX12_hush_33

set_option maxHeartbeats 4000000 in
set_option maxRecDepth 100000 in
/-- c_M_undo -/
theorem c_M_undo (l : Launch) (dC : Nat → ClassId) (dI : Nat → Nat → Nat) (sz : Nat) (h0 : Nat) (s0 : Nat) (s3 : Nat) (s4 : Nat) (s5 : Nat) (s6 : Nat) (s7 : Nat) (s15 : Nat) (s17 : Nat) (s19 : Nat) (s20 : Nat) (s27 : Nat) (s29 : Nat) (s30 : Nat) (s31 : Nat) (s35 : Nat) (s36 : Nat) (s37 : Nat) (s39 : Nat) (s40 : Nat) (s41 : Nat) (s42 : Nat) : Met l yX12_undo (.code yX12_undo cX12_undo 2 (some .int) :: wsA) ({ frames := 0, cells := 0, slots := 0, locals := 0 }) (va_Pc [.ref h0] (fun U => U.heap.size = sz ∧ va_P (dC, dI) classes [(h0, .inr (12, [.ref s0, .int 0, .int 0, .ref s3, .ref s4, .ref s5, .ref s6, .ref s7, .int 0, .int 0, .int 0, .int 0, .int 0, .int 0, .int 0, .ref s15, .int 0, .ref s17, .int 0, .ref s19, .ref s20, .int (-1), .int 0, .int 0, .int 0, .int 0, .int 0, .ref s27, .int 0, .ref s29, .ref s30, .ref s31, .int 0, .int 0, .int 0, .ref s35, .ref s36, .ref s37, .long 0, .ref s39, .ref s40, .ref s41, .ref s42]))] U.heap ∧ va_K (dC, dI) classes [] U ∧ va_D (fun _ => True) [(h0, .inr (12, [.ref s0, .int 0, .int 0, .ref s3, .ref s4, .ref s5, .ref s6, .ref s7, .int 0, .int 0, .int 0, .int 0, .int 0, .int 0, .int 0, .ref s15, .int 0, .ref s17, .int 0, .ref s19, .ref s20, .int (-1), .int 0, .int 0, .int 0, .int 0, .int 0, .ref s27, .int 0, .ref s29, .ref s30, .ref s31, .int 0, .int 0, .int 0, .ref s35, .ref s36, .ref s37, .long 0, .ref s39, .ref s40, .ref s41, .ref s42]))] ∧ xE U)) (va_Qi (fun (r : Int32) (_ : Unit) => r = (-1)) (fun _ _ => True) (va_A [(h0, .inr (12, [.ref s0, .int 0, .int 0, .ref s3, .ref s4, .ref s5, .ref s6, .ref s7, .int 0, .int 0, .int 0, .int 0, .int 0, .int 0, .int 0, .ref s15, .int 0, .ref s17, .int 0, .ref s19, .ref s20, .int (-1), .int 0, .int 0, .int 0, .int 0, .int 0, .ref s27, .int 0, .ref s29, .ref s30, .ref s31, .int 0, .int 0, .int 0, .ref s35, .ref s36, .ref s37, .long 0, .ref s39, .ref s40, .ref s41, .ref s42]))] sz)) 0 0 (va_A [(h0, .inr (12, [.ref s0, .int 0, .int 0, .ref s3, .ref s4, .ref s5, .ref s6, .ref s7, .int 0, .int 0, .int 0, .int 0, .int 0, .int 0, .int 0, .ref s15, .int 0, .ref s17, .int 0, .ref s19, .ref s20, .int (-1), .int 0, .int 0, .int 0, .int 0, .int 0, .ref s27, .int 0, .ref s29, .ref s30, .ref s31, .int 0, .int 0, .int 0, .ref s35, .ref s36, .ref s37, .long 0, .ref s39, .ref s40, .ref s41, .ref s42]))] sz) := by
  refine Met.ofW (cc := cX12_undo) (maxL := 2) (ret := (some .int)) (by decide) rfl ?_
  intro p e s m args below meth c s₁ B hml hv
  obtain ⟨rfl, hsz, hP, hK, hD0, hE⟩ := hv
  have hx := B.exec
  have hb := B.bytes
  have hr := B.returns
  have hts := atoms_spec (ws := .code yX12_undo cX12_undo 2 (some .int) :: wsA) B.pre
  have hq : ∀ w ∈ wsA, w.before _ s = true := fun w h => hts w (List.mem_cons_of_mem _ h)
  have hown : s.vm.findClass RX12 = some m.cls := findClass_of_methodNamed B.named
  have hlocks := B.notSynchronized
  subst hsz
  have hD := hD0.self (sz := s.heap.size)
  generalize hAe : va_A [(h0, .inr (12, [.ref s0, .int 0, .int 0, .ref s3, .ref s4, .ref s5, .ref s6, .ref s7, .int 0, .int 0, .int 0, .int 0, .int 0, .int 0, .int 0, .ref s15, .int 0, .ref s17, .int 0, .ref s19, .ref s20, .int (-1), .int 0, .int 0, .int 0, .int 0, .int 0, .ref s27, .int 0, .ref s29, .ref s30, .ref s31, .int 0, .int 0, .int 0, .ref s35, .ref s36, .ref s37, .long 0, .ref s39, .ref s40, .ref s41, .ref s42]))] s.heap.size = A at hD ⊢
  have hA : ∀ q : Nat, s.heap.size ≤ q → A q := fun q h => by rw [← hAe]; exact Or.inr h
  have hS : va_S A s.heap s.heap [] := va_S.rf
  have hl := lv_entry ([.ref h0]) (n := 2) (Nat.le_of_ble_eq_true rfl)
  rw [lg_entry_eq]
  generalize (lg_sl ([.ref h0]) ++ List.replicate (2 - (lg_sl ([.ref h0])).length) Slot.unset).toArray = ls at hl ⊢
  have hl : lv_has ls 2 [(0, .ref h0)] := hl
  refine lv_aload_n hx hb dX12_undo_0 rfl (lv_at hl 0 rfl) ?_
  refine va_get (D := (dC, dI)) (ci := 12) (v := .int 0) (C := RX12) (T := TX12) (N := 43) hx hb hq inX12 hown hK hP 0 rfl rfl 28 (by decide) (hq _ qw_1188) (fun _ h9 => h9) rfl dX12_undo_1 ?_
  refine lv_if_ne (tgt := 9) hx hb dX12_undo_4 (by decide) (fun c9 => absurd c9 (by decide)) (fun _ => ?_)
  refine lv_iconst (v := (-1)) hx hb dX12_undo_7 (by decide) ?_
  refine W.widen (k := 0) (n := 0) (Nat.le_of_ble_eq_true rfl) (Nat.le_of_ble_eq_true rfl) ?_
  exact W.iret (v := (-1)) hx hb hr (fun t ht hW => ⟨⟨(-1), (), rfl, rfl, trivial⟩, hS.F ht⟩) hS.2.2 dX12_undo_8

set_option maxHeartbeats 4000000 in
set_option maxRecDepth 100000 in
/-- c_M_note -/
theorem c_M_note (l : Launch) (dC : Nat → ClassId) (dI : Nat → Nat → Nat) (sz : Nat) (h0 : Nat) (s0 : Nat) (s3 : Nat) (s4 : Nat) (s5 : Nat) (s6 : Nat) (s7 : Nat) (s15 : Nat) (s17 : Nat) (s19 : Nat) (s20 : Nat) (s27 : Nat) (s29 : Nat) (s30 : Nat) (s31 : Nat) (s35 : Nat) (s36 : Nat) (s37 : Nat) (s39 : Nat) (s40 : Nat) (s41 : Nat) (s42 : Nat) (k20 : ClassId) (x0 : Int32) (x1 : Int32) (x2 : Int32) (x3 : Int32) : Met l yX12_note (.code yX12_note cX12_note 6 (some .int) :: wsA) ({ frames := 1, cells := 0, slots := 0, locals := 25 }) (va_Pc [.ref h0, .int x0, .int x1, .int x2, .int x3] (fun U => U.heap.size = sz ∧ va_P (dC, dI) classes [(h0, .inr (12, [.ref s0, .int 0, .int 0, .ref s3, .ref s4, .ref s5, .ref s6, .ref s7, .int 0, .int 0, .int 0, .int 0, .int 0, .int 0, .int 0, .ref s15, .int 0, .ref s17, .int 0, .ref s19, .ref s20, .int (-1), .int 0, .int 0, .int 0, .int 0, .int 0, .ref s27, .int 0, .ref s29, .ref s30, .ref s31, .int 0, .int 0, .int 0, .ref s35, .ref s36, .ref s37, .long 0, .ref s39, .ref s40, .ref s41, .ref s42])), (s20, .inl (k20, 100, .inl (fun _ => 0)))] U.heap ∧ va_K (dC, dI) classes [(k20, .int)] U ∧ va_D (fun _ => True) [(h0, .inr (12, [.ref s0, .int 0, .int 0, .ref s3, .ref s4, .ref s5, .ref s6, .ref s7, .int 0, .int 0, .int 0, .int 0, .int 0, .int 0, .int 0, .ref s15, .int 0, .ref s17, .int 0, .ref s19, .ref s20, .int (-1), .int 0, .int 0, .int 0, .int 0, .int 0, .ref s27, .int 0, .ref s29, .ref s30, .ref s31, .int 0, .int 0, .int 0, .ref s35, .ref s36, .ref s37, .long 0, .ref s39, .ref s40, .ref s41, .ref s42])), (s20, .inl (k20, 100, .inl (fun _ => 0)))] ∧ xE U)) (va_Qi (fun (r : Int32) (_ : Unit) => (x0 = -1 → r = 0) ∧ (¬ x0 = -1 → r = -2)) (fun _ _ => True) (va_A [(h0, .inr (12, [.ref s0, .int 0, .int 0, .ref s3, .ref s4, .ref s5, .ref s6, .ref s7, .int 0, .int 0, .int 0, .int 0, .int 0, .int 0, .int 0, .ref s15, .int 0, .ref s17, .int 0, .ref s19, .ref s20, .int (-1), .int 0, .int 0, .int 0, .int 0, .int 0, .ref s27, .int 0, .ref s29, .ref s30, .ref s31, .int 0, .int 0, .int 0, .ref s35, .ref s36, .ref s37, .long 0, .ref s39, .ref s40, .ref s41, .ref s42])), (s20, .inl (k20, 100, .inl (fun _ => 0)))] sz)) 0 0 (va_A [(h0, .inr (12, [.ref s0, .int 0, .int 0, .ref s3, .ref s4, .ref s5, .ref s6, .ref s7, .int 0, .int 0, .int 0, .int 0, .int 0, .int 0, .int 0, .ref s15, .int 0, .ref s17, .int 0, .ref s19, .ref s20, .int (-1), .int 0, .int 0, .int 0, .int 0, .int 0, .ref s27, .int 0, .ref s29, .ref s30, .ref s31, .int 0, .int 0, .int 0, .ref s35, .ref s36, .ref s37, .long 0, .ref s39, .ref s40, .ref s41, .ref s42])), (s20, .inl (k20, 100, .inl (fun _ => 0)))] sz) := by
  refine Met.ofW (cc := cX12_note) (maxL := 6) (ret := (some .int)) (by decide) rfl ?_
  intro p e s m args below meth c s₁ B hml hv
  obtain ⟨rfl, hsz, hP, hK, hD0, hE⟩ := hv
  have hx := B.exec
  have hb := B.bytes
  have hr := B.returns
  have hts := atoms_spec (ws := .code yX12_note cX12_note 6 (some .int) :: wsA) B.pre
  have hq : ∀ w ∈ wsA, w.before _ s = true := fun w h => hts w (List.mem_cons_of_mem _ h)
  have hown : s.vm.findClass RX12 = some m.cls := findClass_of_methodNamed B.named
  have hlocks := B.notSynchronized
  subst hsz
  have hD := hD0.self (sz := s.heap.size)
  generalize hAe : va_A [(h0, .inr (12, [.ref s0, .int 0, .int 0, .ref s3, .ref s4, .ref s5, .ref s6, .ref s7, .int 0, .int 0, .int 0, .int 0, .int 0, .int 0, .int 0, .ref s15, .int 0, .ref s17, .int 0, .ref s19, .ref s20, .int (-1), .int 0, .int 0, .int 0, .int 0, .int 0, .ref s27, .int 0, .ref s29, .ref s30, .ref s31, .int 0, .int 0, .int 0, .ref s35, .ref s36, .ref s37, .long 0, .ref s39, .ref s40, .ref s41, .ref s42])), (s20, .inl (k20, 100, .inl (fun _ => 0)))] s.heap.size = A at hD ⊢
  have hA : ∀ q : Nat, s.heap.size ≤ q → A q := fun q h => by rw [← hAe]; exact Or.inr h
  have hS : va_S A s.heap s.heap [] := va_S.rf
  have hl := lv_entry ([.ref h0, .int x0, .int x1, .int x2, .int x3]) (n := 6) (Nat.le_of_ble_eq_true rfl)
  rw [lg_entry_eq]
  generalize (lg_sl ([.ref h0, .int x0, .int x1, .int x2, .int x3]) ++ List.replicate (6 - (lg_sl ([.ref h0, .int x0, .int x1, .int x2, .int x3])).length) Slot.unset).toArray = ls at hl ⊢
  have hl : lv_has ls 6 [(0, .ref h0), (1, .int x0), (2, .int x1), (3, .int x2), (4, .int x3)] := hl
  refine lv_iload_n hx hb dX12_note_0 rfl (lv_at hl 1 rfl) ?_
  refine lv_iconst (v := (-1)) hx hb dX12_note_1 (by decide) ?_
  refine lv_icmp_ne (tgt := 15) hx hb dX12_note_2 (by decide) (fun c_1 => ?_) (fun c_1 => ?_)
  · refine lv_iload_n hx hb dX12_note_15 rfl (lv_at hl 1 rfl) ?_
    refine lv_i2l hx hb dX12_note_16 rfl ?_
    refine lv_lconst (v := 0) hx hb dX12_note_17 (by decide) ?_
    refine lv_ldc2 (v := 60) hx hb hown (hq _ qw_1748) dX12_note_18 ?_
    have hPc := hP.sub (ws' := []) [] rfl
    have hDc := hD.sub (ws' := []) [] (by decide) rfl
    have hKc := hK.sub (tys' := []) [] rfl
    have hFc := va_free (wc := []) hD hS hA [] rfl
    refine va_calli (va_runS (As := [.long x0.toInt64, .long 0, .long 60]) (rest := []) ⟨hx, hb, hml, hown, hq⟩ (c_M_in_any l dC dI _ x0.toInt64 0 60 ) (cwS 3 hq (gS qw_1364 qw_1365 qw_131 qw_1366) rfl rfl rfl (by decide +kernel) ⟨Nat.le_of_ble_eq_true rfl, Nat.le_of_ble_eq_true rfl⟩) ⟨fun a U g mk q => by obtain ⟨q0, q1, qP, qK, qD, qE⟩ := q; exact ⟨q0, q1, qP, va_K.moved (u := U) (U := U.calling g mk a) (Vm.Alike.refl U.vm) qK, qD, xE.same rfl qE⟩, fun U hU hW => ⟨rfl, by rw [hU], by rw [hU]; exact hPc, va_K.moved hW.alike hKc, hDc.weaken (fun _ _ _ _ => trivial), xE.warm hW hE⟩⟩ rfl rfl hl.1 rfl (lv_room (Nat.le_of_ble_eq_true rfl)) dX12_note_21 ⟨Nat.le_of_ble_eq_true rfl, Nat.le_of_ble_eq_true rfl⟩) hS (fun q _ h => hFc q h) hFc (fun r_2 u t H1 locs ht hvm hw hB hz1 hk1 hS => ?_)
    obtain ⟨hP1, hK1, hD1⟩ := hB
    rw [ht] at hP1
    have hK1 := va_K.moved hvm.symm hK1
    obtain ⟨hP, hD⟩ := va_join (wr := [(h0, .inr (12, [.ref s0, .int 0, .int 0, .ref s3, .ref s4, .ref s5, .ref s6, .ref s7, .int 0, .int 0, .int 0, .int 0, .int 0, .int 0, .int 0, .ref s15, .int 0, .ref s17, .int 0, .ref s19, .ref s20, .int (-1), .int 0, .int 0, .int 0, .int 0, .int 0, .ref s27, .int 0, .ref s29, .ref s30, .ref s31, .int 0, .int 0, .int 0, .ref s35, .ref s36, .ref s37, .long 0, .ref s39, .ref s40, .ref s41, .ref s42])), (s20, .inl (k20, 100, .inl (fun _ => 0)))]) (w1 := []) hP hD [] [0, 1] rfl rfl (by decide) (by decide) hk1 hFc hP1 hD1
    generalize H1 = H at hP hS ⊢
    have hP : va_P (dC, dI) classes [(h0, .inr (12, [.ref s0, .int 0, .int 0, .ref s3, .ref s4, .ref s5, .ref s6, .ref s7, .int 0, .int 0, .int 0, .int 0, .int 0, .int 0, .int 0, .ref s15, .int 0, .ref s17, .int 0, .ref s19, .ref s20, .int (-1), .int 0, .int 0, .int 0, .int 0, .int 0, .ref s27, .int 0, .ref s29, .ref s30, .ref s31, .int 0, .int 0, .int 0, .ref s35, .ref s36, .ref s37, .long 0, .ref s39, .ref s40, .ref s41, .ref s42])), (s20, .inl (k20, 100, .inl (fun _ => 0)))] H := hP
    have hD : va_D A [(h0, .inr (12, [.ref s0, .int 0, .int 0, .ref s3, .ref s4, .ref s5, .ref s6, .ref s7, .int 0, .int 0, .int 0, .int 0, .int 0, .int 0, .int 0, .ref s15, .int 0, .ref s17, .int 0, .ref s19, .ref s20, .int (-1), .int 0, .int 0, .int 0, .int 0, .int 0, .ref s27, .int 0, .ref s29, .ref s30, .ref s31, .int 0, .int 0, .int 0, .ref s35, .ref s36, .ref s37, .long 0, .ref s39, .ref s40, .ref s41, .ref s42])), (s20, .inl (k20, 100, .inl (fun _ => 0)))] := hD
    have hr_2 := hw
    refine lv_if_eq (tgt := 66) hx hb dX12_note_24 (by decide) (fun c_3 => ?_) (fun c_3 => ?_)
    · refine lv_bipush (v := (-2)) hx hb dX12_note_66 (by decide) ?_
      refine W.widen (k := 0) (n := 0) (Nat.le_of_ble_eq_true rfl) (Nat.le_of_ble_eq_true rfl) ?_
      exact W.iret (v := (-2)) hx hb hr (fun t ht hW => ⟨⟨(-2), (), rfl, ⟨fun z => absurd z c_1, fun _ => rfl⟩, trivial⟩, hS.F ht⟩) hS.2.2 dX12_note_68
    · refine lv_aload_n hx hb dX12_note_27 rfl (lv_at hl 0 rfl) ?_
      refine lv_iload_n hx hb dX12_note_28 rfl (lv_at hl 2 rfl) ?_
      have hPc := hP.sub (ws' := [(h0, .inr (12, [.ref s0, .int 0, .int 0, .ref s3, .ref s4, .ref s5, .ref s6, .ref s7, .int 0, .int 0, .int 0, .int 0, .int 0, .int 0, .int 0, .ref s15, .int 0, .ref s17, .int 0, .ref s19, .ref s20, .int (-1), .int 0, .int 0, .int 0, .int 0, .int 0, .ref s27, .int 0, .ref s29, .ref s30, .ref s31, .int 0, .int 0, .int 0, .ref s35, .ref s36, .ref s37, .long 0, .ref s39, .ref s40, .ref s41, .ref s42])), (s20, .inl (k20, 100, .inl (fun _ => 0)))]) [0, 1] rfl
      have hDc := hD.sub (ws' := [(h0, .inr (12, [.ref s0, .int 0, .int 0, .ref s3, .ref s4, .ref s5, .ref s6, .ref s7, .int 0, .int 0, .int 0, .int 0, .int 0, .int 0, .int 0, .ref s15, .int 0, .ref s17, .int 0, .ref s19, .ref s20, .int (-1), .int 0, .int 0, .int 0, .int 0, .int 0, .ref s27, .int 0, .ref s29, .ref s30, .ref s31, .int 0, .int 0, .int 0, .ref s35, .ref s36, .ref s37, .long 0, .ref s39, .ref s40, .ref s41, .ref s42])), (s20, .inl (k20, 100, .inl (fun _ => 0)))]) [0, 1] (by decide) rfl
      have hKc := hK.sub (tys' := [(k20, .int)]) [0] rfl
      have hFc := va_free (wc := [(h0, .inr (12, [.ref s0, .int 0, .int 0, .ref s3, .ref s4, .ref s5, .ref s6, .ref s7, .int 0, .int 0, .int 0, .int 0, .int 0, .int 0, .int 0, .ref s15, .int 0, .ref s17, .int 0, .ref s19, .ref s20, .int (-1), .int 0, .int 0, .int 0, .int 0, .int 0, .ref s27, .int 0, .ref s29, .ref s30, .ref s31, .int 0, .int 0, .int 0, .ref s35, .ref s36, .ref s37, .long 0, .ref s39, .ref s40, .ref s41, .ref s42])), (s20, .inl (k20, 100, .inl (fun _ => 0)))]) hD hS hA [0, 1] rfl
      refine va_calli (va_runV (As := [.int x1]) (rest := []) ⟨hx, hb, hml, hown, hq⟩ (c_M_isGuest l dC dI _ h0 s0 s3 s4 s5 s6 s7 s15 s17 s19 s20 s27 s29 s30 s31 s35 s36 s37 s39 s40 s41 s42 k20 x1 ) (cwV 1 hq (gV qw_1485 qw_1487 qw_74 qw_131 qw_1488) rfl rfl rfl (by decide +kernel) ⟨Nat.le_of_ble_eq_true rfl, Nat.le_of_ble_eq_true rfl⟩) ⟨fun a U g mk q => by obtain ⟨q0, q1, qP, qK, qD, qE⟩ := q; exact ⟨q0, q1, qP, va_K.moved (u := U) (U := U.calling g mk a) (Vm.Alike.refl U.vm) qK, qD, xE.same rfl qE⟩, va_recv hKc hPc (ci := 12) (q0 := 0) rfl rfl, fun U hU hW => ⟨rfl, by rw [hU], by rw [hU]; exact hPc, va_K.moved hW.alike hKc, hDc.weaken (fun _ _ _ _ => trivial), xE.warm hW hE⟩⟩ rfl rfl hl.1 rfl (lv_room (Nat.le_of_ble_eq_true rfl)) dX12_note_29 ⟨Nat.le_of_ble_eq_true rfl, Nat.le_of_ble_eq_true rfl⟩) hS (fun q _ h => hFc q h) hFc (fun r_4 u t H1 locs ht hvm hw hB hz1 hk1 hS => ?_)
      obtain ⟨hP1, hK1, hD1⟩ := hB
      rw [ht] at hP1
      have hK1 := va_K.moved hvm.symm hK1
      obtain ⟨hP, hD⟩ := va_join (wr := []) (w1 := [(h0, .inr (12, [.ref s0, .int 0, .int 0, .ref s3, .ref s4, .ref s5, .ref s6, .ref s7, .int 0, .int 0, .int 0, .int 0, .int 0, .int 0, .int 0, .ref s15, .int 0, .ref s17, .int 0, .ref s19, .ref s20, .int (-1), .int 0, .int 0, .int 0, .int 0, .int 0, .ref s27, .int 0, .ref s29, .ref s30, .ref s31, .int 0, .int 0, .int 0, .ref s35, .ref s36, .ref s37, .long 0, .ref s39, .ref s40, .ref s41, .ref s42])), (s20, .inl (k20, 100, .inl (fun _ => 0)))]) hP hD [0, 1] [] rfl rfl (by decide) (by decide) hk1 hFc hP1 hD1
      generalize H1 = H at hP hS ⊢
      have hP : va_P (dC, dI) classes [(h0, .inr (12, [.ref s0, .int 0, .int 0, .ref s3, .ref s4, .ref s5, .ref s6, .ref s7, .int 0, .int 0, .int 0, .int 0, .int 0, .int 0, .int 0, .ref s15, .int 0, .ref s17, .int 0, .ref s19, .ref s20, .int (-1), .int 0, .int 0, .int 0, .int 0, .int 0, .ref s27, .int 0, .ref s29, .ref s30, .ref s31, .int 0, .int 0, .int 0, .ref s35, .ref s36, .ref s37, .long 0, .ref s39, .ref s40, .ref s41, .ref s42])), (s20, .inl (k20, 100, .inl (fun _ => 0)))] H := hP
      have hD : va_D A [(h0, .inr (12, [.ref s0, .int 0, .int 0, .ref s3, .ref s4, .ref s5, .ref s6, .ref s7, .int 0, .int 0, .int 0, .int 0, .int 0, .int 0, .int 0, .ref s15, .int 0, .ref s17, .int 0, .ref s19, .ref s20, .int (-1), .int 0, .int 0, .int 0, .int 0, .int 0, .ref s27, .int 0, .ref s29, .ref s30, .ref s31, .int 0, .int 0, .int 0, .ref s35, .ref s36, .ref s37, .long 0, .ref s39, .ref s40, .ref s41, .ref s42])), (s20, .inl (k20, 100, .inl (fun _ => 0)))] := hD
      obtain rfl : r_4 = 0 := hw
      refine lv_if_eq (tgt := 66) hx hb dX12_note_32 (by decide) (fun _ => ?_) (fun c9 => absurd c9 (by decide))
      refine lv_bipush (v := (-2)) hx hb dX12_note_66 (by decide) ?_
      refine W.widen (k := 0) (n := 0) (Nat.le_of_ble_eq_true rfl) (Nat.le_of_ble_eq_true rfl) ?_
      exact W.iret (v := (-2)) hx hb hr (fun t ht hW => ⟨⟨(-2), (), rfl, ⟨fun z => absurd z c_1, fun _ => rfl⟩, trivial⟩, hS.F ht⟩) hS.2.2 dX12_note_68
  · refine lv_aload_n hx hb dX12_note_5 rfl (lv_at hl 0 rfl) ?_
    refine va_get (D := (dC, dI)) (ci := 12) (v := .ref s20) (C := RX12) (T := TX12) (N := 43) hx hb hq inX12 hown hK hP 0 rfl rfl 20 (by decide) (hq _ qw_1180) (fun _ h9 => h9) rfl dX12_note_6 ?_
    refine lv_bipush (v := 99) hx hb dX12_note_9 (by decide) ?_
    refine lv_iconst (v := 0) hx hb dX12_note_11 (by decide) ?_
    refine va_iast hx hb hK hP hD hS 1 0 rfl rfl (inr_ok rfl) dX12_note_12 (fun H locs hP hD hS => ?_)
    generalize upd (fun _ => 0) (Int32.toNatClampNeg 99) 0 = f_5 at hP hD
    have hP : va_P (dC, dI) classes [(h0, .inr (12, [.ref s0, .int 0, .int 0, .ref s3, .ref s4, .ref s5, .ref s6, .ref s7, .int 0, .int 0, .int 0, .int 0, .int 0, .int 0, .int 0, .ref s15, .int 0, .ref s17, .int 0, .ref s19, .ref s20, .int (-1), .int 0, .int 0, .int 0, .int 0, .int 0, .ref s27, .int 0, .ref s29, .ref s30, .ref s31, .int 0, .int 0, .int 0, .ref s35, .ref s36, .ref s37, .long 0, .ref s39, .ref s40, .ref s41, .ref s42])), (s20, .inl (k20, 100, .inl f_5))] H := hP
    have hD : va_D A [(h0, .inr (12, [.ref s0, .int 0, .int 0, .ref s3, .ref s4, .ref s5, .ref s6, .ref s7, .int 0, .int 0, .int 0, .int 0, .int 0, .int 0, .int 0, .ref s15, .int 0, .ref s17, .int 0, .ref s19, .ref s20, .int (-1), .int 0, .int 0, .int 0, .int 0, .int 0, .ref s27, .int 0, .ref s29, .ref s30, .ref s31, .int 0, .int 0, .int 0, .ref s35, .ref s36, .ref s37, .long 0, .ref s39, .ref s40, .ref s41, .ref s42])), (s20, .inl (k20, 100, .inl f_5))] := hD
    refine lv_iconst (v := 0) hx hb dX12_note_13 (by decide) ?_
    refine W.widen (k := 0) (n := 0) (Nat.le_of_ble_eq_true rfl) (Nat.le_of_ble_eq_true rfl) ?_
    exact W.iret (v := 0) hx hb hr (fun t ht hW => ⟨⟨0, (), rfl, ⟨fun _ => rfl, fun z => absurd c_1 z⟩, trivial⟩, hS.F ht⟩) hS.2.2 dX12_note_14

set_option maxHeartbeats 4000000 in
set_option maxRecDepth 100000 in
/-- c_M_onTable -/
theorem c_M_onTable (l : Launch) (dC : Nat → ClassId) (dI : Nat → Nat → Nat) (sz : Nat) (h0 : Nat) (s0 : Nat) (s3 : Nat) (s4 : Nat) (s5 : Nat) (s6 : Nat) (s7 : Nat) (s15 : Nat) (s17 : Nat) (s19 : Nat) (s20 : Nat) (s27 : Nat) (s29 : Nat) (s30 : Nat) (s31 : Nat) (s35 : Nat) (s36 : Nat) (s37 : Nat) (s39 : Nat) (s40 : Nat) (s41 : Nat) (s42 : Nat) (k20 : ClassId) : Met l yX12_onTable (.code yX12_onTable cX12_onTable 3 (some .int) :: wsA) ({ frames := 0, cells := 0, slots := 0, locals := 0 }) (va_Pc [.ref h0] (fun U => U.heap.size = sz ∧ va_P (dC, dI) classes [(h0, .inr (12, [.ref s0, .int 0, .int 0, .ref s3, .ref s4, .ref s5, .ref s6, .ref s7, .int 0, .int 0, .int 0, .int 0, .int 0, .int 0, .int 0, .ref s15, .int 0, .ref s17, .int 0, .ref s19, .ref s20, .int (-1), .int 0, .int 0, .int 0, .int 0, .int 0, .ref s27, .int 0, .ref s29, .ref s30, .ref s31, .int 0, .int 0, .int 0, .ref s35, .ref s36, .ref s37, .long 0, .ref s39, .ref s40, .ref s41, .ref s42])), (s20, .inl (k20, 100, .inl (fun _ => 0)))] U.heap ∧ va_K (dC, dI) classes [(k20, .int)] U ∧ va_D (fun _ => True) [(h0, .inr (12, [.ref s0, .int 0, .int 0, .ref s3, .ref s4, .ref s5, .ref s6, .ref s7, .int 0, .int 0, .int 0, .int 0, .int 0, .int 0, .int 0, .ref s15, .int 0, .ref s17, .int 0, .ref s19, .ref s20, .int (-1), .int 0, .int 0, .int 0, .int 0, .int 0, .ref s27, .int 0, .ref s29, .ref s30, .ref s31, .int 0, .int 0, .int 0, .ref s35, .ref s36, .ref s37, .long 0, .ref s39, .ref s40, .ref s41, .ref s42])), (s20, .inl (k20, 100, .inl (fun _ => 0)))] ∧ xE U)) (va_Qi (fun (r : Int32) (_ : Unit) => r = 0) (fun _ _ => True) (va_A [(h0, .inr (12, [.ref s0, .int 0, .int 0, .ref s3, .ref s4, .ref s5, .ref s6, .ref s7, .int 0, .int 0, .int 0, .int 0, .int 0, .int 0, .int 0, .ref s15, .int 0, .ref s17, .int 0, .ref s19, .ref s20, .int (-1), .int 0, .int 0, .int 0, .int 0, .int 0, .ref s27, .int 0, .ref s29, .ref s30, .ref s31, .int 0, .int 0, .int 0, .ref s35, .ref s36, .ref s37, .long 0, .ref s39, .ref s40, .ref s41, .ref s42])), (s20, .inl (k20, 100, .inl (fun _ => 0)))] sz)) 0 0 (va_A [(h0, .inr (12, [.ref s0, .int 0, .int 0, .ref s3, .ref s4, .ref s5, .ref s6, .ref s7, .int 0, .int 0, .int 0, .int 0, .int 0, .int 0, .int 0, .ref s15, .int 0, .ref s17, .int 0, .ref s19, .ref s20, .int (-1), .int 0, .int 0, .int 0, .int 0, .int 0, .ref s27, .int 0, .ref s29, .ref s30, .ref s31, .int 0, .int 0, .int 0, .ref s35, .ref s36, .ref s37, .long 0, .ref s39, .ref s40, .ref s41, .ref s42])), (s20, .inl (k20, 100, .inl (fun _ => 0)))] sz) := by
  refine Met.ofW (cc := cX12_onTable) (maxL := 3) (ret := (some .int)) (by decide) rfl ?_
  intro p e s m args below meth c s₁ B hml hv
  obtain ⟨rfl, hsz, hP, hK, hD0, hE⟩ := hv
  have hx := B.exec
  have hb := B.bytes
  have hr := B.returns
  have hts := atoms_spec (ws := .code yX12_onTable cX12_onTable 3 (some .int) :: wsA) B.pre
  have hq : ∀ w ∈ wsA, w.before _ s = true := fun w h => hts w (List.mem_cons_of_mem _ h)
  have hown : s.vm.findClass RX12 = some m.cls := findClass_of_methodNamed B.named
  have hlocks := B.notSynchronized
  subst hsz
  have hD := hD0.self (sz := s.heap.size)
  generalize hAe : va_A [(h0, .inr (12, [.ref s0, .int 0, .int 0, .ref s3, .ref s4, .ref s5, .ref s6, .ref s7, .int 0, .int 0, .int 0, .int 0, .int 0, .int 0, .int 0, .ref s15, .int 0, .ref s17, .int 0, .ref s19, .ref s20, .int (-1), .int 0, .int 0, .int 0, .int 0, .int 0, .ref s27, .int 0, .ref s29, .ref s30, .ref s31, .int 0, .int 0, .int 0, .ref s35, .ref s36, .ref s37, .long 0, .ref s39, .ref s40, .ref s41, .ref s42])), (s20, .inl (k20, 100, .inl (fun _ => 0)))] s.heap.size = A at hD ⊢
  have hA : ∀ q : Nat, s.heap.size ≤ q → A q := fun q h => by rw [← hAe]; exact Or.inr h
  have hS : va_S A s.heap s.heap [] := va_S.rf
  have hl := lv_entry ([.ref h0]) (n := 3) (Nat.le_of_ble_eq_true rfl)
  rw [lg_entry_eq]
  generalize (lg_sl ([.ref h0]) ++ List.replicate (3 - (lg_sl ([.ref h0])).length) Slot.unset).toArray = ls at hl ⊢
  have hl : lv_has ls 3 [(0, .ref h0)] := hl
  refine lv_iconst (v := 0) hx hb dX12_onTable_0 (by decide) ?_
  refine lv_istore_n (lv' := [(1, .int 0), (0, .ref h0)]) hx hb dX12_onTable_1 rfl hl (by decide) rfl (fun ls hl => ?_)
  refine lv_iconst (v := 0) hx hb dX12_onTable_2 (by decide) ?_
  refine lv_istore_n (lv' := [(2, .int 0), (1, .int 0), (0, .ref h0)]) hx hb dX12_onTable_3 rfl hl (by decide) rfl (fun ls hl => ?_)
  refine lv_iload_n hx hb dX12_onTable_4 rfl (lv_at hl 0 rfl) ?_
  refine lv_aload_n hx hb dX12_onTable_5 rfl (lv_at hl 2 rfl) ?_
  refine va_get (D := (dC, dI)) (ci := 12) (v := .ref s20) (C := RX12) (T := TX12) (N := 43) hx hb hq inX12 hown hK hP 0 rfl rfl 20 (by decide) (hq _ qw_1180) (fun _ h9 => h9) rfl dX12_onTable_6 ?_
  refine lv_iconst (v := 2) hx hb dX12_onTable_9 (by decide) ?_
  refine va_iald hx hb hK hP 1 0 rfl rfl (inr_ok rfl) dX12_onTable_10 ?_
  refine lv_topi (fun y_1 ey_1 => ?_)
  obtain rfl : y_1 = 0 := ey_1.trans (rfl)
  refine lv_icmp_ge (tgt := 43) hx hb dX12_onTable_11 (by decide) (fun _ => ?_) (fun c9 => absurd c9 (by decide))
  refine lv_iload_n hx hb dX12_onTable_43 rfl (lv_at hl 1 rfl) ?_
  refine W.widen (k := 0) (n := 0) (Nat.le_of_ble_eq_true rfl) (Nat.le_of_ble_eq_true rfl) ?_
  exact W.iret (v := 0) hx hb hr (fun t ht hW => ⟨⟨0, (), rfl, rfl, trivial⟩, hS.F ht⟩) hS.2.2 dX12_onTable_44

set_option maxHeartbeats 4000000 in
set_option maxRecDepth 100000 in
/-- c_M_sitting -/
theorem c_M_sitting (l : Launch) (dC : Nat → ClassId) (dI : Nat → Nat → Nat) (sz : Nat) (h0 : Nat) (s0 : Nat) (s3 : Nat) (s4 : Nat) (s5 : Nat) (s6 : Nat) (s7 : Nat) (s15 : Nat) (s17 : Nat) (s19 : Nat) (s20 : Nat) (s27 : Nat) (s29 : Nat) (s30 : Nat) (s31 : Nat) (s35 : Nat) (s36 : Nat) (s37 : Nat) (s39 : Nat) (s40 : Nat) (s41 : Nat) (s42 : Nat) (k20 : ClassId) : Met l yX12_sitting (.code yX12_sitting cX12_sitting 3 (some .int) :: wsA) ({ frames := 0, cells := 0, slots := 0, locals := 0 }) (va_Pc [.ref h0] (fun U => U.heap.size = sz ∧ va_P (dC, dI) classes [(h0, .inr (12, [.ref s0, .int 0, .int 0, .ref s3, .ref s4, .ref s5, .ref s6, .ref s7, .int 0, .int 0, .int 0, .int 0, .int 0, .int 0, .int 0, .ref s15, .int 0, .ref s17, .int 0, .ref s19, .ref s20, .int (-1), .int 0, .int 0, .int 0, .int 0, .int 0, .ref s27, .int 0, .ref s29, .ref s30, .ref s31, .int 0, .int 0, .int 0, .ref s35, .ref s36, .ref s37, .long 0, .ref s39, .ref s40, .ref s41, .ref s42])), (s20, .inl (k20, 100, .inl (fun _ => 0)))] U.heap ∧ va_K (dC, dI) classes [(k20, .int)] U ∧ va_D (fun _ => True) [(h0, .inr (12, [.ref s0, .int 0, .int 0, .ref s3, .ref s4, .ref s5, .ref s6, .ref s7, .int 0, .int 0, .int 0, .int 0, .int 0, .int 0, .int 0, .ref s15, .int 0, .ref s17, .int 0, .ref s19, .ref s20, .int (-1), .int 0, .int 0, .int 0, .int 0, .int 0, .ref s27, .int 0, .ref s29, .ref s30, .ref s31, .int 0, .int 0, .int 0, .ref s35, .ref s36, .ref s37, .long 0, .ref s39, .ref s40, .ref s41, .ref s42])), (s20, .inl (k20, 100, .inl (fun _ => 0)))] ∧ xE U)) (va_Qi (fun (r : Int32) (_ : Unit) => r = 0) (fun _ _ => True) (va_A [(h0, .inr (12, [.ref s0, .int 0, .int 0, .ref s3, .ref s4, .ref s5, .ref s6, .ref s7, .int 0, .int 0, .int 0, .int 0, .int 0, .int 0, .int 0, .ref s15, .int 0, .ref s17, .int 0, .ref s19, .ref s20, .int (-1), .int 0, .int 0, .int 0, .int 0, .int 0, .ref s27, .int 0, .ref s29, .ref s30, .ref s31, .int 0, .int 0, .int 0, .ref s35, .ref s36, .ref s37, .long 0, .ref s39, .ref s40, .ref s41, .ref s42])), (s20, .inl (k20, 100, .inl (fun _ => 0)))] sz)) 0 0 (va_A [(h0, .inr (12, [.ref s0, .int 0, .int 0, .ref s3, .ref s4, .ref s5, .ref s6, .ref s7, .int 0, .int 0, .int 0, .int 0, .int 0, .int 0, .int 0, .ref s15, .int 0, .ref s17, .int 0, .ref s19, .ref s20, .int (-1), .int 0, .int 0, .int 0, .int 0, .int 0, .ref s27, .int 0, .ref s29, .ref s30, .ref s31, .int 0, .int 0, .int 0, .ref s35, .ref s36, .ref s37, .long 0, .ref s39, .ref s40, .ref s41, .ref s42])), (s20, .inl (k20, 100, .inl (fun _ => 0)))] sz) := by
  refine Met.ofW (cc := cX12_sitting) (maxL := 3) (ret := (some .int)) (by decide) rfl ?_
  intro p e s m args below meth c s₁ B hml hv
  obtain ⟨rfl, hsz, hP, hK, hD0, hE⟩ := hv
  have hx := B.exec
  have hb := B.bytes
  have hr := B.returns
  have hts := atoms_spec (ws := .code yX12_sitting cX12_sitting 3 (some .int) :: wsA) B.pre
  have hq : ∀ w ∈ wsA, w.before _ s = true := fun w h => hts w (List.mem_cons_of_mem _ h)
  have hown : s.vm.findClass RX12 = some m.cls := findClass_of_methodNamed B.named
  have hlocks := B.notSynchronized
  subst hsz
  have hD := hD0.self (sz := s.heap.size)
  generalize hAe : va_A [(h0, .inr (12, [.ref s0, .int 0, .int 0, .ref s3, .ref s4, .ref s5, .ref s6, .ref s7, .int 0, .int 0, .int 0, .int 0, .int 0, .int 0, .int 0, .ref s15, .int 0, .ref s17, .int 0, .ref s19, .ref s20, .int (-1), .int 0, .int 0, .int 0, .int 0, .int 0, .ref s27, .int 0, .ref s29, .ref s30, .ref s31, .int 0, .int 0, .int 0, .ref s35, .ref s36, .ref s37, .long 0, .ref s39, .ref s40, .ref s41, .ref s42])), (s20, .inl (k20, 100, .inl (fun _ => 0)))] s.heap.size = A at hD ⊢
  have hA : ∀ q : Nat, s.heap.size ≤ q → A q := fun q h => by rw [← hAe]; exact Or.inr h
  have hS : va_S A s.heap s.heap [] := va_S.rf
  have hl := lv_entry ([.ref h0]) (n := 3) (Nat.le_of_ble_eq_true rfl)
  rw [lg_entry_eq]
  generalize (lg_sl ([.ref h0]) ++ List.replicate (3 - (lg_sl ([.ref h0])).length) Slot.unset).toArray = ls at hl ⊢
  have hl : lv_has ls 3 [(0, .ref h0)] := hl
  refine lv_iconst (v := 0) hx hb dX12_sitting_0 (by decide) ?_
  refine lv_istore_n (lv' := [(1, .int 0), (0, .ref h0)]) hx hb dX12_sitting_1 rfl hl (by decide) rfl (fun ls hl => ?_)
  refine lv_iconst (v := 0) hx hb dX12_sitting_2 (by decide) ?_
  refine lv_istore_n (lv' := [(2, .int 0), (1, .int 0), (0, .ref h0)]) hx hb dX12_sitting_3 rfl hl (by decide) rfl (fun ls hl => ?_)
  refine lv_iload_n hx hb dX12_sitting_4 rfl (lv_at hl 0 rfl) ?_
  refine lv_aload_n hx hb dX12_sitting_5 rfl (lv_at hl 2 rfl) ?_
  refine va_get (D := (dC, dI)) (ci := 12) (v := .ref s20) (C := RX12) (T := TX12) (N := 43) hx hb hq inX12 hown hK hP 0 rfl rfl 20 (by decide) (hq _ qw_1180) (fun _ h9 => h9) rfl dX12_sitting_6 ?_
  refine lv_iconst (v := 3) hx hb dX12_sitting_9 (by decide) ?_
  refine va_iald hx hb hK hP 1 0 rfl rfl (inr_ok rfl) dX12_sitting_10 ?_
  refine lv_topi (fun y_1 ey_1 => ?_)
  obtain rfl : y_1 = 0 := ey_1.trans (rfl)
  refine lv_icmp_ge (tgt := 38) hx hb dX12_sitting_11 (by decide) (fun _ => ?_) (fun c9 => absurd c9 (by decide))
  refine lv_iload_n hx hb dX12_sitting_38 rfl (lv_at hl 1 rfl) ?_
  refine W.widen (k := 0) (n := 0) (Nat.le_of_ble_eq_true rfl) (Nat.le_of_ble_eq_true rfl) ?_
  exact W.iret (v := 0) hx hb hr (fun t ht hW => ⟨⟨0, (), rfl, rfl, trivial⟩, hS.F ht⟩) hS.2.2 dX12_sitting_39

set_option maxHeartbeats 4000000 in
set_option maxRecDepth 100000 in
/-- c_M_knownMany -/
theorem c_M_knownMany (l : Launch) (dC : Nat → ClassId) (dI : Nat → Nat → Nat) (sz : Nat) (h0 : Nat) (s0 : Nat) (s3 : Nat) (s4 : Nat) (s5 : Nat) (s6 : Nat) (s7 : Nat) (s15 : Nat) (s17 : Nat) (s19 : Nat) (s20 : Nat) (s27 : Nat) (s29 : Nat) (s30 : Nat) (s31 : Nat) (s35 : Nat) (s36 : Nat) (s37 : Nat) (s39 : Nat) (s40 : Nat) (s41 : Nat) (s42 : Nat) (k20 : ClassId) : Met l yX12_knownMany (.code yX12_knownMany cX12_knownMany 4 (some .int) :: wsA) ({ frames := 0, cells := 0, slots := 0, locals := 0 }) (va_Pc [.ref h0, .int 0] (fun U => U.heap.size = sz ∧ va_P (dC, dI) classes [(h0, .inr (12, [.ref s0, .int 0, .int 0, .ref s3, .ref s4, .ref s5, .ref s6, .ref s7, .int 0, .int 0, .int 0, .int 0, .int 0, .int 0, .int 0, .ref s15, .int 0, .ref s17, .int 0, .ref s19, .ref s20, .int (-1), .int 0, .int 0, .int 0, .int 0, .int 0, .ref s27, .int 0, .ref s29, .ref s30, .ref s31, .int 0, .int 0, .int 0, .ref s35, .ref s36, .ref s37, .long 0, .ref s39, .ref s40, .ref s41, .ref s42])), (s20, .inl (k20, 100, .inl (fun _ => 0)))] U.heap ∧ va_K (dC, dI) classes [(k20, .int)] U ∧ va_D (fun _ => True) [(h0, .inr (12, [.ref s0, .int 0, .int 0, .ref s3, .ref s4, .ref s5, .ref s6, .ref s7, .int 0, .int 0, .int 0, .int 0, .int 0, .int 0, .int 0, .ref s15, .int 0, .ref s17, .int 0, .ref s19, .ref s20, .int (-1), .int 0, .int 0, .int 0, .int 0, .int 0, .ref s27, .int 0, .ref s29, .ref s30, .ref s31, .int 0, .int 0, .int 0, .ref s35, .ref s36, .ref s37, .long 0, .ref s39, .ref s40, .ref s41, .ref s42])), (s20, .inl (k20, 100, .inl (fun _ => 0)))] ∧ xE U)) (va_Qi (fun (r : Int32) (_ : Unit) => r = 0) (fun _ _ => True) (va_A [(h0, .inr (12, [.ref s0, .int 0, .int 0, .ref s3, .ref s4, .ref s5, .ref s6, .ref s7, .int 0, .int 0, .int 0, .int 0, .int 0, .int 0, .int 0, .ref s15, .int 0, .ref s17, .int 0, .ref s19, .ref s20, .int (-1), .int 0, .int 0, .int 0, .int 0, .int 0, .ref s27, .int 0, .ref s29, .ref s30, .ref s31, .int 0, .int 0, .int 0, .ref s35, .ref s36, .ref s37, .long 0, .ref s39, .ref s40, .ref s41, .ref s42])), (s20, .inl (k20, 100, .inl (fun _ => 0)))] sz)) 0 0 (va_A [(h0, .inr (12, [.ref s0, .int 0, .int 0, .ref s3, .ref s4, .ref s5, .ref s6, .ref s7, .int 0, .int 0, .int 0, .int 0, .int 0, .int 0, .int 0, .ref s15, .int 0, .ref s17, .int 0, .ref s19, .ref s20, .int (-1), .int 0, .int 0, .int 0, .int 0, .int 0, .ref s27, .int 0, .ref s29, .ref s30, .ref s31, .int 0, .int 0, .int 0, .ref s35, .ref s36, .ref s37, .long 0, .ref s39, .ref s40, .ref s41, .ref s42])), (s20, .inl (k20, 100, .inl (fun _ => 0)))] sz) := by
  refine Met.ofW (cc := cX12_knownMany) (maxL := 4) (ret := (some .int)) (by decide) rfl ?_
  intro p e s m args below meth c s₁ B hml hv
  obtain ⟨rfl, hsz, hP, hK, hD0, hE⟩ := hv
  have hx := B.exec
  have hb := B.bytes
  have hr := B.returns
  have hts := atoms_spec (ws := .code yX12_knownMany cX12_knownMany 4 (some .int) :: wsA) B.pre
  have hq : ∀ w ∈ wsA, w.before _ s = true := fun w h => hts w (List.mem_cons_of_mem _ h)
  have hown : s.vm.findClass RX12 = some m.cls := findClass_of_methodNamed B.named
  have hlocks := B.notSynchronized
  subst hsz
  have hD := hD0.self (sz := s.heap.size)
  generalize hAe : va_A [(h0, .inr (12, [.ref s0, .int 0, .int 0, .ref s3, .ref s4, .ref s5, .ref s6, .ref s7, .int 0, .int 0, .int 0, .int 0, .int 0, .int 0, .int 0, .ref s15, .int 0, .ref s17, .int 0, .ref s19, .ref s20, .int (-1), .int 0, .int 0, .int 0, .int 0, .int 0, .ref s27, .int 0, .ref s29, .ref s30, .ref s31, .int 0, .int 0, .int 0, .ref s35, .ref s36, .ref s37, .long 0, .ref s39, .ref s40, .ref s41, .ref s42])), (s20, .inl (k20, 100, .inl (fun _ => 0)))] s.heap.size = A at hD ⊢
  have hA : ∀ q : Nat, s.heap.size ≤ q → A q := fun q h => by rw [← hAe]; exact Or.inr h
  have hS : va_S A s.heap s.heap [] := va_S.rf
  have hl := lv_entry ([.ref h0, .int 0]) (n := 4) (Nat.le_of_ble_eq_true rfl)
  rw [lg_entry_eq]
  generalize (lg_sl ([.ref h0, .int 0]) ++ List.replicate (4 - (lg_sl ([.ref h0, .int 0])).length) Slot.unset).toArray = ls at hl ⊢
  have hl : lv_has ls 4 [(0, .ref h0), (1, .int 0)] := hl
  refine lv_iconst (v := 0) hx hb dX12_knownMany_0 (by decide) ?_
  refine lv_istore_n (lv' := [(2, .int 0), (0, .ref h0), (1, .int 0)]) hx hb dX12_knownMany_1 rfl hl (by decide) rfl (fun ls hl => ?_)
  refine lv_iconst (v := 0) hx hb dX12_knownMany_2 (by decide) ?_
  refine lv_istore_n (lv' := [(3, .int 0), (2, .int 0), (0, .ref h0), (1, .int 0)]) hx hb dX12_knownMany_3 rfl hl (by decide) rfl (fun ls hl => ?_)
  refine lv_iload_n hx hb dX12_knownMany_4 rfl (lv_at hl 0 rfl) ?_
  refine lv_aload_n hx hb dX12_knownMany_5 rfl (lv_at hl 2 rfl) ?_
  refine va_get (D := (dC, dI)) (ci := 12) (v := .ref s20) (C := RX12) (T := TX12) (N := 43) hx hb hq inX12 hown hK hP 0 rfl rfl 20 (by decide) (hq _ qw_1180) (fun _ h9 => h9) rfl dX12_knownMany_6 ?_
  refine lv_iconst (v := 3) hx hb dX12_knownMany_9 (by decide) ?_
  refine va_iald hx hb hK hP 1 0 rfl rfl (inr_ok rfl) dX12_knownMany_10 ?_
  refine lv_topi (fun y_1 ey_1 => ?_)
  obtain rfl : y_1 = 0 := ey_1.trans (rfl)
  refine lv_icmp_ge (tgt := 51) hx hb dX12_knownMany_11 (by decide) (fun _ => ?_) (fun c9 => absurd c9 (by decide))
  refine lv_iload_n hx hb dX12_knownMany_51 rfl (lv_at hl 1 rfl) ?_
  refine W.widen (k := 0) (n := 0) (Nat.le_of_ble_eq_true rfl) (Nat.le_of_ble_eq_true rfl) ?_
  exact W.iret (v := 0) hx hb hr (fun t ht hW => ⟨⟨0, (), rfl, rfl, trivial⟩, hS.F ht⟩) hS.2.2 dX12_knownMany_52

set_option maxHeartbeats 4000000 in
set_option maxRecDepth 100000 in
/-- c_M_count -/
theorem c_M_count (l : Launch) (dC : Nat → ClassId) (dI : Nat → Nat → Nat) (sz : Nat) (h0 : Nat) (s0 : Nat) (s3 : Nat) (s4 : Nat) (s5 : Nat) (s6 : Nat) (s7 : Nat) (s15 : Nat) (s17 : Nat) (s19 : Nat) (s20 : Nat) (s27 : Nat) (s29 : Nat) (s30 : Nat) (s31 : Nat) (s35 : Nat) (s36 : Nat) (s37 : Nat) (s39 : Nat) (s40 : Nat) (s41 : Nat) (s42 : Nat) (k20 : ClassId) (x0 : Int32) : Met l yX12_count (.code yX12_count cX12_count 2 (some .int) :: wsA) ({ frames := 1, cells := 0, slots := 0, locals := 23 }) (va_Pc [.ref h0, .int x0] (fun U => U.heap.size = sz ∧ va_P (dC, dI) classes [(h0, .inr (12, [.ref s0, .int 0, .int 0, .ref s3, .ref s4, .ref s5, .ref s6, .ref s7, .int 0, .int 0, .int 0, .int 0, .int 0, .int 0, .int 0, .ref s15, .int 0, .ref s17, .int 0, .ref s19, .ref s20, .int (-1), .int 0, .int 0, .int 0, .int 0, .int 0, .ref s27, .int 0, .ref s29, .ref s30, .ref s31, .int 0, .int 0, .int 0, .ref s35, .ref s36, .ref s37, .long 0, .ref s39, .ref s40, .ref s41, .ref s42])), (s20, .inl (k20, 100, .inl (fun _ => 0)))] U.heap ∧ va_K (dC, dI) classes [(k20, .int)] U ∧ va_D (fun _ => True) [(h0, .inr (12, [.ref s0, .int 0, .int 0, .ref s3, .ref s4, .ref s5, .ref s6, .ref s7, .int 0, .int 0, .int 0, .int 0, .int 0, .int 0, .int 0, .ref s15, .int 0, .ref s17, .int 0, .ref s19, .ref s20, .int (-1), .int 0, .int 0, .int 0, .int 0, .int 0, .ref s27, .int 0, .ref s29, .ref s30, .ref s31, .int 0, .int 0, .int 0, .ref s35, .ref s36, .ref s37, .long 0, .ref s39, .ref s40, .ref s41, .ref s42])), (s20, .inl (k20, 100, .inl (fun _ => 0)))] ∧ xE U)) (va_Qi (fun (r : Int32) (_ : Unit) => r = fe_count x0) (fun _ _ => True) (va_A [(h0, .inr (12, [.ref s0, .int 0, .int 0, .ref s3, .ref s4, .ref s5, .ref s6, .ref s7, .int 0, .int 0, .int 0, .int 0, .int 0, .int 0, .int 0, .ref s15, .int 0, .ref s17, .int 0, .ref s19, .ref s20, .int (-1), .int 0, .int 0, .int 0, .int 0, .int 0, .ref s27, .int 0, .ref s29, .ref s30, .ref s31, .int 0, .int 0, .int 0, .ref s35, .ref s36, .ref s37, .long 0, .ref s39, .ref s40, .ref s41, .ref s42])), (s20, .inl (k20, 100, .inl (fun _ => 0)))] sz)) 0 0 (va_A [(h0, .inr (12, [.ref s0, .int 0, .int 0, .ref s3, .ref s4, .ref s5, .ref s6, .ref s7, .int 0, .int 0, .int 0, .int 0, .int 0, .int 0, .int 0, .ref s15, .int 0, .ref s17, .int 0, .ref s19, .ref s20, .int (-1), .int 0, .int 0, .int 0, .int 0, .int 0, .ref s27, .int 0, .ref s29, .ref s30, .ref s31, .int 0, .int 0, .int 0, .ref s35, .ref s36, .ref s37, .long 0, .ref s39, .ref s40, .ref s41, .ref s42])), (s20, .inl (k20, 100, .inl (fun _ => 0)))] sz) := by
  refine Met.ofW (cc := cX12_count) (maxL := 2) (ret := (some .int)) (by decide) rfl ?_
  intro p e s m args below meth c s₁ B hml hv
  obtain ⟨rfl, hsz, hP, hK, hD0, hE⟩ := hv
  have hx := B.exec
  have hb := B.bytes
  have hr := B.returns
  have hts := atoms_spec (ws := .code yX12_count cX12_count 2 (some .int) :: wsA) B.pre
  have hq : ∀ w ∈ wsA, w.before _ s = true := fun w h => hts w (List.mem_cons_of_mem _ h)
  have hown : s.vm.findClass RX12 = some m.cls := findClass_of_methodNamed B.named
  have hlocks := B.notSynchronized
  subst hsz
  have hD := hD0.self (sz := s.heap.size)
  generalize hAe : va_A [(h0, .inr (12, [.ref s0, .int 0, .int 0, .ref s3, .ref s4, .ref s5, .ref s6, .ref s7, .int 0, .int 0, .int 0, .int 0, .int 0, .int 0, .int 0, .ref s15, .int 0, .ref s17, .int 0, .ref s19, .ref s20, .int (-1), .int 0, .int 0, .int 0, .int 0, .int 0, .ref s27, .int 0, .ref s29, .ref s30, .ref s31, .int 0, .int 0, .int 0, .ref s35, .ref s36, .ref s37, .long 0, .ref s39, .ref s40, .ref s41, .ref s42])), (s20, .inl (k20, 100, .inl (fun _ => 0)))] s.heap.size = A at hD ⊢
  have hA : ∀ q : Nat, s.heap.size ≤ q → A q := fun q h => by rw [← hAe]; exact Or.inr h
  have hS : va_S A s.heap s.heap [] := va_S.rf
  have hl := lv_entry ([.ref h0, .int x0]) (n := 2) (Nat.le_of_ble_eq_true rfl)
  rw [lg_entry_eq]
  generalize (lg_sl ([.ref h0, .int x0]) ++ List.replicate (2 - (lg_sl ([.ref h0, .int x0])).length) Slot.unset).toArray = ls at hl ⊢
  have hl : lv_has ls 2 [(0, .ref h0), (1, .int x0)] := hl
  rcases c14 x0 with rfl | rfl | rfl | rfl | rfl | rfl | rfl | rfl | rfl | rfl | rfl | rfl | rfl | rfl | hout
  · refine lv_iload_n hx hb dX12_count_0 rfl (lv_at hl 1 rfl) ?_
    refine lv_tableIn (tgt := 72) hx hb dX12_count_1 (by decide) (by decide) (off := 71) (by decide) (by decide) ?_
    refine lv_aload_n hx hb dX12_count_72 rfl (lv_at hl 0 rfl) ?_
    refine va_get (D := (dC, dI)) (ci := 12) (v := .ref s20) (C := RX12) (T := TX12) (N := 43) hx hb hq inX12 hown hK hP 0 rfl rfl 20 (by decide) (hq _ qw_1180) (fun _ h9 => h9) rfl dX12_count_73 ?_
    refine lv_iload_n hx hb dX12_count_76 rfl (lv_at hl 1 rfl) ?_
    refine lv_iconst (v := 1) hx hb dX12_count_77 (by decide) ?_
    refine lv_iadd hx hb dX12_count_78 ?_
    refine lv_topi (fun y_1 ey_1 => ?_)
    obtain rfl : y_1 = 1 := ey_1.trans (by decide)
    refine va_iald hx hb hK hP 1 0 rfl rfl (inr_ok rfl) dX12_count_79 ?_
    refine lv_topi (fun y_2 ey_2 => ?_)
    obtain rfl : y_2 = 0 := ey_2.trans (rfl)
    refine W.widen (k := 0) (n := 0) (Nat.le_of_ble_eq_true rfl) (Nat.le_of_ble_eq_true rfl) ?_
    exact W.iret (v := 0) hx hb hr (fun t ht hW => ⟨⟨0, (), rfl, by decide, trivial⟩, hS.F ht⟩) hS.2.2 dX12_count_80
  · refine lv_iload_n hx hb dX12_count_0 rfl (lv_at hl 1 rfl) ?_
    refine lv_tableIn (tgt := 72) hx hb dX12_count_1 (by decide) (by decide) (off := 71) (by decide) (by decide) ?_
    refine lv_aload_n hx hb dX12_count_72 rfl (lv_at hl 0 rfl) ?_
    refine va_get (D := (dC, dI)) (ci := 12) (v := .ref s20) (C := RX12) (T := TX12) (N := 43) hx hb hq inX12 hown hK hP 0 rfl rfl 20 (by decide) (hq _ qw_1180) (fun _ h9 => h9) rfl dX12_count_73 ?_
    refine lv_iload_n hx hb dX12_count_76 rfl (lv_at hl 1 rfl) ?_
    refine lv_iconst (v := 1) hx hb dX12_count_77 (by decide) ?_
    refine lv_iadd hx hb dX12_count_78 ?_
    refine lv_topi (fun y_3 ey_3 => ?_)
    obtain rfl : y_3 = 2 := ey_3.trans (by decide)
    refine va_iald hx hb hK hP 1 0 rfl rfl (inr_ok rfl) dX12_count_79 ?_
    refine lv_topi (fun y_4 ey_4 => ?_)
    obtain rfl : y_4 = 0 := ey_4.trans (rfl)
    refine W.widen (k := 0) (n := 0) (Nat.le_of_ble_eq_true rfl) (Nat.le_of_ble_eq_true rfl) ?_
    exact W.iret (v := 0) hx hb hr (fun t ht hW => ⟨⟨0, (), rfl, by decide, trivial⟩, hS.F ht⟩) hS.2.2 dX12_count_80
  · refine lv_iload_n hx hb dX12_count_0 rfl (lv_at hl 1 rfl) ?_
    refine lv_tableIn (tgt := 72) hx hb dX12_count_1 (by decide) (by decide) (off := 71) (by decide) (by decide) ?_
    refine lv_aload_n hx hb dX12_count_72 rfl (lv_at hl 0 rfl) ?_
    refine va_get (D := (dC, dI)) (ci := 12) (v := .ref s20) (C := RX12) (T := TX12) (N := 43) hx hb hq inX12 hown hK hP 0 rfl rfl 20 (by decide) (hq _ qw_1180) (fun _ h9 => h9) rfl dX12_count_73 ?_
    refine lv_iload_n hx hb dX12_count_76 rfl (lv_at hl 1 rfl) ?_
    refine lv_iconst (v := 1) hx hb dX12_count_77 (by decide) ?_
    refine lv_iadd hx hb dX12_count_78 ?_
    refine lv_topi (fun y_5 ey_5 => ?_)
    obtain rfl : y_5 = 3 := ey_5.trans (by decide)
    refine va_iald hx hb hK hP 1 0 rfl rfl (inr_ok rfl) dX12_count_79 ?_
    refine lv_topi (fun y_6 ey_6 => ?_)
    obtain rfl : y_6 = 0 := ey_6.trans (rfl)
    refine W.widen (k := 0) (n := 0) (Nat.le_of_ble_eq_true rfl) (Nat.le_of_ble_eq_true rfl) ?_
    exact W.iret (v := 0) hx hb hr (fun t ht hW => ⟨⟨0, (), rfl, by decide, trivial⟩, hS.F ht⟩) hS.2.2 dX12_count_80
  · refine lv_iload_n hx hb dX12_count_0 rfl (lv_at hl 1 rfl) ?_
    refine lv_tableIn (tgt := 81) hx hb dX12_count_1 (by decide) (by decide) (off := 80) (by decide) (by decide) ?_
    refine lv_aload_n hx hb dX12_count_81 rfl (lv_at hl 0 rfl) ?_
    refine va_get (D := (dC, dI)) (ci := 12) (v := .int 0) (C := RX12) (T := TX12) (N := 43) hx hb hq inX12 hown hK hP 0 rfl rfl 2 (by decide) (hq _ qw_1162) (fun _ h9 => h9) rfl dX12_count_82 ?_
    refine W.widen (k := 0) (n := 0) (Nat.le_of_ble_eq_true rfl) (Nat.le_of_ble_eq_true rfl) ?_
    exact W.iret (v := 0) hx hb hr (fun t ht hW => ⟨⟨0, (), rfl, by decide, trivial⟩, hS.F ht⟩) hS.2.2 dX12_count_85
  · refine lv_iload_n hx hb dX12_count_0 rfl (lv_at hl 1 rfl) ?_
    refine lv_tableIn (tgt := 86) hx hb dX12_count_1 (by decide) (by decide) (off := 85) (by decide) (by decide) ?_
    refine lv_aload_n hx hb dX12_count_86 rfl (lv_at hl 0 rfl) ?_
    refine va_get (D := (dC, dI)) (ci := 12) (v := .int (-1)) (C := RX12) (T := TX12) (N := 43) hx hb hq inX12 hown hK hP 0 rfl rfl 21 (by decide) (hq _ qw_1181) (fun _ h9 => h9) rfl dX12_count_87 ?_
    refine W.widen (k := 0) (n := 0) (Nat.le_of_ble_eq_true rfl) (Nat.le_of_ble_eq_true rfl) ?_
    exact W.iret (v := (-1)) hx hb hr (fun t ht hW => ⟨⟨(-1), (), rfl, by decide, trivial⟩, hS.F ht⟩) hS.2.2 dX12_count_90
  · refine lv_iload_n hx hb dX12_count_0 rfl (lv_at hl 1 rfl) ?_
    refine lv_tableIn (tgt := 91) hx hb dX12_count_1 (by decide) (by decide) (off := 90) (by decide) (by decide) ?_
    refine lv_aload_n hx hb dX12_count_91 rfl (lv_at hl 0 rfl) ?_
    refine va_get (D := (dC, dI)) (ci := 12) (v := .ref s20) (C := RX12) (T := TX12) (N := 43) hx hb hq inX12 hown hK hP 0 rfl rfl 20 (by decide) (hq _ qw_1180) (fun _ h9 => h9) rfl dX12_count_92 ?_
    refine lv_bipush (v := 10) hx hb dX12_count_95 (by decide) ?_
    refine va_iald hx hb hK hP 1 0 rfl rfl (inr_ok rfl) dX12_count_97 ?_
    refine lv_topi (fun y_7 ey_7 => ?_)
    obtain rfl : y_7 = 0 := ey_7.trans (rfl)
    refine W.widen (k := 0) (n := 0) (Nat.le_of_ble_eq_true rfl) (Nat.le_of_ble_eq_true rfl) ?_
    exact W.iret (v := 0) hx hb hr (fun t ht hW => ⟨⟨0, (), rfl, by decide, trivial⟩, hS.F ht⟩) hS.2.2 dX12_count_98
  · refine lv_iload_n hx hb dX12_count_0 rfl (lv_at hl 1 rfl) ?_
    refine lv_tableIn (tgt := 99) hx hb dX12_count_1 (by decide) (by decide) (off := 98) (by decide) (by decide) ?_
    refine lv_aload_n hx hb dX12_count_99 rfl (lv_at hl 0 rfl) ?_
    have hPc := hP.sub (ws' := [(h0, .inr (12, [.ref s0, .int 0, .int 0, .ref s3, .ref s4, .ref s5, .ref s6, .ref s7, .int 0, .int 0, .int 0, .int 0, .int 0, .int 0, .int 0, .ref s15, .int 0, .ref s17, .int 0, .ref s19, .ref s20, .int (-1), .int 0, .int 0, .int 0, .int 0, .int 0, .ref s27, .int 0, .ref s29, .ref s30, .ref s31, .int 0, .int 0, .int 0, .ref s35, .ref s36, .ref s37, .long 0, .ref s39, .ref s40, .ref s41, .ref s42])), (s20, .inl (k20, 100, .inl (fun _ => 0)))]) [0, 1] rfl
    have hDc := hD.sub (ws' := [(h0, .inr (12, [.ref s0, .int 0, .int 0, .ref s3, .ref s4, .ref s5, .ref s6, .ref s7, .int 0, .int 0, .int 0, .int 0, .int 0, .int 0, .int 0, .ref s15, .int 0, .ref s17, .int 0, .ref s19, .ref s20, .int (-1), .int 0, .int 0, .int 0, .int 0, .int 0, .ref s27, .int 0, .ref s29, .ref s30, .ref s31, .int 0, .int 0, .int 0, .ref s35, .ref s36, .ref s37, .long 0, .ref s39, .ref s40, .ref s41, .ref s42])), (s20, .inl (k20, 100, .inl (fun _ => 0)))]) [0, 1] (by decide) rfl
    have hKc := hK.sub (tys' := [(k20, .int)]) [0] rfl
    have hFc := va_free (wc := [(h0, .inr (12, [.ref s0, .int 0, .int 0, .ref s3, .ref s4, .ref s5, .ref s6, .ref s7, .int 0, .int 0, .int 0, .int 0, .int 0, .int 0, .int 0, .ref s15, .int 0, .ref s17, .int 0, .ref s19, .ref s20, .int (-1), .int 0, .int 0, .int 0, .int 0, .int 0, .ref s27, .int 0, .ref s29, .ref s30, .ref s31, .int 0, .int 0, .int 0, .ref s35, .ref s36, .ref s37, .long 0, .ref s39, .ref s40, .ref s41, .ref s42])), (s20, .inl (k20, 100, .inl (fun _ => 0)))]) hD hS hA [0, 1] rfl
    refine va_calli (va_runV (As := []) (rest := []) ⟨hx, hb, hml, hown, hq⟩ (c_M_onTable l dC dI _ h0 s0 s3 s4 s5 s6 s7 s15 s17 s19 s20 s27 s29 s30 s31 s35 s36 s37 s39 s40 s41 s42 k20 ) (cwV 0 hq (gV qw_1548 qw_1550 qw_84 qw_131 qw_1551) rfl rfl rfl (by decide +kernel) ⟨Nat.le_of_ble_eq_true rfl, Nat.le_of_ble_eq_true rfl⟩) ⟨fun a U g mk q => by obtain ⟨q0, q1, qP, qK, qD, qE⟩ := q; exact ⟨q0, q1, qP, va_K.moved (u := U) (U := U.calling g mk a) (Vm.Alike.refl U.vm) qK, qD, xE.same rfl qE⟩, va_recv hKc hPc (ci := 12) (q0 := 0) rfl rfl, fun U hU hW => ⟨rfl, by rw [hU], by rw [hU]; exact hPc, va_K.moved hW.alike hKc, hDc.weaken (fun _ _ _ _ => trivial), xE.warm hW hE⟩⟩ rfl rfl hl.1 rfl (lv_room (Nat.le_of_ble_eq_true rfl)) dX12_count_100 ⟨Nat.le_of_ble_eq_true rfl, Nat.le_of_ble_eq_true rfl⟩) hS (fun q _ h => hFc q h) hFc (fun r_8 u t H1 locs ht hvm hw hB hz1 hk1 hS => ?_)
    have hP1 : va_P (dC, dI) classes [] H1 := vP_nil
    have hD1 : va_D (va_A [(h0, .inr (12, [.ref s0, .int 0, .int 0, .ref s3, .ref s4, .ref s5, .ref s6, .ref s7, .int 0, .int 0, .int 0, .int 0, .int 0, .int 0, .int 0, .ref s15, .int 0, .ref s17, .int 0, .ref s19, .ref s20, .int (-1), .int 0, .int 0, .int 0, .int 0, .int 0, .ref s27, .int 0, .ref s29, .ref s30, .ref s31, .int 0, .int 0, .int 0, .ref s35, .ref s36, .ref s37, .long 0, .ref s39, .ref s40, .ref s41, .ref s42])), (s20, .inl (k20, 100, .inl (fun _ => 0)))] s.heap.size) [] := vD_nil
    obtain ⟨hP, hD⟩ := va_join (wr := []) (w1 := []) hP hD [0, 1] [] rfl rfl (by decide) (by decide) hk1 hFc hP1 hD1
    generalize H1 = H at hP hS ⊢
    have hP : va_P (dC, dI) classes [] H := hP
    have hD : va_D A [] := hD
    obtain rfl : r_8 = 0 := hw
    refine W.widen (k := 0) (n := 0) (Nat.le_of_ble_eq_true rfl) (Nat.le_of_ble_eq_true rfl) ?_
    exact W.iret (v := 0) hx hb hr (fun t ht hW => ⟨⟨0, (), rfl, by decide, trivial⟩, hS.F ht⟩) hS.2.2 dX12_count_103
  · refine lv_iload_n hx hb dX12_count_0 rfl (lv_at hl 1 rfl) ?_
    refine lv_tableIn (tgt := 104) hx hb dX12_count_1 (by decide) (by decide) (off := 103) (by decide) (by decide) ?_
    refine lv_aload_n hx hb dX12_count_104 rfl (lv_at hl 0 rfl) ?_
    have hPc := hP.sub (ws' := [(h0, .inr (12, [.ref s0, .int 0, .int 0, .ref s3, .ref s4, .ref s5, .ref s6, .ref s7, .int 0, .int 0, .int 0, .int 0, .int 0, .int 0, .int 0, .ref s15, .int 0, .ref s17, .int 0, .ref s19, .ref s20, .int (-1), .int 0, .int 0, .int 0, .int 0, .int 0, .ref s27, .int 0, .ref s29, .ref s30, .ref s31, .int 0, .int 0, .int 0, .ref s35, .ref s36, .ref s37, .long 0, .ref s39, .ref s40, .ref s41, .ref s42])), (s20, .inl (k20, 100, .inl (fun _ => 0)))]) [0, 1] rfl
    have hDc := hD.sub (ws' := [(h0, .inr (12, [.ref s0, .int 0, .int 0, .ref s3, .ref s4, .ref s5, .ref s6, .ref s7, .int 0, .int 0, .int 0, .int 0, .int 0, .int 0, .int 0, .ref s15, .int 0, .ref s17, .int 0, .ref s19, .ref s20, .int (-1), .int 0, .int 0, .int 0, .int 0, .int 0, .ref s27, .int 0, .ref s29, .ref s30, .ref s31, .int 0, .int 0, .int 0, .ref s35, .ref s36, .ref s37, .long 0, .ref s39, .ref s40, .ref s41, .ref s42])), (s20, .inl (k20, 100, .inl (fun _ => 0)))]) [0, 1] (by decide) rfl
    have hKc := hK.sub (tys' := [(k20, .int)]) [0] rfl
    have hFc := va_free (wc := [(h0, .inr (12, [.ref s0, .int 0, .int 0, .ref s3, .ref s4, .ref s5, .ref s6, .ref s7, .int 0, .int 0, .int 0, .int 0, .int 0, .int 0, .int 0, .ref s15, .int 0, .ref s17, .int 0, .ref s19, .ref s20, .int (-1), .int 0, .int 0, .int 0, .int 0, .int 0, .ref s27, .int 0, .ref s29, .ref s30, .ref s31, .int 0, .int 0, .int 0, .ref s35, .ref s36, .ref s37, .long 0, .ref s39, .ref s40, .ref s41, .ref s42])), (s20, .inl (k20, 100, .inl (fun _ => 0)))]) hD hS hA [0, 1] rfl
    refine va_calli (va_runV (As := []) (rest := []) ⟨hx, hb, hml, hown, hq⟩ (c_M_sitting l dC dI _ h0 s0 s3 s4 s5 s6 s7 s15 s17 s19 s20 s27 s29 s30 s31 s35 s36 s37 s39 s40 s41 s42 k20 ) (cwV 0 hq (gV qw_1560 qw_1562 qw_87 qw_131 qw_1563) rfl rfl rfl (by decide +kernel) ⟨Nat.le_of_ble_eq_true rfl, Nat.le_of_ble_eq_true rfl⟩) ⟨fun a U g mk q => by obtain ⟨q0, q1, qP, qK, qD, qE⟩ := q; exact ⟨q0, q1, qP, va_K.moved (u := U) (U := U.calling g mk a) (Vm.Alike.refl U.vm) qK, qD, xE.same rfl qE⟩, va_recv hKc hPc (ci := 12) (q0 := 0) rfl rfl, fun U hU hW => ⟨rfl, by rw [hU], by rw [hU]; exact hPc, va_K.moved hW.alike hKc, hDc.weaken (fun _ _ _ _ => trivial), xE.warm hW hE⟩⟩ rfl rfl hl.1 rfl (lv_room (Nat.le_of_ble_eq_true rfl)) dX12_count_105 ⟨Nat.le_of_ble_eq_true rfl, Nat.le_of_ble_eq_true rfl⟩) hS (fun q _ h => hFc q h) hFc (fun r_9 u t H1 locs ht hvm hw hB hz1 hk1 hS => ?_)
    have hP1 : va_P (dC, dI) classes [] H1 := vP_nil
    have hD1 : va_D (va_A [(h0, .inr (12, [.ref s0, .int 0, .int 0, .ref s3, .ref s4, .ref s5, .ref s6, .ref s7, .int 0, .int 0, .int 0, .int 0, .int 0, .int 0, .int 0, .ref s15, .int 0, .ref s17, .int 0, .ref s19, .ref s20, .int (-1), .int 0, .int 0, .int 0, .int 0, .int 0, .ref s27, .int 0, .ref s29, .ref s30, .ref s31, .int 0, .int 0, .int 0, .ref s35, .ref s36, .ref s37, .long 0, .ref s39, .ref s40, .ref s41, .ref s42])), (s20, .inl (k20, 100, .inl (fun _ => 0)))] s.heap.size) [] := vD_nil
    obtain ⟨hP, hD⟩ := va_join (wr := []) (w1 := []) hP hD [0, 1] [] rfl rfl (by decide) (by decide) hk1 hFc hP1 hD1
    generalize H1 = H at hP hS ⊢
    have hP : va_P (dC, dI) classes [] H := hP
    have hD : va_D A [] := hD
    obtain rfl : r_9 = 0 := hw
    refine W.widen (k := 0) (n := 0) (Nat.le_of_ble_eq_true rfl) (Nat.le_of_ble_eq_true rfl) ?_
    exact W.iret (v := 0) hx hb hr (fun t ht hW => ⟨⟨0, (), rfl, by decide, trivial⟩, hS.F ht⟩) hS.2.2 dX12_count_108
  · refine lv_iload_n hx hb dX12_count_0 rfl (lv_at hl 1 rfl) ?_
    refine lv_tableIn (tgt := 109) hx hb dX12_count_1 (by decide) (by decide) (off := 108) (by decide) (by decide) ?_
    refine lv_aload_n hx hb dX12_count_109 rfl (lv_at hl 0 rfl) ?_
    refine lv_iconst (v := 0) hx hb dX12_count_110 (by decide) ?_
    have hPc := hP.sub (ws' := [(h0, .inr (12, [.ref s0, .int 0, .int 0, .ref s3, .ref s4, .ref s5, .ref s6, .ref s7, .int 0, .int 0, .int 0, .int 0, .int 0, .int 0, .int 0, .ref s15, .int 0, .ref s17, .int 0, .ref s19, .ref s20, .int (-1), .int 0, .int 0, .int 0, .int 0, .int 0, .ref s27, .int 0, .ref s29, .ref s30, .ref s31, .int 0, .int 0, .int 0, .ref s35, .ref s36, .ref s37, .long 0, .ref s39, .ref s40, .ref s41, .ref s42])), (s20, .inl (k20, 100, .inl (fun _ => 0)))]) [0, 1] rfl
    have hDc := hD.sub (ws' := [(h0, .inr (12, [.ref s0, .int 0, .int 0, .ref s3, .ref s4, .ref s5, .ref s6, .ref s7, .int 0, .int 0, .int 0, .int 0, .int 0, .int 0, .int 0, .ref s15, .int 0, .ref s17, .int 0, .ref s19, .ref s20, .int (-1), .int 0, .int 0, .int 0, .int 0, .int 0, .ref s27, .int 0, .ref s29, .ref s30, .ref s31, .int 0, .int 0, .int 0, .ref s35, .ref s36, .ref s37, .long 0, .ref s39, .ref s40, .ref s41, .ref s42])), (s20, .inl (k20, 100, .inl (fun _ => 0)))]) [0, 1] (by decide) rfl
    have hKc := hK.sub (tys' := [(k20, .int)]) [0] rfl
    have hFc := va_free (wc := [(h0, .inr (12, [.ref s0, .int 0, .int 0, .ref s3, .ref s4, .ref s5, .ref s6, .ref s7, .int 0, .int 0, .int 0, .int 0, .int 0, .int 0, .int 0, .ref s15, .int 0, .ref s17, .int 0, .ref s19, .ref s20, .int (-1), .int 0, .int 0, .int 0, .int 0, .int 0, .ref s27, .int 0, .ref s29, .ref s30, .ref s31, .int 0, .int 0, .int 0, .ref s35, .ref s36, .ref s37, .long 0, .ref s39, .ref s40, .ref s41, .ref s42])), (s20, .inl (k20, 100, .inl (fun _ => 0)))]) hD hS hA [0, 1] rfl
    refine va_calli (va_runV (As := [.int 0]) (rest := []) ⟨hx, hb, hml, hown, hq⟩ (c_M_knownMany l dC dI _ h0 s0 s3 s4 s5 s6 s7 s15 s17 s19 s20 s27 s29 s30 s31 s35 s36 s37 s39 s40 s41 s42 k20 ) (cwV 1 hq (gV qw_1669 qw_1671 qw_104 qw_131 qw_1672) rfl rfl rfl (by decide +kernel) ⟨Nat.le_of_ble_eq_true rfl, Nat.le_of_ble_eq_true rfl⟩) ⟨fun a U g mk q => by obtain ⟨q0, q1, qP, qK, qD, qE⟩ := q; exact ⟨q0, q1, qP, va_K.moved (u := U) (U := U.calling g mk a) (Vm.Alike.refl U.vm) qK, qD, xE.same rfl qE⟩, va_recv hKc hPc (ci := 12) (q0 := 0) rfl rfl, fun U hU hW => ⟨rfl, by rw [hU], by rw [hU]; exact hPc, va_K.moved hW.alike hKc, hDc.weaken (fun _ _ _ _ => trivial), xE.warm hW hE⟩⟩ rfl rfl hl.1 rfl (lv_room (Nat.le_of_ble_eq_true rfl)) dX12_count_111 ⟨Nat.le_of_ble_eq_true rfl, Nat.le_of_ble_eq_true rfl⟩) hS (fun q _ h => hFc q h) hFc (fun r_10 u t H1 locs ht hvm hw hB hz1 hk1 hS => ?_)
    have hP1 : va_P (dC, dI) classes [] H1 := vP_nil
    have hD1 : va_D (va_A [(h0, .inr (12, [.ref s0, .int 0, .int 0, .ref s3, .ref s4, .ref s5, .ref s6, .ref s7, .int 0, .int 0, .int 0, .int 0, .int 0, .int 0, .int 0, .ref s15, .int 0, .ref s17, .int 0, .ref s19, .ref s20, .int (-1), .int 0, .int 0, .int 0, .int 0, .int 0, .ref s27, .int 0, .ref s29, .ref s30, .ref s31, .int 0, .int 0, .int 0, .ref s35, .ref s36, .ref s37, .long 0, .ref s39, .ref s40, .ref s41, .ref s42])), (s20, .inl (k20, 100, .inl (fun _ => 0)))] s.heap.size) [] := vD_nil
    obtain ⟨hP, hD⟩ := va_join (wr := []) (w1 := []) hP hD [0, 1] [] rfl rfl (by decide) (by decide) hk1 hFc hP1 hD1
    generalize H1 = H at hP hS ⊢
    have hP : va_P (dC, dI) classes [] H := hP
    have hD : va_D A [] := hD
    obtain rfl : r_10 = 0 := hw
    refine W.widen (k := 0) (n := 0) (Nat.le_of_ble_eq_true rfl) (Nat.le_of_ble_eq_true rfl) ?_
    exact W.iret (v := 0) hx hb hr (fun t ht hW => ⟨⟨0, (), rfl, by decide, trivial⟩, hS.F ht⟩) hS.2.2 dX12_count_114
  · refine lv_iload_n hx hb dX12_count_0 rfl (lv_at hl 1 rfl) ?_
    refine lv_tableIn (tgt := 115) hx hb dX12_count_1 (by decide) (by decide) (off := 114) (by decide) (by decide) ?_
    refine lv_aload_n hx hb dX12_count_115 rfl (lv_at hl 0 rfl) ?_
    have hPc := hP.sub (ws' := [(h0, .inr (12, [.ref s0, .int 0, .int 0, .ref s3, .ref s4, .ref s5, .ref s6, .ref s7, .int 0, .int 0, .int 0, .int 0, .int 0, .int 0, .int 0, .ref s15, .int 0, .ref s17, .int 0, .ref s19, .ref s20, .int (-1), .int 0, .int 0, .int 0, .int 0, .int 0, .ref s27, .int 0, .ref s29, .ref s30, .ref s31, .int 0, .int 0, .int 0, .ref s35, .ref s36, .ref s37, .long 0, .ref s39, .ref s40, .ref s41, .ref s42])), (s20, .inl (k20, 100, .inl (fun _ => 0)))]) [0, 1] rfl
    have hDc := hD.sub (ws' := [(h0, .inr (12, [.ref s0, .int 0, .int 0, .ref s3, .ref s4, .ref s5, .ref s6, .ref s7, .int 0, .int 0, .int 0, .int 0, .int 0, .int 0, .int 0, .ref s15, .int 0, .ref s17, .int 0, .ref s19, .ref s20, .int (-1), .int 0, .int 0, .int 0, .int 0, .int 0, .ref s27, .int 0, .ref s29, .ref s30, .ref s31, .int 0, .int 0, .int 0, .ref s35, .ref s36, .ref s37, .long 0, .ref s39, .ref s40, .ref s41, .ref s42])), (s20, .inl (k20, 100, .inl (fun _ => 0)))]) [0, 1] (by decide) rfl
    have hKc := hK.sub (tys' := [(k20, .int)]) [0] rfl
    have hFc := va_free (wc := [(h0, .inr (12, [.ref s0, .int 0, .int 0, .ref s3, .ref s4, .ref s5, .ref s6, .ref s7, .int 0, .int 0, .int 0, .int 0, .int 0, .int 0, .int 0, .ref s15, .int 0, .ref s17, .int 0, .ref s19, .ref s20, .int (-1), .int 0, .int 0, .int 0, .int 0, .int 0, .ref s27, .int 0, .ref s29, .ref s30, .ref s31, .int 0, .int 0, .int 0, .ref s35, .ref s36, .ref s37, .long 0, .ref s39, .ref s40, .ref s41, .ref s42])), (s20, .inl (k20, 100, .inl (fun _ => 0)))]) hD hS hA [0, 1] rfl
    refine va_calli (va_runV (As := []) (rest := []) ⟨hx, hb, hml, hown, hq⟩ (c_M_isDinner l dC dI _ h0 s0 s3 s4 s5 s6 s7 s15 s17 s19 s20 s27 s29 s30 s31 s35 s36 s37 s39 s40 s41 s42 k20 ) (cwV 0 hq (gV qw_1497 qw_1499 qw_76 qw_131 qw_1500) rfl rfl rfl (by decide +kernel) ⟨Nat.le_of_ble_eq_true rfl, Nat.le_of_ble_eq_true rfl⟩) ⟨fun a U g mk q => by obtain ⟨q0, q1, qP, qK, qD, qE⟩ := q; exact ⟨q0, q1, qP, va_K.moved (u := U) (U := U.calling g mk a) (Vm.Alike.refl U.vm) qK, qD, xE.same rfl qE⟩, va_recv hKc hPc (ci := 12) (q0 := 0) rfl rfl, fun U hU hW => ⟨rfl, by rw [hU], by rw [hU]; exact hPc, va_K.moved hW.alike hKc, hDc.weaken (fun _ _ _ _ => trivial), xE.warm hW hE⟩⟩ rfl rfl hl.1 rfl (lv_room (Nat.le_of_ble_eq_true rfl)) dX12_count_116 ⟨Nat.le_of_ble_eq_true rfl, Nat.le_of_ble_eq_true rfl⟩) hS (fun q _ h => hFc q h) hFc (fun r_11 u t H1 locs ht hvm hw hB hz1 hk1 hS => ?_)
    obtain ⟨hP1, hK1, hD1⟩ := hB
    rw [ht] at hP1
    have hK1 := va_K.moved hvm.symm hK1
    obtain ⟨hP, hD⟩ := va_join (wr := []) (w1 := [(h0, .inr (12, [.ref s0, .int 0, .int 0, .ref s3, .ref s4, .ref s5, .ref s6, .ref s7, .int 0, .int 0, .int 0, .int 0, .int 0, .int 0, .int 0, .ref s15, .int 0, .ref s17, .int 0, .ref s19, .ref s20, .int (-1), .int 0, .int 0, .int 0, .int 0, .int 0, .ref s27, .int 0, .ref s29, .ref s30, .ref s31, .int 0, .int 0, .int 0, .ref s35, .ref s36, .ref s37, .long 0, .ref s39, .ref s40, .ref s41, .ref s42])), (s20, .inl (k20, 100, .inl (fun _ => 0)))]) hP hD [0, 1] [] rfl rfl (by decide) (by decide) hk1 hFc hP1 hD1
    generalize H1 = H at hP hS ⊢
    have hP : va_P (dC, dI) classes [(h0, .inr (12, [.ref s0, .int 0, .int 0, .ref s3, .ref s4, .ref s5, .ref s6, .ref s7, .int 0, .int 0, .int 0, .int 0, .int 0, .int 0, .int 0, .ref s15, .int 0, .ref s17, .int 0, .ref s19, .ref s20, .int (-1), .int 0, .int 0, .int 0, .int 0, .int 0, .ref s27, .int 0, .ref s29, .ref s30, .ref s31, .int 0, .int 0, .int 0, .ref s35, .ref s36, .ref s37, .long 0, .ref s39, .ref s40, .ref s41, .ref s42])), (s20, .inl (k20, 100, .inl (fun _ => 0)))] H := hP
    have hD : va_D A [(h0, .inr (12, [.ref s0, .int 0, .int 0, .ref s3, .ref s4, .ref s5, .ref s6, .ref s7, .int 0, .int 0, .int 0, .int 0, .int 0, .int 0, .int 0, .ref s15, .int 0, .ref s17, .int 0, .ref s19, .ref s20, .int (-1), .int 0, .int 0, .int 0, .int 0, .int 0, .ref s27, .int 0, .ref s29, .ref s30, .ref s31, .int 0, .int 0, .int 0, .ref s35, .ref s36, .ref s37, .long 0, .ref s39, .ref s40, .ref s41, .ref s42])), (s20, .inl (k20, 100, .inl (fun _ => 0)))] := hD
    obtain rfl : r_11 = 0 := hw
    refine lv_if_eq (tgt := 132) hx hb dX12_count_119 (by decide) (fun _ => ?_) (fun c9 => absurd c9 (by decide))
    refine lv_iconst (v := (-1)) hx hb dX12_count_132 (by decide) ?_
    refine W.widen (k := 0) (n := 0) (Nat.le_of_ble_eq_true rfl) (Nat.le_of_ble_eq_true rfl) ?_
    exact W.iret (v := (-1)) hx hb hr (fun t ht hW => ⟨⟨(-1), (), rfl, by decide, trivial⟩, hS.F ht⟩) hS.2.2 dX12_count_133
  · refine lv_iload_n hx hb dX12_count_0 rfl (lv_at hl 1 rfl) ?_
    refine lv_tableIn (tgt := 134) hx hb dX12_count_1 (by decide) (by decide) (off := 133) (by decide) (by decide) ?_
    refine lv_aload_n hx hb dX12_count_134 rfl (lv_at hl 0 rfl) ?_
    refine va_get (D := (dC, dI)) (ci := 12) (v := .ref s20) (C := RX12) (T := TX12) (N := 43) hx hb hq inX12 hown hK hP 0 rfl rfl 20 (by decide) (hq _ qw_1180) (fun _ h9 => h9) rfl dX12_count_135 ?_
    refine lv_bipush (v := 99) hx hb dX12_count_138 (by decide) ?_
    refine va_iald hx hb hK hP 1 0 rfl rfl (inr_ok rfl) dX12_count_140 ?_
    refine lv_topi (fun y_12 ey_12 => ?_)
    obtain rfl : y_12 = 0 := ey_12.trans (rfl)
    refine W.widen (k := 0) (n := 0) (Nat.le_of_ble_eq_true rfl) (Nat.le_of_ble_eq_true rfl) ?_
    exact W.iret (v := 0) hx hb hr (fun t ht hW => ⟨⟨0, (), rfl, by decide, trivial⟩, hS.F ht⟩) hS.2.2 dX12_count_141
  · refine lv_iload_n hx hb dX12_count_0 rfl (lv_at hl 1 rfl) ?_
    refine lv_tableIn (tgt := 142) hx hb dX12_count_1 (by decide) (by decide) (off := 141) (by decide) (by decide) ?_
    refine lv_aload_n hx hb dX12_count_142 rfl (lv_at hl 0 rfl) ?_
    refine va_get (D := (dC, dI)) (ci := 12) (v := .int 0) (C := RX12) (T := TX12) (N := 43) hx hb hq inX12 hown hK hP 0 rfl rfl 28 (by decide) (hq _ qw_1188) (fun _ h9 => h9) rfl dX12_count_143 ?_
    refine W.widen (k := 0) (n := 0) (Nat.le_of_ble_eq_true rfl) (Nat.le_of_ble_eq_true rfl) ?_
    exact W.iret (v := 0) hx hb hr (fun t ht hW => ⟨⟨0, (), rfl, by decide, trivial⟩, hS.F ht⟩) hS.2.2 dX12_count_146
  · refine lv_iload_n hx hb dX12_count_0 rfl (lv_at hl 1 rfl) ?_
    refine lv_tableIn (tgt := 147) hx hb dX12_count_1 (by decide) (by decide) (off := 146) (by decide) (by decide) ?_
    refine lv_aload_n hx hb dX12_count_147 rfl (lv_at hl 0 rfl) ?_
    refine va_get (D := (dC, dI)) (ci := 12) (v := .int 0) (C := RX12) (T := TX12) (N := 43) hx hb hq inX12 hown hK hP 0 rfl rfl 22 (by decide) (hq _ qw_1182) (fun _ h9 => h9) rfl dX12_count_148 ?_
    refine W.widen (k := 0) (n := 0) (Nat.le_of_ble_eq_true rfl) (Nat.le_of_ble_eq_true rfl) ?_
    exact W.iret (v := 0) hx hb hr (fun t ht hW => ⟨⟨0, (), rfl, by decide, trivial⟩, hS.F ht⟩) hS.2.2 dX12_count_151
  · refine lv_iload_n hx hb dX12_count_0 rfl (lv_at hl 1 rfl) ?_
    refine lv_tableIn (tgt := 152) hx hb dX12_count_1 (by decide) (by decide) (off := 151) (by decide) (by decide) ?_
    refine lv_aload_n hx hb dX12_count_152 rfl (lv_at hl 0 rfl) ?_
    refine va_get (D := (dC, dI)) (ci := 12) (v := .int 0) (C := RX12) (T := TX12) (N := 43) hx hb hq inX12 hown hK hP 0 rfl rfl 1 (by decide) (hq _ qw_1161) (fun _ h9 => h9) rfl dX12_count_153 ?_
    refine W.widen (k := 0) (n := 0) (Nat.le_of_ble_eq_true rfl) (Nat.le_of_ble_eq_true rfl) ?_
    exact W.iret (v := 0) hx hb hr (fun t ht hW => ⟨⟨0, (), rfl, by decide, trivial⟩, hS.F ht⟩) hS.2.2 dX12_count_156
  · refine lv_iload_n hx hb dX12_count_0 rfl (lv_at hl 1 rfl) ?_
    refine lv_tableOut (tgt := 157) hx hb dX12_count_1 (hout) (by decide) ?_
    refine lv_iconst (v := (-1)) hx hb dX12_count_157 (by decide) ?_
    refine W.widen (k := 0) (n := 0) (Nat.le_of_ble_eq_true rfl) (Nat.le_of_ble_eq_true rfl) ?_
    exact W.iret (v := (-1)) hx hb hr (fun t ht hW => ⟨⟨(-1), (), rfl, by unfold fe_count; rw [if_neg (by omega), if_neg (by omega)], trivial⟩, hS.F ht⟩) hS.2.2 dX12_count_158
