theorem qw_12 : (.selects RX11 yX11_isDish yX11_isDish : Cond) ∈ wsA := mA (i := 12) (by decide +kernel) rfl
theorem qw_13 : (.selects RX11 yX11_isGuest yX11_isGuest : Cond) ∈ wsA := mA (i := 13) (by decide +kernel) rfl
theorem qw_14 : (.selects RX11 yX11_untold yX11_untold : Cond) ∈ wsA := mA (i := 14) (by decide +kernel) rfl
theorem qw_24 : (.selects RX11 yX11_bestOfRows yX11_bestOfRows : Cond) ∈ wsA := mA (i := 24) (by decide +kernel) rfl
theorem qw_119 : (.initialized RX11 : Cond) ∈ wsA := mA (i := 119) (by decide +kernel) rfl
theorem qw_227 : (.fieldLink RX11 135 "SpokenBite$Dinne\x72" "deep" "I" : Cond) ∈ wsA := mA (i := 227) (by decide +kernel) rfl
theorem qw_231 : (.fieldLink RX11 122 "SpokenBite$Dinne\x72" "dishes" "I" : Cond) ∈ wsA := mA (i := 231) (by decide +kernel) rfl
theorem qw_235 : (.fieldLink RX11 138 "SpokenBite$Dinne\x72" "guests" "I" : Cond) ∈ wsA := mA (i := 235) (by decide +kernel) rfl
theorem qw_307 : (.fieldLink RX5 24 "SpokenBite$Notes" "kept" "I" : Cond) ∈ wsA := mA (i := 307) (by decide +kernel) rfl
theorem qw_335 : (.fieldLink RX6 18 "SpokenBite$Past" "kept" "I" : Cond) ∈ wsA := mA (i := 335) (by decide +kernel) rfl
theorem qw_450 : (.fieldLink RX11 100 "SpokenBite" "taped" "I" : Cond) ∈ wsA := mA (i := 450) (by decide +kernel) rfl
theorem qw_454 : (.fieldLink RX11 125 "SpokenBite" "ruleCount" "I" : Cond) ∈ wsA := mA (i := 454) (by decide +kernel) rfl
theorem qw_654 : (.methodLink RX11 118 yX5_clear : Cond) ∈ wsA := mA (i := 654) (by decide +kernel) rfl
theorem qw_655 : (.instanceMethod yX5_clear : Cond) ∈ wsA := mA (i := 655) (by decide +kernel) rfl
theorem qw_656 : (.selects RX5 yX5_clear yX5_clear : Cond) ∈ wsA := mA (i := 656) (by decide +kernel) rfl
theorem qw_657 : (.code yX5_clear cX5_clear 1 none : Cond) ∈ wsA := mA (i := 657) (by decide +kernel) rfl
theorem qw_739 : (.methodLink RX11 141 yX11_isDish : Cond) ∈ wsA := mA (i := 739) (by decide +kernel) rfl
theorem qw_741 : (.instanceMethod yX11_isDish : Cond) ∈ wsA := mA (i := 741) (by decide +kernel) rfl
theorem qw_742 : (.code yX11_isDish cX11_isDish 2 (some .boolean) : Cond) ∈ wsA := mA (i := 742) (by decide +kernel) rfl
theorem qw_743 : (.methodLink RX11 145 yX11_within : Cond) ∈ wsA := mA (i := 743) (by decide +kernel) rfl
theorem qw_744 : (.static yX11_within : Cond) ∈ wsA := mA (i := 744) (by decide +kernel) rfl
theorem qw_745 : (.code yX11_within cX11_within 3 (some .boolean) : Cond) ∈ wsA := mA (i := 745) (by decide +kernel) rfl
theorem qw_762 : (.methodLink RX11 162 yX11_isGuest : Cond) ∈ wsA := mA (i := 762) (by decide +kernel) rfl
theorem qw_764 : (.instanceMethod yX11_isGuest : Cond) ∈ wsA := mA (i := 764) (by decide +kernel) rfl
theorem qw_765 : (.code yX11_isGuest cX11_isGuest 2 (some .boolean) : Cond) ∈ wsA := mA (i := 765) (by decide +kernel) rfl
theorem qw_778 : (.methodLink RX11 174 yX11_untold : Cond) ∈ wsA := mA (i := 778) (by decide +kernel) rfl
theorem qw_780 : (.instanceMethod yX11_untold : Cond) ∈ wsA := mA (i := 780) (by decide +kernel) rfl
theorem qw_781 : (.code yX11_untold cX11_untold 1 (some .boolean) : Cond) ∈ wsA := mA (i := 781) (by decide +kernel) rfl
theorem qw_917 : (.methodLink RX11 219 yX6_giveBack : Cond) ∈ wsA := mA (i := 917) (by decide +kernel) rfl
theorem qw_918 : (.instanceMethod yX6_giveBack : Cond) ∈ wsA := mA (i := 918) (by decide +kernel) rfl
theorem qw_919 : (.selects RX6 yX6_giveBack yX6_giveBack : Cond) ∈ wsA := mA (i := 919) (by decide +kernel) rfl
theorem qw_920 : (.code yX6_giveBack cX6_giveBack 3 (some .boolean) : Cond) ∈ wsA := mA (i := 920) (by decide +kernel) rfl
theorem qw_951 : (.methodLink RX11 245 yX11_bestOfRows : Cond) ∈ wsA := mA (i := 951) (by decide +kernel) rfl
theorem qw_953 : (.instanceMethod yX11_bestOfRows : Cond) ∈ wsA := mA (i := 953) (by decide +kernel) rfl
theorem qw_954 : (.code yX11_bestOfRows cX11_bestOfRows 4 (some .int) : Cond) ∈ wsA := mA (i := 954) (by decide +kernel) rfl
theorem dX11_ahead_0 : decode cX11_ahead 0 = .ok (.aload_n 0, 1) := by decide +kernel
theorem dX11_ahead_1 : decode cX11_ahead 1 = .ok (.invokevirtual 174, 3) := by decide +kernel
theorem dX11_ahead_4 : decode cX11_ahead 4 = .ok (.ifCond .ne 22, 3) := by decide +kernel
theorem dX11_ahead_26 : decode cX11_ahead 26 = .ok (.iconst (-1), 1) := by decide +kernel
theorem dX11_ahead_27 : decode cX11_ahead 27 = .ok (.ireturn, 1) := by decide +kernel
theorem dX11_believed_0 : decode cX11_believed 0 = .ok (.aload_n 0, 1) := by decide +kernel
theorem dX11_believed_1 : decode cX11_believed 1 = .ok (.invokevirtual 174, 3) := by decide +kernel
theorem dX11_believed_4 : decode cX11_believed 4 = .ok (.ifCond .ne 12, 3) := by decide +kernel
theorem dX11_believed_16 : decode cX11_believed 16 = .ok (.iconst (-1), 1) := by decide +kernel
theorem dX11_believed_17 : decode cX11_believed 17 = .ok (.ireturn, 1) := by decide +kernel
theorem dX11_bestOfRows_0 : decode cX11_bestOfRows 0 = .ok (.aload_n 0, 1) := by decide +kernel
theorem dX11_bestOfRows_1 : decode cX11_bestOfRows 1 = .ok (.invokevirtual 174, 3) := by decide +kernel
theorem dX11_bestOfRows_4 : decode cX11_bestOfRows 4 = .ok (.ifCond .ne 21, 3) := by decide +kernel
theorem dX11_bestOfRows_25 : decode cX11_bestOfRows 25 = .ok (.bipush (-3), 2) := by decide +kernel
theorem dX11_bestOfRows_27 : decode cX11_bestOfRows 27 = .ok (.ireturn, 1) := by decide +kernel
theorem dX11_bestRow_0 : decode cX11_bestRow 0 = .ok (.aload_n 0, 1) := by decide +kernel
theorem dX11_bestRow_1 : decode cX11_bestRow 1 = .ok (.iconst 0, 1) := by decide +kernel
theorem dX11_bestRow_2 : decode cX11_bestRow 2 = .ok (.iload_n 1, 1) := by decide +kernel
theorem dX11_bestRow_3 : decode cX11_bestRow 3 = .ok (.iload_n 2, 1) := by decide +kernel
theorem dX11_bestRow_4 : decode cX11_bestRow 4 = .ok (.invokevirtual 245, 3) := by decide +kernel
theorem dX11_bestRow_7 : decode cX11_bestRow 7 = .ok (.ireturn, 1) := by decide +kernel
theorem dX11_clashes_0 : decode cX11_clashes 0 = .ok (.aload_n 0, 1) := by decide +kernel
theorem dX11_clashes_1 : decode cX11_clashes 1 = .ok (.invokevirtual 174, 3) := by decide +kernel
theorem dX11_clashes_4 : decode cX11_clashes 4 = .ok (.ifCond .ne 10, 3) := by decide +kernel
theorem dX11_clashes_14 : decode cX11_clashes 14 = .ok (.iconst (-1), 1) := by decide +kernel
theorem dX11_clashes_15 : decode cX11_clashes 15 = .ok (.ireturn, 1) := by decide +kernel
theorem dX11_crumbs_0 : decode cX11_crumbs 0 = .ok (.aload_n 0, 1) := by decide +kernel
theorem dX11_crumbs_1 : decode cX11_crumbs 1 = .ok (.iload_n 2, 1) := by decide +kernel
theorem dX11_crumbs_2 : decode cX11_crumbs 2 = .ok (.invokevirtual 162, 3) := by decide +kernel
theorem dX11_crumbs_5 : decode cX11_crumbs 5 = .ok (.ifCond .eq 14, 3) := by decide +kernel
theorem dX11_crumbs_19 : decode cX11_crumbs 19 = .ok (.iconst (-1), 1) := by decide +kernel
theorem dX11_crumbs_20 : decode cX11_crumbs 20 = .ok (.ireturn, 1) := by decide +kernel
theorem dX11_dish_0 : decode cX11_dish 0 = .ok (.aload_n 0, 1) := by decide +kernel
theorem dX11_dish_1 : decode cX11_dish 1 = .ok (.iload_n 1, 1) := by decide +kernel
theorem dX11_dish_2 : decode cX11_dish 2 = .ok (.invokevirtual 141, 3) := by decide +kernel
theorem dX11_dish_5 : decode cX11_dish 5 = .ok (.ifCond .eq 12, 3) := by decide +kernel
theorem dX11_dish_17 : decode cX11_dish 17 = .ok (.bipush (-3), 2) := by decide +kernel
theorem dX11_dish_19 : decode cX11_dish 19 = .ok (.ireturn, 1) := by decide +kernel
theorem dX11_dropped_0 : decode cX11_dropped 0 = .ok (.aload_n 0, 1) := by decide +kernel
theorem dX11_dropped_1 : decode cX11_dropped 1 = .ok (.invokevirtual 174, 3) := by decide +kernel
theorem dX11_dropped_4 : decode cX11_dropped 4 = .ok (.ifCond .ne 12, 3) := by decide +kernel
theorem dX11_dropped_16 : decode cX11_dropped 16 = .ok (.iconst (-1), 1) := by decide +kernel
theorem dX11_dropped_17 : decode cX11_dropped 17 = .ok (.ireturn, 1) := by decide +kernel
theorem dX11_end_0 : decode cX11_end 0 = .ok (.iload_n 1, 1) := by decide +kernel
theorem dX11_end_1 : decode cX11_end 1 = .ok (.ifCond .lt 11, 3) := by decide +kernel
theorem dX11_end_4 : decode cX11_end 4 = .ok (.iload_n 1, 1) := by decide +kernel
theorem dX11_end_5 : decode cX11_end 5 = .ok (.aload_n 0, 1) := by decide +kernel
theorem dX11_end_6 : decode cX11_end 6 = .ok (.getfield 100, 3) := by decide +kernel
theorem dX11_end_9 : decode cX11_end 9 = .ok (.if_icmp .le 5, 3) := by decide +kernel
theorem dX11_end_12 : decode cX11_end 12 = .ok (.iconst (-1), 1) := by decide +kernel
theorem dX11_end_13 : decode cX11_end 13 = .ok (.ireturn, 1) := by decide +kernel
theorem dX11_end_14 : decode cX11_end 14 = .ok (.aload_n 0, 1) := by decide +kernel
theorem dX11_end_15 : decode cX11_end 15 = .ok (.iload_n 1, 1) := by decide +kernel
theorem dX11_end_16 : decode cX11_end 16 = .ok (.putfield 100, 3) := by decide +kernel
theorem dX11_end_19 : decode cX11_end 19 = .ok (.iload_n 1, 1) := by decide +kernel
theorem dX11_end_20 : decode cX11_end 20 = .ok (.ireturn, 1) := by decide +kernel
theorem dX11_fetch_0 : decode cX11_fetch 0 = .ok (.aload_n 0, 1) := by decide +kernel
theorem dX11_fetch_1 : decode cX11_fetch 1 = .ok (.iload_n 1, 1) := by decide +kernel
theorem dX11_fetch_2 : decode cX11_fetch 2 = .ok (.invokevirtual 162, 3) := by decide +kernel
theorem dX11_fetch_5 : decode cX11_fetch 5 = .ok (.ifCond .eq 14, 3) := by decide +kernel
theorem dX11_fetch_19 : decode cX11_fetch 19 = .ok (.iconst (-1), 1) := by decide +kernel
theorem dX11_fetch_20 : decode cX11_fetch 20 = .ok (.ireturn, 1) := by decide +kernel
theorem dX11_force_0 : decode cX11_force 0 = .ok (.iload_n 1, 1) := by decide +kernel
theorem dX11_force_1 : decode cX11_force 1 = .ok (.iconst (-1), 1) := by decide +kernel
theorem dX11_force_2 : decode cX11_force 2 = .ok (.if_icmp .lt 11, 3) := by decide +kernel
theorem dX11_force_5 : decode cX11_force 5 = .ok (.iload_n 1, 1) := by decide +kernel
theorem dX11_force_6 : decode cX11_force 6 = .ok (.aload_n 0, 1) := by decide +kernel
theorem dX11_force_7 : decode cX11_force 7 = .ok (.getfield 125, 3) := by decide +kernel
theorem dX11_force_10 : decode cX11_force 10 = .ok (.if_icmp .lt 6, 3) := by decide +kernel
theorem dX11_force_13 : decode cX11_force 13 = .ok (.bipush (-2), 2) := by decide +kernel
theorem dX11_force_15 : decode cX11_force 15 = .ok (.ireturn, 1) := by decide +kernel
theorem dX11_force_16 : decode cX11_force 16 = .ok (.aload_n 0, 1) := by decide +kernel
theorem dX11_force_17 : decode cX11_force 17 = .ok (.getfield 33, 3) := by decide +kernel
theorem dX11_force_20 : decode cX11_force 20 = .ok (.istore_n 2, 1) := by decide +kernel
theorem dX11_force_21 : decode cX11_force 21 = .ok (.aload_n 0, 1) := by decide +kernel
theorem dX11_force_22 : decode cX11_force 22 = .ok (.iload_n 1, 1) := by decide +kernel
theorem dX11_force_23 : decode cX11_force 23 = .ok (.putfield 33, 3) := by decide +kernel
theorem dX11_force_26 : decode cX11_force 26 = .ok (.iload_n 2, 1) := by decide +kernel
theorem dX11_force_27 : decode cX11_force 27 = .ok (.ireturn, 1) := by decide +kernel
theorem dX11_guest_0 : decode cX11_guest 0 = .ok (.aload_n 0, 1) := by decide +kernel
theorem dX11_guest_1 : decode cX11_guest 1 = .ok (.iload_n 1, 1) := by decide +kernel
theorem dX11_guest_2 : decode cX11_guest 2 = .ok (.invokevirtual 162, 3) := by decide +kernel
theorem dX11_guest_5 : decode cX11_guest 5 = .ok (.ifCond .eq 12, 3) := by decide +kernel
theorem dX11_guest_17 : decode cX11_guest 17 = .ok (.iconst (-1), 1) := by decide +kernel
theorem dX11_guest_18 : decode cX11_guest 18 = .ok (.ireturn, 1) := by decide +kernel
theorem dX11_hiccups_0 : decode cX11_hiccups 0 = .ok (.aload_n 0, 1) := by decide +kernel
theorem dX11_hiccups_1 : decode cX11_hiccups 1 = .ok (.invokevirtual 174, 3) := by decide +kernel
theorem dX11_hiccups_4 : decode cX11_hiccups 4 = .ok (.ifCond .ne 23, 3) := by decide +kernel
theorem dX11_hiccups_27 : decode cX11_hiccups 27 = .ok (.iconst (-1), 1) := by decide +kernel
theorem dX11_hiccups_28 : decode cX11_hiccups 28 = .ok (.ireturn, 1) := by decide +kernel
theorem dX11_hush_0 : decode cX11_hush 0 = .ok (.aload_n 0, 1) := by decide +kernel
theorem dX11_hush_1 : decode cX11_hush 1 = .ok (.iconst 1, 1) := by decide +kernel
theorem dX11_hush_2 : decode cX11_hush 2 = .ok (.iload_n 1, 1) := by decide +kernel
theorem dX11_hush_3 : decode cX11_hush 3 = .ok (.iload_n 2, 1) := by decide +kernel
theorem dX11_hush_4 : decode cX11_hush 4 = .ok (.invokevirtual 245, 3) := by decide +kernel
theorem dX11_hush_7 : decode cX11_hush 7 = .ok (.ireturn, 1) := by decide +kernel
theorem dX11_isDish_0 : decode cX11_isDish 0 = .ok (.iload_n 1, 1) := by decide +kernel
theorem dX11_isDish_1 : decode cX11_isDish 1 = .ok (.ifCond .lt 18, 3) := by decide +kernel
theorem dX11_isDish_4 : decode cX11_isDish 4 = .ok (.iload_n 1, 1) := by decide +kernel
theorem dX11_isDish_5 : decode cX11_isDish 5 = .ok (.aload_n 0, 1) := by decide +kernel
theorem dX11_isDish_6 : decode cX11_isDish 6 = .ok (.getfield 40, 3) := by decide +kernel
theorem dX11_isDish_9 : decode cX11_isDish 9 = .ok (.getfield 122, 3) := by decide +kernel
theorem dX11_isDish_12 : decode cX11_isDish 12 = .ok (.if_icmp .ge 7, 3) := by decide +kernel
theorem dX11_isDish_19 : decode cX11_isDish 19 = .ok (.iconst 0, 1) := by decide +kernel
theorem dX11_isDish_20 : decode cX11_isDish 20 = .ok (.ireturn, 1) := by decide +kernel
theorem dX11_isGuest_0 : decode cX11_isGuest 0 = .ok (.iload_n 1, 1) := by decide +kernel
theorem dX11_isGuest_1 : decode cX11_isGuest 1 = .ok (.ifCond .lt 18, 3) := by decide +kernel
theorem dX11_isGuest_4 : decode cX11_isGuest 4 = .ok (.iload_n 1, 1) := by decide +kernel
theorem dX11_isGuest_5 : decode cX11_isGuest 5 = .ok (.aload_n 0, 1) := by decide +kernel
theorem dX11_isGuest_6 : decode cX11_isGuest 6 = .ok (.getfield 40, 3) := by decide +kernel
theorem dX11_isGuest_9 : decode cX11_isGuest 9 = .ok (.getfield 138, 3) := by decide +kernel
theorem dX11_isGuest_12 : decode cX11_isGuest 12 = .ok (.if_icmp .ge 7, 3) := by decide +kernel
theorem dX11_isGuest_19 : decode cX11_isGuest 19 = .ok (.iconst 0, 1) := by decide +kernel
theorem dX11_isGuest_20 : decode cX11_isGuest 20 = .ok (.ireturn, 1) := by decide +kernel
theorem dX11_knowing_0 : decode cX11_knowing 0 = .ok (.aload_n 0, 1) := by decide +kernel
theorem dX11_knowing_1 : decode cX11_knowing 1 = .ok (.invokevirtual 174, 3) := by decide +kernel
theorem dX11_knowing_4 : decode cX11_knowing 4 = .ok (.ifCond .ne 10, 3) := by decide +kernel
theorem dX11_knowing_14 : decode cX11_knowing 14 = .ok (.iconst (-1), 1) := by decide +kernel
theorem dX11_knowing_15 : decode cX11_knowing 15 = .ok (.ireturn, 1) := by decide +kernel
theorem dX11_leftOut_0 : decode cX11_leftOut 0 = .ok (.aload_n 0, 1) := by decide +kernel
theorem dX11_leftOut_1 : decode cX11_leftOut 1 = .ok (.invokevirtual 174, 3) := by decide +kernel
theorem dX11_leftOut_4 : decode cX11_leftOut 4 = .ok (.ifCond .ne 22, 3) := by decide +kernel
theorem dX11_leftOut_26 : decode cX11_leftOut 26 = .ok (.iconst (-1), 1) := by decide +kernel
theorem dX11_leftOut_27 : decode cX11_leftOut 27 = .ok (.ireturn, 1) := by decide +kernel
theorem dX11_look_0 : decode cX11_look 0 = .ok (.aload_n 0, 1) := by decide +kernel
theorem dX11_look_1 : decode cX11_look 1 = .ok (.invokevirtual 174, 3) := by decide +kernel
theorem dX11_look_4 : decode cX11_look 4 = .ok (.ifCond .ne 22, 3) := by decide +kernel
theorem dX11_look_26 : decode cX11_look 26 = .ok (.iconst (-1), 1) := by decide +kernel
theorem dX11_look_27 : decode cX11_look 27 = .ok (.ireturn, 1) := by decide +kernel
theorem dX11_loudest_0 : decode cX11_loudest 0 = .ok (.aload_n 0, 1) := by decide +kernel
theorem dX11_loudest_1 : decode cX11_loudest 1 = .ok (.invokevirtual 174, 3) := by decide +kernel
theorem dX11_loudest_4 : decode cX11_loudest 4 = .ok (.ifCond .ne 22, 3) := by decide +kernel
theorem dX11_loudest_26 : decode cX11_loudest 26 = .ok (.iconst (-1), 1) := by decide +kernel
theorem dX11_loudest_27 : decode cX11_loudest 27 = .ok (.ireturn, 1) := by decide +kernel
theorem dX11_minute_0 : decode cX11_minute 0 = .ok (.aload_n 0, 1) := by decide +kernel
theorem dX11_minute_1 : decode cX11_minute 1 = .ok (.invokevirtual 174, 3) := by decide +kernel
theorem dX11_minute_4 : decode cX11_minute 4 = .ok (.ifCond .ne 16, 3) := by decide +kernel
theorem dX11_minute_20 : decode cX11_minute 20 = .ok (.iconst (-1), 1) := by decide +kernel
theorem dX11_minute_21 : decode cX11_minute 21 = .ok (.ireturn, 1) := by decide +kernel
theorem dX11_note_0 : decode cX11_note 0 = .ok (.iload_n 1, 1) := by decide +kernel
theorem dX11_note_1 : decode cX11_note 1 = .ok (.iconst (-1), 1) := by decide +kernel
theorem dX11_note_2 : decode cX11_note 2 = .ok (.if_icmp .ne 12, 3) := by decide +kernel
theorem dX11_note_5 : decode cX11_note 5 = .ok (.aload_n 0, 1) := by decide +kernel
theorem dX11_note_6 : decode cX11_note 6 = .ok (.getfield 60, 3) := by decide +kernel
theorem dX11_note_9 : decode cX11_note 9 = .ok (.invokevirtual 118, 3) := by decide +kernel
theorem dX11_note_12 : decode cX11_note 12 = .ok (.iconst 0, 1) := by decide +kernel
theorem dX11_note_13 : decode cX11_note 13 = .ok (.ireturn, 1) := by decide +kernel
theorem dX11_note_14 : decode cX11_note 14 = .ok (.iload_n 1, 1) := by decide +kernel
theorem dX11_note_15 : decode cX11_note 15 = .ok (.iconst 0, 1) := by decide +kernel
theorem dX11_note_16 : decode cX11_note 16 = .ok (.bipush 60, 2) := by decide +kernel
theorem dX11_note_18 : decode cX11_note 18 = .ok (.invokestatic 145, 3) := by decide +kernel
theorem dX11_note_21 : decode cX11_note 21 = .ok (.ifCond .eq 28, 3) := by decide +kernel
theorem dX11_note_24 : decode cX11_note 24 = .ok (.aload_n 0, 1) := by decide +kernel
theorem dX11_note_25 : decode cX11_note 25 = .ok (.iload_n 2, 1) := by decide +kernel
theorem dX11_note_26 : decode cX11_note 26 = .ok (.invokevirtual 162, 3) := by decide +kernel
theorem dX11_note_29 : decode cX11_note 29 = .ok (.ifCond .eq 20, 3) := by decide +kernel
theorem dX11_note_49 : decode cX11_note 49 = .ok (.bipush (-2), 2) := by decide +kernel
theorem dX11_note_51 : decode cX11_note 51 = .ok (.ireturn, 1) := by decide +kernel
theorem dX11_offer_0 : decode cX11_offer 0 = .ok (.iload_n 1, 1) := by decide +kernel
theorem dX11_offer_1 : decode cX11_offer 1 = .ok (.iconst (-1), 1) := by decide +kernel
theorem dX11_offer_2 : decode cX11_offer 2 = .ok (.if_icmp .eq 22, 3) := by decide +kernel
theorem dX11_offer_5 : decode cX11_offer 5 = .ok (.aload_n 0, 1) := by decide +kernel
theorem dX11_offer_6 : decode cX11_offer 6 = .ok (.iload_n 1, 1) := by decide +kernel
theorem dX11_offer_7 : decode cX11_offer 7 = .ok (.invokevirtual 141, 3) := by decide +kernel
theorem dX11_offer_10 : decode cX11_offer 10 = .ok (.ifCond .eq 18, 3) := by decide +kernel
theorem dX11_offer_24 : decode cX11_offer 24 = .ok (.iconst 1, 1) := by decide +kernel
theorem dX11_offer_25 : decode cX11_offer 25 = .ok (.goto 4, 3) := by decide +kernel
theorem dX11_offer_28 : decode cX11_offer 28 = .ok (.iconst 0, 1) := by decide +kernel
theorem dX11_offer_29 : decode cX11_offer 29 = .ok (.istore_n 2, 1) := by decide +kernel
theorem dX11_offer_30 : decode cX11_offer 30 = .ok (.aload_n 0, 1) := by decide +kernel
theorem dX11_offer_31 : decode cX11_offer 31 = .ok (.invokevirtual 174, 3) := by decide +kernel
theorem dX11_offer_34 : decode cX11_offer 34 = .ok (.ifCond .ne 18, 3) := by decide +kernel
theorem dX11_offer_52 : decode cX11_offer 52 = .ok (.bipush (-2), 2) := by decide +kernel
theorem dX11_offer_54 : decode cX11_offer 54 = .ok (.ireturn, 1) := by decide +kernel
theorem dX11_quiet_0 : decode cX11_quiet 0 = .ok (.aload_n 0, 1) := by decide +kernel
theorem dX11_quiet_1 : decode cX11_quiet 1 = .ok (.invokevirtual 174, 3) := by decide +kernel
theorem dX11_quiet_4 : decode cX11_quiet 4 = .ok (.ifCond .eq 5, 3) := by decide +kernel
theorem dX11_quiet_7 : decode cX11_quiet 7 = .ok (.iconst (-1), 1) := by decide +kernel
theorem dX11_quiet_8 : decode cX11_quiet 8 = .ok (.ireturn, 1) := by decide +kernel
theorem dX11_rests_0 : decode cX11_rests 0 = .ok (.aload_n 0, 1) := by decide +kernel
theorem dX11_rests_1 : decode cX11_rests 1 = .ok (.iload_n 1, 1) := by decide +kernel
theorem dX11_rests_2 : decode cX11_rests 2 = .ok (.invokevirtual 162, 3) := by decide +kernel
theorem dX11_rests_5 : decode cX11_rests 5 = .ok (.ifCond .eq 16, 3) := by decide +kernel
theorem dX11_rests_21 : decode cX11_rests 21 = .ok (.iconst (-1), 1) := by decide +kernel
theorem dX11_rests_22 : decode cX11_rests 22 = .ok (.ireturn, 1) := by decide +kernel
theorem dX11_rows_0 : decode cX11_rows 0 = .ok (.aload_n 0, 1) := by decide +kernel
theorem dX11_rows_1 : decode cX11_rows 1 = .ok (.invokevirtual 174, 3) := by decide +kernel
theorem dX11_rows_4 : decode cX11_rows 4 = .ok (.ifCond .ne 12, 3) := by decide +kernel
theorem dX11_rows_16 : decode cX11_rows 16 = .ok (.iconst (-1), 1) := by decide +kernel
theorem dX11_rows_17 : decode cX11_rows 17 = .ok (.ireturn, 1) := by decide +kernel
theorem dX11_ruled_0 : decode cX11_ruled 0 = .ok (.aload_n 0, 1) := by decide +kernel
theorem dX11_ruled_1 : decode cX11_ruled 1 = .ok (.invokevirtual 174, 3) := by decide +kernel
theorem dX11_ruled_4 : decode cX11_ruled 4 = .ok (.ifCond .ne 12, 3) := by decide +kernel
theorem dX11_ruled_16 : decode cX11_ruled 16 = .ok (.bipush (-3), 2) := by decide +kernel
theorem dX11_ruled_18 : decode cX11_ruled 18 = .ok (.ireturn, 1) := by decide +kernel
theorem dX11_said_0 : decode cX11_said 0 = .ok (.aload_n 0, 1) := by decide +kernel
theorem dX11_said_1 : decode cX11_said 1 = .ok (.invokevirtual 174, 3) := by decide +kernel
theorem dX11_said_4 : decode cX11_said 4 = .ok (.ifCond .ne 10, 3) := by decide +kernel
theorem dX11_said_14 : decode cX11_said 14 = .ok (.iconst (-1), 1) := by decide +kernel
theorem dX11_said_15 : decode cX11_said 15 = .ok (.ireturn, 1) := by decide +kernel
theorem dX11_serve_0 : decode cX11_serve 0 = .ok (.aload_n 0, 1) := by decide +kernel
theorem dX11_serve_1 : decode cX11_serve 1 = .ok (.iload_n 1, 1) := by decide +kernel
theorem dX11_serve_2 : decode cX11_serve 2 = .ok (.invokevirtual 141, 3) := by decide +kernel
theorem dX11_serve_5 : decode cX11_serve 5 = .ok (.ifCond .eq 27, 3) := by decide +kernel
theorem dX11_serve_32 : decode cX11_serve 32 = .ok (.iconst (-1), 1) := by decide +kernel
theorem dX11_serve_33 : decode cX11_serve 33 = .ok (.ireturn, 1) := by decide +kernel
theorem dX11_tell_0 : decode cX11_tell 0 = .ok (.aload_n 0, 1) := by decide +kernel
theorem dX11_tell_1 : decode cX11_tell 1 = .ok (.iload_n 1, 1) := by decide +kernel
theorem dX11_tell_2 : decode cX11_tell 2 = .ok (.invokevirtual 162, 3) := by decide +kernel
theorem dX11_tell_5 : decode cX11_tell 5 = .ok (.ifCond .eq 21, 3) := by decide +kernel
theorem dX11_tell_26 : decode cX11_tell 26 = .ok (.iconst (-1), 1) := by decide +kernel
theorem dX11_tell_27 : decode cX11_tell 27 = .ok (.ireturn, 1) := by decide +kernel
theorem dX11_throat_0 : decode cX11_throat 0 = .ok (.iload_n 1, 1) := by decide +kernel
theorem dX11_throat_1 : decode cX11_throat 1 = .ok (.ifCond .lt 14, 3) := by decide +kernel
theorem dX11_throat_4 : decode cX11_throat 4 = .ok (.iload_n 1, 1) := by decide +kernel
theorem dX11_throat_5 : decode cX11_throat 5 = .ok (.aload_n 0, 1) := by decide +kernel
theorem dX11_throat_6 : decode cX11_throat 6 = .ok (.getfield 40, 3) := by decide +kernel
theorem dX11_throat_9 : decode cX11_throat 9 = .ok (.getfield 135, 3) := by decide +kernel
theorem dX11_throat_12 : decode cX11_throat 12 = .ok (.if_icmp .lt 6, 3) := by decide +kernel
theorem dX11_throat_15 : decode cX11_throat 15 = .ok (.bipush (-2), 2) := by decide +kernel
theorem dX11_throat_17 : decode cX11_throat 17 = .ok (.ireturn, 1) := by decide +kernel
theorem dX11_undo_0 : decode cX11_undo 0 = .ok (.aload_n 0, 1) := by decide +kernel
theorem dX11_undo_1 : decode cX11_undo 1 = .ok (.getfield 67, 3) := by decide +kernel
theorem dX11_undo_4 : decode cX11_undo 4 = .ok (.aload_n 0, 1) := by decide +kernel
theorem dX11_undo_5 : decode cX11_undo 5 = .ok (.getfield 50, 3) := by decide +kernel
theorem dX11_undo_8 : decode cX11_undo 8 = .ok (.invokevirtual 219, 3) := by decide +kernel
theorem dX11_undo_11 : decode cX11_undo 11 = .ok (.ifCond .eq 13, 3) := by decide +kernel
theorem dX11_undo_24 : decode cX11_undo 24 = .ok (.iconst (-1), 1) := by decide +kernel
theorem dX11_undo_25 : decode cX11_undo 25 = .ok (.ireturn, 1) := by decide +kernel
theorem dX11_untold_0 : decode cX11_untold 0 = .ok (.aload_n 0, 1) := by decide +kernel
theorem dX11_untold_1 : decode cX11_untold 1 = .ok (.getfield 40, 3) := by decide +kernel
theorem dX11_untold_4 : decode cX11_untold 4 = .ok (.getfield 135, 3) := by decide +kernel
theorem dX11_untold_7 : decode cX11_untold 7 = .ok (.ifCond .ne 7, 3) := by decide +kernel
theorem dX11_untold_10 : decode cX11_untold 10 = .ok (.iconst 1, 1) := by decide +kernel
theorem dX11_untold_11 : decode cX11_untold 11 = .ok (.goto 4, 3) := by decide +kernel
theorem dX11_untold_15 : decode cX11_untold 15 = .ok (.ireturn, 1) := by decide +kernel
theorem dX11_within_0 : decode cX11_within 0 = .ok (.iload_n 0, 1) := by decide +kernel
theorem dX11_within_1 : decode cX11_within 1 = .ok (.iload_n 1, 1) := by decide +kernel
theorem dX11_within_2 : decode cX11_within 2 = .ok (.if_icmp .lt 12, 3) := by decide +kernel
theorem dX11_within_5 : decode cX11_within 5 = .ok (.iload_n 0, 1) := by decide +kernel
theorem dX11_within_6 : decode cX11_within 6 = .ok (.iload_n 2, 1) := by decide +kernel
theorem dX11_within_7 : decode cX11_within 7 = .ok (.if_icmp .gt 7, 3) := by decide +kernel
theorem dX11_within_10 : decode cX11_within 10 = .ok (.iconst 1, 1) := by decide +kernel
theorem dX11_within_11 : decode cX11_within 11 = .ok (.goto 4, 3) := by decide +kernel
theorem dX11_within_14 : decode cX11_within 14 = .ok (.iconst 0, 1) := by decide +kernel
theorem dX11_within_15 : decode cX11_within 15 = .ok (.ireturn, 1) := by decide +kernel
theorem dX5_clear_0 : decode cX5_clear 0 = .ok (.aload_n 0, 1) := by decide +kernel
theorem dX5_clear_1 : decode cX5_clear 1 = .ok (.iconst 0, 1) := by decide +kernel
theorem dX5_clear_2 : decode cX5_clear 2 = .ok (.putfield 24, 3) := by decide +kernel
theorem dX5_clear_5 : decode cX5_clear 5 = .ok (.return_, 1) := by decide +kernel
theorem dX6_giveBack_0 : decode cX6_giveBack 0 = .ok (.aload_n 0, 1) := by decide +kernel
theorem dX6_giveBack_1 : decode cX6_giveBack 1 = .ok (.getfield 18, 3) := by decide +kernel
theorem dX6_giveBack_4 : decode cX6_giveBack 4 = .ok (.ifCond .ne 5, 3) := by decide +kernel
theorem dX6_giveBack_7 : decode cX6_giveBack 7 = .ok (.iconst 0, 1) := by decide +kernel
theorem dX6_giveBack_8 : decode cX6_giveBack 8 = .ok (.ireturn, 1) := by decide +kernel
set_option maxHeartbeats 4000000 in
set_option maxRecDepth 100000 in
/-- c_SB_untold -/
theorem c_SB_untold (l : Launch) (dC : Nat → ClassId) (dI : Nat → Nat → Nat) (sz : Nat) (h0 : Nat) (s0 : Nat) (s2 : Nat) (s3 : Nat) (s4 : Nat) (s7 : Nat) (s8 : Nat) (s9 : Nat) (s10 : Nat) (s11 : Nat) (s12 : Nat) (s13 : Nat) (s14 : Nat) (s15 : Nat) (s16 : Nat) (s17 : Nat) (t3 : Nat) (t4 : Nat) (t5 : Nat) (t6 : Nat) : Met l yX11_untold (.code yX11_untold cX11_untold 1 (some .boolean) :: wsA) ({ frames := 0, cells := 0, slots := 0, locals := 0 }) (va_Pc [.ref h0] (fun U => U.heap.size = sz ∧ va_P (dC, dI) classes [(h0, .inr (11, [.ref s0, .int 0, .ref s2, .ref s3, .ref s4, .int 0, .int (-1), .ref s7, .ref s8, .ref s9, .ref s10, .ref s11, .ref s12, .ref s13, .ref s14, .ref s15, .ref s16, .ref s17, .int 0])), (s7, .inr (1, [.int 0, .int 0, .int 0, .ref t3, .ref t4, .ref t5, .ref t6]))] U.heap ∧ va_K (dC, dI) classes [] U ∧ va_D (fun _ => True) [(h0, .inr (11, [.ref s0, .int 0, .ref s2, .ref s3, .ref s4, .int 0, .int (-1), .ref s7, .ref s8, .ref s9, .ref s10, .ref s11, .ref s12, .ref s13, .ref s14, .ref s15, .ref s16, .ref s17, .int 0])), (s7, .inr (1, [.int 0, .int 0, .int 0, .ref t3, .ref t4, .ref t5, .ref t6]))] ∧ xE U)) (va_Qi (fun (r : Int32) (_ : Unit) => r = 1) (fun _ t => va_P (dC, dI) classes [(h0, .inr (11, [.ref s0, .int 0, .ref s2, .ref s3, .ref s4, .int 0, .int (-1), .ref s7, .ref s8, .ref s9, .ref s10, .ref s11, .ref s12, .ref s13, .ref s14, .ref s15, .ref s16, .ref s17, .int 0])), (s7, .inr (1, [.int 0, .int 0, .int 0, .ref t3, .ref t4, .ref t5, .ref t6]))] t.heap ∧ va_K (dC, dI) classes [] t ∧ va_D (va_A [(h0, .inr (11, [.ref s0, .int 0, .ref s2, .ref s3, .ref s4, .int 0, .int (-1), .ref s7, .ref s8, .ref s9, .ref s10, .ref s11, .ref s12, .ref s13, .ref s14, .ref s15, .ref s16, .ref s17, .int 0])), (s7, .inr (1, [.int 0, .int 0, .int 0, .ref t3, .ref t4, .ref t5, .ref t6]))] sz) [(h0, .inr (11, [.ref s0, .int 0, .ref s2, .ref s3, .ref s4, .int 0, .int (-1), .ref s7, .ref s8, .ref s9, .ref s10, .ref s11, .ref s12, .ref s13, .ref s14, .ref s15, .ref s16, .ref s17, .int 0])), (s7, .inr (1, [.int 0, .int 0, .int 0, .ref t3, .ref t4, .ref t5, .ref t6]))]) (va_A [(h0, .inr (11, [.ref s0, .int 0, .ref s2, .ref s3, .ref s4, .int 0, .int (-1), .ref s7, .ref s8, .ref s9, .ref s10, .ref s11, .ref s12, .ref s13, .ref s14, .ref s15, .ref s16, .ref s17, .int 0])), (s7, .inr (1, [.int 0, .int 0, .int 0, .ref t3, .ref t4, .ref t5, .ref t6]))] sz)) 0 0 (va_A [(h0, .inr (11, [.ref s0, .int 0, .ref s2, .ref s3, .ref s4, .int 0, .int (-1), .ref s7, .ref s8, .ref s9, .ref s10, .ref s11, .ref s12, .ref s13, .ref s14, .ref s15, .ref s16, .ref s17, .int 0])), (s7, .inr (1, [.int 0, .int 0, .int 0, .ref t3, .ref t4, .ref t5, .ref t6]))] sz) := by
  refine Met.ofW (cc := cX11_untold) (maxL := 1) (ret := (some .boolean)) (by decide) rfl ?_
  intro p e s m args below meth c s₁ B hml hv
  obtain ⟨rfl, hsz, hP, hK, hD0, hE⟩ := hv
  have hx := B.exec
  have hb := B.bytes
  have hr := B.returns
  have hts := atoms_spec (ws := .code yX11_untold cX11_untold 1 (some .boolean) :: wsA) B.pre
  have hq : ∀ w ∈ wsA, w.before _ s = true := fun w h => hts w (List.mem_cons_of_mem _ h)
  have hown : s.vm.findClass RX11 = some m.cls := findClass_of_methodNamed B.named
  have hlocks := B.notSynchronized
  subst hsz
  have hD := hD0.self (sz := s.heap.size)
  generalize hAe : va_A [(h0, .inr (11, [.ref s0, .int 0, .ref s2, .ref s3, .ref s4, .int 0, .int (-1), .ref s7, .ref s8, .ref s9, .ref s10, .ref s11, .ref s12, .ref s13, .ref s14, .ref s15, .ref s16, .ref s17, .int 0])), (s7, .inr (1, [.int 0, .int 0, .int 0, .ref t3, .ref t4, .ref t5, .ref t6]))] s.heap.size = A at hD ⊢
  have hA : ∀ q : Nat, s.heap.size ≤ q → A q := fun q h => by rw [← hAe]; exact Or.inr h
  have hS : va_S A s.heap s.heap [] := va_S.rf
  have hl := lv_entry ([.ref h0]) (n := 1) (Nat.le_of_ble_eq_true rfl)
  rw [lg_entry_eq]
  generalize (lg_sl ([.ref h0]) ++ List.replicate (1 - (lg_sl ([.ref h0])).length) Slot.unset).toArray = ls at hl ⊢
  have hl : lv_has ls 1 [(0, .ref h0)] := hl
  refine lv_aload_n hx hb dX11_untold_0 rfl (lv_at hl 0 rfl) ?_
  refine va_get (D := (dC, dI)) (ci := 11) (v := .ref s7) (C := RX11) (T := TX11) (N := 19) hx hb hq inX11 hown hK hP 0 rfl rfl 7 (by decide) (hq _ qw_456) (fun _ h9 => h9) rfl dX11_untold_1 ?_
  refine va_get (D := (dC, dI)) (ci := 1) (v := .int 0) (C := RX1) (T := TX1) (N := 7) hx hb hq inX1 hown hK hP 1 rfl rfl 0 (by decide) (hq _ qw_227) (fun _ h9 => h9) rfl dX11_untold_4 ?_
  refine lv_if_ne (tgt := 14) hx hb dX11_untold_7 (by decide) (fun c9 => absurd c9 (by decide)) (fun _ => ?_)
  refine lv_iconst (v := 1) hx hb dX11_untold_10 (by decide) ?_
  refine lv_goto (tgt := 15) hx hb dX11_untold_11 (by decide) ?_
  have hP9 := hP.sub (ws' := [(h0, .inr (11, [.ref s0, .int 0, .ref s2, .ref s3, .ref s4, .int 0, .int (-1), .ref s7, .ref s8, .ref s9, .ref s10, .ref s11, .ref s12, .ref s13, .ref s14, .ref s15, .ref s16, .ref s17, .int 0])), (s7, .inr (1, [.int 0, .int 0, .int 0, .ref t3, .ref t4, .ref t5, .ref t6]))]) [0, 1] rfl
  have hD9 := hD.sub (ws' := [(h0, .inr (11, [.ref s0, .int 0, .ref s2, .ref s3, .ref s4, .int 0, .int (-1), .ref s7, .ref s8, .ref s9, .ref s10, .ref s11, .ref s12, .ref s13, .ref s14, .ref s15, .ref s16, .ref s17, .int 0])), (s7, .inr (1, [.int 0, .int 0, .int 0, .ref t3, .ref t4, .ref t5, .ref t6]))]) [0, 1] (by decide) rfl
  have hK9 := hK.sub (tys' := []) [] rfl
  refine W.widen (k := 0) (n := 0) (Nat.le_of_ble_eq_true rfl) (Nat.le_of_ble_eq_true rfl) ?_
  exact W.zret (v := 1) hx hb hr (by decide) (fun t ht hW => ⟨⟨1, (), rfl, rfl, by rw [ht]; exact hP9, va_K.moved hW.alike hK9, hD9⟩, hS.F ht⟩) hS.2.2 dX11_untold_15

set_option maxHeartbeats 4000000 in
set_option maxRecDepth 100000 in
/-- c_SB_isDish -/
theorem c_SB_isDish (l : Launch) (dC : Nat → ClassId) (dI : Nat → Nat → Nat) (sz : Nat) (h0 : Nat) (s0 : Nat) (s2 : Nat) (s3 : Nat) (s4 : Nat) (s7 : Nat) (s8 : Nat) (s9 : Nat) (s10 : Nat) (s11 : Nat) (s12 : Nat) (s13 : Nat) (s14 : Nat) (s15 : Nat) (s16 : Nat) (s17 : Nat) (t3 : Nat) (t4 : Nat) (t5 : Nat) (t6 : Nat) (x0 : Int32) : Met l yX11_isDish (.code yX11_isDish cX11_isDish 2 (some .boolean) :: wsA) ({ frames := 0, cells := 0, slots := 0, locals := 0 }) (va_Pc [.ref h0, .int x0] (fun U => U.heap.size = sz ∧ va_P (dC, dI) classes [(h0, .inr (11, [.ref s0, .int 0, .ref s2, .ref s3, .ref s4, .int 0, .int (-1), .ref s7, .ref s8, .ref s9, .ref s10, .ref s11, .ref s12, .ref s13, .ref s14, .ref s15, .ref s16, .ref s17, .int 0])), (s7, .inr (1, [.int 0, .int 0, .int 0, .ref t3, .ref t4, .ref t5, .ref t6]))] U.heap ∧ va_K (dC, dI) classes [] U ∧ va_D (fun _ => True) [(h0, .inr (11, [.ref s0, .int 0, .ref s2, .ref s3, .ref s4, .int 0, .int (-1), .ref s7, .ref s8, .ref s9, .ref s10, .ref s11, .ref s12, .ref s13, .ref s14, .ref s15, .ref s16, .ref s17, .int 0])), (s7, .inr (1, [.int 0, .int 0, .int 0, .ref t3, .ref t4, .ref t5, .ref t6]))] ∧ xE U)) (va_Qi (fun (r : Int32) (_ : Unit) => r = 0) (fun _ t => va_P (dC, dI) classes [(h0, .inr (11, [.ref s0, .int 0, .ref s2, .ref s3, .ref s4, .int 0, .int (-1), .ref s7, .ref s8, .ref s9, .ref s10, .ref s11, .ref s12, .ref s13, .ref s14, .ref s15, .ref s16, .ref s17, .int 0])), (s7, .inr (1, [.int 0, .int 0, .int 0, .ref t3, .ref t4, .ref t5, .ref t6]))] t.heap ∧ va_K (dC, dI) classes [] t ∧ va_D (va_A [(h0, .inr (11, [.ref s0, .int 0, .ref s2, .ref s3, .ref s4, .int 0, .int (-1), .ref s7, .ref s8, .ref s9, .ref s10, .ref s11, .ref s12, .ref s13, .ref s14, .ref s15, .ref s16, .ref s17, .int 0])), (s7, .inr (1, [.int 0, .int 0, .int 0, .ref t3, .ref t4, .ref t5, .ref t6]))] sz) [(h0, .inr (11, [.ref s0, .int 0, .ref s2, .ref s3, .ref s4, .int 0, .int (-1), .ref s7, .ref s8, .ref s9, .ref s10, .ref s11, .ref s12, .ref s13, .ref s14, .ref s15, .ref s16, .ref s17, .int 0])), (s7, .inr (1, [.int 0, .int 0, .int 0, .ref t3, .ref t4, .ref t5, .ref t6]))]) (va_A [(h0, .inr (11, [.ref s0, .int 0, .ref s2, .ref s3, .ref s4, .int 0, .int (-1), .ref s7, .ref s8, .ref s9, .ref s10, .ref s11, .ref s12, .ref s13, .ref s14, .ref s15, .ref s16, .ref s17, .int 0])), (s7, .inr (1, [.int 0, .int 0, .int 0, .ref t3, .ref t4, .ref t5, .ref t6]))] sz)) 0 0 (va_A [(h0, .inr (11, [.ref s0, .int 0, .ref s2, .ref s3, .ref s4, .int 0, .int (-1), .ref s7, .ref s8, .ref s9, .ref s10, .ref s11, .ref s12, .ref s13, .ref s14, .ref s15, .ref s16, .ref s17, .int 0])), (s7, .inr (1, [.int 0, .int 0, .int 0, .ref t3, .ref t4, .ref t5, .ref t6]))] sz) := by
  refine Met.ofW (cc := cX11_isDish) (maxL := 2) (ret := (some .boolean)) (by decide) rfl ?_
  intro p e s m args below meth c s₁ B hml hv
  obtain ⟨rfl, hsz, hP, hK, hD0, hE⟩ := hv
  have hx := B.exec
  have hb := B.bytes
  have hr := B.returns
  have hts := atoms_spec (ws := .code yX11_isDish cX11_isDish 2 (some .boolean) :: wsA) B.pre
  have hq : ∀ w ∈ wsA, w.before _ s = true := fun w h => hts w (List.mem_cons_of_mem _ h)
  have hown : s.vm.findClass RX11 = some m.cls := findClass_of_methodNamed B.named
  have hlocks := B.notSynchronized
  subst hsz
  have hD := hD0.self (sz := s.heap.size)
  generalize hAe : va_A [(h0, .inr (11, [.ref s0, .int 0, .ref s2, .ref s3, .ref s4, .int 0, .int (-1), .ref s7, .ref s8, .ref s9, .ref s10, .ref s11, .ref s12, .ref s13, .ref s14, .ref s15, .ref s16, .ref s17, .int 0])), (s7, .inr (1, [.int 0, .int 0, .int 0, .ref t3, .ref t4, .ref t5, .ref t6]))] s.heap.size = A at hD ⊢
  have hA : ∀ q : Nat, s.heap.size ≤ q → A q := fun q h => by rw [← hAe]; exact Or.inr h
  have hS : va_S A s.heap s.heap [] := va_S.rf
  have hl := lv_entry ([.ref h0, .int x0]) (n := 2) (Nat.le_of_ble_eq_true rfl)
  rw [lg_entry_eq]
  generalize (lg_sl ([.ref h0, .int x0]) ++ List.replicate (2 - (lg_sl ([.ref h0, .int x0])).length) Slot.unset).toArray = ls at hl ⊢
  have hl : lv_has ls 2 [(0, .ref h0), (1, .int x0)] := hl
  refine lv_iload_n hx hb dX11_isDish_0 rfl (lv_at hl 1 rfl) ?_
  refine lv_if_lt (tgt := 19) hx hb dX11_isDish_1 (by decide) (fun c_1 => ?_) (fun c_1 => ?_)
  · refine lv_iconst (v := 0) hx hb dX11_isDish_19 (by decide) ?_
    have hP9 := hP.sub (ws' := [(h0, .inr (11, [.ref s0, .int 0, .ref s2, .ref s3, .ref s4, .int 0, .int (-1), .ref s7, .ref s8, .ref s9, .ref s10, .ref s11, .ref s12, .ref s13, .ref s14, .ref s15, .ref s16, .ref s17, .int 0])), (s7, .inr (1, [.int 0, .int 0, .int 0, .ref t3, .ref t4, .ref t5, .ref t6]))]) [0, 1] rfl
    have hD9 := hD.sub (ws' := [(h0, .inr (11, [.ref s0, .int 0, .ref s2, .ref s3, .ref s4, .int 0, .int (-1), .ref s7, .ref s8, .ref s9, .ref s10, .ref s11, .ref s12, .ref s13, .ref s14, .ref s15, .ref s16, .ref s17, .int 0])), (s7, .inr (1, [.int 0, .int 0, .int 0, .ref t3, .ref t4, .ref t5, .ref t6]))]) [0, 1] (by decide) rfl
    have hK9 := hK.sub (tys' := []) [] rfl
    refine W.widen (k := 0) (n := 0) (Nat.le_of_ble_eq_true rfl) (Nat.le_of_ble_eq_true rfl) ?_
    exact W.zret (v := 0) hx hb hr (by decide) (fun t ht hW => ⟨⟨0, (), rfl, rfl, by rw [ht]; exact hP9, va_K.moved hW.alike hK9, hD9⟩, hS.F ht⟩) hS.2.2 dX11_isDish_20
  · refine lv_iload_n hx hb dX11_isDish_4 rfl (lv_at hl 1 rfl) ?_
    refine lv_aload_n hx hb dX11_isDish_5 rfl (lv_at hl 0 rfl) ?_
    refine va_get (D := (dC, dI)) (ci := 11) (v := .ref s7) (C := RX11) (T := TX11) (N := 19) hx hb hq inX11 hown hK hP 0 rfl rfl 7 (by decide) (hq _ qw_456) (fun _ h9 => h9) rfl dX11_isDish_6 ?_
    refine va_get (D := (dC, dI)) (ci := 1) (v := .int 0) (C := RX1) (T := TX1) (N := 7) hx hb hq inX1 hown hK hP 1 rfl rfl 1 (by decide) (hq _ qw_231) (fun _ h9 => h9) rfl dX11_isDish_9 ?_
    refine lv_icmp_ge (tgt := 19) hx hb dX11_isDish_12 (by decide) (fun _ => ?_) (fun c9 => by have z0 : (0 : Int32).toInt = 0 := (by decide); simp only [Int32.le_iff_toInt_le, Int32.lt_iff_toInt_lt, ← Int32.toInt_inj, z0] at c9 c_1; omega)
    refine lv_iconst (v := 0) hx hb dX11_isDish_19 (by decide) ?_
    have hP9 := hP.sub (ws' := [(h0, .inr (11, [.ref s0, .int 0, .ref s2, .ref s3, .ref s4, .int 0, .int (-1), .ref s7, .ref s8, .ref s9, .ref s10, .ref s11, .ref s12, .ref s13, .ref s14, .ref s15, .ref s16, .ref s17, .int 0])), (s7, .inr (1, [.int 0, .int 0, .int 0, .ref t3, .ref t4, .ref t5, .ref t6]))]) [0, 1] rfl
    have hD9 := hD.sub (ws' := [(h0, .inr (11, [.ref s0, .int 0, .ref s2, .ref s3, .ref s4, .int 0, .int (-1), .ref s7, .ref s8, .ref s9, .ref s10, .ref s11, .ref s12, .ref s13, .ref s14, .ref s15, .ref s16, .ref s17, .int 0])), (s7, .inr (1, [.int 0, .int 0, .int 0, .ref t3, .ref t4, .ref t5, .ref t6]))]) [0, 1] (by decide) rfl
    have hK9 := hK.sub (tys' := []) [] rfl
    refine W.widen (k := 0) (n := 0) (Nat.le_of_ble_eq_true rfl) (Nat.le_of_ble_eq_true rfl) ?_
    exact W.zret (v := 0) hx hb hr (by decide) (fun t ht hW => ⟨⟨0, (), rfl, rfl, by rw [ht]; exact hP9, va_K.moved hW.alike hK9, hD9⟩, hS.F ht⟩) hS.2.2 dX11_isDish_20

set_option maxHeartbeats 4000000 in
set_option maxRecDepth 100000 in
/-- c_SB_isGuest -/
theorem c_SB_isGuest (l : Launch) (dC : Nat → ClassId) (dI : Nat → Nat → Nat) (sz : Nat) (h0 : Nat) (s0 : Nat) (s2 : Nat) (s3 : Nat) (s4 : Nat) (s7 : Nat) (s8 : Nat) (s9 : Nat) (s10 : Nat) (s11 : Nat) (s12 : Nat) (s13 : Nat) (s14 : Nat) (s15 : Nat) (s16 : Nat) (s17 : Nat) (t3 : Nat) (t4 : Nat) (t5 : Nat) (t6 : Nat) (x0 : Int32) : Met l yX11_isGuest (.code yX11_isGuest cX11_isGuest 2 (some .boolean) :: wsA) ({ frames := 0, cells := 0, slots := 0, locals := 0 }) (va_Pc [.ref h0, .int x0] (fun U => U.heap.size = sz ∧ va_P (dC, dI) classes [(h0, .inr (11, [.ref s0, .int 0, .ref s2, .ref s3, .ref s4, .int 0, .int (-1), .ref s7, .ref s8, .ref s9, .ref s10, .ref s11, .ref s12, .ref s13, .ref s14, .ref s15, .ref s16, .ref s17, .int 0])), (s7, .inr (1, [.int 0, .int 0, .int 0, .ref t3, .ref t4, .ref t5, .ref t6]))] U.heap ∧ va_K (dC, dI) classes [] U ∧ va_D (fun _ => True) [(h0, .inr (11, [.ref s0, .int 0, .ref s2, .ref s3, .ref s4, .int 0, .int (-1), .ref s7, .ref s8, .ref s9, .ref s10, .ref s11, .ref s12, .ref s13, .ref s14, .ref s15, .ref s16, .ref s17, .int 0])), (s7, .inr (1, [.int 0, .int 0, .int 0, .ref t3, .ref t4, .ref t5, .ref t6]))] ∧ xE U)) (va_Qi (fun (r : Int32) (_ : Unit) => r = 0) (fun _ t => va_P (dC, dI) classes [(h0, .inr (11, [.ref s0, .int 0, .ref s2, .ref s3, .ref s4, .int 0, .int (-1), .ref s7, .ref s8, .ref s9, .ref s10, .ref s11, .ref s12, .ref s13, .ref s14, .ref s15, .ref s16, .ref s17, .int 0])), (s7, .inr (1, [.int 0, .int 0, .int 0, .ref t3, .ref t4, .ref t5, .ref t6]))] t.heap ∧ va_K (dC, dI) classes [] t ∧ va_D (va_A [(h0, .inr (11, [.ref s0, .int 0, .ref s2, .ref s3, .ref s4, .int 0, .int (-1), .ref s7, .ref s8, .ref s9, .ref s10, .ref s11, .ref s12, .ref s13, .ref s14, .ref s15, .ref s16, .ref s17, .int 0])), (s7, .inr (1, [.int 0, .int 0, .int 0, .ref t3, .ref t4, .ref t5, .ref t6]))] sz) [(h0, .inr (11, [.ref s0, .int 0, .ref s2, .ref s3, .ref s4, .int 0, .int (-1), .ref s7, .ref s8, .ref s9, .ref s10, .ref s11, .ref s12, .ref s13, .ref s14, .ref s15, .ref s16, .ref s17, .int 0])), (s7, .inr (1, [.int 0, .int 0, .int 0, .ref t3, .ref t4, .ref t5, .ref t6]))]) (va_A [(h0, .inr (11, [.ref s0, .int 0, .ref s2, .ref s3, .ref s4, .int 0, .int (-1), .ref s7, .ref s8, .ref s9, .ref s10, .ref s11, .ref s12, .ref s13, .ref s14, .ref s15, .ref s16, .ref s17, .int 0])), (s7, .inr (1, [.int 0, .int 0, .int 0, .ref t3, .ref t4, .ref t5, .ref t6]))] sz)) 0 0 (va_A [(h0, .inr (11, [.ref s0, .int 0, .ref s2, .ref s3, .ref s4, .int 0, .int (-1), .ref s7, .ref s8, .ref s9, .ref s10, .ref s11, .ref s12, .ref s13, .ref s14, .ref s15, .ref s16, .ref s17, .int 0])), (s7, .inr (1, [.int 0, .int 0, .int 0, .ref t3, .ref t4, .ref t5, .ref t6]))] sz) := by
  refine Met.ofW (cc := cX11_isGuest) (maxL := 2) (ret := (some .boolean)) (by decide) rfl ?_
  intro p e s m args below meth c s₁ B hml hv
  obtain ⟨rfl, hsz, hP, hK, hD0, hE⟩ := hv
  have hx := B.exec
  have hb := B.bytes
  have hr := B.returns
  have hts := atoms_spec (ws := .code yX11_isGuest cX11_isGuest 2 (some .boolean) :: wsA) B.pre
  have hq : ∀ w ∈ wsA, w.before _ s = true := fun w h => hts w (List.mem_cons_of_mem _ h)
  have hown : s.vm.findClass RX11 = some m.cls := findClass_of_methodNamed B.named
  have hlocks := B.notSynchronized
  subst hsz
  have hD := hD0.self (sz := s.heap.size)
  generalize hAe : va_A [(h0, .inr (11, [.ref s0, .int 0, .ref s2, .ref s3, .ref s4, .int 0, .int (-1), .ref s7, .ref s8, .ref s9, .ref s10, .ref s11, .ref s12, .ref s13, .ref s14, .ref s15, .ref s16, .ref s17, .int 0])), (s7, .inr (1, [.int 0, .int 0, .int 0, .ref t3, .ref t4, .ref t5, .ref t6]))] s.heap.size = A at hD ⊢
  have hA : ∀ q : Nat, s.heap.size ≤ q → A q := fun q h => by rw [← hAe]; exact Or.inr h
  have hS : va_S A s.heap s.heap [] := va_S.rf
  have hl := lv_entry ([.ref h0, .int x0]) (n := 2) (Nat.le_of_ble_eq_true rfl)
  rw [lg_entry_eq]
  generalize (lg_sl ([.ref h0, .int x0]) ++ List.replicate (2 - (lg_sl ([.ref h0, .int x0])).length) Slot.unset).toArray = ls at hl ⊢
  have hl : lv_has ls 2 [(0, .ref h0), (1, .int x0)] := hl
  refine lv_iload_n hx hb dX11_isGuest_0 rfl (lv_at hl 1 rfl) ?_
  refine lv_if_lt (tgt := 19) hx hb dX11_isGuest_1 (by decide) (fun c_1 => ?_) (fun c_1 => ?_)
  · refine lv_iconst (v := 0) hx hb dX11_isGuest_19 (by decide) ?_
    have hP9 := hP.sub (ws' := [(h0, .inr (11, [.ref s0, .int 0, .ref s2, .ref s3, .ref s4, .int 0, .int (-1), .ref s7, .ref s8, .ref s9, .ref s10, .ref s11, .ref s12, .ref s13, .ref s14, .ref s15, .ref s16, .ref s17, .int 0])), (s7, .inr (1, [.int 0, .int 0, .int 0, .ref t3, .ref t4, .ref t5, .ref t6]))]) [0, 1] rfl
    have hD9 := hD.sub (ws' := [(h0, .inr (11, [.ref s0, .int 0, .ref s2, .ref s3, .ref s4, .int 0, .int (-1), .ref s7, .ref s8, .ref s9, .ref s10, .ref s11, .ref s12, .ref s13, .ref s14, .ref s15, .ref s16, .ref s17, .int 0])), (s7, .inr (1, [.int 0, .int 0, .int 0, .ref t3, .ref t4, .ref t5, .ref t6]))]) [0, 1] (by decide) rfl
    have hK9 := hK.sub (tys' := []) [] rfl
    refine W.widen (k := 0) (n := 0) (Nat.le_of_ble_eq_true rfl) (Nat.le_of_ble_eq_true rfl) ?_
    exact W.zret (v := 0) hx hb hr (by decide) (fun t ht hW => ⟨⟨0, (), rfl, rfl, by rw [ht]; exact hP9, va_K.moved hW.alike hK9, hD9⟩, hS.F ht⟩) hS.2.2 dX11_isGuest_20
  · refine lv_iload_n hx hb dX11_isGuest_4 rfl (lv_at hl 1 rfl) ?_
    refine lv_aload_n hx hb dX11_isGuest_5 rfl (lv_at hl 0 rfl) ?_
    refine va_get (D := (dC, dI)) (ci := 11) (v := .ref s7) (C := RX11) (T := TX11) (N := 19) hx hb hq inX11 hown hK hP 0 rfl rfl 7 (by decide) (hq _ qw_456) (fun _ h9 => h9) rfl dX11_isGuest_6 ?_
    refine va_get (D := (dC, dI)) (ci := 1) (v := .int 0) (C := RX1) (T := TX1) (N := 7) hx hb hq inX1 hown hK hP 1 rfl rfl 2 (by decide) (hq _ qw_235) (fun _ h9 => h9) rfl dX11_isGuest_9 ?_
    refine lv_icmp_ge (tgt := 19) hx hb dX11_isGuest_12 (by decide) (fun _ => ?_) (fun c9 => by have z0 : (0 : Int32).toInt = 0 := (by decide); simp only [Int32.le_iff_toInt_le, Int32.lt_iff_toInt_lt, ← Int32.toInt_inj, z0] at c9 c_1; omega)
    refine lv_iconst (v := 0) hx hb dX11_isGuest_19 (by decide) ?_
    have hP9 := hP.sub (ws' := [(h0, .inr (11, [.ref s0, .int 0, .ref s2, .ref s3, .ref s4, .int 0, .int (-1), .ref s7, .ref s8, .ref s9, .ref s10, .ref s11, .ref s12, .ref s13, .ref s14, .ref s15, .ref s16, .ref s17, .int 0])), (s7, .inr (1, [.int 0, .int 0, .int 0, .ref t3, .ref t4, .ref t5, .ref t6]))]) [0, 1] rfl
    have hD9 := hD.sub (ws' := [(h0, .inr (11, [.ref s0, .int 0, .ref s2, .ref s3, .ref s4, .int 0, .int (-1), .ref s7, .ref s8, .ref s9, .ref s10, .ref s11, .ref s12, .ref s13, .ref s14, .ref s15, .ref s16, .ref s17, .int 0])), (s7, .inr (1, [.int 0, .int 0, .int 0, .ref t3, .ref t4, .ref t5, .ref t6]))]) [0, 1] (by decide) rfl
    have hK9 := hK.sub (tys' := []) [] rfl
    refine W.widen (k := 0) (n := 0) (Nat.le_of_ble_eq_true rfl) (Nat.le_of_ble_eq_true rfl) ?_
    exact W.zret (v := 0) hx hb hr (by decide) (fun t ht hW => ⟨⟨0, (), rfl, rfl, by rw [ht]; exact hP9, va_K.moved hW.alike hK9, hD9⟩, hS.F ht⟩) hS.2.2 dX11_isGuest_20

set_option maxHeartbeats 4000000 in
set_option maxRecDepth 100000 in
/-- c_SB_within -/
theorem c_SB_within (l : Launch) (dC : Nat → ClassId) (dI : Nat → Nat → Nat) (sz : Nat) (x0 : Int32) (x1 : Int32) (x2 : Int32) : Met l yX11_within (.code yX11_within cX11_within 3 (some .boolean) :: wsA) ({ frames := 0, cells := 0, slots := 0, locals := 0 }) (va_Pc [.int x0, .int x1, .int x2] (fun U => U.heap.size = sz ∧ va_P (dC, dI) classes [] U.heap ∧ va_K (dC, dI) classes [] U ∧ va_D (fun _ => True) [] ∧ xE U)) (va_Qi (fun (r : Int32) (_ : Unit) => True) (fun _ t => va_P (dC, dI) classes [] t.heap ∧ va_K (dC, dI) classes [] t ∧ va_D (va_A [] sz) []) (va_A [] sz)) 0 0 (va_A [] sz) := by
  refine Met.ofW (cc := cX11_within) (maxL := 3) (ret := (some .boolean)) (by decide) rfl ?_
  intro p e s m args below meth c s₁ B hml hv
  obtain ⟨rfl, hsz, hP, hK, hD0, hE⟩ := hv
  have hx := B.exec
  have hb := B.bytes
  have hr := B.returns
  have hts := atoms_spec (ws := .code yX11_within cX11_within 3 (some .boolean) :: wsA) B.pre
  have hq : ∀ w ∈ wsA, w.before _ s = true := fun w h => hts w (List.mem_cons_of_mem _ h)
  have hown : s.vm.findClass RX11 = some m.cls := findClass_of_methodNamed B.named
  have hlocks := B.notSynchronized
  subst hsz
  have hD := hD0.self (sz := s.heap.size)
  generalize hAe : va_A [] s.heap.size = A at hD ⊢
  have hA : ∀ q : Nat, s.heap.size ≤ q → A q := fun q h => by rw [← hAe]; exact Or.inr h
  have hS : va_S A s.heap s.heap [] := va_S.rf
  have hl := lv_entry ([.int x0, .int x1, .int x2]) (n := 3) (Nat.le_of_ble_eq_true rfl)
  rw [lg_entry_eq]
  generalize (lg_sl ([.int x0, .int x1, .int x2]) ++ List.replicate (3 - (lg_sl ([.int x0, .int x1, .int x2])).length) Slot.unset).toArray = ls at hl ⊢
  have hl : lv_has ls 3 [(0, .int x0), (1, .int x1), (2, .int x2)] := hl
  refine lv_iload_n hx hb dX11_within_0 rfl (lv_at hl 0 rfl) ?_
  refine lv_iload_n hx hb dX11_within_1 rfl (lv_at hl 1 rfl) ?_
  refine lv_icmp_lt (tgt := 14) hx hb dX11_within_2 (by decide) (fun c_1 => ?_) (fun c_1 => ?_)
  · refine lv_iconst (v := 0) hx hb dX11_within_14 (by decide) ?_
    have hP9 := hP.sub (ws' := []) [] rfl
    have hD9 := hD.sub (ws' := []) [] (by decide) rfl
    have hK9 := hK.sub (tys' := []) [] rfl
    refine W.widen (k := 0) (n := 0) (Nat.le_of_ble_eq_true rfl) (Nat.le_of_ble_eq_true rfl) ?_
    exact W.zret (v := 0) hx hb hr (by decide) (fun t ht hW => ⟨⟨0, (), rfl, trivial, by rw [ht]; exact hP9, va_K.moved hW.alike hK9, hD9⟩, hS.F ht⟩) hS.2.2 dX11_within_15
  · refine lv_iload_n hx hb dX11_within_5 rfl (lv_at hl 0 rfl) ?_
    refine lv_iload_n hx hb dX11_within_6 rfl (lv_at hl 2 rfl) ?_
    refine lv_icmp_gt (tgt := 14) hx hb dX11_within_7 (by decide) (fun c_2 => ?_) (fun c_2 => ?_)
    · refine lv_iconst (v := 0) hx hb dX11_within_14 (by decide) ?_
      have hP9 := hP.sub (ws' := []) [] rfl
      have hD9 := hD.sub (ws' := []) [] (by decide) rfl
      have hK9 := hK.sub (tys' := []) [] rfl
      refine W.widen (k := 0) (n := 0) (Nat.le_of_ble_eq_true rfl) (Nat.le_of_ble_eq_true rfl) ?_
      exact W.zret (v := 0) hx hb hr (by decide) (fun t ht hW => ⟨⟨0, (), rfl, trivial, by rw [ht]; exact hP9, va_K.moved hW.alike hK9, hD9⟩, hS.F ht⟩) hS.2.2 dX11_within_15
    · refine lv_iconst (v := 1) hx hb dX11_within_10 (by decide) ?_
      refine lv_goto (tgt := 15) hx hb dX11_within_11 (by decide) ?_
      have hP9 := hP.sub (ws' := []) [] rfl
      have hD9 := hD.sub (ws' := []) [] (by decide) rfl
      have hK9 := hK.sub (tys' := []) [] rfl
      refine W.widen (k := 0) (n := 0) (Nat.le_of_ble_eq_true rfl) (Nat.le_of_ble_eq_true rfl) ?_
      exact W.zret (v := 1) hx hb hr (by decide) (fun t ht hW => ⟨⟨1, (), rfl, trivial, by rw [ht]; exact hP9, va_K.moved hW.alike hK9, hD9⟩, hS.F ht⟩) hS.2.2 dX11_within_15

set_option maxHeartbeats 4000000 in
set_option maxRecDepth 100000 in
/-- c_SB_end -/
theorem c_SB_end (l : Launch) (dC : Nat → ClassId) (dI : Nat → Nat → Nat) (sz : Nat) (h0 : Nat) (s0 : Nat) (s2 : Nat) (s3 : Nat) (s4 : Nat) (s7 : Nat) (s8 : Nat) (s9 : Nat) (s10 : Nat) (s11 : Nat) (s12 : Nat) (s13 : Nat) (s14 : Nat) (s15 : Nat) (s16 : Nat) (s17 : Nat) (x0 : Int32) : Met l yX11_end (.code yX11_end cX11_end 2 (some .int) :: wsA) ({ frames := 0, cells := 0, slots := 0, locals := 0 }) (va_Pc [.ref h0, .int x0] (fun U => U.heap.size = sz ∧ va_P (dC, dI) classes [(h0, .inr (11, [.ref s0, .int 0, .ref s2, .ref s3, .ref s4, .int 0, .int (-1), .ref s7, .ref s8, .ref s9, .ref s10, .ref s11, .ref s12, .ref s13, .ref s14, .ref s15, .ref s16, .ref s17, .int 0]))] U.heap ∧ va_K (dC, dI) classes [] U ∧ va_D (fun _ => True) [(h0, .inr (11, [.ref s0, .int 0, .ref s2, .ref s3, .ref s4, .int 0, .int (-1), .ref s7, .ref s8, .ref s9, .ref s10, .ref s11, .ref s12, .ref s13, .ref s14, .ref s15, .ref s16, .ref s17, .int 0]))] ∧ xE U)) (va_Qi (fun (r : Int32) (_ : Unit) => (x0 = 0 → r = 0) ∧ (¬ x0 = 0 → r = -1)) (fun _ _ => True) (va_A [(h0, .inr (11, [.ref s0, .int 0, .ref s2, .ref s3, .ref s4, .int 0, .int (-1), .ref s7, .ref s8, .ref s9, .ref s10, .ref s11, .ref s12, .ref s13, .ref s14, .ref s15, .ref s16, .ref s17, .int 0]))] sz)) 0 0 (va_A [(h0, .inr (11, [.ref s0, .int 0, .ref s2, .ref s3, .ref s4, .int 0, .int (-1), .ref s7, .ref s8, .ref s9, .ref s10, .ref s11, .ref s12, .ref s13, .ref s14, .ref s15, .ref s16, .ref s17, .int 0]))] sz) := by
  refine Met.ofW (cc := cX11_end) (maxL := 2) (ret := (some .int)) (by decide) rfl ?_
  intro p e s m args below meth c s₁ B hml hv
  obtain ⟨rfl, hsz, hP, hK, hD0, hE⟩ := hv
  have hx := B.exec
  have hb := B.bytes
  have hr := B.returns
  have hts := atoms_spec (ws := .code yX11_end cX11_end 2 (some .int) :: wsA) B.pre
  have hq : ∀ w ∈ wsA, w.before _ s = true := fun w h => hts w (List.mem_cons_of_mem _ h)
  have hown : s.vm.findClass RX11 = some m.cls := findClass_of_methodNamed B.named
  have hlocks := B.notSynchronized
  subst hsz
  have hD := hD0.self (sz := s.heap.size)
  generalize hAe : va_A [(h0, .inr (11, [.ref s0, .int 0, .ref s2, .ref s3, .ref s4, .int 0, .int (-1), .ref s7, .ref s8, .ref s9, .ref s10, .ref s11, .ref s12, .ref s13, .ref s14, .ref s15, .ref s16, .ref s17, .int 0]))] s.heap.size = A at hD ⊢
  have hA : ∀ q : Nat, s.heap.size ≤ q → A q := fun q h => by rw [← hAe]; exact Or.inr h
  have hS : va_S A s.heap s.heap [] := va_S.rf
  have hl := lv_entry ([.ref h0, .int x0]) (n := 2) (Nat.le_of_ble_eq_true rfl)
  rw [lg_entry_eq]
  generalize (lg_sl ([.ref h0, .int x0]) ++ List.replicate (2 - (lg_sl ([.ref h0, .int x0])).length) Slot.unset).toArray = ls at hl ⊢
  have hl : lv_has ls 2 [(0, .ref h0), (1, .int x0)] := hl
  refine lv_iload_n hx hb dX11_end_0 rfl (lv_at hl 1 rfl) ?_
  refine lv_if_lt (tgt := 12) hx hb dX11_end_1 (by decide) (fun c_1 => ?_) (fun c_1 => ?_)
  · refine lv_iconst (v := (-1)) hx hb dX11_end_12 (by decide) ?_
    refine W.widen (k := 0) (n := 0) (Nat.le_of_ble_eq_true rfl) (Nat.le_of_ble_eq_true rfl) ?_
    exact W.iret (v := (-1)) hx hb hr (fun t ht hW => ⟨⟨(-1), (), rfl, ⟨fun z => by first | rfl | exact z | (exfalso; have z0 : (0 : Int32).toInt = 0 := (by decide); simp only [Int32.le_iff_toInt_le, Int32.lt_iff_toInt_lt, ← Int32.toInt_inj, z0] at c_1 z; omega), fun z => by first | rfl | exact z | (exfalso; have z0 : (0 : Int32).toInt = 0 := (by decide); simp only [Int32.le_iff_toInt_le, Int32.lt_iff_toInt_lt, ← Int32.toInt_inj, z0] at c_1 z; omega)⟩, trivial⟩, hS.F ht⟩) hS.2.2 dX11_end_13
  · refine lv_iload_n hx hb dX11_end_4 rfl (lv_at hl 1 rfl) ?_
    refine lv_aload_n hx hb dX11_end_5 rfl (lv_at hl 0 rfl) ?_
    refine va_get (D := (dC, dI)) (ci := 11) (v := .int 0) (C := RX11) (T := TX11) (N := 19) hx hb hq inX11 hown hK hP 0 rfl rfl 1 (by decide) (hq _ qw_450) (fun _ h9 => h9) rfl dX11_end_6 ?_
    refine lv_icmp_le (tgt := 14) hx hb dX11_end_9 (by decide) (fun c_2 => ?_) (fun c_2 => ?_)
    · refine lv_aload_n hx hb dX11_end_14 rfl (lv_at hl 0 rfl) ?_
      refine lv_iload_n hx hb dX11_end_15 rfl (lv_at hl 1 rfl) ?_
      refine va_put (D := (dC, dI)) (ci := 11) (v := .int x0) (ty := .int) (C := RX11) (T := TX11) (N := 19) hx hb hq inX11 tyX11 tyX11_ok nmX11 hown hK hP hD hS 0 rfl rfl 1 (by decide) (hq _ qw_450) (fun _ h9 => h9) rfl (by decide +kernel) rfl rfl (Nat.le_of_ble_eq_true rfl) dX11_end_16 (fun H locs hP hD hS => ?_)
      have hP : va_P (dC, dI) classes [(h0, .inr (11, [.ref s0, .int x0, .ref s2, .ref s3, .ref s4, .int 0, .int (-1), .ref s7, .ref s8, .ref s9, .ref s10, .ref s11, .ref s12, .ref s13, .ref s14, .ref s15, .ref s16, .ref s17, .int 0]))] H := hP
      have hD : va_D A [(h0, .inr (11, [.ref s0, .int x0, .ref s2, .ref s3, .ref s4, .int 0, .int (-1), .ref s7, .ref s8, .ref s9, .ref s10, .ref s11, .ref s12, .ref s13, .ref s14, .ref s15, .ref s16, .ref s17, .int 0]))] := hD
      refine lv_iload_n hx hb dX11_end_19 rfl (lv_at hl 1 rfl) ?_
      refine W.widen (k := 0) (n := 0) (Nat.le_of_ble_eq_true rfl) (Nat.le_of_ble_eq_true rfl) ?_
      exact W.iret (v := x0) hx hb hr (fun t ht hW => ⟨⟨x0, (), rfl, ⟨fun z => by first | rfl | exact z | (exfalso; have z0 : (0 : Int32).toInt = 0 := (by decide); simp only [Int32.le_iff_toInt_le, Int32.lt_iff_toInt_lt, ← Int32.toInt_inj, z0] at c_1 c_2 z; omega), fun z => by first | rfl | exact z | (exfalso; have z0 : (0 : Int32).toInt = 0 := (by decide); simp only [Int32.le_iff_toInt_le, Int32.lt_iff_toInt_lt, ← Int32.toInt_inj, z0] at c_1 c_2 z; omega)⟩, trivial⟩, hS.F ht⟩) hS.2.2 dX11_end_20
    · refine lv_iconst (v := (-1)) hx hb dX11_end_12 (by decide) ?_
      refine W.widen (k := 0) (n := 0) (Nat.le_of_ble_eq_true rfl) (Nat.le_of_ble_eq_true rfl) ?_
      exact W.iret (v := (-1)) hx hb hr (fun t ht hW => ⟨⟨(-1), (), rfl, ⟨fun z => by first | rfl | exact z | (exfalso; have z0 : (0 : Int32).toInt = 0 := (by decide); simp only [Int32.le_iff_toInt_le, Int32.lt_iff_toInt_lt, ← Int32.toInt_inj, z0] at c_1 c_2 z; omega), fun z => by first | rfl | exact z | (exfalso; have z0 : (0 : Int32).toInt = 0 := (by decide); simp only [Int32.le_iff_toInt_le, Int32.lt_iff_toInt_lt, ← Int32.toInt_inj, z0] at c_1 c_2 z; omega)⟩, trivial⟩, hS.F ht⟩) hS.2.2 dX11_end_13

set_option maxHeartbeats 4000000 in
set_option maxRecDepth 100000 in
/-- c_SB_force -/
theorem c_SB_force (l : Launch) (dC : Nat → ClassId) (dI : Nat → Nat → Nat) (sz : Nat) (h0 : Nat) (s0 : Nat) (s2 : Nat) (s3 : Nat) (s4 : Nat) (s7 : Nat) (s8 : Nat) (s9 : Nat) (s10 : Nat) (s11 : Nat) (s12 : Nat) (s13 : Nat) (s14 : Nat) (s15 : Nat) (s16 : Nat) (s17 : Nat) (x0 : Int32) : Met l yX11_force (.code yX11_force cX11_force 3 (some .int) :: wsA) ({ frames := 0, cells := 0, slots := 0, locals := 0 }) (va_Pc [.ref h0, .int x0] (fun U => U.heap.size = sz ∧ va_P (dC, dI) classes [(h0, .inr (11, [.ref s0, .int 0, .ref s2, .ref s3, .ref s4, .int 0, .int (-1), .ref s7, .ref s8, .ref s9, .ref s10, .ref s11, .ref s12, .ref s13, .ref s14, .ref s15, .ref s16, .ref s17, .int 0]))] U.heap ∧ va_K (dC, dI) classes [] U ∧ va_D (fun _ => True) [(h0, .inr (11, [.ref s0, .int 0, .ref s2, .ref s3, .ref s4, .int 0, .int (-1), .ref s7, .ref s8, .ref s9, .ref s10, .ref s11, .ref s12, .ref s13, .ref s14, .ref s15, .ref s16, .ref s17, .int 0]))] ∧ xE U)) (va_Qi (fun (r : Int32) (_ : Unit) => (x0 = -1 → r = -1) ∧ (¬ x0 = -1 → r = -2)) (fun _ _ => True) (va_A [(h0, .inr (11, [.ref s0, .int 0, .ref s2, .ref s3, .ref s4, .int 0, .int (-1), .ref s7, .ref s8, .ref s9, .ref s10, .ref s11, .ref s12, .ref s13, .ref s14, .ref s15, .ref s16, .ref s17, .int 0]))] sz)) 0 0 (va_A [(h0, .inr (11, [.ref s0, .int 0, .ref s2, .ref s3, .ref s4, .int 0, .int (-1), .ref s7, .ref s8, .ref s9, .ref s10, .ref s11, .ref s12, .ref s13, .ref s14, .ref s15, .ref s16, .ref s17, .int 0]))] sz) := by
  refine Met.ofW (cc := cX11_force) (maxL := 3) (ret := (some .int)) (by decide) rfl ?_
  intro p e s m args below meth c s₁ B hml hv
  obtain ⟨rfl, hsz, hP, hK, hD0, hE⟩ := hv
  have hx := B.exec
  have hb := B.bytes
  have hr := B.returns
  have hts := atoms_spec (ws := .code yX11_force cX11_force 3 (some .int) :: wsA) B.pre
  have hq : ∀ w ∈ wsA, w.before _ s = true := fun w h => hts w (List.mem_cons_of_mem _ h)
  have hown : s.vm.findClass RX11 = some m.cls := findClass_of_methodNamed B.named
  have hlocks := B.notSynchronized
  subst hsz
  have hD := hD0.self (sz := s.heap.size)
  generalize hAe : va_A [(h0, .inr (11, [.ref s0, .int 0, .ref s2, .ref s3, .ref s4, .int 0, .int (-1), .ref s7, .ref s8, .ref s9, .ref s10, .ref s11, .ref s12, .ref s13, .ref s14, .ref s15, .ref s16, .ref s17, .int 0]))] s.heap.size = A at hD ⊢
  have hA : ∀ q : Nat, s.heap.size ≤ q → A q := fun q h => by rw [← hAe]; exact Or.inr h
  have hS : va_S A s.heap s.heap [] := va_S.rf
  have hl := lv_entry ([.ref h0, .int x0]) (n := 3) (Nat.le_of_ble_eq_true rfl)
  rw [lg_entry_eq]
  generalize (lg_sl ([.ref h0, .int x0]) ++ List.replicate (3 - (lg_sl ([.ref h0, .int x0])).length) Slot.unset).toArray = ls at hl ⊢
  have hl : lv_has ls 3 [(0, .ref h0), (1, .int x0)] := hl
  refine lv_iload_n hx hb dX11_force_0 rfl (lv_at hl 1 rfl) ?_
  refine lv_iconst (v := (-1)) hx hb dX11_force_1 (by decide) ?_
  refine lv_icmp_lt (tgt := 13) hx hb dX11_force_2 (by decide) (fun c_1 => ?_) (fun c_1 => ?_)
  · refine lv_bipush (v := (-2)) hx hb dX11_force_13 (by decide) ?_
    refine W.widen (k := 0) (n := 0) (Nat.le_of_ble_eq_true rfl) (Nat.le_of_ble_eq_true rfl) ?_
    exact W.iret (v := (-2)) hx hb hr (fun t ht hW => ⟨⟨(-2), (), rfl, ⟨fun z => by first | rfl | exact z | (exfalso; have z0 : ((-1) : Int32).toInt = (-1) := (by decide); have z1 : (0 : Int32).toInt = 0 := (by decide); simp only [Int32.le_iff_toInt_le, Int32.lt_iff_toInt_lt, ← Int32.toInt_inj, z0, z1] at c_1 z; omega), fun z => by first | rfl | exact z | (exfalso; have z0 : ((-1) : Int32).toInt = (-1) := (by decide); have z1 : (0 : Int32).toInt = 0 := (by decide); simp only [Int32.le_iff_toInt_le, Int32.lt_iff_toInt_lt, ← Int32.toInt_inj, z0, z1] at c_1 z; omega)⟩, trivial⟩, hS.F ht⟩) hS.2.2 dX11_force_15
  · refine lv_iload_n hx hb dX11_force_5 rfl (lv_at hl 1 rfl) ?_
    refine lv_aload_n hx hb dX11_force_6 rfl (lv_at hl 0 rfl) ?_
    refine va_get (D := (dC, dI)) (ci := 11) (v := .int 0) (C := RX11) (T := TX11) (N := 19) hx hb hq inX11 hown hK hP 0 rfl rfl 5 (by decide) (hq _ qw_454) (fun _ h9 => h9) rfl dX11_force_7 ?_
    refine lv_icmp_lt (tgt := 16) hx hb dX11_force_10 (by decide) (fun c_2 => ?_) (fun c_2 => ?_)
    · refine lv_aload_n hx hb dX11_force_16 rfl (lv_at hl 0 rfl) ?_
      refine va_get (D := (dC, dI)) (ci := 11) (v := .int (-1)) (C := RX11) (T := TX11) (N := 19) hx hb hq inX11 hown hK hP 0 rfl rfl 6 (by decide) (hq _ qw_455) (fun _ h9 => h9) rfl dX11_force_17 ?_
      refine lv_istore_n (lv' := [(2, .int (-1)), (0, .ref h0), (1, .int x0)]) hx hb dX11_force_20 rfl hl (by decide) rfl (fun ls hl => ?_)
      refine lv_aload_n hx hb dX11_force_21 rfl (lv_at hl 1 rfl) ?_
      refine lv_iload_n hx hb dX11_force_22 rfl (lv_at hl 2 rfl) ?_
      refine va_put (D := (dC, dI)) (ci := 11) (v := .int x0) (ty := .int) (C := RX11) (T := TX11) (N := 19) hx hb hq inX11 tyX11 tyX11_ok nmX11 hown hK hP hD hS 0 rfl rfl 6 (by decide) (hq _ qw_455) (fun _ h9 => h9) rfl (by decide +kernel) rfl rfl (Nat.le_of_ble_eq_true rfl) dX11_force_23 (fun H locs hP hD hS => ?_)
      have hP : va_P (dC, dI) classes [(h0, .inr (11, [.ref s0, .int 0, .ref s2, .ref s3, .ref s4, .int 0, .int x0, .ref s7, .ref s8, .ref s9, .ref s10, .ref s11, .ref s12, .ref s13, .ref s14, .ref s15, .ref s16, .ref s17, .int 0]))] H := hP
      have hD : va_D A [(h0, .inr (11, [.ref s0, .int 0, .ref s2, .ref s3, .ref s4, .int 0, .int x0, .ref s7, .ref s8, .ref s9, .ref s10, .ref s11, .ref s12, .ref s13, .ref s14, .ref s15, .ref s16, .ref s17, .int 0]))] := hD
      refine lv_iload_n hx hb dX11_force_26 rfl (lv_at hl 0 rfl) ?_
      refine W.widen (k := 0) (n := 0) (Nat.le_of_ble_eq_true rfl) (Nat.le_of_ble_eq_true rfl) ?_
      exact W.iret (v := (-1)) hx hb hr (fun t ht hW => ⟨⟨(-1), (), rfl, ⟨fun z => by first | rfl | exact z | (exfalso; have z0 : ((-1) : Int32).toInt = (-1) := (by decide); have z1 : (0 : Int32).toInt = 0 := (by decide); simp only [Int32.le_iff_toInt_le, Int32.lt_iff_toInt_lt, ← Int32.toInt_inj, z0, z1] at c_1 c_2 z; omega), fun z => by first | rfl | exact z | (exfalso; have z0 : ((-1) : Int32).toInt = (-1) := (by decide); have z1 : (0 : Int32).toInt = 0 := (by decide); simp only [Int32.le_iff_toInt_le, Int32.lt_iff_toInt_lt, ← Int32.toInt_inj, z0, z1] at c_1 c_2 z; omega)⟩, trivial⟩, hS.F ht⟩) hS.2.2 dX11_force_27
    · refine lv_bipush (v := (-2)) hx hb dX11_force_13 (by decide) ?_
      refine W.widen (k := 0) (n := 0) (Nat.le_of_ble_eq_true rfl) (Nat.le_of_ble_eq_true rfl) ?_
      exact W.iret (v := (-2)) hx hb hr (fun t ht hW => ⟨⟨(-2), (), rfl, ⟨fun z => by first | rfl | exact z | (exfalso; have z0 : ((-1) : Int32).toInt = (-1) := (by decide); have z1 : (0 : Int32).toInt = 0 := (by decide); simp only [Int32.le_iff_toInt_le, Int32.lt_iff_toInt_lt, ← Int32.toInt_inj, z0, z1] at c_1 c_2 z; omega), fun z => by first | rfl | exact z | (exfalso; have z0 : ((-1) : Int32).toInt = (-1) := (by decide); have z1 : (0 : Int32).toInt = 0 := (by decide); simp only [Int32.le_iff_toInt_le, Int32.lt_iff_toInt_lt, ← Int32.toInt_inj, z0, z1] at c_1 c_2 z; omega)⟩, trivial⟩, hS.F ht⟩) hS.2.2 dX11_force_15

set_option maxHeartbeats 4000000 in
set_option maxRecDepth 100000 in
/-- c_SB_clashes -/
theorem c_SB_clashes (l : Launch) (dC : Nat → ClassId) (dI : Nat → Nat → Nat) (sz : Nat) (h0 : Nat) (s0 : Nat) (s2 : Nat) (s3 : Nat) (s4 : Nat) (s7 : Nat) (s8 : Nat) (s9 : Nat) (s10 : Nat) (s11 : Nat) (s12 : Nat) (s13 : Nat) (s14 : Nat) (s15 : Nat) (s16 : Nat) (s17 : Nat) (t3 : Nat) (t4 : Nat) (t5 : Nat) (t6 : Nat) (x0 : Int32) : Met l yX11_clashes (.code yX11_clashes cX11_clashes 2 (some .int) :: wsA) ({ frames := 1, cells := 0, slots := 0, locals := 20 }) (va_Pc [.ref h0, .int x0] (fun U => U.heap.size = sz ∧ va_P (dC, dI) classes [(h0, .inr (11, [.ref s0, .int 0, .ref s2, .ref s3, .ref s4, .int 0, .int (-1), .ref s7, .ref s8, .ref s9, .ref s10, .ref s11, .ref s12, .ref s13, .ref s14, .ref s15, .ref s16, .ref s17, .int 0])), (s7, .inr (1, [.int 0, .int 0, .int 0, .ref t3, .ref t4, .ref t5, .ref t6]))] U.heap ∧ va_K (dC, dI) classes [] U ∧ va_D (fun _ => True) [(h0, .inr (11, [.ref s0, .int 0, .ref s2, .ref s3, .ref s4, .int 0, .int (-1), .ref s7, .ref s8, .ref s9, .ref s10, .ref s11, .ref s12, .ref s13, .ref s14, .ref s15, .ref s16, .ref s17, .int 0])), (s7, .inr (1, [.int 0, .int 0, .int 0, .ref t3, .ref t4, .ref t5, .ref t6]))] ∧ xE U)) (va_Qi (fun (r : Int32) (_ : Unit) => r = (-1)) (fun _ _ => True) (va_A [(h0, .inr (11, [.ref s0, .int 0, .ref s2, .ref s3, .ref s4, .int 0, .int (-1), .ref s7, .ref s8, .ref s9, .ref s10, .ref s11, .ref s12, .ref s13, .ref s14, .ref s15, .ref s16, .ref s17, .int 0])), (s7, .inr (1, [.int 0, .int 0, .int 0, .ref t3, .ref t4, .ref t5, .ref t6]))] sz)) 0 0 (va_A [(h0, .inr (11, [.ref s0, .int 0, .ref s2, .ref s3, .ref s4, .int 0, .int (-1), .ref s7, .ref s8, .ref s9, .ref s10, .ref s11, .ref s12, .ref s13, .ref s14, .ref s15, .ref s16, .ref s17, .int 0])), (s7, .inr (1, [.int 0, .int 0, .int 0, .ref t3, .ref t4, .ref t5, .ref t6]))] sz) := by
  refine Met.ofW (cc := cX11_clashes) (maxL := 2) (ret := (some .int)) (by decide) rfl ?_
  intro p e s m args below meth c s₁ B hml hv
  obtain ⟨rfl, hsz, hP, hK, hD0, hE⟩ := hv
  have hx := B.exec
  have hb := B.bytes
  have hr := B.returns
  have hts := atoms_spec (ws := .code yX11_clashes cX11_clashes 2 (some .int) :: wsA) B.pre
  have hq : ∀ w ∈ wsA, w.before _ s = true := fun w h => hts w (List.mem_cons_of_mem _ h)
  have hown : s.vm.findClass RX11 = some m.cls := findClass_of_methodNamed B.named
  have hlocks := B.notSynchronized
  subst hsz
  have hD := hD0.self (sz := s.heap.size)
  generalize hAe : va_A [(h0, .inr (11, [.ref s0, .int 0, .ref s2, .ref s3, .ref s4, .int 0, .int (-1), .ref s7, .ref s8, .ref s9, .ref s10, .ref s11, .ref s12, .ref s13, .ref s14, .ref s15, .ref s16, .ref s17, .int 0])), (s7, .inr (1, [.int 0, .int 0, .int 0, .ref t3, .ref t4, .ref t5, .ref t6]))] s.heap.size = A at hD ⊢
  have hA : ∀ q : Nat, s.heap.size ≤ q → A q := fun q h => by rw [← hAe]; exact Or.inr h
  have hS : va_S A s.heap s.heap [] := va_S.rf
  have hl := lv_entry ([.ref h0, .int x0]) (n := 2) (Nat.le_of_ble_eq_true rfl)
  rw [lg_entry_eq]
  generalize (lg_sl ([.ref h0, .int x0]) ++ List.replicate (2 - (lg_sl ([.ref h0, .int x0])).length) Slot.unset).toArray = ls at hl ⊢
  have hl : lv_has ls 2 [(0, .ref h0), (1, .int x0)] := hl
  refine lv_aload_n hx hb dX11_clashes_0 rfl (lv_at hl 0 rfl) ?_
  have hPc := hP.sub (ws' := [(h0, .inr (11, [.ref s0, .int 0, .ref s2, .ref s3, .ref s4, .int 0, .int (-1), .ref s7, .ref s8, .ref s9, .ref s10, .ref s11, .ref s12, .ref s13, .ref s14, .ref s15, .ref s16, .ref s17, .int 0])), (s7, .inr (1, [.int 0, .int 0, .int 0, .ref t3, .ref t4, .ref t5, .ref t6]))]) [0, 1] rfl
  have hDc := hD.sub (ws' := [(h0, .inr (11, [.ref s0, .int 0, .ref s2, .ref s3, .ref s4, .int 0, .int (-1), .ref s7, .ref s8, .ref s9, .ref s10, .ref s11, .ref s12, .ref s13, .ref s14, .ref s15, .ref s16, .ref s17, .int 0])), (s7, .inr (1, [.int 0, .int 0, .int 0, .ref t3, .ref t4, .ref t5, .ref t6]))]) [0, 1] (by decide) rfl
  have hKc := hK.sub (tys' := []) [] rfl
  have hFc := va_free (wc := [(h0, .inr (11, [.ref s0, .int 0, .ref s2, .ref s3, .ref s4, .int 0, .int (-1), .ref s7, .ref s8, .ref s9, .ref s10, .ref s11, .ref s12, .ref s13, .ref s14, .ref s15, .ref s16, .ref s17, .int 0])), (s7, .inr (1, [.int 0, .int 0, .int 0, .ref t3, .ref t4, .ref t5, .ref t6]))]) hD hS hA [0, 1] rfl
  refine va_calli (va_runV (As := []) (rest := []) ⟨hx, hb, hml, hown, hq⟩ (c_SB_untold l dC dI _ h0 s0 s2 s3 s4 s7 s8 s9 s10 s11 s12 s13 s14 s15 s16 s17 t3 t4 t5 t6 ) (cwV 0 hq (gV qw_778 qw_780 qw_14 qw_119 qw_781) rfl rfl rfl (by decide +kernel) ⟨Nat.le_of_ble_eq_true rfl, Nat.le_of_ble_eq_true rfl⟩) ⟨fun a U g mk q => by obtain ⟨q0, q1, qP, qK, qD, qE⟩ := q; exact ⟨q0, q1, qP, va_K.moved (u := U) (U := U.calling g mk a) (Vm.Alike.refl U.vm) qK, qD, xE.same rfl qE⟩, va_recv hKc hPc (ci := 11) (q0 := 0) rfl rfl, fun U hU hW => ⟨rfl, by rw [hU], by rw [hU]; exact hPc, va_K.moved hW.alike hKc, hDc.weaken (fun _ _ _ _ => trivial), xE.warm hW hE⟩⟩ rfl rfl hl.1 rfl (lv_room (Nat.le_of_ble_eq_true rfl)) dX11_clashes_1 ⟨Nat.le_of_ble_eq_true rfl, Nat.le_of_ble_eq_true rfl⟩) hS (fun q _ h => hFc q h) hFc (fun r_1 u t H1 locs ht hvm hw hB hz1 hk1 hS => ?_)
  obtain ⟨hP1, hK1, hD1⟩ := hB
  rw [ht] at hP1
  have hK1 := va_K.moved hvm.symm hK1
  obtain ⟨hP, hD⟩ := va_join (wr := []) (w1 := [(h0, .inr (11, [.ref s0, .int 0, .ref s2, .ref s3, .ref s4, .int 0, .int (-1), .ref s7, .ref s8, .ref s9, .ref s10, .ref s11, .ref s12, .ref s13, .ref s14, .ref s15, .ref s16, .ref s17, .int 0])), (s7, .inr (1, [.int 0, .int 0, .int 0, .ref t3, .ref t4, .ref t5, .ref t6]))]) hP hD [0, 1] [] rfl rfl (by decide) (by decide) hk1 hFc hP1 hD1
  generalize H1 = H at hP hS ⊢
  have hP : va_P (dC, dI) classes [(h0, .inr (11, [.ref s0, .int 0, .ref s2, .ref s3, .ref s4, .int 0, .int (-1), .ref s7, .ref s8, .ref s9, .ref s10, .ref s11, .ref s12, .ref s13, .ref s14, .ref s15, .ref s16, .ref s17, .int 0])), (s7, .inr (1, [.int 0, .int 0, .int 0, .ref t3, .ref t4, .ref t5, .ref t6]))] H := hP
  have hD : va_D A [(h0, .inr (11, [.ref s0, .int 0, .ref s2, .ref s3, .ref s4, .int 0, .int (-1), .ref s7, .ref s8, .ref s9, .ref s10, .ref s11, .ref s12, .ref s13, .ref s14, .ref s15, .ref s16, .ref s17, .int 0])), (s7, .inr (1, [.int 0, .int 0, .int 0, .ref t3, .ref t4, .ref t5, .ref t6]))] := hD
  obtain rfl : r_1 = 1 := hw
  refine lv_if_ne (tgt := 14) hx hb dX11_clashes_4 (by decide) (fun _ => ?_) (fun c9 => absurd c9 (by decide))
  refine lv_iconst (v := (-1)) hx hb dX11_clashes_14 (by decide) ?_
  refine W.widen (k := 0) (n := 0) (Nat.le_of_ble_eq_true rfl) (Nat.le_of_ble_eq_true rfl) ?_
  exact W.iret (v := (-1)) hx hb hr (fun t ht hW => ⟨⟨(-1), (), rfl, rfl, trivial⟩, hS.F ht⟩) hS.2.2 dX11_clashes_15

set_option maxHeartbeats 4000000 in
set_option maxRecDepth 100000 in
/-- c_SB_minute -/
theorem c_SB_minute (l : Launch) (dC : Nat → ClassId) (dI : Nat → Nat → Nat) (sz : Nat) (h0 : Nat) (s0 : Nat) (s2 : Nat) (s3 : Nat) (s4 : Nat) (s7 : Nat) (s8 : Nat) (s9 : Nat) (s10 : Nat) (s11 : Nat) (s12 : Nat) (s13 : Nat) (s14 : Nat) (s15 : Nat) (s16 : Nat) (s17 : Nat) (t3 : Nat) (t4 : Nat) (t5 : Nat) (t6 : Nat) : Met l yX11_minute (.code yX11_minute cX11_minute 1 (some .int) :: wsA) ({ frames := 1, cells := 0, slots := 0, locals := 20 }) (va_Pc [.ref h0] (fun U => U.heap.size = sz ∧ va_P (dC, dI) classes [(h0, .inr (11, [.ref s0, .int 0, .ref s2, .ref s3, .ref s4, .int 0, .int (-1), .ref s7, .ref s8, .ref s9, .ref s10, .ref s11, .ref s12, .ref s13, .ref s14, .ref s15, .ref s16, .ref s17, .int 0])), (s7, .inr (1, [.int 0, .int 0, .int 0, .ref t3, .ref t4, .ref t5, .ref t6]))] U.heap ∧ va_K (dC, dI) classes [] U ∧ va_D (fun _ => True) [(h0, .inr (11, [.ref s0, .int 0, .ref s2, .ref s3, .ref s4, .int 0, .int (-1), .ref s7, .ref s8, .ref s9, .ref s10, .ref s11, .ref s12, .ref s13, .ref s14, .ref s15, .ref s16, .ref s17, .int 0])), (s7, .inr (1, [.int 0, .int 0, .int 0, .ref t3, .ref t4, .ref t5, .ref t6]))] ∧ xE U)) (va_Qi (fun (r : Int32) (_ : Unit) => r = (-1)) (fun _ _ => True) (va_A [(h0, .inr (11, [.ref s0, .int 0, .ref s2, .ref s3, .ref s4, .int 0, .int (-1), .ref s7, .ref s8, .ref s9, .ref s10, .ref s11, .ref s12, .ref s13, .ref s14, .ref s15, .ref s16, .ref s17, .int 0])), (s7, .inr (1, [.int 0, .int 0, .int 0, .ref t3, .ref t4, .ref t5, .ref t6]))] sz)) 0 0 (va_A [(h0, .inr (11, [.ref s0, .int 0, .ref s2, .ref s3, .ref s4, .int 0, .int (-1), .ref s7, .ref s8, .ref s9, .ref s10, .ref s11, .ref s12, .ref s13, .ref s14, .ref s15, .ref s16, .ref s17, .int 0])), (s7, .inr (1, [.int 0, .int 0, .int 0, .ref t3, .ref t4, .ref t5, .ref t6]))] sz) := by
  refine Met.ofW (cc := cX11_minute) (maxL := 1) (ret := (some .int)) (by decide) rfl ?_
  intro p e s m args below meth c s₁ B hml hv
  obtain ⟨rfl, hsz, hP, hK, hD0, hE⟩ := hv
  have hx := B.exec
  have hb := B.bytes
  have hr := B.returns
  have hts := atoms_spec (ws := .code yX11_minute cX11_minute 1 (some .int) :: wsA) B.pre
  have hq : ∀ w ∈ wsA, w.before _ s = true := fun w h => hts w (List.mem_cons_of_mem _ h)
  have hown : s.vm.findClass RX11 = some m.cls := findClass_of_methodNamed B.named
  have hlocks := B.notSynchronized
  subst hsz
  have hD := hD0.self (sz := s.heap.size)
  generalize hAe : va_A [(h0, .inr (11, [.ref s0, .int 0, .ref s2, .ref s3, .ref s4, .int 0, .int (-1), .ref s7, .ref s8, .ref s9, .ref s10, .ref s11, .ref s12, .ref s13, .ref s14, .ref s15, .ref s16, .ref s17, .int 0])), (s7, .inr (1, [.int 0, .int 0, .int 0, .ref t3, .ref t4, .ref t5, .ref t6]))] s.heap.size = A at hD ⊢
  have hA : ∀ q : Nat, s.heap.size ≤ q → A q := fun q h => by rw [← hAe]; exact Or.inr h
  have hS : va_S A s.heap s.heap [] := va_S.rf
  have hl := lv_entry ([.ref h0]) (n := 1) (Nat.le_of_ble_eq_true rfl)
  rw [lg_entry_eq]
  generalize (lg_sl ([.ref h0]) ++ List.replicate (1 - (lg_sl ([.ref h0])).length) Slot.unset).toArray = ls at hl ⊢
  have hl : lv_has ls 1 [(0, .ref h0)] := hl
  refine lv_aload_n hx hb dX11_minute_0 rfl (lv_at hl 0 rfl) ?_
  have hPc := hP.sub (ws' := [(h0, .inr (11, [.ref s0, .int 0, .ref s2, .ref s3, .ref s4, .int 0, .int (-1), .ref s7, .ref s8, .ref s9, .ref s10, .ref s11, .ref s12, .ref s13, .ref s14, .ref s15, .ref s16, .ref s17, .int 0])), (s7, .inr (1, [.int 0, .int 0, .int 0, .ref t3, .ref t4, .ref t5, .ref t6]))]) [0, 1] rfl
  have hDc := hD.sub (ws' := [(h0, .inr (11, [.ref s0, .int 0, .ref s2, .ref s3, .ref s4, .int 0, .int (-1), .ref s7, .ref s8, .ref s9, .ref s10, .ref s11, .ref s12, .ref s13, .ref s14, .ref s15, .ref s16, .ref s17, .int 0])), (s7, .inr (1, [.int 0, .int 0, .int 0, .ref t3, .ref t4, .ref t5, .ref t6]))]) [0, 1] (by decide) rfl
  have hKc := hK.sub (tys' := []) [] rfl
  have hFc := va_free (wc := [(h0, .inr (11, [.ref s0, .int 0, .ref s2, .ref s3, .ref s4, .int 0, .int (-1), .ref s7, .ref s8, .ref s9, .ref s10, .ref s11, .ref s12, .ref s13, .ref s14, .ref s15, .ref s16, .ref s17, .int 0])), (s7, .inr (1, [.int 0, .int 0, .int 0, .ref t3, .ref t4, .ref t5, .ref t6]))]) hD hS hA [0, 1] rfl
  refine va_calli (va_runV (As := []) (rest := []) ⟨hx, hb, hml, hown, hq⟩ (c_SB_untold l dC dI _ h0 s0 s2 s3 s4 s7 s8 s9 s10 s11 s12 s13 s14 s15 s16 s17 t3 t4 t5 t6 ) (cwV 0 hq (gV qw_778 qw_780 qw_14 qw_119 qw_781) rfl rfl rfl (by decide +kernel) ⟨Nat.le_of_ble_eq_true rfl, Nat.le_of_ble_eq_true rfl⟩) ⟨fun a U g mk q => by obtain ⟨q0, q1, qP, qK, qD, qE⟩ := q; exact ⟨q0, q1, qP, va_K.moved (u := U) (U := U.calling g mk a) (Vm.Alike.refl U.vm) qK, qD, xE.same rfl qE⟩, va_recv hKc hPc (ci := 11) (q0 := 0) rfl rfl, fun U hU hW => ⟨rfl, by rw [hU], by rw [hU]; exact hPc, va_K.moved hW.alike hKc, hDc.weaken (fun _ _ _ _ => trivial), xE.warm hW hE⟩⟩ rfl rfl hl.1 rfl (lv_room (Nat.le_of_ble_eq_true rfl)) dX11_minute_1 ⟨Nat.le_of_ble_eq_true rfl, Nat.le_of_ble_eq_true rfl⟩) hS (fun q _ h => hFc q h) hFc (fun r_1 u t H1 locs ht hvm hw hB hz1 hk1 hS => ?_)
  obtain ⟨hP1, hK1, hD1⟩ := hB
  rw [ht] at hP1
  have hK1 := va_K.moved hvm.symm hK1
  obtain ⟨hP, hD⟩ := va_join (wr := []) (w1 := [(h0, .inr (11, [.ref s0, .int 0, .ref s2, .ref s3, .ref s4, .int 0, .int (-1), .ref s7, .ref s8, .ref s9, .ref s10, .ref s11, .ref s12, .ref s13, .ref s14, .ref s15, .ref s16, .ref s17, .int 0])), (s7, .inr (1, [.int 0, .int 0, .int 0, .ref t3, .ref t4, .ref t5, .ref t6]))]) hP hD [0, 1] [] rfl rfl (by decide) (by decide) hk1 hFc hP1 hD1
  generalize H1 = H at hP hS ⊢
  have hP : va_P (dC, dI) classes [(h0, .inr (11, [.ref s0, .int 0, .ref s2, .ref s3, .ref s4, .int 0, .int (-1), .ref s7, .ref s8, .ref s9, .ref s10, .ref s11, .ref s12, .ref s13, .ref s14, .ref s15, .ref s16, .ref s17, .int 0])), (s7, .inr (1, [.int 0, .int 0, .int 0, .ref t3, .ref t4, .ref t5, .ref t6]))] H := hP
  have hD : va_D A [(h0, .inr (11, [.ref s0, .int 0, .ref s2, .ref s3, .ref s4, .int 0, .int (-1), .ref s7, .ref s8, .ref s9, .ref s10, .ref s11, .ref s12, .ref s13, .ref s14, .ref s15, .ref s16, .ref s17, .int 0])), (s7, .inr (1, [.int 0, .int 0, .int 0, .ref t3, .ref t4, .ref t5, .ref t6]))] := hD
  obtain rfl : r_1 = 1 := hw
  refine lv_if_ne (tgt := 20) hx hb dX11_minute_4 (by decide) (fun _ => ?_) (fun c9 => absurd c9 (by decide))
  refine lv_iconst (v := (-1)) hx hb dX11_minute_20 (by decide) ?_
  refine W.widen (k := 0) (n := 0) (Nat.le_of_ble_eq_true rfl) (Nat.le_of_ble_eq_true rfl) ?_
  exact W.iret (v := (-1)) hx hb hr (fun t ht hW => ⟨⟨(-1), (), rfl, rfl, trivial⟩, hS.F ht⟩) hS.2.2 dX11_minute_21

set_option maxHeartbeats 4000000 in
set_option maxRecDepth 100000 in
/-- c_SB_ahead -/
theorem c_SB_ahead (l : Launch) (dC : Nat → ClassId) (dI : Nat → Nat → Nat) (sz : Nat) (h0 : Nat) (s0 : Nat) (s2 : Nat) (s3 : Nat) (s4 : Nat) (s7 : Nat) (s8 : Nat) (s9 : Nat) (s10 : Nat) (s11 : Nat) (s12 : Nat) (s13 : Nat) (s14 : Nat) (s15 : Nat) (s16 : Nat) (s17 : Nat) (t3 : Nat) (t4 : Nat) (t5 : Nat) (t6 : Nat) (x0 : Int32) (x1 : Int32) (x2 : Int32) : Met l yX11_ahead (.code yX11_ahead cX11_ahead 4 (some .int) :: wsA) ({ frames := 1, cells := 0, slots := 0, locals := 20 }) (va_Pc [.ref h0, .int x0, .int x1, .int x2] (fun U => U.heap.size = sz ∧ va_P (dC, dI) classes [(h0, .inr (11, [.ref s0, .int 0, .ref s2, .ref s3, .ref s4, .int 0, .int (-1), .ref s7, .ref s8, .ref s9, .ref s10, .ref s11, .ref s12, .ref s13, .ref s14, .ref s15, .ref s16, .ref s17, .int 0])), (s7, .inr (1, [.int 0, .int 0, .int 0, .ref t3, .ref t4, .ref t5, .ref t6]))] U.heap ∧ va_K (dC, dI) classes [] U ∧ va_D (fun _ => True) [(h0, .inr (11, [.ref s0, .int 0, .ref s2, .ref s3, .ref s4, .int 0, .int (-1), .ref s7, .ref s8, .ref s9, .ref s10, .ref s11, .ref s12, .ref s13, .ref s14, .ref s15, .ref s16, .ref s17, .int 0])), (s7, .inr (1, [.int 0, .int 0, .int 0, .ref t3, .ref t4, .ref t5, .ref t6]))] ∧ xE U)) (va_Qi (fun (r : Int32) (_ : Unit) => r = (-1)) (fun _ _ => True) (va_A [(h0, .inr (11, [.ref s0, .int 0, .ref s2, .ref s3, .ref s4, .int 0, .int (-1), .ref s7, .ref s8, .ref s9, .ref s10, .ref s11, .ref s12, .ref s13, .ref s14, .ref s15, .ref s16, .ref s17, .int 0])), (s7, .inr (1, [.int 0, .int 0, .int 0, .ref t3, .ref t4, .ref t5, .ref t6]))] sz)) 0 0 (va_A [(h0, .inr (11, [.ref s0, .int 0, .ref s2, .ref s3, .ref s4, .int 0, .int (-1), .ref s7, .ref s8, .ref s9, .ref s10, .ref s11, .ref s12, .ref s13, .ref s14, .ref s15, .ref s16, .ref s17, .int 0])), (s7, .inr (1, [.int 0, .int 0, .int 0, .ref t3, .ref t4, .ref t5, .ref t6]))] sz) := by
  refine Met.ofW (cc := cX11_ahead) (maxL := 4) (ret := (some .int)) (by decide) rfl ?_
  intro p e s m args below meth c s₁ B hml hv
  obtain ⟨rfl, hsz, hP, hK, hD0, hE⟩ := hv
  have hx := B.exec
  have hb := B.bytes
  have hr := B.returns
  have hts := atoms_spec (ws := .code yX11_ahead cX11_ahead 4 (some .int) :: wsA) B.pre
  have hq : ∀ w ∈ wsA, w.before _ s = true := fun w h => hts w (List.mem_cons_of_mem _ h)
  have hown : s.vm.findClass RX11 = some m.cls := findClass_of_methodNamed B.named
  have hlocks := B.notSynchronized
  subst hsz
  have hD := hD0.self (sz := s.heap.size)
  generalize hAe : va_A [(h0, .inr (11, [.ref s0, .int 0, .ref s2, .ref s3, .ref s4, .int 0, .int (-1), .ref s7, .ref s8, .ref s9, .ref s10, .ref s11, .ref s12, .ref s13, .ref s14, .ref s15, .ref s16, .ref s17, .int 0])), (s7, .inr (1, [.int 0, .int 0, .int 0, .ref t3, .ref t4, .ref t5, .ref t6]))] s.heap.size = A at hD ⊢
  have hA : ∀ q : Nat, s.heap.size ≤ q → A q := fun q h => by rw [← hAe]; exact Or.inr h
  have hS : va_S A s.heap s.heap [] := va_S.rf
  have hl := lv_entry ([.ref h0, .int x0, .int x1, .int x2]) (n := 4) (Nat.le_of_ble_eq_true rfl)
  rw [lg_entry_eq]
  generalize (lg_sl ([.ref h0, .int x0, .int x1, .int x2]) ++ List.replicate (4 - (lg_sl ([.ref h0, .int x0, .int x1, .int x2])).length) Slot.unset).toArray = ls at hl ⊢
  have hl : lv_has ls 4 [(0, .ref h0), (1, .int x0), (2, .int x1), (3, .int x2)] := hl
  refine lv_aload_n hx hb dX11_ahead_0 rfl (lv_at hl 0 rfl) ?_
  have hPc := hP.sub (ws' := [(h0, .inr (11, [.ref s0, .int 0, .ref s2, .ref s3, .ref s4, .int 0, .int (-1), .ref s7, .ref s8, .ref s9, .ref s10, .ref s11, .ref s12, .ref s13, .ref s14, .ref s15, .ref s16, .ref s17, .int 0])), (s7, .inr (1, [.int 0, .int 0, .int 0, .ref t3, .ref t4, .ref t5, .ref t6]))]) [0, 1] rfl
  have hDc := hD.sub (ws' := [(h0, .inr (11, [.ref s0, .int 0, .ref s2, .ref s3, .ref s4, .int 0, .int (-1), .ref s7, .ref s8, .ref s9, .ref s10, .ref s11, .ref s12, .ref s13, .ref s14, .ref s15, .ref s16, .ref s17, .int 0])), (s7, .inr (1, [.int 0, .int 0, .int 0, .ref t3, .ref t4, .ref t5, .ref t6]))]) [0, 1] (by decide) rfl
  have hKc := hK.sub (tys' := []) [] rfl
  have hFc := va_free (wc := [(h0, .inr (11, [.ref s0, .int 0, .ref s2, .ref s3, .ref s4, .int 0, .int (-1), .ref s7, .ref s8, .ref s9, .ref s10, .ref s11, .ref s12, .ref s13, .ref s14, .ref s15, .ref s16, .ref s17, .int 0])), (s7, .inr (1, [.int 0, .int 0, .int 0, .ref t3, .ref t4, .ref t5, .ref t6]))]) hD hS hA [0, 1] rfl
  refine va_calli (va_runV (As := []) (rest := []) ⟨hx, hb, hml, hown, hq⟩ (c_SB_untold l dC dI _ h0 s0 s2 s3 s4 s7 s8 s9 s10 s11 s12 s13 s14 s15 s16 s17 t3 t4 t5 t6 ) (cwV 0 hq (gV qw_778 qw_780 qw_14 qw_119 qw_781) rfl rfl rfl (by decide +kernel) ⟨Nat.le_of_ble_eq_true rfl, Nat.le_of_ble_eq_true rfl⟩) ⟨fun a U g mk q => by obtain ⟨q0, q1, qP, qK, qD, qE⟩ := q; exact ⟨q0, q1, qP, va_K.moved (u := U) (U := U.calling g mk a) (Vm.Alike.refl U.vm) qK, qD, xE.same rfl qE⟩, va_recv hKc hPc (ci := 11) (q0 := 0) rfl rfl, fun U hU hW => ⟨rfl, by rw [hU], by rw [hU]; exact hPc, va_K.moved hW.alike hKc, hDc.weaken (fun _ _ _ _ => trivial), xE.warm hW hE⟩⟩ rfl rfl hl.1 rfl (lv_room (Nat.le_of_ble_eq_true rfl)) dX11_ahead_1 ⟨Nat.le_of_ble_eq_true rfl, Nat.le_of_ble_eq_true rfl⟩) hS (fun q _ h => hFc q h) hFc (fun r_1 u t H1 locs ht hvm hw hB hz1 hk1 hS => ?_)
  obtain ⟨hP1, hK1, hD1⟩ := hB
  rw [ht] at hP1
  have hK1 := va_K.moved hvm.symm hK1
  obtain ⟨hP, hD⟩ := va_join (wr := []) (w1 := [(h0, .inr (11, [.ref s0, .int 0, .ref s2, .ref s3, .ref s4, .int 0, .int (-1), .ref s7, .ref s8, .ref s9, .ref s10, .ref s11, .ref s12, .ref s13, .ref s14, .ref s15, .ref s16, .ref s17, .int 0])), (s7, .inr (1, [.int 0, .int 0, .int 0, .ref t3, .ref t4, .ref t5, .ref t6]))]) hP hD [0, 1] [] rfl rfl (by decide) (by decide) hk1 hFc hP1 hD1
  generalize H1 = H at hP hS ⊢
  have hP : va_P (dC, dI) classes [(h0, .inr (11, [.ref s0, .int 0, .ref s2, .ref s3, .ref s4, .int 0, .int (-1), .ref s7, .ref s8, .ref s9, .ref s10, .ref s11, .ref s12, .ref s13, .ref s14, .ref s15, .ref s16, .ref s17, .int 0])), (s7, .inr (1, [.int 0, .int 0, .int 0, .ref t3, .ref t4, .ref t5, .ref t6]))] H := hP
  have hD : va_D A [(h0, .inr (11, [.ref s0, .int 0, .ref s2, .ref s3, .ref s4, .int 0, .int (-1), .ref s7, .ref s8, .ref s9, .ref s10, .ref s11, .ref s12, .ref s13, .ref s14, .ref s15, .ref s16, .ref s17, .int 0])), (s7, .inr (1, [.int 0, .int 0, .int 0, .ref t3, .ref t4, .ref t5, .ref t6]))] := hD
  obtain rfl : r_1 = 1 := hw
  refine lv_if_ne (tgt := 26) hx hb dX11_ahead_4 (by decide) (fun _ => ?_) (fun c9 => absurd c9 (by decide))
  refine lv_iconst (v := (-1)) hx hb dX11_ahead_26 (by decide) ?_
  refine W.widen (k := 0) (n := 0) (Nat.le_of_ble_eq_true rfl) (Nat.le_of_ble_eq_true rfl) ?_
  exact W.iret (v := (-1)) hx hb hr (fun t ht hW => ⟨⟨(-1), (), rfl, rfl, trivial⟩, hS.F ht⟩) hS.2.2 dX11_ahead_27

set_option maxHeartbeats 4000000 in
set_option maxRecDepth 100000 in
/-- c_SB_said -/
theorem c_SB_said (l : Launch) (dC : Nat → ClassId) (dI : Nat → Nat → Nat) (sz : Nat) (h0 : Nat) (s0 : Nat) (s2 : Nat) (s3 : Nat) (s4 : Nat) (s7 : Nat) (s8 : Nat) (s9 : Nat) (s10 : Nat) (s11 : Nat) (s12 : Nat) (s13 : Nat) (s14 : Nat) (s15 : Nat) (s16 : Nat) (s17 : Nat) (t3 : Nat) (t4 : Nat) (t5 : Nat) (t6 : Nat) (x0 : Int32) : Met l yX11_said (.code yX11_said cX11_said 3 (some .int) :: wsA) ({ frames := 1, cells := 0, slots := 0, locals := 20 }) (va_Pc [.ref h0, .int x0] (fun U => U.heap.size = sz ∧ va_P (dC, dI) classes [(h0, .inr (11, [.ref s0, .int 0, .ref s2, .ref s3, .ref s4, .int 0, .int (-1), .ref s7, .ref s8, .ref s9, .ref s10, .ref s11, .ref s12, .ref s13, .ref s14, .ref s15, .ref s16, .ref s17, .int 0])), (s7, .inr (1, [.int 0, .int 0, .int 0, .ref t3, .ref t4, .ref t5, .ref t6]))] U.heap ∧ va_K (dC, dI) classes [] U ∧ va_D (fun _ => True) [(h0, .inr (11, [.ref s0, .int 0, .ref s2, .ref s3, .ref s4, .int 0, .int (-1), .ref s7, .ref s8, .ref s9, .ref s10, .ref s11, .ref s12, .ref s13, .ref s14, .ref s15, .ref s16, .ref s17, .int 0])), (s7, .inr (1, [.int 0, .int 0, .int 0, .ref t3, .ref t4, .ref t5, .ref t6]))] ∧ xE U)) (va_Qi (fun (r : Int32) (_ : Unit) => r = (-1)) (fun _ _ => True) (va_A [(h0, .inr (11, [.ref s0, .int 0, .ref s2, .ref s3, .ref s4, .int 0, .int (-1), .ref s7, .ref s8, .ref s9, .ref s10, .ref s11, .ref s12, .ref s13, .ref s14, .ref s15, .ref s16, .ref s17, .int 0])), (s7, .inr (1, [.int 0, .int 0, .int 0, .ref t3, .ref t4, .ref t5, .ref t6]))] sz)) 0 0 (va_A [(h0, .inr (11, [.ref s0, .int 0, .ref s2, .ref s3, .ref s4, .int 0, .int (-1), .ref s7, .ref s8, .ref s9, .ref s10, .ref s11, .ref s12, .ref s13, .ref s14, .ref s15, .ref s16, .ref s17, .int 0])), (s7, .inr (1, [.int 0, .int 0, .int 0, .ref t3, .ref t4, .ref t5, .ref t6]))] sz) := by
  refine Met.ofW (cc := cX11_said) (maxL := 3) (ret := (some .int)) (by decide) rfl ?_
  intro p e s m args below meth c s₁ B hml hv
  obtain ⟨rfl, hsz, hP, hK, hD0, hE⟩ := hv
  have hx := B.exec
  have hb := B.bytes
  have hr := B.returns
  have hts := atoms_spec (ws := .code yX11_said cX11_said 3 (some .int) :: wsA) B.pre
  have hq : ∀ w ∈ wsA, w.before _ s = true := fun w h => hts w (List.mem_cons_of_mem _ h)
  have hown : s.vm.findClass RX11 = some m.cls := findClass_of_methodNamed B.named
  have hlocks := B.notSynchronized
  subst hsz
  have hD := hD0.self (sz := s.heap.size)
  generalize hAe : va_A [(h0, .inr (11, [.ref s0, .int 0, .ref s2, .ref s3, .ref s4, .int 0, .int (-1), .ref s7, .ref s8, .ref s9, .ref s10, .ref s11, .ref s12, .ref s13, .ref s14, .ref s15, .ref s16, .ref s17, .int 0])), (s7, .inr (1, [.int 0, .int 0, .int 0, .ref t3, .ref t4, .ref t5, .ref t6]))] s.heap.size = A at hD ⊢
  have hA : ∀ q : Nat, s.heap.size ≤ q → A q := fun q h => by rw [← hAe]; exact Or.inr h
  have hS : va_S A s.heap s.heap [] := va_S.rf
  have hl := lv_entry ([.ref h0, .int x0]) (n := 3) (Nat.le_of_ble_eq_true rfl)
  rw [lg_entry_eq]
  generalize (lg_sl ([.ref h0, .int x0]) ++ List.replicate (3 - (lg_sl ([.ref h0, .int x0])).length) Slot.unset).toArray = ls at hl ⊢
  have hl : lv_has ls 3 [(0, .ref h0), (1, .int x0)] := hl
  refine lv_aload_n hx hb dX11_said_0 rfl (lv_at hl 0 rfl) ?_
  have hPc := hP.sub (ws' := [(h0, .inr (11, [.ref s0, .int 0, .ref s2, .ref s3, .ref s4, .int 0, .int (-1), .ref s7, .ref s8, .ref s9, .ref s10, .ref s11, .ref s12, .ref s13, .ref s14, .ref s15, .ref s16, .ref s17, .int 0])), (s7, .inr (1, [.int 0, .int 0, .int 0, .ref t3, .ref t4, .ref t5, .ref t6]))]) [0, 1] rfl
  have hDc := hD.sub (ws' := [(h0, .inr (11, [.ref s0, .int 0, .ref s2, .ref s3, .ref s4, .int 0, .int (-1), .ref s7, .ref s8, .ref s9, .ref s10, .ref s11, .ref s12, .ref s13, .ref s14, .ref s15, .ref s16, .ref s17, .int 0])), (s7, .inr (1, [.int 0, .int 0, .int 0, .ref t3, .ref t4, .ref t5, .ref t6]))]) [0, 1] (by decide) rfl
  have hKc := hK.sub (tys' := []) [] rfl
  have hFc := va_free (wc := [(h0, .inr (11, [.ref s0, .int 0, .ref s2, .ref s3, .ref s4, .int 0, .int (-1), .ref s7, .ref s8, .ref s9, .ref s10, .ref s11, .ref s12, .ref s13, .ref s14, .ref s15, .ref s16, .ref s17, .int 0])), (s7, .inr (1, [.int 0, .int 0, .int 0, .ref t3, .ref t4, .ref t5, .ref t6]))]) hD hS hA [0, 1] rfl
  refine va_calli (va_runV (As := []) (rest := []) ⟨hx, hb, hml, hown, hq⟩ (c_SB_untold l dC dI _ h0 s0 s2 s3 s4 s7 s8 s9 s10 s11 s12 s13 s14 s15 s16 s17 t3 t4 t5 t6 ) (cwV 0 hq (gV qw_778 qw_780 qw_14 qw_119 qw_781) rfl rfl rfl (by decide +kernel) ⟨Nat.le_of_ble_eq_true rfl, Nat.le_of_ble_eq_true rfl⟩) ⟨fun a U g mk q => by obtain ⟨q0, q1, qP, qK, qD, qE⟩ := q; exact ⟨q0, q1, qP, va_K.moved (u := U) (U := U.calling g mk a) (Vm.Alike.refl U.vm) qK, qD, xE.same rfl qE⟩, va_recv hKc hPc (ci := 11) (q0 := 0) rfl rfl, fun U hU hW => ⟨rfl, by rw [hU], by rw [hU]; exact hPc, va_K.moved hW.alike hKc, hDc.weaken (fun _ _ _ _ => trivial), xE.warm hW hE⟩⟩ rfl rfl hl.1 rfl (lv_room (Nat.le_of_ble_eq_true rfl)) dX11_said_1 ⟨Nat.le_of_ble_eq_true rfl, Nat.le_of_ble_eq_true rfl⟩) hS (fun q _ h => hFc q h) hFc (fun r_1 u t H1 locs ht hvm hw hB hz1 hk1 hS => ?_)
  obtain ⟨hP1, hK1, hD1⟩ := hB
  rw [ht] at hP1
  have hK1 := va_K.moved hvm.symm hK1
  obtain ⟨hP, hD⟩ := va_join (wr := []) (w1 := [(h0, .inr (11, [.ref s0, .int 0, .ref s2, .ref s3, .ref s4, .int 0, .int (-1), .ref s7, .ref s8, .ref s9, .ref s10, .ref s11, .ref s12, .ref s13, .ref s14, .ref s15, .ref s16, .ref s17, .int 0])), (s7, .inr (1, [.int 0, .int 0, .int 0, .ref t3, .ref t4, .ref t5, .ref t6]))]) hP hD [0, 1] [] rfl rfl (by decide) (by decide) hk1 hFc hP1 hD1
  generalize H1 = H at hP hS ⊢
  have hP : va_P (dC, dI) classes [(h0, .inr (11, [.ref s0, .int 0, .ref s2, .ref s3, .ref s4, .int 0, .int (-1), .ref s7, .ref s8, .ref s9, .ref s10, .ref s11, .ref s12, .ref s13, .ref s14, .ref s15, .ref s16, .ref s17, .int 0])), (s7, .inr (1, [.int 0, .int 0, .int 0, .ref t3, .ref t4, .ref t5, .ref t6]))] H := hP
  have hD : va_D A [(h0, .inr (11, [.ref s0, .int 0, .ref s2, .ref s3, .ref s4, .int 0, .int (-1), .ref s7, .ref s8, .ref s9, .ref s10, .ref s11, .ref s12, .ref s13, .ref s14, .ref s15, .ref s16, .ref s17, .int 0])), (s7, .inr (1, [.int 0, .int 0, .int 0, .ref t3, .ref t4, .ref t5, .ref t6]))] := hD
  obtain rfl : r_1 = 1 := hw
  refine lv_if_ne (tgt := 14) hx hb dX11_said_4 (by decide) (fun _ => ?_) (fun c9 => absurd c9 (by decide))
  refine lv_iconst (v := (-1)) hx hb dX11_said_14 (by decide) ?_
  refine W.widen (k := 0) (n := 0) (Nat.le_of_ble_eq_true rfl) (Nat.le_of_ble_eq_true rfl) ?_
  exact W.iret (v := (-1)) hx hb hr (fun t ht hW => ⟨⟨(-1), (), rfl, rfl, trivial⟩, hS.F ht⟩) hS.2.2 dX11_said_15

set_option maxHeartbeats 4000000 in
set_option maxRecDepth 100000 in
/-- c_SB_quiet -/
theorem c_SB_quiet (l : Launch) (dC : Nat → ClassId) (dI : Nat → Nat → Nat) (sz : Nat) (h0 : Nat) (s0 : Nat) (s2 : Nat) (s3 : Nat) (s4 : Nat) (s7 : Nat) (s8 : Nat) (s9 : Nat) (s10 : Nat) (s11 : Nat) (s12 : Nat) (s13 : Nat) (s14 : Nat) (s15 : Nat) (s16 : Nat) (s17 : Nat) (t3 : Nat) (t4 : Nat) (t5 : Nat) (t6 : Nat) : Met l yX11_quiet (.code yX11_quiet cX11_quiet 2 (some .int) :: wsA) ({ frames := 1, cells := 0, slots := 0, locals := 20 }) (va_Pc [.ref h0] (fun U => U.heap.size = sz ∧ va_P (dC, dI) classes [(h0, .inr (11, [.ref s0, .int 0, .ref s2, .ref s3, .ref s4, .int 0, .int (-1), .ref s7, .ref s8, .ref s9, .ref s10, .ref s11, .ref s12, .ref s13, .ref s14, .ref s15, .ref s16, .ref s17, .int 0])), (s7, .inr (1, [.int 0, .int 0, .int 0, .ref t3, .ref t4, .ref t5, .ref t6]))] U.heap ∧ va_K (dC, dI) classes [] U ∧ va_D (fun _ => True) [(h0, .inr (11, [.ref s0, .int 0, .ref s2, .ref s3, .ref s4, .int 0, .int (-1), .ref s7, .ref s8, .ref s9, .ref s10, .ref s11, .ref s12, .ref s13, .ref s14, .ref s15, .ref s16, .ref s17, .int 0])), (s7, .inr (1, [.int 0, .int 0, .int 0, .ref t3, .ref t4, .ref t5, .ref t6]))] ∧ xE U)) (va_Qi (fun (r : Int32) (_ : Unit) => r = (-1)) (fun _ _ => True) (va_A [(h0, .inr (11, [.ref s0, .int 0, .ref s2, .ref s3, .ref s4, .int 0, .int (-1), .ref s7, .ref s8, .ref s9, .ref s10, .ref s11, .ref s12, .ref s13, .ref s14, .ref s15, .ref s16, .ref s17, .int 0])), (s7, .inr (1, [.int 0, .int 0, .int 0, .ref t3, .ref t4, .ref t5, .ref t6]))] sz)) 0 0 (va_A [(h0, .inr (11, [.ref s0, .int 0, .ref s2, .ref s3, .ref s4, .int 0, .int (-1), .ref s7, .ref s8, .ref s9, .ref s10, .ref s11, .ref s12, .ref s13, .ref s14, .ref s15, .ref s16, .ref s17, .int 0])), (s7, .inr (1, [.int 0, .int 0, .int 0, .ref t3, .ref t4, .ref t5, .ref t6]))] sz) := by
  refine Met.ofW (cc := cX11_quiet) (maxL := 2) (ret := (some .int)) (by decide) rfl ?_
  intro p e s m args below meth c s₁ B hml hv
  obtain ⟨rfl, hsz, hP, hK, hD0, hE⟩ := hv
  have hx := B.exec
  have hb := B.bytes
  have hr := B.returns
  have hts := atoms_spec (ws := .code yX11_quiet cX11_quiet 2 (some .int) :: wsA) B.pre
  have hq : ∀ w ∈ wsA, w.before _ s = true := fun w h => hts w (List.mem_cons_of_mem _ h)
  have hown : s.vm.findClass RX11 = some m.cls := findClass_of_methodNamed B.named
  have hlocks := B.notSynchronized
  subst hsz
  have hD := hD0.self (sz := s.heap.size)
  generalize hAe : va_A [(h0, .inr (11, [.ref s0, .int 0, .ref s2, .ref s3, .ref s4, .int 0, .int (-1), .ref s7, .ref s8, .ref s9, .ref s10, .ref s11, .ref s12, .ref s13, .ref s14, .ref s15, .ref s16, .ref s17, .int 0])), (s7, .inr (1, [.int 0, .int 0, .int 0, .ref t3, .ref t4, .ref t5, .ref t6]))] s.heap.size = A at hD ⊢
  have hA : ∀ q : Nat, s.heap.size ≤ q → A q := fun q h => by rw [← hAe]; exact Or.inr h
  have hS : va_S A s.heap s.heap [] := va_S.rf
  have hl := lv_entry ([.ref h0]) (n := 2) (Nat.le_of_ble_eq_true rfl)
  rw [lg_entry_eq]
  generalize (lg_sl ([.ref h0]) ++ List.replicate (2 - (lg_sl ([.ref h0])).length) Slot.unset).toArray = ls at hl ⊢
  have hl : lv_has ls 2 [(0, .ref h0)] := hl
  refine lv_aload_n hx hb dX11_quiet_0 rfl (lv_at hl 0 rfl) ?_
  have hPc := hP.sub (ws' := [(h0, .inr (11, [.ref s0, .int 0, .ref s2, .ref s3, .ref s4, .int 0, .int (-1), .ref s7, .ref s8, .ref s9, .ref s10, .ref s11, .ref s12, .ref s13, .ref s14, .ref s15, .ref s16, .ref s17, .int 0])), (s7, .inr (1, [.int 0, .int 0, .int 0, .ref t3, .ref t4, .ref t5, .ref t6]))]) [0, 1] rfl
  have hDc := hD.sub (ws' := [(h0, .inr (11, [.ref s0, .int 0, .ref s2, .ref s3, .ref s4, .int 0, .int (-1), .ref s7, .ref s8, .ref s9, .ref s10, .ref s11, .ref s12, .ref s13, .ref s14, .ref s15, .ref s16, .ref s17, .int 0])), (s7, .inr (1, [.int 0, .int 0, .int 0, .ref t3, .ref t4, .ref t5, .ref t6]))]) [0, 1] (by decide) rfl
  have hKc := hK.sub (tys' := []) [] rfl
  have hFc := va_free (wc := [(h0, .inr (11, [.ref s0, .int 0, .ref s2, .ref s3, .ref s4, .int 0, .int (-1), .ref s7, .ref s8, .ref s9, .ref s10, .ref s11, .ref s12, .ref s13, .ref s14, .ref s15, .ref s16, .ref s17, .int 0])), (s7, .inr (1, [.int 0, .int 0, .int 0, .ref t3, .ref t4, .ref t5, .ref t6]))]) hD hS hA [0, 1] rfl
  refine va_calli (va_runV (As := []) (rest := []) ⟨hx, hb, hml, hown, hq⟩ (c_SB_untold l dC dI _ h0 s0 s2 s3 s4 s7 s8 s9 s10 s11 s12 s13 s14 s15 s16 s17 t3 t4 t5 t6 ) (cwV 0 hq (gV qw_778 qw_780 qw_14 qw_119 qw_781) rfl rfl rfl (by decide +kernel) ⟨Nat.le_of_ble_eq_true rfl, Nat.le_of_ble_eq_true rfl⟩) ⟨fun a U g mk q => by obtain ⟨q0, q1, qP, qK, qD, qE⟩ := q; exact ⟨q0, q1, qP, va_K.moved (u := U) (U := U.calling g mk a) (Vm.Alike.refl U.vm) qK, qD, xE.same rfl qE⟩, va_recv hKc hPc (ci := 11) (q0 := 0) rfl rfl, fun U hU hW => ⟨rfl, by rw [hU], by rw [hU]; exact hPc, va_K.moved hW.alike hKc, hDc.weaken (fun _ _ _ _ => trivial), xE.warm hW hE⟩⟩ rfl rfl hl.1 rfl (lv_room (Nat.le_of_ble_eq_true rfl)) dX11_quiet_1 ⟨Nat.le_of_ble_eq_true rfl, Nat.le_of_ble_eq_true rfl⟩) hS (fun q _ h => hFc q h) hFc (fun r_1 u t H1 locs ht hvm hw hB hz1 hk1 hS => ?_)
  obtain ⟨hP1, hK1, hD1⟩ := hB
  rw [ht] at hP1
  have hK1 := va_K.moved hvm.symm hK1
  obtain ⟨hP, hD⟩ := va_join (wr := []) (w1 := [(h0, .inr (11, [.ref s0, .int 0, .ref s2, .ref s3, .ref s4, .int 0, .int (-1), .ref s7, .ref s8, .ref s9, .ref s10, .ref s11, .ref s12, .ref s13, .ref s14, .ref s15, .ref s16, .ref s17, .int 0])), (s7, .inr (1, [.int 0, .int 0, .int 0, .ref t3, .ref t4, .ref t5, .ref t6]))]) hP hD [0, 1] [] rfl rfl (by decide) (by decide) hk1 hFc hP1 hD1
  generalize H1 = H at hP hS ⊢
  have hP : va_P (dC, dI) classes [(h0, .inr (11, [.ref s0, .int 0, .ref s2, .ref s3, .ref s4, .int 0, .int (-1), .ref s7, .ref s8, .ref s9, .ref s10, .ref s11, .ref s12, .ref s13, .ref s14, .ref s15, .ref s16, .ref s17, .int 0])), (s7, .inr (1, [.int 0, .int 0, .int 0, .ref t3, .ref t4, .ref t5, .ref t6]))] H := hP
  have hD : va_D A [(h0, .inr (11, [.ref s0, .int 0, .ref s2, .ref s3, .ref s4, .int 0, .int (-1), .ref s7, .ref s8, .ref s9, .ref s10, .ref s11, .ref s12, .ref s13, .ref s14, .ref s15, .ref s16, .ref s17, .int 0])), (s7, .inr (1, [.int 0, .int 0, .int 0, .ref t3, .ref t4, .ref t5, .ref t6]))] := hD
  obtain rfl : r_1 = 1 := hw
  refine lv_if_eq (tgt := 9) hx hb dX11_quiet_4 (by decide) (fun c9 => absurd c9 (by decide)) (fun _ => ?_)
  refine lv_iconst (v := (-1)) hx hb dX11_quiet_7 (by decide) ?_
  refine W.widen (k := 0) (n := 0) (Nat.le_of_ble_eq_true rfl) (Nat.le_of_ble_eq_true rfl) ?_
  exact W.iret (v := (-1)) hx hb hr (fun t ht hW => ⟨⟨(-1), (), rfl, rfl, trivial⟩, hS.F ht⟩) hS.2.2 dX11_quiet_8

set_option maxHeartbeats 4000000 in
set_option maxRecDepth 100000 in
/-- c_SB_knowing -/
theorem c_SB_knowing (l : Launch) (dC : Nat → ClassId) (dI : Nat → Nat → Nat) (sz : Nat) (h0 : Nat) (s0 : Nat) (s2 : Nat) (s3 : Nat) (s4 : Nat) (s7 : Nat) (s8 : Nat) (s9 : Nat) (s10 : Nat) (s11 : Nat) (s12 : Nat) (s13 : Nat) (s14 : Nat) (s15 : Nat) (s16 : Nat) (s17 : Nat) (t3 : Nat) (t4 : Nat) (t5 : Nat) (t6 : Nat) (x0 : Int32) : Met l yX11_knowing (.code yX11_knowing cX11_knowing 4 (some .int) :: wsA) ({ frames := 1, cells := 0, slots := 0, locals := 20 }) (va_Pc [.ref h0, .int x0] (fun U => U.heap.size = sz ∧ va_P (dC, dI) classes [(h0, .inr (11, [.ref s0, .int 0, .ref s2, .ref s3, .ref s4, .int 0, .int (-1), .ref s7, .ref s8, .ref s9, .ref s10, .ref s11, .ref s12, .ref s13, .ref s14, .ref s15, .ref s16, .ref s17, .int 0])), (s7, .inr (1, [.int 0, .int 0, .int 0, .ref t3, .ref t4, .ref t5, .ref t6]))] U.heap ∧ va_K (dC, dI) classes [] U ∧ va_D (fun _ => True) [(h0, .inr (11, [.ref s0, .int 0, .ref s2, .ref s3, .ref s4, .int 0, .int (-1), .ref s7, .ref s8, .ref s9, .ref s10, .ref s11, .ref s12, .ref s13, .ref s14, .ref s15, .ref s16, .ref s17, .int 0])), (s7, .inr (1, [.int 0, .int 0, .int 0, .ref t3, .ref t4, .ref t5, .ref t6]))] ∧ xE U)) (va_Qi (fun (r : Int32) (_ : Unit) => r = (-1)) (fun _ _ => True) (va_A [(h0, .inr (11, [.ref s0, .int 0, .ref s2, .ref s3, .ref s4, .int 0, .int (-1), .ref s7, .ref s8, .ref s9, .ref s10, .ref s11, .ref s12, .ref s13, .ref s14, .ref s15, .ref s16, .ref s17, .int 0])), (s7, .inr (1, [.int 0, .int 0, .int 0, .ref t3, .ref t4, .ref t5, .ref t6]))] sz)) 0 0 (va_A [(h0, .inr (11, [.ref s0, .int 0, .ref s2, .ref s3, .ref s4, .int 0, .int (-1), .ref s7, .ref s8, .ref s9, .ref s10, .ref s11, .ref s12, .ref s13, .ref s14, .ref s15, .ref s16, .ref s17, .int 0])), (s7, .inr (1, [.int 0, .int 0, .int 0, .ref t3, .ref t4, .ref t5, .ref t6]))] sz) := by
  refine Met.ofW (cc := cX11_knowing) (maxL := 4) (ret := (some .int)) (by decide) rfl ?_
  intro p e s m args below meth c s₁ B hml hv
  obtain ⟨rfl, hsz, hP, hK, hD0, hE⟩ := hv
  have hx := B.exec
  have hb := B.bytes
  have hr := B.returns
  have hts := atoms_spec (ws := .code yX11_knowing cX11_knowing 4 (some .int) :: wsA) B.pre
  have hq : ∀ w ∈ wsA, w.before _ s = true := fun w h => hts w (List.mem_cons_of_mem _ h)
  have hown : s.vm.findClass RX11 = some m.cls := findClass_of_methodNamed B.named
  have hlocks := B.notSynchronized
  subst hsz
  have hD := hD0.self (sz := s.heap.size)
  generalize hAe : va_A [(h0, .inr (11, [.ref s0, .int 0, .ref s2, .ref s3, .ref s4, .int 0, .int (-1), .ref s7, .ref s8, .ref s9, .ref s10, .ref s11, .ref s12, .ref s13, .ref s14, .ref s15, .ref s16, .ref s17, .int 0])), (s7, .inr (1, [.int 0, .int 0, .int 0, .ref t3, .ref t4, .ref t5, .ref t6]))] s.heap.size = A at hD ⊢
  have hA : ∀ q : Nat, s.heap.size ≤ q → A q := fun q h => by rw [← hAe]; exact Or.inr h
  have hS : va_S A s.heap s.heap [] := va_S.rf
  have hl := lv_entry ([.ref h0, .int x0]) (n := 4) (Nat.le_of_ble_eq_true rfl)
  rw [lg_entry_eq]
  generalize (lg_sl ([.ref h0, .int x0]) ++ List.replicate (4 - (lg_sl ([.ref h0, .int x0])).length) Slot.unset).toArray = ls at hl ⊢
  have hl : lv_has ls 4 [(0, .ref h0), (1, .int x0)] := hl
  refine lv_aload_n hx hb dX11_knowing_0 rfl (lv_at hl 0 rfl) ?_
  have hPc := hP.sub (ws' := [(h0, .inr (11, [.ref s0, .int 0, .ref s2, .ref s3, .ref s4, .int 0, .int (-1), .ref s7, .ref s8, .ref s9, .ref s10, .ref s11, .ref s12, .ref s13, .ref s14, .ref s15, .ref s16, .ref s17, .int 0])), (s7, .inr (1, [.int 0, .int 0, .int 0, .ref t3, .ref t4, .ref t5, .ref t6]))]) [0, 1] rfl
  have hDc := hD.sub (ws' := [(h0, .inr (11, [.ref s0, .int 0, .ref s2, .ref s3, .ref s4, .int 0, .int (-1), .ref s7, .ref s8, .ref s9, .ref s10, .ref s11, .ref s12, .ref s13, .ref s14, .ref s15, .ref s16, .ref s17, .int 0])), (s7, .inr (1, [.int 0, .int 0, .int 0, .ref t3, .ref t4, .ref t5, .ref t6]))]) [0, 1] (by decide) rfl
  have hKc := hK.sub (tys' := []) [] rfl
  have hFc := va_free (wc := [(h0, .inr (11, [.ref s0, .int 0, .ref s2, .ref s3, .ref s4, .int 0, .int (-1), .ref s7, .ref s8, .ref s9, .ref s10, .ref s11, .ref s12, .ref s13, .ref s14, .ref s15, .ref s16, .ref s17, .int 0])), (s7, .inr (1, [.int 0, .int 0, .int 0, .ref t3, .ref t4, .ref t5, .ref t6]))]) hD hS hA [0, 1] rfl
  refine va_calli (va_runV (As := []) (rest := []) ⟨hx, hb, hml, hown, hq⟩ (c_SB_untold l dC dI _ h0 s0 s2 s3 s4 s7 s8 s9 s10 s11 s12 s13 s14 s15 s16 s17 t3 t4 t5 t6 ) (cwV 0 hq (gV qw_778 qw_780 qw_14 qw_119 qw_781) rfl rfl rfl (by decide +kernel) ⟨Nat.le_of_ble_eq_true rfl, Nat.le_of_ble_eq_true rfl⟩) ⟨fun a U g mk q => by obtain ⟨q0, q1, qP, qK, qD, qE⟩ := q; exact ⟨q0, q1, qP, va_K.moved (u := U) (U := U.calling g mk a) (Vm.Alike.refl U.vm) qK, qD, xE.same rfl qE⟩, va_recv hKc hPc (ci := 11) (q0 := 0) rfl rfl, fun U hU hW => ⟨rfl, by rw [hU], by rw [hU]; exact hPc, va_K.moved hW.alike hKc, hDc.weaken (fun _ _ _ _ => trivial), xE.warm hW hE⟩⟩ rfl rfl hl.1 rfl (lv_room (Nat.le_of_ble_eq_true rfl)) dX11_knowing_1 ⟨Nat.le_of_ble_eq_true rfl, Nat.le_of_ble_eq_true rfl⟩) hS (fun q _ h => hFc q h) hFc (fun r_1 u t H1 locs ht hvm hw hB hz1 hk1 hS => ?_)
  obtain ⟨hP1, hK1, hD1⟩ := hB
  rw [ht] at hP1
  have hK1 := va_K.moved hvm.symm hK1
  obtain ⟨hP, hD⟩ := va_join (wr := []) (w1 := [(h0, .inr (11, [.ref s0, .int 0, .ref s2, .ref s3, .ref s4, .int 0, .int (-1), .ref s7, .ref s8, .ref s9, .ref s10, .ref s11, .ref s12, .ref s13, .ref s14, .ref s15, .ref s16, .ref s17, .int 0])), (s7, .inr (1, [.int 0, .int 0, .int 0, .ref t3, .ref t4, .ref t5, .ref t6]))]) hP hD [0, 1] [] rfl rfl (by decide) (by decide) hk1 hFc hP1 hD1
  generalize H1 = H at hP hS ⊢
  have hP : va_P (dC, dI) classes [(h0, .inr (11, [.ref s0, .int 0, .ref s2, .ref s3, .ref s4, .int 0, .int (-1), .ref s7, .ref s8, .ref s9, .ref s10, .ref s11, .ref s12, .ref s13, .ref s14, .ref s15, .ref s16, .ref s17, .int 0])), (s7, .inr (1, [.int 0, .int 0, .int 0, .ref t3, .ref t4, .ref t5, .ref t6]))] H := hP
  have hD : va_D A [(h0, .inr (11, [.ref s0, .int 0, .ref s2, .ref s3, .ref s4, .int 0, .int (-1), .ref s7, .ref s8, .ref s9, .ref s10, .ref s11, .ref s12, .ref s13, .ref s14, .ref s15, .ref s16, .ref s17, .int 0])), (s7, .inr (1, [.int 0, .int 0, .int 0, .ref t3, .ref t4, .ref t5, .ref t6]))] := hD
  obtain rfl : r_1 = 1 := hw
  refine lv_if_ne (tgt := 14) hx hb dX11_knowing_4 (by decide) (fun _ => ?_) (fun c9 => absurd c9 (by decide))
  refine lv_iconst (v := (-1)) hx hb dX11_knowing_14 (by decide) ?_
  refine W.widen (k := 0) (n := 0) (Nat.le_of_ble_eq_true rfl) (Nat.le_of_ble_eq_true rfl) ?_
  exact W.iret (v := (-1)) hx hb hr (fun t ht hW => ⟨⟨(-1), (), rfl, rfl, trivial⟩, hS.F ht⟩) hS.2.2 dX11_knowing_15

set_option maxHeartbeats 4000000 in
set_option maxRecDepth 100000 in
/-- c_SB_rows -/
theorem c_SB_rows (l : Launch) (dC : Nat → ClassId) (dI : Nat → Nat → Nat) (sz : Nat) (h0 : Nat) (s0 : Nat) (s2 : Nat) (s3 : Nat) (s4 : Nat) (s7 : Nat) (s8 : Nat) (s9 : Nat) (s10 : Nat) (s11 : Nat) (s12 : Nat) (s13 : Nat) (s14 : Nat) (s15 : Nat) (s16 : Nat) (s17 : Nat) (t3 : Nat) (t4 : Nat) (t5 : Nat) (t6 : Nat) (x0 : Int32) : Met l yX11_rows (.code yX11_rows cX11_rows 2 (some .int) :: wsA) ({ frames := 1, cells := 0, slots := 0, locals := 20 }) (va_Pc [.ref h0, .int x0] (fun U => U.heap.size = sz ∧ va_P (dC, dI) classes [(h0, .inr (11, [.ref s0, .int 0, .ref s2, .ref s3, .ref s4, .int 0, .int (-1), .ref s7, .ref s8, .ref s9, .ref s10, .ref s11, .ref s12, .ref s13, .ref s14, .ref s15, .ref s16, .ref s17, .int 0])), (s7, .inr (1, [.int 0, .int 0, .int 0, .ref t3, .ref t4, .ref t5, .ref t6]))] U.heap ∧ va_K (dC, dI) classes [] U ∧ va_D (fun _ => True) [(h0, .inr (11, [.ref s0, .int 0, .ref s2, .ref s3, .ref s4, .int 0, .int (-1), .ref s7, .ref s8, .ref s9, .ref s10, .ref s11, .ref s12, .ref s13, .ref s14, .ref s15, .ref s16, .ref s17, .int 0])), (s7, .inr (1, [.int 0, .int 0, .int 0, .ref t3, .ref t4, .ref t5, .ref t6]))] ∧ xE U)) (va_Qi (fun (r : Int32) (_ : Unit) => r = (-1)) (fun _ _ => True) (va_A [(h0, .inr (11, [.ref s0, .int 0, .ref s2, .ref s3, .ref s4, .int 0, .int (-1), .ref s7, .ref s8, .ref s9, .ref s10, .ref s11, .ref s12, .ref s13, .ref s14, .ref s15, .ref s16, .ref s17, .int 0])), (s7, .inr (1, [.int 0, .int 0, .int 0, .ref t3, .ref t4, .ref t5, .ref t6]))] sz)) 0 0 (va_A [(h0, .inr (11, [.ref s0, .int 0, .ref s2, .ref s3, .ref s4, .int 0, .int (-1), .ref s7, .ref s8, .ref s9, .ref s10, .ref s11, .ref s12, .ref s13, .ref s14, .ref s15, .ref s16, .ref s17, .int 0])), (s7, .inr (1, [.int 0, .int 0, .int 0, .ref t3, .ref t4, .ref t5, .ref t6]))] sz) := by
  refine Met.ofW (cc := cX11_rows) (maxL := 2) (ret := (some .int)) (by decide) rfl ?_
  intro p e s m args below meth c s₁ B hml hv
  obtain ⟨rfl, hsz, hP, hK, hD0, hE⟩ := hv
  have hx := B.exec
  have hb := B.bytes
  have hr := B.returns
  have hts := atoms_spec (ws := .code yX11_rows cX11_rows 2 (some .int) :: wsA) B.pre
  have hq : ∀ w ∈ wsA, w.before _ s = true := fun w h => hts w (List.mem_cons_of_mem _ h)
  have hown : s.vm.findClass RX11 = some m.cls := findClass_of_methodNamed B.named
  have hlocks := B.notSynchronized
  subst hsz
  have hD := hD0.self (sz := s.heap.size)
  generalize hAe : va_A [(h0, .inr (11, [.ref s0, .int 0, .ref s2, .ref s3, .ref s4, .int 0, .int (-1), .ref s7, .ref s8, .ref s9, .ref s10, .ref s11, .ref s12, .ref s13, .ref s14, .ref s15, .ref s16, .ref s17, .int 0])), (s7, .inr (1, [.int 0, .int 0, .int 0, .ref t3, .ref t4, .ref t5, .ref t6]))] s.heap.size = A at hD ⊢
  have hA : ∀ q : Nat, s.heap.size ≤ q → A q := fun q h => by rw [← hAe]; exact Or.inr h
  have hS : va_S A s.heap s.heap [] := va_S.rf
  have hl := lv_entry ([.ref h0, .int x0]) (n := 2) (Nat.le_of_ble_eq_true rfl)
  rw [lg_entry_eq]
  generalize (lg_sl ([.ref h0, .int x0]) ++ List.replicate (2 - (lg_sl ([.ref h0, .int x0])).length) Slot.unset).toArray = ls at hl ⊢
  have hl : lv_has ls 2 [(0, .ref h0), (1, .int x0)] := hl
  refine lv_aload_n hx hb dX11_rows_0 rfl (lv_at hl 0 rfl) ?_
  have hPc := hP.sub (ws' := [(h0, .inr (11, [.ref s0, .int 0, .ref s2, .ref s3, .ref s4, .int 0, .int (-1), .ref s7, .ref s8, .ref s9, .ref s10, .ref s11, .ref s12, .ref s13, .ref s14, .ref s15, .ref s16, .ref s17, .int 0])), (s7, .inr (1, [.int 0, .int 0, .int 0, .ref t3, .ref t4, .ref t5, .ref t6]))]) [0, 1] rfl
  have hDc := hD.sub (ws' := [(h0, .inr (11, [.ref s0, .int 0, .ref s2, .ref s3, .ref s4, .int 0, .int (-1), .ref s7, .ref s8, .ref s9, .ref s10, .ref s11, .ref s12, .ref s13, .ref s14, .ref s15, .ref s16, .ref s17, .int 0])), (s7, .inr (1, [.int 0, .int 0, .int 0, .ref t3, .ref t4, .ref t5, .ref t6]))]) [0, 1] (by decide) rfl
  have hKc := hK.sub (tys' := []) [] rfl
  have hFc := va_free (wc := [(h0, .inr (11, [.ref s0, .int 0, .ref s2, .ref s3, .ref s4, .int 0, .int (-1), .ref s7, .ref s8, .ref s9, .ref s10, .ref s11, .ref s12, .ref s13, .ref s14, .ref s15, .ref s16, .ref s17, .int 0])), (s7, .inr (1, [.int 0, .int 0, .int 0, .ref t3, .ref t4, .ref t5, .ref t6]))]) hD hS hA [0, 1] rfl
  refine va_calli (va_runV (As := []) (rest := []) ⟨hx, hb, hml, hown, hq⟩ (c_SB_untold l dC dI _ h0 s0 s2 s3 s4 s7 s8 s9 s10 s11 s12 s13 s14 s15 s16 s17 t3 t4 t5 t6 ) (cwV 0 hq (gV qw_778 qw_780 qw_14 qw_119 qw_781) rfl rfl rfl (by decide +kernel) ⟨Nat.le_of_ble_eq_true rfl, Nat.le_of_ble_eq_true rfl⟩) ⟨fun a U g mk q => by obtain ⟨q0, q1, qP, qK, qD, qE⟩ := q; exact ⟨q0, q1, qP, va_K.moved (u := U) (U := U.calling g mk a) (Vm.Alike.refl U.vm) qK, qD, xE.same rfl qE⟩, va_recv hKc hPc (ci := 11) (q0 := 0) rfl rfl, fun U hU hW => ⟨rfl, by rw [hU], by rw [hU]; exact hPc, va_K.moved hW.alike hKc, hDc.weaken (fun _ _ _ _ => trivial), xE.warm hW hE⟩⟩ rfl rfl hl.1 rfl (lv_room (Nat.le_of_ble_eq_true rfl)) dX11_rows_1 ⟨Nat.le_of_ble_eq_true rfl, Nat.le_of_ble_eq_true rfl⟩) hS (fun q _ h => hFc q h) hFc (fun r_1 u t H1 locs ht hvm hw hB hz1 hk1 hS => ?_)
  obtain ⟨hP1, hK1, hD1⟩ := hB
  rw [ht] at hP1
  have hK1 := va_K.moved hvm.symm hK1
  obtain ⟨hP, hD⟩ := va_join (wr := []) (w1 := [(h0, .inr (11, [.ref s0, .int 0, .ref s2, .ref s3, .ref s4, .int 0, .int (-1), .ref s7, .ref s8, .ref s9, .ref s10, .ref s11, .ref s12, .ref s13, .ref s14, .ref s15, .ref s16, .ref s17, .int 0])), (s7, .inr (1, [.int 0, .int 0, .int 0, .ref t3, .ref t4, .ref t5, .ref t6]))]) hP hD [0, 1] [] rfl rfl (by decide) (by decide) hk1 hFc hP1 hD1
  generalize H1 = H at hP hS ⊢
  have hP : va_P (dC, dI) classes [(h0, .inr (11, [.ref s0, .int 0, .ref s2, .ref s3, .ref s4, .int 0, .int (-1), .ref s7, .ref s8, .ref s9, .ref s10, .ref s11, .ref s12, .ref s13, .ref s14, .ref s15, .ref s16, .ref s17, .int 0])), (s7, .inr (1, [.int 0, .int 0, .int 0, .ref t3, .ref t4, .ref t5, .ref t6]))] H := hP
  have hD : va_D A [(h0, .inr (11, [.ref s0, .int 0, .ref s2, .ref s3, .ref s4, .int 0, .int (-1), .ref s7, .ref s8, .ref s9, .ref s10, .ref s11, .ref s12, .ref s13, .ref s14, .ref s15, .ref s16, .ref s17, .int 0])), (s7, .inr (1, [.int 0, .int 0, .int 0, .ref t3, .ref t4, .ref t5, .ref t6]))] := hD
  obtain rfl : r_1 = 1 := hw
  refine lv_if_ne (tgt := 16) hx hb dX11_rows_4 (by decide) (fun _ => ?_) (fun c9 => absurd c9 (by decide))
  refine lv_iconst (v := (-1)) hx hb dX11_rows_16 (by decide) ?_
  refine W.widen (k := 0) (n := 0) (Nat.le_of_ble_eq_true rfl) (Nat.le_of_ble_eq_true rfl) ?_
  exact W.iret (v := (-1)) hx hb hr (fun t ht hW => ⟨⟨(-1), (), rfl, rfl, trivial⟩, hS.F ht⟩) hS.2.2 dX11_rows_17

set_option maxHeartbeats 4000000 in
set_option maxRecDepth 100000 in
/-- c_SB_believed -/
theorem c_SB_believed (l : Launch) (dC : Nat → ClassId) (dI : Nat → Nat → Nat) (sz : Nat) (h0 : Nat) (s0 : Nat) (s2 : Nat) (s3 : Nat) (s4 : Nat) (s7 : Nat) (s8 : Nat) (s9 : Nat) (s10 : Nat) (s11 : Nat) (s12 : Nat) (s13 : Nat) (s14 : Nat) (s15 : Nat) (s16 : Nat) (s17 : Nat) (t3 : Nat) (t4 : Nat) (t5 : Nat) (t6 : Nat) (x0 : Int32) : Met l yX11_believed (.code yX11_believed cX11_believed 6 (some .int) :: wsA) ({ frames := 1, cells := 0, slots := 0, locals := 20 }) (va_Pc [.ref h0, .int x0] (fun U => U.heap.size = sz ∧ va_P (dC, dI) classes [(h0, .inr (11, [.ref s0, .int 0, .ref s2, .ref s3, .ref s4, .int 0, .int (-1), .ref s7, .ref s8, .ref s9, .ref s10, .ref s11, .ref s12, .ref s13, .ref s14, .ref s15, .ref s16, .ref s17, .int 0])), (s7, .inr (1, [.int 0, .int 0, .int 0, .ref t3, .ref t4, .ref t5, .ref t6]))] U.heap ∧ va_K (dC, dI) classes [] U ∧ va_D (fun _ => True) [(h0, .inr (11, [.ref s0, .int 0, .ref s2, .ref s3, .ref s4, .int 0, .int (-1), .ref s7, .ref s8, .ref s9, .ref s10, .ref s11, .ref s12, .ref s13, .ref s14, .ref s15, .ref s16, .ref s17, .int 0])), (s7, .inr (1, [.int 0, .int 0, .int 0, .ref t3, .ref t4, .ref t5, .ref t6]))] ∧ xE U)) (va_Qi (fun (r : Int32) (_ : Unit) => r = (-1)) (fun _ _ => True) (va_A [(h0, .inr (11, [.ref s0, .int 0, .ref s2, .ref s3, .ref s4, .int 0, .int (-1), .ref s7, .ref s8, .ref s9, .ref s10, .ref s11, .ref s12, .ref s13, .ref s14, .ref s15, .ref s16, .ref s17, .int 0])), (s7, .inr (1, [.int 0, .int 0, .int 0, .ref t3, .ref t4, .ref t5, .ref t6]))] sz)) 0 0 (va_A [(h0, .inr (11, [.ref s0, .int 0, .ref s2, .ref s3, .ref s4, .int 0, .int (-1), .ref s7, .ref s8, .ref s9, .ref s10, .ref s11, .ref s12, .ref s13, .ref s14, .ref s15, .ref s16, .ref s17, .int 0])), (s7, .inr (1, [.int 0, .int 0, .int 0, .ref t3, .ref t4, .ref t5, .ref t6]))] sz) := by
  refine Met.ofW (cc := cX11_believed) (maxL := 6) (ret := (some .int)) (by decide) rfl ?_
  intro p e s m args below meth c s₁ B hml hv
  obtain ⟨rfl, hsz, hP, hK, hD0, hE⟩ := hv
  have hx := B.exec
  have hb := B.bytes
  have hr := B.returns
  have hts := atoms_spec (ws := .code yX11_believed cX11_believed 6 (some .int) :: wsA) B.pre
  have hq : ∀ w ∈ wsA, w.before _ s = true := fun w h => hts w (List.mem_cons_of_mem _ h)
  have hown : s.vm.findClass RX11 = some m.cls := findClass_of_methodNamed B.named
  have hlocks := B.notSynchronized
  subst hsz
  have hD := hD0.self (sz := s.heap.size)
  generalize hAe : va_A [(h0, .inr (11, [.ref s0, .int 0, .ref s2, .ref s3, .ref s4, .int 0, .int (-1), .ref s7, .ref s8, .ref s9, .ref s10, .ref s11, .ref s12, .ref s13, .ref s14, .ref s15, .ref s16, .ref s17, .int 0])), (s7, .inr (1, [.int 0, .int 0, .int 0, .ref t3, .ref t4, .ref t5, .ref t6]))] s.heap.size = A at hD ⊢
  have hA : ∀ q : Nat, s.heap.size ≤ q → A q := fun q h => by rw [← hAe]; exact Or.inr h
  have hS : va_S A s.heap s.heap [] := va_S.rf
  have hl := lv_entry ([.ref h0, .int x0]) (n := 6) (Nat.le_of_ble_eq_true rfl)
  rw [lg_entry_eq]
  generalize (lg_sl ([.ref h0, .int x0]) ++ List.replicate (6 - (lg_sl ([.ref h0, .int x0])).length) Slot.unset).toArray = ls at hl ⊢
  have hl : lv_has ls 6 [(0, .ref h0), (1, .int x0)] := hl
  refine lv_aload_n hx hb dX11_believed_0 rfl (lv_at hl 0 rfl) ?_
  have hPc := hP.sub (ws' := [(h0, .inr (11, [.ref s0, .int 0, .ref s2, .ref s3, .ref s4, .int 0, .int (-1), .ref s7, .ref s8, .ref s9, .ref s10, .ref s11, .ref s12, .ref s13, .ref s14, .ref s15, .ref s16, .ref s17, .int 0])), (s7, .inr (1, [.int 0, .int 0, .int 0, .ref t3, .ref t4, .ref t5, .ref t6]))]) [0, 1] rfl
  have hDc := hD.sub (ws' := [(h0, .inr (11, [.ref s0, .int 0, .ref s2, .ref s3, .ref s4, .int 0, .int (-1), .ref s7, .ref s8, .ref s9, .ref s10, .ref s11, .ref s12, .ref s13, .ref s14, .ref s15, .ref s16, .ref s17, .int 0])), (s7, .inr (1, [.int 0, .int 0, .int 0, .ref t3, .ref t4, .ref t5, .ref t6]))]) [0, 1] (by decide) rfl
  have hKc := hK.sub (tys' := []) [] rfl
  have hFc := va_free (wc := [(h0, .inr (11, [.ref s0, .int 0, .ref s2, .ref s3, .ref s4, .int 0, .int (-1), .ref s7, .ref s8, .ref s9, .ref s10, .ref s11, .ref s12, .ref s13, .ref s14, .ref s15, .ref s16, .ref s17, .int 0])), (s7, .inr (1, [.int 0, .int 0, .int 0, .ref t3, .ref t4, .ref t5, .ref t6]))]) hD hS hA [0, 1] rfl
  refine va_calli (va_runV (As := []) (rest := []) ⟨hx, hb, hml, hown, hq⟩ (c_SB_untold l dC dI _ h0 s0 s2 s3 s4 s7 s8 s9 s10 s11 s12 s13 s14 s15 s16 s17 t3 t4 t5 t6 ) (cwV 0 hq (gV qw_778 qw_780 qw_14 qw_119 qw_781) rfl rfl rfl (by decide +kernel) ⟨Nat.le_of_ble_eq_true rfl, Nat.le_of_ble_eq_true rfl⟩) ⟨fun a U g mk q => by obtain ⟨q0, q1, qP, qK, qD, qE⟩ := q; exact ⟨q0, q1, qP, va_K.moved (u := U) (U := U.calling g mk a) (Vm.Alike.refl U.vm) qK, qD, xE.same rfl qE⟩, va_recv hKc hPc (ci := 11) (q0 := 0) rfl rfl, fun U hU hW => ⟨rfl, by rw [hU], by rw [hU]; exact hPc, va_K.moved hW.alike hKc, hDc.weaken (fun _ _ _ _ => trivial), xE.warm hW hE⟩⟩ rfl rfl hl.1 rfl (lv_room (Nat.le_of_ble_eq_true rfl)) dX11_believed_1 ⟨Nat.le_of_ble_eq_true rfl, Nat.le_of_ble_eq_true rfl⟩) hS (fun q _ h => hFc q h) hFc (fun r_1 u t H1 locs ht hvm hw hB hz1 hk1 hS => ?_)
  obtain ⟨hP1, hK1, hD1⟩ := hB
  rw [ht] at hP1
  have hK1 := va_K.moved hvm.symm hK1
  obtain ⟨hP, hD⟩ := va_join (wr := []) (w1 := [(h0, .inr (11, [.ref s0, .int 0, .ref s2, .ref s3, .ref s4, .int 0, .int (-1), .ref s7, .ref s8, .ref s9, .ref s10, .ref s11, .ref s12, .ref s13, .ref s14, .ref s15, .ref s16, .ref s17, .int 0])), (s7, .inr (1, [.int 0, .int 0, .int 0, .ref t3, .ref t4, .ref t5, .ref t6]))]) hP hD [0, 1] [] rfl rfl (by decide) (by decide) hk1 hFc hP1 hD1
  generalize H1 = H at hP hS ⊢
  have hP : va_P (dC, dI) classes [(h0, .inr (11, [.ref s0, .int 0, .ref s2, .ref s3, .ref s4, .int 0, .int (-1), .ref s7, .ref s8, .ref s9, .ref s10, .ref s11, .ref s12, .ref s13, .ref s14, .ref s15, .ref s16, .ref s17, .int 0])), (s7, .inr (1, [.int 0, .int 0, .int 0, .ref t3, .ref t4, .ref t5, .ref t6]))] H := hP
  have hD : va_D A [(h0, .inr (11, [.ref s0, .int 0, .ref s2, .ref s3, .ref s4, .int 0, .int (-1), .ref s7, .ref s8, .ref s9, .ref s10, .ref s11, .ref s12, .ref s13, .ref s14, .ref s15, .ref s16, .ref s17, .int 0])), (s7, .inr (1, [.int 0, .int 0, .int 0, .ref t3, .ref t4, .ref t5, .ref t6]))] := hD
  obtain rfl : r_1 = 1 := hw
  refine lv_if_ne (tgt := 16) hx hb dX11_believed_4 (by decide) (fun _ => ?_) (fun c9 => absurd c9 (by decide))
  refine lv_iconst (v := (-1)) hx hb dX11_believed_16 (by decide) ?_
  refine W.widen (k := 0) (n := 0) (Nat.le_of_ble_eq_true rfl) (Nat.le_of_ble_eq_true rfl) ?_
  exact W.iret (v := (-1)) hx hb hr (fun t ht hW => ⟨⟨(-1), (), rfl, rfl, trivial⟩, hS.F ht⟩) hS.2.2 dX11_believed_17

set_option maxHeartbeats 4000000 in
set_option maxRecDepth 100000 in
/-- c_SB_dropped -/
theorem c_SB_dropped (l : Launch) (dC : Nat → ClassId) (dI : Nat → Nat → Nat) (sz : Nat) (h0 : Nat) (s0 : Nat) (s2 : Nat) (s3 : Nat) (s4 : Nat) (s7 : Nat) (s8 : Nat) (s9 : Nat) (s10 : Nat) (s11 : Nat) (s12 : Nat) (s13 : Nat) (s14 : Nat) (s15 : Nat) (s16 : Nat) (s17 : Nat) (t3 : Nat) (t4 : Nat) (t5 : Nat) (t6 : Nat) (x0 : Int32) : Met l yX11_dropped (.code yX11_dropped cX11_dropped 6 (some .int) :: wsA) ({ frames := 1, cells := 0, slots := 0, locals := 20 }) (va_Pc [.ref h0, .int x0] (fun U => U.heap.size = sz ∧ va_P (dC, dI) classes [(h0, .inr (11, [.ref s0, .int 0, .ref s2, .ref s3, .ref s4, .int 0, .int (-1), .ref s7, .ref s8, .ref s9, .ref s10, .ref s11, .ref s12, .ref s13, .ref s14, .ref s15, .ref s16, .ref s17, .int 0])), (s7, .inr (1, [.int 0, .int 0, .int 0, .ref t3, .ref t4, .ref t5, .ref t6]))] U.heap ∧ va_K (dC, dI) classes [] U ∧ va_D (fun _ => True) [(h0, .inr (11, [.ref s0, .int 0, .ref s2, .ref s3, .ref s4, .int 0, .int (-1), .ref s7, .ref s8, .ref s9, .ref s10, .ref s11, .ref s12, .ref s13, .ref s14, .ref s15, .ref s16, .ref s17, .int 0])), (s7, .inr (1, [.int 0, .int 0, .int 0, .ref t3, .ref t4, .ref t5, .ref t6]))] ∧ xE U)) (va_Qi (fun (r : Int32) (_ : Unit) => r = (-1)) (fun _ _ => True) (va_A [(h0, .inr (11, [.ref s0, .int 0, .ref s2, .ref s3, .ref s4, .int 0, .int (-1), .ref s7, .ref s8, .ref s9, .ref s10, .ref s11, .ref s12, .ref s13, .ref s14, .ref s15, .ref s16, .ref s17, .int 0])), (s7, .inr (1, [.int 0, .int 0, .int 0, .ref t3, .ref t4, .ref t5, .ref t6]))] sz)) 0 0 (va_A [(h0, .inr (11, [.ref s0, .int 0, .ref s2, .ref s3, .ref s4, .int 0, .int (-1), .ref s7, .ref s8, .ref s9, .ref s10, .ref s11, .ref s12, .ref s13, .ref s14, .ref s15, .ref s16, .ref s17, .int 0])), (s7, .inr (1, [.int 0, .int 0, .int 0, .ref t3, .ref t4, .ref t5, .ref t6]))] sz) := by
  refine Met.ofW (cc := cX11_dropped) (maxL := 6) (ret := (some .int)) (by decide) rfl ?_
  intro p e s m args below meth c s₁ B hml hv
  obtain ⟨rfl, hsz, hP, hK, hD0, hE⟩ := hv
  have hx := B.exec
  have hb := B.bytes
  have hr := B.returns
  have hts := atoms_spec (ws := .code yX11_dropped cX11_dropped 6 (some .int) :: wsA) B.pre
  have hq : ∀ w ∈ wsA, w.before _ s = true := fun w h => hts w (List.mem_cons_of_mem _ h)
  have hown : s.vm.findClass RX11 = some m.cls := findClass_of_methodNamed B.named
  have hlocks := B.notSynchronized
  subst hsz
  have hD := hD0.self (sz := s.heap.size)
  generalize hAe : va_A [(h0, .inr (11, [.ref s0, .int 0, .ref s2, .ref s3, .ref s4, .int 0, .int (-1), .ref s7, .ref s8, .ref s9, .ref s10, .ref s11, .ref s12, .ref s13, .ref s14, .ref s15, .ref s16, .ref s17, .int 0])), (s7, .inr (1, [.int 0, .int 0, .int 0, .ref t3, .ref t4, .ref t5, .ref t6]))] s.heap.size = A at hD ⊢
  have hA : ∀ q : Nat, s.heap.size ≤ q → A q := fun q h => by rw [← hAe]; exact Or.inr h
  have hS : va_S A s.heap s.heap [] := va_S.rf
  have hl := lv_entry ([.ref h0, .int x0]) (n := 6) (Nat.le_of_ble_eq_true rfl)
  rw [lg_entry_eq]
  generalize (lg_sl ([.ref h0, .int x0]) ++ List.replicate (6 - (lg_sl ([.ref h0, .int x0])).length) Slot.unset).toArray = ls at hl ⊢
  have hl : lv_has ls 6 [(0, .ref h0), (1, .int x0)] := hl
  refine lv_aload_n hx hb dX11_dropped_0 rfl (lv_at hl 0 rfl) ?_
  have hPc := hP.sub (ws' := [(h0, .inr (11, [.ref s0, .int 0, .ref s2, .ref s3, .ref s4, .int 0, .int (-1), .ref s7, .ref s8, .ref s9, .ref s10, .ref s11, .ref s12, .ref s13, .ref s14, .ref s15, .ref s16, .ref s17, .int 0])), (s7, .inr (1, [.int 0, .int 0, .int 0, .ref t3, .ref t4, .ref t5, .ref t6]))]) [0, 1] rfl
  have hDc := hD.sub (ws' := [(h0, .inr (11, [.ref s0, .int 0, .ref s2, .ref s3, .ref s4, .int 0, .int (-1), .ref s7, .ref s8, .ref s9, .ref s10, .ref s11, .ref s12, .ref s13, .ref s14, .ref s15, .ref s16, .ref s17, .int 0])), (s7, .inr (1, [.int 0, .int 0, .int 0, .ref t3, .ref t4, .ref t5, .ref t6]))]) [0, 1] (by decide) rfl
  have hKc := hK.sub (tys' := []) [] rfl
  have hFc := va_free (wc := [(h0, .inr (11, [.ref s0, .int 0, .ref s2, .ref s3, .ref s4, .int 0, .int (-1), .ref s7, .ref s8, .ref s9, .ref s10, .ref s11, .ref s12, .ref s13, .ref s14, .ref s15, .ref s16, .ref s17, .int 0])), (s7, .inr (1, [.int 0, .int 0, .int 0, .ref t3, .ref t4, .ref t5, .ref t6]))]) hD hS hA [0, 1] rfl
  refine va_calli (va_runV (As := []) (rest := []) ⟨hx, hb, hml, hown, hq⟩ (c_SB_untold l dC dI _ h0 s0 s2 s3 s4 s7 s8 s9 s10 s11 s12 s13 s14 s15 s16 s17 t3 t4 t5 t6 ) (cwV 0 hq (gV qw_778 qw_780 qw_14 qw_119 qw_781) rfl rfl rfl (by decide +kernel) ⟨Nat.le_of_ble_eq_true rfl, Nat.le_of_ble_eq_true rfl⟩) ⟨fun a U g mk q => by obtain ⟨q0, q1, qP, qK, qD, qE⟩ := q; exact ⟨q0, q1, qP, va_K.moved (u := U) (U := U.calling g mk a) (Vm.Alike.refl U.vm) qK, qD, xE.same rfl qE⟩, va_recv hKc hPc (ci := 11) (q0 := 0) rfl rfl, fun U hU hW => ⟨rfl, by rw [hU], by rw [hU]; exact hPc, va_K.moved hW.alike hKc, hDc.weaken (fun _ _ _ _ => trivial), xE.warm hW hE⟩⟩ rfl rfl hl.1 rfl (lv_room (Nat.le_of_ble_eq_true rfl)) dX11_dropped_1 ⟨Nat.le_of_ble_eq_true rfl, Nat.le_of_ble_eq_true rfl⟩) hS (fun q _ h => hFc q h) hFc (fun r_1 u t H1 locs ht hvm hw hB hz1 hk1 hS => ?_)
  obtain ⟨hP1, hK1, hD1⟩ := hB
  rw [ht] at hP1
  have hK1 := va_K.moved hvm.symm hK1
  obtain ⟨hP, hD⟩ := va_join (wr := []) (w1 := [(h0, .inr (11, [.ref s0, .int 0, .ref s2, .ref s3, .ref s4, .int 0, .int (-1), .ref s7, .ref s8, .ref s9, .ref s10, .ref s11, .ref s12, .ref s13, .ref s14, .ref s15, .ref s16, .ref s17, .int 0])), (s7, .inr (1, [.int 0, .int 0, .int 0, .ref t3, .ref t4, .ref t5, .ref t6]))]) hP hD [0, 1] [] rfl rfl (by decide) (by decide) hk1 hFc hP1 hD1
  generalize H1 = H at hP hS ⊢
  have hP : va_P (dC, dI) classes [(h0, .inr (11, [.ref s0, .int 0, .ref s2, .ref s3, .ref s4, .int 0, .int (-1), .ref s7, .ref s8, .ref s9, .ref s10, .ref s11, .ref s12, .ref s13, .ref s14, .ref s15, .ref s16, .ref s17, .int 0])), (s7, .inr (1, [.int 0, .int 0, .int 0, .ref t3, .ref t4, .ref t5, .ref t6]))] H := hP
  have hD : va_D A [(h0, .inr (11, [.ref s0, .int 0, .ref s2, .ref s3, .ref s4, .int 0, .int (-1), .ref s7, .ref s8, .ref s9, .ref s10, .ref s11, .ref s12, .ref s13, .ref s14, .ref s15, .ref s16, .ref s17, .int 0])), (s7, .inr (1, [.int 0, .int 0, .int 0, .ref t3, .ref t4, .ref t5, .ref t6]))] := hD
  obtain rfl : r_1 = 1 := hw
  refine lv_if_ne (tgt := 16) hx hb dX11_dropped_4 (by decide) (fun _ => ?_) (fun c9 => absurd c9 (by decide))
  refine lv_iconst (v := (-1)) hx hb dX11_dropped_16 (by decide) ?_
  refine W.widen (k := 0) (n := 0) (Nat.le_of_ble_eq_true rfl) (Nat.le_of_ble_eq_true rfl) ?_
  exact W.iret (v := (-1)) hx hb hr (fun t ht hW => ⟨⟨(-1), (), rfl, rfl, trivial⟩, hS.F ht⟩) hS.2.2 dX11_dropped_17

set_option maxHeartbeats 4000000 in
set_option maxRecDepth 100000 in
/-- c_SB_leftOut -/
theorem c_SB_leftOut (l : Launch) (dC : Nat → ClassId) (dI : Nat → Nat → Nat) (sz : Nat) (h0 : Nat) (s0 : Nat) (s2 : Nat) (s3 : Nat) (s4 : Nat) (s7 : Nat) (s8 : Nat) (s9 : Nat) (s10 : Nat) (s11 : Nat) (s12 : Nat) (s13 : Nat) (s14 : Nat) (s15 : Nat) (s16 : Nat) (s17 : Nat) (t3 : Nat) (t4 : Nat) (t5 : Nat) (t6 : Nat) (x0 : Int32) (x1 : Int32) : Met l yX11_leftOut (.code yX11_leftOut cX11_leftOut 9 (some .int) :: wsA) ({ frames := 1, cells := 0, slots := 0, locals := 20 }) (va_Pc [.ref h0, .int x0, .int x1] (fun U => U.heap.size = sz ∧ va_P (dC, dI) classes [(h0, .inr (11, [.ref s0, .int 0, .ref s2, .ref s3, .ref s4, .int 0, .int (-1), .ref s7, .ref s8, .ref s9, .ref s10, .ref s11, .ref s12, .ref s13, .ref s14, .ref s15, .ref s16, .ref s17, .int 0])), (s7, .inr (1, [.int 0, .int 0, .int 0, .ref t3, .ref t4, .ref t5, .ref t6]))] U.heap ∧ va_K (dC, dI) classes [] U ∧ va_D (fun _ => True) [(h0, .inr (11, [.ref s0, .int 0, .ref s2, .ref s3, .ref s4, .int 0, .int (-1), .ref s7, .ref s8, .ref s9, .ref s10, .ref s11, .ref s12, .ref s13, .ref s14, .ref s15, .ref s16, .ref s17, .int 0])), (s7, .inr (1, [.int 0, .int 0, .int 0, .ref t3, .ref t4, .ref t5, .ref t6]))] ∧ xE U)) (va_Qi (fun (r : Int32) (_ : Unit) => r = (-1)) (fun _ _ => True) (va_A [(h0, .inr (11, [.ref s0, .int 0, .ref s2, .ref s3, .ref s4, .int 0, .int (-1), .ref s7, .ref s8, .ref s9, .ref s10, .ref s11, .ref s12, .ref s13, .ref s14, .ref s15, .ref s16, .ref s17, .int 0])), (s7, .inr (1, [.int 0, .int 0, .int 0, .ref t3, .ref t4, .ref t5, .ref t6]))] sz)) 0 0 (va_A [(h0, .inr (11, [.ref s0, .int 0, .ref s2, .ref s3, .ref s4, .int 0, .int (-1), .ref s7, .ref s8, .ref s9, .ref s10, .ref s11, .ref s12, .ref s13, .ref s14, .ref s15, .ref s16, .ref s17, .int 0])), (s7, .inr (1, [.int 0, .int 0, .int 0, .ref t3, .ref t4, .ref t5, .ref t6]))] sz) := by
  refine Met.ofW (cc := cX11_leftOut) (maxL := 9) (ret := (some .int)) (by decide) rfl ?_
  intro p e s m args below meth c s₁ B hml hv
  obtain ⟨rfl, hsz, hP, hK, hD0, hE⟩ := hv
  have hx := B.exec
  have hb := B.bytes
  have hr := B.returns
  have hts := atoms_spec (ws := .code yX11_leftOut cX11_leftOut 9 (some .int) :: wsA) B.pre
  have hq : ∀ w ∈ wsA, w.before _ s = true := fun w h => hts w (List.mem_cons_of_mem _ h)
  have hown : s.vm.findClass RX11 = some m.cls := findClass_of_methodNamed B.named
  have hlocks := B.notSynchronized
  subst hsz
  have hD := hD0.self (sz := s.heap.size)
  generalize hAe : va_A [(h0, .inr (11, [.ref s0, .int 0, .ref s2, .ref s3, .ref s4, .int 0, .int (-1), .ref s7, .ref s8, .ref s9, .ref s10, .ref s11, .ref s12, .ref s13, .ref s14, .ref s15, .ref s16, .ref s17, .int 0])), (s7, .inr (1, [.int 0, .int 0, .int 0, .ref t3, .ref t4, .ref t5, .ref t6]))] s.heap.size = A at hD ⊢
  have hA : ∀ q : Nat, s.heap.size ≤ q → A q := fun q h => by rw [← hAe]; exact Or.inr h
  have hS : va_S A s.heap s.heap [] := va_S.rf
  have hl := lv_entry ([.ref h0, .int x0, .int x1]) (n := 9) (Nat.le_of_ble_eq_true rfl)
  rw [lg_entry_eq]
  generalize (lg_sl ([.ref h0, .int x0, .int x1]) ++ List.replicate (9 - (lg_sl ([.ref h0, .int x0, .int x1])).length) Slot.unset).toArray = ls at hl ⊢
  have hl : lv_has ls 9 [(0, .ref h0), (1, .int x0), (2, .int x1)] := hl
  refine lv_aload_n hx hb dX11_leftOut_0 rfl (lv_at hl 0 rfl) ?_
  have hPc := hP.sub (ws' := [(h0, .inr (11, [.ref s0, .int 0, .ref s2, .ref s3, .ref s4, .int 0, .int (-1), .ref s7, .ref s8, .ref s9, .ref s10, .ref s11, .ref s12, .ref s13, .ref s14, .ref s15, .ref s16, .ref s17, .int 0])), (s7, .inr (1, [.int 0, .int 0, .int 0, .ref t3, .ref t4, .ref t5, .ref t6]))]) [0, 1] rfl
  have hDc := hD.sub (ws' := [(h0, .inr (11, [.ref s0, .int 0, .ref s2, .ref s3, .ref s4, .int 0, .int (-1), .ref s7, .ref s8, .ref s9, .ref s10, .ref s11, .ref s12, .ref s13, .ref s14, .ref s15, .ref s16, .ref s17, .int 0])), (s7, .inr (1, [.int 0, .int 0, .int 0, .ref t3, .ref t4, .ref t5, .ref t6]))]) [0, 1] (by decide) rfl
  have hKc := hK.sub (tys' := []) [] rfl
  have hFc := va_free (wc := [(h0, .inr (11, [.ref s0, .int 0, .ref s2, .ref s3, .ref s4, .int 0, .int (-1), .ref s7, .ref s8, .ref s9, .ref s10, .ref s11, .ref s12, .ref s13, .ref s14, .ref s15, .ref s16, .ref s17, .int 0])), (s7, .inr (1, [.int 0, .int 0, .int 0, .ref t3, .ref t4, .ref t5, .ref t6]))]) hD hS hA [0, 1] rfl
  refine va_calli (va_runV (As := []) (rest := []) ⟨hx, hb, hml, hown, hq⟩ (c_SB_untold l dC dI _ h0 s0 s2 s3 s4 s7 s8 s9 s10 s11 s12 s13 s14 s15 s16 s17 t3 t4 t5 t6 ) (cwV 0 hq (gV qw_778 qw_780 qw_14 qw_119 qw_781) rfl rfl rfl (by decide +kernel) ⟨Nat.le_of_ble_eq_true rfl, Nat.le_of_ble_eq_true rfl⟩) ⟨fun a U g mk q => by obtain ⟨q0, q1, qP, qK, qD, qE⟩ := q; exact ⟨q0, q1, qP, va_K.moved (u := U) (U := U.calling g mk a) (Vm.Alike.refl U.vm) qK, qD, xE.same rfl qE⟩, va_recv hKc hPc (ci := 11) (q0 := 0) rfl rfl, fun U hU hW => ⟨rfl, by rw [hU], by rw [hU]; exact hPc, va_K.moved hW.alike hKc, hDc.weaken (fun _ _ _ _ => trivial), xE.warm hW hE⟩⟩ rfl rfl hl.1 rfl (lv_room (Nat.le_of_ble_eq_true rfl)) dX11_leftOut_1 ⟨Nat.le_of_ble_eq_true rfl, Nat.le_of_ble_eq_true rfl⟩) hS (fun q _ h => hFc q h) hFc (fun r_1 u t H1 locs ht hvm hw hB hz1 hk1 hS => ?_)
  obtain ⟨hP1, hK1, hD1⟩ := hB
  rw [ht] at hP1
  have hK1 := va_K.moved hvm.symm hK1
  obtain ⟨hP, hD⟩ := va_join (wr := []) (w1 := [(h0, .inr (11, [.ref s0, .int 0, .ref s2, .ref s3, .ref s4, .int 0, .int (-1), .ref s7, .ref s8, .ref s9, .ref s10, .ref s11, .ref s12, .ref s13, .ref s14, .ref s15, .ref s16, .ref s17, .int 0])), (s7, .inr (1, [.int 0, .int 0, .int 0, .ref t3, .ref t4, .ref t5, .ref t6]))]) hP hD [0, 1] [] rfl rfl (by decide) (by decide) hk1 hFc hP1 hD1
  generalize H1 = H at hP hS ⊢
  have hP : va_P (dC, dI) classes [(h0, .inr (11, [.ref s0, .int 0, .ref s2, .ref s3, .ref s4, .int 0, .int (-1), .ref s7, .ref s8, .ref s9, .ref s10, .ref s11, .ref s12, .ref s13, .ref s14, .ref s15, .ref s16, .ref s17, .int 0])), (s7, .inr (1, [.int 0, .int 0, .int 0, .ref t3, .ref t4, .ref t5, .ref t6]))] H := hP
  have hD : va_D A [(h0, .inr (11, [.ref s0, .int 0, .ref s2, .ref s3, .ref s4, .int 0, .int (-1), .ref s7, .ref s8, .ref s9, .ref s10, .ref s11, .ref s12, .ref s13, .ref s14, .ref s15, .ref s16, .ref s17, .int 0])), (s7, .inr (1, [.int 0, .int 0, .int 0, .ref t3, .ref t4, .ref t5, .ref t6]))] := hD
  obtain rfl : r_1 = 1 := hw
  refine lv_if_ne (tgt := 26) hx hb dX11_leftOut_4 (by decide) (fun _ => ?_) (fun c9 => absurd c9 (by decide))
  refine lv_iconst (v := (-1)) hx hb dX11_leftOut_26 (by decide) ?_
  refine W.widen (k := 0) (n := 0) (Nat.le_of_ble_eq_true rfl) (Nat.le_of_ble_eq_true rfl) ?_
  exact W.iret (v := (-1)) hx hb hr (fun t ht hW => ⟨⟨(-1), (), rfl, rfl, trivial⟩, hS.F ht⟩) hS.2.2 dX11_leftOut_27

set_option maxHeartbeats 4000000 in
set_option maxRecDepth 100000 in
/-- c_SB_loudest -/
theorem c_SB_loudest (l : Launch) (dC : Nat → ClassId) (dI : Nat → Nat → Nat) (sz : Nat) (h0 : Nat) (s0 : Nat) (s2 : Nat) (s3 : Nat) (s4 : Nat) (s7 : Nat) (s8 : Nat) (s9 : Nat) (s10 : Nat) (s11 : Nat) (s12 : Nat) (s13 : Nat) (s14 : Nat) (s15 : Nat) (s16 : Nat) (s17 : Nat) (t3 : Nat) (t4 : Nat) (t5 : Nat) (t6 : Nat) (x0 : Int32) (x1 : Int32) : Met l yX11_loudest (.code yX11_loudest cX11_loudest 6 (some .int) :: wsA) ({ frames := 1, cells := 0, slots := 0, locals := 20 }) (va_Pc [.ref h0, .int x0, .int x1] (fun U => U.heap.size = sz ∧ va_P (dC, dI) classes [(h0, .inr (11, [.ref s0, .int 0, .ref s2, .ref s3, .ref s4, .int 0, .int (-1), .ref s7, .ref s8, .ref s9, .ref s10, .ref s11, .ref s12, .ref s13, .ref s14, .ref s15, .ref s16, .ref s17, .int 0])), (s7, .inr (1, [.int 0, .int 0, .int 0, .ref t3, .ref t4, .ref t5, .ref t6]))] U.heap ∧ va_K (dC, dI) classes [] U ∧ va_D (fun _ => True) [(h0, .inr (11, [.ref s0, .int 0, .ref s2, .ref s3, .ref s4, .int 0, .int (-1), .ref s7, .ref s8, .ref s9, .ref s10, .ref s11, .ref s12, .ref s13, .ref s14, .ref s15, .ref s16, .ref s17, .int 0])), (s7, .inr (1, [.int 0, .int 0, .int 0, .ref t3, .ref t4, .ref t5, .ref t6]))] ∧ xE U)) (va_Qi (fun (r : Int32) (_ : Unit) => r = (-1)) (fun _ _ => True) (va_A [(h0, .inr (11, [.ref s0, .int 0, .ref s2, .ref s3, .ref s4, .int 0, .int (-1), .ref s7, .ref s8, .ref s9, .ref s10, .ref s11, .ref s12, .ref s13, .ref s14, .ref s15, .ref s16, .ref s17, .int 0])), (s7, .inr (1, [.int 0, .int 0, .int 0, .ref t3, .ref t4, .ref t5, .ref t6]))] sz)) 0 0 (va_A [(h0, .inr (11, [.ref s0, .int 0, .ref s2, .ref s3, .ref s4, .int 0, .int (-1), .ref s7, .ref s8, .ref s9, .ref s10, .ref s11, .ref s12, .ref s13, .ref s14, .ref s15, .ref s16, .ref s17, .int 0])), (s7, .inr (1, [.int 0, .int 0, .int 0, .ref t3, .ref t4, .ref t5, .ref t6]))] sz) := by
  refine Met.ofW (cc := cX11_loudest) (maxL := 6) (ret := (some .int)) (by decide) rfl ?_
  intro p e s m args below meth c s₁ B hml hv
  obtain ⟨rfl, hsz, hP, hK, hD0, hE⟩ := hv
  have hx := B.exec
  have hb := B.bytes
  have hr := B.returns
  have hts := atoms_spec (ws := .code yX11_loudest cX11_loudest 6 (some .int) :: wsA) B.pre
  have hq : ∀ w ∈ wsA, w.before _ s = true := fun w h => hts w (List.mem_cons_of_mem _ h)
  have hown : s.vm.findClass RX11 = some m.cls := findClass_of_methodNamed B.named
  have hlocks := B.notSynchronized
  subst hsz
  have hD := hD0.self (sz := s.heap.size)
  generalize hAe : va_A [(h0, .inr (11, [.ref s0, .int 0, .ref s2, .ref s3, .ref s4, .int 0, .int (-1), .ref s7, .ref s8, .ref s9, .ref s10, .ref s11, .ref s12, .ref s13, .ref s14, .ref s15, .ref s16, .ref s17, .int 0])), (s7, .inr (1, [.int 0, .int 0, .int 0, .ref t3, .ref t4, .ref t5, .ref t6]))] s.heap.size = A at hD ⊢
  have hA : ∀ q : Nat, s.heap.size ≤ q → A q := fun q h => by rw [← hAe]; exact Or.inr h
  have hS : va_S A s.heap s.heap [] := va_S.rf
  have hl := lv_entry ([.ref h0, .int x0, .int x1]) (n := 6) (Nat.le_of_ble_eq_true rfl)
  rw [lg_entry_eq]
  generalize (lg_sl ([.ref h0, .int x0, .int x1]) ++ List.replicate (6 - (lg_sl ([.ref h0, .int x0, .int x1])).length) Slot.unset).toArray = ls at hl ⊢
  have hl : lv_has ls 6 [(0, .ref h0), (1, .int x0), (2, .int x1)] := hl
  refine lv_aload_n hx hb dX11_loudest_0 rfl (lv_at hl 0 rfl) ?_
  have hPc := hP.sub (ws' := [(h0, .inr (11, [.ref s0, .int 0, .ref s2, .ref s3, .ref s4, .int 0, .int (-1), .ref s7, .ref s8, .ref s9, .ref s10, .ref s11, .ref s12, .ref s13, .ref s14, .ref s15, .ref s16, .ref s17, .int 0])), (s7, .inr (1, [.int 0, .int 0, .int 0, .ref t3, .ref t4, .ref t5, .ref t6]))]) [0, 1] rfl
  have hDc := hD.sub (ws' := [(h0, .inr (11, [.ref s0, .int 0, .ref s2, .ref s3, .ref s4, .int 0, .int (-1), .ref s7, .ref s8, .ref s9, .ref s10, .ref s11, .ref s12, .ref s13, .ref s14, .ref s15, .ref s16, .ref s17, .int 0])), (s7, .inr (1, [.int 0, .int 0, .int 0, .ref t3, .ref t4, .ref t5, .ref t6]))]) [0, 1] (by decide) rfl
  have hKc := hK.sub (tys' := []) [] rfl
  have hFc := va_free (wc := [(h0, .inr (11, [.ref s0, .int 0, .ref s2, .ref s3, .ref s4, .int 0, .int (-1), .ref s7, .ref s8, .ref s9, .ref s10, .ref s11, .ref s12, .ref s13, .ref s14, .ref s15, .ref s16, .ref s17, .int 0])), (s7, .inr (1, [.int 0, .int 0, .int 0, .ref t3, .ref t4, .ref t5, .ref t6]))]) hD hS hA [0, 1] rfl
  refine va_calli (va_runV (As := []) (rest := []) ⟨hx, hb, hml, hown, hq⟩ (c_SB_untold l dC dI _ h0 s0 s2 s3 s4 s7 s8 s9 s10 s11 s12 s13 s14 s15 s16 s17 t3 t4 t5 t6 ) (cwV 0 hq (gV qw_778 qw_780 qw_14 qw_119 qw_781) rfl rfl rfl (by decide +kernel) ⟨Nat.le_of_ble_eq_true rfl, Nat.le_of_ble_eq_true rfl⟩) ⟨fun a U g mk q => by obtain ⟨q0, q1, qP, qK, qD, qE⟩ := q; exact ⟨q0, q1, qP, va_K.moved (u := U) (U := U.calling g mk a) (Vm.Alike.refl U.vm) qK, qD, xE.same rfl qE⟩, va_recv hKc hPc (ci := 11) (q0 := 0) rfl rfl, fun U hU hW => ⟨rfl, by rw [hU], by rw [hU]; exact hPc, va_K.moved hW.alike hKc, hDc.weaken (fun _ _ _ _ => trivial), xE.warm hW hE⟩⟩ rfl rfl hl.1 rfl (lv_room (Nat.le_of_ble_eq_true rfl)) dX11_loudest_1 ⟨Nat.le_of_ble_eq_true rfl, Nat.le_of_ble_eq_true rfl⟩) hS (fun q _ h => hFc q h) hFc (fun r_1 u t H1 locs ht hvm hw hB hz1 hk1 hS => ?_)
  obtain ⟨hP1, hK1, hD1⟩ := hB
  rw [ht] at hP1
  have hK1 := va_K.moved hvm.symm hK1
  obtain ⟨hP, hD⟩ := va_join (wr := []) (w1 := [(h0, .inr (11, [.ref s0, .int 0, .ref s2, .ref s3, .ref s4, .int 0, .int (-1), .ref s7, .ref s8, .ref s9, .ref s10, .ref s11, .ref s12, .ref s13, .ref s14, .ref s15, .ref s16, .ref s17, .int 0])), (s7, .inr (1, [.int 0, .int 0, .int 0, .ref t3, .ref t4, .ref t5, .ref t6]))]) hP hD [0, 1] [] rfl rfl (by decide) (by decide) hk1 hFc hP1 hD1
  generalize H1 = H at hP hS ⊢
  have hP : va_P (dC, dI) classes [(h0, .inr (11, [.ref s0, .int 0, .ref s2, .ref s3, .ref s4, .int 0, .int (-1), .ref s7, .ref s8, .ref s9, .ref s10, .ref s11, .ref s12, .ref s13, .ref s14, .ref s15, .ref s16, .ref s17, .int 0])), (s7, .inr (1, [.int 0, .int 0, .int 0, .ref t3, .ref t4, .ref t5, .ref t6]))] H := hP
  have hD : va_D A [(h0, .inr (11, [.ref s0, .int 0, .ref s2, .ref s3, .ref s4, .int 0, .int (-1), .ref s7, .ref s8, .ref s9, .ref s10, .ref s11, .ref s12, .ref s13, .ref s14, .ref s15, .ref s16, .ref s17, .int 0])), (s7, .inr (1, [.int 0, .int 0, .int 0, .ref t3, .ref t4, .ref t5, .ref t6]))] := hD
  obtain rfl : r_1 = 1 := hw
  refine lv_if_ne (tgt := 26) hx hb dX11_loudest_4 (by decide) (fun _ => ?_) (fun c9 => absurd c9 (by decide))
  refine lv_iconst (v := (-1)) hx hb dX11_loudest_26 (by decide) ?_
  refine W.widen (k := 0) (n := 0) (Nat.le_of_ble_eq_true rfl) (Nat.le_of_ble_eq_true rfl) ?_
  exact W.iret (v := (-1)) hx hb hr (fun t ht hW => ⟨⟨(-1), (), rfl, rfl, trivial⟩, hS.F ht⟩) hS.2.2 dX11_loudest_27

set_option maxHeartbeats 4000000 in
set_option maxRecDepth 100000 in
/-- c_SB_ruled -/
theorem c_SB_ruled (l : Launch) (dC : Nat → ClassId) (dI : Nat → Nat → Nat) (sz : Nat) (h0 : Nat) (s0 : Nat) (s2 : Nat) (s3 : Nat) (s4 : Nat) (s7 : Nat) (s8 : Nat) (s9 : Nat) (s10 : Nat) (s11 : Nat) (s12 : Nat) (s13 : Nat) (s14 : Nat) (s15 : Nat) (s16 : Nat) (s17 : Nat) (t3 : Nat) (t4 : Nat) (t5 : Nat) (t6 : Nat) (x0 : Int32) : Met l yX11_ruled (.code yX11_ruled cX11_ruled 5 (some .int) :: wsA) ({ frames := 1, cells := 0, slots := 0, locals := 20 }) (va_Pc [.ref h0, .int x0] (fun U => U.heap.size = sz ∧ va_P (dC, dI) classes [(h0, .inr (11, [.ref s0, .int 0, .ref s2, .ref s3, .ref s4, .int 0, .int (-1), .ref s7, .ref s8, .ref s9, .ref s10, .ref s11, .ref s12, .ref s13, .ref s14, .ref s15, .ref s16, .ref s17, .int 0])), (s7, .inr (1, [.int 0, .int 0, .int 0, .ref t3, .ref t4, .ref t5, .ref t6]))] U.heap ∧ va_K (dC, dI) classes [] U ∧ va_D (fun _ => True) [(h0, .inr (11, [.ref s0, .int 0, .ref s2, .ref s3, .ref s4, .int 0, .int (-1), .ref s7, .ref s8, .ref s9, .ref s10, .ref s11, .ref s12, .ref s13, .ref s14, .ref s15, .ref s16, .ref s17, .int 0])), (s7, .inr (1, [.int 0, .int 0, .int 0, .ref t3, .ref t4, .ref t5, .ref t6]))] ∧ xE U)) (va_Qi (fun (r : Int32) (_ : Unit) => r = (-3)) (fun _ _ => True) (va_A [(h0, .inr (11, [.ref s0, .int 0, .ref s2, .ref s3, .ref s4, .int 0, .int (-1), .ref s7, .ref s8, .ref s9, .ref s10, .ref s11, .ref s12, .ref s13, .ref s14, .ref s15, .ref s16, .ref s17, .int 0])), (s7, .inr (1, [.int 0, .int 0, .int 0, .ref t3, .ref t4, .ref t5, .ref t6]))] sz)) 0 0 (va_A [(h0, .inr (11, [.ref s0, .int 0, .ref s2, .ref s3, .ref s4, .int 0, .int (-1), .ref s7, .ref s8, .ref s9, .ref s10, .ref s11, .ref s12, .ref s13, .ref s14, .ref s15, .ref s16, .ref s17, .int 0])), (s7, .inr (1, [.int 0, .int 0, .int 0, .ref t3, .ref t4, .ref t5, .ref t6]))] sz) := by
  refine Met.ofW (cc := cX11_ruled) (maxL := 5) (ret := (some .int)) (by decide) rfl ?_
  intro p e s m args below meth c s₁ B hml hv
  obtain ⟨rfl, hsz, hP, hK, hD0, hE⟩ := hv
  have hx := B.exec
  have hb := B.bytes
  have hr := B.returns
  have hts := atoms_spec (ws := .code yX11_ruled cX11_ruled 5 (some .int) :: wsA) B.pre
  have hq : ∀ w ∈ wsA, w.before _ s = true := fun w h => hts w (List.mem_cons_of_mem _ h)
  have hown : s.vm.findClass RX11 = some m.cls := findClass_of_methodNamed B.named
  have hlocks := B.notSynchronized
  subst hsz
  have hD := hD0.self (sz := s.heap.size)
  generalize hAe : va_A [(h0, .inr (11, [.ref s0, .int 0, .ref s2, .ref s3, .ref s4, .int 0, .int (-1), .ref s7, .ref s8, .ref s9, .ref s10, .ref s11, .ref s12, .ref s13, .ref s14, .ref s15, .ref s16, .ref s17, .int 0])), (s7, .inr (1, [.int 0, .int 0, .int 0, .ref t3, .ref t4, .ref t5, .ref t6]))] s.heap.size = A at hD ⊢
  have hA : ∀ q : Nat, s.heap.size ≤ q → A q := fun q h => by rw [← hAe]; exact Or.inr h
  have hS : va_S A s.heap s.heap [] := va_S.rf
  have hl := lv_entry ([.ref h0, .int x0]) (n := 5) (Nat.le_of_ble_eq_true rfl)
  rw [lg_entry_eq]
  generalize (lg_sl ([.ref h0, .int x0]) ++ List.replicate (5 - (lg_sl ([.ref h0, .int x0])).length) Slot.unset).toArray = ls at hl ⊢
  have hl : lv_has ls 5 [(0, .ref h0), (1, .int x0)] := hl
  refine lv_aload_n hx hb dX11_ruled_0 rfl (lv_at hl 0 rfl) ?_
  have hPc := hP.sub (ws' := [(h0, .inr (11, [.ref s0, .int 0, .ref s2, .ref s3, .ref s4, .int 0, .int (-1), .ref s7, .ref s8, .ref s9, .ref s10, .ref s11, .ref s12, .ref s13, .ref s14, .ref s15, .ref s16, .ref s17, .int 0])), (s7, .inr (1, [.int 0, .int 0, .int 0, .ref t3, .ref t4, .ref t5, .ref t6]))]) [0, 1] rfl
  have hDc := hD.sub (ws' := [(h0, .inr (11, [.ref s0, .int 0, .ref s2, .ref s3, .ref s4, .int 0, .int (-1), .ref s7, .ref s8, .ref s9, .ref s10, .ref s11, .ref s12, .ref s13, .ref s14, .ref s15, .ref s16, .ref s17, .int 0])), (s7, .inr (1, [.int 0, .int 0, .int 0, .ref t3, .ref t4, .ref t5, .ref t6]))]) [0, 1] (by decide) rfl
  have hKc := hK.sub (tys' := []) [] rfl
  have hFc := va_free (wc := [(h0, .inr (11, [.ref s0, .int 0, .ref s2, .ref s3, .ref s4, .int 0, .int (-1), .ref s7, .ref s8, .ref s9, .ref s10, .ref s11, .ref s12, .ref s13, .ref s14, .ref s15, .ref s16, .ref s17, .int 0])), (s7, .inr (1, [.int 0, .int 0, .int 0, .ref t3, .ref t4, .ref t5, .ref t6]))]) hD hS hA [0, 1] rfl
  refine va_calli (va_runV (As := []) (rest := []) ⟨hx, hb, hml, hown, hq⟩ (c_SB_untold l dC dI _ h0 s0 s2 s3 s4 s7 s8 s9 s10 s11 s12 s13 s14 s15 s16 s17 t3 t4 t5 t6 ) (cwV 0 hq (gV qw_778 qw_780 qw_14 qw_119 qw_781) rfl rfl rfl (by decide +kernel) ⟨Nat.le_of_ble_eq_true rfl, Nat.le_of_ble_eq_true rfl⟩) ⟨fun a U g mk q => by obtain ⟨q0, q1, qP, qK, qD, qE⟩ := q; exact ⟨q0, q1, qP, va_K.moved (u := U) (U := U.calling g mk a) (Vm.Alike.refl U.vm) qK, qD, xE.same rfl qE⟩, va_recv hKc hPc (ci := 11) (q0 := 0) rfl rfl, fun U hU hW => ⟨rfl, by rw [hU], by rw [hU]; exact hPc, va_K.moved hW.alike hKc, hDc.weaken (fun _ _ _ _ => trivial), xE.warm hW hE⟩⟩ rfl rfl hl.1 rfl (lv_room (Nat.le_of_ble_eq_true rfl)) dX11_ruled_1 ⟨Nat.le_of_ble_eq_true rfl, Nat.le_of_ble_eq_true rfl⟩) hS (fun q _ h => hFc q h) hFc (fun r_1 u t H1 locs ht hvm hw hB hz1 hk1 hS => ?_)
  obtain ⟨hP1, hK1, hD1⟩ := hB
  rw [ht] at hP1
  have hK1 := va_K.moved hvm.symm hK1
  obtain ⟨hP, hD⟩ := va_join (wr := []) (w1 := [(h0, .inr (11, [.ref s0, .int 0, .ref s2, .ref s3, .ref s4, .int 0, .int (-1), .ref s7, .ref s8, .ref s9, .ref s10, .ref s11, .ref s12, .ref s13, .ref s14, .ref s15, .ref s16, .ref s17, .int 0])), (s7, .inr (1, [.int 0, .int 0, .int 0, .ref t3, .ref t4, .ref t5, .ref t6]))]) hP hD [0, 1] [] rfl rfl (by decide) (by decide) hk1 hFc hP1 hD1
  generalize H1 = H at hP hS ⊢
  have hP : va_P (dC, dI) classes [(h0, .inr (11, [.ref s0, .int 0, .ref s2, .ref s3, .ref s4, .int 0, .int (-1), .ref s7, .ref s8, .ref s9, .ref s10, .ref s11, .ref s12, .ref s13, .ref s14, .ref s15, .ref s16, .ref s17, .int 0])), (s7, .inr (1, [.int 0, .int 0, .int 0, .ref t3, .ref t4, .ref t5, .ref t6]))] H := hP
  have hD : va_D A [(h0, .inr (11, [.ref s0, .int 0, .ref s2, .ref s3, .ref s4, .int 0, .int (-1), .ref s7, .ref s8, .ref s9, .ref s10, .ref s11, .ref s12, .ref s13, .ref s14, .ref s15, .ref s16, .ref s17, .int 0])), (s7, .inr (1, [.int 0, .int 0, .int 0, .ref t3, .ref t4, .ref t5, .ref t6]))] := hD
  obtain rfl : r_1 = 1 := hw
  refine lv_if_ne (tgt := 16) hx hb dX11_ruled_4 (by decide) (fun _ => ?_) (fun c9 => absurd c9 (by decide))
  refine lv_bipush (v := (-3)) hx hb dX11_ruled_16 (by decide) ?_
  refine W.widen (k := 0) (n := 0) (Nat.le_of_ble_eq_true rfl) (Nat.le_of_ble_eq_true rfl) ?_
  exact W.iret (v := (-3)) hx hb hr (fun t ht hW => ⟨⟨(-3), (), rfl, rfl, trivial⟩, hS.F ht⟩) hS.2.2 dX11_ruled_18

set_option maxHeartbeats 4000000 in
set_option maxRecDepth 100000 in
/-- c_SB_look -/
theorem c_SB_look (l : Launch) (dC : Nat → ClassId) (dI : Nat → Nat → Nat) (sz : Nat) (h0 : Nat) (s0 : Nat) (s2 : Nat) (s3 : Nat) (s4 : Nat) (s7 : Nat) (s8 : Nat) (s9 : Nat) (s10 : Nat) (s11 : Nat) (s12 : Nat) (s13 : Nat) (s14 : Nat) (s15 : Nat) (s16 : Nat) (s17 : Nat) (t3 : Nat) (t4 : Nat) (t5 : Nat) (t6 : Nat) (x0 : Int32) (x1 : Int32) : Met l yX11_look (.code yX11_look cX11_look 8 (some .int) :: wsA) ({ frames := 1, cells := 0, slots := 0, locals := 20 }) (va_Pc [.ref h0, .int x0, .int x1] (fun U => U.heap.size = sz ∧ va_P (dC, dI) classes [(h0, .inr (11, [.ref s0, .int 0, .ref s2, .ref s3, .ref s4, .int 0, .int (-1), .ref s7, .ref s8, .ref s9, .ref s10, .ref s11, .ref s12, .ref s13, .ref s14, .ref s15, .ref s16, .ref s17, .int 0])), (s7, .inr (1, [.int 0, .int 0, .int 0, .ref t3, .ref t4, .ref t5, .ref t6]))] U.heap ∧ va_K (dC, dI) classes [] U ∧ va_D (fun _ => True) [(h0, .inr (11, [.ref s0, .int 0, .ref s2, .ref s3, .ref s4, .int 0, .int (-1), .ref s7, .ref s8, .ref s9, .ref s10, .ref s11, .ref s12, .ref s13, .ref s14, .ref s15, .ref s16, .ref s17, .int 0])), (s7, .inr (1, [.int 0, .int 0, .int 0, .ref t3, .ref t4, .ref t5, .ref t6]))] ∧ xE U)) (va_Qi (fun (r : Int32) (_ : Unit) => r = (-1)) (fun _ _ => True) (va_A [(h0, .inr (11, [.ref s0, .int 0, .ref s2, .ref s3, .ref s4, .int 0, .int (-1), .ref s7, .ref s8, .ref s9, .ref s10, .ref s11, .ref s12, .ref s13, .ref s14, .ref s15, .ref s16, .ref s17, .int 0])), (s7, .inr (1, [.int 0, .int 0, .int 0, .ref t3, .ref t4, .ref t5, .ref t6]))] sz)) 0 0 (va_A [(h0, .inr (11, [.ref s0, .int 0, .ref s2, .ref s3, .ref s4, .int 0, .int (-1), .ref s7, .ref s8, .ref s9, .ref s10, .ref s11, .ref s12, .ref s13, .ref s14, .ref s15, .ref s16, .ref s17, .int 0])), (s7, .inr (1, [.int 0, .int 0, .int 0, .ref t3, .ref t4, .ref t5, .ref t6]))] sz) := by
  refine Met.ofW (cc := cX11_look) (maxL := 8) (ret := (some .int)) (by decide) rfl ?_
  intro p e s m args below meth c s₁ B hml hv
  obtain ⟨rfl, hsz, hP, hK, hD0, hE⟩ := hv
  have hx := B.exec
  have hb := B.bytes
  have hr := B.returns
  have hts := atoms_spec (ws := .code yX11_look cX11_look 8 (some .int) :: wsA) B.pre
  have hq : ∀ w ∈ wsA, w.before _ s = true := fun w h => hts w (List.mem_cons_of_mem _ h)
  have hown : s.vm.findClass RX11 = some m.cls := findClass_of_methodNamed B.named
  have hlocks := B.notSynchronized
  subst hsz
  have hD := hD0.self (sz := s.heap.size)
  generalize hAe : va_A [(h0, .inr (11, [.ref s0, .int 0, .ref s2, .ref s3, .ref s4, .int 0, .int (-1), .ref s7, .ref s8, .ref s9, .ref s10, .ref s11, .ref s12, .ref s13, .ref s14, .ref s15, .ref s16, .ref s17, .int 0])), (s7, .inr (1, [.int 0, .int 0, .int 0, .ref t3, .ref t4, .ref t5, .ref t6]))] s.heap.size = A at hD ⊢
  have hA : ∀ q : Nat, s.heap.size ≤ q → A q := fun q h => by rw [← hAe]; exact Or.inr h
  have hS : va_S A s.heap s.heap [] := va_S.rf
  have hl := lv_entry ([.ref h0, .int x0, .int x1]) (n := 8) (Nat.le_of_ble_eq_true rfl)
  rw [lg_entry_eq]
  generalize (lg_sl ([.ref h0, .int x0, .int x1]) ++ List.replicate (8 - (lg_sl ([.ref h0, .int x0, .int x1])).length) Slot.unset).toArray = ls at hl ⊢
  have hl : lv_has ls 8 [(0, .ref h0), (1, .int x0), (2, .int x1)] := hl
  refine lv_aload_n hx hb dX11_look_0 rfl (lv_at hl 0 rfl) ?_
  have hPc := hP.sub (ws' := [(h0, .inr (11, [.ref s0, .int 0, .ref s2, .ref s3, .ref s4, .int 0, .int (-1), .ref s7, .ref s8, .ref s9, .ref s10, .ref s11, .ref s12, .ref s13, .ref s14, .ref s15, .ref s16, .ref s17, .int 0])), (s7, .inr (1, [.int 0, .int 0, .int 0, .ref t3, .ref t4, .ref t5, .ref t6]))]) [0, 1] rfl
  have hDc := hD.sub (ws' := [(h0, .inr (11, [.ref s0, .int 0, .ref s2, .ref s3, .ref s4, .int 0, .int (-1), .ref s7, .ref s8, .ref s9, .ref s10, .ref s11, .ref s12, .ref s13, .ref s14, .ref s15, .ref s16, .ref s17, .int 0])), (s7, .inr (1, [.int 0, .int 0, .int 0, .ref t3, .ref t4, .ref t5, .ref t6]))]) [0, 1] (by decide) rfl
  have hKc := hK.sub (tys' := []) [] rfl
  have hFc := va_free (wc := [(h0, .inr (11, [.ref s0, .int 0, .ref s2, .ref s3, .ref s4, .int 0, .int (-1), .ref s7, .ref s8, .ref s9, .ref s10, .ref s11, .ref s12, .ref s13, .ref s14, .ref s15, .ref s16, .ref s17, .int 0])), (s7, .inr (1, [.int 0, .int 0, .int 0, .ref t3, .ref t4, .ref t5, .ref t6]))]) hD hS hA [0, 1] rfl
  refine va_calli (va_runV (As := []) (rest := []) ⟨hx, hb, hml, hown, hq⟩ (c_SB_untold l dC dI _ h0 s0 s2 s3 s4 s7 s8 s9 s10 s11 s12 s13 s14 s15 s16 s17 t3 t4 t5 t6 ) (cwV 0 hq (gV qw_778 qw_780 qw_14 qw_119 qw_781) rfl rfl rfl (by decide +kernel) ⟨Nat.le_of_ble_eq_true rfl, Nat.le_of_ble_eq_true rfl⟩) ⟨fun a U g mk q => by obtain ⟨q0, q1, qP, qK, qD, qE⟩ := q; exact ⟨q0, q1, qP, va_K.moved (u := U) (U := U.calling g mk a) (Vm.Alike.refl U.vm) qK, qD, xE.same rfl qE⟩, va_recv hKc hPc (ci := 11) (q0 := 0) rfl rfl, fun U hU hW => ⟨rfl, by rw [hU], by rw [hU]; exact hPc, va_K.moved hW.alike hKc, hDc.weaken (fun _ _ _ _ => trivial), xE.warm hW hE⟩⟩ rfl rfl hl.1 rfl (lv_room (Nat.le_of_ble_eq_true rfl)) dX11_look_1 ⟨Nat.le_of_ble_eq_true rfl, Nat.le_of_ble_eq_true rfl⟩) hS (fun q _ h => hFc q h) hFc (fun r_1 u t H1 locs ht hvm hw hB hz1 hk1 hS => ?_)
  obtain ⟨hP1, hK1, hD1⟩ := hB
  rw [ht] at hP1
  have hK1 := va_K.moved hvm.symm hK1
  obtain ⟨hP, hD⟩ := va_join (wr := []) (w1 := [(h0, .inr (11, [.ref s0, .int 0, .ref s2, .ref s3, .ref s4, .int 0, .int (-1), .ref s7, .ref s8, .ref s9, .ref s10, .ref s11, .ref s12, .ref s13, .ref s14, .ref s15, .ref s16, .ref s17, .int 0])), (s7, .inr (1, [.int 0, .int 0, .int 0, .ref t3, .ref t4, .ref t5, .ref t6]))]) hP hD [0, 1] [] rfl rfl (by decide) (by decide) hk1 hFc hP1 hD1
  generalize H1 = H at hP hS ⊢
  have hP : va_P (dC, dI) classes [(h0, .inr (11, [.ref s0, .int 0, .ref s2, .ref s3, .ref s4, .int 0, .int (-1), .ref s7, .ref s8, .ref s9, .ref s10, .ref s11, .ref s12, .ref s13, .ref s14, .ref s15, .ref s16, .ref s17, .int 0])), (s7, .inr (1, [.int 0, .int 0, .int 0, .ref t3, .ref t4, .ref t5, .ref t6]))] H := hP
  have hD : va_D A [(h0, .inr (11, [.ref s0, .int 0, .ref s2, .ref s3, .ref s4, .int 0, .int (-1), .ref s7, .ref s8, .ref s9, .ref s10, .ref s11, .ref s12, .ref s13, .ref s14, .ref s15, .ref s16, .ref s17, .int 0])), (s7, .inr (1, [.int 0, .int 0, .int 0, .ref t3, .ref t4, .ref t5, .ref t6]))] := hD
  obtain rfl : r_1 = 1 := hw
  refine lv_if_ne (tgt := 26) hx hb dX11_look_4 (by decide) (fun _ => ?_) (fun c9 => absurd c9 (by decide))
  refine lv_iconst (v := (-1)) hx hb dX11_look_26 (by decide) ?_
  refine W.widen (k := 0) (n := 0) (Nat.le_of_ble_eq_true rfl) (Nat.le_of_ble_eq_true rfl) ?_
  exact W.iret (v := (-1)) hx hb hr (fun t ht hW => ⟨⟨(-1), (), rfl, rfl, trivial⟩, hS.F ht⟩) hS.2.2 dX11_look_27

set_option maxHeartbeats 4000000 in
set_option maxRecDepth 100000 in
/-- c_SB_hiccups -/
theorem c_SB_hiccups (l : Launch) (dC : Nat → ClassId) (dI : Nat → Nat → Nat) (sz : Nat) (h0 : Nat) (s0 : Nat) (s2 : Nat) (s3 : Nat) (s4 : Nat) (s7 : Nat) (s8 : Nat) (s9 : Nat) (s10 : Nat) (s11 : Nat) (s12 : Nat) (s13 : Nat) (s14 : Nat) (s15 : Nat) (s16 : Nat) (s17 : Nat) (t3 : Nat) (t4 : Nat) (t5 : Nat) (t6 : Nat) (x0 : Int32) (x1 : Int32) (x2 : Int32) (x3 : Int32) : Met l yX11_hiccups (.code yX11_hiccups cX11_hiccups 8 (some .int) :: wsA) ({ frames := 1, cells := 0, slots := 0, locals := 20 }) (va_Pc [.ref h0, .int x0, .int x1, .int x2, .int x3] (fun U => U.heap.size = sz ∧ va_P (dC, dI) classes [(h0, .inr (11, [.ref s0, .int 0, .ref s2, .ref s3, .ref s4, .int 0, .int (-1), .ref s7, .ref s8, .ref s9, .ref s10, .ref s11, .ref s12, .ref s13, .ref s14, .ref s15, .ref s16, .ref s17, .int 0])), (s7, .inr (1, [.int 0, .int 0, .int 0, .ref t3, .ref t4, .ref t5, .ref t6]))] U.heap ∧ va_K (dC, dI) classes [] U ∧ va_D (fun _ => True) [(h0, .inr (11, [.ref s0, .int 0, .ref s2, .ref s3, .ref s4, .int 0, .int (-1), .ref s7, .ref s8, .ref s9, .ref s10, .ref s11, .ref s12, .ref s13, .ref s14, .ref s15, .ref s16, .ref s17, .int 0])), (s7, .inr (1, [.int 0, .int 0, .int 0, .ref t3, .ref t4, .ref t5, .ref t6]))] ∧ xE U)) (va_Qi (fun (r : Int32) (_ : Unit) => r = (-1)) (fun _ _ => True) (va_A [(h0, .inr (11, [.ref s0, .int 0, .ref s2, .ref s3, .ref s4, .int 0, .int (-1), .ref s7, .ref s8, .ref s9, .ref s10, .ref s11, .ref s12, .ref s13, .ref s14, .ref s15, .ref s16, .ref s17, .int 0])), (s7, .inr (1, [.int 0, .int 0, .int 0, .ref t3, .ref t4, .ref t5, .ref t6]))] sz)) 0 0 (va_A [(h0, .inr (11, [.ref s0, .int 0, .ref s2, .ref s3, .ref s4, .int 0, .int (-1), .ref s7, .ref s8, .ref s9, .ref s10, .ref s11, .ref s12, .ref s13, .ref s14, .ref s15, .ref s16, .ref s17, .int 0])), (s7, .inr (1, [.int 0, .int 0, .int 0, .ref t3, .ref t4, .ref t5, .ref t6]))] sz) := by
  refine Met.ofW (cc := cX11_hiccups) (maxL := 8) (ret := (some .int)) (by decide) rfl ?_
  intro p e s m args below meth c s₁ B hml hv
  obtain ⟨rfl, hsz, hP, hK, hD0, hE⟩ := hv
  have hx := B.exec
  have hb := B.bytes
  have hr := B.returns
  have hts := atoms_spec (ws := .code yX11_hiccups cX11_hiccups 8 (some .int) :: wsA) B.pre
  have hq : ∀ w ∈ wsA, w.before _ s = true := fun w h => hts w (List.mem_cons_of_mem _ h)
  have hown : s.vm.findClass RX11 = some m.cls := findClass_of_methodNamed B.named
  have hlocks := B.notSynchronized
  subst hsz
  have hD := hD0.self (sz := s.heap.size)
  generalize hAe : va_A [(h0, .inr (11, [.ref s0, .int 0, .ref s2, .ref s3, .ref s4, .int 0, .int (-1), .ref s7, .ref s8, .ref s9, .ref s10, .ref s11, .ref s12, .ref s13, .ref s14, .ref s15, .ref s16, .ref s17, .int 0])), (s7, .inr (1, [.int 0, .int 0, .int 0, .ref t3, .ref t4, .ref t5, .ref t6]))] s.heap.size = A at hD ⊢
  have hA : ∀ q : Nat, s.heap.size ≤ q → A q := fun q h => by rw [← hAe]; exact Or.inr h
  have hS : va_S A s.heap s.heap [] := va_S.rf
  have hl := lv_entry ([.ref h0, .int x0, .int x1, .int x2, .int x3]) (n := 8) (Nat.le_of_ble_eq_true rfl)
  rw [lg_entry_eq]
  generalize (lg_sl ([.ref h0, .int x0, .int x1, .int x2, .int x3]) ++ List.replicate (8 - (lg_sl ([.ref h0, .int x0, .int x1, .int x2, .int x3])).length) Slot.unset).toArray = ls at hl ⊢
  have hl : lv_has ls 8 [(0, .ref h0), (1, .int x0), (2, .int x1), (3, .int x2), (4, .int x3)] := hl
  refine lv_aload_n hx hb dX11_hiccups_0 rfl (lv_at hl 0 rfl) ?_
  have hPc := hP.sub (ws' := [(h0, .inr (11, [.ref s0, .int 0, .ref s2, .ref s3, .ref s4, .int 0, .int (-1), .ref s7, .ref s8, .ref s9, .ref s10, .ref s11, .ref s12, .ref s13, .ref s14, .ref s15, .ref s16, .ref s17, .int 0])), (s7, .inr (1, [.int 0, .int 0, .int 0, .ref t3, .ref t4, .ref t5, .ref t6]))]) [0, 1] rfl
  have hDc := hD.sub (ws' := [(h0, .inr (11, [.ref s0, .int 0, .ref s2, .ref s3, .ref s4, .int 0, .int (-1), .ref s7, .ref s8, .ref s9, .ref s10, .ref s11, .ref s12, .ref s13, .ref s14, .ref s15, .ref s16, .ref s17, .int 0])), (s7, .inr (1, [.int 0, .int 0, .int 0, .ref t3, .ref t4, .ref t5, .ref t6]))]) [0, 1] (by decide) rfl
  have hKc := hK.sub (tys' := []) [] rfl
  have hFc := va_free (wc := [(h0, .inr (11, [.ref s0, .int 0, .ref s2, .ref s3, .ref s4, .int 0, .int (-1), .ref s7, .ref s8, .ref s9, .ref s10, .ref s11, .ref s12, .ref s13, .ref s14, .ref s15, .ref s16, .ref s17, .int 0])), (s7, .inr (1, [.int 0, .int 0, .int 0, .ref t3, .ref t4, .ref t5, .ref t6]))]) hD hS hA [0, 1] rfl
  refine va_calli (va_runV (As := []) (rest := []) ⟨hx, hb, hml, hown, hq⟩ (c_SB_untold l dC dI _ h0 s0 s2 s3 s4 s7 s8 s9 s10 s11 s12 s13 s14 s15 s16 s17 t3 t4 t5 t6 ) (cwV 0 hq (gV qw_778 qw_780 qw_14 qw_119 qw_781) rfl rfl rfl (by decide +kernel) ⟨Nat.le_of_ble_eq_true rfl, Nat.le_of_ble_eq_true rfl⟩) ⟨fun a U g mk q => by obtain ⟨q0, q1, qP, qK, qD, qE⟩ := q; exact ⟨q0, q1, qP, va_K.moved (u := U) (U := U.calling g mk a) (Vm.Alike.refl U.vm) qK, qD, xE.same rfl qE⟩, va_recv hKc hPc (ci := 11) (q0 := 0) rfl rfl, fun U hU hW => ⟨rfl, by rw [hU], by rw [hU]; exact hPc, va_K.moved hW.alike hKc, hDc.weaken (fun _ _ _ _ => trivial), xE.warm hW hE⟩⟩ rfl rfl hl.1 rfl (lv_room (Nat.le_of_ble_eq_true rfl)) dX11_hiccups_1 ⟨Nat.le_of_ble_eq_true rfl, Nat.le_of_ble_eq_true rfl⟩) hS (fun q _ h => hFc q h) hFc (fun r_1 u t H1 locs ht hvm hw hB hz1 hk1 hS => ?_)
  obtain ⟨hP1, hK1, hD1⟩ := hB
  rw [ht] at hP1
  have hK1 := va_K.moved hvm.symm hK1
  obtain ⟨hP, hD⟩ := va_join (wr := []) (w1 := [(h0, .inr (11, [.ref s0, .int 0, .ref s2, .ref s3, .ref s4, .int 0, .int (-1), .ref s7, .ref s8, .ref s9, .ref s10, .ref s11, .ref s12, .ref s13, .ref s14, .ref s15, .ref s16, .ref s17, .int 0])), (s7, .inr (1, [.int 0, .int 0, .int 0, .ref t3, .ref t4, .ref t5, .ref t6]))]) hP hD [0, 1] [] rfl rfl (by decide) (by decide) hk1 hFc hP1 hD1
  generalize H1 = H at hP hS ⊢
  have hP : va_P (dC, dI) classes [(h0, .inr (11, [.ref s0, .int 0, .ref s2, .ref s3, .ref s4, .int 0, .int (-1), .ref s7, .ref s8, .ref s9, .ref s10, .ref s11, .ref s12, .ref s13, .ref s14, .ref s15, .ref s16, .ref s17, .int 0])), (s7, .inr (1, [.int 0, .int 0, .int 0, .ref t3, .ref t4, .ref t5, .ref t6]))] H := hP
  have hD : va_D A [(h0, .inr (11, [.ref s0, .int 0, .ref s2, .ref s3, .ref s4, .int 0, .int (-1), .ref s7, .ref s8, .ref s9, .ref s10, .ref s11, .ref s12, .ref s13, .ref s14, .ref s15, .ref s16, .ref s17, .int 0])), (s7, .inr (1, [.int 0, .int 0, .int 0, .ref t3, .ref t4, .ref t5, .ref t6]))] := hD
  obtain rfl : r_1 = 1 := hw
  refine lv_if_ne (tgt := 27) hx hb dX11_hiccups_4 (by decide) (fun _ => ?_) (fun c9 => absurd c9 (by decide))
  refine lv_iconst (v := (-1)) hx hb dX11_hiccups_27 (by decide) ?_
  refine W.widen (k := 0) (n := 0) (Nat.le_of_ble_eq_true rfl) (Nat.le_of_ble_eq_true rfl) ?_
  exact W.iret (v := (-1)) hx hb hr (fun t ht hW => ⟨⟨(-1), (), rfl, rfl, trivial⟩, hS.F ht⟩) hS.2.2 dX11_hiccups_28

set_option maxHeartbeats 4000000 in
set_option maxRecDepth 100000 in
/-- c_SB_dish -/
theorem c_SB_dish (l : Launch) (dC : Nat → ClassId) (dI : Nat → Nat → Nat) (sz : Nat) (h0 : Nat) (s0 : Nat) (s2 : Nat) (s3 : Nat) (s4 : Nat) (s7 : Nat) (s8 : Nat) (s9 : Nat) (s10 : Nat) (s11 : Nat) (s12 : Nat) (s13 : Nat) (s14 : Nat) (s15 : Nat) (s16 : Nat) (s17 : Nat) (t3 : Nat) (t4 : Nat) (t5 : Nat) (t6 : Nat) (x0 : Int32) (x1 : Int32) : Met l yX11_dish (.code yX11_dish cX11_dish 3 (some .int) :: wsA) ({ frames := 1, cells := 0, slots := 0, locals := 21 }) (va_Pc [.ref h0, .int x0, .int x1] (fun U => U.heap.size = sz ∧ va_P (dC, dI) classes [(h0, .inr (11, [.ref s0, .int 0, .ref s2, .ref s3, .ref s4, .int 0, .int (-1), .ref s7, .ref s8, .ref s9, .ref s10, .ref s11, .ref s12, .ref s13, .ref s14, .ref s15, .ref s16, .ref s17, .int 0])), (s7, .inr (1, [.int 0, .int 0, .int 0, .ref t3, .ref t4, .ref t5, .ref t6]))] U.heap ∧ va_K (dC, dI) classes [] U ∧ va_D (fun _ => True) [(h0, .inr (11, [.ref s0, .int 0, .ref s2, .ref s3, .ref s4, .int 0, .int (-1), .ref s7, .ref s8, .ref s9, .ref s10, .ref s11, .ref s12, .ref s13, .ref s14, .ref s15, .ref s16, .ref s17, .int 0])), (s7, .inr (1, [.int 0, .int 0, .int 0, .ref t3, .ref t4, .ref t5, .ref t6]))] ∧ xE U)) (va_Qi (fun (r : Int32) (_ : Unit) => r = (-3)) (fun _ _ => True) (va_A [(h0, .inr (11, [.ref s0, .int 0, .ref s2, .ref s3, .ref s4, .int 0, .int (-1), .ref s7, .ref s8, .ref s9, .ref s10, .ref s11, .ref s12, .ref s13, .ref s14, .ref s15, .ref s16, .ref s17, .int 0])), (s7, .inr (1, [.int 0, .int 0, .int 0, .ref t3, .ref t4, .ref t5, .ref t6]))] sz)) 0 0 (va_A [(h0, .inr (11, [.ref s0, .int 0, .ref s2, .ref s3, .ref s4, .int 0, .int (-1), .ref s7, .ref s8, .ref s9, .ref s10, .ref s11, .ref s12, .ref s13, .ref s14, .ref s15, .ref s16, .ref s17, .int 0])), (s7, .inr (1, [.int 0, .int 0, .int 0, .ref t3, .ref t4, .ref t5, .ref t6]))] sz) := by
  refine Met.ofW (cc := cX11_dish) (maxL := 3) (ret := (some .int)) (by decide) rfl ?_
  intro p e s m args below meth c s₁ B hml hv
  obtain ⟨rfl, hsz, hP, hK, hD0, hE⟩ := hv
  have hx := B.exec
  have hb := B.bytes
  have hr := B.returns
  have hts := atoms_spec (ws := .code yX11_dish cX11_dish 3 (some .int) :: wsA) B.pre
  have hq : ∀ w ∈ wsA, w.before _ s = true := fun w h => hts w (List.mem_cons_of_mem _ h)
  have hown : s.vm.findClass RX11 = some m.cls := findClass_of_methodNamed B.named
  have hlocks := B.notSynchronized
  subst hsz
  have hD := hD0.self (sz := s.heap.size)
  generalize hAe : va_A [(h0, .inr (11, [.ref s0, .int 0, .ref s2, .ref s3, .ref s4, .int 0, .int (-1), .ref s7, .ref s8, .ref s9, .ref s10, .ref s11, .ref s12, .ref s13, .ref s14, .ref s15, .ref s16, .ref s17, .int 0])), (s7, .inr (1, [.int 0, .int 0, .int 0, .ref t3, .ref t4, .ref t5, .ref t6]))] s.heap.size = A at hD ⊢
  have hA : ∀ q : Nat, s.heap.size ≤ q → A q := fun q h => by rw [← hAe]; exact Or.inr h
  have hS : va_S A s.heap s.heap [] := va_S.rf
  have hl := lv_entry ([.ref h0, .int x0, .int x1]) (n := 3) (Nat.le_of_ble_eq_true rfl)
  rw [lg_entry_eq]
  generalize (lg_sl ([.ref h0, .int x0, .int x1]) ++ List.replicate (3 - (lg_sl ([.ref h0, .int x0, .int x1])).length) Slot.unset).toArray = ls at hl ⊢
  have hl : lv_has ls 3 [(0, .ref h0), (1, .int x0), (2, .int x1)] := hl
  refine lv_aload_n hx hb dX11_dish_0 rfl (lv_at hl 0 rfl) ?_
  refine lv_iload_n hx hb dX11_dish_1 rfl (lv_at hl 1 rfl) ?_
  have hPc := hP.sub (ws' := [(h0, .inr (11, [.ref s0, .int 0, .ref s2, .ref s3, .ref s4, .int 0, .int (-1), .ref s7, .ref s8, .ref s9, .ref s10, .ref s11, .ref s12, .ref s13, .ref s14, .ref s15, .ref s16, .ref s17, .int 0])), (s7, .inr (1, [.int 0, .int 0, .int 0, .ref t3, .ref t4, .ref t5, .ref t6]))]) [0, 1] rfl
  have hDc := hD.sub (ws' := [(h0, .inr (11, [.ref s0, .int 0, .ref s2, .ref s3, .ref s4, .int 0, .int (-1), .ref s7, .ref s8, .ref s9, .ref s10, .ref s11, .ref s12, .ref s13, .ref s14, .ref s15, .ref s16, .ref s17, .int 0])), (s7, .inr (1, [.int 0, .int 0, .int 0, .ref t3, .ref t4, .ref t5, .ref t6]))]) [0, 1] (by decide) rfl
  have hKc := hK.sub (tys' := []) [] rfl
  have hFc := va_free (wc := [(h0, .inr (11, [.ref s0, .int 0, .ref s2, .ref s3, .ref s4, .int 0, .int (-1), .ref s7, .ref s8, .ref s9, .ref s10, .ref s11, .ref s12, .ref s13, .ref s14, .ref s15, .ref s16, .ref s17, .int 0])), (s7, .inr (1, [.int 0, .int 0, .int 0, .ref t3, .ref t4, .ref t5, .ref t6]))]) hD hS hA [0, 1] rfl
  refine va_calli (va_runV (As := [.int x0]) (rest := []) ⟨hx, hb, hml, hown, hq⟩ (c_SB_isDish l dC dI _ h0 s0 s2 s3 s4 s7 s8 s9 s10 s11 s12 s13 s14 s15 s16 s17 t3 t4 t5 t6 x0 ) (cwV 1 hq (gV qw_739 qw_741 qw_12 qw_119 qw_742) rfl rfl rfl (by decide +kernel) ⟨Nat.le_of_ble_eq_true rfl, Nat.le_of_ble_eq_true rfl⟩) ⟨fun a U g mk q => by obtain ⟨q0, q1, qP, qK, qD, qE⟩ := q; exact ⟨q0, q1, qP, va_K.moved (u := U) (U := U.calling g mk a) (Vm.Alike.refl U.vm) qK, qD, xE.same rfl qE⟩, va_recv hKc hPc (ci := 11) (q0 := 0) rfl rfl, fun U hU hW => ⟨rfl, by rw [hU], by rw [hU]; exact hPc, va_K.moved hW.alike hKc, hDc.weaken (fun _ _ _ _ => trivial), xE.warm hW hE⟩⟩ rfl rfl hl.1 rfl (lv_room (Nat.le_of_ble_eq_true rfl)) dX11_dish_2 ⟨Nat.le_of_ble_eq_true rfl, Nat.le_of_ble_eq_true rfl⟩) hS (fun q _ h => hFc q h) hFc (fun r_1 u t H1 locs ht hvm hw hB hz1 hk1 hS => ?_)
  obtain ⟨hP1, hK1, hD1⟩ := hB
  rw [ht] at hP1
  have hK1 := va_K.moved hvm.symm hK1
  obtain ⟨hP, hD⟩ := va_join (wr := []) (w1 := [(h0, .inr (11, [.ref s0, .int 0, .ref s2, .ref s3, .ref s4, .int 0, .int (-1), .ref s7, .ref s8, .ref s9, .ref s10, .ref s11, .ref s12, .ref s13, .ref s14, .ref s15, .ref s16, .ref s17, .int 0])), (s7, .inr (1, [.int 0, .int 0, .int 0, .ref t3, .ref t4, .ref t5, .ref t6]))]) hP hD [0, 1] [] rfl rfl (by decide) (by decide) hk1 hFc hP1 hD1
  generalize H1 = H at hP hS ⊢
  have hP : va_P (dC, dI) classes [(h0, .inr (11, [.ref s0, .int 0, .ref s2, .ref s3, .ref s4, .int 0, .int (-1), .ref s7, .ref s8, .ref s9, .ref s10, .ref s11, .ref s12, .ref s13, .ref s14, .ref s15, .ref s16, .ref s17, .int 0])), (s7, .inr (1, [.int 0, .int 0, .int 0, .ref t3, .ref t4, .ref t5, .ref t6]))] H := hP
  have hD : va_D A [(h0, .inr (11, [.ref s0, .int 0, .ref s2, .ref s3, .ref s4, .int 0, .int (-1), .ref s7, .ref s8, .ref s9, .ref s10, .ref s11, .ref s12, .ref s13, .ref s14, .ref s15, .ref s16, .ref s17, .int 0])), (s7, .inr (1, [.int 0, .int 0, .int 0, .ref t3, .ref t4, .ref t5, .ref t6]))] := hD
  obtain rfl : r_1 = 0 := hw
  refine lv_if_eq (tgt := 17) hx hb dX11_dish_5 (by decide) (fun _ => ?_) (fun c9 => absurd c9 (by decide))
  refine lv_bipush (v := (-3)) hx hb dX11_dish_17 (by decide) ?_
  refine W.widen (k := 0) (n := 0) (Nat.le_of_ble_eq_true rfl) (Nat.le_of_ble_eq_true rfl) ?_
  exact W.iret (v := (-3)) hx hb hr (fun t ht hW => ⟨⟨(-3), (), rfl, rfl, trivial⟩, hS.F ht⟩) hS.2.2 dX11_dish_19

set_option maxHeartbeats 4000000 in
set_option maxRecDepth 100000 in
/-- c_SB_serve -/
theorem c_SB_serve (l : Launch) (dC : Nat → ClassId) (dI : Nat → Nat → Nat) (sz : Nat) (h0 : Nat) (s0 : Nat) (s2 : Nat) (s3 : Nat) (s4 : Nat) (s7 : Nat) (s8 : Nat) (s9 : Nat) (s10 : Nat) (s11 : Nat) (s12 : Nat) (s13 : Nat) (s14 : Nat) (s15 : Nat) (s16 : Nat) (s17 : Nat) (t3 : Nat) (t4 : Nat) (t5 : Nat) (t6 : Nat) (x0 : Int32) : Met l yX11_serve (.code yX11_serve cX11_serve 2 (some .int) :: wsA) ({ frames := 1, cells := 0, slots := 0, locals := 21 }) (va_Pc [.ref h0, .int x0] (fun U => U.heap.size = sz ∧ va_P (dC, dI) classes [(h0, .inr (11, [.ref s0, .int 0, .ref s2, .ref s3, .ref s4, .int 0, .int (-1), .ref s7, .ref s8, .ref s9, .ref s10, .ref s11, .ref s12, .ref s13, .ref s14, .ref s15, .ref s16, .ref s17, .int 0])), (s7, .inr (1, [.int 0, .int 0, .int 0, .ref t3, .ref t4, .ref t5, .ref t6]))] U.heap ∧ va_K (dC, dI) classes [] U ∧ va_D (fun _ => True) [(h0, .inr (11, [.ref s0, .int 0, .ref s2, .ref s3, .ref s4, .int 0, .int (-1), .ref s7, .ref s8, .ref s9, .ref s10, .ref s11, .ref s12, .ref s13, .ref s14, .ref s15, .ref s16, .ref s17, .int 0])), (s7, .inr (1, [.int 0, .int 0, .int 0, .ref t3, .ref t4, .ref t5, .ref t6]))] ∧ xE U)) (va_Qi (fun (r : Int32) (_ : Unit) => r = (-1)) (fun _ _ => True) (va_A [(h0, .inr (11, [.ref s0, .int 0, .ref s2, .ref s3, .ref s4, .int 0, .int (-1), .ref s7, .ref s8, .ref s9, .ref s10, .ref s11, .ref s12, .ref s13, .ref s14, .ref s15, .ref s16, .ref s17, .int 0])), (s7, .inr (1, [.int 0, .int 0, .int 0, .ref t3, .ref t4, .ref t5, .ref t6]))] sz)) 0 0 (va_A [(h0, .inr (11, [.ref s0, .int 0, .ref s2, .ref s3, .ref s4, .int 0, .int (-1), .ref s7, .ref s8, .ref s9, .ref s10, .ref s11, .ref s12, .ref s13, .ref s14, .ref s15, .ref s16, .ref s17, .int 0])), (s7, .inr (1, [.int 0, .int 0, .int 0, .ref t3, .ref t4, .ref t5, .ref t6]))] sz) := by
  refine Met.ofW (cc := cX11_serve) (maxL := 2) (ret := (some .int)) (by decide) rfl ?_
  intro p e s m args below meth c s₁ B hml hv
  obtain ⟨rfl, hsz, hP, hK, hD0, hE⟩ := hv
  have hx := B.exec
  have hb := B.bytes
  have hr := B.returns
  have hts := atoms_spec (ws := .code yX11_serve cX11_serve 2 (some .int) :: wsA) B.pre
  have hq : ∀ w ∈ wsA, w.before _ s = true := fun w h => hts w (List.mem_cons_of_mem _ h)
  have hown : s.vm.findClass RX11 = some m.cls := findClass_of_methodNamed B.named
  have hlocks := B.notSynchronized
  subst hsz
  have hD := hD0.self (sz := s.heap.size)
  generalize hAe : va_A [(h0, .inr (11, [.ref s0, .int 0, .ref s2, .ref s3, .ref s4, .int 0, .int (-1), .ref s7, .ref s8, .ref s9, .ref s10, .ref s11, .ref s12, .ref s13, .ref s14, .ref s15, .ref s16, .ref s17, .int 0])), (s7, .inr (1, [.int 0, .int 0, .int 0, .ref t3, .ref t4, .ref t5, .ref t6]))] s.heap.size = A at hD ⊢
  have hA : ∀ q : Nat, s.heap.size ≤ q → A q := fun q h => by rw [← hAe]; exact Or.inr h
  have hS : va_S A s.heap s.heap [] := va_S.rf
  have hl := lv_entry ([.ref h0, .int x0]) (n := 2) (Nat.le_of_ble_eq_true rfl)
  rw [lg_entry_eq]
  generalize (lg_sl ([.ref h0, .int x0]) ++ List.replicate (2 - (lg_sl ([.ref h0, .int x0])).length) Slot.unset).toArray = ls at hl ⊢
  have hl : lv_has ls 2 [(0, .ref h0), (1, .int x0)] := hl
  refine lv_aload_n hx hb dX11_serve_0 rfl (lv_at hl 0 rfl) ?_
  refine lv_iload_n hx hb dX11_serve_1 rfl (lv_at hl 1 rfl) ?_
  have hPc := hP.sub (ws' := [(h0, .inr (11, [.ref s0, .int 0, .ref s2, .ref s3, .ref s4, .int 0, .int (-1), .ref s7, .ref s8, .ref s9, .ref s10, .ref s11, .ref s12, .ref s13, .ref s14, .ref s15, .ref s16, .ref s17, .int 0])), (s7, .inr (1, [.int 0, .int 0, .int 0, .ref t3, .ref t4, .ref t5, .ref t6]))]) [0, 1] rfl
  have hDc := hD.sub (ws' := [(h0, .inr (11, [.ref s0, .int 0, .ref s2, .ref s3, .ref s4, .int 0, .int (-1), .ref s7, .ref s8, .ref s9, .ref s10, .ref s11, .ref s12, .ref s13, .ref s14, .ref s15, .ref s16, .ref s17, .int 0])), (s7, .inr (1, [.int 0, .int 0, .int 0, .ref t3, .ref t4, .ref t5, .ref t6]))]) [0, 1] (by decide) rfl
  have hKc := hK.sub (tys' := []) [] rfl
  have hFc := va_free (wc := [(h0, .inr (11, [.ref s0, .int 0, .ref s2, .ref s3, .ref s4, .int 0, .int (-1), .ref s7, .ref s8, .ref s9, .ref s10, .ref s11, .ref s12, .ref s13, .ref s14, .ref s15, .ref s16, .ref s17, .int 0])), (s7, .inr (1, [.int 0, .int 0, .int 0, .ref t3, .ref t4, .ref t5, .ref t6]))]) hD hS hA [0, 1] rfl
  refine va_calli (va_runV (As := [.int x0]) (rest := []) ⟨hx, hb, hml, hown, hq⟩ (c_SB_isDish l dC dI _ h0 s0 s2 s3 s4 s7 s8 s9 s10 s11 s12 s13 s14 s15 s16 s17 t3 t4 t5 t6 x0 ) (cwV 1 hq (gV qw_739 qw_741 qw_12 qw_119 qw_742) rfl rfl rfl (by decide +kernel) ⟨Nat.le_of_ble_eq_true rfl, Nat.le_of_ble_eq_true rfl⟩) ⟨fun a U g mk q => by obtain ⟨q0, q1, qP, qK, qD, qE⟩ := q; exact ⟨q0, q1, qP, va_K.moved (u := U) (U := U.calling g mk a) (Vm.Alike.refl U.vm) qK, qD, xE.same rfl qE⟩, va_recv hKc hPc (ci := 11) (q0 := 0) rfl rfl, fun U hU hW => ⟨rfl, by rw [hU], by rw [hU]; exact hPc, va_K.moved hW.alike hKc, hDc.weaken (fun _ _ _ _ => trivial), xE.warm hW hE⟩⟩ rfl rfl hl.1 rfl (lv_room (Nat.le_of_ble_eq_true rfl)) dX11_serve_2 ⟨Nat.le_of_ble_eq_true rfl, Nat.le_of_ble_eq_true rfl⟩) hS (fun q _ h => hFc q h) hFc (fun r_1 u t H1 locs ht hvm hw hB hz1 hk1 hS => ?_)
  obtain ⟨hP1, hK1, hD1⟩ := hB
  rw [ht] at hP1
  have hK1 := va_K.moved hvm.symm hK1
  obtain ⟨hP, hD⟩ := va_join (wr := []) (w1 := [(h0, .inr (11, [.ref s0, .int 0, .ref s2, .ref s3, .ref s4, .int 0, .int (-1), .ref s7, .ref s8, .ref s9, .ref s10, .ref s11, .ref s12, .ref s13, .ref s14, .ref s15, .ref s16, .ref s17, .int 0])), (s7, .inr (1, [.int 0, .int 0, .int 0, .ref t3, .ref t4, .ref t5, .ref t6]))]) hP hD [0, 1] [] rfl rfl (by decide) (by decide) hk1 hFc hP1 hD1
  generalize H1 = H at hP hS ⊢
  have hP : va_P (dC, dI) classes [(h0, .inr (11, [.ref s0, .int 0, .ref s2, .ref s3, .ref s4, .int 0, .int (-1), .ref s7, .ref s8, .ref s9, .ref s10, .ref s11, .ref s12, .ref s13, .ref s14, .ref s15, .ref s16, .ref s17, .int 0])), (s7, .inr (1, [.int 0, .int 0, .int 0, .ref t3, .ref t4, .ref t5, .ref t6]))] H := hP
  have hD : va_D A [(h0, .inr (11, [.ref s0, .int 0, .ref s2, .ref s3, .ref s4, .int 0, .int (-1), .ref s7, .ref s8, .ref s9, .ref s10, .ref s11, .ref s12, .ref s13, .ref s14, .ref s15, .ref s16, .ref s17, .int 0])), (s7, .inr (1, [.int 0, .int 0, .int 0, .ref t3, .ref t4, .ref t5, .ref t6]))] := hD
  obtain rfl : r_1 = 0 := hw
  refine lv_if_eq (tgt := 32) hx hb dX11_serve_5 (by decide) (fun _ => ?_) (fun c9 => absurd c9 (by decide))
  refine lv_iconst (v := (-1)) hx hb dX11_serve_32 (by decide) ?_
  refine W.widen (k := 0) (n := 0) (Nat.le_of_ble_eq_true rfl) (Nat.le_of_ble_eq_true rfl) ?_
  exact W.iret (v := (-1)) hx hb hr (fun t ht hW => ⟨⟨(-1), (), rfl, rfl, trivial⟩, hS.F ht⟩) hS.2.2 dX11_serve_33

set_option maxHeartbeats 4000000 in
set_option maxRecDepth 100000 in
/-- c_SB_guest -/
theorem c_SB_guest (l : Launch) (dC : Nat → ClassId) (dI : Nat → Nat → Nat) (sz : Nat) (h0 : Nat) (s0 : Nat) (s2 : Nat) (s3 : Nat) (s4 : Nat) (s7 : Nat) (s8 : Nat) (s9 : Nat) (s10 : Nat) (s11 : Nat) (s12 : Nat) (s13 : Nat) (s14 : Nat) (s15 : Nat) (s16 : Nat) (s17 : Nat) (t3 : Nat) (t4 : Nat) (t5 : Nat) (t6 : Nat) (x0 : Int32) (x1 : Int32) : Met l yX11_guest (.code yX11_guest cX11_guest 3 (some .int) :: wsA) ({ frames := 1, cells := 0, slots := 0, locals := 21 }) (va_Pc [.ref h0, .int x0, .int x1] (fun U => U.heap.size = sz ∧ va_P (dC, dI) classes [(h0, .inr (11, [.ref s0, .int 0, .ref s2, .ref s3, .ref s4, .int 0, .int (-1), .ref s7, .ref s8, .ref s9, .ref s10, .ref s11, .ref s12, .ref s13, .ref s14, .ref s15, .ref s16, .ref s17, .int 0])), (s7, .inr (1, [.int 0, .int 0, .int 0, .ref t3, .ref t4, .ref t5, .ref t6]))] U.heap ∧ va_K (dC, dI) classes [] U ∧ va_D (fun _ => True) [(h0, .inr (11, [.ref s0, .int 0, .ref s2, .ref s3, .ref s4, .int 0, .int (-1), .ref s7, .ref s8, .ref s9, .ref s10, .ref s11, .ref s12, .ref s13, .ref s14, .ref s15, .ref s16, .ref s17, .int 0])), (s7, .inr (1, [.int 0, .int 0, .int 0, .ref t3, .ref t4, .ref t5, .ref t6]))] ∧ xE U)) (va_Qi (fun (r : Int32) (_ : Unit) => r = (-1)) (fun _ _ => True) (va_A [(h0, .inr (11, [.ref s0, .int 0, .ref s2, .ref s3, .ref s4, .int 0, .int (-1), .ref s7, .ref s8, .ref s9, .ref s10, .ref s11, .ref s12, .ref s13, .ref s14, .ref s15, .ref s16, .ref s17, .int 0])), (s7, .inr (1, [.int 0, .int 0, .int 0, .ref t3, .ref t4, .ref t5, .ref t6]))] sz)) 0 0 (va_A [(h0, .inr (11, [.ref s0, .int 0, .ref s2, .ref s3, .ref s4, .int 0, .int (-1), .ref s7, .ref s8, .ref s9, .ref s10, .ref s11, .ref s12, .ref s13, .ref s14, .ref s15, .ref s16, .ref s17, .int 0])), (s7, .inr (1, [.int 0, .int 0, .int 0, .ref t3, .ref t4, .ref t5, .ref t6]))] sz) := by
  refine Met.ofW (cc := cX11_guest) (maxL := 3) (ret := (some .int)) (by decide) rfl ?_
  intro p e s m args below meth c s₁ B hml hv
  obtain ⟨rfl, hsz, hP, hK, hD0, hE⟩ := hv
  have hx := B.exec
  have hb := B.bytes
  have hr := B.returns
  have hts := atoms_spec (ws := .code yX11_guest cX11_guest 3 (some .int) :: wsA) B.pre
  have hq : ∀ w ∈ wsA, w.before _ s = true := fun w h => hts w (List.mem_cons_of_mem _ h)
  have hown : s.vm.findClass RX11 = some m.cls := findClass_of_methodNamed B.named
  have hlocks := B.notSynchronized
  subst hsz
  have hD := hD0.self (sz := s.heap.size)
  generalize hAe : va_A [(h0, .inr (11, [.ref s0, .int 0, .ref s2, .ref s3, .ref s4, .int 0, .int (-1), .ref s7, .ref s8, .ref s9, .ref s10, .ref s11, .ref s12, .ref s13, .ref s14, .ref s15, .ref s16, .ref s17, .int 0])), (s7, .inr (1, [.int 0, .int 0, .int 0, .ref t3, .ref t4, .ref t5, .ref t6]))] s.heap.size = A at hD ⊢
  have hA : ∀ q : Nat, s.heap.size ≤ q → A q := fun q h => by rw [← hAe]; exact Or.inr h
  have hS : va_S A s.heap s.heap [] := va_S.rf
  have hl := lv_entry ([.ref h0, .int x0, .int x1]) (n := 3) (Nat.le_of_ble_eq_true rfl)
  rw [lg_entry_eq]
  generalize (lg_sl ([.ref h0, .int x0, .int x1]) ++ List.replicate (3 - (lg_sl ([.ref h0, .int x0, .int x1])).length) Slot.unset).toArray = ls at hl ⊢
  have hl : lv_has ls 3 [(0, .ref h0), (1, .int x0), (2, .int x1)] := hl
  refine lv_aload_n hx hb dX11_guest_0 rfl (lv_at hl 0 rfl) ?_
  refine lv_iload_n hx hb dX11_guest_1 rfl (lv_at hl 1 rfl) ?_
  have hPc := hP.sub (ws' := [(h0, .inr (11, [.ref s0, .int 0, .ref s2, .ref s3, .ref s4, .int 0, .int (-1), .ref s7, .ref s8, .ref s9, .ref s10, .ref s11, .ref s12, .ref s13, .ref s14, .ref s15, .ref s16, .ref s17, .int 0])), (s7, .inr (1, [.int 0, .int 0, .int 0, .ref t3, .ref t4, .ref t5, .ref t6]))]) [0, 1] rfl
  have hDc := hD.sub (ws' := [(h0, .inr (11, [.ref s0, .int 0, .ref s2, .ref s3, .ref s4, .int 0, .int (-1), .ref s7, .ref s8, .ref s9, .ref s10, .ref s11, .ref s12, .ref s13, .ref s14, .ref s15, .ref s16, .ref s17, .int 0])), (s7, .inr (1, [.int 0, .int 0, .int 0, .ref t3, .ref t4, .ref t5, .ref t6]))]) [0, 1] (by decide) rfl
  have hKc := hK.sub (tys' := []) [] rfl
  have hFc := va_free (wc := [(h0, .inr (11, [.ref s0, .int 0, .ref s2, .ref s3, .ref s4, .int 0, .int (-1), .ref s7, .ref s8, .ref s9, .ref s10, .ref s11, .ref s12, .ref s13, .ref s14, .ref s15, .ref s16, .ref s17, .int 0])), (s7, .inr (1, [.int 0, .int 0, .int 0, .ref t3, .ref t4, .ref t5, .ref t6]))]) hD hS hA [0, 1] rfl
  refine va_calli (va_runV (As := [.int x0]) (rest := []) ⟨hx, hb, hml, hown, hq⟩ (c_SB_isGuest l dC dI _ h0 s0 s2 s3 s4 s7 s8 s9 s10 s11 s12 s13 s14 s15 s16 s17 t3 t4 t5 t6 x0 ) (cwV 1 hq (gV qw_762 qw_764 qw_13 qw_119 qw_765) rfl rfl rfl (by decide +kernel) ⟨Nat.le_of_ble_eq_true rfl, Nat.le_of_ble_eq_true rfl⟩) ⟨fun a U g mk q => by obtain ⟨q0, q1, qP, qK, qD, qE⟩ := q; exact ⟨q0, q1, qP, va_K.moved (u := U) (U := U.calling g mk a) (Vm.Alike.refl U.vm) qK, qD, xE.same rfl qE⟩, va_recv hKc hPc (ci := 11) (q0 := 0) rfl rfl, fun U hU hW => ⟨rfl, by rw [hU], by rw [hU]; exact hPc, va_K.moved hW.alike hKc, hDc.weaken (fun _ _ _ _ => trivial), xE.warm hW hE⟩⟩ rfl rfl hl.1 rfl (lv_room (Nat.le_of_ble_eq_true rfl)) dX11_guest_2 ⟨Nat.le_of_ble_eq_true rfl, Nat.le_of_ble_eq_true rfl⟩) hS (fun q _ h => hFc q h) hFc (fun r_1 u t H1 locs ht hvm hw hB hz1 hk1 hS => ?_)
  obtain ⟨hP1, hK1, hD1⟩ := hB
  rw [ht] at hP1
  have hK1 := va_K.moved hvm.symm hK1
  obtain ⟨hP, hD⟩ := va_join (wr := []) (w1 := [(h0, .inr (11, [.ref s0, .int 0, .ref s2, .ref s3, .ref s4, .int 0, .int (-1), .ref s7, .ref s8, .ref s9, .ref s10, .ref s11, .ref s12, .ref s13, .ref s14, .ref s15, .ref s16, .ref s17, .int 0])), (s7, .inr (1, [.int 0, .int 0, .int 0, .ref t3, .ref t4, .ref t5, .ref t6]))]) hP hD [0, 1] [] rfl rfl (by decide) (by decide) hk1 hFc hP1 hD1
  generalize H1 = H at hP hS ⊢
  have hP : va_P (dC, dI) classes [(h0, .inr (11, [.ref s0, .int 0, .ref s2, .ref s3, .ref s4, .int 0, .int (-1), .ref s7, .ref s8, .ref s9, .ref s10, .ref s11, .ref s12, .ref s13, .ref s14, .ref s15, .ref s16, .ref s17, .int 0])), (s7, .inr (1, [.int 0, .int 0, .int 0, .ref t3, .ref t4, .ref t5, .ref t6]))] H := hP
  have hD : va_D A [(h0, .inr (11, [.ref s0, .int 0, .ref s2, .ref s3, .ref s4, .int 0, .int (-1), .ref s7, .ref s8, .ref s9, .ref s10, .ref s11, .ref s12, .ref s13, .ref s14, .ref s15, .ref s16, .ref s17, .int 0])), (s7, .inr (1, [.int 0, .int 0, .int 0, .ref t3, .ref t4, .ref t5, .ref t6]))] := hD
  obtain rfl : r_1 = 0 := hw
  refine lv_if_eq (tgt := 17) hx hb dX11_guest_5 (by decide) (fun _ => ?_) (fun c9 => absurd c9 (by decide))
  refine lv_iconst (v := (-1)) hx hb dX11_guest_17 (by decide) ?_
  refine W.widen (k := 0) (n := 0) (Nat.le_of_ble_eq_true rfl) (Nat.le_of_ble_eq_true rfl) ?_
  exact W.iret (v := (-1)) hx hb hr (fun t ht hW => ⟨⟨(-1), (), rfl, rfl, trivial⟩, hS.F ht⟩) hS.2.2 dX11_guest_18

set_option maxHeartbeats 4000000 in
set_option maxRecDepth 100000 in
/-- c_SB_fetch -/
theorem c_SB_fetch (l : Launch) (dC : Nat → ClassId) (dI : Nat → Nat → Nat) (sz : Nat) (h0 : Nat) (s0 : Nat) (s2 : Nat) (s3 : Nat) (s4 : Nat) (s7 : Nat) (s8 : Nat) (s9 : Nat) (s10 : Nat) (s11 : Nat) (s12 : Nat) (s13 : Nat) (s14 : Nat) (s15 : Nat) (s16 : Nat) (s17 : Nat) (t3 : Nat) (t4 : Nat) (t5 : Nat) (t6 : Nat) (x0 : Int32) : Met l yX11_fetch (.code yX11_fetch cX11_fetch 3 (some .int) :: wsA) ({ frames := 1, cells := 0, slots := 0, locals := 21 }) (va_Pc [.ref h0, .int x0] (fun U => U.heap.size = sz ∧ va_P (dC, dI) classes [(h0, .inr (11, [.ref s0, .int 0, .ref s2, .ref s3, .ref s4, .int 0, .int (-1), .ref s7, .ref s8, .ref s9, .ref s10, .ref s11, .ref s12, .ref s13, .ref s14, .ref s15, .ref s16, .ref s17, .int 0])), (s7, .inr (1, [.int 0, .int 0, .int 0, .ref t3, .ref t4, .ref t5, .ref t6]))] U.heap ∧ va_K (dC, dI) classes [] U ∧ va_D (fun _ => True) [(h0, .inr (11, [.ref s0, .int 0, .ref s2, .ref s3, .ref s4, .int 0, .int (-1), .ref s7, .ref s8, .ref s9, .ref s10, .ref s11, .ref s12, .ref s13, .ref s14, .ref s15, .ref s16, .ref s17, .int 0])), (s7, .inr (1, [.int 0, .int 0, .int 0, .ref t3, .ref t4, .ref t5, .ref t6]))] ∧ xE U)) (va_Qi (fun (r : Int32) (_ : Unit) => r = (-1)) (fun _ _ => True) (va_A [(h0, .inr (11, [.ref s0, .int 0, .ref s2, .ref s3, .ref s4, .int 0, .int (-1), .ref s7, .ref s8, .ref s9, .ref s10, .ref s11, .ref s12, .ref s13, .ref s14, .ref s15, .ref s16, .ref s17, .int 0])), (s7, .inr (1, [.int 0, .int 0, .int 0, .ref t3, .ref t4, .ref t5, .ref t6]))] sz)) 0 0 (va_A [(h0, .inr (11, [.ref s0, .int 0, .ref s2, .ref s3, .ref s4, .int 0, .int (-1), .ref s7, .ref s8, .ref s9, .ref s10, .ref s11, .ref s12, .ref s13, .ref s14, .ref s15, .ref s16, .ref s17, .int 0])), (s7, .inr (1, [.int 0, .int 0, .int 0, .ref t3, .ref t4, .ref t5, .ref t6]))] sz) := by
  refine Met.ofW (cc := cX11_fetch) (maxL := 3) (ret := (some .int)) (by decide) rfl ?_
  intro p e s m args below meth c s₁ B hml hv
  obtain ⟨rfl, hsz, hP, hK, hD0, hE⟩ := hv
  have hx := B.exec
  have hb := B.bytes
  have hr := B.returns
  have hts := atoms_spec (ws := .code yX11_fetch cX11_fetch 3 (some .int) :: wsA) B.pre
  have hq : ∀ w ∈ wsA, w.before _ s = true := fun w h => hts w (List.mem_cons_of_mem _ h)
  have hown : s.vm.findClass RX11 = some m.cls := findClass_of_methodNamed B.named
  have hlocks := B.notSynchronized
  subst hsz
  have hD := hD0.self (sz := s.heap.size)
  generalize hAe : va_A [(h0, .inr (11, [.ref s0, .int 0, .ref s2, .ref s3, .ref s4, .int 0, .int (-1), .ref s7, .ref s8, .ref s9, .ref s10, .ref s11, .ref s12, .ref s13, .ref s14, .ref s15, .ref s16, .ref s17, .int 0])), (s7, .inr (1, [.int 0, .int 0, .int 0, .ref t3, .ref t4, .ref t5, .ref t6]))] s.heap.size = A at hD ⊢
  have hA : ∀ q : Nat, s.heap.size ≤ q → A q := fun q h => by rw [← hAe]; exact Or.inr h
  have hS : va_S A s.heap s.heap [] := va_S.rf
  have hl := lv_entry ([.ref h0, .int x0]) (n := 3) (Nat.le_of_ble_eq_true rfl)
  rw [lg_entry_eq]
  generalize (lg_sl ([.ref h0, .int x0]) ++ List.replicate (3 - (lg_sl ([.ref h0, .int x0])).length) Slot.unset).toArray = ls at hl ⊢
  have hl : lv_has ls 3 [(0, .ref h0), (1, .int x0)] := hl
  refine lv_aload_n hx hb dX11_fetch_0 rfl (lv_at hl 0 rfl) ?_
  refine lv_iload_n hx hb dX11_fetch_1 rfl (lv_at hl 1 rfl) ?_
  have hPc := hP.sub (ws' := [(h0, .inr (11, [.ref s0, .int 0, .ref s2, .ref s3, .ref s4, .int 0, .int (-1), .ref s7, .ref s8, .ref s9, .ref s10, .ref s11, .ref s12, .ref s13, .ref s14, .ref s15, .ref s16, .ref s17, .int 0])), (s7, .inr (1, [.int 0, .int 0, .int 0, .ref t3, .ref t4, .ref t5, .ref t6]))]) [0, 1] rfl
  have hDc := hD.sub (ws' := [(h0, .inr (11, [.ref s0, .int 0, .ref s2, .ref s3, .ref s4, .int 0, .int (-1), .ref s7, .ref s8, .ref s9, .ref s10, .ref s11, .ref s12, .ref s13, .ref s14, .ref s15, .ref s16, .ref s17, .int 0])), (s7, .inr (1, [.int 0, .int 0, .int 0, .ref t3, .ref t4, .ref t5, .ref t6]))]) [0, 1] (by decide) rfl
  have hKc := hK.sub (tys' := []) [] rfl
  have hFc := va_free (wc := [(h0, .inr (11, [.ref s0, .int 0, .ref s2, .ref s3, .ref s4, .int 0, .int (-1), .ref s7, .ref s8, .ref s9, .ref s10, .ref s11, .ref s12, .ref s13, .ref s14, .ref s15, .ref s16, .ref s17, .int 0])), (s7, .inr (1, [.int 0, .int 0, .int 0, .ref t3, .ref t4, .ref t5, .ref t6]))]) hD hS hA [0, 1] rfl
  refine va_calli (va_runV (As := [.int x0]) (rest := []) ⟨hx, hb, hml, hown, hq⟩ (c_SB_isGuest l dC dI _ h0 s0 s2 s3 s4 s7 s8 s9 s10 s11 s12 s13 s14 s15 s16 s17 t3 t4 t5 t6 x0 ) (cwV 1 hq (gV qw_762 qw_764 qw_13 qw_119 qw_765) rfl rfl rfl (by decide +kernel) ⟨Nat.le_of_ble_eq_true rfl, Nat.le_of_ble_eq_true rfl⟩) ⟨fun a U g mk q => by obtain ⟨q0, q1, qP, qK, qD, qE⟩ := q; exact ⟨q0, q1, qP, va_K.moved (u := U) (U := U.calling g mk a) (Vm.Alike.refl U.vm) qK, qD, xE.same rfl qE⟩, va_recv hKc hPc (ci := 11) (q0 := 0) rfl rfl, fun U hU hW => ⟨rfl, by rw [hU], by rw [hU]; exact hPc, va_K.moved hW.alike hKc, hDc.weaken (fun _ _ _ _ => trivial), xE.warm hW hE⟩⟩ rfl rfl hl.1 rfl (lv_room (Nat.le_of_ble_eq_true rfl)) dX11_fetch_2 ⟨Nat.le_of_ble_eq_true rfl, Nat.le_of_ble_eq_true rfl⟩) hS (fun q _ h => hFc q h) hFc (fun r_1 u t H1 locs ht hvm hw hB hz1 hk1 hS => ?_)
  obtain ⟨hP1, hK1, hD1⟩ := hB
  rw [ht] at hP1
  have hK1 := va_K.moved hvm.symm hK1
  obtain ⟨hP, hD⟩ := va_join (wr := []) (w1 := [(h0, .inr (11, [.ref s0, .int 0, .ref s2, .ref s3, .ref s4, .int 0, .int (-1), .ref s7, .ref s8, .ref s9, .ref s10, .ref s11, .ref s12, .ref s13, .ref s14, .ref s15, .ref s16, .ref s17, .int 0])), (s7, .inr (1, [.int 0, .int 0, .int 0, .ref t3, .ref t4, .ref t5, .ref t6]))]) hP hD [0, 1] [] rfl rfl (by decide) (by decide) hk1 hFc hP1 hD1
  generalize H1 = H at hP hS ⊢
  have hP : va_P (dC, dI) classes [(h0, .inr (11, [.ref s0, .int 0, .ref s2, .ref s3, .ref s4, .int 0, .int (-1), .ref s7, .ref s8, .ref s9, .ref s10, .ref s11, .ref s12, .ref s13, .ref s14, .ref s15, .ref s16, .ref s17, .int 0])), (s7, .inr (1, [.int 0, .int 0, .int 0, .ref t3, .ref t4, .ref t5, .ref t6]))] H := hP
  have hD : va_D A [(h0, .inr (11, [.ref s0, .int 0, .ref s2, .ref s3, .ref s4, .int 0, .int (-1), .ref s7, .ref s8, .ref s9, .ref s10, .ref s11, .ref s12, .ref s13, .ref s14, .ref s15, .ref s16, .ref s17, .int 0])), (s7, .inr (1, [.int 0, .int 0, .int 0, .ref t3, .ref t4, .ref t5, .ref t6]))] := hD
  obtain rfl : r_1 = 0 := hw
  refine lv_if_eq (tgt := 19) hx hb dX11_fetch_5 (by decide) (fun _ => ?_) (fun c9 => absurd c9 (by decide))
  refine lv_iconst (v := (-1)) hx hb dX11_fetch_19 (by decide) ?_
  refine W.widen (k := 0) (n := 0) (Nat.le_of_ble_eq_true rfl) (Nat.le_of_ble_eq_true rfl) ?_
  exact W.iret (v := (-1)) hx hb hr (fun t ht hW => ⟨⟨(-1), (), rfl, rfl, trivial⟩, hS.F ht⟩) hS.2.2 dX11_fetch_20

set_option maxHeartbeats 4000000 in
set_option maxRecDepth 100000 in
/-- c_SB_tell -/
theorem c_SB_tell (l : Launch) (dC : Nat → ClassId) (dI : Nat → Nat → Nat) (sz : Nat) (h0 : Nat) (s0 : Nat) (s2 : Nat) (s3 : Nat) (s4 : Nat) (s7 : Nat) (s8 : Nat) (s9 : Nat) (s10 : Nat) (s11 : Nat) (s12 : Nat) (s13 : Nat) (s14 : Nat) (s15 : Nat) (s16 : Nat) (s17 : Nat) (t3 : Nat) (t4 : Nat) (t5 : Nat) (t6 : Nat) (x0 : Int32) (x1 : Int32) : Met l yX11_tell (.code yX11_tell cX11_tell 3 (some .int) :: wsA) ({ frames := 1, cells := 0, slots := 0, locals := 21 }) (va_Pc [.ref h0, .int x0, .int x1] (fun U => U.heap.size = sz ∧ va_P (dC, dI) classes [(h0, .inr (11, [.ref s0, .int 0, .ref s2, .ref s3, .ref s4, .int 0, .int (-1), .ref s7, .ref s8, .ref s9, .ref s10, .ref s11, .ref s12, .ref s13, .ref s14, .ref s15, .ref s16, .ref s17, .int 0])), (s7, .inr (1, [.int 0, .int 0, .int 0, .ref t3, .ref t4, .ref t5, .ref t6]))] U.heap ∧ va_K (dC, dI) classes [] U ∧ va_D (fun _ => True) [(h0, .inr (11, [.ref s0, .int 0, .ref s2, .ref s3, .ref s4, .int 0, .int (-1), .ref s7, .ref s8, .ref s9, .ref s10, .ref s11, .ref s12, .ref s13, .ref s14, .ref s15, .ref s16, .ref s17, .int 0])), (s7, .inr (1, [.int 0, .int 0, .int 0, .ref t3, .ref t4, .ref t5, .ref t6]))] ∧ xE U)) (va_Qi (fun (r : Int32) (_ : Unit) => r = (-1)) (fun _ _ => True) (va_A [(h0, .inr (11, [.ref s0, .int 0, .ref s2, .ref s3, .ref s4, .int 0, .int (-1), .ref s7, .ref s8, .ref s9, .ref s10, .ref s11, .ref s12, .ref s13, .ref s14, .ref s15, .ref s16, .ref s17, .int 0])), (s7, .inr (1, [.int 0, .int 0, .int 0, .ref t3, .ref t4, .ref t5, .ref t6]))] sz)) 0 0 (va_A [(h0, .inr (11, [.ref s0, .int 0, .ref s2, .ref s3, .ref s4, .int 0, .int (-1), .ref s7, .ref s8, .ref s9, .ref s10, .ref s11, .ref s12, .ref s13, .ref s14, .ref s15, .ref s16, .ref s17, .int 0])), (s7, .inr (1, [.int 0, .int 0, .int 0, .ref t3, .ref t4, .ref t5, .ref t6]))] sz) := by
  refine Met.ofW (cc := cX11_tell) (maxL := 3) (ret := (some .int)) (by decide) rfl ?_
  intro p e s m args below meth c s₁ B hml hv
  obtain ⟨rfl, hsz, hP, hK, hD0, hE⟩ := hv
  have hx := B.exec
  have hb := B.bytes
  have hr := B.returns
  have hts := atoms_spec (ws := .code yX11_tell cX11_tell 3 (some .int) :: wsA) B.pre
  have hq : ∀ w ∈ wsA, w.before _ s = true := fun w h => hts w (List.mem_cons_of_mem _ h)
  have hown : s.vm.findClass RX11 = some m.cls := findClass_of_methodNamed B.named
  have hlocks := B.notSynchronized
  subst hsz
  have hD := hD0.self (sz := s.heap.size)
  generalize hAe : va_A [(h0, .inr (11, [.ref s0, .int 0, .ref s2, .ref s3, .ref s4, .int 0, .int (-1), .ref s7, .ref s8, .ref s9, .ref s10, .ref s11, .ref s12, .ref s13, .ref s14, .ref s15, .ref s16, .ref s17, .int 0])), (s7, .inr (1, [.int 0, .int 0, .int 0, .ref t3, .ref t4, .ref t5, .ref t6]))] s.heap.size = A at hD ⊢
  have hA : ∀ q : Nat, s.heap.size ≤ q → A q := fun q h => by rw [← hAe]; exact Or.inr h
  have hS : va_S A s.heap s.heap [] := va_S.rf
  have hl := lv_entry ([.ref h0, .int x0, .int x1]) (n := 3) (Nat.le_of_ble_eq_true rfl)
  rw [lg_entry_eq]
  generalize (lg_sl ([.ref h0, .int x0, .int x1]) ++ List.replicate (3 - (lg_sl ([.ref h0, .int x0, .int x1])).length) Slot.unset).toArray = ls at hl ⊢
  have hl : lv_has ls 3 [(0, .ref h0), (1, .int x0), (2, .int x1)] := hl
  refine lv_aload_n hx hb dX11_tell_0 rfl (lv_at hl 0 rfl) ?_
  refine lv_iload_n hx hb dX11_tell_1 rfl (lv_at hl 1 rfl) ?_
  have hPc := hP.sub (ws' := [(h0, .inr (11, [.ref s0, .int 0, .ref s2, .ref s3, .ref s4, .int 0, .int (-1), .ref s7, .ref s8, .ref s9, .ref s10, .ref s11, .ref s12, .ref s13, .ref s14, .ref s15, .ref s16, .ref s17, .int 0])), (s7, .inr (1, [.int 0, .int 0, .int 0, .ref t3, .ref t4, .ref t5, .ref t6]))]) [0, 1] rfl
  have hDc := hD.sub (ws' := [(h0, .inr (11, [.ref s0, .int 0, .ref s2, .ref s3, .ref s4, .int 0, .int (-1), .ref s7, .ref s8, .ref s9, .ref s10, .ref s11, .ref s12, .ref s13, .ref s14, .ref s15, .ref s16, .ref s17, .int 0])), (s7, .inr (1, [.int 0, .int 0, .int 0, .ref t3, .ref t4, .ref t5, .ref t6]))]) [0, 1] (by decide) rfl
  have hKc := hK.sub (tys' := []) [] rfl
  have hFc := va_free (wc := [(h0, .inr (11, [.ref s0, .int 0, .ref s2, .ref s3, .ref s4, .int 0, .int (-1), .ref s7, .ref s8, .ref s9, .ref s10, .ref s11, .ref s12, .ref s13, .ref s14, .ref s15, .ref s16, .ref s17, .int 0])), (s7, .inr (1, [.int 0, .int 0, .int 0, .ref t3, .ref t4, .ref t5, .ref t6]))]) hD hS hA [0, 1] rfl
  refine va_calli (va_runV (As := [.int x0]) (rest := []) ⟨hx, hb, hml, hown, hq⟩ (c_SB_isGuest l dC dI _ h0 s0 s2 s3 s4 s7 s8 s9 s10 s11 s12 s13 s14 s15 s16 s17 t3 t4 t5 t6 x0 ) (cwV 1 hq (gV qw_762 qw_764 qw_13 qw_119 qw_765) rfl rfl rfl (by decide +kernel) ⟨Nat.le_of_ble_eq_true rfl, Nat.le_of_ble_eq_true rfl⟩) ⟨fun a U g mk q => by obtain ⟨q0, q1, qP, qK, qD, qE⟩ := q; exact ⟨q0, q1, qP, va_K.moved (u := U) (U := U.calling g mk a) (Vm.Alike.refl U.vm) qK, qD, xE.same rfl qE⟩, va_recv hKc hPc (ci := 11) (q0 := 0) rfl rfl, fun U hU hW => ⟨rfl, by rw [hU], by rw [hU]; exact hPc, va_K.moved hW.alike hKc, hDc.weaken (fun _ _ _ _ => trivial), xE.warm hW hE⟩⟩ rfl rfl hl.1 rfl (lv_room (Nat.le_of_ble_eq_true rfl)) dX11_tell_2 ⟨Nat.le_of_ble_eq_true rfl, Nat.le_of_ble_eq_true rfl⟩) hS (fun q _ h => hFc q h) hFc (fun r_1 u t H1 locs ht hvm hw hB hz1 hk1 hS => ?_)
  obtain ⟨hP1, hK1, hD1⟩ := hB
  rw [ht] at hP1
  have hK1 := va_K.moved hvm.symm hK1
  obtain ⟨hP, hD⟩ := va_join (wr := []) (w1 := [(h0, .inr (11, [.ref s0, .int 0, .ref s2, .ref s3, .ref s4, .int 0, .int (-1), .ref s7, .ref s8, .ref s9, .ref s10, .ref s11, .ref s12, .ref s13, .ref s14, .ref s15, .ref s16, .ref s17, .int 0])), (s7, .inr (1, [.int 0, .int 0, .int 0, .ref t3, .ref t4, .ref t5, .ref t6]))]) hP hD [0, 1] [] rfl rfl (by decide) (by decide) hk1 hFc hP1 hD1
  generalize H1 = H at hP hS ⊢
  have hP : va_P (dC, dI) classes [(h0, .inr (11, [.ref s0, .int 0, .ref s2, .ref s3, .ref s4, .int 0, .int (-1), .ref s7, .ref s8, .ref s9, .ref s10, .ref s11, .ref s12, .ref s13, .ref s14, .ref s15, .ref s16, .ref s17, .int 0])), (s7, .inr (1, [.int 0, .int 0, .int 0, .ref t3, .ref t4, .ref t5, .ref t6]))] H := hP
  have hD : va_D A [(h0, .inr (11, [.ref s0, .int 0, .ref s2, .ref s3, .ref s4, .int 0, .int (-1), .ref s7, .ref s8, .ref s9, .ref s10, .ref s11, .ref s12, .ref s13, .ref s14, .ref s15, .ref s16, .ref s17, .int 0])), (s7, .inr (1, [.int 0, .int 0, .int 0, .ref t3, .ref t4, .ref t5, .ref t6]))] := hD
  obtain rfl : r_1 = 0 := hw
  refine lv_if_eq (tgt := 26) hx hb dX11_tell_5 (by decide) (fun _ => ?_) (fun c9 => absurd c9 (by decide))
  refine lv_iconst (v := (-1)) hx hb dX11_tell_26 (by decide) ?_
  refine W.widen (k := 0) (n := 0) (Nat.le_of_ble_eq_true rfl) (Nat.le_of_ble_eq_true rfl) ?_
  exact W.iret (v := (-1)) hx hb hr (fun t ht hW => ⟨⟨(-1), (), rfl, rfl, trivial⟩, hS.F ht⟩) hS.2.2 dX11_tell_27

set_option maxHeartbeats 4000000 in
set_option maxRecDepth 100000 in
/-- c_SB_rests -/
theorem c_SB_rests (l : Launch) (dC : Nat → ClassId) (dI : Nat → Nat → Nat) (sz : Nat) (h0 : Nat) (s0 : Nat) (s2 : Nat) (s3 : Nat) (s4 : Nat) (s7 : Nat) (s8 : Nat) (s9 : Nat) (s10 : Nat) (s11 : Nat) (s12 : Nat) (s13 : Nat) (s14 : Nat) (s15 : Nat) (s16 : Nat) (s17 : Nat) (t3 : Nat) (t4 : Nat) (t5 : Nat) (t6 : Nat) (x0 : Int32) (x1 : Int32) (x2 : Int32) (x3 : Int32) : Met l yX11_rests (.code yX11_rests cX11_rests 8 (some .int) :: wsA) ({ frames := 1, cells := 0, slots := 0, locals := 21 }) (va_Pc [.ref h0, .int x0, .int x1, .int x2, .int x3] (fun U => U.heap.size = sz ∧ va_P (dC, dI) classes [(h0, .inr (11, [.ref s0, .int 0, .ref s2, .ref s3, .ref s4, .int 0, .int (-1), .ref s7, .ref s8, .ref s9, .ref s10, .ref s11, .ref s12, .ref s13, .ref s14, .ref s15, .ref s16, .ref s17, .int 0])), (s7, .inr (1, [.int 0, .int 0, .int 0, .ref t3, .ref t4, .ref t5, .ref t6]))] U.heap ∧ va_K (dC, dI) classes [] U ∧ va_D (fun _ => True) [(h0, .inr (11, [.ref s0, .int 0, .ref s2, .ref s3, .ref s4, .int 0, .int (-1), .ref s7, .ref s8, .ref s9, .ref s10, .ref s11, .ref s12, .ref s13, .ref s14, .ref s15, .ref s16, .ref s17, .int 0])), (s7, .inr (1, [.int 0, .int 0, .int 0, .ref t3, .ref t4, .ref t5, .ref t6]))] ∧ xE U)) (va_Qi (fun (r : Int32) (_ : Unit) => r = (-1)) (fun _ _ => True) (va_A [(h0, .inr (11, [.ref s0, .int 0, .ref s2, .ref s3, .ref s4, .int 0, .int (-1), .ref s7, .ref s8, .ref s9, .ref s10, .ref s11, .ref s12, .ref s13, .ref s14, .ref s15, .ref s16, .ref s17, .int 0])), (s7, .inr (1, [.int 0, .int 0, .int 0, .ref t3, .ref t4, .ref t5, .ref t6]))] sz)) 0 0 (va_A [(h0, .inr (11, [.ref s0, .int 0, .ref s2, .ref s3, .ref s4, .int 0, .int (-1), .ref s7, .ref s8, .ref s9, .ref s10, .ref s11, .ref s12, .ref s13, .ref s14, .ref s15, .ref s16, .ref s17, .int 0])), (s7, .inr (1, [.int 0, .int 0, .int 0, .ref t3, .ref t4, .ref t5, .ref t6]))] sz) := by
  refine Met.ofW (cc := cX11_rests) (maxL := 8) (ret := (some .int)) (by decide) rfl ?_
  intro p e s m args below meth c s₁ B hml hv
  obtain ⟨rfl, hsz, hP, hK, hD0, hE⟩ := hv
  have hx := B.exec
  have hb := B.bytes
  have hr := B.returns
  have hts := atoms_spec (ws := .code yX11_rests cX11_rests 8 (some .int) :: wsA) B.pre
  have hq : ∀ w ∈ wsA, w.before _ s = true := fun w h => hts w (List.mem_cons_of_mem _ h)
  have hown : s.vm.findClass RX11 = some m.cls := findClass_of_methodNamed B.named
  have hlocks := B.notSynchronized
  subst hsz
  have hD := hD0.self (sz := s.heap.size)
  generalize hAe : va_A [(h0, .inr (11, [.ref s0, .int 0, .ref s2, .ref s3, .ref s4, .int 0, .int (-1), .ref s7, .ref s8, .ref s9, .ref s10, .ref s11, .ref s12, .ref s13, .ref s14, .ref s15, .ref s16, .ref s17, .int 0])), (s7, .inr (1, [.int 0, .int 0, .int 0, .ref t3, .ref t4, .ref t5, .ref t6]))] s.heap.size = A at hD ⊢
  have hA : ∀ q : Nat, s.heap.size ≤ q → A q := fun q h => by rw [← hAe]; exact Or.inr h
  have hS : va_S A s.heap s.heap [] := va_S.rf
  have hl := lv_entry ([.ref h0, .int x0, .int x1, .int x2, .int x3]) (n := 8) (Nat.le_of_ble_eq_true rfl)
  rw [lg_entry_eq]
  generalize (lg_sl ([.ref h0, .int x0, .int x1, .int x2, .int x3]) ++ List.replicate (8 - (lg_sl ([.ref h0, .int x0, .int x1, .int x2, .int x3])).length) Slot.unset).toArray = ls at hl ⊢
  have hl : lv_has ls 8 [(0, .ref h0), (1, .int x0), (2, .int x1), (3, .int x2), (4, .int x3)] := hl
  refine lv_aload_n hx hb dX11_rests_0 rfl (lv_at hl 0 rfl) ?_
  refine lv_iload_n hx hb dX11_rests_1 rfl (lv_at hl 1 rfl) ?_
  have hPc := hP.sub (ws' := [(h0, .inr (11, [.ref s0, .int 0, .ref s2, .ref s3, .ref s4, .int 0, .int (-1), .ref s7, .ref s8, .ref s9, .ref s10, .ref s11, .ref s12, .ref s13, .ref s14, .ref s15, .ref s16, .ref s17, .int 0])), (s7, .inr (1, [.int 0, .int 0, .int 0, .ref t3, .ref t4, .ref t5, .ref t6]))]) [0, 1] rfl
  have hDc := hD.sub (ws' := [(h0, .inr (11, [.ref s0, .int 0, .ref s2, .ref s3, .ref s4, .int 0, .int (-1), .ref s7, .ref s8, .ref s9, .ref s10, .ref s11, .ref s12, .ref s13, .ref s14, .ref s15, .ref s16, .ref s17, .int 0])), (s7, .inr (1, [.int 0, .int 0, .int 0, .ref t3, .ref t4, .ref t5, .ref t6]))]) [0, 1] (by decide) rfl
  have hKc := hK.sub (tys' := []) [] rfl
  have hFc := va_free (wc := [(h0, .inr (11, [.ref s0, .int 0, .ref s2, .ref s3, .ref s4, .int 0, .int (-1), .ref s7, .ref s8, .ref s9, .ref s10, .ref s11, .ref s12, .ref s13, .ref s14, .ref s15, .ref s16, .ref s17, .int 0])), (s7, .inr (1, [.int 0, .int 0, .int 0, .ref t3, .ref t4, .ref t5, .ref t6]))]) hD hS hA [0, 1] rfl
  refine va_calli (va_runV (As := [.int x0]) (rest := []) ⟨hx, hb, hml, hown, hq⟩ (c_SB_isGuest l dC dI _ h0 s0 s2 s3 s4 s7 s8 s9 s10 s11 s12 s13 s14 s15 s16 s17 t3 t4 t5 t6 x0 ) (cwV 1 hq (gV qw_762 qw_764 qw_13 qw_119 qw_765) rfl rfl rfl (by decide +kernel) ⟨Nat.le_of_ble_eq_true rfl, Nat.le_of_ble_eq_true rfl⟩) ⟨fun a U g mk q => by obtain ⟨q0, q1, qP, qK, qD, qE⟩ := q; exact ⟨q0, q1, qP, va_K.moved (u := U) (U := U.calling g mk a) (Vm.Alike.refl U.vm) qK, qD, xE.same rfl qE⟩, va_recv hKc hPc (ci := 11) (q0 := 0) rfl rfl, fun U hU hW => ⟨rfl, by rw [hU], by rw [hU]; exact hPc, va_K.moved hW.alike hKc, hDc.weaken (fun _ _ _ _ => trivial), xE.warm hW hE⟩⟩ rfl rfl hl.1 rfl (lv_room (Nat.le_of_ble_eq_true rfl)) dX11_rests_2 ⟨Nat.le_of_ble_eq_true rfl, Nat.le_of_ble_eq_true rfl⟩) hS (fun q _ h => hFc q h) hFc (fun r_1 u t H1 locs ht hvm hw hB hz1 hk1 hS => ?_)
  obtain ⟨hP1, hK1, hD1⟩ := hB
  rw [ht] at hP1
  have hK1 := va_K.moved hvm.symm hK1
  obtain ⟨hP, hD⟩ := va_join (wr := []) (w1 := [(h0, .inr (11, [.ref s0, .int 0, .ref s2, .ref s3, .ref s4, .int 0, .int (-1), .ref s7, .ref s8, .ref s9, .ref s10, .ref s11, .ref s12, .ref s13, .ref s14, .ref s15, .ref s16, .ref s17, .int 0])), (s7, .inr (1, [.int 0, .int 0, .int 0, .ref t3, .ref t4, .ref t5, .ref t6]))]) hP hD [0, 1] [] rfl rfl (by decide) (by decide) hk1 hFc hP1 hD1
  generalize H1 = H at hP hS ⊢
  have hP : va_P (dC, dI) classes [(h0, .inr (11, [.ref s0, .int 0, .ref s2, .ref s3, .ref s4, .int 0, .int (-1), .ref s7, .ref s8, .ref s9, .ref s10, .ref s11, .ref s12, .ref s13, .ref s14, .ref s15, .ref s16, .ref s17, .int 0])), (s7, .inr (1, [.int 0, .int 0, .int 0, .ref t3, .ref t4, .ref t5, .ref t6]))] H := hP
  have hD : va_D A [(h0, .inr (11, [.ref s0, .int 0, .ref s2, .ref s3, .ref s4, .int 0, .int (-1), .ref s7, .ref s8, .ref s9, .ref s10, .ref s11, .ref s12, .ref s13, .ref s14, .ref s15, .ref s16, .ref s17, .int 0])), (s7, .inr (1, [.int 0, .int 0, .int 0, .ref t3, .ref t4, .ref t5, .ref t6]))] := hD
  obtain rfl : r_1 = 0 := hw
  refine lv_if_eq (tgt := 21) hx hb dX11_rests_5 (by decide) (fun _ => ?_) (fun c9 => absurd c9 (by decide))
  refine lv_iconst (v := (-1)) hx hb dX11_rests_21 (by decide) ?_
  refine W.widen (k := 0) (n := 0) (Nat.le_of_ble_eq_true rfl) (Nat.le_of_ble_eq_true rfl) ?_
  exact W.iret (v := (-1)) hx hb hr (fun t ht hW => ⟨⟨(-1), (), rfl, rfl, trivial⟩, hS.F ht⟩) hS.2.2 dX11_rests_22

set_option maxHeartbeats 4000000 in
set_option maxRecDepth 100000 in
/-- c_SB_crumbs -/
theorem c_SB_crumbs (l : Launch) (dC : Nat → ClassId) (dI : Nat → Nat → Nat) (sz : Nat) (h0 : Nat) (s0 : Nat) (s2 : Nat) (s3 : Nat) (s4 : Nat) (s7 : Nat) (s8 : Nat) (s9 : Nat) (s10 : Nat) (s11 : Nat) (s12 : Nat) (s13 : Nat) (s14 : Nat) (s15 : Nat) (s16 : Nat) (s17 : Nat) (t3 : Nat) (t4 : Nat) (t5 : Nat) (t6 : Nat) (x0 : Int32) (x1 : Int32) : Met l yX11_crumbs (.code yX11_crumbs cX11_crumbs 9 (some .int) :: wsA) ({ frames := 1, cells := 0, slots := 0, locals := 21 }) (va_Pc [.ref h0, .int x0, .int x1] (fun U => U.heap.size = sz ∧ va_P (dC, dI) classes [(h0, .inr (11, [.ref s0, .int 0, .ref s2, .ref s3, .ref s4, .int 0, .int (-1), .ref s7, .ref s8, .ref s9, .ref s10, .ref s11, .ref s12, .ref s13, .ref s14, .ref s15, .ref s16, .ref s17, .int 0])), (s7, .inr (1, [.int 0, .int 0, .int 0, .ref t3, .ref t4, .ref t5, .ref t6]))] U.heap ∧ va_K (dC, dI) classes [] U ∧ va_D (fun _ => True) [(h0, .inr (11, [.ref s0, .int 0, .ref s2, .ref s3, .ref s4, .int 0, .int (-1), .ref s7, .ref s8, .ref s9, .ref s10, .ref s11, .ref s12, .ref s13, .ref s14, .ref s15, .ref s16, .ref s17, .int 0])), (s7, .inr (1, [.int 0, .int 0, .int 0, .ref t3, .ref t4, .ref t5, .ref t6]))] ∧ xE U)) (va_Qi (fun (r : Int32) (_ : Unit) => r = (-1)) (fun _ _ => True) (va_A [(h0, .inr (11, [.ref s0, .int 0, .ref s2, .ref s3, .ref s4, .int 0, .int (-1), .ref s7, .ref s8, .ref s9, .ref s10, .ref s11, .ref s12, .ref s13, .ref s14, .ref s15, .ref s16, .ref s17, .int 0])), (s7, .inr (1, [.int 0, .int 0, .int 0, .ref t3, .ref t4, .ref t5, .ref t6]))] sz)) 0 0 (va_A [(h0, .inr (11, [.ref s0, .int 0, .ref s2, .ref s3, .ref s4, .int 0, .int (-1), .ref s7, .ref s8, .ref s9, .ref s10, .ref s11, .ref s12, .ref s13, .ref s14, .ref s15, .ref s16, .ref s17, .int 0])), (s7, .inr (1, [.int 0, .int 0, .int 0, .ref t3, .ref t4, .ref t5, .ref t6]))] sz) := by
  refine Met.ofW (cc := cX11_crumbs) (maxL := 9) (ret := (some .int)) (by decide) rfl ?_
  intro p e s m args below meth c s₁ B hml hv
  obtain ⟨rfl, hsz, hP, hK, hD0, hE⟩ := hv
  have hx := B.exec
  have hb := B.bytes
  have hr := B.returns
  have hts := atoms_spec (ws := .code yX11_crumbs cX11_crumbs 9 (some .int) :: wsA) B.pre
  have hq : ∀ w ∈ wsA, w.before _ s = true := fun w h => hts w (List.mem_cons_of_mem _ h)
  have hown : s.vm.findClass RX11 = some m.cls := findClass_of_methodNamed B.named
  have hlocks := B.notSynchronized
  subst hsz
  have hD := hD0.self (sz := s.heap.size)
  generalize hAe : va_A [(h0, .inr (11, [.ref s0, .int 0, .ref s2, .ref s3, .ref s4, .int 0, .int (-1), .ref s7, .ref s8, .ref s9, .ref s10, .ref s11, .ref s12, .ref s13, .ref s14, .ref s15, .ref s16, .ref s17, .int 0])), (s7, .inr (1, [.int 0, .int 0, .int 0, .ref t3, .ref t4, .ref t5, .ref t6]))] s.heap.size = A at hD ⊢
  have hA : ∀ q : Nat, s.heap.size ≤ q → A q := fun q h => by rw [← hAe]; exact Or.inr h
  have hS : va_S A s.heap s.heap [] := va_S.rf
  have hl := lv_entry ([.ref h0, .int x0, .int x1]) (n := 9) (Nat.le_of_ble_eq_true rfl)
  rw [lg_entry_eq]
  generalize (lg_sl ([.ref h0, .int x0, .int x1]) ++ List.replicate (9 - (lg_sl ([.ref h0, .int x0, .int x1])).length) Slot.unset).toArray = ls at hl ⊢
  have hl : lv_has ls 9 [(0, .ref h0), (1, .int x0), (2, .int x1)] := hl
  refine lv_aload_n hx hb dX11_crumbs_0 rfl (lv_at hl 0 rfl) ?_
  refine lv_iload_n hx hb dX11_crumbs_1 rfl (lv_at hl 2 rfl) ?_
  have hPc := hP.sub (ws' := [(h0, .inr (11, [.ref s0, .int 0, .ref s2, .ref s3, .ref s4, .int 0, .int (-1), .ref s7, .ref s8, .ref s9, .ref s10, .ref s11, .ref s12, .ref s13, .ref s14, .ref s15, .ref s16, .ref s17, .int 0])), (s7, .inr (1, [.int 0, .int 0, .int 0, .ref t3, .ref t4, .ref t5, .ref t6]))]) [0, 1] rfl
  have hDc := hD.sub (ws' := [(h0, .inr (11, [.ref s0, .int 0, .ref s2, .ref s3, .ref s4, .int 0, .int (-1), .ref s7, .ref s8, .ref s9, .ref s10, .ref s11, .ref s12, .ref s13, .ref s14, .ref s15, .ref s16, .ref s17, .int 0])), (s7, .inr (1, [.int 0, .int 0, .int 0, .ref t3, .ref t4, .ref t5, .ref t6]))]) [0, 1] (by decide) rfl
  have hKc := hK.sub (tys' := []) [] rfl
  have hFc := va_free (wc := [(h0, .inr (11, [.ref s0, .int 0, .ref s2, .ref s3, .ref s4, .int 0, .int (-1), .ref s7, .ref s8, .ref s9, .ref s10, .ref s11, .ref s12, .ref s13, .ref s14, .ref s15, .ref s16, .ref s17, .int 0])), (s7, .inr (1, [.int 0, .int 0, .int 0, .ref t3, .ref t4, .ref t5, .ref t6]))]) hD hS hA [0, 1] rfl
  refine va_calli (va_runV (As := [.int x1]) (rest := []) ⟨hx, hb, hml, hown, hq⟩ (c_SB_isGuest l dC dI _ h0 s0 s2 s3 s4 s7 s8 s9 s10 s11 s12 s13 s14 s15 s16 s17 t3 t4 t5 t6 x1 ) (cwV 1 hq (gV qw_762 qw_764 qw_13 qw_119 qw_765) rfl rfl rfl (by decide +kernel) ⟨Nat.le_of_ble_eq_true rfl, Nat.le_of_ble_eq_true rfl⟩) ⟨fun a U g mk q => by obtain ⟨q0, q1, qP, qK, qD, qE⟩ := q; exact ⟨q0, q1, qP, va_K.moved (u := U) (U := U.calling g mk a) (Vm.Alike.refl U.vm) qK, qD, xE.same rfl qE⟩, va_recv hKc hPc (ci := 11) (q0 := 0) rfl rfl, fun U hU hW => ⟨rfl, by rw [hU], by rw [hU]; exact hPc, va_K.moved hW.alike hKc, hDc.weaken (fun _ _ _ _ => trivial), xE.warm hW hE⟩⟩ rfl rfl hl.1 rfl (lv_room (Nat.le_of_ble_eq_true rfl)) dX11_crumbs_2 ⟨Nat.le_of_ble_eq_true rfl, Nat.le_of_ble_eq_true rfl⟩) hS (fun q _ h => hFc q h) hFc (fun r_1 u t H1 locs ht hvm hw hB hz1 hk1 hS => ?_)
  obtain ⟨hP1, hK1, hD1⟩ := hB
  rw [ht] at hP1
  have hK1 := va_K.moved hvm.symm hK1
  obtain ⟨hP, hD⟩ := va_join (wr := []) (w1 := [(h0, .inr (11, [.ref s0, .int 0, .ref s2, .ref s3, .ref s4, .int 0, .int (-1), .ref s7, .ref s8, .ref s9, .ref s10, .ref s11, .ref s12, .ref s13, .ref s14, .ref s15, .ref s16, .ref s17, .int 0])), (s7, .inr (1, [.int 0, .int 0, .int 0, .ref t3, .ref t4, .ref t5, .ref t6]))]) hP hD [0, 1] [] rfl rfl (by decide) (by decide) hk1 hFc hP1 hD1
  generalize H1 = H at hP hS ⊢
  have hP : va_P (dC, dI) classes [(h0, .inr (11, [.ref s0, .int 0, .ref s2, .ref s3, .ref s4, .int 0, .int (-1), .ref s7, .ref s8, .ref s9, .ref s10, .ref s11, .ref s12, .ref s13, .ref s14, .ref s15, .ref s16, .ref s17, .int 0])), (s7, .inr (1, [.int 0, .int 0, .int 0, .ref t3, .ref t4, .ref t5, .ref t6]))] H := hP
  have hD : va_D A [(h0, .inr (11, [.ref s0, .int 0, .ref s2, .ref s3, .ref s4, .int 0, .int (-1), .ref s7, .ref s8, .ref s9, .ref s10, .ref s11, .ref s12, .ref s13, .ref s14, .ref s15, .ref s16, .ref s17, .int 0])), (s7, .inr (1, [.int 0, .int 0, .int 0, .ref t3, .ref t4, .ref t5, .ref t6]))] := hD
  obtain rfl : r_1 = 0 := hw
  refine lv_if_eq (tgt := 19) hx hb dX11_crumbs_5 (by decide) (fun _ => ?_) (fun c9 => absurd c9 (by decide))
  refine lv_iconst (v := (-1)) hx hb dX11_crumbs_19 (by decide) ?_
  refine W.widen (k := 0) (n := 0) (Nat.le_of_ble_eq_true rfl) (Nat.le_of_ble_eq_true rfl) ?_
  exact W.iret (v := (-1)) hx hb hr (fun t ht hW => ⟨⟨(-1), (), rfl, rfl, trivial⟩, hS.F ht⟩) hS.2.2 dX11_crumbs_20

set_option maxHeartbeats 4000000 in
set_option maxRecDepth 100000 in
/-- c_SB_throat -/
theorem c_SB_throat (l : Launch) (dC : Nat → ClassId) (dI : Nat → Nat → Nat) (sz : Nat) (h0 : Nat) (s0 : Nat) (s2 : Nat) (s3 : Nat) (s4 : Nat) (s7 : Nat) (s8 : Nat) (s9 : Nat) (s10 : Nat) (s11 : Nat) (s12 : Nat) (s13 : Nat) (s14 : Nat) (s15 : Nat) (s16 : Nat) (s17 : Nat) (t3 : Nat) (t4 : Nat) (t5 : Nat) (t6 : Nat) (x0 : Int32) : Met l yX11_throat (.code yX11_throat cX11_throat 2 (some .int) :: wsA) ({ frames := 0, cells := 0, slots := 0, locals := 0 }) (va_Pc [.ref h0, .int x0] (fun U => U.heap.size = sz ∧ va_P (dC, dI) classes [(h0, .inr (11, [.ref s0, .int 0, .ref s2, .ref s3, .ref s4, .int 0, .int (-1), .ref s7, .ref s8, .ref s9, .ref s10, .ref s11, .ref s12, .ref s13, .ref s14, .ref s15, .ref s16, .ref s17, .int 0])), (s7, .inr (1, [.int 0, .int 0, .int 0, .ref t3, .ref t4, .ref t5, .ref t6]))] U.heap ∧ va_K (dC, dI) classes [] U ∧ va_D (fun _ => True) [(h0, .inr (11, [.ref s0, .int 0, .ref s2, .ref s3, .ref s4, .int 0, .int (-1), .ref s7, .ref s8, .ref s9, .ref s10, .ref s11, .ref s12, .ref s13, .ref s14, .ref s15, .ref s16, .ref s17, .int 0])), (s7, .inr (1, [.int 0, .int 0, .int 0, .ref t3, .ref t4, .ref t5, .ref t6]))] ∧ xE U)) (va_Qi (fun (r : Int32) (_ : Unit) => r = (-2)) (fun _ _ => True) (va_A [(h0, .inr (11, [.ref s0, .int 0, .ref s2, .ref s3, .ref s4, .int 0, .int (-1), .ref s7, .ref s8, .ref s9, .ref s10, .ref s11, .ref s12, .ref s13, .ref s14, .ref s15, .ref s16, .ref s17, .int 0])), (s7, .inr (1, [.int 0, .int 0, .int 0, .ref t3, .ref t4, .ref t5, .ref t6]))] sz)) 0 0 (va_A [(h0, .inr (11, [.ref s0, .int 0, .ref s2, .ref s3, .ref s4, .int 0, .int (-1), .ref s7, .ref s8, .ref s9, .ref s10, .ref s11, .ref s12, .ref s13, .ref s14, .ref s15, .ref s16, .ref s17, .int 0])), (s7, .inr (1, [.int 0, .int 0, .int 0, .ref t3, .ref t4, .ref t5, .ref t6]))] sz) := by
  refine Met.ofW (cc := cX11_throat) (maxL := 2) (ret := (some .int)) (by decide) rfl ?_
  intro p e s m args below meth c s₁ B hml hv
  obtain ⟨rfl, hsz, hP, hK, hD0, hE⟩ := hv
  have hx := B.exec
  have hb := B.bytes
  have hr := B.returns
  have hts := atoms_spec (ws := .code yX11_throat cX11_throat 2 (some .int) :: wsA) B.pre
  have hq : ∀ w ∈ wsA, w.before _ s = true := fun w h => hts w (List.mem_cons_of_mem _ h)
  have hown : s.vm.findClass RX11 = some m.cls := findClass_of_methodNamed B.named
  have hlocks := B.notSynchronized
  subst hsz
  have hD := hD0.self (sz := s.heap.size)
  generalize hAe : va_A [(h0, .inr (11, [.ref s0, .int 0, .ref s2, .ref s3, .ref s4, .int 0, .int (-1), .ref s7, .ref s8, .ref s9, .ref s10, .ref s11, .ref s12, .ref s13, .ref s14, .ref s15, .ref s16, .ref s17, .int 0])), (s7, .inr (1, [.int 0, .int 0, .int 0, .ref t3, .ref t4, .ref t5, .ref t6]))] s.heap.size = A at hD ⊢
  have hA : ∀ q : Nat, s.heap.size ≤ q → A q := fun q h => by rw [← hAe]; exact Or.inr h
  have hS : va_S A s.heap s.heap [] := va_S.rf
  have hl := lv_entry ([.ref h0, .int x0]) (n := 2) (Nat.le_of_ble_eq_true rfl)
  rw [lg_entry_eq]
  generalize (lg_sl ([.ref h0, .int x0]) ++ List.replicate (2 - (lg_sl ([.ref h0, .int x0])).length) Slot.unset).toArray = ls at hl ⊢
  have hl : lv_has ls 2 [(0, .ref h0), (1, .int x0)] := hl
  refine lv_iload_n hx hb dX11_throat_0 rfl (lv_at hl 1 rfl) ?_
  refine lv_if_lt (tgt := 15) hx hb dX11_throat_1 (by decide) (fun c_1 => ?_) (fun c_1 => ?_)
  · refine lv_bipush (v := (-2)) hx hb dX11_throat_15 (by decide) ?_
    refine W.widen (k := 0) (n := 0) (Nat.le_of_ble_eq_true rfl) (Nat.le_of_ble_eq_true rfl) ?_
    exact W.iret (v := (-2)) hx hb hr (fun t ht hW => ⟨⟨(-2), (), rfl, rfl, trivial⟩, hS.F ht⟩) hS.2.2 dX11_throat_17
  · refine lv_iload_n hx hb dX11_throat_4 rfl (lv_at hl 1 rfl) ?_
    refine lv_aload_n hx hb dX11_throat_5 rfl (lv_at hl 0 rfl) ?_
    refine va_get (D := (dC, dI)) (ci := 11) (v := .ref s7) (C := RX11) (T := TX11) (N := 19) hx hb hq inX11 hown hK hP 0 rfl rfl 7 (by decide) (hq _ qw_456) (fun _ h9 => h9) rfl dX11_throat_6 ?_
    refine va_get (D := (dC, dI)) (ci := 1) (v := .int 0) (C := RX1) (T := TX1) (N := 7) hx hb hq inX1 hown hK hP 1 rfl rfl 0 (by decide) (hq _ qw_227) (fun _ h9 => h9) rfl dX11_throat_9 ?_
    refine lv_icmp_lt (tgt := 18) hx hb dX11_throat_12 (by decide) (fun c9 => by have z0 : (0 : Int32).toInt = 0 := (by decide); simp only [Int32.le_iff_toInt_le, Int32.lt_iff_toInt_lt, ← Int32.toInt_inj, z0] at c9 c_1; omega) (fun _ => ?_)
    refine lv_bipush (v := (-2)) hx hb dX11_throat_15 (by decide) ?_
    refine W.widen (k := 0) (n := 0) (Nat.le_of_ble_eq_true rfl) (Nat.le_of_ble_eq_true rfl) ?_
    exact W.iret (v := (-2)) hx hb hr (fun t ht hW => ⟨⟨(-2), (), rfl, rfl, trivial⟩, hS.F ht⟩) hS.2.2 dX11_throat_17

set_option maxHeartbeats 4000000 in
set_option maxRecDepth 100000 in
/-- c_SB_offer -/
theorem c_SB_offer (l : Launch) (dC : Nat → ClassId) (dI : Nat → Nat → Nat) (sz : Nat) (h0 : Nat) (s0 : Nat) (s2 : Nat) (s3 : Nat) (s4 : Nat) (s7 : Nat) (s8 : Nat) (s9 : Nat) (s10 : Nat) (s11 : Nat) (s12 : Nat) (s13 : Nat) (s14 : Nat) (s15 : Nat) (s16 : Nat) (s17 : Nat) (t3 : Nat) (t4 : Nat) (t5 : Nat) (t6 : Nat) (x0 : Int32) : Met l yX11_offer (.code yX11_offer cX11_offer 4 (some .int) :: wsA) ({ frames := 1, cells := 0, slots := 0, locals := 21 }) (va_Pc [.ref h0, .int x0] (fun U => U.heap.size = sz ∧ va_P (dC, dI) classes [(h0, .inr (11, [.ref s0, .int 0, .ref s2, .ref s3, .ref s4, .int 0, .int (-1), .ref s7, .ref s8, .ref s9, .ref s10, .ref s11, .ref s12, .ref s13, .ref s14, .ref s15, .ref s16, .ref s17, .int 0])), (s7, .inr (1, [.int 0, .int 0, .int 0, .ref t3, .ref t4, .ref t5, .ref t6]))] U.heap ∧ va_K (dC, dI) classes [] U ∧ va_D (fun _ => True) [(h0, .inr (11, [.ref s0, .int 0, .ref s2, .ref s3, .ref s4, .int 0, .int (-1), .ref s7, .ref s8, .ref s9, .ref s10, .ref s11, .ref s12, .ref s13, .ref s14, .ref s15, .ref s16, .ref s17, .int 0])), (s7, .inr (1, [.int 0, .int 0, .int 0, .ref t3, .ref t4, .ref t5, .ref t6]))] ∧ xE U)) (va_Qi (fun (r : Int32) (_ : Unit) => r = (-2)) (fun _ _ => True) (va_A [(h0, .inr (11, [.ref s0, .int 0, .ref s2, .ref s3, .ref s4, .int 0, .int (-1), .ref s7, .ref s8, .ref s9, .ref s10, .ref s11, .ref s12, .ref s13, .ref s14, .ref s15, .ref s16, .ref s17, .int 0])), (s7, .inr (1, [.int 0, .int 0, .int 0, .ref t3, .ref t4, .ref t5, .ref t6]))] sz)) 0 0 (va_A [(h0, .inr (11, [.ref s0, .int 0, .ref s2, .ref s3, .ref s4, .int 0, .int (-1), .ref s7, .ref s8, .ref s9, .ref s10, .ref s11, .ref s12, .ref s13, .ref s14, .ref s15, .ref s16, .ref s17, .int 0])), (s7, .inr (1, [.int 0, .int 0, .int 0, .ref t3, .ref t4, .ref t5, .ref t6]))] sz) := by
  refine Met.ofW (cc := cX11_offer) (maxL := 4) (ret := (some .int)) (by decide) rfl ?_
  intro p e s m args below meth c s₁ B hml hv
  obtain ⟨rfl, hsz, hP, hK, hD0, hE⟩ := hv
  have hx := B.exec
  have hb := B.bytes
  have hr := B.returns
  have hts := atoms_spec (ws := .code yX11_offer cX11_offer 4 (some .int) :: wsA) B.pre
  have hq : ∀ w ∈ wsA, w.before _ s = true := fun w h => hts w (List.mem_cons_of_mem _ h)
  have hown : s.vm.findClass RX11 = some m.cls := findClass_of_methodNamed B.named
  have hlocks := B.notSynchronized
  subst hsz
  have hD := hD0.self (sz := s.heap.size)
  generalize hAe : va_A [(h0, .inr (11, [.ref s0, .int 0, .ref s2, .ref s3, .ref s4, .int 0, .int (-1), .ref s7, .ref s8, .ref s9, .ref s10, .ref s11, .ref s12, .ref s13, .ref s14, .ref s15, .ref s16, .ref s17, .int 0])), (s7, .inr (1, [.int 0, .int 0, .int 0, .ref t3, .ref t4, .ref t5, .ref t6]))] s.heap.size = A at hD ⊢
  have hA : ∀ q : Nat, s.heap.size ≤ q → A q := fun q h => by rw [← hAe]; exact Or.inr h
  have hS : va_S A s.heap s.heap [] := va_S.rf
  have hl := lv_entry ([.ref h0, .int x0]) (n := 4) (Nat.le_of_ble_eq_true rfl)
  rw [lg_entry_eq]
  generalize (lg_sl ([.ref h0, .int x0]) ++ List.replicate (4 - (lg_sl ([.ref h0, .int x0])).length) Slot.unset).toArray = ls at hl ⊢
  have hl : lv_has ls 4 [(0, .ref h0), (1, .int x0)] := hl
  refine lv_iload_n hx hb dX11_offer_0 rfl (lv_at hl 1 rfl) ?_
  refine lv_iconst (v := (-1)) hx hb dX11_offer_1 (by decide) ?_
  refine lv_icmp_eq (tgt := 24) hx hb dX11_offer_2 (by decide) (fun c_1 => ?_) (fun c_1 => ?_)
  · refine lv_iconst (v := 1) hx hb dX11_offer_24 (by decide) ?_
    refine lv_goto (tgt := 29) hx hb dX11_offer_25 (by decide) ?_
    refine lv_istore_n (lv' := [(2, .int 1), (0, .ref h0), (1, .int x0)]) hx hb dX11_offer_29 rfl hl (by decide) rfl (fun ls hl => ?_)
    refine lv_aload_n hx hb dX11_offer_30 rfl (lv_at hl 1 rfl) ?_
    have hPc := hP.sub (ws' := [(h0, .inr (11, [.ref s0, .int 0, .ref s2, .ref s3, .ref s4, .int 0, .int (-1), .ref s7, .ref s8, .ref s9, .ref s10, .ref s11, .ref s12, .ref s13, .ref s14, .ref s15, .ref s16, .ref s17, .int 0])), (s7, .inr (1, [.int 0, .int 0, .int 0, .ref t3, .ref t4, .ref t5, .ref t6]))]) [0, 1] rfl
    have hDc := hD.sub (ws' := [(h0, .inr (11, [.ref s0, .int 0, .ref s2, .ref s3, .ref s4, .int 0, .int (-1), .ref s7, .ref s8, .ref s9, .ref s10, .ref s11, .ref s12, .ref s13, .ref s14, .ref s15, .ref s16, .ref s17, .int 0])), (s7, .inr (1, [.int 0, .int 0, .int 0, .ref t3, .ref t4, .ref t5, .ref t6]))]) [0, 1] (by decide) rfl
    have hKc := hK.sub (tys' := []) [] rfl
    have hFc := va_free (wc := [(h0, .inr (11, [.ref s0, .int 0, .ref s2, .ref s3, .ref s4, .int 0, .int (-1), .ref s7, .ref s8, .ref s9, .ref s10, .ref s11, .ref s12, .ref s13, .ref s14, .ref s15, .ref s16, .ref s17, .int 0])), (s7, .inr (1, [.int 0, .int 0, .int 0, .ref t3, .ref t4, .ref t5, .ref t6]))]) hD hS hA [0, 1] rfl
    refine va_calli (va_runV (As := []) (rest := []) ⟨hx, hb, hml, hown, hq⟩ (c_SB_untold l dC dI _ h0 s0 s2 s3 s4 s7 s8 s9 s10 s11 s12 s13 s14 s15 s16 s17 t3 t4 t5 t6 ) (cwV 0 hq (gV qw_778 qw_780 qw_14 qw_119 qw_781) rfl rfl rfl (by decide +kernel) ⟨Nat.le_of_ble_eq_true rfl, Nat.le_of_ble_eq_true rfl⟩) ⟨fun a U g mk q => by obtain ⟨q0, q1, qP, qK, qD, qE⟩ := q; exact ⟨q0, q1, qP, va_K.moved (u := U) (U := U.calling g mk a) (Vm.Alike.refl U.vm) qK, qD, xE.same rfl qE⟩, va_recv hKc hPc (ci := 11) (q0 := 0) rfl rfl, fun U hU hW => ⟨rfl, by rw [hU], by rw [hU]; exact hPc, va_K.moved hW.alike hKc, hDc.weaken (fun _ _ _ _ => trivial), xE.warm hW hE⟩⟩ rfl rfl hl.1 rfl (lv_room (Nat.le_of_ble_eq_true rfl)) dX11_offer_31 ⟨Nat.le_of_ble_eq_true rfl, Nat.le_of_ble_eq_true rfl⟩) hS (fun q _ h => hFc q h) hFc (fun r_2 u t H1 locs ht hvm hw hB hz1 hk1 hS => ?_)
    obtain ⟨hP1, hK1, hD1⟩ := hB
    rw [ht] at hP1
    have hK1 := va_K.moved hvm.symm hK1
    obtain ⟨hP, hD⟩ := va_join (wr := []) (w1 := [(h0, .inr (11, [.ref s0, .int 0, .ref s2, .ref s3, .ref s4, .int 0, .int (-1), .ref s7, .ref s8, .ref s9, .ref s10, .ref s11, .ref s12, .ref s13, .ref s14, .ref s15, .ref s16, .ref s17, .int 0])), (s7, .inr (1, [.int 0, .int 0, .int 0, .ref t3, .ref t4, .ref t5, .ref t6]))]) hP hD [0, 1] [] rfl rfl (by decide) (by decide) hk1 hFc hP1 hD1
    generalize H1 = H at hP hS ⊢
    have hP : va_P (dC, dI) classes [(h0, .inr (11, [.ref s0, .int 0, .ref s2, .ref s3, .ref s4, .int 0, .int (-1), .ref s7, .ref s8, .ref s9, .ref s10, .ref s11, .ref s12, .ref s13, .ref s14, .ref s15, .ref s16, .ref s17, .int 0])), (s7, .inr (1, [.int 0, .int 0, .int 0, .ref t3, .ref t4, .ref t5, .ref t6]))] H := hP
    have hD : va_D A [(h0, .inr (11, [.ref s0, .int 0, .ref s2, .ref s3, .ref s4, .int 0, .int (-1), .ref s7, .ref s8, .ref s9, .ref s10, .ref s11, .ref s12, .ref s13, .ref s14, .ref s15, .ref s16, .ref s17, .int 0])), (s7, .inr (1, [.int 0, .int 0, .int 0, .ref t3, .ref t4, .ref t5, .ref t6]))] := hD
    obtain rfl : r_2 = 1 := hw
    refine lv_if_ne (tgt := 52) hx hb dX11_offer_34 (by decide) (fun _ => ?_) (fun c9 => absurd c9 (by decide))
    refine lv_bipush (v := (-2)) hx hb dX11_offer_52 (by decide) ?_
    refine W.widen (k := 0) (n := 0) (Nat.le_of_ble_eq_true rfl) (Nat.le_of_ble_eq_true rfl) ?_
    exact W.iret (v := (-2)) hx hb hr (fun t ht hW => ⟨⟨(-2), (), rfl, rfl, trivial⟩, hS.F ht⟩) hS.2.2 dX11_offer_54
  · refine lv_aload_n hx hb dX11_offer_5 rfl (lv_at hl 0 rfl) ?_
    refine lv_iload_n hx hb dX11_offer_6 rfl (lv_at hl 1 rfl) ?_
    have hPc := hP.sub (ws' := [(h0, .inr (11, [.ref s0, .int 0, .ref s2, .ref s3, .ref s4, .int 0, .int (-1), .ref s7, .ref s8, .ref s9, .ref s10, .ref s11, .ref s12, .ref s13, .ref s14, .ref s15, .ref s16, .ref s17, .int 0])), (s7, .inr (1, [.int 0, .int 0, .int 0, .ref t3, .ref t4, .ref t5, .ref t6]))]) [0, 1] rfl
    have hDc := hD.sub (ws' := [(h0, .inr (11, [.ref s0, .int 0, .ref s2, .ref s3, .ref s4, .int 0, .int (-1), .ref s7, .ref s8, .ref s9, .ref s10, .ref s11, .ref s12, .ref s13, .ref s14, .ref s15, .ref s16, .ref s17, .int 0])), (s7, .inr (1, [.int 0, .int 0, .int 0, .ref t3, .ref t4, .ref t5, .ref t6]))]) [0, 1] (by decide) rfl
    have hKc := hK.sub (tys' := []) [] rfl
    have hFc := va_free (wc := [(h0, .inr (11, [.ref s0, .int 0, .ref s2, .ref s3, .ref s4, .int 0, .int (-1), .ref s7, .ref s8, .ref s9, .ref s10, .ref s11, .ref s12, .ref s13, .ref s14, .ref s15, .ref s16, .ref s17, .int 0])), (s7, .inr (1, [.int 0, .int 0, .int 0, .ref t3, .ref t4, .ref t5, .ref t6]))]) hD hS hA [0, 1] rfl
    refine va_calli (va_runV (As := [.int x0]) (rest := []) ⟨hx, hb, hml, hown, hq⟩ (c_SB_isDish l dC dI _ h0 s0 s2 s3 s4 s7 s8 s9 s10 s11 s12 s13 s14 s15 s16 s17 t3 t4 t5 t6 x0 ) (cwV 1 hq (gV qw_739 qw_741 qw_12 qw_119 qw_742) rfl rfl rfl (by decide +kernel) ⟨Nat.le_of_ble_eq_true rfl, Nat.le_of_ble_eq_true rfl⟩) ⟨fun a U g mk q => by obtain ⟨q0, q1, qP, qK, qD, qE⟩ := q; exact ⟨q0, q1, qP, va_K.moved (u := U) (U := U.calling g mk a) (Vm.Alike.refl U.vm) qK, qD, xE.same rfl qE⟩, va_recv hKc hPc (ci := 11) (q0 := 0) rfl rfl, fun U hU hW => ⟨rfl, by rw [hU], by rw [hU]; exact hPc, va_K.moved hW.alike hKc, hDc.weaken (fun _ _ _ _ => trivial), xE.warm hW hE⟩⟩ rfl rfl hl.1 rfl (lv_room (Nat.le_of_ble_eq_true rfl)) dX11_offer_7 ⟨Nat.le_of_ble_eq_true rfl, Nat.le_of_ble_eq_true rfl⟩) hS (fun q _ h => hFc q h) hFc (fun r_3 u t H1 locs ht hvm hw hB hz1 hk1 hS => ?_)
    obtain ⟨hP1, hK1, hD1⟩ := hB
    rw [ht] at hP1
    have hK1 := va_K.moved hvm.symm hK1
    obtain ⟨hP, hD⟩ := va_join (wr := []) (w1 := [(h0, .inr (11, [.ref s0, .int 0, .ref s2, .ref s3, .ref s4, .int 0, .int (-1), .ref s7, .ref s8, .ref s9, .ref s10, .ref s11, .ref s12, .ref s13, .ref s14, .ref s15, .ref s16, .ref s17, .int 0])), (s7, .inr (1, [.int 0, .int 0, .int 0, .ref t3, .ref t4, .ref t5, .ref t6]))]) hP hD [0, 1] [] rfl rfl (by decide) (by decide) hk1 hFc hP1 hD1
    generalize H1 = H at hP hS ⊢
    have hP : va_P (dC, dI) classes [(h0, .inr (11, [.ref s0, .int 0, .ref s2, .ref s3, .ref s4, .int 0, .int (-1), .ref s7, .ref s8, .ref s9, .ref s10, .ref s11, .ref s12, .ref s13, .ref s14, .ref s15, .ref s16, .ref s17, .int 0])), (s7, .inr (1, [.int 0, .int 0, .int 0, .ref t3, .ref t4, .ref t5, .ref t6]))] H := hP
    have hD : va_D A [(h0, .inr (11, [.ref s0, .int 0, .ref s2, .ref s3, .ref s4, .int 0, .int (-1), .ref s7, .ref s8, .ref s9, .ref s10, .ref s11, .ref s12, .ref s13, .ref s14, .ref s15, .ref s16, .ref s17, .int 0])), (s7, .inr (1, [.int 0, .int 0, .int 0, .ref t3, .ref t4, .ref t5, .ref t6]))] := hD
    obtain rfl : r_3 = 0 := hw
    refine lv_if_eq (tgt := 28) hx hb dX11_offer_10 (by decide) (fun _ => ?_) (fun c9 => absurd c9 (by decide))
    refine lv_iconst (v := 0) hx hb dX11_offer_28 (by decide) ?_
    refine lv_istore_n (lv' := [(2, .int 0), (0, .ref h0), (1, .int x0)]) hx hb dX11_offer_29 rfl hl (by decide) rfl (fun ls hl => ?_)
    refine lv_aload_n hx hb dX11_offer_30 rfl (lv_at hl 1 rfl) ?_
    have hPc := hP.sub (ws' := [(h0, .inr (11, [.ref s0, .int 0, .ref s2, .ref s3, .ref s4, .int 0, .int (-1), .ref s7, .ref s8, .ref s9, .ref s10, .ref s11, .ref s12, .ref s13, .ref s14, .ref s15, .ref s16, .ref s17, .int 0])), (s7, .inr (1, [.int 0, .int 0, .int 0, .ref t3, .ref t4, .ref t5, .ref t6]))]) [0, 1] rfl
    have hDc := hD.sub (ws' := [(h0, .inr (11, [.ref s0, .int 0, .ref s2, .ref s3, .ref s4, .int 0, .int (-1), .ref s7, .ref s8, .ref s9, .ref s10, .ref s11, .ref s12, .ref s13, .ref s14, .ref s15, .ref s16, .ref s17, .int 0])), (s7, .inr (1, [.int 0, .int 0, .int 0, .ref t3, .ref t4, .ref t5, .ref t6]))]) [0, 1] (by decide) rfl
    have hKc := hK.sub (tys' := []) [] rfl
    have hFc := va_free (wc := [(h0, .inr (11, [.ref s0, .int 0, .ref s2, .ref s3, .ref s4, .int 0, .int (-1), .ref s7, .ref s8, .ref s9, .ref s10, .ref s11, .ref s12, .ref s13, .ref s14, .ref s15, .ref s16, .ref s17, .int 0])), (s7, .inr (1, [.int 0, .int 0, .int 0, .ref t3, .ref t4, .ref t5, .ref t6]))]) hD hS hA [0, 1] rfl
    refine va_calli (va_runV (As := []) (rest := []) ⟨hx, hb, hml, hown, hq⟩ (c_SB_untold l dC dI _ h0 s0 s2 s3 s4 s7 s8 s9 s10 s11 s12 s13 s14 s15 s16 s17 t3 t4 t5 t6 ) (cwV 0 hq (gV qw_778 qw_780 qw_14 qw_119 qw_781) rfl rfl rfl (by decide +kernel) ⟨Nat.le_of_ble_eq_true rfl, Nat.le_of_ble_eq_true rfl⟩) ⟨fun a U g mk q => by obtain ⟨q0, q1, qP, qK, qD, qE⟩ := q; exact ⟨q0, q1, qP, va_K.moved (u := U) (U := U.calling g mk a) (Vm.Alike.refl U.vm) qK, qD, xE.same rfl qE⟩, va_recv hKc hPc (ci := 11) (q0 := 0) rfl rfl, fun U hU hW => ⟨rfl, by rw [hU], by rw [hU]; exact hPc, va_K.moved hW.alike hKc, hDc.weaken (fun _ _ _ _ => trivial), xE.warm hW hE⟩⟩ rfl rfl hl.1 rfl (lv_room (Nat.le_of_ble_eq_true rfl)) dX11_offer_31 ⟨Nat.le_of_ble_eq_true rfl, Nat.le_of_ble_eq_true rfl⟩) hS (fun q _ h => hFc q h) hFc (fun r_4 u t H1 locs ht hvm hw hB hz1 hk1 hS => ?_)
    obtain ⟨hP1, hK1, hD1⟩ := hB
    rw [ht] at hP1
    have hK1 := va_K.moved hvm.symm hK1
    obtain ⟨hP, hD⟩ := va_join (wr := []) (w1 := [(h0, .inr (11, [.ref s0, .int 0, .ref s2, .ref s3, .ref s4, .int 0, .int (-1), .ref s7, .ref s8, .ref s9, .ref s10, .ref s11, .ref s12, .ref s13, .ref s14, .ref s15, .ref s16, .ref s17, .int 0])), (s7, .inr (1, [.int 0, .int 0, .int 0, .ref t3, .ref t4, .ref t5, .ref t6]))]) hP hD [0, 1] [] rfl rfl (by decide) (by decide) hk1 hFc hP1 hD1
    generalize H1 = H at hP hS ⊢
    have hP : va_P (dC, dI) classes [(h0, .inr (11, [.ref s0, .int 0, .ref s2, .ref s3, .ref s4, .int 0, .int (-1), .ref s7, .ref s8, .ref s9, .ref s10, .ref s11, .ref s12, .ref s13, .ref s14, .ref s15, .ref s16, .ref s17, .int 0])), (s7, .inr (1, [.int 0, .int 0, .int 0, .ref t3, .ref t4, .ref t5, .ref t6]))] H := hP
    have hD : va_D A [(h0, .inr (11, [.ref s0, .int 0, .ref s2, .ref s3, .ref s4, .int 0, .int (-1), .ref s7, .ref s8, .ref s9, .ref s10, .ref s11, .ref s12, .ref s13, .ref s14, .ref s15, .ref s16, .ref s17, .int 0])), (s7, .inr (1, [.int 0, .int 0, .int 0, .ref t3, .ref t4, .ref t5, .ref t6]))] := hD
    obtain rfl : r_4 = 1 := hw
    refine lv_if_ne (tgt := 52) hx hb dX11_offer_34 (by decide) (fun _ => ?_) (fun c9 => absurd c9 (by decide))
    refine lv_bipush (v := (-2)) hx hb dX11_offer_52 (by decide) ?_
    refine W.widen (k := 0) (n := 0) (Nat.le_of_ble_eq_true rfl) (Nat.le_of_ble_eq_true rfl) ?_
    exact W.iret (v := (-2)) hx hb hr (fun t ht hW => ⟨⟨(-2), (), rfl, rfl, trivial⟩, hS.F ht⟩) hS.2.2 dX11_offer_54

set_option maxHeartbeats 4000000 in
set_option maxRecDepth 100000 in
/-- c_SB_bestOfRows -/
theorem c_SB_bestOfRows (l : Launch) (dC : Nat → ClassId) (dI : Nat → Nat → Nat) (sz : Nat) (h0 : Nat) (s0 : Nat) (s2 : Nat) (s3 : Nat) (s4 : Nat) (s7 : Nat) (s8 : Nat) (s9 : Nat) (s10 : Nat) (s11 : Nat) (s12 : Nat) (s13 : Nat) (s14 : Nat) (s15 : Nat) (s16 : Nat) (s17 : Nat) (t3 : Nat) (t4 : Nat) (t5 : Nat) (t6 : Nat) (x0 : Int32) (x1 : Int32) (x2 : Int32) : Met l yX11_bestOfRows (.code yX11_bestOfRows cX11_bestOfRows 4 (some .int) :: wsA) ({ frames := 1, cells := 0, slots := 0, locals := 20 }) (va_Pc [.ref h0, .int x0, .int x1, .int x2] (fun U => U.heap.size = sz ∧ va_P (dC, dI) classes [(h0, .inr (11, [.ref s0, .int 0, .ref s2, .ref s3, .ref s4, .int 0, .int (-1), .ref s7, .ref s8, .ref s9, .ref s10, .ref s11, .ref s12, .ref s13, .ref s14, .ref s15, .ref s16, .ref s17, .int 0])), (s7, .inr (1, [.int 0, .int 0, .int 0, .ref t3, .ref t4, .ref t5, .ref t6]))] U.heap ∧ va_K (dC, dI) classes [] U ∧ va_D (fun _ => True) [(h0, .inr (11, [.ref s0, .int 0, .ref s2, .ref s3, .ref s4, .int 0, .int (-1), .ref s7, .ref s8, .ref s9, .ref s10, .ref s11, .ref s12, .ref s13, .ref s14, .ref s15, .ref s16, .ref s17, .int 0])), (s7, .inr (1, [.int 0, .int 0, .int 0, .ref t3, .ref t4, .ref t5, .ref t6]))] ∧ xE U)) (va_Qi (fun (r : Int32) (_ : Unit) => r = (-3)) (fun _ _ => True) (va_A [(h0, .inr (11, [.ref s0, .int 0, .ref s2, .ref s3, .ref s4, .int 0, .int (-1), .ref s7, .ref s8, .ref s9, .ref s10, .ref s11, .ref s12, .ref s13, .ref s14, .ref s15, .ref s16, .ref s17, .int 0])), (s7, .inr (1, [.int 0, .int 0, .int 0, .ref t3, .ref t4, .ref t5, .ref t6]))] sz)) 0 0 (va_A [(h0, .inr (11, [.ref s0, .int 0, .ref s2, .ref s3, .ref s4, .int 0, .int (-1), .ref s7, .ref s8, .ref s9, .ref s10, .ref s11, .ref s12, .ref s13, .ref s14, .ref s15, .ref s16, .ref s17, .int 0])), (s7, .inr (1, [.int 0, .int 0, .int 0, .ref t3, .ref t4, .ref t5, .ref t6]))] sz) := by
  refine Met.ofW (cc := cX11_bestOfRows) (maxL := 4) (ret := (some .int)) (by decide) rfl ?_
  intro p e s m args below meth c s₁ B hml hv
  obtain ⟨rfl, hsz, hP, hK, hD0, hE⟩ := hv
  have hx := B.exec
  have hb := B.bytes
  have hr := B.returns
  have hts := atoms_spec (ws := .code yX11_bestOfRows cX11_bestOfRows 4 (some .int) :: wsA) B.pre
  have hq : ∀ w ∈ wsA, w.before _ s = true := fun w h => hts w (List.mem_cons_of_mem _ h)
  have hown : s.vm.findClass RX11 = some m.cls := findClass_of_methodNamed B.named
  have hlocks := B.notSynchronized
  subst hsz
  have hD := hD0.self (sz := s.heap.size)
  generalize hAe : va_A [(h0, .inr (11, [.ref s0, .int 0, .ref s2, .ref s3, .ref s4, .int 0, .int (-1), .ref s7, .ref s8, .ref s9, .ref s10, .ref s11, .ref s12, .ref s13, .ref s14, .ref s15, .ref s16, .ref s17, .int 0])), (s7, .inr (1, [.int 0, .int 0, .int 0, .ref t3, .ref t4, .ref t5, .ref t6]))] s.heap.size = A at hD ⊢
  have hA : ∀ q : Nat, s.heap.size ≤ q → A q := fun q h => by rw [← hAe]; exact Or.inr h
  have hS : va_S A s.heap s.heap [] := va_S.rf
  have hl := lv_entry ([.ref h0, .int x0, .int x1, .int x2]) (n := 4) (Nat.le_of_ble_eq_true rfl)
  rw [lg_entry_eq]
  generalize (lg_sl ([.ref h0, .int x0, .int x1, .int x2]) ++ List.replicate (4 - (lg_sl ([.ref h0, .int x0, .int x1, .int x2])).length) Slot.unset).toArray = ls at hl ⊢
  have hl : lv_has ls 4 [(0, .ref h0), (1, .int x0), (2, .int x1), (3, .int x2)] := hl
  refine lv_aload_n hx hb dX11_bestOfRows_0 rfl (lv_at hl 0 rfl) ?_
  have hPc := hP.sub (ws' := [(h0, .inr (11, [.ref s0, .int 0, .ref s2, .ref s3, .ref s4, .int 0, .int (-1), .ref s7, .ref s8, .ref s9, .ref s10, .ref s11, .ref s12, .ref s13, .ref s14, .ref s15, .ref s16, .ref s17, .int 0])), (s7, .inr (1, [.int 0, .int 0, .int 0, .ref t3, .ref t4, .ref t5, .ref t6]))]) [0, 1] rfl
  have hDc := hD.sub (ws' := [(h0, .inr (11, [.ref s0, .int 0, .ref s2, .ref s3, .ref s4, .int 0, .int (-1), .ref s7, .ref s8, .ref s9, .ref s10, .ref s11, .ref s12, .ref s13, .ref s14, .ref s15, .ref s16, .ref s17, .int 0])), (s7, .inr (1, [.int 0, .int 0, .int 0, .ref t3, .ref t4, .ref t5, .ref t6]))]) [0, 1] (by decide) rfl
  have hKc := hK.sub (tys' := []) [] rfl
  have hFc := va_free (wc := [(h0, .inr (11, [.ref s0, .int 0, .ref s2, .ref s3, .ref s4, .int 0, .int (-1), .ref s7, .ref s8, .ref s9, .ref s10, .ref s11, .ref s12, .ref s13, .ref s14, .ref s15, .ref s16, .ref s17, .int 0])), (s7, .inr (1, [.int 0, .int 0, .int 0, .ref t3, .ref t4, .ref t5, .ref t6]))]) hD hS hA [0, 1] rfl
  refine va_calli (va_runV (As := []) (rest := []) ⟨hx, hb, hml, hown, hq⟩ (c_SB_untold l dC dI _ h0 s0 s2 s3 s4 s7 s8 s9 s10 s11 s12 s13 s14 s15 s16 s17 t3 t4 t5 t6 ) (cwV 0 hq (gV qw_778 qw_780 qw_14 qw_119 qw_781) rfl rfl rfl (by decide +kernel) ⟨Nat.le_of_ble_eq_true rfl, Nat.le_of_ble_eq_true rfl⟩) ⟨fun a U g mk q => by obtain ⟨q0, q1, qP, qK, qD, qE⟩ := q; exact ⟨q0, q1, qP, va_K.moved (u := U) (U := U.calling g mk a) (Vm.Alike.refl U.vm) qK, qD, xE.same rfl qE⟩, va_recv hKc hPc (ci := 11) (q0 := 0) rfl rfl, fun U hU hW => ⟨rfl, by rw [hU], by rw [hU]; exact hPc, va_K.moved hW.alike hKc, hDc.weaken (fun _ _ _ _ => trivial), xE.warm hW hE⟩⟩ rfl rfl hl.1 rfl (lv_room (Nat.le_of_ble_eq_true rfl)) dX11_bestOfRows_1 ⟨Nat.le_of_ble_eq_true rfl, Nat.le_of_ble_eq_true rfl⟩) hS (fun q _ h => hFc q h) hFc (fun r_1 u t H1 locs ht hvm hw hB hz1 hk1 hS => ?_)
  obtain ⟨hP1, hK1, hD1⟩ := hB
  rw [ht] at hP1
  have hK1 := va_K.moved hvm.symm hK1
  obtain ⟨hP, hD⟩ := va_join (wr := []) (w1 := [(h0, .inr (11, [.ref s0, .int 0, .ref s2, .ref s3, .ref s4, .int 0, .int (-1), .ref s7, .ref s8, .ref s9, .ref s10, .ref s11, .ref s12, .ref s13, .ref s14, .ref s15, .ref s16, .ref s17, .int 0])), (s7, .inr (1, [.int 0, .int 0, .int 0, .ref t3, .ref t4, .ref t5, .ref t6]))]) hP hD [0, 1] [] rfl rfl (by decide) (by decide) hk1 hFc hP1 hD1
  generalize H1 = H at hP hS ⊢
  have hP : va_P (dC, dI) classes [(h0, .inr (11, [.ref s0, .int 0, .ref s2, .ref s3, .ref s4, .int 0, .int (-1), .ref s7, .ref s8, .ref s9, .ref s10, .ref s11, .ref s12, .ref s13, .ref s14, .ref s15, .ref s16, .ref s17, .int 0])), (s7, .inr (1, [.int 0, .int 0, .int 0, .ref t3, .ref t4, .ref t5, .ref t6]))] H := hP
  have hD : va_D A [(h0, .inr (11, [.ref s0, .int 0, .ref s2, .ref s3, .ref s4, .int 0, .int (-1), .ref s7, .ref s8, .ref s9, .ref s10, .ref s11, .ref s12, .ref s13, .ref s14, .ref s15, .ref s16, .ref s17, .int 0])), (s7, .inr (1, [.int 0, .int 0, .int 0, .ref t3, .ref t4, .ref t5, .ref t6]))] := hD
  obtain rfl : r_1 = 1 := hw
  refine lv_if_ne (tgt := 25) hx hb dX11_bestOfRows_4 (by decide) (fun _ => ?_) (fun c9 => absurd c9 (by decide))
  refine lv_bipush (v := (-3)) hx hb dX11_bestOfRows_25 (by decide) ?_
  refine W.widen (k := 0) (n := 0) (Nat.le_of_ble_eq_true rfl) (Nat.le_of_ble_eq_true rfl) ?_
  exact W.iret (v := (-3)) hx hb hr (fun t ht hW => ⟨⟨(-3), (), rfl, rfl, trivial⟩, hS.F ht⟩) hS.2.2 dX11_bestOfRows_27

set_option maxHeartbeats 4000000 in
set_option maxRecDepth 100000 in
/-- c_SB_bestRow -/
theorem c_SB_bestRow (l : Launch) (dC : Nat → ClassId) (dI : Nat → Nat → Nat) (sz : Nat) (h0 : Nat) (s0 : Nat) (s2 : Nat) (s3 : Nat) (s4 : Nat) (s7 : Nat) (s8 : Nat) (s9 : Nat) (s10 : Nat) (s11 : Nat) (s12 : Nat) (s13 : Nat) (s14 : Nat) (s15 : Nat) (s16 : Nat) (s17 : Nat) (t3 : Nat) (t4 : Nat) (t5 : Nat) (t6 : Nat) (x0 : Int32) (x1 : Int32) : Met l yX11_bestRow (.code yX11_bestRow cX11_bestRow 3 (some .int) :: wsA) ({ frames := 2, cells := 0, slots := 0, locals := 43 }) (va_Pc [.ref h0, .int x0, .int x1] (fun U => U.heap.size = sz ∧ va_P (dC, dI) classes [(h0, .inr (11, [.ref s0, .int 0, .ref s2, .ref s3, .ref s4, .int 0, .int (-1), .ref s7, .ref s8, .ref s9, .ref s10, .ref s11, .ref s12, .ref s13, .ref s14, .ref s15, .ref s16, .ref s17, .int 0])), (s7, .inr (1, [.int 0, .int 0, .int 0, .ref t3, .ref t4, .ref t5, .ref t6]))] U.heap ∧ va_K (dC, dI) classes [] U ∧ va_D (fun _ => True) [(h0, .inr (11, [.ref s0, .int 0, .ref s2, .ref s3, .ref s4, .int 0, .int (-1), .ref s7, .ref s8, .ref s9, .ref s10, .ref s11, .ref s12, .ref s13, .ref s14, .ref s15, .ref s16, .ref s17, .int 0])), (s7, .inr (1, [.int 0, .int 0, .int 0, .ref t3, .ref t4, .ref t5, .ref t6]))] ∧ xE U)) (va_Qi (fun (r : Int32) (_ : Unit) => r = (-3)) (fun _ _ => True) (va_A [(h0, .inr (11, [.ref s0, .int 0, .ref s2, .ref s3, .ref s4, .int 0, .int (-1), .ref s7, .ref s8, .ref s9, .ref s10, .ref s11, .ref s12, .ref s13, .ref s14, .ref s15, .ref s16, .ref s17, .int 0])), (s7, .inr (1, [.int 0, .int 0, .int 0, .ref t3, .ref t4, .ref t5, .ref t6]))] sz)) 0 0 (va_A [(h0, .inr (11, [.ref s0, .int 0, .ref s2, .ref s3, .ref s4, .int 0, .int (-1), .ref s7, .ref s8, .ref s9, .ref s10, .ref s11, .ref s12, .ref s13, .ref s14, .ref s15, .ref s16, .ref s17, .int 0])), (s7, .inr (1, [.int 0, .int 0, .int 0, .ref t3, .ref t4, .ref t5, .ref t6]))] sz) := by
  refine Met.ofW (cc := cX11_bestRow) (maxL := 3) (ret := (some .int)) (by decide) rfl ?_
  intro p e s m args below meth c s₁ B hml hv
  obtain ⟨rfl, hsz, hP, hK, hD0, hE⟩ := hv
  have hx := B.exec
  have hb := B.bytes
  have hr := B.returns
  have hts := atoms_spec (ws := .code yX11_bestRow cX11_bestRow 3 (some .int) :: wsA) B.pre
  have hq : ∀ w ∈ wsA, w.before _ s = true := fun w h => hts w (List.mem_cons_of_mem _ h)
  have hown : s.vm.findClass RX11 = some m.cls := findClass_of_methodNamed B.named
  have hlocks := B.notSynchronized
  subst hsz
  have hD := hD0.self (sz := s.heap.size)
  generalize hAe : va_A [(h0, .inr (11, [.ref s0, .int 0, .ref s2, .ref s3, .ref s4, .int 0, .int (-1), .ref s7, .ref s8, .ref s9, .ref s10, .ref s11, .ref s12, .ref s13, .ref s14, .ref s15, .ref s16, .ref s17, .int 0])), (s7, .inr (1, [.int 0, .int 0, .int 0, .ref t3, .ref t4, .ref t5, .ref t6]))] s.heap.size = A at hD ⊢
  have hA : ∀ q : Nat, s.heap.size ≤ q → A q := fun q h => by rw [← hAe]; exact Or.inr h
  have hS : va_S A s.heap s.heap [] := va_S.rf
  have hl := lv_entry ([.ref h0, .int x0, .int x1]) (n := 3) (Nat.le_of_ble_eq_true rfl)
  rw [lg_entry_eq]
  generalize (lg_sl ([.ref h0, .int x0, .int x1]) ++ List.replicate (3 - (lg_sl ([.ref h0, .int x0, .int x1])).length) Slot.unset).toArray = ls at hl ⊢
  have hl : lv_has ls 3 [(0, .ref h0), (1, .int x0), (2, .int x1)] := hl
  refine lv_aload_n hx hb dX11_bestRow_0 rfl (lv_at hl 0 rfl) ?_
  refine lv_iconst (v := 0) hx hb dX11_bestRow_1 (by decide) ?_
  refine lv_iload_n hx hb dX11_bestRow_2 rfl (lv_at hl 1 rfl) ?_
  refine lv_iload_n hx hb dX11_bestRow_3 rfl (lv_at hl 2 rfl) ?_
  have hPc := hP.sub (ws' := [(h0, .inr (11, [.ref s0, .int 0, .ref s2, .ref s3, .ref s4, .int 0, .int (-1), .ref s7, .ref s8, .ref s9, .ref s10, .ref s11, .ref s12, .ref s13, .ref s14, .ref s15, .ref s16, .ref s17, .int 0])), (s7, .inr (1, [.int 0, .int 0, .int 0, .ref t3, .ref t4, .ref t5, .ref t6]))]) [0, 1] rfl
  have hDc := hD.sub (ws' := [(h0, .inr (11, [.ref s0, .int 0, .ref s2, .ref s3, .ref s4, .int 0, .int (-1), .ref s7, .ref s8, .ref s9, .ref s10, .ref s11, .ref s12, .ref s13, .ref s14, .ref s15, .ref s16, .ref s17, .int 0])), (s7, .inr (1, [.int 0, .int 0, .int 0, .ref t3, .ref t4, .ref t5, .ref t6]))]) [0, 1] (by decide) rfl
  have hKc := hK.sub (tys' := []) [] rfl
  have hFc := va_free (wc := [(h0, .inr (11, [.ref s0, .int 0, .ref s2, .ref s3, .ref s4, .int 0, .int (-1), .ref s7, .ref s8, .ref s9, .ref s10, .ref s11, .ref s12, .ref s13, .ref s14, .ref s15, .ref s16, .ref s17, .int 0])), (s7, .inr (1, [.int 0, .int 0, .int 0, .ref t3, .ref t4, .ref t5, .ref t6]))]) hD hS hA [0, 1] rfl
  refine va_calli (va_runV (As := [.int 0, .int x0, .int x1]) (rest := []) ⟨hx, hb, hml, hown, hq⟩ (c_SB_bestOfRows l dC dI _ h0 s0 s2 s3 s4 s7 s8 s9 s10 s11 s12 s13 s14 s15 s16 s17 t3 t4 t5 t6 0 x0 x1 ) (cwV 3 hq (gV qw_951 qw_953 qw_24 qw_119 qw_954) rfl rfl rfl (by decide +kernel) ⟨Nat.le_of_ble_eq_true rfl, Nat.le_of_ble_eq_true rfl⟩) ⟨fun a U g mk q => by obtain ⟨q0, q1, qP, qK, qD, qE⟩ := q; exact ⟨q0, q1, qP, va_K.moved (u := U) (U := U.calling g mk a) (Vm.Alike.refl U.vm) qK, qD, xE.same rfl qE⟩, va_recv hKc hPc (ci := 11) (q0 := 0) rfl rfl, fun U hU hW => ⟨rfl, by rw [hU], by rw [hU]; exact hPc, va_K.moved hW.alike hKc, hDc.weaken (fun _ _ _ _ => trivial), xE.warm hW hE⟩⟩ rfl rfl hl.1 rfl (lv_room (Nat.le_of_ble_eq_true rfl)) dX11_bestRow_4 ⟨Nat.le_of_ble_eq_true rfl, Nat.le_of_ble_eq_true rfl⟩) hS (fun q _ h => hFc q h) hFc (fun r_1 u t H1 locs ht hvm hw hB hz1 hk1 hS => ?_)
  have hP1 : va_P (dC, dI) classes [] H1 := vP_nil
  have hD1 : va_D (va_A [(h0, .inr (11, [.ref s0, .int 0, .ref s2, .ref s3, .ref s4, .int 0, .int (-1), .ref s7, .ref s8, .ref s9, .ref s10, .ref s11, .ref s12, .ref s13, .ref s14, .ref s15, .ref s16, .ref s17, .int 0])), (s7, .inr (1, [.int 0, .int 0, .int 0, .ref t3, .ref t4, .ref t5, .ref t6]))] s.heap.size) [] := vD_nil
  obtain ⟨hP, hD⟩ := va_join (wr := []) (w1 := []) hP hD [0, 1] [] rfl rfl (by decide) (by decide) hk1 hFc hP1 hD1
  generalize H1 = H at hP hS ⊢
  have hP : va_P (dC, dI) classes [] H := hP
  have hD : va_D A [] := hD
  obtain rfl : r_1 = (-3) := hw
  refine W.widen (k := 0) (n := 0) (Nat.le_of_ble_eq_true rfl) (Nat.le_of_ble_eq_true rfl) ?_
  exact W.iret (v := (-3)) hx hb hr (fun t ht hW => ⟨⟨(-3), (), rfl, rfl, trivial⟩, hS.F ht⟩) hS.2.2 dX11_bestRow_7

set_option maxHeartbeats 4000000 in
set_option maxRecDepth 100000 in
/-- c_SB_hush -/
theorem c_SB_hush (l : Launch) (dC : Nat → ClassId) (dI : Nat → Nat → Nat) (sz : Nat) (h0 : Nat) (s0 : Nat) (s2 : Nat) (s3 : Nat) (s4 : Nat) (s7 : Nat) (s8 : Nat) (s9 : Nat) (s10 : Nat) (s11 : Nat) (s12 : Nat) (s13 : Nat) (s14 : Nat) (s15 : Nat) (s16 : Nat) (s17 : Nat) (t3 : Nat) (t4 : Nat) (t5 : Nat) (t6 : Nat) (x0 : Int32) (x1 : Int32) : Met l yX11_hush (.code yX11_hush cX11_hush 3 (some .int) :: wsA) ({ frames := 2, cells := 0, slots := 0, locals := 43 }) (va_Pc [.ref h0, .int x0, .int x1] (fun U => U.heap.size = sz ∧ va_P (dC, dI) classes [(h0, .inr (11, [.ref s0, .int 0, .ref s2, .ref s3, .ref s4, .int 0, .int (-1), .ref s7, .ref s8, .ref s9, .ref s10, .ref s11, .ref s12, .ref s13, .ref s14, .ref s15, .ref s16, .ref s17, .int 0])), (s7, .inr (1, [.int 0, .int 0, .int 0, .ref t3, .ref t4, .ref t5, .ref t6]))] U.heap ∧ va_K (dC, dI) classes [] U ∧ va_D (fun _ => True) [(h0, .inr (11, [.ref s0, .int 0, .ref s2, .ref s3, .ref s4, .int 0, .int (-1), .ref s7, .ref s8, .ref s9, .ref s10, .ref s11, .ref s12, .ref s13, .ref s14, .ref s15, .ref s16, .ref s17, .int 0])), (s7, .inr (1, [.int 0, .int 0, .int 0, .ref t3, .ref t4, .ref t5, .ref t6]))] ∧ xE U)) (va_Qi (fun (r : Int32) (_ : Unit) => r = (-3)) (fun _ _ => True) (va_A [(h0, .inr (11, [.ref s0, .int 0, .ref s2, .ref s3, .ref s4, .int 0, .int (-1), .ref s7, .ref s8, .ref s9, .ref s10, .ref s11, .ref s12, .ref s13, .ref s14, .ref s15, .ref s16, .ref s17, .int 0])), (s7, .inr (1, [.int 0, .int 0, .int 0, .ref t3, .ref t4, .ref t5, .ref t6]))] sz)) 0 0 (va_A [(h0, .inr (11, [.ref s0, .int 0, .ref s2, .ref s3, .ref s4, .int 0, .int (-1), .ref s7, .ref s8, .ref s9, .ref s10, .ref s11, .ref s12, .ref s13, .ref s14, .ref s15, .ref s16, .ref s17, .int 0])), (s7, .inr (1, [.int 0, .int 0, .int 0, .ref t3, .ref t4, .ref t5, .ref t6]))] sz) := by
  refine Met.ofW (cc := cX11_hush) (maxL := 3) (ret := (some .int)) (by decide) rfl ?_
  intro p e s m args below meth c s₁ B hml hv
  obtain ⟨rfl, hsz, hP, hK, hD0, hE⟩ := hv
  have hx := B.exec
  have hb := B.bytes
  have hr := B.returns
  have hts := atoms_spec (ws := .code yX11_hush cX11_hush 3 (some .int) :: wsA) B.pre
  have hq : ∀ w ∈ wsA, w.before _ s = true := fun w h => hts w (List.mem_cons_of_mem _ h)
  have hown : s.vm.findClass RX11 = some m.cls := findClass_of_methodNamed B.named
  have hlocks := B.notSynchronized
  subst hsz
  have hD := hD0.self (sz := s.heap.size)
  generalize hAe : va_A [(h0, .inr (11, [.ref s0, .int 0, .ref s2, .ref s3, .ref s4, .int 0, .int (-1), .ref s7, .ref s8, .ref s9, .ref s10, .ref s11, .ref s12, .ref s13, .ref s14, .ref s15, .ref s16, .ref s17, .int 0])), (s7, .inr (1, [.int 0, .int 0, .int 0, .ref t3, .ref t4, .ref t5, .ref t6]))] s.heap.size = A at hD ⊢
  have hA : ∀ q : Nat, s.heap.size ≤ q → A q := fun q h => by rw [← hAe]; exact Or.inr h
  have hS : va_S A s.heap s.heap [] := va_S.rf
  have hl := lv_entry ([.ref h0, .int x0, .int x1]) (n := 3) (Nat.le_of_ble_eq_true rfl)
  rw [lg_entry_eq]
  generalize (lg_sl ([.ref h0, .int x0, .int x1]) ++ List.replicate (3 - (lg_sl ([.ref h0, .int x0, .int x1])).length) Slot.unset).toArray = ls at hl ⊢
  have hl : lv_has ls 3 [(0, .ref h0), (1, .int x0), (2, .int x1)] := hl
  refine lv_aload_n hx hb dX11_hush_0 rfl (lv_at hl 0 rfl) ?_
  refine lv_iconst (v := 1) hx hb dX11_hush_1 (by decide) ?_
  refine lv_iload_n hx hb dX11_hush_2 rfl (lv_at hl 1 rfl) ?_
  refine lv_iload_n hx hb dX11_hush_3 rfl (lv_at hl 2 rfl) ?_
  have hPc := hP.sub (ws' := [(h0, .inr (11, [.ref s0, .int 0, .ref s2, .ref s3, .ref s4, .int 0, .int (-1), .ref s7, .ref s8, .ref s9, .ref s10, .ref s11, .ref s12, .ref s13, .ref s14, .ref s15, .ref s16, .ref s17, .int 0])), (s7, .inr (1, [.int 0, .int 0, .int 0, .ref t3, .ref t4, .ref t5, .ref t6]))]) [0, 1] rfl
  have hDc := hD.sub (ws' := [(h0, .inr (11, [.ref s0, .int 0, .ref s2, .ref s3, .ref s4, .int 0, .int (-1), .ref s7, .ref s8, .ref s9, .ref s10, .ref s11, .ref s12, .ref s13, .ref s14, .ref s15, .ref s16, .ref s17, .int 0])), (s7, .inr (1, [.int 0, .int 0, .int 0, .ref t3, .ref t4, .ref t5, .ref t6]))]) [0, 1] (by decide) rfl
  have hKc := hK.sub (tys' := []) [] rfl
  have hFc := va_free (wc := [(h0, .inr (11, [.ref s0, .int 0, .ref s2, .ref s3, .ref s4, .int 0, .int (-1), .ref s7, .ref s8, .ref s9, .ref s10, .ref s11, .ref s12, .ref s13, .ref s14, .ref s15, .ref s16, .ref s17, .int 0])), (s7, .inr (1, [.int 0, .int 0, .int 0, .ref t3, .ref t4, .ref t5, .ref t6]))]) hD hS hA [0, 1] rfl
  refine va_calli (va_runV (As := [.int 1, .int x0, .int x1]) (rest := []) ⟨hx, hb, hml, hown, hq⟩ (c_SB_bestOfRows l dC dI _ h0 s0 s2 s3 s4 s7 s8 s9 s10 s11 s12 s13 s14 s15 s16 s17 t3 t4 t5 t6 1 x0 x1 ) (cwV 3 hq (gV qw_951 qw_953 qw_24 qw_119 qw_954) rfl rfl rfl (by decide +kernel) ⟨Nat.le_of_ble_eq_true rfl, Nat.le_of_ble_eq_true rfl⟩) ⟨fun a U g mk q => by obtain ⟨q0, q1, qP, qK, qD, qE⟩ := q; exact ⟨q0, q1, qP, va_K.moved (u := U) (U := U.calling g mk a) (Vm.Alike.refl U.vm) qK, qD, xE.same rfl qE⟩, va_recv hKc hPc (ci := 11) (q0 := 0) rfl rfl, fun U hU hW => ⟨rfl, by rw [hU], by rw [hU]; exact hPc, va_K.moved hW.alike hKc, hDc.weaken (fun _ _ _ _ => trivial), xE.warm hW hE⟩⟩ rfl rfl hl.1 rfl (lv_room (Nat.le_of_ble_eq_true rfl)) dX11_hush_4 ⟨Nat.le_of_ble_eq_true rfl, Nat.le_of_ble_eq_true rfl⟩) hS (fun q _ h => hFc q h) hFc (fun r_1 u t H1 locs ht hvm hw hB hz1 hk1 hS => ?_)
  have hP1 : va_P (dC, dI) classes [] H1 := vP_nil
  have hD1 : va_D (va_A [(h0, .inr (11, [.ref s0, .int 0, .ref s2, .ref s3, .ref s4, .int 0, .int (-1), .ref s7, .ref s8, .ref s9, .ref s10, .ref s11, .ref s12, .ref s13, .ref s14, .ref s15, .ref s16, .ref s17, .int 0])), (s7, .inr (1, [.int 0, .int 0, .int 0, .ref t3, .ref t4, .ref t5, .ref t6]))] s.heap.size) [] := vD_nil
  obtain ⟨hP, hD⟩ := va_join (wr := []) (w1 := []) hP hD [0, 1] [] rfl rfl (by decide) (by decide) hk1 hFc hP1 hD1
  generalize H1 = H at hP hS ⊢
  have hP : va_P (dC, dI) classes [] H := hP
  have hD : va_D A [] := hD
  obtain rfl : r_1 = (-3) := hw
  refine W.widen (k := 0) (n := 0) (Nat.le_of_ble_eq_true rfl) (Nat.le_of_ble_eq_true rfl) ?_
  exact W.iret (v := (-3)) hx hb hr (fun t ht hW => ⟨⟨(-3), (), rfl, rfl, trivial⟩, hS.F ht⟩) hS.2.2 dX11_hush_7

set_option maxHeartbeats 4000000 in
set_option maxRecDepth 100000 in
/-- c_Past_giveBack -/
theorem c_Past_giveBack (l : Launch) (dC : Nat → ClassId) (dI : Nat → Nat → Nat) (sz : Nat) (h0 : Nat) (h1 : Nat) (u0 : Nat) : Met l yX6_giveBack (.code yX6_giveBack cX6_giveBack 3 (some .boolean) :: wsA) ({ frames := 0, cells := 0, slots := 0, locals := 0 }) (va_Pc [.ref h0, .ref h1] (fun U => U.heap.size = sz ∧ va_P (dC, dI) classes [(h0, .inr (6, [.ref u0, .int 0, .int 0]))] U.heap ∧ va_K (dC, dI) classes [] U ∧ va_D (fun _ => True) [(h0, .inr (6, [.ref u0, .int 0, .int 0]))] ∧ xE U)) (va_Qi (fun (r : Int32) (_ : Unit) => r = 0) (fun _ _ => True) (va_A [(h0, .inr (6, [.ref u0, .int 0, .int 0]))] sz)) 0 0 (va_A [(h0, .inr (6, [.ref u0, .int 0, .int 0]))] sz) := by
  refine Met.ofW (cc := cX6_giveBack) (maxL := 3) (ret := (some .boolean)) (by decide) rfl ?_
  intro p e s m args below meth c s₁ B hml hv
  obtain ⟨rfl, hsz, hP, hK, hD0, hE⟩ := hv
  have hx := B.exec
  have hb := B.bytes
  have hr := B.returns
  have hts := atoms_spec (ws := .code yX6_giveBack cX6_giveBack 3 (some .boolean) :: wsA) B.pre
  have hq : ∀ w ∈ wsA, w.before _ s = true := fun w h => hts w (List.mem_cons_of_mem _ h)
  have hown : s.vm.findClass RX6 = some m.cls := findClass_of_methodNamed B.named
  have hlocks := B.notSynchronized
  subst hsz
  have hD := hD0.self (sz := s.heap.size)
  generalize hAe : va_A [(h0, .inr (6, [.ref u0, .int 0, .int 0]))] s.heap.size = A at hD ⊢
  have hA : ∀ q : Nat, s.heap.size ≤ q → A q := fun q h => by rw [← hAe]; exact Or.inr h
  have hS : va_S A s.heap s.heap [] := va_S.rf
  have hl := lv_entry ([.ref h0, .ref h1]) (n := 3) (Nat.le_of_ble_eq_true rfl)
  rw [lg_entry_eq]
  generalize (lg_sl ([.ref h0, .ref h1]) ++ List.replicate (3 - (lg_sl ([.ref h0, .ref h1])).length) Slot.unset).toArray = ls at hl ⊢
  have hl : lv_has ls 3 [(0, .ref h0), (1, .ref h1)] := hl
  refine lv_aload_n hx hb dX6_giveBack_0 rfl (lv_at hl 0 rfl) ?_
  refine va_get (D := (dC, dI)) (ci := 6) (v := .int 0) (C := RX6) (T := TX6) (N := 3) hx hb hq inX6 hown hK hP 0 rfl rfl 2 (by decide) (hq _ qw_335) (fun _ h9 => h9) rfl dX6_giveBack_1 ?_
  refine lv_if_ne (tgt := 9) hx hb dX6_giveBack_4 (by decide) (fun c9 => absurd c9 (by decide)) (fun _ => ?_)
  refine lv_iconst (v := 0) hx hb dX6_giveBack_7 (by decide) ?_
  refine W.widen (k := 0) (n := 0) (Nat.le_of_ble_eq_true rfl) (Nat.le_of_ble_eq_true rfl) ?_
  exact W.zret (v := 0) hx hb hr (by decide) (fun t ht hW => ⟨⟨0, (), rfl, rfl, trivial⟩, hS.F ht⟩) hS.2.2 dX6_giveBack_8

set_option maxHeartbeats 4000000 in
set_option maxRecDepth 100000 in
/-- c_SB_undo -/
theorem c_SB_undo (l : Launch) (dC : Nat → ClassId) (dI : Nat → Nat → Nat) (sz : Nat) (h0 : Nat) (s0 : Nat) (s2 : Nat) (s3 : Nat) (s4 : Nat) (s7 : Nat) (s8 : Nat) (s9 : Nat) (s10 : Nat) (s11 : Nat) (s12 : Nat) (s13 : Nat) (s14 : Nat) (s15 : Nat) (s16 : Nat) (s17 : Nat) (u0 : Nat) : Met l yX11_undo (.code yX11_undo cX11_undo 1 (some .int) :: wsA) ({ frames := 1, cells := 0, slots := 0, locals := 22 }) (va_Pc [.ref h0] (fun U => U.heap.size = sz ∧ va_P (dC, dI) classes [(h0, .inr (11, [.ref s0, .int 0, .ref s2, .ref s3, .ref s4, .int 0, .int (-1), .ref s7, .ref s8, .ref s9, .ref s10, .ref s11, .ref s12, .ref s13, .ref s14, .ref s15, .ref s16, .ref s17, .int 0])), (s12, .inr (6, [.ref u0, .int 0, .int 0]))] U.heap ∧ va_K (dC, dI) classes [] U ∧ va_D (fun _ => True) [(h0, .inr (11, [.ref s0, .int 0, .ref s2, .ref s3, .ref s4, .int 0, .int (-1), .ref s7, .ref s8, .ref s9, .ref s10, .ref s11, .ref s12, .ref s13, .ref s14, .ref s15, .ref s16, .ref s17, .int 0])), (s12, .inr (6, [.ref u0, .int 0, .int 0]))] ∧ xE U)) (va_Qi (fun (r : Int32) (_ : Unit) => r = (-1)) (fun _ _ => True) (va_A [(h0, .inr (11, [.ref s0, .int 0, .ref s2, .ref s3, .ref s4, .int 0, .int (-1), .ref s7, .ref s8, .ref s9, .ref s10, .ref s11, .ref s12, .ref s13, .ref s14, .ref s15, .ref s16, .ref s17, .int 0])), (s12, .inr (6, [.ref u0, .int 0, .int 0]))] sz)) 0 0 (va_A [(h0, .inr (11, [.ref s0, .int 0, .ref s2, .ref s3, .ref s4, .int 0, .int (-1), .ref s7, .ref s8, .ref s9, .ref s10, .ref s11, .ref s12, .ref s13, .ref s14, .ref s15, .ref s16, .ref s17, .int 0])), (s12, .inr (6, [.ref u0, .int 0, .int 0]))] sz) := by
  refine Met.ofW (cc := cX11_undo) (maxL := 1) (ret := (some .int)) (by decide) rfl ?_
  intro p e s m args below meth c s₁ B hml hv
  obtain ⟨rfl, hsz, hP, hK, hD0, hE⟩ := hv
  have hx := B.exec
  have hb := B.bytes
  have hr := B.returns
  have hts := atoms_spec (ws := .code yX11_undo cX11_undo 1 (some .int) :: wsA) B.pre
  have hq : ∀ w ∈ wsA, w.before _ s = true := fun w h => hts w (List.mem_cons_of_mem _ h)
  have hown : s.vm.findClass RX11 = some m.cls := findClass_of_methodNamed B.named
  have hlocks := B.notSynchronized
  subst hsz
  have hD := hD0.self (sz := s.heap.size)
  generalize hAe : va_A [(h0, .inr (11, [.ref s0, .int 0, .ref s2, .ref s3, .ref s4, .int 0, .int (-1), .ref s7, .ref s8, .ref s9, .ref s10, .ref s11, .ref s12, .ref s13, .ref s14, .ref s15, .ref s16, .ref s17, .int 0])), (s12, .inr (6, [.ref u0, .int 0, .int 0]))] s.heap.size = A at hD ⊢
  have hA : ∀ q : Nat, s.heap.size ≤ q → A q := fun q h => by rw [← hAe]; exact Or.inr h
  have hS : va_S A s.heap s.heap [] := va_S.rf
  have hl := lv_entry ([.ref h0]) (n := 1) (Nat.le_of_ble_eq_true rfl)
  rw [lg_entry_eq]
  generalize (lg_sl ([.ref h0]) ++ List.replicate (1 - (lg_sl ([.ref h0])).length) Slot.unset).toArray = ls at hl ⊢
  have hl : lv_has ls 1 [(0, .ref h0)] := hl
  refine lv_aload_n hx hb dX11_undo_0 rfl (lv_at hl 0 rfl) ?_
  refine va_get (D := (dC, dI)) (ci := 11) (v := .ref s12) (C := RX11) (T := TX11) (N := 19) hx hb hq inX11 hown hK hP 0 rfl rfl 12 (by decide) (hq _ qw_461) (fun _ h9 => h9) rfl dX11_undo_1 ?_
  refine lv_aload_n hx hb dX11_undo_4 rfl (lv_at hl 0 rfl) ?_
  refine va_get (D := (dC, dI)) (ci := 11) (v := .ref s9) (C := RX11) (T := TX11) (N := 19) hx hb hq inX11 hown hK hP 0 rfl rfl 9 (by decide) (hq _ qw_458) (fun _ h9 => h9) rfl dX11_undo_5 ?_
  have hPc := hP.sub (ws' := [(s12, .inr (6, [.ref u0, .int 0, .int 0]))]) [1] rfl
  have hDc := hD.sub (ws' := [(s12, .inr (6, [.ref u0, .int 0, .int 0]))]) [1] (by decide) rfl
  have hKc := hK.sub (tys' := []) [] rfl
  have hFc := va_free (wc := [(s12, .inr (6, [.ref u0, .int 0, .int 0]))]) hD hS hA [1] rfl
  refine va_calli (va_runV (As := [.ref s9]) (rest := []) ⟨hx, hb, hml, hown, hq⟩ (c_Past_giveBack l dC dI _ s12 s9 u0 ) (cwV 1 hq (gV qw_917 qw_918 qw_919 qw_127 qw_920) rfl rfl rfl (by decide +kernel) ⟨Nat.le_of_ble_eq_true rfl, Nat.le_of_ble_eq_true rfl⟩) ⟨fun a U g mk q => by obtain ⟨q0, q1, qP, qK, qD, qE⟩ := q; exact ⟨q0, q1, qP, va_K.moved (u := U) (U := U.calling g mk a) (Vm.Alike.refl U.vm) qK, qD, xE.same rfl qE⟩, va_recv hKc hPc (ci := 6) (q0 := 0) rfl rfl, fun U hU hW => ⟨rfl, by rw [hU], by rw [hU]; exact hPc, va_K.moved hW.alike hKc, hDc.weaken (fun _ _ _ _ => trivial), xE.warm hW hE⟩⟩ rfl rfl hl.1 rfl (lv_room (Nat.le_of_ble_eq_true rfl)) dX11_undo_8 ⟨Nat.le_of_ble_eq_true rfl, Nat.le_of_ble_eq_true rfl⟩) hS (fun q _ h => hFc q h) hFc (fun r_1 u t H1 locs ht hvm hw hB hz1 hk1 hS => ?_)
  have hP1 : va_P (dC, dI) classes [] H1 := vP_nil
  have hD1 : va_D (va_A [(s12, .inr (6, [.ref u0, .int 0, .int 0]))] s.heap.size) [] := vD_nil
  obtain ⟨hP, hD⟩ := va_join (wr := [(h0, .inr (11, [.ref s0, .int 0, .ref s2, .ref s3, .ref s4, .int 0, .int (-1), .ref s7, .ref s8, .ref s9, .ref s10, .ref s11, .ref s12, .ref s13, .ref s14, .ref s15, .ref s16, .ref s17, .int 0]))]) (w1 := []) hP hD [1] [0] rfl rfl (by decide) (by decide) hk1 hFc hP1 hD1
  generalize H1 = H at hP hS ⊢
  have hP : va_P (dC, dI) classes [(h0, .inr (11, [.ref s0, .int 0, .ref s2, .ref s3, .ref s4, .int 0, .int (-1), .ref s7, .ref s8, .ref s9, .ref s10, .ref s11, .ref s12, .ref s13, .ref s14, .ref s15, .ref s16, .ref s17, .int 0]))] H := hP
  have hD : va_D A [(h0, .inr (11, [.ref s0, .int 0, .ref s2, .ref s3, .ref s4, .int 0, .int (-1), .ref s7, .ref s8, .ref s9, .ref s10, .ref s11, .ref s12, .ref s13, .ref s14, .ref s15, .ref s16, .ref s17, .int 0]))] := hD
  obtain rfl : r_1 = 0 := hw
  refine lv_if_eq (tgt := 24) hx hb dX11_undo_11 (by decide) (fun _ => ?_) (fun c9 => absurd c9 (by decide))
  refine lv_iconst (v := (-1)) hx hb dX11_undo_24 (by decide) ?_
  refine W.widen (k := 0) (n := 0) (Nat.le_of_ble_eq_true rfl) (Nat.le_of_ble_eq_true rfl) ?_
  exact W.iret (v := (-1)) hx hb hr (fun t ht hW => ⟨⟨(-1), (), rfl, rfl, trivial⟩, hS.F ht⟩) hS.2.2 dX11_undo_25

set_option maxHeartbeats 4000000 in
set_option maxRecDepth 100000 in
/-- c_Notes_clear -/
theorem c_Notes_clear (l : Launch) (dC : Nat → ClassId) (dI : Nat → Nat → Nat) (sz : Nat) (h0 : Nat) (n1 : Nat) (n2 : Nat) (n3 : Nat) (n4 : Nat) : Met l yX5_clear (.code yX5_clear cX5_clear 1 none :: wsA) ({ frames := 0, cells := 0, slots := 0, locals := 0 }) (va_Pc [.ref h0] (fun U => U.heap.size = sz ∧ va_P (dC, dI) classes [(h0, .inr (5, [.int 0, .ref n1, .ref n2, .ref n3, .ref n4]))] U.heap ∧ va_K (dC, dI) classes [] U ∧ va_D (fun _ => True) [(h0, .inr (5, [.int 0, .ref n1, .ref n2, .ref n3, .ref n4]))] ∧ xE U)) (va_Qv (fun (_ : Unit) => True) (fun _ _ => True) (va_A [(h0, .inr (5, [.int 0, .ref n1, .ref n2, .ref n3, .ref n4]))] sz)) 0 0 (va_A [(h0, .inr (5, [.int 0, .ref n1, .ref n2, .ref n3, .ref n4]))] sz) := by
  refine Met.ofW (cc := cX5_clear) (maxL := 1) (ret := none) (by decide) rfl ?_
  intro p e s m args below meth c s₁ B hml hv
  obtain ⟨rfl, hsz, hP, hK, hD0, hE⟩ := hv
  have hx := B.exec
  have hb := B.bytes
  have hr := B.returns
  have hts := atoms_spec (ws := .code yX5_clear cX5_clear 1 none :: wsA) B.pre
  have hq : ∀ w ∈ wsA, w.before _ s = true := fun w h => hts w (List.mem_cons_of_mem _ h)
  have hown : s.vm.findClass RX5 = some m.cls := findClass_of_methodNamed B.named
  have hlocks := B.notSynchronized
  subst hsz
  have hD := hD0.self (sz := s.heap.size)
  generalize hAe : va_A [(h0, .inr (5, [.int 0, .ref n1, .ref n2, .ref n3, .ref n4]))] s.heap.size = A at hD ⊢
  have hA : ∀ q : Nat, s.heap.size ≤ q → A q := fun q h => by rw [← hAe]; exact Or.inr h
  have hS : va_S A s.heap s.heap [] := va_S.rf
  have hl := lv_entry ([.ref h0]) (n := 1) (Nat.le_of_ble_eq_true rfl)
  rw [lg_entry_eq]
  generalize (lg_sl ([.ref h0]) ++ List.replicate (1 - (lg_sl ([.ref h0])).length) Slot.unset).toArray = ls at hl ⊢
  have hl : lv_has ls 1 [(0, .ref h0)] := hl
  refine lv_aload_n hx hb dX5_clear_0 rfl (lv_at hl 0 rfl) ?_
  refine lv_iconst (v := 0) hx hb dX5_clear_1 (by decide) ?_
  refine va_put (D := (dC, dI)) (ci := 5) (v := .int 0) (ty := .int) (C := RX5) (T := TX5) (N := 5) hx hb hq inX5 tyX5 tyX5_ok nmX5 hown hK hP hD hS 0 rfl rfl 0 (by decide) (hq _ qw_307) (fun _ h9 => h9) rfl (by decide +kernel) rfl rfl (Nat.le_of_ble_eq_true rfl) dX5_clear_2 (fun H locs hP hD hS => ?_)
  have hP : va_P (dC, dI) classes [(h0, .inr (5, [.int 0, .ref n1, .ref n2, .ref n3, .ref n4]))] H := hP
  have hD : va_D A [(h0, .inr (5, [.int 0, .ref n1, .ref n2, .ref n3, .ref n4]))] := hD
  refine W.widen (k := 0) (n := 0) (Nat.le_of_ble_eq_true rfl) (Nat.le_of_ble_eq_true rfl) ?_
  exact W.vret hx hb hr (fun t ht hW => ⟨⟨(), rfl, trivial, trivial⟩, hS.F ht⟩) hS.2.2 dX5_clear_5

set_option maxHeartbeats 4000000 in
set_option maxRecDepth 100000 in
/-- c_SB_note -/
theorem c_SB_note (l : Launch) (dC : Nat → ClassId) (dI : Nat → Nat → Nat) (sz : Nat) (h0 : Nat) (s0 : Nat) (s2 : Nat) (s3 : Nat) (s4 : Nat) (s7 : Nat) (s8 : Nat) (s9 : Nat) (s10 : Nat) (s11 : Nat) (s12 : Nat) (s13 : Nat) (s14 : Nat) (s15 : Nat) (s16 : Nat) (s17 : Nat) (t3 : Nat) (t4 : Nat) (t5 : Nat) (t6 : Nat) (n1 : Nat) (n2 : Nat) (n3 : Nat) (n4 : Nat) (x0 : Int32) (x1 : Int32) (x2 : Int32) (x3 : Int32) : Met l yX11_note (.code yX11_note cX11_note 5 (some .int) :: wsA) ({ frames := 1, cells := 0, slots := 0, locals := 22 }) (va_Pc [.ref h0, .int x0, .int x1, .int x2, .int x3] (fun U => U.heap.size = sz ∧ va_P (dC, dI) classes [(h0, .inr (11, [.ref s0, .int 0, .ref s2, .ref s3, .ref s4, .int 0, .int (-1), .ref s7, .ref s8, .ref s9, .ref s10, .ref s11, .ref s12, .ref s13, .ref s14, .ref s15, .ref s16, .ref s17, .int 0])), (s7, .inr (1, [.int 0, .int 0, .int 0, .ref t3, .ref t4, .ref t5, .ref t6])), (s11, .inr (5, [.int 0, .ref n1, .ref n2, .ref n3, .ref n4]))] U.heap ∧ va_K (dC, dI) classes [] U ∧ va_D (fun _ => True) [(h0, .inr (11, [.ref s0, .int 0, .ref s2, .ref s3, .ref s4, .int 0, .int (-1), .ref s7, .ref s8, .ref s9, .ref s10, .ref s11, .ref s12, .ref s13, .ref s14, .ref s15, .ref s16, .ref s17, .int 0])), (s7, .inr (1, [.int 0, .int 0, .int 0, .ref t3, .ref t4, .ref t5, .ref t6])), (s11, .inr (5, [.int 0, .ref n1, .ref n2, .ref n3, .ref n4]))] ∧ xE U)) (va_Qi (fun (r : Int32) (_ : Unit) => (x0 = -1 → r = 0) ∧ (¬ x0 = -1 → r = -2)) (fun _ _ => True) (va_A [(h0, .inr (11, [.ref s0, .int 0, .ref s2, .ref s3, .ref s4, .int 0, .int (-1), .ref s7, .ref s8, .ref s9, .ref s10, .ref s11, .ref s12, .ref s13, .ref s14, .ref s15, .ref s16, .ref s17, .int 0])), (s7, .inr (1, [.int 0, .int 0, .int 0, .ref t3, .ref t4, .ref t5, .ref t6])), (s11, .inr (5, [.int 0, .ref n1, .ref n2, .ref n3, .ref n4]))] sz)) 0 0 (va_A [(h0, .inr (11, [.ref s0, .int 0, .ref s2, .ref s3, .ref s4, .int 0, .int (-1), .ref s7, .ref s8, .ref s9, .ref s10, .ref s11, .ref s12, .ref s13, .ref s14, .ref s15, .ref s16, .ref s17, .int 0])), (s7, .inr (1, [.int 0, .int 0, .int 0, .ref t3, .ref t4, .ref t5, .ref t6])), (s11, .inr (5, [.int 0, .ref n1, .ref n2, .ref n3, .ref n4]))] sz) := by
  refine Met.ofW (cc := cX11_note) (maxL := 5) (ret := (some .int)) (by decide) rfl ?_
  intro p e s m args below meth c s₁ B hml hv
  obtain ⟨rfl, hsz, hP, hK, hD0, hE⟩ := hv
  have hx := B.exec
  have hb := B.bytes
  have hr := B.returns
  have hts := atoms_spec (ws := .code yX11_note cX11_note 5 (some .int) :: wsA) B.pre
  have hq : ∀ w ∈ wsA, w.before _ s = true := fun w h => hts w (List.mem_cons_of_mem _ h)
  have hown : s.vm.findClass RX11 = some m.cls := findClass_of_methodNamed B.named
  have hlocks := B.notSynchronized
  subst hsz
  have hD := hD0.self (sz := s.heap.size)
  generalize hAe : va_A [(h0, .inr (11, [.ref s0, .int 0, .ref s2, .ref s3, .ref s4, .int 0, .int (-1), .ref s7, .ref s8, .ref s9, .ref s10, .ref s11, .ref s12, .ref s13, .ref s14, .ref s15, .ref s16, .ref s17, .int 0])), (s7, .inr (1, [.int 0, .int 0, .int 0, .ref t3, .ref t4, .ref t5, .ref t6])), (s11, .inr (5, [.int 0, .ref n1, .ref n2, .ref n3, .ref n4]))] s.heap.size = A at hD ⊢
  have hA : ∀ q : Nat, s.heap.size ≤ q → A q := fun q h => by rw [← hAe]; exact Or.inr h
  have hS : va_S A s.heap s.heap [] := va_S.rf
  have hl := lv_entry ([.ref h0, .int x0, .int x1, .int x2, .int x3]) (n := 5) (Nat.le_of_ble_eq_true rfl)
  rw [lg_entry_eq]
  generalize (lg_sl ([.ref h0, .int x0, .int x1, .int x2, .int x3]) ++ List.replicate (5 - (lg_sl ([.ref h0, .int x0, .int x1, .int x2, .int x3])).length) Slot.unset).toArray = ls at hl ⊢
  have hl : lv_has ls 5 [(0, .ref h0), (1, .int x0), (2, .int x1), (3, .int x2), (4, .int x3)] := hl
  refine lv_iload_n hx hb dX11_note_0 rfl (lv_at hl 1 rfl) ?_
  refine lv_iconst (v := (-1)) hx hb dX11_note_1 (by decide) ?_
  refine lv_icmp_ne (tgt := 14) hx hb dX11_note_2 (by decide) (fun c_1 => ?_) (fun c_1 => ?_)
  · refine lv_iload_n hx hb dX11_note_14 rfl (lv_at hl 1 rfl) ?_
    refine lv_iconst (v := 0) hx hb dX11_note_15 (by decide) ?_
    refine lv_bipush (v := 60) hx hb dX11_note_16 (by decide) ?_
    have hPc := hP.sub (ws' := []) [] rfl
    have hDc := hD.sub (ws' := []) [] (by decide) rfl
    have hKc := hK.sub (tys' := []) [] rfl
    have hFc := va_free (wc := []) hD hS hA [] rfl
    refine va_calli (va_runS (As := [.int x0, .int 0, .int 60]) (rest := []) ⟨hx, hb, hml, hown, hq⟩ (c_SB_within l dC dI _ x0 0 60 ) (cwS 3 hq (gS qw_743 qw_744 qw_119 qw_745) rfl rfl rfl (by decide +kernel) ⟨Nat.le_of_ble_eq_true rfl, Nat.le_of_ble_eq_true rfl⟩) ⟨fun a U g mk q => by obtain ⟨q0, q1, qP, qK, qD, qE⟩ := q; exact ⟨q0, q1, qP, va_K.moved (u := U) (U := U.calling g mk a) (Vm.Alike.refl U.vm) qK, qD, xE.same rfl qE⟩, fun U hU hW => ⟨rfl, by rw [hU], by rw [hU]; exact hPc, va_K.moved hW.alike hKc, hDc.weaken (fun _ _ _ _ => trivial), xE.warm hW hE⟩⟩ rfl rfl hl.1 rfl (lv_room (Nat.le_of_ble_eq_true rfl)) dX11_note_18 ⟨Nat.le_of_ble_eq_true rfl, Nat.le_of_ble_eq_true rfl⟩) hS (fun q _ h => hFc q h) hFc (fun r_2 u t H1 locs ht hvm hw hB hz1 hk1 hS => ?_)
    obtain ⟨hP1, hK1, hD1⟩ := hB
    rw [ht] at hP1
    have hK1 := va_K.moved hvm.symm hK1
    obtain ⟨hP, hD⟩ := va_join (wr := [(h0, .inr (11, [.ref s0, .int 0, .ref s2, .ref s3, .ref s4, .int 0, .int (-1), .ref s7, .ref s8, .ref s9, .ref s10, .ref s11, .ref s12, .ref s13, .ref s14, .ref s15, .ref s16, .ref s17, .int 0])), (s7, .inr (1, [.int 0, .int 0, .int 0, .ref t3, .ref t4, .ref t5, .ref t6])), (s11, .inr (5, [.int 0, .ref n1, .ref n2, .ref n3, .ref n4]))]) (w1 := []) hP hD [] [0, 1, 2] rfl rfl (by decide) (by decide) hk1 hFc hP1 hD1
    generalize H1 = H at hP hS ⊢
    have hP : va_P (dC, dI) classes [(h0, .inr (11, [.ref s0, .int 0, .ref s2, .ref s3, .ref s4, .int 0, .int (-1), .ref s7, .ref s8, .ref s9, .ref s10, .ref s11, .ref s12, .ref s13, .ref s14, .ref s15, .ref s16, .ref s17, .int 0])), (s7, .inr (1, [.int 0, .int 0, .int 0, .ref t3, .ref t4, .ref t5, .ref t6])), (s11, .inr (5, [.int 0, .ref n1, .ref n2, .ref n3, .ref n4]))] H := hP
    have hD : va_D A [(h0, .inr (11, [.ref s0, .int 0, .ref s2, .ref s3, .ref s4, .int 0, .int (-1), .ref s7, .ref s8, .ref s9, .ref s10, .ref s11, .ref s12, .ref s13, .ref s14, .ref s15, .ref s16, .ref s17, .int 0])), (s7, .inr (1, [.int 0, .int 0, .int 0, .ref t3, .ref t4, .ref t5, .ref t6])), (s11, .inr (5, [.int 0, .ref n1, .ref n2, .ref n3, .ref n4]))] := hD
    have hr_2 := hw
    refine lv_if_eq (tgt := 49) hx hb dX11_note_21 (by decide) (fun c_3 => ?_) (fun c_3 => ?_)
    · refine lv_bipush (v := (-2)) hx hb dX11_note_49 (by decide) ?_
      refine W.widen (k := 0) (n := 0) (Nat.le_of_ble_eq_true rfl) (Nat.le_of_ble_eq_true rfl) ?_
      exact W.iret (v := (-2)) hx hb hr (fun t ht hW => ⟨⟨(-2), (), rfl, ⟨fun z => absurd z c_1, fun _ => rfl⟩, trivial⟩, hS.F ht⟩) hS.2.2 dX11_note_51
    · refine lv_aload_n hx hb dX11_note_24 rfl (lv_at hl 0 rfl) ?_
      refine lv_iload_n hx hb dX11_note_25 rfl (lv_at hl 2 rfl) ?_
      have hPc := hP.sub (ws' := [(h0, .inr (11, [.ref s0, .int 0, .ref s2, .ref s3, .ref s4, .int 0, .int (-1), .ref s7, .ref s8, .ref s9, .ref s10, .ref s11, .ref s12, .ref s13, .ref s14, .ref s15, .ref s16, .ref s17, .int 0])), (s7, .inr (1, [.int 0, .int 0, .int 0, .ref t3, .ref t4, .ref t5, .ref t6]))]) [0, 1] rfl
      have hDc := hD.sub (ws' := [(h0, .inr (11, [.ref s0, .int 0, .ref s2, .ref s3, .ref s4, .int 0, .int (-1), .ref s7, .ref s8, .ref s9, .ref s10, .ref s11, .ref s12, .ref s13, .ref s14, .ref s15, .ref s16, .ref s17, .int 0])), (s7, .inr (1, [.int 0, .int 0, .int 0, .ref t3, .ref t4, .ref t5, .ref t6]))]) [0, 1] (by decide) rfl
      have hKc := hK.sub (tys' := []) [] rfl
      have hFc := va_free (wc := [(h0, .inr (11, [.ref s0, .int 0, .ref s2, .ref s3, .ref s4, .int 0, .int (-1), .ref s7, .ref s8, .ref s9, .ref s10, .ref s11, .ref s12, .ref s13, .ref s14, .ref s15, .ref s16, .ref s17, .int 0])), (s7, .inr (1, [.int 0, .int 0, .int 0, .ref t3, .ref t4, .ref t5, .ref t6]))]) hD hS hA [0, 1] rfl
      refine va_calli (va_runV (As := [.int x1]) (rest := []) ⟨hx, hb, hml, hown, hq⟩ (c_SB_isGuest l dC dI _ h0 s0 s2 s3 s4 s7 s8 s9 s10 s11 s12 s13 s14 s15 s16 s17 t3 t4 t5 t6 x1 ) (cwV 1 hq (gV qw_762 qw_764 qw_13 qw_119 qw_765) rfl rfl rfl (by decide +kernel) ⟨Nat.le_of_ble_eq_true rfl, Nat.le_of_ble_eq_true rfl⟩) ⟨fun a U g mk q => by obtain ⟨q0, q1, qP, qK, qD, qE⟩ := q; exact ⟨q0, q1, qP, va_K.moved (u := U) (U := U.calling g mk a) (Vm.Alike.refl U.vm) qK, qD, xE.same rfl qE⟩, va_recv hKc hPc (ci := 11) (q0 := 0) rfl rfl, fun U hU hW => ⟨rfl, by rw [hU], by rw [hU]; exact hPc, va_K.moved hW.alike hKc, hDc.weaken (fun _ _ _ _ => trivial), xE.warm hW hE⟩⟩ rfl rfl hl.1 rfl (lv_room (Nat.le_of_ble_eq_true rfl)) dX11_note_26 ⟨Nat.le_of_ble_eq_true rfl, Nat.le_of_ble_eq_true rfl⟩) hS (fun q _ h => hFc q h) hFc (fun r_4 u t H1 locs ht hvm hw hB hz1 hk1 hS => ?_)
      obtain ⟨hP1, hK1, hD1⟩ := hB
      rw [ht] at hP1
      have hK1 := va_K.moved hvm.symm hK1
      obtain ⟨hP, hD⟩ := va_join (wr := [(s11, .inr (5, [.int 0, .ref n1, .ref n2, .ref n3, .ref n4]))]) (w1 := [(h0, .inr (11, [.ref s0, .int 0, .ref s2, .ref s3, .ref s4, .int 0, .int (-1), .ref s7, .ref s8, .ref s9, .ref s10, .ref s11, .ref s12, .ref s13, .ref s14, .ref s15, .ref s16, .ref s17, .int 0])), (s7, .inr (1, [.int 0, .int 0, .int 0, .ref t3, .ref t4, .ref t5, .ref t6]))]) hP hD [0, 1] [2] rfl rfl (by decide) (by decide) hk1 hFc hP1 hD1
      generalize H1 = H at hP hS ⊢
      have hP : va_P (dC, dI) classes [(s11, .inr (5, [.int 0, .ref n1, .ref n2, .ref n3, .ref n4])), (h0, .inr (11, [.ref s0, .int 0, .ref s2, .ref s3, .ref s4, .int 0, .int (-1), .ref s7, .ref s8, .ref s9, .ref s10, .ref s11, .ref s12, .ref s13, .ref s14, .ref s15, .ref s16, .ref s17, .int 0])), (s7, .inr (1, [.int 0, .int 0, .int 0, .ref t3, .ref t4, .ref t5, .ref t6]))] H := hP
      have hD : va_D A [(s11, .inr (5, [.int 0, .ref n1, .ref n2, .ref n3, .ref n4])), (h0, .inr (11, [.ref s0, .int 0, .ref s2, .ref s3, .ref s4, .int 0, .int (-1), .ref s7, .ref s8, .ref s9, .ref s10, .ref s11, .ref s12, .ref s13, .ref s14, .ref s15, .ref s16, .ref s17, .int 0])), (s7, .inr (1, [.int 0, .int 0, .int 0, .ref t3, .ref t4, .ref t5, .ref t6]))] := hD
      obtain rfl : r_4 = 0 := hw
      refine lv_if_eq (tgt := 49) hx hb dX11_note_29 (by decide) (fun _ => ?_) (fun c9 => absurd c9 (by decide))
      refine lv_bipush (v := (-2)) hx hb dX11_note_49 (by decide) ?_
      refine W.widen (k := 0) (n := 0) (Nat.le_of_ble_eq_true rfl) (Nat.le_of_ble_eq_true rfl) ?_
      exact W.iret (v := (-2)) hx hb hr (fun t ht hW => ⟨⟨(-2), (), rfl, ⟨fun z => absurd z c_1, fun _ => rfl⟩, trivial⟩, hS.F ht⟩) hS.2.2 dX11_note_51
  · refine lv_aload_n hx hb dX11_note_5 rfl (lv_at hl 0 rfl) ?_
    refine va_get (D := (dC, dI)) (ci := 11) (v := .ref s11) (C := RX11) (T := TX11) (N := 19) hx hb hq inX11 hown hK hP 0 rfl rfl 11 (by decide) (hq _ qw_460) (fun _ h9 => h9) rfl dX11_note_6 ?_
    have hPc := hP.sub (ws' := [(s11, .inr (5, [.int 0, .ref n1, .ref n2, .ref n3, .ref n4]))]) [2] rfl
    have hDc := hD.sub (ws' := [(s11, .inr (5, [.int 0, .ref n1, .ref n2, .ref n3, .ref n4]))]) [2] (by decide) rfl
    have hKc := hK.sub (tys' := []) [] rfl
    have hFc := va_free (wc := [(s11, .inr (5, [.int 0, .ref n1, .ref n2, .ref n3, .ref n4]))]) hD hS hA [2] rfl
    refine va_callv (va_runV (As := []) (rest := []) ⟨hx, hb, hml, hown, hq⟩ (c_Notes_clear l dC dI _ s11 n1 n2 n3 n4 ) (cwV 0 hq (gV qw_654 qw_655 qw_656 qw_126 qw_657) rfl rfl rfl (by decide +kernel) ⟨Nat.le_of_ble_eq_true rfl, Nat.le_of_ble_eq_true rfl⟩) ⟨fun a U g mk q => by obtain ⟨q0, q1, qP, qK, qD, qE⟩ := q; exact ⟨q0, q1, qP, va_K.moved (u := U) (U := U.calling g mk a) (Vm.Alike.refl U.vm) qK, qD, xE.same rfl qE⟩, va_recv hKc hPc (ci := 5) (q0 := 0) rfl rfl, fun U hU hW => ⟨rfl, by rw [hU], by rw [hU]; exact hPc, va_K.moved hW.alike hKc, hDc.weaken (fun _ _ _ _ => trivial), xE.warm hW hE⟩⟩ rfl rfl hl.1 rfl (lv_room (Nat.le_of_ble_eq_true rfl)) dX11_note_9 ⟨Nat.le_of_ble_eq_true rfl, Nat.le_of_ble_eq_true rfl⟩) hS (fun q _ h => hFc q h) hFc (fun u t H1 locs ht hvm hw hB hz1 hk1 hS => ?_)
    have hP1 : va_P (dC, dI) classes [] H1 := vP_nil
    have hD1 : va_D (va_A [(s11, .inr (5, [.int 0, .ref n1, .ref n2, .ref n3, .ref n4]))] s.heap.size) [] := vD_nil
    obtain ⟨hP, hD⟩ := va_join (wr := [(h0, .inr (11, [.ref s0, .int 0, .ref s2, .ref s3, .ref s4, .int 0, .int (-1), .ref s7, .ref s8, .ref s9, .ref s10, .ref s11, .ref s12, .ref s13, .ref s14, .ref s15, .ref s16, .ref s17, .int 0])), (s7, .inr (1, [.int 0, .int 0, .int 0, .ref t3, .ref t4, .ref t5, .ref t6]))]) (w1 := []) hP hD [2] [0, 1] rfl rfl (by decide) (by decide) hk1 hFc hP1 hD1
    generalize H1 = H at hP hS ⊢
    have hP : va_P (dC, dI) classes [(h0, .inr (11, [.ref s0, .int 0, .ref s2, .ref s3, .ref s4, .int 0, .int (-1), .ref s7, .ref s8, .ref s9, .ref s10, .ref s11, .ref s12, .ref s13, .ref s14, .ref s15, .ref s16, .ref s17, .int 0])), (s7, .inr (1, [.int 0, .int 0, .int 0, .ref t3, .ref t4, .ref t5, .ref t6]))] H := hP
    have hD : va_D A [(h0, .inr (11, [.ref s0, .int 0, .ref s2, .ref s3, .ref s4, .int 0, .int (-1), .ref s7, .ref s8, .ref s9, .ref s10, .ref s11, .ref s12, .ref s13, .ref s14, .ref s15, .ref s16, .ref s17, .int 0])), (s7, .inr (1, [.int 0, .int 0, .int 0, .ref t3, .ref t4, .ref t5, .ref t6]))] := hD
    refine lv_iconst (v := 0) hx hb dX11_note_12 (by decide) ?_
    refine W.widen (k := 0) (n := 0) (Nat.le_of_ble_eq_true rfl) (Nat.le_of_ble_eq_true rfl) ?_
    exact W.iret (v := 0) hx hb hr (fun t ht hW => ⟨⟨0, (), rfl, ⟨fun _ => rfl, fun z => absurd c_1 z⟩, trivial⟩, hS.F ht⟩) hS.2.2 dX11_note_13
