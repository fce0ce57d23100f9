theorem qw_2 : (.selects RX2 yX2_readNumbers yX2_readNumbers : Cond) ∈ wsA := mA (i := 2) (by decide +kernel) rfl
theorem qw_3 : (.selects RX2 yX2_nextNumber yX2_nextNumber : Cond) ∈ wsA := mA (i := 3) (by decide +kernel) rfl
theorem qw_120 : (.initialized RX2 : Cond) ∈ wsA := mA (i := 120) (by decide +kernel) rfl
theorem qw_162 : (.fieldLink RX2 37 "SpokenBite$Reade\x72" "place" "I" : Cond) ∈ wsA := mA (i := 162) (by decide +kernel) rfl
theorem qw_166 : (.fieldLink RX2 60 "SpokenBite$Reade\x72" "fault" "I" : Cond) ∈ wsA := mA (i := 166) (by decide +kernel) rfl
theorem qw_177 : (.fieldLink RX2 12 "SpokenBite$DinnerReade\x72" "reade\x72" "LSpokenBite$Reader;" : Cond) ∈ wsA := mA (i := 177) (by decide +kernel) rfl
theorem qw_225 : (.fieldLink RX2 73 "SpokenBite$Dinne\x72" "deep" "I" : Cond) ∈ wsA := mA (i := 225) (by decide +kernel) rfl
theorem qw_230 : (.fieldLink RX2 63 "SpokenBite$Dinne\x72" "dishes" "I" : Cond) ∈ wsA := mA (i := 230) (by decide +kernel) rfl
theorem qw_234 : (.fieldLink RX2 66 "SpokenBite$Dinne\x72" "guests" "I" : Cond) ∈ wsA := mA (i := 234) (by decide +kernel) rfl
theorem qw_527 : (.methodLink RX2 18 yX7_open : Cond) ∈ wsA := mA (i := 527) (by decide +kernel) rfl
theorem qw_528 : (.instanceMethod yX7_open : Cond) ∈ wsA := mA (i := 528) (by decide +kernel) rfl
theorem qw_529 : (.selects RX7 yX7_open yX7_open : Cond) ∈ wsA := mA (i := 529) (by decide +kernel) rfl
theorem qw_530 : (.code yX7_open cX7_open 3 none : Cond) ∈ wsA := mA (i := 530) (by decide +kernel) rfl
theorem qw_534 : (.methodLink RX2 22 yX1_clear : Cond) ∈ wsA := mA (i := 534) (by decide +kernel) rfl
theorem qw_535 : (.instanceMethod yX1_clear : Cond) ∈ wsA := mA (i := 535) (by decide +kernel) rfl
theorem qw_536 : (.selects RX1 yX1_clear yX1_clear : Cond) ∈ wsA := mA (i := 536) (by decide +kernel) rfl
theorem qw_537 : (.code yX1_clear cX1_clear 2 none : Cond) ∈ wsA := mA (i := 537) (by decide +kernel) rfl
theorem qw_538 : (.methodLink RX2 27 yX7_sign : Cond) ∈ wsA := mA (i := 538) (by decide +kernel) rfl
theorem qw_547 : (.methodLink RX2 33 yX7_wordAmong : Cond) ∈ wsA := mA (i := 547) (by decide +kernel) rfl
theorem qw_548 : (.instanceMethod yX7_wordAmong : Cond) ∈ wsA := mA (i := 548) (by decide +kernel) rfl
theorem qw_549 : (.selects RX7 yX7_wordAmong yX7_wordAmong : Cond) ∈ wsA := mA (i := 549) (by decide +kernel) rfl
theorem qw_550 : (.code yX7_wordAmong cX7_wordAmong 7 (some .int) : Cond) ∈ wsA := mA (i := 550) (by decide +kernel) rfl
theorem qw_602 : (.methodLink RX2 41 yX7_blame : Cond) ∈ wsA := mA (i := 602) (by decide +kernel) rfl
theorem qw_606 : (.methodLink RX2 45 yX2_mayStand : Cond) ∈ wsA := mA (i := 606) (by decide +kernel) rfl
theorem qw_607 : (.static yX2_mayStand : Cond) ∈ wsA := mA (i := 607) (by decide +kernel) rfl
theorem qw_608 : (.code yX2_mayStand cX2_mayStand 3 (some .boolean) : Cond) ∈ wsA := mA (i := 608) (by decide +kernel) rfl
theorem qw_609 : (.methodLink RX2 49 yX7_skipWord : Cond) ∈ wsA := mA (i := 609) (by decide +kernel) rfl
theorem qw_610 : (.instanceMethod yX7_skipWord : Cond) ∈ wsA := mA (i := 610) (by decide +kernel) rfl
theorem qw_611 : (.selects RX7 yX7_skipWord yX7_skipWord : Cond) ∈ wsA := mA (i := 611) (by decide +kernel) rfl
theorem qw_612 : (.code yX7_skipWord cX7_skipWord 2 none : Cond) ∈ wsA := mA (i := 612) (by decide +kernel) rfl
theorem qw_613 : (.methodLink RX2 52 yX2_readNumbers : Cond) ∈ wsA := mA (i := 613) (by decide +kernel) rfl
theorem qw_615 : (.instanceMethod yX2_readNumbers : Cond) ∈ wsA := mA (i := 615) (by decide +kernel) rfl
theorem qw_616 : (.code yX2_readNumbers cX2_readNumbers 4 none : Cond) ∈ wsA := mA (i := 616) (by decide +kernel) rfl
theorem qw_617 : (.methodLink RX2 69 yX2_nextNumber : Cond) ∈ wsA := mA (i := 617) (by decide +kernel) rfl
theorem qw_619 : (.instanceMethod yX2_nextNumber : Cond) ∈ wsA := mA (i := 619) (by decide +kernel) rfl
theorem qw_620 : (.code yX2_nextNumber cX2_nextNumber 4 (some .int) : Cond) ∈ wsA := mA (i := 620) (by decide +kernel) rfl
theorem qw_621 : (.methodLink RX2 86 yX7_number : Cond) ∈ wsA := mA (i := 621) (by decide +kernel) rfl
theorem qw_622 : (.instanceMethod yX7_number : Cond) ∈ wsA := mA (i := 622) (by decide +kernel) rfl
theorem qw_623 : (.selects RX7 yX7_number yX7_number : Cond) ∈ wsA := mA (i := 623) (by decide +kernel) rfl
theorem qw_624 : (.code yX7_number cX7_number 7 (some .int) : Cond) ∈ wsA := mA (i := 624) (by decide +kernel) rfl
theorem qw_629 : (.methodLink RX2 76 yX1_addDish : Cond) ∈ wsA := mA (i := 629) (by decide +kernel) rfl
theorem qw_630 : (.instanceMethod yX1_addDish : Cond) ∈ wsA := mA (i := 630) (by decide +kernel) rfl
theorem qw_631 : (.selects RX1 yX1_addDish yX1_addDish : Cond) ∈ wsA := mA (i := 631) (by decide +kernel) rfl
theorem qw_632 : (.code yX1_addDish cX1_addDish 3 none : Cond) ∈ wsA := mA (i := 632) (by decide +kernel) rfl
theorem qw_633 : (.methodLink RX2 79 yX1_addGuest : Cond) ∈ wsA := mA (i := 633) (by decide +kernel) rfl
theorem qw_634 : (.instanceMethod yX1_addGuest : Cond) ∈ wsA := mA (i := 634) (by decide +kernel) rfl
theorem qw_635 : (.selects RX1 yX1_addGuest yX1_addGuest : Cond) ∈ wsA := mA (i := 635) (by decide +kernel) rfl
theorem qw_636 : (.code yX1_addGuest cX1_addGuest 2 none : Cond) ∈ wsA := mA (i := 636) (by decide +kernel) rfl
theorem qw_637 : (.methodLink RX2 83 yX1_addClash : Cond) ∈ wsA := mA (i := 637) (by decide +kernel) rfl
theorem qw_638 : (.instanceMethod yX1_addClash : Cond) ∈ wsA := mA (i := 638) (by decide +kernel) rfl
theorem qw_639 : (.selects RX1 yX1_addClash yX1_addClash : Cond) ∈ wsA := mA (i := 639) (by decide +kernel) rfl
theorem qw_640 : (.code yX1_addClash cX1_addClash 3 none : Cond) ∈ wsA := mA (i := 640) (by decide +kernel) rfl
theorem qw_641 : (.methodLink RX2 56 yX7_goesOn : Cond) ∈ wsA := mA (i := 641) (by decide +kernel) rfl
theorem qw_642 : (.instanceMethod yX7_goesOn : Cond) ∈ wsA := mA (i := 642) (by decide +kernel) rfl
theorem qw_643 : (.selects RX7 yX7_goesOn yX7_goesOn : Cond) ∈ wsA := mA (i := 643) (by decide +kernel) rfl
theorem qw_644 : (.code yX7_goesOn cX7_goesOn 2 (some .boolean) : Cond) ∈ wsA := mA (i := 644) (by decide +kernel) rfl
theorem dX2_mayStand_0 : decode cX2_mayStand 0 = .ok (.iload_n 0, 1) := by decide +kernel
theorem dX2_mayStand_1 : decode cX2_mayStand 1 = .ok (.ifCond .ne 7, 3) := by decide +kernel
theorem dX2_mayStand_4 : decode cX2_mayStand 4 = .ok (.iconst 1, 1) := by decide +kernel
theorem dX2_mayStand_5 : decode cX2_mayStand 5 = .ok (.goto 4, 3) := by decide +kernel
theorem dX2_mayStand_8 : decode cX2_mayStand 8 = .ok (.iconst 0, 1) := by decide +kernel
theorem dX2_mayStand_9 : decode cX2_mayStand 9 = .ok (.iload_n 1, 1) := by decide +kernel
theorem dX2_mayStand_10 : decode cX2_mayStand 10 = .ok (.ifCond .ne 7, 3) := by decide +kernel
theorem dX2_mayStand_13 : decode cX2_mayStand 13 = .ok (.iconst 1, 1) := by decide +kernel
theorem dX2_mayStand_14 : decode cX2_mayStand 14 = .ok (.goto 4, 3) := by decide +kernel
theorem dX2_mayStand_17 : decode cX2_mayStand 17 = .ok (.iconst 0, 1) := by decide +kernel
theorem dX2_mayStand_18 : decode cX2_mayStand 18 = .ok (.if_icmp .eq 5, 3) := by decide +kernel
theorem dX2_mayStand_21 : decode cX2_mayStand 21 = .ok (.iconst 0, 1) := by decide +kernel
theorem dX2_mayStand_22 : decode cX2_mayStand 22 = .ok (.ireturn, 1) := by decide +kernel
theorem dX2_mayStand_23 : decode cX2_mayStand 23 = .ok (.iload_n 0, 1) := by decide +kernel
theorem dX2_mayStand_24 : decode cX2_mayStand 24 = .ok (.iconst 1, 1) := by decide +kernel
theorem dX2_mayStand_25 : decode cX2_mayStand 25 = .ok (.if_icmp .ne 18, 3) := by decide +kernel
theorem dX2_mayStand_28 : decode cX2_mayStand 28 = .ok (.aload_n 2, 1) := by decide +kernel
theorem dX2_mayStand_29 : decode cX2_mayStand 29 = .ok (.getfield 63, 3) := by decide +kernel
theorem dX2_mayStand_32 : decode cX2_mayStand 32 = .ok (.bipush 8, 2) := by decide +kernel
theorem dX2_mayStand_34 : decode cX2_mayStand 34 = .ok (.if_icmp .ge 7, 3) := by decide +kernel
theorem dX2_mayStand_37 : decode cX2_mayStand 37 = .ok (.iconst 1, 1) := by decide +kernel
theorem dX2_mayStand_38 : decode cX2_mayStand 38 = .ok (.goto 4, 3) := by decide +kernel
theorem dX2_mayStand_41 : decode cX2_mayStand 41 = .ok (.iconst 0, 1) := by decide +kernel
theorem dX2_mayStand_42 : decode cX2_mayStand 42 = .ok (.ireturn, 1) := by decide +kernel
theorem dX2_mayStand_43 : decode cX2_mayStand 43 = .ok (.iload_n 0, 1) := by decide +kernel
theorem dX2_mayStand_44 : decode cX2_mayStand 44 = .ok (.iconst 2, 1) := by decide +kernel
theorem dX2_mayStand_45 : decode cX2_mayStand 45 = .ok (.if_icmp .ne 11, 3) := by decide +kernel
theorem dX2_mayStand_48 : decode cX2_mayStand 48 = .ok (.aload_n 2, 1) := by decide +kernel
theorem dX2_mayStand_49 : decode cX2_mayStand 49 = .ok (.getfield 66, 3) := by decide +kernel
theorem dX2_mayStand_52 : decode cX2_mayStand 52 = .ok (.iconst 5, 1) := by decide +kernel
theorem dX2_mayStand_53 : decode cX2_mayStand 53 = .ok (.if_icmp .ge 7, 3) := by decide +kernel
theorem dX2_mayStand_56 : decode cX2_mayStand 56 = .ok (.iconst 1, 1) := by decide +kernel
theorem dX2_mayStand_57 : decode cX2_mayStand 57 = .ok (.goto 4, 3) := by decide +kernel
theorem dX2_mayStand_60 : decode cX2_mayStand 60 = .ok (.iconst 0, 1) := by decide +kernel
theorem dX2_mayStand_61 : decode cX2_mayStand 61 = .ok (.ireturn, 1) := by decide +kernel
theorem dX2_nextNumber_0 : decode cX2_nextNumber 0 = .ok (.aload_n 0, 1) := by decide +kernel
theorem dX2_nextNumber_1 : decode cX2_nextNumber 1 = .ok (.getfield 12, 3) := by decide +kernel
theorem dX2_nextNumber_4 : decode cX2_nextNumber 4 = .ok (.invokevirtual 27, 3) := by decide +kernel
theorem dX2_nextNumber_7 : decode cX2_nextNumber 7 = .ok (.pop, 1) := by decide +kernel
theorem dX2_nextNumber_8 : decode cX2_nextNumber 8 = .ok (.aload_n 0, 1) := by decide +kernel
theorem dX2_nextNumber_9 : decode cX2_nextNumber 9 = .ok (.getfield 12, 3) := by decide +kernel
theorem dX2_nextNumber_12 : decode cX2_nextNumber 12 = .ok (.iload_n 1, 1) := by decide +kernel
theorem dX2_nextNumber_13 : decode cX2_nextNumber 13 = .ok (.iload_n 2, 1) := by decide +kernel
theorem dX2_nextNumber_14 : decode cX2_nextNumber 14 = .ok (.iload_n 3, 1) := by decide +kernel
theorem dX2_nextNumber_15 : decode cX2_nextNumber 15 = .ok (.invokevirtual 86, 3) := by decide +kernel
theorem dX2_nextNumber_18 : decode cX2_nextNumber 18 = .ok (.ireturn, 1) := by decide +kernel
theorem dX2_read_0 : decode cX2_read 0 = .ok (.aload_n 0, 1) := by decide +kernel
theorem dX2_read_1 : decode cX2_read 1 = .ok (.getfield 12, 3) := by decide +kernel
theorem dX2_read_4 : decode cX2_read 4 = .ok (.aload_n 1, 1) := by decide +kernel
theorem dX2_read_5 : decode cX2_read 5 = .ok (.iload_n 2, 1) := by decide +kernel
theorem dX2_read_6 : decode cX2_read 6 = .ok (.invokevirtual 18, 3) := by decide +kernel
theorem dX2_read_9 : decode cX2_read 9 = .ok (.aload_n 3, 1) := by decide +kernel
theorem dX2_read_10 : decode cX2_read 10 = .ok (.invokevirtual 22, 3) := by decide +kernel
theorem dX2_read_13 : decode cX2_read 13 = .ok (.iconst 0, 1) := by decide +kernel
theorem dX2_read_14 : decode cX2_read 14 = .ok (.istore 4, 2) := by decide +kernel
theorem dX2_read_16 : decode cX2_read 16 = .ok (.iload 4, 2) := by decide +kernel
theorem dX2_read_18 : decode cX2_read 18 = .ok (.bipush 40, 2) := by decide +kernel
theorem dX2_read_20 : decode cX2_read 20 = .ok (.if_icmp .gt 115, 3) := by decide +kernel
theorem dX2_read_23 : decode cX2_read 23 = .ok (.aload_n 0, 1) := by decide +kernel
theorem dX2_read_24 : decode cX2_read 24 = .ok (.getfield 12, 3) := by decide +kernel
theorem dX2_read_27 : decode cX2_read 27 = .ok (.invokevirtual 27, 3) := by decide +kernel
theorem dX2_read_30 : decode cX2_read 30 = .ok (.pop, 1) := by decide +kernel
theorem dX2_read_31 : decode cX2_read 31 = .ok (.aload_n 0, 1) := by decide +kernel
theorem dX2_read_32 : decode cX2_read 32 = .ok (.getfield 12, 3) := by decide +kernel
theorem dX2_read_35 : decode cX2_read 35 = .ok (.ldc 31, 2) := by decide +kernel
theorem dX2_read_37 : decode cX2_read 37 = .ok (.invokevirtual 33, 3) := by decide +kernel
theorem dX2_read_40 : decode cX2_read 40 = .ok (.istore 5, 2) := by decide +kernel
theorem dX2_read_42 : decode cX2_read 42 = .ok (.iload 5, 2) := by decide +kernel
theorem dX2_read_44 : decode cX2_read 44 = .ok (.iconst (-1), 1) := by decide +kernel
theorem dX2_read_45 : decode cX2_read 45 = .ok (.if_icmp .ne 21, 3) := by decide +kernel
theorem dX2_read_48 : decode cX2_read 48 = .ok (.aload_n 0, 1) := by decide +kernel
theorem dX2_read_49 : decode cX2_read 49 = .ok (.getfield 12, 3) := by decide +kernel
theorem dX2_read_52 : decode cX2_read 52 = .ok (.aload_n 0, 1) := by decide +kernel
theorem dX2_read_53 : decode cX2_read 53 = .ok (.getfield 12, 3) := by decide +kernel
theorem dX2_read_56 : decode cX2_read 56 = .ok (.getfield 37, 3) := by decide +kernel
theorem dX2_read_59 : decode cX2_read 59 = .ok (.iconst 0, 1) := by decide +kernel
theorem dX2_read_60 : decode cX2_read 60 = .ok (.invokevirtual 41, 3) := by decide +kernel
theorem dX2_read_63 : decode cX2_read 63 = .ok (.goto 53, 3) := by decide +kernel
theorem dX2_read_66 : decode cX2_read 66 = .ok (.iload 4, 2) := by decide +kernel
theorem dX2_read_68 : decode cX2_read 68 = .ok (.bipush 40, 2) := by decide +kernel
theorem dX2_read_70 : decode cX2_read 70 = .ok (.if_icmp .eq 14, 3) := by decide +kernel
theorem dX2_read_73 : decode cX2_read 73 = .ok (.iload 5, 2) := by decide +kernel
theorem dX2_read_75 : decode cX2_read 75 = .ok (.iload 4, 2) := by decide +kernel
theorem dX2_read_77 : decode cX2_read 77 = .ok (.aload_n 3, 1) := by decide +kernel
theorem dX2_read_78 : decode cX2_read 78 = .ok (.invokestatic 45, 3) := by decide +kernel
theorem dX2_read_81 : decode cX2_read 81 = .ok (.ifCond .ne 21, 3) := by decide +kernel
theorem dX2_read_84 : decode cX2_read 84 = .ok (.aload_n 0, 1) := by decide +kernel
theorem dX2_read_85 : decode cX2_read 85 = .ok (.getfield 12, 3) := by decide +kernel
theorem dX2_read_88 : decode cX2_read 88 = .ok (.aload_n 0, 1) := by decide +kernel
theorem dX2_read_89 : decode cX2_read 89 = .ok (.getfield 12, 3) := by decide +kernel
theorem dX2_read_92 : decode cX2_read 92 = .ok (.getfield 37, 3) := by decide +kernel
theorem dX2_read_95 : decode cX2_read 95 = .ok (.iconst 4, 1) := by decide +kernel
theorem dX2_read_96 : decode cX2_read 96 = .ok (.invokevirtual 41, 3) := by decide +kernel
theorem dX2_read_99 : decode cX2_read 99 = .ok (.goto 17, 3) := by decide +kernel
theorem dX2_read_102 : decode cX2_read 102 = .ok (.aload_n 0, 1) := by decide +kernel
theorem dX2_read_103 : decode cX2_read 103 = .ok (.getfield 12, 3) := by decide +kernel
theorem dX2_read_106 : decode cX2_read 106 = .ok (.invokevirtual 49, 3) := by decide +kernel
theorem dX2_read_109 : decode cX2_read 109 = .ok (.aload_n 0, 1) := by decide +kernel
theorem dX2_read_110 : decode cX2_read 110 = .ok (.iload 5, 2) := by decide +kernel
theorem dX2_read_112 : decode cX2_read 112 = .ok (.aload_n 3, 1) := by decide +kernel
theorem dX2_read_113 : decode cX2_read 113 = .ok (.invokevirtual 52, 3) := by decide +kernel
theorem dX2_read_116 : decode cX2_read 116 = .ok (.aload_n 0, 1) := by decide +kernel
theorem dX2_read_117 : decode cX2_read 117 = .ok (.getfield 12, 3) := by decide +kernel
theorem dX2_read_120 : decode cX2_read 120 = .ok (.invokevirtual 56, 3) := by decide +kernel
theorem dX2_read_123 : decode cX2_read 123 = .ok (.ifCond .ne 6, 3) := by decide +kernel
theorem dX2_read_126 : decode cX2_read 126 = .ok (.goto 9, 3) := by decide +kernel
theorem dX2_read_129 : decode cX2_read 129 = .ok (.iinc 4 1, 3) := by decide +kernel
theorem dX2_read_132 : decode cX2_read 132 = .ok (.goto (-116), 3) := by decide +kernel
theorem dX2_read_135 : decode cX2_read 135 = .ok (.aload_n 0, 1) := by decide +kernel
theorem dX2_read_136 : decode cX2_read 136 = .ok (.getfield 12, 3) := by decide +kernel
theorem dX2_read_139 : decode cX2_read 139 = .ok (.getfield 60, 3) := by decide +kernel
theorem dX2_read_142 : decode cX2_read 142 = .ok (.ireturn, 1) := by decide +kernel
theorem dX2_readNumbers_0 : decode cX2_readNumbers 0 = .ok (.iload_n 1, 1) := by decide +kernel
theorem dX2_readNumbers_1 : decode cX2_readNumbers 1 = .ok (.ifCond .ne 18, 3) := by decide +kernel
theorem dX2_readNumbers_4 : decode cX2_readNumbers 4 = .ok (.aload_n 2, 1) := by decide +kernel
theorem dX2_readNumbers_5 : decode cX2_readNumbers 5 = .ok (.aload_n 0, 1) := by decide +kernel
theorem dX2_readNumbers_6 : decode cX2_readNumbers 6 = .ok (.iconst 1, 1) := by decide +kernel
theorem dX2_readNumbers_7 : decode cX2_readNumbers 7 = .ok (.bipush 6, 2) := by decide +kernel
theorem dX2_readNumbers_9 : decode cX2_readNumbers 9 = .ok (.iconst (-1), 1) := by decide +kernel
theorem dX2_readNumbers_10 : decode cX2_readNumbers 10 = .ok (.invokevirtual 69, 3) := by decide +kernel
theorem dX2_readNumbers_13 : decode cX2_readNumbers 13 = .ok (.putfield 73, 3) := by decide +kernel
theorem dX2_readNumbers_16 : decode cX2_readNumbers 16 = .ok (.goto 75, 3) := by decide +kernel
theorem dX2_readNumbers_19 : decode cX2_readNumbers 19 = .ok (.iload_n 1, 1) := by decide +kernel
theorem dX2_readNumbers_20 : decode cX2_readNumbers 20 = .ok (.iconst 1, 1) := by decide +kernel
theorem dX2_readNumbers_21 : decode cX2_readNumbers 21 = .ok (.if_icmp .ne 28, 3) := by decide +kernel
theorem dX2_readNumbers_24 : decode cX2_readNumbers 24 = .ok (.aload_n 0, 1) := by decide +kernel
theorem dX2_readNumbers_25 : decode cX2_readNumbers 25 = .ok (.iconst 0, 1) := by decide +kernel
theorem dX2_readNumbers_26 : decode cX2_readNumbers 26 = .ok (.bipush 20, 2) := by decide +kernel
theorem dX2_readNumbers_28 : decode cX2_readNumbers 28 = .ok (.iconst (-1), 1) := by decide +kernel
theorem dX2_readNumbers_29 : decode cX2_readNumbers 29 = .ok (.invokevirtual 69, 3) := by decide +kernel
theorem dX2_readNumbers_32 : decode cX2_readNumbers 32 = .ok (.istore_n 3, 1) := by decide +kernel
theorem dX2_readNumbers_33 : decode cX2_readNumbers 33 = .ok (.aload_n 2, 1) := by decide +kernel
theorem dX2_readNumbers_34 : decode cX2_readNumbers 34 = .ok (.iload_n 3, 1) := by decide +kernel
theorem dX2_readNumbers_35 : decode cX2_readNumbers 35 = .ok (.aload_n 0, 1) := by decide +kernel
theorem dX2_readNumbers_36 : decode cX2_readNumbers 36 = .ok (.iconst 0, 1) := by decide +kernel
theorem dX2_readNumbers_37 : decode cX2_readNumbers 37 = .ok (.bipush 7, 2) := by decide +kernel
theorem dX2_readNumbers_39 : decode cX2_readNumbers 39 = .ok (.iconst (-1), 1) := by decide +kernel
theorem dX2_readNumbers_40 : decode cX2_readNumbers 40 = .ok (.invokevirtual 69, 3) := by decide +kernel
theorem dX2_readNumbers_43 : decode cX2_readNumbers 43 = .ok (.invokevirtual 76, 3) := by decide +kernel
theorem dX2_readNumbers_46 : decode cX2_readNumbers 46 = .ok (.goto 45, 3) := by decide +kernel
theorem dX2_readNumbers_49 : decode cX2_readNumbers 49 = .ok (.iload_n 1, 1) := by decide +kernel
theorem dX2_readNumbers_50 : decode cX2_readNumbers 50 = .ok (.iconst 2, 1) := by decide +kernel
theorem dX2_readNumbers_51 : decode cX2_readNumbers 51 = .ok (.if_icmp .ne 18, 3) := by decide +kernel
theorem dX2_readNumbers_54 : decode cX2_readNumbers 54 = .ok (.aload_n 2, 1) := by decide +kernel
theorem dX2_readNumbers_55 : decode cX2_readNumbers 55 = .ok (.aload_n 0, 1) := by decide +kernel
theorem dX2_readNumbers_56 : decode cX2_readNumbers 56 = .ok (.iconst 0, 1) := by decide +kernel
theorem dX2_readNumbers_57 : decode cX2_readNumbers 57 = .ok (.bipush 20, 2) := by decide +kernel
theorem dX2_readNumbers_59 : decode cX2_readNumbers 59 = .ok (.iconst (-1), 1) := by decide +kernel
theorem dX2_readNumbers_60 : decode cX2_readNumbers 60 = .ok (.invokevirtual 69, 3) := by decide +kernel
theorem dX2_readNumbers_63 : decode cX2_readNumbers 63 = .ok (.invokevirtual 79, 3) := by decide +kernel
theorem dX2_readNumbers_66 : decode cX2_readNumbers 66 = .ok (.goto 25, 3) := by decide +kernel
theorem dX2_readNumbers_69 : decode cX2_readNumbers 69 = .ok (.aload_n 0, 1) := by decide +kernel
theorem dX2_readNumbers_70 : decode cX2_readNumbers 70 = .ok (.iconst 0, 1) := by decide +kernel
theorem dX2_readNumbers_71 : decode cX2_readNumbers 71 = .ok (.bipush 7, 2) := by decide +kernel
theorem dX2_readNumbers_73 : decode cX2_readNumbers 73 = .ok (.iconst (-1), 1) := by decide +kernel
theorem dX2_readNumbers_74 : decode cX2_readNumbers 74 = .ok (.invokevirtual 69, 3) := by decide +kernel
theorem dX2_readNumbers_77 : decode cX2_readNumbers 77 = .ok (.istore_n 3, 1) := by decide +kernel
theorem dX2_readNumbers_78 : decode cX2_readNumbers 78 = .ok (.aload_n 2, 1) := by decide +kernel
theorem dX2_readNumbers_79 : decode cX2_readNumbers 79 = .ok (.iload_n 3, 1) := by decide +kernel
theorem dX2_readNumbers_80 : decode cX2_readNumbers 80 = .ok (.aload_n 0, 1) := by decide +kernel
theorem dX2_readNumbers_81 : decode cX2_readNumbers 81 = .ok (.iconst 0, 1) := by decide +kernel
theorem dX2_readNumbers_82 : decode cX2_readNumbers 82 = .ok (.bipush 7, 2) := by decide +kernel
theorem dX2_readNumbers_84 : decode cX2_readNumbers 84 = .ok (.iload_n 3, 1) := by decide +kernel
theorem dX2_readNumbers_85 : decode cX2_readNumbers 85 = .ok (.invokevirtual 69, 3) := by decide +kernel
theorem dX2_readNumbers_88 : decode cX2_readNumbers 88 = .ok (.invokevirtual 83, 3) := by decide +kernel
theorem dX2_readNumbers_91 : decode cX2_readNumbers 91 = .ok (.return_, 1) := by decide +kernel
set_option maxHeartbeats 4000000 in
set_option maxRecDepth 100000 in
/-- dr_next -/
theorem dr_next (l : Launch) (dC : Nat → ClassId) (dI : Nat → Nat → Nat) (sz : Nat) (h0 : Nat) (rd : Nat) (tp : Nat) (rd_length : Int32) (rd_place : Int32) (rd_fault : Int32) (ktp : ClassId) (gtp : Nat → Int32) (x0 : Int32) (x1 : Int32) (x2 : Int32) : Met l yX2_nextNumber (.code yX2_nextNumber cX2_nextNumber 4 (some .int) :: wsA) ({ frames := 2, cells := 0, slots := 0, locals := 48 }) (va_Pc [.ref h0, .int x0, .int x1, .int x2] (fun U => U.heap.size = sz ∧ va_P (dC, dI) classes [(h0, .inr (2, [.ref rd])), (rd, .inr (7, [.ref tp, .int rd_length, .int rd_place, .int rd_fault])), (tp, .inl (ktp, 400, .inl gtp))] U.heap ∧ va_K (dC, dI) classes [(ktp, .int)] U ∧ va_D (fun _ => True) [(h0, .inr (2, [.ref rd])), (rd, .inr (7, [.ref tp, .int rd_length, .int rd_place, .int rd_fault])), (tp, .inl (ktp, 400, .inl gtp))] ∧ xE U)) (va_Qi (fun (r : Int32) (_ : Unit) => True) (fun _ t => ∃ (yy_5 : Nat → Int32), va_P (dC, dI) classes [(h0, .inr (2, [.ref rd])), (rd, .inr (7, [.ref tp, .int rd_length, .int (yy_5 0), .int (yy_5 1)])), (tp, .inl (ktp, 400, .inl gtp))] t.heap ∧ va_K (dC, dI) classes [(ktp, .int)] t ∧ va_D (va_A [(h0, .inr (2, [.ref rd])), (rd, .inr (7, [.ref tp, .int rd_length, .int rd_place, .int rd_fault])), (tp, .inl (ktp, 400, .inl gtp))] sz) [(h0, .inr (2, [.ref rd])), (rd, .inr (7, [.ref tp, .int rd_length, .int (yy_5 0), .int (yy_5 1)])), (tp, .inl (ktp, 400, .inl gtp))]) (va_A [(h0, .inr (2, [.ref rd])), (rd, .inr (7, [.ref tp, .int rd_length, .int rd_place, .int rd_fault])), (tp, .inl (ktp, 400, .inl gtp))] sz)) 0 0 (va_A [(h0, .inr (2, [.ref rd])), (rd, .inr (7, [.ref tp, .int rd_length, .int rd_place, .int rd_fault])), (tp, .inl (ktp, 400, .inl gtp))] sz) := by
  refine Met.ofW (cc := cX2_nextNumber) (maxL := 4) (ret := (some .int)) (by decide) rfl ?_
  intro p e s m args below meth c s₁ B hml hv
  obtain ⟨rfl, hsz, hP, hK, hD0, hE⟩ := hv
  have hx := B.exec
  have hb := B.bytes
  have hr := B.returns
  have hts := atoms_spec (ws := .code yX2_nextNumber cX2_nextNumber 4 (some .int) :: wsA) B.pre
  have hq : ∀ w ∈ wsA, w.before _ s = true := fun w h => hts w (List.mem_cons_of_mem _ h)
  have hown : s.vm.findClass RX2 = some m.cls := findClass_of_methodNamed B.named
  have hlocks := B.notSynchronized
  subst hsz
  have hD := hD0.self (sz := s.heap.size)
  generalize hAe : va_A [(h0, .inr (2, [.ref rd])), (rd, .inr (7, [.ref tp, .int rd_length, .int rd_place, .int rd_fault])), (tp, .inl (ktp, 400, .inl gtp))] s.heap.size = A at hD ⊢
  have hA : ∀ q : Nat, s.heap.size ≤ q → A q := fun q h => by rw [← hAe]; exact Or.inr h
  have hS : va_S A s.heap s.heap [] := va_S.rf
  have hl := lv_entry ([.ref h0, .int x0, .int x1, .int x2]) (n := 4) (Nat.le_of_ble_eq_true rfl)
  rw [lg_entry_eq]
  generalize (lg_sl ([.ref h0, .int x0, .int x1, .int x2]) ++ List.replicate (4 - (lg_sl ([.ref h0, .int x0, .int x1, .int x2])).length) Slot.unset).toArray = ls at hl ⊢
  have hl : lv_has ls 4 [(0, .ref h0), (1, .int x0), (2, .int x1), (3, .int x2)] := hl
  refine lv_aload_n hx hb dX2_nextNumber_0 rfl (lv_at hl 0 rfl) ?_
  refine va_get (D := (dC, dI)) (ci := 2) (v := .ref rd) (C := RX2) (T := TX2) (N := 1) hx hb hq inX2 hown hK hP 0 rfl rfl 0 (by decide) (hq _ qw_177) (fun _ h9 => h9) rfl dX2_nextNumber_1 ?_
  have hPc := hP.sub (ws' := [(rd, .inr (7, [.ref tp, .int rd_length, .int rd_place, .int rd_fault])), (tp, .inl (ktp, 400, .inl gtp))]) [1, 2] rfl
  have hDc := hD.sub (ws' := [(rd, .inr (7, [.ref tp, .int rd_length, .int rd_place, .int rd_fault])), (tp, .inl (ktp, 400, .inl gtp))]) [1, 2] (by decide) rfl
  have hKc := hK.sub (tys' := [(ktp, .int)]) [0] rfl
  have hFc := va_free (wc := [(rd, .inr (7, [.ref tp, .int rd_length, .int rd_place, .int rd_fault])), (tp, .inl (ktp, 400, .inl gtp))]) hD hS hA [1, 2] rfl
  refine va_calli (va_runV (As := []) (rest := []) ⟨hx, hb, hml, hown, hq⟩ (rd_sign l dC dI _ rd tp rd_length rd_place rd_fault ktp gtp ) (cwV 0 hq (gV qw_538 qw_539 qw_540 qw_121 qw_541) rfl rfl rfl (by decide +kernel) ⟨Nat.le_of_ble_eq_true rfl, Nat.le_of_ble_eq_true rfl⟩) ⟨fun a U g mk q => by obtain ⟨q0, q1, qP, qK, qD, qE⟩ := q; exact ⟨q0, q1, qP, va_K.moved (u := U) (U := U.calling g mk a) (Vm.Alike.refl U.vm) qK, qD, xE.same rfl qE⟩, va_recv hKc hPc (ci := 7) (q0 := 0) rfl rfl, fun U hU hW => ⟨rfl, by rw [hU], by rw [hU]; exact hPc, va_K.moved hW.alike hKc, hDc.weaken (fun _ _ _ _ => trivial), xE.warm hW hE⟩⟩ rfl rfl hl.1 rfl (lv_room (Nat.le_of_ble_eq_true rfl)) dX2_nextNumber_4 ⟨Nat.le_of_ble_eq_true rfl, Nat.le_of_ble_eq_true rfl⟩) hS (fun q _ h => hFc q h) hFc (fun r_6 u t H1 locs ht hvm hw hB hz1 hk1 hS => ?_)
  obtain ⟨yy_7, hP1, hK1, hD1⟩ := hB
  rw [ht] at hP1
  obtain ⟨hP, hD⟩ := va_join (wr := [(h0, .inr (2, [.ref rd]))]) (w1 := [(rd, .inr (7, [.ref tp, .int rd_length, .int (yy_7 0), .int rd_fault])), (tp, .inl (ktp, 400, .inl gtp))]) hP hD [1, 2] [0] rfl rfl (by decide) (by decide) hk1 hFc hP1 hD1
  generalize H1 = H at hP hS ⊢
  have hP : va_P (dC, dI) classes [(h0, .inr (2, [.ref rd])), (rd, .inr (7, [.ref tp, .int rd_length, .int (yy_7 0), .int rd_fault])), (tp, .inl (ktp, 400, .inl gtp))] H := hP
  have hD : va_D A [(h0, .inr (2, [.ref rd])), (rd, .inr (7, [.ref tp, .int rd_length, .int (yy_7 0), .int rd_fault])), (tp, .inl (ktp, 400, .inl gtp))] := hD
  refine lv_pop hx hb dX2_nextNumber_7 rfl ?_
  refine lv_aload_n hx hb dX2_nextNumber_8 rfl (lv_at hl 0 rfl) ?_
  refine va_get (D := (dC, dI)) (ci := 2) (v := .ref rd) (C := RX2) (T := TX2) (N := 1) hx hb hq inX2 hown hK hP 0 rfl rfl 0 (by decide) (hq _ qw_177) (fun _ h9 => h9) rfl dX2_nextNumber_9 ?_
  refine lv_iload_n hx hb dX2_nextNumber_12 rfl (lv_at hl 1 rfl) ?_
  refine lv_iload_n hx hb dX2_nextNumber_13 rfl (lv_at hl 2 rfl) ?_
  refine lv_iload_n hx hb dX2_nextNumber_14 rfl (lv_at hl 3 rfl) ?_
  have hPc := hP.sub (ws' := [(rd, .inr (7, [.ref tp, .int rd_length, .int (yy_7 0), .int rd_fault])), (tp, .inl (ktp, 400, .inl gtp))]) [1, 2] rfl
  have hDc := hD.sub (ws' := [(rd, .inr (7, [.ref tp, .int rd_length, .int (yy_7 0), .int rd_fault])), (tp, .inl (ktp, 400, .inl gtp))]) [1, 2] (by decide) rfl
  have hKc := hK.sub (tys' := [(ktp, .int)]) [0] rfl
  have hFc := va_free (wc := [(rd, .inr (7, [.ref tp, .int rd_length, .int (yy_7 0), .int rd_fault])), (tp, .inl (ktp, 400, .inl gtp))]) hD hS hA [1, 2] rfl
  refine va_calli (va_runV (As := [.int x0, .int x1, .int x2]) (rest := []) ⟨hx, hb, hml, hown, hq⟩ (rd_number l dC dI _ rd tp rd_length (yy_7 0) rd_fault ktp gtp x0 x1 x2 ) (cwV 3 hq (gV qw_621 qw_622 qw_623 qw_121 qw_624) rfl rfl rfl (by decide +kernel) ⟨Nat.le_of_ble_eq_true rfl, Nat.le_of_ble_eq_true rfl⟩) ⟨fun a U g mk q => by obtain ⟨q0, q1, qP, qK, qD, qE⟩ := q; exact ⟨q0, q1, qP, va_K.moved (u := U) (U := U.calling g mk a) (Vm.Alike.refl U.vm) qK, qD, xE.same rfl qE⟩, va_recv hKc hPc (ci := 7) (q0 := 0) rfl rfl, fun U hU hW => ⟨rfl, by rw [hU], by rw [hU]; exact hPc, va_K.moved hW.alike hKc, hDc.weaken (fun _ _ _ _ => trivial), xE.warm hW hE⟩⟩ rfl rfl hl.1 rfl (lv_room (Nat.le_of_ble_eq_true rfl)) dX2_nextNumber_15 ⟨Nat.le_of_ble_eq_true rfl, Nat.le_of_ble_eq_true rfl⟩) hS (fun q _ h => hFc q h) hFc (fun r_8 u t H1 locs ht hvm hw hB hz1 hk1 hS => ?_)
  obtain ⟨yy_9, hP1, hK1, hD1⟩ := hB
  rw [ht] at hP1
  obtain ⟨hP, hD⟩ := va_join (wr := [(h0, .inr (2, [.ref rd]))]) (w1 := [(rd, .inr (7, [.ref tp, .int rd_length, .int (yy_9 0), .int (yy_9 1)])), (tp, .inl (ktp, 400, .inl gtp))]) hP hD [1, 2] [0] rfl rfl (by decide) (by decide) hk1 hFc hP1 hD1
  generalize H1 = H at hP hS ⊢
  have hP : va_P (dC, dI) classes [(h0, .inr (2, [.ref rd])), (rd, .inr (7, [.ref tp, .int rd_length, .int (yy_9 0), .int (yy_9 1)])), (tp, .inl (ktp, 400, .inl gtp))] H := hP
  have hD : va_D A [(h0, .inr (2, [.ref rd])), (rd, .inr (7, [.ref tp, .int rd_length, .int (yy_9 0), .int (yy_9 1)])), (tp, .inl (ktp, 400, .inl gtp))] := hD
  refine W.widen (k := 0) (n := 0) (Nat.le_of_ble_eq_true rfl) (Nat.le_of_ble_eq_true rfl) ?_
  exact W.iret (v := r_8) hx hb hr (fun t ht hW => ⟨⟨r_8, (), rfl, trivial, (fun i => [(yy_9 0), (yy_9 1)].getD i 0), by rw [ht]; exact hP, va_K.moved hW.alike hK, hD⟩, hS.F ht⟩) hS.2.2 dX2_nextNumber_18

set_option maxHeartbeats 4000000 in
set_option maxRecDepth 100000 in
/-- dr_numbers -/
theorem dr_numbers (l : Launch) (dC : Nat → ClassId) (dI : Nat → Nat → Nat) (sz : Nat) (h0 : Nat) (rd : Nat) (tp : Nat) (rd_length : Int32) (rd_place : Int32) (rd_fault : Int32) (ktp : ClassId) (gtp : Nat → Int32) (h3 : Nat) (h3_deep : Int32) (h3_dishes : Int32) (h3_guests : Int32) (h3lo : Nat) (h3sa : Nat) (h3ea : Nat) (h3cl : Nat) (kh3lo : ClassId) (gh3lo : Nat → Int32) (kh3sa : ClassId) (gh3sa : Nat → Int32) (kh3ea : ClassId) (gh3ea : Nat → Int32) (kh3cl : ClassId) (gh3cl : Nat → Int32) (x0 : Int32) : Met l yX2_readNumbers (.code yX2_readNumbers cX2_readNumbers 4 none :: wsA) ({ frames := 3, cells := 0, slots := 0, locals := 71 }) (va_Pc [.ref h0, .int x0, .ref h3] (fun U => U.heap.size = sz ∧ va_P (dC, dI) classes [(h0, .inr (2, [.ref rd])), (rd, .inr (7, [.ref tp, .int rd_length, .int rd_place, .int rd_fault])), (tp, .inl (ktp, 400, .inl gtp)), (h3, .inr (1, [.int h3_deep, .int h3_dishes, .int h3_guests, .ref h3lo, .ref h3sa, .ref h3ea, .ref h3cl])), (h3lo, .inl (kh3lo, 8, .inl gh3lo)), (h3sa, .inl (kh3sa, 8, .inl gh3sa)), (h3ea, .inl (kh3ea, 8, .inl gh3ea)), (h3cl, .inl (kh3cl, 8, .inl gh3cl))] U.heap ∧ va_K (dC, dI) classes [(ktp, .int), (kh3lo, .int), (kh3sa, .int), (kh3ea, .int), (kh3cl, .int)] U ∧ va_D (fun _ => True) [(h0, .inr (2, [.ref rd])), (rd, .inr (7, [.ref tp, .int rd_length, .int rd_place, .int rd_fault])), (tp, .inl (ktp, 400, .inl gtp)), (h3, .inr (1, [.int h3_deep, .int h3_dishes, .int h3_guests, .ref h3lo, .ref h3sa, .ref h3ea, .ref h3cl])), (h3lo, .inl (kh3lo, 8, .inl gh3lo)), (h3sa, .inl (kh3sa, 8, .inl gh3sa)), (h3ea, .inl (kh3ea, 8, .inl gh3ea)), (h3cl, .inl (kh3cl, 8, .inl gh3cl))] ∧ xE U)) (va_Qv (fun (_ : Unit) => True) (fun _ t => ∃ (f_25 : Nat → Int32) (f_26 : Nat → Int32) (f_27 : Nat → Int32) (f_29 : Nat → Int32) (yy_28 : Nat → Int32), va_P (dC, dI) classes [(h0, .inr (2, [.ref rd])), (rd, .inr (7, [.ref tp, .int rd_length, .int (yy_28 0), .int (yy_28 1)])), (tp, .inl (ktp, 400, .inl gtp)), (h3, .inr (1, [.int (yy_28 2), .int (yy_28 3), .int (yy_28 4), .ref h3lo, .ref h3sa, .ref h3ea, .ref h3cl])), (h3lo, .inl (kh3lo, 8, .inl f_25)), (h3sa, .inl (kh3sa, 8, .inl f_26)), (h3ea, .inl (kh3ea, 8, .inl f_27)), (h3cl, .inl (kh3cl, 8, .inl f_29))] t.heap ∧ va_K (dC, dI) classes [(ktp, .int), (kh3lo, .int), (kh3sa, .int), (kh3ea, .int), (kh3cl, .int)] t ∧ va_D (va_A [(h0, .inr (2, [.ref rd])), (rd, .inr (7, [.ref tp, .int rd_length, .int rd_place, .int rd_fault])), (tp, .inl (ktp, 400, .inl gtp)), (h3, .inr (1, [.int h3_deep, .int h3_dishes, .int h3_guests, .ref h3lo, .ref h3sa, .ref h3ea, .ref h3cl])), (h3lo, .inl (kh3lo, 8, .inl gh3lo)), (h3sa, .inl (kh3sa, 8, .inl gh3sa)), (h3ea, .inl (kh3ea, 8, .inl gh3ea)), (h3cl, .inl (kh3cl, 8, .inl gh3cl))] sz) [(h0, .inr (2, [.ref rd])), (rd, .inr (7, [.ref tp, .int rd_length, .int (yy_28 0), .int (yy_28 1)])), (tp, .inl (ktp, 400, .inl gtp)), (h3, .inr (1, [.int (yy_28 2), .int (yy_28 3), .int (yy_28 4), .ref h3lo, .ref h3sa, .ref h3ea, .ref h3cl])), (h3lo, .inl (kh3lo, 8, .inl f_25)), (h3sa, .inl (kh3sa, 8, .inl f_26)), (h3ea, .inl (kh3ea, 8, .inl f_27)), (h3cl, .inl (kh3cl, 8, .inl f_29))]) (va_A [(h0, .inr (2, [.ref rd])), (rd, .inr (7, [.ref tp, .int rd_length, .int rd_place, .int rd_fault])), (tp, .inl (ktp, 400, .inl gtp)), (h3, .inr (1, [.int h3_deep, .int h3_dishes, .int h3_guests, .ref h3lo, .ref h3sa, .ref h3ea, .ref h3cl])), (h3lo, .inl (kh3lo, 8, .inl gh3lo)), (h3sa, .inl (kh3sa, 8, .inl gh3sa)), (h3ea, .inl (kh3ea, 8, .inl gh3ea)), (h3cl, .inl (kh3cl, 8, .inl gh3cl))] sz)) 0 0 (va_A [(h0, .inr (2, [.ref rd])), (rd, .inr (7, [.ref tp, .int rd_length, .int rd_place, .int rd_fault])), (tp, .inl (ktp, 400, .inl gtp)), (h3, .inr (1, [.int h3_deep, .int h3_dishes, .int h3_guests, .ref h3lo, .ref h3sa, .ref h3ea, .ref h3cl])), (h3lo, .inl (kh3lo, 8, .inl gh3lo)), (h3sa, .inl (kh3sa, 8, .inl gh3sa)), (h3ea, .inl (kh3ea, 8, .inl gh3ea)), (h3cl, .inl (kh3cl, 8, .inl gh3cl))] sz) := by
  refine Met.ofW (cc := cX2_readNumbers) (maxL := 4) (ret := none) (by decide) rfl ?_
  intro p e s m args below meth c s₁ B hml hv
  obtain ⟨rfl, hsz, hP, hK, hD0, hE⟩ := hv
  have hx := B.exec
  have hb := B.bytes
  have hr := B.returns
  have hts := atoms_spec (ws := .code yX2_readNumbers cX2_readNumbers 4 none :: wsA) B.pre
  have hq : ∀ w ∈ wsA, w.before _ s = true := fun w h => hts w (List.mem_cons_of_mem _ h)
  have hown : s.vm.findClass RX2 = some m.cls := findClass_of_methodNamed B.named
  have hlocks := B.notSynchronized
  subst hsz
  have hD := hD0.self (sz := s.heap.size)
  generalize hAe : va_A [(h0, .inr (2, [.ref rd])), (rd, .inr (7, [.ref tp, .int rd_length, .int rd_place, .int rd_fault])), (tp, .inl (ktp, 400, .inl gtp)), (h3, .inr (1, [.int h3_deep, .int h3_dishes, .int h3_guests, .ref h3lo, .ref h3sa, .ref h3ea, .ref h3cl])), (h3lo, .inl (kh3lo, 8, .inl gh3lo)), (h3sa, .inl (kh3sa, 8, .inl gh3sa)), (h3ea, .inl (kh3ea, 8, .inl gh3ea)), (h3cl, .inl (kh3cl, 8, .inl gh3cl))] s.heap.size = A at hD ⊢
  have hA : ∀ q : Nat, s.heap.size ≤ q → A q := fun q h => by rw [← hAe]; exact Or.inr h
  have hS : va_S A s.heap s.heap [] := va_S.rf
  have hl := lv_entry ([.ref h0, .int x0, .ref h3]) (n := 4) (Nat.le_of_ble_eq_true rfl)
  rw [lg_entry_eq]
  generalize (lg_sl ([.ref h0, .int x0, .ref h3]) ++ List.replicate (4 - (lg_sl ([.ref h0, .int x0, .ref h3])).length) Slot.unset).toArray = ls at hl ⊢
  have hl : lv_has ls 4 [(0, .ref h0), (1, .int x0), (2, .ref h3)] := hl
  refine lv_iload_n hx hb dX2_readNumbers_0 rfl (lv_at hl 1 rfl) ?_
  refine lv_if_ne (tgt := 19) hx hb dX2_readNumbers_1 (by decide) (fun c_30 => ?_) (fun c_30 => ?_)
  · refine lv_iload_n hx hb dX2_readNumbers_19 rfl (lv_at hl 1 rfl) ?_
    refine lv_iconst (v := 1) hx hb dX2_readNumbers_20 (by decide) ?_
    refine lv_icmp_ne (tgt := 49) hx hb dX2_readNumbers_21 (by decide) (fun c_31 => ?_) (fun c_31 => ?_)
    · refine lv_iload_n hx hb dX2_readNumbers_49 rfl (lv_at hl 1 rfl) ?_
      refine lv_iconst (v := 2) hx hb dX2_readNumbers_50 (by decide) ?_
      refine lv_icmp_ne (tgt := 69) hx hb dX2_readNumbers_51 (by decide) (fun c_32 => ?_) (fun c_32 => ?_)
      · refine lv_aload_n hx hb dX2_readNumbers_69 rfl (lv_at hl 0 rfl) ?_
        refine lv_iconst (v := 0) hx hb dX2_readNumbers_70 (by decide) ?_
        refine lv_bipush (v := 7) hx hb dX2_readNumbers_71 (by decide) ?_
        refine lv_iconst (v := (-1)) hx hb dX2_readNumbers_73 (by decide) ?_
        have hPc := hP.sub (ws' := [(h0, .inr (2, [.ref rd])), (rd, .inr (7, [.ref tp, .int rd_length, .int rd_place, .int rd_fault])), (tp, .inl (ktp, 400, .inl gtp))]) [0, 1, 2] rfl
        have hDc := hD.sub (ws' := [(h0, .inr (2, [.ref rd])), (rd, .inr (7, [.ref tp, .int rd_length, .int rd_place, .int rd_fault])), (tp, .inl (ktp, 400, .inl gtp))]) [0, 1, 2] (by decide) rfl
        have hKc := hK.sub (tys' := [(ktp, .int)]) [0] rfl
        have hFc := va_free (wc := [(h0, .inr (2, [.ref rd])), (rd, .inr (7, [.ref tp, .int rd_length, .int rd_place, .int rd_fault])), (tp, .inl (ktp, 400, .inl gtp))]) hD hS hA [0, 1, 2] rfl
        refine va_calli (va_runV (As := [.int 0, .int 7, .int (-1)]) (rest := []) ⟨hx, hb, hml, hown, hq⟩ (dr_next l dC dI _ h0 rd tp rd_length rd_place rd_fault ktp gtp 0 7 (-1) ) (cwV 3 hq (gV qw_617 qw_619 qw_3 qw_120 qw_620) rfl rfl rfl (by decide +kernel) ⟨Nat.le_of_ble_eq_true rfl, Nat.le_of_ble_eq_true rfl⟩) ⟨fun a U g mk q => by obtain ⟨q0, q1, qP, qK, qD, qE⟩ := q; exact ⟨q0, q1, qP, va_K.moved (u := U) (U := U.calling g mk a) (Vm.Alike.refl U.vm) qK, qD, xE.same rfl qE⟩, va_recv hKc hPc (ci := 2) (q0 := 0) rfl rfl, fun U hU hW => ⟨rfl, by rw [hU], by rw [hU]; exact hPc, va_K.moved hW.alike hKc, hDc.weaken (fun _ _ _ _ => trivial), xE.warm hW hE⟩⟩ rfl rfl hl.1 rfl (lv_room (Nat.le_of_ble_eq_true rfl)) dX2_readNumbers_74 ⟨Nat.le_of_ble_eq_true rfl, Nat.le_of_ble_eq_true rfl⟩) hS (fun q _ h => hFc q h) hFc (fun r_33 u t H1 locs ht hvm hw hB hz1 hk1 hS => ?_)
        obtain ⟨yy_34, hP1, hK1, hD1⟩ := hB
        rw [ht] at hP1
        obtain ⟨hP, hD⟩ := va_join (wr := [(h3, .inr (1, [.int h3_deep, .int h3_dishes, .int h3_guests, .ref h3lo, .ref h3sa, .ref h3ea, .ref h3cl])), (h3lo, .inl (kh3lo, 8, .inl gh3lo)), (h3sa, .inl (kh3sa, 8, .inl gh3sa)), (h3ea, .inl (kh3ea, 8, .inl gh3ea)), (h3cl, .inl (kh3cl, 8, .inl gh3cl))]) (w1 := [(h0, .inr (2, [.ref rd])), (rd, .inr (7, [.ref tp, .int rd_length, .int (yy_34 0), .int (yy_34 1)])), (tp, .inl (ktp, 400, .inl gtp))]) hP hD [0, 1, 2] [3, 4, 5, 6, 7] rfl rfl (by decide) (by decide) hk1 hFc hP1 hD1
        generalize H1 = H at hP hS ⊢
        have hP : va_P (dC, dI) classes [(h3, .inr (1, [.int h3_deep, .int h3_dishes, .int h3_guests, .ref h3lo, .ref h3sa, .ref h3ea, .ref h3cl])), (h3lo, .inl (kh3lo, 8, .inl gh3lo)), (h3sa, .inl (kh3sa, 8, .inl gh3sa)), (h3ea, .inl (kh3ea, 8, .inl gh3ea)), (h3cl, .inl (kh3cl, 8, .inl gh3cl)), (h0, .inr (2, [.ref rd])), (rd, .inr (7, [.ref tp, .int rd_length, .int (yy_34 0), .int (yy_34 1)])), (tp, .inl (ktp, 400, .inl gtp))] H := hP
        have hD : va_D A [(h3, .inr (1, [.int h3_deep, .int h3_dishes, .int h3_guests, .ref h3lo, .ref h3sa, .ref h3ea, .ref h3cl])), (h3lo, .inl (kh3lo, 8, .inl gh3lo)), (h3sa, .inl (kh3sa, 8, .inl gh3sa)), (h3ea, .inl (kh3ea, 8, .inl gh3ea)), (h3cl, .inl (kh3cl, 8, .inl gh3cl)), (h0, .inr (2, [.ref rd])), (rd, .inr (7, [.ref tp, .int rd_length, .int (yy_34 0), .int (yy_34 1)])), (tp, .inl (ktp, 400, .inl gtp))] := hD
        refine lv_istore_n (lv' := [(3, .int r_33), (0, .ref h0), (1, .int x0), (2, .ref h3)]) hx hb dX2_readNumbers_77 rfl hl (by decide) rfl (fun ls hl => ?_)
        refine lv_aload_n hx hb dX2_readNumbers_78 rfl (lv_at hl 3 rfl) ?_
        refine lv_iload_n hx hb dX2_readNumbers_79 rfl (lv_at hl 0 rfl) ?_
        refine lv_aload_n hx hb dX2_readNumbers_80 rfl (lv_at hl 1 rfl) ?_
        refine lv_iconst (v := 0) hx hb dX2_readNumbers_81 (by decide) ?_
        refine lv_bipush (v := 7) hx hb dX2_readNumbers_82 (by decide) ?_
        refine lv_iload_n hx hb dX2_readNumbers_84 rfl (lv_at hl 0 rfl) ?_
        have hPc := hP.sub (ws' := [(h0, .inr (2, [.ref rd])), (rd, .inr (7, [.ref tp, .int rd_length, .int (yy_34 0), .int (yy_34 1)])), (tp, .inl (ktp, 400, .inl gtp))]) [5, 6, 7] rfl
        have hDc := hD.sub (ws' := [(h0, .inr (2, [.ref rd])), (rd, .inr (7, [.ref tp, .int rd_length, .int (yy_34 0), .int (yy_34 1)])), (tp, .inl (ktp, 400, .inl gtp))]) [5, 6, 7] (by decide) rfl
        have hKc := hK.sub (tys' := [(ktp, .int)]) [0] rfl
        have hFc := va_free (wc := [(h0, .inr (2, [.ref rd])), (rd, .inr (7, [.ref tp, .int rd_length, .int (yy_34 0), .int (yy_34 1)])), (tp, .inl (ktp, 400, .inl gtp))]) hD hS hA [5, 6, 7] rfl
        refine va_calli (va_runV (As := [.int 0, .int 7, .int r_33]) (rest := [.int r_33, .ref h3]) ⟨hx, hb, hml, hown, hq⟩ (dr_next l dC dI _ h0 rd tp rd_length (yy_34 0) (yy_34 1) ktp gtp 0 7 r_33 ) (cwV 3 hq (gV qw_617 qw_619 qw_3 qw_120 qw_620) rfl rfl rfl (by decide +kernel) ⟨Nat.le_of_ble_eq_true rfl, Nat.le_of_ble_eq_true rfl⟩) ⟨fun a U g mk q => by obtain ⟨q0, q1, qP, qK, qD, qE⟩ := q; exact ⟨q0, q1, qP, va_K.moved (u := U) (U := U.calling g mk a) (Vm.Alike.refl U.vm) qK, qD, xE.same rfl qE⟩, va_recv hKc hPc (ci := 2) (q0 := 0) rfl rfl, fun U hU hW => ⟨rfl, by rw [hU], by rw [hU]; exact hPc, va_K.moved hW.alike hKc, hDc.weaken (fun _ _ _ _ => trivial), xE.warm hW hE⟩⟩ rfl rfl hl.1 rfl (lv_room (Nat.le_of_ble_eq_true rfl)) dX2_readNumbers_85 ⟨Nat.le_of_ble_eq_true rfl, Nat.le_of_ble_eq_true rfl⟩) hS (fun q _ h => hFc q h) hFc (fun r_35 u t H1 locs ht hvm hw hB hz1 hk1 hS => ?_)
        obtain ⟨yy_36, hP1, hK1, hD1⟩ := hB
        rw [ht] at hP1
        obtain ⟨hP, hD⟩ := va_join (wr := [(h3, .inr (1, [.int h3_deep, .int h3_dishes, .int h3_guests, .ref h3lo, .ref h3sa, .ref h3ea, .ref h3cl])), (h3lo, .inl (kh3lo, 8, .inl gh3lo)), (h3sa, .inl (kh3sa, 8, .inl gh3sa)), (h3ea, .inl (kh3ea, 8, .inl gh3ea)), (h3cl, .inl (kh3cl, 8, .inl gh3cl))]) (w1 := [(h0, .inr (2, [.ref rd])), (rd, .inr (7, [.ref tp, .int rd_length, .int (yy_36 0), .int (yy_36 1)])), (tp, .inl (ktp, 400, .inl gtp))]) hP hD [5, 6, 7] [0, 1, 2, 3, 4] rfl rfl (by decide) (by decide) hk1 hFc hP1 hD1
        generalize H1 = H at hP hS ⊢
        have hP : va_P (dC, dI) classes [(h3, .inr (1, [.int h3_deep, .int h3_dishes, .int h3_guests, .ref h3lo, .ref h3sa, .ref h3ea, .ref h3cl])), (h3lo, .inl (kh3lo, 8, .inl gh3lo)), (h3sa, .inl (kh3sa, 8, .inl gh3sa)), (h3ea, .inl (kh3ea, 8, .inl gh3ea)), (h3cl, .inl (kh3cl, 8, .inl gh3cl)), (h0, .inr (2, [.ref rd])), (rd, .inr (7, [.ref tp, .int rd_length, .int (yy_36 0), .int (yy_36 1)])), (tp, .inl (ktp, 400, .inl gtp))] H := hP
        have hD : va_D A [(h3, .inr (1, [.int h3_deep, .int h3_dishes, .int h3_guests, .ref h3lo, .ref h3sa, .ref h3ea, .ref h3cl])), (h3lo, .inl (kh3lo, 8, .inl gh3lo)), (h3sa, .inl (kh3sa, 8, .inl gh3sa)), (h3ea, .inl (kh3ea, 8, .inl gh3ea)), (h3cl, .inl (kh3cl, 8, .inl gh3cl)), (h0, .inr (2, [.ref rd])), (rd, .inr (7, [.ref tp, .int rd_length, .int (yy_36 0), .int (yy_36 1)])), (tp, .inl (ktp, 400, .inl gtp))] := hD
        have hPc := hP.sub (ws' := [(h3, .inr (1, [.int h3_deep, .int h3_dishes, .int h3_guests, .ref h3lo, .ref h3sa, .ref h3ea, .ref h3cl])), (h3cl, .inl (kh3cl, 8, .inl gh3cl))]) [0, 4] rfl
        have hDc := hD.sub (ws' := [(h3, .inr (1, [.int h3_deep, .int h3_dishes, .int h3_guests, .ref h3lo, .ref h3sa, .ref h3ea, .ref h3cl])), (h3cl, .inl (kh3cl, 8, .inl gh3cl))]) [0, 4] (by decide) rfl
        have hKc := hK.sub (tys' := [(kh3cl, .int)]) [4] rfl
        have hFc := va_free (wc := [(h3, .inr (1, [.int h3_deep, .int h3_dishes, .int h3_guests, .ref h3lo, .ref h3sa, .ref h3ea, .ref h3cl])), (h3cl, .inl (kh3cl, 8, .inl gh3cl))]) hD hS hA [0, 4] rfl
        refine va_callv (va_runV (As := [.int r_33, .int r_35]) (rest := []) ⟨hx, hb, hml, hown, hq⟩ (d_addClash l dC dI _ h3 h3_deep h3_dishes h3_guests h3lo h3sa h3ea h3cl kh3cl gh3cl r_33 r_35 ) (cwV 2 hq (gV qw_637 qw_638 qw_639 qw_124 qw_640) rfl rfl rfl (by decide +kernel) ⟨Nat.le_of_ble_eq_true rfl, Nat.le_of_ble_eq_true rfl⟩) ⟨fun a U g mk q => by obtain ⟨q0, q1, qP, qK, qD, qE⟩ := q; exact ⟨q0, q1, qP, va_K.moved (u := U) (U := U.calling g mk a) (Vm.Alike.refl U.vm) qK, qD, xE.same rfl qE⟩, va_recv hKc hPc (ci := 1) (q0 := 0) rfl rfl, fun U hU hW => ⟨rfl, by rw [hU], by rw [hU]; exact hPc, va_K.moved hW.alike hKc, hDc.weaken (fun _ _ _ _ => trivial), xE.warm hW hE⟩⟩ rfl rfl hl.1 rfl (lv_room (Nat.le_of_ble_eq_true rfl)) dX2_readNumbers_88 ⟨Nat.le_of_ble_eq_true rfl, Nat.le_of_ble_eq_true rfl⟩) hS (fun q _ h => hFc q h) hFc (fun u t H1 locs ht hvm hw hB hz1 hk1 hS => ?_)
        obtain ⟨f_38, hP1, hK1, hD1⟩ := hB
        rw [ht] at hP1
        obtain ⟨hP, hD⟩ := va_join (wr := [(h3lo, .inl (kh3lo, 8, .inl gh3lo)), (h3sa, .inl (kh3sa, 8, .inl gh3sa)), (h3ea, .inl (kh3ea, 8, .inl gh3ea)), (h0, .inr (2, [.ref rd])), (rd, .inr (7, [.ref tp, .int rd_length, .int (yy_36 0), .int (yy_36 1)])), (tp, .inl (ktp, 400, .inl gtp))]) (w1 := [(h3, .inr (1, [.int h3_deep, .int h3_dishes, .int h3_guests, .ref h3lo, .ref h3sa, .ref h3ea, .ref h3cl])), (h3cl, .inl (kh3cl, 8, .inl f_38))]) hP hD [0, 4] [1, 2, 3, 5, 6, 7] rfl rfl (by decide) (by decide) hk1 hFc hP1 hD1
        generalize H1 = H at hP hS ⊢
        have hP : va_P (dC, dI) classes [(h3lo, .inl (kh3lo, 8, .inl gh3lo)), (h3sa, .inl (kh3sa, 8, .inl gh3sa)), (h3ea, .inl (kh3ea, 8, .inl gh3ea)), (h0, .inr (2, [.ref rd])), (rd, .inr (7, [.ref tp, .int rd_length, .int (yy_36 0), .int (yy_36 1)])), (tp, .inl (ktp, 400, .inl gtp)), (h3, .inr (1, [.int h3_deep, .int h3_dishes, .int h3_guests, .ref h3lo, .ref h3sa, .ref h3ea, .ref h3cl])), (h3cl, .inl (kh3cl, 8, .inl f_38))] H := hP
        have hD : va_D A [(h3lo, .inl (kh3lo, 8, .inl gh3lo)), (h3sa, .inl (kh3sa, 8, .inl gh3sa)), (h3ea, .inl (kh3ea, 8, .inl gh3ea)), (h0, .inr (2, [.ref rd])), (rd, .inr (7, [.ref tp, .int rd_length, .int (yy_36 0), .int (yy_36 1)])), (tp, .inl (ktp, 400, .inl gtp)), (h3, .inr (1, [.int h3_deep, .int h3_dishes, .int h3_guests, .ref h3lo, .ref h3sa, .ref h3ea, .ref h3cl])), (h3cl, .inl (kh3cl, 8, .inl f_38))] := hD
        refine W.widen (k := 0) (n := 0) (Nat.le_of_ble_eq_true rfl) (Nat.le_of_ble_eq_true rfl) ?_
        exact W.vret hx hb hr (fun t ht hW => ⟨⟨(), rfl, trivial, gh3lo, gh3sa, gh3ea, f_38, (fun i => [(yy_36 0), (yy_36 1), h3_deep, h3_dishes, h3_guests].getD i 0), by rw [ht]; exact (hP.sub (ws' := [(h0, .inr (2, [.ref rd])), (rd, .inr (7, [.ref tp, .int rd_length, .int (yy_36 0), .int (yy_36 1)])), (tp, .inl (ktp, 400, .inl gtp)), (h3, .inr (1, [.int h3_deep, .int h3_dishes, .int h3_guests, .ref h3lo, .ref h3sa, .ref h3ea, .ref h3cl])), (h3lo, .inl (kh3lo, 8, .inl gh3lo)), (h3sa, .inl (kh3sa, 8, .inl gh3sa)), (h3ea, .inl (kh3ea, 8, .inl gh3ea)), (h3cl, .inl (kh3cl, 8, .inl f_38))]) [3, 4, 5, 6, 0, 1, 2, 7] rfl), va_K.moved hW.alike hK, (hD.sub (ws' := [(h0, .inr (2, [.ref rd])), (rd, .inr (7, [.ref tp, .int rd_length, .int (yy_36 0), .int (yy_36 1)])), (tp, .inl (ktp, 400, .inl gtp)), (h3, .inr (1, [.int h3_deep, .int h3_dishes, .int h3_guests, .ref h3lo, .ref h3sa, .ref h3ea, .ref h3cl])), (h3lo, .inl (kh3lo, 8, .inl gh3lo)), (h3sa, .inl (kh3sa, 8, .inl gh3sa)), (h3ea, .inl (kh3ea, 8, .inl gh3ea)), (h3cl, .inl (kh3cl, 8, .inl f_38))]) [3, 4, 5, 6, 0, 1, 2, 7] (by decide) rfl)⟩, hS.F ht⟩) hS.2.2 dX2_readNumbers_91
      · refine lv_aload_n hx hb dX2_readNumbers_54 rfl (lv_at hl 2 rfl) ?_
        refine lv_aload_n hx hb dX2_readNumbers_55 rfl (lv_at hl 0 rfl) ?_
        refine lv_iconst (v := 0) hx hb dX2_readNumbers_56 (by decide) ?_
        refine lv_bipush (v := 20) hx hb dX2_readNumbers_57 (by decide) ?_
        refine lv_iconst (v := (-1)) hx hb dX2_readNumbers_59 (by decide) ?_
        have hPc := hP.sub (ws' := [(h0, .inr (2, [.ref rd])), (rd, .inr (7, [.ref tp, .int rd_length, .int rd_place, .int rd_fault])), (tp, .inl (ktp, 400, .inl gtp))]) [0, 1, 2] rfl
        have hDc := hD.sub (ws' := [(h0, .inr (2, [.ref rd])), (rd, .inr (7, [.ref tp, .int rd_length, .int rd_place, .int rd_fault])), (tp, .inl (ktp, 400, .inl gtp))]) [0, 1, 2] (by decide) rfl
        have hKc := hK.sub (tys' := [(ktp, .int)]) [0] rfl
        have hFc := va_free (wc := [(h0, .inr (2, [.ref rd])), (rd, .inr (7, [.ref tp, .int rd_length, .int rd_place, .int rd_fault])), (tp, .inl (ktp, 400, .inl gtp))]) hD hS hA [0, 1, 2] rfl
        refine va_calli (va_runV (As := [.int 0, .int 20, .int (-1)]) (rest := [.ref h3]) ⟨hx, hb, hml, hown, hq⟩ (dr_next l dC dI _ h0 rd tp rd_length rd_place rd_fault ktp gtp 0 20 (-1) ) (cwV 3 hq (gV qw_617 qw_619 qw_3 qw_120 qw_620) rfl rfl rfl (by decide +kernel) ⟨Nat.le_of_ble_eq_true rfl, Nat.le_of_ble_eq_true rfl⟩) ⟨fun a U g mk q => by obtain ⟨q0, q1, qP, qK, qD, qE⟩ := q; exact ⟨q0, q1, qP, va_K.moved (u := U) (U := U.calling g mk a) (Vm.Alike.refl U.vm) qK, qD, xE.same rfl qE⟩, va_recv hKc hPc (ci := 2) (q0 := 0) rfl rfl, fun U hU hW => ⟨rfl, by rw [hU], by rw [hU]; exact hPc, va_K.moved hW.alike hKc, hDc.weaken (fun _ _ _ _ => trivial), xE.warm hW hE⟩⟩ rfl rfl hl.1 rfl (lv_room (Nat.le_of_ble_eq_true rfl)) dX2_readNumbers_60 ⟨Nat.le_of_ble_eq_true rfl, Nat.le_of_ble_eq_true rfl⟩) hS (fun q _ h => hFc q h) hFc (fun r_39 u t H1 locs ht hvm hw hB hz1 hk1 hS => ?_)
        obtain ⟨yy_40, hP1, hK1, hD1⟩ := hB
        rw [ht] at hP1
        obtain ⟨hP, hD⟩ := va_join (wr := [(h3, .inr (1, [.int h3_deep, .int h3_dishes, .int h3_guests, .ref h3lo, .ref h3sa, .ref h3ea, .ref h3cl])), (h3lo, .inl (kh3lo, 8, .inl gh3lo)), (h3sa, .inl (kh3sa, 8, .inl gh3sa)), (h3ea, .inl (kh3ea, 8, .inl gh3ea)), (h3cl, .inl (kh3cl, 8, .inl gh3cl))]) (w1 := [(h0, .inr (2, [.ref rd])), (rd, .inr (7, [.ref tp, .int rd_length, .int (yy_40 0), .int (yy_40 1)])), (tp, .inl (ktp, 400, .inl gtp))]) hP hD [0, 1, 2] [3, 4, 5, 6, 7] rfl rfl (by decide) (by decide) hk1 hFc hP1 hD1
        generalize H1 = H at hP hS ⊢
        have hP : va_P (dC, dI) classes [(h3, .inr (1, [.int h3_deep, .int h3_dishes, .int h3_guests, .ref h3lo, .ref h3sa, .ref h3ea, .ref h3cl])), (h3lo, .inl (kh3lo, 8, .inl gh3lo)), (h3sa, .inl (kh3sa, 8, .inl gh3sa)), (h3ea, .inl (kh3ea, 8, .inl gh3ea)), (h3cl, .inl (kh3cl, 8, .inl gh3cl)), (h0, .inr (2, [.ref rd])), (rd, .inr (7, [.ref tp, .int rd_length, .int (yy_40 0), .int (yy_40 1)])), (tp, .inl (ktp, 400, .inl gtp))] H := hP
        have hD : va_D A [(h3, .inr (1, [.int h3_deep, .int h3_dishes, .int h3_guests, .ref h3lo, .ref h3sa, .ref h3ea, .ref h3cl])), (h3lo, .inl (kh3lo, 8, .inl gh3lo)), (h3sa, .inl (kh3sa, 8, .inl gh3sa)), (h3ea, .inl (kh3ea, 8, .inl gh3ea)), (h3cl, .inl (kh3cl, 8, .inl gh3cl)), (h0, .inr (2, [.ref rd])), (rd, .inr (7, [.ref tp, .int rd_length, .int (yy_40 0), .int (yy_40 1)])), (tp, .inl (ktp, 400, .inl gtp))] := hD
        have hPc := hP.sub (ws' := [(h3, .inr (1, [.int h3_deep, .int h3_dishes, .int h3_guests, .ref h3lo, .ref h3sa, .ref h3ea, .ref h3cl])), (h3ea, .inl (kh3ea, 8, .inl gh3ea))]) [0, 3] rfl
        have hDc := hD.sub (ws' := [(h3, .inr (1, [.int h3_deep, .int h3_dishes, .int h3_guests, .ref h3lo, .ref h3sa, .ref h3ea, .ref h3cl])), (h3ea, .inl (kh3ea, 8, .inl gh3ea))]) [0, 3] (by decide) rfl
        have hKc := hK.sub (tys' := [(kh3ea, .int)]) [3] rfl
        have hFc := va_free (wc := [(h3, .inr (1, [.int h3_deep, .int h3_dishes, .int h3_guests, .ref h3lo, .ref h3sa, .ref h3ea, .ref h3cl])), (h3ea, .inl (kh3ea, 8, .inl gh3ea))]) hD hS hA [0, 3] rfl
        refine va_callv (va_runV (As := [.int r_39]) (rest := []) ⟨hx, hb, hml, hown, hq⟩ (d_addGuest l dC dI _ h3 h3_deep h3_dishes h3_guests h3lo h3sa h3ea h3cl kh3ea gh3ea r_39 ) (cwV 1 hq (gV qw_633 qw_634 qw_635 qw_124 qw_636) rfl rfl rfl (by decide +kernel) ⟨Nat.le_of_ble_eq_true rfl, Nat.le_of_ble_eq_true rfl⟩) ⟨fun a U g mk q => by obtain ⟨q0, q1, qP, qK, qD, qE⟩ := q; exact ⟨q0, q1, qP, va_K.moved (u := U) (U := U.calling g mk a) (Vm.Alike.refl U.vm) qK, qD, xE.same rfl qE⟩, va_recv hKc hPc (ci := 1) (q0 := 0) rfl rfl, fun U hU hW => ⟨rfl, by rw [hU], by rw [hU]; exact hPc, va_K.moved hW.alike hKc, hDc.weaken (fun _ _ _ _ => trivial), xE.warm hW hE⟩⟩ rfl rfl hl.1 rfl (lv_room (Nat.le_of_ble_eq_true rfl)) dX2_readNumbers_63 ⟨Nat.le_of_ble_eq_true rfl, Nat.le_of_ble_eq_true rfl⟩) hS (fun q _ h => hFc q h) hFc (fun u t H1 locs ht hvm hw hB hz1 hk1 hS => ?_)
        obtain ⟨f_42, yy_43, hP1, hK1, hD1⟩ := hB
        rw [ht] at hP1
        obtain ⟨hP, hD⟩ := va_join (wr := [(h3lo, .inl (kh3lo, 8, .inl gh3lo)), (h3sa, .inl (kh3sa, 8, .inl gh3sa)), (h3cl, .inl (kh3cl, 8, .inl gh3cl)), (h0, .inr (2, [.ref rd])), (rd, .inr (7, [.ref tp, .int rd_length, .int (yy_40 0), .int (yy_40 1)])), (tp, .inl (ktp, 400, .inl gtp))]) (w1 := [(h3, .inr (1, [.int h3_deep, .int h3_dishes, .int (yy_43 0), .ref h3lo, .ref h3sa, .ref h3ea, .ref h3cl])), (h3ea, .inl (kh3ea, 8, .inl f_42))]) hP hD [0, 3] [1, 2, 4, 5, 6, 7] rfl rfl (by decide) (by decide) hk1 hFc hP1 hD1
        generalize H1 = H at hP hS ⊢
        have hP : va_P (dC, dI) classes [(h3lo, .inl (kh3lo, 8, .inl gh3lo)), (h3sa, .inl (kh3sa, 8, .inl gh3sa)), (h3cl, .inl (kh3cl, 8, .inl gh3cl)), (h0, .inr (2, [.ref rd])), (rd, .inr (7, [.ref tp, .int rd_length, .int (yy_40 0), .int (yy_40 1)])), (tp, .inl (ktp, 400, .inl gtp)), (h3, .inr (1, [.int h3_deep, .int h3_dishes, .int (yy_43 0), .ref h3lo, .ref h3sa, .ref h3ea, .ref h3cl])), (h3ea, .inl (kh3ea, 8, .inl f_42))] H := hP
        have hD : va_D A [(h3lo, .inl (kh3lo, 8, .inl gh3lo)), (h3sa, .inl (kh3sa, 8, .inl gh3sa)), (h3cl, .inl (kh3cl, 8, .inl gh3cl)), (h0, .inr (2, [.ref rd])), (rd, .inr (7, [.ref tp, .int rd_length, .int (yy_40 0), .int (yy_40 1)])), (tp, .inl (ktp, 400, .inl gtp)), (h3, .inr (1, [.int h3_deep, .int h3_dishes, .int (yy_43 0), .ref h3lo, .ref h3sa, .ref h3ea, .ref h3cl])), (h3ea, .inl (kh3ea, 8, .inl f_42))] := hD
        refine lv_goto (tgt := 91) hx hb dX2_readNumbers_66 (by decide) ?_
        refine W.widen (k := 0) (n := 0) (Nat.le_of_ble_eq_true rfl) (Nat.le_of_ble_eq_true rfl) ?_
        exact W.vret hx hb hr (fun t ht hW => ⟨⟨(), rfl, trivial, gh3lo, gh3sa, f_42, gh3cl, (fun i => [(yy_40 0), (yy_40 1), h3_deep, h3_dishes, (yy_43 0)].getD i 0), by rw [ht]; exact (hP.sub (ws' := [(h0, .inr (2, [.ref rd])), (rd, .inr (7, [.ref tp, .int rd_length, .int (yy_40 0), .int (yy_40 1)])), (tp, .inl (ktp, 400, .inl gtp)), (h3, .inr (1, [.int h3_deep, .int h3_dishes, .int (yy_43 0), .ref h3lo, .ref h3sa, .ref h3ea, .ref h3cl])), (h3lo, .inl (kh3lo, 8, .inl gh3lo)), (h3sa, .inl (kh3sa, 8, .inl gh3sa)), (h3ea, .inl (kh3ea, 8, .inl f_42)), (h3cl, .inl (kh3cl, 8, .inl gh3cl))]) [3, 4, 5, 6, 0, 1, 7, 2] rfl), va_K.moved hW.alike hK, (hD.sub (ws' := [(h0, .inr (2, [.ref rd])), (rd, .inr (7, [.ref tp, .int rd_length, .int (yy_40 0), .int (yy_40 1)])), (tp, .inl (ktp, 400, .inl gtp)), (h3, .inr (1, [.int h3_deep, .int h3_dishes, .int (yy_43 0), .ref h3lo, .ref h3sa, .ref h3ea, .ref h3cl])), (h3lo, .inl (kh3lo, 8, .inl gh3lo)), (h3sa, .inl (kh3sa, 8, .inl gh3sa)), (h3ea, .inl (kh3ea, 8, .inl f_42)), (h3cl, .inl (kh3cl, 8, .inl gh3cl))]) [3, 4, 5, 6, 0, 1, 7, 2] (by decide) rfl)⟩, hS.F ht⟩) hS.2.2 dX2_readNumbers_91
    · refine lv_aload_n hx hb dX2_readNumbers_24 rfl (lv_at hl 0 rfl) ?_
      refine lv_iconst (v := 0) hx hb dX2_readNumbers_25 (by decide) ?_
      refine lv_bipush (v := 20) hx hb dX2_readNumbers_26 (by decide) ?_
      refine lv_iconst (v := (-1)) hx hb dX2_readNumbers_28 (by decide) ?_
      have hPc := hP.sub (ws' := [(h0, .inr (2, [.ref rd])), (rd, .inr (7, [.ref tp, .int rd_length, .int rd_place, .int rd_fault])), (tp, .inl (ktp, 400, .inl gtp))]) [0, 1, 2] rfl
      have hDc := hD.sub (ws' := [(h0, .inr (2, [.ref rd])), (rd, .inr (7, [.ref tp, .int rd_length, .int rd_place, .int rd_fault])), (tp, .inl (ktp, 400, .inl gtp))]) [0, 1, 2] (by decide) rfl
      have hKc := hK.sub (tys' := [(ktp, .int)]) [0] rfl
      have hFc := va_free (wc := [(h0, .inr (2, [.ref rd])), (rd, .inr (7, [.ref tp, .int rd_length, .int rd_place, .int rd_fault])), (tp, .inl (ktp, 400, .inl gtp))]) hD hS hA [0, 1, 2] rfl
      refine va_calli (va_runV (As := [.int 0, .int 20, .int (-1)]) (rest := []) ⟨hx, hb, hml, hown, hq⟩ (dr_next l dC dI _ h0 rd tp rd_length rd_place rd_fault ktp gtp 0 20 (-1) ) (cwV 3 hq (gV qw_617 qw_619 qw_3 qw_120 qw_620) rfl rfl rfl (by decide +kernel) ⟨Nat.le_of_ble_eq_true rfl, Nat.le_of_ble_eq_true rfl⟩) ⟨fun a U g mk q => by obtain ⟨q0, q1, qP, qK, qD, qE⟩ := q; exact ⟨q0, q1, qP, va_K.moved (u := U) (U := U.calling g mk a) (Vm.Alike.refl U.vm) qK, qD, xE.same rfl qE⟩, va_recv hKc hPc (ci := 2) (q0 := 0) rfl rfl, fun U hU hW => ⟨rfl, by rw [hU], by rw [hU]; exact hPc, va_K.moved hW.alike hKc, hDc.weaken (fun _ _ _ _ => trivial), xE.warm hW hE⟩⟩ rfl rfl hl.1 rfl (lv_room (Nat.le_of_ble_eq_true rfl)) dX2_readNumbers_29 ⟨Nat.le_of_ble_eq_true rfl, Nat.le_of_ble_eq_true rfl⟩) hS (fun q _ h => hFc q h) hFc (fun r_44 u t H1 locs ht hvm hw hB hz1 hk1 hS => ?_)
      obtain ⟨yy_45, hP1, hK1, hD1⟩ := hB
      rw [ht] at hP1
      obtain ⟨hP, hD⟩ := va_join (wr := [(h3, .inr (1, [.int h3_deep, .int h3_dishes, .int h3_guests, .ref h3lo, .ref h3sa, .ref h3ea, .ref h3cl])), (h3lo, .inl (kh3lo, 8, .inl gh3lo)), (h3sa, .inl (kh3sa, 8, .inl gh3sa)), (h3ea, .inl (kh3ea, 8, .inl gh3ea)), (h3cl, .inl (kh3cl, 8, .inl gh3cl))]) (w1 := [(h0, .inr (2, [.ref rd])), (rd, .inr (7, [.ref tp, .int rd_length, .int (yy_45 0), .int (yy_45 1)])), (tp, .inl (ktp, 400, .inl gtp))]) hP hD [0, 1, 2] [3, 4, 5, 6, 7] rfl rfl (by decide) (by decide) hk1 hFc hP1 hD1
      generalize H1 = H at hP hS ⊢
      have hP : va_P (dC, dI) classes [(h3, .inr (1, [.int h3_deep, .int h3_dishes, .int h3_guests, .ref h3lo, .ref h3sa, .ref h3ea, .ref h3cl])), (h3lo, .inl (kh3lo, 8, .inl gh3lo)), (h3sa, .inl (kh3sa, 8, .inl gh3sa)), (h3ea, .inl (kh3ea, 8, .inl gh3ea)), (h3cl, .inl (kh3cl, 8, .inl gh3cl)), (h0, .inr (2, [.ref rd])), (rd, .inr (7, [.ref tp, .int rd_length, .int (yy_45 0), .int (yy_45 1)])), (tp, .inl (ktp, 400, .inl gtp))] H := hP
      have hD : va_D A [(h3, .inr (1, [.int h3_deep, .int h3_dishes, .int h3_guests, .ref h3lo, .ref h3sa, .ref h3ea, .ref h3cl])), (h3lo, .inl (kh3lo, 8, .inl gh3lo)), (h3sa, .inl (kh3sa, 8, .inl gh3sa)), (h3ea, .inl (kh3ea, 8, .inl gh3ea)), (h3cl, .inl (kh3cl, 8, .inl gh3cl)), (h0, .inr (2, [.ref rd])), (rd, .inr (7, [.ref tp, .int rd_length, .int (yy_45 0), .int (yy_45 1)])), (tp, .inl (ktp, 400, .inl gtp))] := hD
      refine lv_istore_n (lv' := [(3, .int r_44), (0, .ref h0), (1, .int x0), (2, .ref h3)]) hx hb dX2_readNumbers_32 rfl hl (by decide) rfl (fun ls hl => ?_)
      refine lv_aload_n hx hb dX2_readNumbers_33 rfl (lv_at hl 3 rfl) ?_
      refine lv_iload_n hx hb dX2_readNumbers_34 rfl (lv_at hl 0 rfl) ?_
      refine lv_aload_n hx hb dX2_readNumbers_35 rfl (lv_at hl 1 rfl) ?_
      refine lv_iconst (v := 0) hx hb dX2_readNumbers_36 (by decide) ?_
      refine lv_bipush (v := 7) hx hb dX2_readNumbers_37 (by decide) ?_
      refine lv_iconst (v := (-1)) hx hb dX2_readNumbers_39 (by decide) ?_
      have hPc := hP.sub (ws' := [(h0, .inr (2, [.ref rd])), (rd, .inr (7, [.ref tp, .int rd_length, .int (yy_45 0), .int (yy_45 1)])), (tp, .inl (ktp, 400, .inl gtp))]) [5, 6, 7] rfl
      have hDc := hD.sub (ws' := [(h0, .inr (2, [.ref rd])), (rd, .inr (7, [.ref tp, .int rd_length, .int (yy_45 0), .int (yy_45 1)])), (tp, .inl (ktp, 400, .inl gtp))]) [5, 6, 7] (by decide) rfl
      have hKc := hK.sub (tys' := [(ktp, .int)]) [0] rfl
      have hFc := va_free (wc := [(h0, .inr (2, [.ref rd])), (rd, .inr (7, [.ref tp, .int rd_length, .int (yy_45 0), .int (yy_45 1)])), (tp, .inl (ktp, 400, .inl gtp))]) hD hS hA [5, 6, 7] rfl
      refine va_calli (va_runV (As := [.int 0, .int 7, .int (-1)]) (rest := [.int r_44, .ref h3]) ⟨hx, hb, hml, hown, hq⟩ (dr_next l dC dI _ h0 rd tp rd_length (yy_45 0) (yy_45 1) ktp gtp 0 7 (-1) ) (cwV 3 hq (gV qw_617 qw_619 qw_3 qw_120 qw_620) rfl rfl rfl (by decide +kernel) ⟨Nat.le_of_ble_eq_true rfl, Nat.le_of_ble_eq_true rfl⟩) ⟨fun a U g mk q => by obtain ⟨q0, q1, qP, qK, qD, qE⟩ := q; exact ⟨q0, q1, qP, va_K.moved (u := U) (U := U.calling g mk a) (Vm.Alike.refl U.vm) qK, qD, xE.same rfl qE⟩, va_recv hKc hPc (ci := 2) (q0 := 0) rfl rfl, fun U hU hW => ⟨rfl, by rw [hU], by rw [hU]; exact hPc, va_K.moved hW.alike hKc, hDc.weaken (fun _ _ _ _ => trivial), xE.warm hW hE⟩⟩ rfl rfl hl.1 rfl (lv_room (Nat.le_of_ble_eq_true rfl)) dX2_readNumbers_40 ⟨Nat.le_of_ble_eq_true rfl, Nat.le_of_ble_eq_true rfl⟩) hS (fun q _ h => hFc q h) hFc (fun r_46 u t H1 locs ht hvm hw hB hz1 hk1 hS => ?_)
      obtain ⟨yy_47, hP1, hK1, hD1⟩ := hB
      rw [ht] at hP1
      obtain ⟨hP, hD⟩ := va_join (wr := [(h3, .inr (1, [.int h3_deep, .int h3_dishes, .int h3_guests, .ref h3lo, .ref h3sa, .ref h3ea, .ref h3cl])), (h3lo, .inl (kh3lo, 8, .inl gh3lo)), (h3sa, .inl (kh3sa, 8, .inl gh3sa)), (h3ea, .inl (kh3ea, 8, .inl gh3ea)), (h3cl, .inl (kh3cl, 8, .inl gh3cl))]) (w1 := [(h0, .inr (2, [.ref rd])), (rd, .inr (7, [.ref tp, .int rd_length, .int (yy_47 0), .int (yy_47 1)])), (tp, .inl (ktp, 400, .inl gtp))]) hP hD [5, 6, 7] [0, 1, 2, 3, 4] rfl rfl (by decide) (by decide) hk1 hFc hP1 hD1
      generalize H1 = H at hP hS ⊢
      have hP : va_P (dC, dI) classes [(h3, .inr (1, [.int h3_deep, .int h3_dishes, .int h3_guests, .ref h3lo, .ref h3sa, .ref h3ea, .ref h3cl])), (h3lo, .inl (kh3lo, 8, .inl gh3lo)), (h3sa, .inl (kh3sa, 8, .inl gh3sa)), (h3ea, .inl (kh3ea, 8, .inl gh3ea)), (h3cl, .inl (kh3cl, 8, .inl gh3cl)), (h0, .inr (2, [.ref rd])), (rd, .inr (7, [.ref tp, .int rd_length, .int (yy_47 0), .int (yy_47 1)])), (tp, .inl (ktp, 400, .inl gtp))] H := hP
      have hD : va_D A [(h3, .inr (1, [.int h3_deep, .int h3_dishes, .int h3_guests, .ref h3lo, .ref h3sa, .ref h3ea, .ref h3cl])), (h3lo, .inl (kh3lo, 8, .inl gh3lo)), (h3sa, .inl (kh3sa, 8, .inl gh3sa)), (h3ea, .inl (kh3ea, 8, .inl gh3ea)), (h3cl, .inl (kh3cl, 8, .inl gh3cl)), (h0, .inr (2, [.ref rd])), (rd, .inr (7, [.ref tp, .int rd_length, .int (yy_47 0), .int (yy_47 1)])), (tp, .inl (ktp, 400, .inl gtp))] := hD
      have hPc := hP.sub (ws' := [(h3, .inr (1, [.int h3_deep, .int h3_dishes, .int h3_guests, .ref h3lo, .ref h3sa, .ref h3ea, .ref h3cl])), (h3lo, .inl (kh3lo, 8, .inl gh3lo)), (h3sa, .inl (kh3sa, 8, .inl gh3sa))]) [0, 1, 2] rfl
      have hDc := hD.sub (ws' := [(h3, .inr (1, [.int h3_deep, .int h3_dishes, .int h3_guests, .ref h3lo, .ref h3sa, .ref h3ea, .ref h3cl])), (h3lo, .inl (kh3lo, 8, .inl gh3lo)), (h3sa, .inl (kh3sa, 8, .inl gh3sa))]) [0, 1, 2] (by decide) rfl
      have hKc := hK.sub (tys' := [(kh3lo, .int), (kh3sa, .int)]) [1, 2] rfl
      have hFc := va_free (wc := [(h3, .inr (1, [.int h3_deep, .int h3_dishes, .int h3_guests, .ref h3lo, .ref h3sa, .ref h3ea, .ref h3cl])), (h3lo, .inl (kh3lo, 8, .inl gh3lo)), (h3sa, .inl (kh3sa, 8, .inl gh3sa))]) hD hS hA [0, 1, 2] rfl
      refine va_callv (va_runV (As := [.int r_44, .int r_46]) (rest := []) ⟨hx, hb, hml, hown, hq⟩ (d_addDish l dC dI _ h3 h3_deep h3_dishes h3_guests h3lo h3sa h3ea h3cl kh3lo gh3lo kh3sa gh3sa r_44 r_46 ) (cwV 2 hq (gV qw_629 qw_630 qw_631 qw_124 qw_632) rfl rfl rfl (by decide +kernel) ⟨Nat.le_of_ble_eq_true rfl, Nat.le_of_ble_eq_true rfl⟩) ⟨fun a U g mk q => by obtain ⟨q0, q1, qP, qK, qD, qE⟩ := q; exact ⟨q0, q1, qP, va_K.moved (u := U) (U := U.calling g mk a) (Vm.Alike.refl U.vm) qK, qD, xE.same rfl qE⟩, va_recv hKc hPc (ci := 1) (q0 := 0) rfl rfl, fun U hU hW => ⟨rfl, by rw [hU], by rw [hU]; exact hPc, va_K.moved hW.alike hKc, hDc.weaken (fun _ _ _ _ => trivial), xE.warm hW hE⟩⟩ rfl rfl hl.1 rfl (lv_room (Nat.le_of_ble_eq_true rfl)) dX2_readNumbers_43 ⟨Nat.le_of_ble_eq_true rfl, Nat.le_of_ble_eq_true rfl⟩) hS (fun q _ h => hFc q h) hFc (fun u t H1 locs ht hvm hw hB hz1 hk1 hS => ?_)
      obtain ⟨f_49, f_50, yy_51, hP1, hK1, hD1⟩ := hB
      rw [ht] at hP1
      obtain ⟨hP, hD⟩ := va_join (wr := [(h3ea, .inl (kh3ea, 8, .inl gh3ea)), (h3cl, .inl (kh3cl, 8, .inl gh3cl)), (h0, .inr (2, [.ref rd])), (rd, .inr (7, [.ref tp, .int rd_length, .int (yy_47 0), .int (yy_47 1)])), (tp, .inl (ktp, 400, .inl gtp))]) (w1 := [(h3, .inr (1, [.int h3_deep, .int (yy_51 0), .int h3_guests, .ref h3lo, .ref h3sa, .ref h3ea, .ref h3cl])), (h3lo, .inl (kh3lo, 8, .inl f_49)), (h3sa, .inl (kh3sa, 8, .inl f_50))]) hP hD [0, 1, 2] [3, 4, 5, 6, 7] rfl rfl (by decide) (by decide) hk1 hFc hP1 hD1
      generalize H1 = H at hP hS ⊢
      have hP : va_P (dC, dI) classes [(h3ea, .inl (kh3ea, 8, .inl gh3ea)), (h3cl, .inl (kh3cl, 8, .inl gh3cl)), (h0, .inr (2, [.ref rd])), (rd, .inr (7, [.ref tp, .int rd_length, .int (yy_47 0), .int (yy_47 1)])), (tp, .inl (ktp, 400, .inl gtp)), (h3, .inr (1, [.int h3_deep, .int (yy_51 0), .int h3_guests, .ref h3lo, .ref h3sa, .ref h3ea, .ref h3cl])), (h3lo, .inl (kh3lo, 8, .inl f_49)), (h3sa, .inl (kh3sa, 8, .inl f_50))] H := hP
      have hD : va_D A [(h3ea, .inl (kh3ea, 8, .inl gh3ea)), (h3cl, .inl (kh3cl, 8, .inl gh3cl)), (h0, .inr (2, [.ref rd])), (rd, .inr (7, [.ref tp, .int rd_length, .int (yy_47 0), .int (yy_47 1)])), (tp, .inl (ktp, 400, .inl gtp)), (h3, .inr (1, [.int h3_deep, .int (yy_51 0), .int h3_guests, .ref h3lo, .ref h3sa, .ref h3ea, .ref h3cl])), (h3lo, .inl (kh3lo, 8, .inl f_49)), (h3sa, .inl (kh3sa, 8, .inl f_50))] := hD
      refine lv_goto (tgt := 91) hx hb dX2_readNumbers_46 (by decide) ?_
      refine W.widen (k := 0) (n := 0) (Nat.le_of_ble_eq_true rfl) (Nat.le_of_ble_eq_true rfl) ?_
      exact W.vret hx hb hr (fun t ht hW => ⟨⟨(), rfl, trivial, f_49, f_50, gh3ea, gh3cl, (fun i => [(yy_47 0), (yy_47 1), h3_deep, (yy_51 0), h3_guests].getD i 0), by rw [ht]; exact (hP.sub (ws' := [(h0, .inr (2, [.ref rd])), (rd, .inr (7, [.ref tp, .int rd_length, .int (yy_47 0), .int (yy_47 1)])), (tp, .inl (ktp, 400, .inl gtp)), (h3, .inr (1, [.int h3_deep, .int (yy_51 0), .int h3_guests, .ref h3lo, .ref h3sa, .ref h3ea, .ref h3cl])), (h3lo, .inl (kh3lo, 8, .inl f_49)), (h3sa, .inl (kh3sa, 8, .inl f_50)), (h3ea, .inl (kh3ea, 8, .inl gh3ea)), (h3cl, .inl (kh3cl, 8, .inl gh3cl))]) [2, 3, 4, 5, 6, 7, 0, 1] rfl), va_K.moved hW.alike hK, (hD.sub (ws' := [(h0, .inr (2, [.ref rd])), (rd, .inr (7, [.ref tp, .int rd_length, .int (yy_47 0), .int (yy_47 1)])), (tp, .inl (ktp, 400, .inl gtp)), (h3, .inr (1, [.int h3_deep, .int (yy_51 0), .int h3_guests, .ref h3lo, .ref h3sa, .ref h3ea, .ref h3cl])), (h3lo, .inl (kh3lo, 8, .inl f_49)), (h3sa, .inl (kh3sa, 8, .inl f_50)), (h3ea, .inl (kh3ea, 8, .inl gh3ea)), (h3cl, .inl (kh3cl, 8, .inl gh3cl))]) [2, 3, 4, 5, 6, 7, 0, 1] (by decide) rfl)⟩, hS.F ht⟩) hS.2.2 dX2_readNumbers_91
  · refine lv_aload_n hx hb dX2_readNumbers_4 rfl (lv_at hl 2 rfl) ?_
    refine lv_aload_n hx hb dX2_readNumbers_5 rfl (lv_at hl 0 rfl) ?_
    refine lv_iconst (v := 1) hx hb dX2_readNumbers_6 (by decide) ?_
    refine lv_bipush (v := 6) hx hb dX2_readNumbers_7 (by decide) ?_
    refine lv_iconst (v := (-1)) hx hb dX2_readNumbers_9 (by decide) ?_
    have hPc := hP.sub (ws' := [(h0, .inr (2, [.ref rd])), (rd, .inr (7, [.ref tp, .int rd_length, .int rd_place, .int rd_fault])), (tp, .inl (ktp, 400, .inl gtp))]) [0, 1, 2] rfl
    have hDc := hD.sub (ws' := [(h0, .inr (2, [.ref rd])), (rd, .inr (7, [.ref tp, .int rd_length, .int rd_place, .int rd_fault])), (tp, .inl (ktp, 400, .inl gtp))]) [0, 1, 2] (by decide) rfl
    have hKc := hK.sub (tys' := [(ktp, .int)]) [0] rfl
    have hFc := va_free (wc := [(h0, .inr (2, [.ref rd])), (rd, .inr (7, [.ref tp, .int rd_length, .int rd_place, .int rd_fault])), (tp, .inl (ktp, 400, .inl gtp))]) hD hS hA [0, 1, 2] rfl
    refine va_calli (va_runV (As := [.int 1, .int 6, .int (-1)]) (rest := [.ref h3]) ⟨hx, hb, hml, hown, hq⟩ (dr_next l dC dI _ h0 rd tp rd_length rd_place rd_fault ktp gtp 1 6 (-1) ) (cwV 3 hq (gV qw_617 qw_619 qw_3 qw_120 qw_620) rfl rfl rfl (by decide +kernel) ⟨Nat.le_of_ble_eq_true rfl, Nat.le_of_ble_eq_true rfl⟩) ⟨fun a U g mk q => by obtain ⟨q0, q1, qP, qK, qD, qE⟩ := q; exact ⟨q0, q1, qP, va_K.moved (u := U) (U := U.calling g mk a) (Vm.Alike.refl U.vm) qK, qD, xE.same rfl qE⟩, va_recv hKc hPc (ci := 2) (q0 := 0) rfl rfl, fun U hU hW => ⟨rfl, by rw [hU], by rw [hU]; exact hPc, va_K.moved hW.alike hKc, hDc.weaken (fun _ _ _ _ => trivial), xE.warm hW hE⟩⟩ rfl rfl hl.1 rfl (lv_room (Nat.le_of_ble_eq_true rfl)) dX2_readNumbers_10 ⟨Nat.le_of_ble_eq_true rfl, Nat.le_of_ble_eq_true rfl⟩) hS (fun q _ h => hFc q h) hFc (fun r_52 u t H1 locs ht hvm hw hB hz1 hk1 hS => ?_)
    obtain ⟨yy_53, hP1, hK1, hD1⟩ := hB
    rw [ht] at hP1
    obtain ⟨hP, hD⟩ := va_join (wr := [(h3, .inr (1, [.int h3_deep, .int h3_dishes, .int h3_guests, .ref h3lo, .ref h3sa, .ref h3ea, .ref h3cl])), (h3lo, .inl (kh3lo, 8, .inl gh3lo)), (h3sa, .inl (kh3sa, 8, .inl gh3sa)), (h3ea, .inl (kh3ea, 8, .inl gh3ea)), (h3cl, .inl (kh3cl, 8, .inl gh3cl))]) (w1 := [(h0, .inr (2, [.ref rd])), (rd, .inr (7, [.ref tp, .int rd_length, .int (yy_53 0), .int (yy_53 1)])), (tp, .inl (ktp, 400, .inl gtp))]) hP hD [0, 1, 2] [3, 4, 5, 6, 7] rfl rfl (by decide) (by decide) hk1 hFc hP1 hD1
    generalize H1 = H at hP hS ⊢
    have hP : va_P (dC, dI) classes [(h3, .inr (1, [.int h3_deep, .int h3_dishes, .int h3_guests, .ref h3lo, .ref h3sa, .ref h3ea, .ref h3cl])), (h3lo, .inl (kh3lo, 8, .inl gh3lo)), (h3sa, .inl (kh3sa, 8, .inl gh3sa)), (h3ea, .inl (kh3ea, 8, .inl gh3ea)), (h3cl, .inl (kh3cl, 8, .inl gh3cl)), (h0, .inr (2, [.ref rd])), (rd, .inr (7, [.ref tp, .int rd_length, .int (yy_53 0), .int (yy_53 1)])), (tp, .inl (ktp, 400, .inl gtp))] H := hP
    have hD : va_D A [(h3, .inr (1, [.int h3_deep, .int h3_dishes, .int h3_guests, .ref h3lo, .ref h3sa, .ref h3ea, .ref h3cl])), (h3lo, .inl (kh3lo, 8, .inl gh3lo)), (h3sa, .inl (kh3sa, 8, .inl gh3sa)), (h3ea, .inl (kh3ea, 8, .inl gh3ea)), (h3cl, .inl (kh3cl, 8, .inl gh3cl)), (h0, .inr (2, [.ref rd])), (rd, .inr (7, [.ref tp, .int rd_length, .int (yy_53 0), .int (yy_53 1)])), (tp, .inl (ktp, 400, .inl gtp))] := hD
    refine va_put (D := (dC, dI)) (ci := 1) (v := .int r_52) (ty := .int) (C := RX1) (T := TX1) (N := 7) hx hb hq inX1 tyX1 tyX1_ok nmX1 hown hK hP hD hS 0 rfl rfl 0 (by decide) (hq _ qw_225) (fun _ h9 => h9) rfl (by decide +kernel) rfl rfl (Nat.le_of_ble_eq_true rfl) dX2_readNumbers_13 (fun H locs hP hD hS => ?_)
    have hP : va_P (dC, dI) classes [(h3, .inr (1, [.int r_52, .int h3_dishes, .int h3_guests, .ref h3lo, .ref h3sa, .ref h3ea, .ref h3cl])), (h3lo, .inl (kh3lo, 8, .inl gh3lo)), (h3sa, .inl (kh3sa, 8, .inl gh3sa)), (h3ea, .inl (kh3ea, 8, .inl gh3ea)), (h3cl, .inl (kh3cl, 8, .inl gh3cl)), (h0, .inr (2, [.ref rd])), (rd, .inr (7, [.ref tp, .int rd_length, .int (yy_53 0), .int (yy_53 1)])), (tp, .inl (ktp, 400, .inl gtp))] H := hP
    have hD : va_D A [(h3, .inr (1, [.int r_52, .int h3_dishes, .int h3_guests, .ref h3lo, .ref h3sa, .ref h3ea, .ref h3cl])), (h3lo, .inl (kh3lo, 8, .inl gh3lo)), (h3sa, .inl (kh3sa, 8, .inl gh3sa)), (h3ea, .inl (kh3ea, 8, .inl gh3ea)), (h3cl, .inl (kh3cl, 8, .inl gh3cl)), (h0, .inr (2, [.ref rd])), (rd, .inr (7, [.ref tp, .int rd_length, .int (yy_53 0), .int (yy_53 1)])), (tp, .inl (ktp, 400, .inl gtp))] := hD
    refine lv_goto (tgt := 91) hx hb dX2_readNumbers_16 (by decide) ?_
    refine W.widen (k := 0) (n := 0) (Nat.le_of_ble_eq_true rfl) (Nat.le_of_ble_eq_true rfl) ?_
    exact W.vret hx hb hr (fun t ht hW => ⟨⟨(), rfl, trivial, gh3lo, gh3sa, gh3ea, gh3cl, (fun i => [(yy_53 0), (yy_53 1), r_52, h3_dishes, h3_guests].getD i 0), by rw [ht]; exact (hP.sub (ws' := [(h0, .inr (2, [.ref rd])), (rd, .inr (7, [.ref tp, .int rd_length, .int (yy_53 0), .int (yy_53 1)])), (tp, .inl (ktp, 400, .inl gtp)), (h3, .inr (1, [.int r_52, .int h3_dishes, .int h3_guests, .ref h3lo, .ref h3sa, .ref h3ea, .ref h3cl])), (h3lo, .inl (kh3lo, 8, .inl gh3lo)), (h3sa, .inl (kh3sa, 8, .inl gh3sa)), (h3ea, .inl (kh3ea, 8, .inl gh3ea)), (h3cl, .inl (kh3cl, 8, .inl gh3cl))]) [5, 6, 7, 0, 1, 2, 3, 4] rfl), va_K.moved hW.alike hK, (hD.sub (ws' := [(h0, .inr (2, [.ref rd])), (rd, .inr (7, [.ref tp, .int rd_length, .int (yy_53 0), .int (yy_53 1)])), (tp, .inl (ktp, 400, .inl gtp)), (h3, .inr (1, [.int r_52, .int h3_dishes, .int h3_guests, .ref h3lo, .ref h3sa, .ref h3ea, .ref h3cl])), (h3lo, .inl (kh3lo, 8, .inl gh3lo)), (h3sa, .inl (kh3sa, 8, .inl gh3sa)), (h3ea, .inl (kh3ea, 8, .inl gh3ea)), (h3cl, .inl (kh3cl, 8, .inl gh3cl))]) [5, 6, 7, 0, 1, 2, 3, 4] (by decide) rfl)⟩, hS.F ht⟩) hS.2.2 dX2_readNumbers_91

set_option maxHeartbeats 4000000 in
set_option maxRecDepth 100000 in
/-- dr_may -/
theorem dr_may (l : Launch) (dC : Nat → ClassId) (dI : Nat → Nat → Nat) (sz : Nat) (h3 : Nat) (h3_deep : Int32) (h3_dishes : Int32) (h3_guests : Int32) (h3lo : Nat) (h3sa : Nat) (h3ea : Nat) (h3cl : Nat) (x0 : Int32) (x1 : Int32) : Met l yX2_mayStand (.code yX2_mayStand cX2_mayStand 3 (some .boolean) :: wsA) ({ frames := 0, cells := 0, slots := 0, locals := 0 }) (va_Pc [.int x0, .int x1, .ref h3] (fun U => U.heap.size = sz ∧ va_P (dC, dI) classes [(h3, .inr (1, [.int h3_deep, .int h3_dishes, .int h3_guests, .ref h3lo, .ref h3sa, .ref h3ea, .ref h3cl]))] U.heap ∧ va_K (dC, dI) classes [] U ∧ va_D (fun _ => True) [(h3, .inr (1, [.int h3_deep, .int h3_dishes, .int h3_guests, .ref h3lo, .ref h3sa, .ref h3ea, .ref h3cl]))] ∧ xE U)) (va_Qi (fun (r : Int32) (_ : Unit) => True) (fun _ t => va_P (dC, dI) classes [(h3, .inr (1, [.int h3_deep, .int h3_dishes, .int h3_guests, .ref h3lo, .ref h3sa, .ref h3ea, .ref h3cl]))] t.heap ∧ va_K (dC, dI) classes [] t ∧ va_D (va_A [(h3, .inr (1, [.int h3_deep, .int h3_dishes, .int h3_guests, .ref h3lo, .ref h3sa, .ref h3ea, .ref h3cl]))] sz) [(h3, .inr (1, [.int h3_deep, .int h3_dishes, .int h3_guests, .ref h3lo, .ref h3sa, .ref h3ea, .ref h3cl]))]) (va_A [(h3, .inr (1, [.int h3_deep, .int h3_dishes, .int h3_guests, .ref h3lo, .ref h3sa, .ref h3ea, .ref h3cl]))] sz)) 0 0 (va_A [(h3, .inr (1, [.int h3_deep, .int h3_dishes, .int h3_guests, .ref h3lo, .ref h3sa, .ref h3ea, .ref h3cl]))] sz) := by
  refine Met.ofW (cc := cX2_mayStand) (maxL := 3) (ret := (some .boolean)) (by decide) rfl ?_
  intro p e s m args below meth c s₁ B hml hv
  obtain ⟨rfl, hsz, hP, hK, hD0, hE⟩ := hv
  have hx := B.exec
  have hb := B.bytes
  have hr := B.returns
  have hts := atoms_spec (ws := .code yX2_mayStand cX2_mayStand 3 (some .boolean) :: wsA) B.pre
  have hq : ∀ w ∈ wsA, w.before _ s = true := fun w h => hts w (List.mem_cons_of_mem _ h)
  have hown : s.vm.findClass RX2 = some m.cls := findClass_of_methodNamed B.named
  have hlocks := B.notSynchronized
  subst hsz
  have hD := hD0.self (sz := s.heap.size)
  generalize hAe : va_A [(h3, .inr (1, [.int h3_deep, .int h3_dishes, .int h3_guests, .ref h3lo, .ref h3sa, .ref h3ea, .ref h3cl]))] s.heap.size = A at hD ⊢
  have hA : ∀ q : Nat, s.heap.size ≤ q → A q := fun q h => by rw [← hAe]; exact Or.inr h
  have hS : va_S A s.heap s.heap [] := va_S.rf
  have hl := lv_entry ([.int x0, .int x1, .ref h3]) (n := 3) (Nat.le_of_ble_eq_true rfl)
  rw [lg_entry_eq]
  generalize (lg_sl ([.int x0, .int x1, .ref h3]) ++ List.replicate (3 - (lg_sl ([.int x0, .int x1, .ref h3])).length) Slot.unset).toArray = ls at hl ⊢
  have hl : lv_has ls 3 [(0, .int x0), (1, .int x1), (2, .ref h3)] := hl
  refine lv_iload_n hx hb dX2_mayStand_0 rfl (lv_at hl 0 rfl) ?_
  refine W.cut (I := fun H locs g => ∃ (y_11 : Int32) (ls : Array Slot), va_P (dC, dI) classes [(h3, .inr (1, [.int h3_deep, .int h3_dishes, .int h3_guests, .ref h3lo, .ref h3sa, .ref h3ea, .ref h3cl]))] H ∧ va_D A [(h3, .inr (1, [.int h3_deep, .int h3_dishes, .int h3_guests, .ref h3lo, .ref h3sa, .ref h3ea, .ref h3cl]))] ∧ va_S A s.heap H locs ∧ lv_has ls 3 [(0, .int x0), (1, .int x1), (2, .ref h3)] ∧ g = F0 m 9 ls [.int y_11]) (fun H locs g h => ?_) (fun hJ9 => ?_)
  · obtain ⟨y_11, ls, hP, hD, hS, hl, rfl⟩ := h
    refine lv_iload_n hx hb dX2_mayStand_9 rfl (lv_at hl 1 rfl) ?_
    refine W.cut (I := fun H locs g => ∃ (y_20 : Int32) (ls : Array Slot), va_P (dC, dI) classes [(h3, .inr (1, [.int h3_deep, .int h3_dishes, .int h3_guests, .ref h3lo, .ref h3sa, .ref h3ea, .ref h3cl]))] H ∧ va_D A [(h3, .inr (1, [.int h3_deep, .int h3_dishes, .int h3_guests, .ref h3lo, .ref h3sa, .ref h3ea, .ref h3cl]))] ∧ va_S A s.heap H locs ∧ lv_has ls 3 [(0, .int x0), (2, .ref h3)] ∧ g = F0 m 18 ls [.int y_20, .int y_11]) (fun H locs g h => ?_) (fun hJ18 => ?_)
    · obtain ⟨y_20, ls, hP, hD, hS, hl, rfl⟩ := h
      refine lv_icmp_eq (tgt := 23) hx hb dX2_mayStand_18 (by decide) (fun c_26 => ?_) (fun c_26 => ?_)
      · refine lv_iload_n hx hb dX2_mayStand_23 rfl (lv_at hl 0 rfl) ?_
        refine lv_iconst (v := 1) hx hb dX2_mayStand_24 (by decide) ?_
        refine lv_icmp_ne (tgt := 43) hx hb dX2_mayStand_25 (by decide) (fun c_27 => ?_) (fun c_27 => ?_)
        · refine lv_iload_n hx hb dX2_mayStand_43 rfl (lv_at hl 0 rfl) ?_
          refine lv_iconst (v := 2) hx hb dX2_mayStand_44 (by decide) ?_
          refine W.cut (I := fun H locs g => ∃ (ls : Array Slot), va_P (dC, dI) classes [(h3, .inr (1, [.int h3_deep, .int h3_dishes, .int h3_guests, .ref h3lo, .ref h3sa, .ref h3ea, .ref h3cl]))] H ∧ va_D A [(h3, .inr (1, [.int h3_deep, .int h3_dishes, .int h3_guests, .ref h3lo, .ref h3sa, .ref h3ea, .ref h3cl]))] ∧ va_S A s.heap H locs ∧ lv_has ls 3 [] ∧ g = F0 m 56 ls []) (fun H locs g h => ?_) (fun hJ56 => ?_)
          · obtain ⟨ls, hP, hD, hS, hl, rfl⟩ := h
            refine lv_iconst (v := 1) hx hb dX2_mayStand_56 (by decide) ?_
            refine lv_goto (tgt := 61) hx hb dX2_mayStand_57 (by decide) ?_
            refine W.widen (k := 0) (n := 0) (Nat.le_of_ble_eq_true rfl) (Nat.le_of_ble_eq_true rfl) ?_
            exact W.zret (v := 1) hx hb hr (by decide) (fun t ht hW => ⟨⟨1, (), rfl, trivial, by rw [ht]; exact hP, va_K.moved hW.alike hK, hD⟩, hS.F ht⟩) hS.2.2 dX2_mayStand_61
          refine lv_icmp_ne (tgt := 56) hx hb dX2_mayStand_45 (by decide) (fun c_30 => ?_) (fun c_30 => ?_)
          · exact hJ56 _ _ _ ⟨_, hP, hD, hS, (lv_sub hl [] rfl), rfl⟩
          · refine lv_aload_n hx hb dX2_mayStand_48 rfl (lv_at hl 1 rfl) ?_
            refine va_get (D := (dC, dI)) (ci := 1) (v := .int h3_guests) (C := RX1) (T := TX1) (N := 7) hx hb hq inX1 hown hK hP 0 rfl rfl 2 (by decide) (hq _ qw_234) (fun _ h9 => h9) rfl dX2_mayStand_49 ?_
            refine lv_iconst (v := 5) hx hb dX2_mayStand_52 (by decide) ?_
            refine lv_icmp_ge (tgt := 60) hx hb dX2_mayStand_53 (by decide) (fun c_31 => ?_) (fun c_31 => ?_)
            · refine lv_iconst (v := 0) hx hb dX2_mayStand_60 (by decide) ?_
              refine W.widen (k := 0) (n := 0) (Nat.le_of_ble_eq_true rfl) (Nat.le_of_ble_eq_true rfl) ?_
              exact W.zret (v := 0) hx hb hr (by decide) (fun t ht hW => ⟨⟨0, (), rfl, trivial, by rw [ht]; exact hP, va_K.moved hW.alike hK, hD⟩, hS.F ht⟩) hS.2.2 dX2_mayStand_61
            · exact hJ56 _ _ _ ⟨_, hP, hD, hS, (lv_sub hl [] rfl), rfl⟩
        · refine lv_aload_n hx hb dX2_mayStand_28 rfl (lv_at hl 1 rfl) ?_
          refine va_get (D := (dC, dI)) (ci := 1) (v := .int h3_dishes) (C := RX1) (T := TX1) (N := 7) hx hb hq inX1 hown hK hP 0 rfl rfl 1 (by decide) (hq _ qw_230) (fun _ h9 => h9) rfl dX2_mayStand_29 ?_
          refine lv_bipush (v := 8) hx hb dX2_mayStand_32 (by decide) ?_
          refine lv_icmp_ge (tgt := 41) hx hb dX2_mayStand_34 (by decide) (fun c_32 => ?_) (fun c_32 => ?_)
          · refine lv_iconst (v := 0) hx hb dX2_mayStand_41 (by decide) ?_
            refine W.widen (k := 0) (n := 0) (Nat.le_of_ble_eq_true rfl) (Nat.le_of_ble_eq_true rfl) ?_
            exact W.zret (v := 0) hx hb hr (by decide) (fun t ht hW => ⟨⟨0, (), rfl, trivial, by rw [ht]; exact hP, va_K.moved hW.alike hK, hD⟩, hS.F ht⟩) hS.2.2 dX2_mayStand_42
          · refine lv_iconst (v := 1) hx hb dX2_mayStand_37 (by decide) ?_
            refine lv_goto (tgt := 42) hx hb dX2_mayStand_38 (by decide) ?_
            refine W.widen (k := 0) (n := 0) (Nat.le_of_ble_eq_true rfl) (Nat.le_of_ble_eq_true rfl) ?_
            exact W.zret (v := 1) hx hb hr (by decide) (fun t ht hW => ⟨⟨1, (), rfl, trivial, by rw [ht]; exact hP, va_K.moved hW.alike hK, hD⟩, hS.F ht⟩) hS.2.2 dX2_mayStand_42
      · refine lv_iconst (v := 0) hx hb dX2_mayStand_21 (by decide) ?_
        refine W.widen (k := 0) (n := 0) (Nat.le_of_ble_eq_true rfl) (Nat.le_of_ble_eq_true rfl) ?_
        exact W.zret (v := 0) hx hb hr (by decide) (fun t ht hW => ⟨⟨0, (), rfl, trivial, by rw [ht]; exact hP, va_K.moved hW.alike hK, hD⟩, hS.F ht⟩) hS.2.2 dX2_mayStand_22
    refine lv_if_ne (tgt := 17) hx hb dX2_mayStand_10 (by decide) (fun c_33 => ?_) (fun c_33 => ?_)
    · refine lv_iconst (v := 0) hx hb dX2_mayStand_17 (by decide) ?_
      exact hJ18 _ _ _ ⟨0, _, hP, hD, hS, (lv_sub hl [0, 2] rfl), rfl⟩
    · refine lv_iconst (v := 1) hx hb dX2_mayStand_13 (by decide) ?_
      refine lv_goto (tgt := 18) hx hb dX2_mayStand_14 (by decide) ?_
      exact hJ18 _ _ _ ⟨1, _, hP, hD, hS, (lv_sub hl [0, 2] rfl), rfl⟩
  refine lv_if_ne (tgt := 8) hx hb dX2_mayStand_1 (by decide) (fun c_34 => ?_) (fun c_34 => ?_)
  · refine lv_iconst (v := 0) hx hb dX2_mayStand_8 (by decide) ?_
    exact hJ9 _ _ _ ⟨0, _, hP, hD, hS, hl, rfl⟩
  · refine lv_iconst (v := 1) hx hb dX2_mayStand_4 (by decide) ?_
    refine lv_goto (tgt := 9) hx hb dX2_mayStand_5 (by decide) ?_
    exact hJ9 _ _ _ ⟨1, _, hP, hD, hS, hl, rfl⟩

set_option maxHeartbeats 4000000 in
set_option maxRecDepth 100000 in
/-- dr_read -/
theorem dr_read (l : Launch) (dC : Nat → ClassId) (dI : Nat → Nat → Nat) (sz : Nat) (kA vA : Nat → Nat) (h0 : Nat) (rd : Nat) (rd_text : Value) (rd_length : Int32) (rd_place : Int32) (rd_fault : Int32) (tp : Nat) (ktp : ClassId) (gtp : Nat → Int32) (h3 : Nat) (h3_deep : Int32) (h3_dishes : Int32) (h3_guests : Int32) (h3lo : Nat) (h3sa : Nat) (h3ea : Nat) (h3cl : Nat) (kh3lo : ClassId) (gh3lo : Nat → Int32) (kh3sa : ClassId) (gh3sa : Nat → Int32) (kh3ea : ClassId) (gh3ea : Nat → Int32) (kh3cl : ClassId) (gh3cl : Nat → Int32) (x0 : Int32) : Met l yX2_read (.code yX2_read cX2_read 6 (some .int) :: wsA) ({ frames := 5, cells := 0, slots := 0, locals := 111 }) (va_Pc [.ref h0, .ref tp, .int x0, .ref h3] (fun U => U.heap.size = sz ∧ va_P (dC, dI) classes [(h0, .inr (2, [.ref rd])), (rd, .inr (7, [rd_text, .int rd_length, .int rd_place, .int rd_fault])), (tp, .inl (ktp, 400, .inl gtp)), (h3, .inr (1, [.int h3_deep, .int h3_dishes, .int h3_guests, .ref h3lo, .ref h3sa, .ref h3ea, .ref h3cl])), (h3lo, .inl (kh3lo, 8, .inl gh3lo)), (h3sa, .inl (kh3sa, 8, .inl gh3sa)), (h3ea, .inl (kh3ea, 8, .inl gh3ea)), (h3cl, .inl (kh3cl, 8, .inl gh3cl))] U.heap ∧ va_K (dC, dI) classes [(ktp, .int), (kh3lo, .int), (kh3sa, .int), (kh3ea, .int), (kh3cl, .int)] U ∧ va_D (fun _ => True) [(h0, .inr (2, [.ref rd])), (rd, .inr (7, [rd_text, .int rd_length, .int rd_place, .int rd_fault])), (tp, .inl (ktp, 400, .inl gtp)), (h3, .inr (1, [.int h3_deep, .int h3_dishes, .int h3_guests, .ref h3lo, .ref h3sa, .ref h3ea, .ref h3cl])), (h3lo, .inl (kh3lo, 8, .inl gh3lo)), (h3sa, .inl (kh3sa, 8, .inl gh3sa)), (h3ea, .inl (kh3ea, 8, .inl gh3ea)), (h3cl, .inl (kh3cl, 8, .inl gh3cl))] ∧ xE U ∧ xT kA vA (va_A [(h0, .inr (2, [.ref rd])), (rd, .inr (7, [rd_text, .int rd_length, .int rd_place, .int rd_fault])), (tp, .inl (ktp, 400, .inl gtp)), (h3, .inr (1, [.int h3_deep, .int h3_dishes, .int h3_guests, .ref h3lo, .ref h3sa, .ref h3ea, .ref h3cl])), (h3lo, .inl (kh3lo, 8, .inl gh3lo)), (h3sa, .inl (kh3sa, 8, .inl gh3sa)), (h3ea, .inl (kh3ea, 8, .inl gh3ea)), (h3cl, .inl (kh3cl, 8, .inl gh3cl))] sz) U U.heap)) (va_Qi (fun (r : Int32) (_ : Unit) => True) (fun _ t => ∃ (f_245 : Nat → Int32) (f_246 : Nat → Int32) (f_247 : Nat → Int32) (f_249 : Nat → Int32) (yy_248 : Nat → Int32), va_P (dC, dI) classes [(h0, .inr (2, [.ref rd])), (rd, .inr (7, [.ref tp, .int (yy_248 0), .int (yy_248 1), .int (yy_248 2)])), (tp, .inl (ktp, 400, .inl gtp)), (h3, .inr (1, [.int (yy_248 3), .int (yy_248 4), .int (yy_248 5), .ref h3lo, .ref h3sa, .ref h3ea, .ref h3cl])), (h3lo, .inl (kh3lo, 8, .inl f_245)), (h3sa, .inl (kh3sa, 8, .inl f_246)), (h3ea, .inl (kh3ea, 8, .inl f_247)), (h3cl, .inl (kh3cl, 8, .inl f_249))] t.heap ∧ va_K (dC, dI) classes [(ktp, .int), (kh3lo, .int), (kh3sa, .int), (kh3ea, .int), (kh3cl, .int)] t ∧ va_D (va_A [(h0, .inr (2, [.ref rd])), (rd, .inr (7, [rd_text, .int rd_length, .int rd_place, .int rd_fault])), (tp, .inl (ktp, 400, .inl gtp)), (h3, .inr (1, [.int h3_deep, .int h3_dishes, .int h3_guests, .ref h3lo, .ref h3sa, .ref h3ea, .ref h3cl])), (h3lo, .inl (kh3lo, 8, .inl gh3lo)), (h3sa, .inl (kh3sa, 8, .inl gh3sa)), (h3ea, .inl (kh3ea, 8, .inl gh3ea)), (h3cl, .inl (kh3cl, 8, .inl gh3cl))] sz) [(h0, .inr (2, [.ref rd])), (rd, .inr (7, [.ref tp, .int (yy_248 0), .int (yy_248 1), .int (yy_248 2)])), (tp, .inl (ktp, 400, .inl gtp)), (h3, .inr (1, [.int (yy_248 3), .int (yy_248 4), .int (yy_248 5), .ref h3lo, .ref h3sa, .ref h3ea, .ref h3cl])), (h3lo, .inl (kh3lo, 8, .inl f_245)), (h3sa, .inl (kh3sa, 8, .inl f_246)), (h3ea, .inl (kh3ea, 8, .inl f_247)), (h3cl, .inl (kh3cl, 8, .inl f_249))]) (va_A [(h0, .inr (2, [.ref rd])), (rd, .inr (7, [rd_text, .int rd_length, .int rd_place, .int rd_fault])), (tp, .inl (ktp, 400, .inl gtp)), (h3, .inr (1, [.int h3_deep, .int h3_dishes, .int h3_guests, .ref h3lo, .ref h3sa, .ref h3ea, .ref h3cl])), (h3lo, .inl (kh3lo, 8, .inl gh3lo)), (h3sa, .inl (kh3sa, 8, .inl gh3sa)), (h3ea, .inl (kh3ea, 8, .inl gh3ea)), (h3cl, .inl (kh3cl, 8, .inl gh3cl))] sz)) 0 0 (va_A [(h0, .inr (2, [.ref rd])), (rd, .inr (7, [rd_text, .int rd_length, .int rd_place, .int rd_fault])), (tp, .inl (ktp, 400, .inl gtp)), (h3, .inr (1, [.int h3_deep, .int h3_dishes, .int h3_guests, .ref h3lo, .ref h3sa, .ref h3ea, .ref h3cl])), (h3lo, .inl (kh3lo, 8, .inl gh3lo)), (h3sa, .inl (kh3sa, 8, .inl gh3sa)), (h3ea, .inl (kh3ea, 8, .inl gh3ea)), (h3cl, .inl (kh3cl, 8, .inl gh3cl))] sz) := by
  refine Met.ofW (cc := cX2_read) (maxL := 6) (ret := (some .int)) (by decide) rfl ?_
  intro p e s m args below meth c s₁ B hml hv
  obtain ⟨rfl, hsz, hP, hK, hD0, hE, hT⟩ := hv
  have hx := B.exec
  have hb := B.bytes
  have hr := B.returns
  have hts := atoms_spec (ws := .code yX2_read cX2_read 6 (some .int) :: wsA) B.pre
  have hq : ∀ w ∈ wsA, w.before _ s = true := fun w h => hts w (List.mem_cons_of_mem _ h)
  have hown : s.vm.findClass RX2 = some m.cls := findClass_of_methodNamed B.named
  have hlocks := B.notSynchronized
  subst hsz
  have hD := hD0.self (sz := s.heap.size)
  generalize hAe : va_A [(h0, .inr (2, [.ref rd])), (rd, .inr (7, [rd_text, .int rd_length, .int rd_place, .int rd_fault])), (tp, .inl (ktp, 400, .inl gtp)), (h3, .inr (1, [.int h3_deep, .int h3_dishes, .int h3_guests, .ref h3lo, .ref h3sa, .ref h3ea, .ref h3cl])), (h3lo, .inl (kh3lo, 8, .inl gh3lo)), (h3sa, .inl (kh3sa, 8, .inl gh3sa)), (h3ea, .inl (kh3ea, 8, .inl gh3ea)), (h3cl, .inl (kh3cl, 8, .inl gh3cl))] s.heap.size = A at hD hT ⊢
  have hA : ∀ q : Nat, s.heap.size ≤ q → A q := fun q h => by rw [← hAe]; exact Or.inr h
  have hS : va_S A s.heap s.heap [] := va_S.rf
  have hl := lv_entry ([.ref h0, .ref tp, .int x0, .ref h3]) (n := 6) (Nat.le_of_ble_eq_true rfl)
  rw [lg_entry_eq]
  generalize (lg_sl ([.ref h0, .ref tp, .int x0, .ref h3]) ++ List.replicate (6 - (lg_sl ([.ref h0, .ref tp, .int x0, .ref h3])).length) Slot.unset).toArray = ls at hl ⊢
  have hl : lv_has ls 6 [(0, .ref h0), (1, .ref tp), (2, .int x0), (3, .ref h3)] := hl
  refine lv_aload_n hx hb dX2_read_0 rfl (lv_at hl 0 rfl) ?_
  refine va_get (D := (dC, dI)) (ci := 2) (v := .ref rd) (C := RX2) (T := TX2) (N := 1) hx hb hq inX2 hown hK hP 0 rfl rfl 0 (by decide) (hq _ qw_177) (fun _ h9 => h9) rfl dX2_read_1 ?_
  refine lv_aload_n hx hb dX2_read_4 rfl (lv_at hl 1 rfl) ?_
  refine lv_iload_n hx hb dX2_read_5 rfl (lv_at hl 2 rfl) ?_
  have hPc := hP.sub (ws' := [(rd, .inr (7, [rd_text, .int rd_length, .int rd_place, .int rd_fault])), (tp, .inl (ktp, 400, .inl gtp))]) [1, 2] rfl
  have hDc := hD.sub (ws' := [(rd, .inr (7, [rd_text, .int rd_length, .int rd_place, .int rd_fault])), (tp, .inl (ktp, 400, .inl gtp))]) [1, 2] (by decide) rfl
  have hKc := hK.sub (tys' := [(ktp, .int)]) [0] rfl
  have hFc := va_free (wc := [(rd, .inr (7, [rd_text, .int rd_length, .int rd_place, .int rd_fault])), (tp, .inl (ktp, 400, .inl gtp))]) hD hS hA [1, 2] rfl
  refine va_callv (va_runV (As := [.ref tp, .int x0]) (rest := []) ⟨hx, hb, hml, hown, hq⟩ (rd_open l dC dI _ rd rd_text rd_length rd_place rd_fault tp ktp gtp x0 ) (cwV 2 hq (gV qw_527 qw_528 qw_529 qw_121 qw_530) rfl rfl rfl (by decide +kernel) ⟨Nat.le_of_ble_eq_true rfl, Nat.le_of_ble_eq_true rfl⟩) ⟨fun a U g mk q => by obtain ⟨q0, q1, qP, qK, qD, qE⟩ := q; exact ⟨q0, q1, qP, va_K.moved (u := U) (U := U.calling g mk a) (Vm.Alike.refl U.vm) qK, qD, xE.same rfl qE⟩, va_recv hKc hPc (ci := 7) (q0 := 0) rfl rfl, fun U hU hW => ⟨rfl, by rw [hU], by rw [hU]; exact hPc, va_K.moved hW.alike hKc, hDc.weaken (fun _ _ _ _ => trivial), xE.warm hW hE⟩⟩ rfl rfl hl.1 rfl (lv_room (Nat.le_of_ble_eq_true rfl)) dX2_read_6 ⟨Nat.le_of_ble_eq_true rfl, Nat.le_of_ble_eq_true rfl⟩) hS (fun q _ h => hFc q h) hFc (fun u t H1 locs ht hvm hw hB hz1 hk1 hS => ?_)
  obtain ⟨yy_251, hP1, hK1, hD1⟩ := hB
  rw [ht] at hP1
  obtain ⟨hP, hD⟩ := va_join (wr := [(h0, .inr (2, [.ref rd])), (h3, .inr (1, [.int h3_deep, .int h3_dishes, .int h3_guests, .ref h3lo, .ref h3sa, .ref h3ea, .ref h3cl])), (h3lo, .inl (kh3lo, 8, .inl gh3lo)), (h3sa, .inl (kh3sa, 8, .inl gh3sa)), (h3ea, .inl (kh3ea, 8, .inl gh3ea)), (h3cl, .inl (kh3cl, 8, .inl gh3cl))]) (w1 := [(rd, .inr (7, [.ref tp, .int (yy_251 0), .int 0, .int 0])), (tp, .inl (ktp, 400, .inl gtp))]) hP hD [1, 2] [0, 3, 4, 5, 6, 7] rfl rfl (by decide) (by decide) hk1 hFc hP1 hD1
  generalize H1 = H at hP hS ⊢
  have hP : va_P (dC, dI) classes [(h0, .inr (2, [.ref rd])), (h3, .inr (1, [.int h3_deep, .int h3_dishes, .int h3_guests, .ref h3lo, .ref h3sa, .ref h3ea, .ref h3cl])), (h3lo, .inl (kh3lo, 8, .inl gh3lo)), (h3sa, .inl (kh3sa, 8, .inl gh3sa)), (h3ea, .inl (kh3ea, 8, .inl gh3ea)), (h3cl, .inl (kh3cl, 8, .inl gh3cl)), (rd, .inr (7, [.ref tp, .int (yy_251 0), .int 0, .int 0])), (tp, .inl (ktp, 400, .inl gtp))] H := hP
  have hD : va_D A [(h0, .inr (2, [.ref rd])), (h3, .inr (1, [.int h3_deep, .int h3_dishes, .int h3_guests, .ref h3lo, .ref h3sa, .ref h3ea, .ref h3cl])), (h3lo, .inl (kh3lo, 8, .inl gh3lo)), (h3sa, .inl (kh3sa, 8, .inl gh3sa)), (h3ea, .inl (kh3ea, 8, .inl gh3ea)), (h3cl, .inl (kh3cl, 8, .inl gh3cl)), (rd, .inr (7, [.ref tp, .int (yy_251 0), .int 0, .int 0])), (tp, .inl (ktp, 400, .inl gtp))] := hD
  refine lv_aload_n hx hb dX2_read_9 rfl (lv_at hl 3 rfl) ?_
  have hPc := hP.sub (ws' := [(h3, .inr (1, [.int h3_deep, .int h3_dishes, .int h3_guests, .ref h3lo, .ref h3sa, .ref h3ea, .ref h3cl])), (h3cl, .inl (kh3cl, 8, .inl gh3cl))]) [1, 5] rfl
  have hDc := hD.sub (ws' := [(h3, .inr (1, [.int h3_deep, .int h3_dishes, .int h3_guests, .ref h3lo, .ref h3sa, .ref h3ea, .ref h3cl])), (h3cl, .inl (kh3cl, 8, .inl gh3cl))]) [1, 5] (by decide) rfl
  have hKc := hK.sub (tys' := [(kh3cl, .int)]) [4] rfl
  have hFc := va_free (wc := [(h3, .inr (1, [.int h3_deep, .int h3_dishes, .int h3_guests, .ref h3lo, .ref h3sa, .ref h3ea, .ref h3cl])), (h3cl, .inl (kh3cl, 8, .inl gh3cl))]) hD hS hA [1, 5] rfl
  refine va_callv (va_runV (As := []) (rest := []) ⟨hx, hb, hml, hown, hq⟩ (d_clear l dC dI _ h3 h3_deep h3_dishes h3_guests h3lo h3sa h3ea h3cl kh3cl gh3cl ) (cwV 0 hq (gV qw_534 qw_535 qw_536 qw_124 qw_537) rfl rfl rfl (by decide +kernel) ⟨Nat.le_of_ble_eq_true rfl, Nat.le_of_ble_eq_true rfl⟩) ⟨fun a U g mk q => by obtain ⟨q0, q1, qP, qK, qD, qE⟩ := q; exact ⟨q0, q1, qP, va_K.moved (u := U) (U := U.calling g mk a) (Vm.Alike.refl U.vm) qK, qD, xE.same rfl qE⟩, va_recv hKc hPc (ci := 1) (q0 := 0) rfl rfl, fun U hU hW => ⟨rfl, by rw [hU], by rw [hU]; exact hPc, va_K.moved hW.alike hKc, hDc.weaken (fun _ _ _ _ => trivial), xE.warm hW hE⟩⟩ rfl rfl hl.1 rfl (lv_room (Nat.le_of_ble_eq_true rfl)) dX2_read_10 ⟨Nat.le_of_ble_eq_true rfl, Nat.le_of_ble_eq_true rfl⟩) hS (fun q _ h => hFc q h) hFc (fun u t H1 locs ht hvm hw hB hz1 hk1 hS => ?_)
  obtain ⟨f_253, hP1, hK1, hD1⟩ := hB
  rw [ht] at hP1
  obtain ⟨hP, hD⟩ := va_join (wr := [(h0, .inr (2, [.ref rd])), (h3lo, .inl (kh3lo, 8, .inl gh3lo)), (h3sa, .inl (kh3sa, 8, .inl gh3sa)), (h3ea, .inl (kh3ea, 8, .inl gh3ea)), (rd, .inr (7, [.ref tp, .int (yy_251 0), .int 0, .int 0])), (tp, .inl (ktp, 400, .inl gtp))]) (w1 := [(h3, .inr (1, [.int 0, .int 0, .int 0, .ref h3lo, .ref h3sa, .ref h3ea, .ref h3cl])), (h3cl, .inl (kh3cl, 8, .inl f_253))]) hP hD [1, 5] [0, 2, 3, 4, 6, 7] rfl rfl (by decide) (by decide) hk1 hFc hP1 hD1
  generalize H1 = H at hP hS ⊢
  have hP : va_P (dC, dI) classes [(h0, .inr (2, [.ref rd])), (h3lo, .inl (kh3lo, 8, .inl gh3lo)), (h3sa, .inl (kh3sa, 8, .inl gh3sa)), (h3ea, .inl (kh3ea, 8, .inl gh3ea)), (rd, .inr (7, [.ref tp, .int (yy_251 0), .int 0, .int 0])), (tp, .inl (ktp, 400, .inl gtp)), (h3, .inr (1, [.int 0, .int 0, .int 0, .ref h3lo, .ref h3sa, .ref h3ea, .ref h3cl])), (h3cl, .inl (kh3cl, 8, .inl f_253))] H := hP
  have hD : va_D A [(h0, .inr (2, [.ref rd])), (h3lo, .inl (kh3lo, 8, .inl gh3lo)), (h3sa, .inl (kh3sa, 8, .inl gh3sa)), (h3ea, .inl (kh3ea, 8, .inl gh3ea)), (rd, .inr (7, [.ref tp, .int (yy_251 0), .int 0, .int 0])), (tp, .inl (ktp, 400, .inl gtp)), (h3, .inr (1, [.int 0, .int 0, .int 0, .ref h3lo, .ref h3sa, .ref h3ea, .ref h3cl])), (h3cl, .inl (kh3cl, 8, .inl f_253))] := hD
  refine lv_iconst (v := 0) hx hb dX2_read_13 (by decide) ?_
  refine lv_istore (lv' := [(4, .int 0), (0, .ref h0), (1, .ref tp), (2, .int x0), (3, .ref h3)]) hx hb dX2_read_14 hl (by decide) rfl (fun ls hl => ?_)
  refine W.loop (I := fun n H locs g => ∃ (y_280 : Int32) (f_281 : Nat → Int32) (f_282 : Nat → Int32) (f_283 : Nat → Int32) (f_285 : Nat → Int32) (yy_284 : Nat → Int32) (ls : Array Slot), bt 0 41 y_280 ∧ 41 - y_280.toInt < (n : Int) ∧ va_P (dC, dI) classes [(h0, .inr (2, [.ref rd])), (h3lo, .inl (kh3lo, 8, .inl f_281)), (h3sa, .inl (kh3sa, 8, .inl f_282)), (h3ea, .inl (kh3ea, 8, .inl f_283)), (rd, .inr (7, [.ref tp, .int (yy_251 0), .int (yy_284 0), .int (yy_284 1)])), (tp, .inl (ktp, 400, .inl gtp)), (h3, .inr (1, [.int (yy_284 2), .int (yy_284 3), .int (yy_284 4), .ref h3lo, .ref h3sa, .ref h3ea, .ref h3cl])), (h3cl, .inl (kh3cl, 8, .inl f_285))] H ∧ va_D A [(h0, .inr (2, [.ref rd])), (h3lo, .inl (kh3lo, 8, .inl f_281)), (h3sa, .inl (kh3sa, 8, .inl f_282)), (h3ea, .inl (kh3ea, 8, .inl f_283)), (rd, .inr (7, [.ref tp, .int (yy_251 0), .int (yy_284 0), .int (yy_284 1)])), (tp, .inl (ktp, 400, .inl gtp)), (h3, .inr (1, [.int (yy_284 2), .int (yy_284 3), .int (yy_284 4), .ref h3lo, .ref h3sa, .ref h3ea, .ref h3cl])), (h3cl, .inl (kh3cl, 8, .inl f_285))] ∧ va_S A s.heap H locs ∧ lv_has ls 6 [(4, .int y_280), (0, .ref h0), (3, .ref h3)] ∧ g = F0 m 16 ls []) (fun H locs g h => ?_) (fun n ih16 H locs g h => ?_) (n := 42) ⟨0, gh3lo, gh3sa, gh3ea, f_253, (fun i => [0, 0, 0, 0, 0].getD i 0), _, (bt_w (bt_k (x := 0) (c := 0) (by decide)) (by decide)), (ms_0 (bt_k (x := 0) (c := 0) (by decide)) (by decide)), hP, hD, hS, (lv_sub hl [0, 1, 4] rfl), rfl⟩
  · obtain ⟨y_280, f_281, f_282, f_283, f_285, yy_284, ls, bd_v_4, hm, hP, hD, hS, hl, rfl⟩ := h
    exact ms_z bd_v_4 hm
  · obtain ⟨y_280, f_281, f_282, f_283, f_285, yy_284, ls, bd_v_4, hm16, hP, hD, hS, hl, rfl⟩ := h
    refine lv_iload hx hb dX2_read_16 (lv_at hl 0 rfl) ?_
    refine lv_bipush (v := 40) hx hb dX2_read_18 (by decide) ?_
    refine W.cut (I := fun H locs g => ∃ (f_489 : Nat → Int32) (f_490 : Nat → Int32) (f_491 : Nat → Int32) (f_493 : Nat → Int32) (yy_492 : Nat → Int32) (ls : Array Slot), va_P (dC, dI) classes [(h0, .inr (2, [.ref rd])), (h3lo, .inl (kh3lo, 8, .inl f_489)), (h3sa, .inl (kh3sa, 8, .inl f_490)), (h3ea, .inl (kh3ea, 8, .inl f_491)), (rd, .inr (7, [.ref tp, .int (yy_251 0), .int (yy_492 0), .int (yy_492 1)])), (tp, .inl (ktp, 400, .inl gtp)), (h3, .inr (1, [.int (yy_492 2), .int (yy_492 3), .int (yy_492 4), .ref h3lo, .ref h3sa, .ref h3ea, .ref h3cl])), (h3cl, .inl (kh3cl, 8, .inl f_493))] H ∧ va_D A [(h0, .inr (2, [.ref rd])), (h3lo, .inl (kh3lo, 8, .inl f_489)), (h3sa, .inl (kh3sa, 8, .inl f_490)), (h3ea, .inl (kh3ea, 8, .inl f_491)), (rd, .inr (7, [.ref tp, .int (yy_251 0), .int (yy_492 0), .int (yy_492 1)])), (tp, .inl (ktp, 400, .inl gtp)), (h3, .inr (1, [.int (yy_492 2), .int (yy_492 3), .int (yy_492 4), .ref h3lo, .ref h3sa, .ref h3ea, .ref h3cl])), (h3cl, .inl (kh3cl, 8, .inl f_493))] ∧ va_S A s.heap H locs ∧ lv_has ls 6 [(0, .ref h0)] ∧ g = F0 m 135 ls []) (fun H locs g h => ?_) (fun hJ135 => ?_)
    · obtain ⟨f_489, f_490, f_491, f_493, yy_492, ls, hP, hD, hS, hl, rfl⟩ := h
      refine lv_aload_n hx hb dX2_read_135 rfl (lv_at hl 0 rfl) ?_
      refine va_get (D := (dC, dI)) (ci := 2) (v := .ref rd) (C := RX2) (T := TX2) (N := 1) hx hb hq inX2 hown hK hP 0 rfl rfl 0 (by decide) (hq _ qw_177) (fun _ h9 => h9) rfl dX2_read_136 ?_
      refine va_get (D := (dC, dI)) (ci := 7) (v := .int (yy_492 1)) (C := RX7) (T := TX7) (N := 4) hx hb hq inX7 hown hK hP 4 rfl rfl 3 (by decide) (hq _ qw_166) (fun _ h9 => h9) rfl dX2_read_139 ?_
      refine W.widen (k := 0) (n := 0) (Nat.le_of_ble_eq_true rfl) (Nat.le_of_ble_eq_true rfl) ?_
      exact W.iret (v := (yy_492 1)) hx hb hr (fun t ht hW => ⟨⟨(yy_492 1), (), rfl, trivial, f_489, f_490, f_491, f_493, (fun i => [(yy_251 0), (yy_492 0), (yy_492 1), (yy_492 2), (yy_492 3), (yy_492 4)].getD i 0), by rw [ht]; exact (hP.sub (ws' := [(h0, .inr (2, [.ref rd])), (rd, .inr (7, [.ref tp, .int (yy_251 0), .int (yy_492 0), .int (yy_492 1)])), (tp, .inl (ktp, 400, .inl gtp)), (h3, .inr (1, [.int (yy_492 2), .int (yy_492 3), .int (yy_492 4), .ref h3lo, .ref h3sa, .ref h3ea, .ref h3cl])), (h3lo, .inl (kh3lo, 8, .inl f_489)), (h3sa, .inl (kh3sa, 8, .inl f_490)), (h3ea, .inl (kh3ea, 8, .inl f_491)), (h3cl, .inl (kh3cl, 8, .inl f_493))]) [0, 4, 5, 6, 1, 2, 3, 7] rfl), va_K.moved hW.alike hK, (hD.sub (ws' := [(h0, .inr (2, [.ref rd])), (rd, .inr (7, [.ref tp, .int (yy_251 0), .int (yy_492 0), .int (yy_492 1)])), (tp, .inl (ktp, 400, .inl gtp)), (h3, .inr (1, [.int (yy_492 2), .int (yy_492 3), .int (yy_492 4), .ref h3lo, .ref h3sa, .ref h3ea, .ref h3cl])), (h3lo, .inl (kh3lo, 8, .inl f_489)), (h3sa, .inl (kh3sa, 8, .inl f_490)), (h3ea, .inl (kh3ea, 8, .inl f_491)), (h3cl, .inl (kh3cl, 8, .inl f_493))]) [0, 4, 5, 6, 1, 2, 3, 7] (by decide) rfl)⟩, hS.F ht⟩) hS.2.2 dX2_read_142
    refine lv_icmp_gt (tgt := 135) hx hb dX2_read_20 (by decide) (fun c_494 => ?_) (fun c_494 => ?_)
    · exact hJ135 _ _ _ ⟨f_281, f_282, f_283, f_285, (fun i => [(yy_284 0), (yy_284 1), (yy_284 2), (yy_284 3), (yy_284 4)].getD i 0), _, hP, hD, hS, (lv_sub hl [1] rfl), rfl⟩
    · refine lv_aload_n hx hb dX2_read_23 rfl (lv_at hl 1 rfl) ?_
      refine va_get (D := (dC, dI)) (ci := 2) (v := .ref rd) (C := RX2) (T := TX2) (N := 1) hx hb hq inX2 hown hK hP 0 rfl rfl 0 (by decide) (hq _ qw_177) (fun _ h9 => h9) rfl dX2_read_24 ?_
      have hPc := hP.sub (ws' := [(rd, .inr (7, [.ref tp, .int (yy_251 0), .int (yy_284 0), .int (yy_284 1)])), (tp, .inl (ktp, 400, .inl gtp))]) [4, 5] rfl
      have hDc := hD.sub (ws' := [(rd, .inr (7, [.ref tp, .int (yy_251 0), .int (yy_284 0), .int (yy_284 1)])), (tp, .inl (ktp, 400, .inl gtp))]) [4, 5] (by decide) rfl
      have hKc := hK.sub (tys' := [(ktp, .int)]) [0] rfl
      have hFc := va_free (wc := [(rd, .inr (7, [.ref tp, .int (yy_251 0), .int (yy_284 0), .int (yy_284 1)])), (tp, .inl (ktp, 400, .inl gtp))]) hD hS hA [4, 5] rfl
      refine va_calli (va_runV (As := []) (rest := []) ⟨hx, hb, hml, hown, hq⟩ (rd_sign l dC dI _ rd tp (yy_251 0) (yy_284 0) (yy_284 1) ktp gtp ) (cwV 0 hq (gV qw_538 qw_539 qw_540 qw_121 qw_541) rfl rfl rfl (by decide +kernel) ⟨Nat.le_of_ble_eq_true rfl, Nat.le_of_ble_eq_true rfl⟩) ⟨fun a U g mk q => by obtain ⟨q0, q1, qP, qK, qD, qE⟩ := q; exact ⟨q0, q1, qP, va_K.moved (u := U) (U := U.calling g mk a) (Vm.Alike.refl U.vm) qK, qD, xE.same rfl qE⟩, va_recv hKc hPc (ci := 7) (q0 := 0) rfl rfl, fun U hU hW => ⟨rfl, by rw [hU], by rw [hU]; exact hPc, va_K.moved hW.alike hKc, hDc.weaken (fun _ _ _ _ => trivial), xE.warm hW hE⟩⟩ rfl rfl hl.1 rfl (lv_room (Nat.le_of_ble_eq_true rfl)) dX2_read_27 ⟨Nat.le_of_ble_eq_true rfl, Nat.le_of_ble_eq_true rfl⟩) hS (fun q _ h => hFc q h) hFc (fun r_495 u t H1 locs ht hvm hw hB hz1 hk1 hS => ?_)
      obtain ⟨yy_496, hP1, hK1, hD1⟩ := hB
      rw [ht] at hP1
      obtain ⟨hP, hD⟩ := va_join (wr := [(h0, .inr (2, [.ref rd])), (h3lo, .inl (kh3lo, 8, .inl f_281)), (h3sa, .inl (kh3sa, 8, .inl f_282)), (h3ea, .inl (kh3ea, 8, .inl f_283)), (h3, .inr (1, [.int (yy_284 2), .int (yy_284 3), .int (yy_284 4), .ref h3lo, .ref h3sa, .ref h3ea, .ref h3cl])), (h3cl, .inl (kh3cl, 8, .inl f_285))]) (w1 := [(rd, .inr (7, [.ref tp, .int (yy_251 0), .int (yy_496 0), .int (yy_284 1)])), (tp, .inl (ktp, 400, .inl gtp))]) hP hD [4, 5] [0, 1, 2, 3, 6, 7] rfl rfl (by decide) (by decide) hk1 hFc hP1 hD1
      generalize H1 = H at hP hS ⊢
      have hP : va_P (dC, dI) classes [(h0, .inr (2, [.ref rd])), (h3lo, .inl (kh3lo, 8, .inl f_281)), (h3sa, .inl (kh3sa, 8, .inl f_282)), (h3ea, .inl (kh3ea, 8, .inl f_283)), (h3, .inr (1, [.int (yy_284 2), .int (yy_284 3), .int (yy_284 4), .ref h3lo, .ref h3sa, .ref h3ea, .ref h3cl])), (h3cl, .inl (kh3cl, 8, .inl f_285)), (rd, .inr (7, [.ref tp, .int (yy_251 0), .int (yy_496 0), .int (yy_284 1)])), (tp, .inl (ktp, 400, .inl gtp))] H := hP
      have hD : va_D A [(h0, .inr (2, [.ref rd])), (h3lo, .inl (kh3lo, 8, .inl f_281)), (h3sa, .inl (kh3sa, 8, .inl f_282)), (h3ea, .inl (kh3ea, 8, .inl f_283)), (h3, .inr (1, [.int (yy_284 2), .int (yy_284 3), .int (yy_284 4), .ref h3lo, .ref h3sa, .ref h3ea, .ref h3cl])), (h3cl, .inl (kh3cl, 8, .inl f_285)), (rd, .inr (7, [.ref tp, .int (yy_251 0), .int (yy_496 0), .int (yy_284 1)])), (tp, .inl (ktp, 400, .inl gtp))] := hD
      refine lv_pop hx hb dX2_read_30 rfl ?_
      refine lv_aload_n hx hb dX2_read_31 rfl (lv_at hl 1 rfl) ?_
      refine va_get (D := (dC, dI)) (ci := 2) (v := .ref rd) (C := RX2) (T := TX2) (N := 1) hx hb hq inX2 hown hK hP 0 rfl rfl 0 (by decide) (hq _ qw_177) (fun _ h9 => h9) rfl dX2_read_32 ?_
      refine va_ldcS hx hb hown (xT_R0 hT) dX2_read_35 ?_
      have hPc := hP.sub (ws' := [(rd, .inr (7, [.ref tp, .int (yy_251 0), .int (yy_496 0), .int (yy_284 1)])), (tp, .inl (ktp, 400, .inl gtp))]) [6, 7] rfl
      have hDc := hD.sub (ws' := [(rd, .inr (7, [.ref tp, .int (yy_251 0), .int (yy_496 0), .int (yy_284 1)])), (tp, .inl (ktp, 400, .inl gtp))]) [6, 7] (by decide) rfl
      have hKc := hK.sub (tys' := [(ktp, .int)]) [0] rfl
      have hFc := va_free (wc := [(rd, .inr (7, [.ref tp, .int (yy_251 0), .int (yy_496 0), .int (yy_284 1)])), (tp, .inl (ktp, 400, .inl gtp))]) hD hS hA [6, 7] rfl
      refine va_calli (va_runV (As := [.ref (kA 0)]) (rest := []) ⟨hx, hb, hml, hown, hq⟩ (rd_word_0 l dC dI _ kA vA rd tp (yy_251 0) (yy_496 0) (yy_284 1) ktp gtp ) (cwV 1 hq (gV qw_547 qw_548 qw_549 qw_121 qw_550) rfl rfl rfl (by decide +kernel) ⟨Nat.le_of_ble_eq_true rfl, Nat.le_of_ble_eq_true rfl⟩) ⟨fun a U g mk q => by obtain ⟨q0, q1, qP, qK, qD, qE, qT⟩ := q; exact ⟨q0, q1, qP, va_K.moved (u := U) (U := U.calling g mk a) (Vm.Alike.refl U.vm) qK, qD, xE.same rfl qE, xT.same rfl qT⟩, va_recv hKc hPc (ci := 7) (q0 := 0) rfl rfl, fun U hU hW => ⟨rfl, by rw [hU], by rw [hU]; exact hPc, va_K.moved hW.alike hKc, hDc.weaken (fun _ _ _ _ => trivial), xE.warm hW hE, by rw [hU]; exact xT.call hW hT hS hFc⟩⟩ rfl rfl hl.1 rfl (lv_room (Nat.le_of_ble_eq_true rfl)) dX2_read_37 ⟨Nat.le_of_ble_eq_true rfl, Nat.le_of_ble_eq_true rfl⟩) hS (fun q _ h => hFc q h) hFc (fun r_497 u t H1 locs ht hvm hw hB hz1 hk1 hS => ?_)
      obtain ⟨hP1, hK1, hD1⟩ := hB
      rw [ht] at hP1
      obtain ⟨hP, hD⟩ := va_join (wr := [(h0, .inr (2, [.ref rd])), (h3lo, .inl (kh3lo, 8, .inl f_281)), (h3sa, .inl (kh3sa, 8, .inl f_282)), (h3ea, .inl (kh3ea, 8, .inl f_283)), (h3, .inr (1, [.int (yy_284 2), .int (yy_284 3), .int (yy_284 4), .ref h3lo, .ref h3sa, .ref h3ea, .ref h3cl])), (h3cl, .inl (kh3cl, 8, .inl f_285))]) (w1 := [(rd, .inr (7, [.ref tp, .int (yy_251 0), .int (yy_496 0), .int (yy_284 1)])), (tp, .inl (ktp, 400, .inl gtp))]) hP hD [6, 7] [0, 1, 2, 3, 4, 5] rfl rfl (by decide) (by decide) hk1 hFc hP1 hD1
      generalize H1 = H at hP hS ⊢
      have hP : va_P (dC, dI) classes [(h0, .inr (2, [.ref rd])), (h3lo, .inl (kh3lo, 8, .inl f_281)), (h3sa, .inl (kh3sa, 8, .inl f_282)), (h3ea, .inl (kh3ea, 8, .inl f_283)), (h3, .inr (1, [.int (yy_284 2), .int (yy_284 3), .int (yy_284 4), .ref h3lo, .ref h3sa, .ref h3ea, .ref h3cl])), (h3cl, .inl (kh3cl, 8, .inl f_285)), (rd, .inr (7, [.ref tp, .int (yy_251 0), .int (yy_496 0), .int (yy_284 1)])), (tp, .inl (ktp, 400, .inl gtp))] H := hP
      have hD : va_D A [(h0, .inr (2, [.ref rd])), (h3lo, .inl (kh3lo, 8, .inl f_281)), (h3sa, .inl (kh3sa, 8, .inl f_282)), (h3ea, .inl (kh3ea, 8, .inl f_283)), (h3, .inr (1, [.int (yy_284 2), .int (yy_284 3), .int (yy_284 4), .ref h3lo, .ref h3sa, .ref h3ea, .ref h3cl])), (h3cl, .inl (kh3cl, 8, .inl f_285)), (rd, .inr (7, [.ref tp, .int (yy_251 0), .int (yy_496 0), .int (yy_284 1)])), (tp, .inl (ktp, 400, .inl gtp))] := hD
      refine lv_istore (lv' := [(5, .int r_497), (4, .int y_280), (0, .ref h0), (3, .ref h3)]) hx hb dX2_read_40 hl (by decide) rfl (fun ls hl => ?_)
      refine lv_iload hx hb dX2_read_42 (lv_at hl 0 rfl) ?_
      refine lv_iconst (v := (-1)) hx hb dX2_read_44 (by decide) ?_
      refine W.cut (I := fun H locs g => ∃ (f_515 : Nat → Int32) (f_516 : Nat → Int32) (f_517 : Nat → Int32) (f_518 : Nat → Int32) (yy_514 : Nat → Int32) (ls : Array Slot), va_P (dC, dI) classes [(h0, .inr (2, [.ref rd])), (h3lo, .inl (kh3lo, 8, .inl f_515)), (h3sa, .inl (kh3sa, 8, .inl f_516)), (h3ea, .inl (kh3ea, 8, .inl f_517)), (h3, .inr (1, [.int (yy_514 2), .int (yy_514 3), .int (yy_514 4), .ref h3lo, .ref h3sa, .ref h3ea, .ref h3cl])), (h3cl, .inl (kh3cl, 8, .inl f_518)), (rd, .inr (7, [.ref tp, .int (yy_251 0), .int (yy_514 0), .int (yy_514 1)])), (tp, .inl (ktp, 400, .inl gtp))] H ∧ va_D A [(h0, .inr (2, [.ref rd])), (h3lo, .inl (kh3lo, 8, .inl f_515)), (h3sa, .inl (kh3sa, 8, .inl f_516)), (h3ea, .inl (kh3ea, 8, .inl f_517)), (h3, .inr (1, [.int (yy_514 2), .int (yy_514 3), .int (yy_514 4), .ref h3lo, .ref h3sa, .ref h3ea, .ref h3cl])), (h3cl, .inl (kh3cl, 8, .inl f_518)), (rd, .inr (7, [.ref tp, .int (yy_251 0), .int (yy_514 0), .int (yy_514 1)])), (tp, .inl (ktp, 400, .inl gtp))] ∧ va_S A s.heap H locs ∧ lv_has ls 6 [(4, .int y_280), (0, .ref h0), (3, .ref h3)] ∧ g = F0 m 116 ls []) (fun H locs g h => ?_) (fun hJ116 => ?_)
      · obtain ⟨f_515, f_516, f_517, f_518, yy_514, ls, hP, hD, hS, hl, rfl⟩ := h
        refine lv_aload_n hx hb dX2_read_116 rfl (lv_at hl 1 rfl) ?_
        refine va_get (D := (dC, dI)) (ci := 2) (v := .ref rd) (C := RX2) (T := TX2) (N := 1) hx hb hq inX2 hown hK hP 0 rfl rfl 0 (by decide) (hq _ qw_177) (fun _ h9 => h9) rfl dX2_read_117 ?_
        have hPc := hP.sub (ws' := [(rd, .inr (7, [.ref tp, .int (yy_251 0), .int (yy_514 0), .int (yy_514 1)])), (tp, .inl (ktp, 400, .inl gtp))]) [6, 7] rfl
        have hDc := hD.sub (ws' := [(rd, .inr (7, [.ref tp, .int (yy_251 0), .int (yy_514 0), .int (yy_514 1)])), (tp, .inl (ktp, 400, .inl gtp))]) [6, 7] (by decide) rfl
        have hKc := hK.sub (tys' := [(ktp, .int)]) [0] rfl
        have hFc := va_free (wc := [(rd, .inr (7, [.ref tp, .int (yy_251 0), .int (yy_514 0), .int (yy_514 1)])), (tp, .inl (ktp, 400, .inl gtp))]) hD hS hA [6, 7] rfl
        refine va_calli (va_runV (As := []) (rest := []) ⟨hx, hb, hml, hown, hq⟩ (rd_goesOn l dC dI _ rd tp (yy_251 0) (yy_514 0) (yy_514 1) ktp gtp ) (cwV 0 hq (gV qw_641 qw_642 qw_643 qw_121 qw_644) rfl rfl rfl (by decide +kernel) ⟨Nat.le_of_ble_eq_true rfl, Nat.le_of_ble_eq_true rfl⟩) ⟨fun a U g mk q => by obtain ⟨q0, q1, qP, qK, qD, qE⟩ := q; exact ⟨q0, q1, qP, va_K.moved (u := U) (U := U.calling g mk a) (Vm.Alike.refl U.vm) qK, qD, xE.same rfl qE⟩, va_recv hKc hPc (ci := 7) (q0 := 0) rfl rfl, fun U hU hW => ⟨rfl, by rw [hU], by rw [hU]; exact hPc, va_K.moved hW.alike hKc, hDc.weaken (fun _ _ _ _ => trivial), xE.warm hW hE⟩⟩ rfl rfl hl.1 rfl (lv_room (Nat.le_of_ble_eq_true rfl)) dX2_read_120 ⟨Nat.le_of_ble_eq_true rfl, Nat.le_of_ble_eq_true rfl⟩) hS (fun q _ h => hFc q h) hFc (fun r_523 u t H1 locs ht hvm hw hB hz1 hk1 hS => ?_)
        obtain ⟨yy_524, hP1, hK1, hD1⟩ := hB
        rw [ht] at hP1
        obtain ⟨hP, hD⟩ := va_join (wr := [(h0, .inr (2, [.ref rd])), (h3lo, .inl (kh3lo, 8, .inl f_515)), (h3sa, .inl (kh3sa, 8, .inl f_516)), (h3ea, .inl (kh3ea, 8, .inl f_517)), (h3, .inr (1, [.int (yy_514 2), .int (yy_514 3), .int (yy_514 4), .ref h3lo, .ref h3sa, .ref h3ea, .ref h3cl])), (h3cl, .inl (kh3cl, 8, .inl f_518))]) (w1 := [(rd, .inr (7, [.ref tp, .int (yy_251 0), .int (yy_524 0), .int (yy_524 1)])), (tp, .inl (ktp, 400, .inl gtp))]) hP hD [6, 7] [0, 1, 2, 3, 4, 5] rfl rfl (by decide) (by decide) hk1 hFc hP1 hD1
        generalize H1 = H at hP hS ⊢
        have hP : va_P (dC, dI) classes [(h0, .inr (2, [.ref rd])), (h3lo, .inl (kh3lo, 8, .inl f_515)), (h3sa, .inl (kh3sa, 8, .inl f_516)), (h3ea, .inl (kh3ea, 8, .inl f_517)), (h3, .inr (1, [.int (yy_514 2), .int (yy_514 3), .int (yy_514 4), .ref h3lo, .ref h3sa, .ref h3ea, .ref h3cl])), (h3cl, .inl (kh3cl, 8, .inl f_518)), (rd, .inr (7, [.ref tp, .int (yy_251 0), .int (yy_524 0), .int (yy_524 1)])), (tp, .inl (ktp, 400, .inl gtp))] H := hP
        have hD : va_D A [(h0, .inr (2, [.ref rd])), (h3lo, .inl (kh3lo, 8, .inl f_515)), (h3sa, .inl (kh3sa, 8, .inl f_516)), (h3ea, .inl (kh3ea, 8, .inl f_517)), (h3, .inr (1, [.int (yy_514 2), .int (yy_514 3), .int (yy_514 4), .ref h3lo, .ref h3sa, .ref h3ea, .ref h3cl])), (h3cl, .inl (kh3cl, 8, .inl f_518)), (rd, .inr (7, [.ref tp, .int (yy_251 0), .int (yy_524 0), .int (yy_524 1)])), (tp, .inl (ktp, 400, .inl gtp))] := hD
        refine lv_if_ne (tgt := 129) hx hb dX2_read_123 (by decide) (fun c_525 => ?_) (fun c_525 => ?_)
        · obtain ⟨y_526, ey_526⟩ : ∃ y : Int32, y = y_280 + 1 := ⟨_, rfl⟩
          refine lv_iinc (v := y_526) (lv' := [(4, .int y_526), (0, .ref h0), (3, .ref h3)]) hx hb dX2_read_129 hl (k := 0) rfl (by rw [ey_526]; rfl) (by decide) rfl (fun ls hl => ?_)
          refine lv_goto (tgt := 16) hx hb dX2_read_132 (by decide) ?_
          have b_527 : bt 0 40 y_280 := rf_le_l bd_v_4 (bt_k (x := 40) (c := 40) (by decide)) (Int32.not_lt.mp c_494) (by decide)
          have b_528 : bt 1 41 y_526 := bt_add ey_526 b_527 (bt_k (x := 1) (c := 1) (by decide)) (by decide)
          exact ih16 _ _ _ ⟨y_526, f_515, f_516, f_517, f_518, (fun i => [(yy_524 0), (yy_524 1), (yy_514 2), (yy_514 3), (yy_514 4)].getD i 0), _, (bt_w b_528 (by decide)), (ms_s ey_526 b_527 hm16 (by decide)), (hP.sub (ws' := [(h0, .inr (2, [.ref rd])), (h3lo, .inl (kh3lo, 8, .inl f_515)), (h3sa, .inl (kh3sa, 8, .inl f_516)), (h3ea, .inl (kh3ea, 8, .inl f_517)), (rd, .inr (7, [.ref tp, .int (yy_251 0), .int (yy_524 0), .int (yy_524 1)])), (tp, .inl (ktp, 400, .inl gtp)), (h3, .inr (1, [.int (yy_514 2), .int (yy_514 3), .int (yy_514 4), .ref h3lo, .ref h3sa, .ref h3ea, .ref h3cl])), (h3cl, .inl (kh3cl, 8, .inl f_518))]) [0, 1, 2, 3, 6, 7, 4, 5] rfl), (hD.sub (ws' := [(h0, .inr (2, [.ref rd])), (h3lo, .inl (kh3lo, 8, .inl f_515)), (h3sa, .inl (kh3sa, 8, .inl f_516)), (h3ea, .inl (kh3ea, 8, .inl f_517)), (rd, .inr (7, [.ref tp, .int (yy_251 0), .int (yy_524 0), .int (yy_524 1)])), (tp, .inl (ktp, 400, .inl gtp)), (h3, .inr (1, [.int (yy_514 2), .int (yy_514 3), .int (yy_514 4), .ref h3lo, .ref h3sa, .ref h3ea, .ref h3cl])), (h3cl, .inl (kh3cl, 8, .inl f_518))]) [0, 1, 2, 3, 6, 7, 4, 5] (by decide) rfl), hS, hl, rfl⟩
        · refine lv_goto (tgt := 135) hx hb dX2_read_126 (by decide) ?_
          exact hJ135 _ _ _ ⟨f_515, f_516, f_517, f_518, (fun i => [(yy_524 0), (yy_524 1), (yy_514 2), (yy_514 3), (yy_514 4)].getD i 0), _, (hP.sub (ws' := [(h0, .inr (2, [.ref rd])), (h3lo, .inl (kh3lo, 8, .inl f_515)), (h3sa, .inl (kh3sa, 8, .inl f_516)), (h3ea, .inl (kh3ea, 8, .inl f_517)), (rd, .inr (7, [.ref tp, .int (yy_251 0), .int (yy_524 0), .int (yy_524 1)])), (tp, .inl (ktp, 400, .inl gtp)), (h3, .inr (1, [.int (yy_514 2), .int (yy_514 3), .int (yy_514 4), .ref h3lo, .ref h3sa, .ref h3ea, .ref h3cl])), (h3cl, .inl (kh3cl, 8, .inl f_518))]) [0, 1, 2, 3, 6, 7, 4, 5] rfl), (hD.sub (ws' := [(h0, .inr (2, [.ref rd])), (h3lo, .inl (kh3lo, 8, .inl f_515)), (h3sa, .inl (kh3sa, 8, .inl f_516)), (h3ea, .inl (kh3ea, 8, .inl f_517)), (rd, .inr (7, [.ref tp, .int (yy_251 0), .int (yy_524 0), .int (yy_524 1)])), (tp, .inl (ktp, 400, .inl gtp)), (h3, .inr (1, [.int (yy_514 2), .int (yy_514 3), .int (yy_514 4), .ref h3lo, .ref h3sa, .ref h3ea, .ref h3cl])), (h3cl, .inl (kh3cl, 8, .inl f_518))]) [0, 1, 2, 3, 6, 7, 4, 5] (by decide) rfl), hS, (lv_sub hl [1] rfl), rfl⟩
      refine lv_icmp_ne (tgt := 66) hx hb dX2_read_45 (by decide) (fun c_529 => ?_) (fun c_529 => ?_)
      · refine lv_iload hx hb dX2_read_66 (lv_at hl 1 rfl) ?_
        refine lv_bipush (v := 40) hx hb dX2_read_68 (by decide) ?_
        refine W.cut (I := fun H locs g => ∃ (ls : Array Slot), va_P (dC, dI) classes [(h0, .inr (2, [.ref rd])), (h3lo, .inl (kh3lo, 8, .inl f_281)), (h3sa, .inl (kh3sa, 8, .inl f_282)), (h3ea, .inl (kh3ea, 8, .inl f_283)), (h3, .inr (1, [.int (yy_284 2), .int (yy_284 3), .int (yy_284 4), .ref h3lo, .ref h3sa, .ref h3ea, .ref h3cl])), (h3cl, .inl (kh3cl, 8, .inl f_285)), (rd, .inr (7, [.ref tp, .int (yy_251 0), .int (yy_496 0), .int (yy_284 1)])), (tp, .inl (ktp, 400, .inl gtp))] H ∧ va_D A [(h0, .inr (2, [.ref rd])), (h3lo, .inl (kh3lo, 8, .inl f_281)), (h3sa, .inl (kh3sa, 8, .inl f_282)), (h3ea, .inl (kh3ea, 8, .inl f_283)), (h3, .inr (1, [.int (yy_284 2), .int (yy_284 3), .int (yy_284 4), .ref h3lo, .ref h3sa, .ref h3ea, .ref h3cl])), (h3cl, .inl (kh3cl, 8, .inl f_285)), (rd, .inr (7, [.ref tp, .int (yy_251 0), .int (yy_496 0), .int (yy_284 1)])), (tp, .inl (ktp, 400, .inl gtp))] ∧ va_S A s.heap H locs ∧ lv_has ls 6 [(4, .int y_280), (0, .ref h0), (3, .ref h3)] ∧ g = F0 m 84 ls []) (fun H locs g h => ?_) (fun hJ84 => ?_)
        · obtain ⟨ls, hP, hD, hS, hl, rfl⟩ := h
          refine lv_aload_n hx hb dX2_read_84 rfl (lv_at hl 1 rfl) ?_
          refine va_get (D := (dC, dI)) (ci := 2) (v := .ref rd) (C := RX2) (T := TX2) (N := 1) hx hb hq inX2 hown hK hP 0 rfl rfl 0 (by decide) (hq _ qw_177) (fun _ h9 => h9) rfl dX2_read_85 ?_
          refine lv_aload_n hx hb dX2_read_88 rfl (lv_at hl 1 rfl) ?_
          refine va_get (D := (dC, dI)) (ci := 2) (v := .ref rd) (C := RX2) (T := TX2) (N := 1) hx hb hq inX2 hown hK hP 0 rfl rfl 0 (by decide) (hq _ qw_177) (fun _ h9 => h9) rfl dX2_read_89 ?_
          refine va_get (D := (dC, dI)) (ci := 7) (v := .int (yy_496 0)) (C := RX7) (T := TX7) (N := 4) hx hb hq inX7 hown hK hP 6 rfl rfl 2 (by decide) (hq _ qw_162) (fun _ h9 => h9) rfl dX2_read_92 ?_
          refine lv_iconst (v := 4) hx hb dX2_read_95 (by decide) ?_
          have hPc := hP.sub (ws' := [(rd, .inr (7, [.ref tp, .int (yy_251 0), .int (yy_496 0), .int (yy_284 1)]))]) [6] rfl
          have hDc := hD.sub (ws' := [(rd, .inr (7, [.ref tp, .int (yy_251 0), .int (yy_496 0), .int (yy_284 1)]))]) [6] (by decide) rfl
          have hKc := hK.sub (tys' := []) [] rfl
          have hFc := va_free (wc := [(rd, .inr (7, [.ref tp, .int (yy_251 0), .int (yy_496 0), .int (yy_284 1)]))]) hD hS hA [6] rfl
          refine va_callv (va_runV (As := [.int (yy_496 0), .int 4]) (rest := []) ⟨hx, hb, hml, hown, hq⟩ (rd_blame l dC dI _ rd tp (yy_251 0) (yy_496 0) (yy_284 1) (yy_496 0) 4 ) (cwV 2 hq (gV qw_602 qw_603 qw_604 qw_121 qw_605) rfl rfl rfl (by decide +kernel) ⟨Nat.le_of_ble_eq_true rfl, Nat.le_of_ble_eq_true rfl⟩) ⟨fun a U g mk q => by obtain ⟨q0, q1, qP, qK, qD, qE⟩ := q; exact ⟨q0, q1, qP, va_K.moved (u := U) (U := U.calling g mk a) (Vm.Alike.refl U.vm) qK, qD, xE.same rfl qE⟩, va_recv hKc hPc (ci := 7) (q0 := 0) rfl rfl, fun U hU hW => ⟨rfl, by rw [hU], by rw [hU]; exact hPc, va_K.moved hW.alike hKc, hDc.weaken (fun _ _ _ _ => trivial), xE.warm hW hE⟩⟩ rfl rfl hl.1 rfl (lv_room (Nat.le_of_ble_eq_true rfl)) dX2_read_96 ⟨Nat.le_of_ble_eq_true rfl, Nat.le_of_ble_eq_true rfl⟩) hS (fun q _ h => hFc q h) hFc (fun u t H1 locs ht hvm hw hB hz1 hk1 hS => ?_)
          obtain ⟨yy_544, hP1, hK1, hD1⟩ := hB
          rw [ht] at hP1
          obtain ⟨hP, hD⟩ := va_join (wr := [(h0, .inr (2, [.ref rd])), (h3lo, .inl (kh3lo, 8, .inl f_281)), (h3sa, .inl (kh3sa, 8, .inl f_282)), (h3ea, .inl (kh3ea, 8, .inl f_283)), (h3, .inr (1, [.int (yy_284 2), .int (yy_284 3), .int (yy_284 4), .ref h3lo, .ref h3sa, .ref h3ea, .ref h3cl])), (h3cl, .inl (kh3cl, 8, .inl f_285)), (tp, .inl (ktp, 400, .inl gtp))]) (w1 := [(rd, .inr (7, [.ref tp, .int (yy_251 0), .int (yy_496 0), .int (yy_544 0)]))]) hP hD [6] [0, 1, 2, 3, 4, 5, 7] rfl rfl (by decide) (by decide) hk1 hFc hP1 hD1
          generalize H1 = H at hP hS ⊢
          have hP : va_P (dC, dI) classes [(h0, .inr (2, [.ref rd])), (h3lo, .inl (kh3lo, 8, .inl f_281)), (h3sa, .inl (kh3sa, 8, .inl f_282)), (h3ea, .inl (kh3ea, 8, .inl f_283)), (h3, .inr (1, [.int (yy_284 2), .int (yy_284 3), .int (yy_284 4), .ref h3lo, .ref h3sa, .ref h3ea, .ref h3cl])), (h3cl, .inl (kh3cl, 8, .inl f_285)), (tp, .inl (ktp, 400, .inl gtp)), (rd, .inr (7, [.ref tp, .int (yy_251 0), .int (yy_496 0), .int (yy_544 0)]))] H := hP
          have hD : va_D A [(h0, .inr (2, [.ref rd])), (h3lo, .inl (kh3lo, 8, .inl f_281)), (h3sa, .inl (kh3sa, 8, .inl f_282)), (h3ea, .inl (kh3ea, 8, .inl f_283)), (h3, .inr (1, [.int (yy_284 2), .int (yy_284 3), .int (yy_284 4), .ref h3lo, .ref h3sa, .ref h3ea, .ref h3cl])), (h3cl, .inl (kh3cl, 8, .inl f_285)), (tp, .inl (ktp, 400, .inl gtp)), (rd, .inr (7, [.ref tp, .int (yy_251 0), .int (yy_496 0), .int (yy_544 0)]))] := hD
          refine lv_goto (tgt := 116) hx hb dX2_read_99 (by decide) ?_
          exact hJ116 _ _ _ ⟨f_281, f_282, f_283, f_285, (fun i => [(yy_496 0), (yy_544 0), (yy_284 2), (yy_284 3), (yy_284 4)].getD i 0), _, (hP.sub (ws' := [(h0, .inr (2, [.ref rd])), (h3lo, .inl (kh3lo, 8, .inl f_281)), (h3sa, .inl (kh3sa, 8, .inl f_282)), (h3ea, .inl (kh3ea, 8, .inl f_283)), (h3, .inr (1, [.int (yy_284 2), .int (yy_284 3), .int (yy_284 4), .ref h3lo, .ref h3sa, .ref h3ea, .ref h3cl])), (h3cl, .inl (kh3cl, 8, .inl f_285)), (rd, .inr (7, [.ref tp, .int (yy_251 0), .int (yy_496 0), .int (yy_544 0)])), (tp, .inl (ktp, 400, .inl gtp))]) [0, 1, 2, 3, 4, 5, 7, 6] rfl), (hD.sub (ws' := [(h0, .inr (2, [.ref rd])), (h3lo, .inl (kh3lo, 8, .inl f_281)), (h3sa, .inl (kh3sa, 8, .inl f_282)), (h3ea, .inl (kh3ea, 8, .inl f_283)), (h3, .inr (1, [.int (yy_284 2), .int (yy_284 3), .int (yy_284 4), .ref h3lo, .ref h3sa, .ref h3ea, .ref h3cl])), (h3cl, .inl (kh3cl, 8, .inl f_285)), (rd, .inr (7, [.ref tp, .int (yy_251 0), .int (yy_496 0), .int (yy_544 0)])), (tp, .inl (ktp, 400, .inl gtp))]) [0, 1, 2, 3, 4, 5, 7, 6] (by decide) rfl), hS, hl, rfl⟩
        refine lv_icmp_eq (tgt := 84) hx hb dX2_read_70 (by decide) (fun c_545 => ?_) (fun c_545 => ?_)
        · exact hJ84 _ _ _ ⟨_, hP, hD, hS, (lv_sub hl [1, 2, 3] rfl), rfl⟩
        · refine lv_iload hx hb dX2_read_73 (lv_at hl 0 rfl) ?_
          refine lv_iload hx hb dX2_read_75 (lv_at hl 1 rfl) ?_
          refine lv_aload_n hx hb dX2_read_77 rfl (lv_at hl 3 rfl) ?_
          have hPc := hP.sub (ws' := [(h3, .inr (1, [.int (yy_284 2), .int (yy_284 3), .int (yy_284 4), .ref h3lo, .ref h3sa, .ref h3ea, .ref h3cl]))]) [4] rfl
          have hDc := hD.sub (ws' := [(h3, .inr (1, [.int (yy_284 2), .int (yy_284 3), .int (yy_284 4), .ref h3lo, .ref h3sa, .ref h3ea, .ref h3cl]))]) [4] (by decide) rfl
          have hKc := hK.sub (tys' := []) [] rfl
          have hFc := va_free (wc := [(h3, .inr (1, [.int (yy_284 2), .int (yy_284 3), .int (yy_284 4), .ref h3lo, .ref h3sa, .ref h3ea, .ref h3cl]))]) hD hS hA [4] rfl
          refine va_calli (va_runS (As := [.int r_497, .int y_280, .ref h3]) (rest := []) ⟨hx, hb, hml, hown, hq⟩ (dr_may l dC dI _ h3 (yy_284 2) (yy_284 3) (yy_284 4) h3lo h3sa h3ea h3cl r_497 y_280 ) (cwS 3 hq (gS qw_606 qw_607 qw_120 qw_608) rfl rfl rfl (by decide +kernel) ⟨Nat.le_of_ble_eq_true rfl, Nat.le_of_ble_eq_true rfl⟩) ⟨fun a U g mk q => by obtain ⟨q0, q1, qP, qK, qD, qE⟩ := q; exact ⟨q0, q1, qP, va_K.moved (u := U) (U := U.calling g mk a) (Vm.Alike.refl U.vm) qK, qD, xE.same rfl qE⟩, fun U hU hW => ⟨rfl, by rw [hU], by rw [hU]; exact hPc, va_K.moved hW.alike hKc, hDc.weaken (fun _ _ _ _ => trivial), xE.warm hW hE⟩⟩ rfl rfl hl.1 rfl (lv_room (Nat.le_of_ble_eq_true rfl)) dX2_read_78 ⟨Nat.le_of_ble_eq_true rfl, Nat.le_of_ble_eq_true rfl⟩) hS (fun q _ h => hFc q h) hFc (fun r_546 u t H1 locs ht hvm hw hB hz1 hk1 hS => ?_)
          obtain ⟨hP1, hK1, hD1⟩ := hB
          rw [ht] at hP1
          obtain ⟨hP, hD⟩ := va_join (wr := [(h0, .inr (2, [.ref rd])), (h3lo, .inl (kh3lo, 8, .inl f_281)), (h3sa, .inl (kh3sa, 8, .inl f_282)), (h3ea, .inl (kh3ea, 8, .inl f_283)), (h3cl, .inl (kh3cl, 8, .inl f_285)), (rd, .inr (7, [.ref tp, .int (yy_251 0), .int (yy_496 0), .int (yy_284 1)])), (tp, .inl (ktp, 400, .inl gtp))]) (w1 := [(h3, .inr (1, [.int (yy_284 2), .int (yy_284 3), .int (yy_284 4), .ref h3lo, .ref h3sa, .ref h3ea, .ref h3cl]))]) hP hD [4] [0, 1, 2, 3, 5, 6, 7] rfl rfl (by decide) (by decide) hk1 hFc hP1 hD1
          generalize H1 = H at hP hS ⊢
          have hP : va_P (dC, dI) classes [(h0, .inr (2, [.ref rd])), (h3lo, .inl (kh3lo, 8, .inl f_281)), (h3sa, .inl (kh3sa, 8, .inl f_282)), (h3ea, .inl (kh3ea, 8, .inl f_283)), (h3cl, .inl (kh3cl, 8, .inl f_285)), (rd, .inr (7, [.ref tp, .int (yy_251 0), .int (yy_496 0), .int (yy_284 1)])), (tp, .inl (ktp, 400, .inl gtp)), (h3, .inr (1, [.int (yy_284 2), .int (yy_284 3), .int (yy_284 4), .ref h3lo, .ref h3sa, .ref h3ea, .ref h3cl]))] H := hP
          have hD : va_D A [(h0, .inr (2, [.ref rd])), (h3lo, .inl (kh3lo, 8, .inl f_281)), (h3sa, .inl (kh3sa, 8, .inl f_282)), (h3ea, .inl (kh3ea, 8, .inl f_283)), (h3cl, .inl (kh3cl, 8, .inl f_285)), (rd, .inr (7, [.ref tp, .int (yy_251 0), .int (yy_496 0), .int (yy_284 1)])), (tp, .inl (ktp, 400, .inl gtp)), (h3, .inr (1, [.int (yy_284 2), .int (yy_284 3), .int (yy_284 4), .ref h3lo, .ref h3sa, .ref h3ea, .ref h3cl]))] := hD
          refine lv_if_ne (tgt := 102) hx hb dX2_read_81 (by decide) (fun c_547 => ?_) (fun c_547 => ?_)
          · refine lv_aload_n hx hb dX2_read_102 rfl (lv_at hl 2 rfl) ?_
            refine va_get (D := (dC, dI)) (ci := 2) (v := .ref rd) (C := RX2) (T := TX2) (N := 1) hx hb hq inX2 hown hK hP 0 rfl rfl 0 (by decide) (hq _ qw_177) (fun _ h9 => h9) rfl dX2_read_103 ?_
            have hPc := hP.sub (ws' := [(rd, .inr (7, [.ref tp, .int (yy_251 0), .int (yy_496 0), .int (yy_284 1)])), (tp, .inl (ktp, 400, .inl gtp))]) [5, 6] rfl
            have hDc := hD.sub (ws' := [(rd, .inr (7, [.ref tp, .int (yy_251 0), .int (yy_496 0), .int (yy_284 1)])), (tp, .inl (ktp, 400, .inl gtp))]) [5, 6] (by decide) rfl
            have hKc := hK.sub (tys' := [(ktp, .int)]) [0] rfl
            have hFc := va_free (wc := [(rd, .inr (7, [.ref tp, .int (yy_251 0), .int (yy_496 0), .int (yy_284 1)])), (tp, .inl (ktp, 400, .inl gtp))]) hD hS hA [5, 6] rfl
            refine va_callv (va_runV (As := []) (rest := []) ⟨hx, hb, hml, hown, hq⟩ (rd_skipWord l dC dI _ rd tp (yy_251 0) (yy_496 0) (yy_284 1) ktp gtp ) (cwV 0 hq (gV qw_609 qw_610 qw_611 qw_121 qw_612) rfl rfl rfl (by decide +kernel) ⟨Nat.le_of_ble_eq_true rfl, Nat.le_of_ble_eq_true rfl⟩) ⟨fun a U g mk q => by obtain ⟨q0, q1, qP, qK, qD, qE⟩ := q; exact ⟨q0, q1, qP, va_K.moved (u := U) (U := U.calling g mk a) (Vm.Alike.refl U.vm) qK, qD, xE.same rfl qE⟩, va_recv hKc hPc (ci := 7) (q0 := 0) rfl rfl, fun U hU hW => ⟨rfl, by rw [hU], by rw [hU]; exact hPc, va_K.moved hW.alike hKc, hDc.weaken (fun _ _ _ _ => trivial), xE.warm hW hE⟩⟩ rfl rfl hl.1 rfl (lv_room (Nat.le_of_ble_eq_true rfl)) dX2_read_106 ⟨Nat.le_of_ble_eq_true rfl, Nat.le_of_ble_eq_true rfl⟩) hS (fun q _ h => hFc q h) hFc (fun u t H1 locs ht hvm hw hB hz1 hk1 hS => ?_)
            obtain ⟨yy_549, hP1, hK1, hD1⟩ := hB
            rw [ht] at hP1
            obtain ⟨hP, hD⟩ := va_join (wr := [(h0, .inr (2, [.ref rd])), (h3lo, .inl (kh3lo, 8, .inl f_281)), (h3sa, .inl (kh3sa, 8, .inl f_282)), (h3ea, .inl (kh3ea, 8, .inl f_283)), (h3cl, .inl (kh3cl, 8, .inl f_285)), (h3, .inr (1, [.int (yy_284 2), .int (yy_284 3), .int (yy_284 4), .ref h3lo, .ref h3sa, .ref h3ea, .ref h3cl]))]) (w1 := [(rd, .inr (7, [.ref tp, .int (yy_251 0), .int (yy_549 0), .int (yy_284 1)])), (tp, .inl (ktp, 400, .inl gtp))]) hP hD [5, 6] [0, 1, 2, 3, 4, 7] rfl rfl (by decide) (by decide) hk1 hFc hP1 hD1
            generalize H1 = H at hP hS ⊢
            have hP : va_P (dC, dI) classes [(h0, .inr (2, [.ref rd])), (h3lo, .inl (kh3lo, 8, .inl f_281)), (h3sa, .inl (kh3sa, 8, .inl f_282)), (h3ea, .inl (kh3ea, 8, .inl f_283)), (h3cl, .inl (kh3cl, 8, .inl f_285)), (h3, .inr (1, [.int (yy_284 2), .int (yy_284 3), .int (yy_284 4), .ref h3lo, .ref h3sa, .ref h3ea, .ref h3cl])), (rd, .inr (7, [.ref tp, .int (yy_251 0), .int (yy_549 0), .int (yy_284 1)])), (tp, .inl (ktp, 400, .inl gtp))] H := hP
            have hD : va_D A [(h0, .inr (2, [.ref rd])), (h3lo, .inl (kh3lo, 8, .inl f_281)), (h3sa, .inl (kh3sa, 8, .inl f_282)), (h3ea, .inl (kh3ea, 8, .inl f_283)), (h3cl, .inl (kh3cl, 8, .inl f_285)), (h3, .inr (1, [.int (yy_284 2), .int (yy_284 3), .int (yy_284 4), .ref h3lo, .ref h3sa, .ref h3ea, .ref h3cl])), (rd, .inr (7, [.ref tp, .int (yy_251 0), .int (yy_549 0), .int (yy_284 1)])), (tp, .inl (ktp, 400, .inl gtp))] := hD
            refine lv_aload_n hx hb dX2_read_109 rfl (lv_at hl 2 rfl) ?_
            refine lv_iload hx hb dX2_read_110 (lv_at hl 0 rfl) ?_
            refine lv_aload_n hx hb dX2_read_112 rfl (lv_at hl 3 rfl) ?_
            have hPc := hP.sub (ws' := [(h0, .inr (2, [.ref rd])), (rd, .inr (7, [.ref tp, .int (yy_251 0), .int (yy_549 0), .int (yy_284 1)])), (tp, .inl (ktp, 400, .inl gtp)), (h3, .inr (1, [.int (yy_284 2), .int (yy_284 3), .int (yy_284 4), .ref h3lo, .ref h3sa, .ref h3ea, .ref h3cl])), (h3lo, .inl (kh3lo, 8, .inl f_281)), (h3sa, .inl (kh3sa, 8, .inl f_282)), (h3ea, .inl (kh3ea, 8, .inl f_283)), (h3cl, .inl (kh3cl, 8, .inl f_285))]) [0, 6, 7, 5, 1, 2, 3, 4] rfl
            have hDc := hD.sub (ws' := [(h0, .inr (2, [.ref rd])), (rd, .inr (7, [.ref tp, .int (yy_251 0), .int (yy_549 0), .int (yy_284 1)])), (tp, .inl (ktp, 400, .inl gtp)), (h3, .inr (1, [.int (yy_284 2), .int (yy_284 3), .int (yy_284 4), .ref h3lo, .ref h3sa, .ref h3ea, .ref h3cl])), (h3lo, .inl (kh3lo, 8, .inl f_281)), (h3sa, .inl (kh3sa, 8, .inl f_282)), (h3ea, .inl (kh3ea, 8, .inl f_283)), (h3cl, .inl (kh3cl, 8, .inl f_285))]) [0, 6, 7, 5, 1, 2, 3, 4] (by decide) rfl
            have hKc := hK.sub (tys' := [(ktp, .int), (kh3lo, .int), (kh3sa, .int), (kh3ea, .int), (kh3cl, .int)]) [0, 1, 2, 3, 4] rfl
            have hFc := va_free (wc := [(h0, .inr (2, [.ref rd])), (rd, .inr (7, [.ref tp, .int (yy_251 0), .int (yy_549 0), .int (yy_284 1)])), (tp, .inl (ktp, 400, .inl gtp)), (h3, .inr (1, [.int (yy_284 2), .int (yy_284 3), .int (yy_284 4), .ref h3lo, .ref h3sa, .ref h3ea, .ref h3cl])), (h3lo, .inl (kh3lo, 8, .inl f_281)), (h3sa, .inl (kh3sa, 8, .inl f_282)), (h3ea, .inl (kh3ea, 8, .inl f_283)), (h3cl, .inl (kh3cl, 8, .inl f_285))]) hD hS hA [0, 6, 7, 5, 1, 2, 3, 4] rfl
            refine va_callv (va_runV (As := [.int r_497, .ref h3]) (rest := []) ⟨hx, hb, hml, hown, hq⟩ (dr_numbers l dC dI _ h0 rd tp (yy_251 0) (yy_549 0) (yy_284 1) ktp gtp h3 (yy_284 2) (yy_284 3) (yy_284 4) h3lo h3sa h3ea h3cl kh3lo f_281 kh3sa f_282 kh3ea f_283 kh3cl f_285 r_497 ) (cwV 2 hq (gV qw_613 qw_615 qw_2 qw_120 qw_616) rfl rfl rfl (by decide +kernel) ⟨Nat.le_of_ble_eq_true rfl, Nat.le_of_ble_eq_true rfl⟩) ⟨fun a U g mk q => by obtain ⟨q0, q1, qP, qK, qD, qE⟩ := q; exact ⟨q0, q1, qP, va_K.moved (u := U) (U := U.calling g mk a) (Vm.Alike.refl U.vm) qK, qD, xE.same rfl qE⟩, va_recv hKc hPc (ci := 2) (q0 := 0) rfl rfl, fun U hU hW => ⟨rfl, by rw [hU], by rw [hU]; exact hPc, va_K.moved hW.alike hKc, hDc.weaken (fun _ _ _ _ => trivial), xE.warm hW hE⟩⟩ rfl rfl hl.1 rfl (lv_room (Nat.le_of_ble_eq_true rfl)) dX2_read_113 ⟨Nat.le_of_ble_eq_true rfl, Nat.le_of_ble_eq_true rfl⟩) hS (fun q _ h => hFc q h) hFc (fun u t H1 locs ht hvm hw hB hz1 hk1 hS => ?_)
            obtain ⟨f_551, f_552, f_553, f_554, yy_555, hP1, hK1, hD1⟩ := hB
            rw [ht] at hP1
            obtain ⟨hP, hD⟩ := va_join (wr := []) (w1 := [(h0, .inr (2, [.ref rd])), (rd, .inr (7, [.ref tp, .int (yy_251 0), .int (yy_555 0), .int (yy_555 1)])), (tp, .inl (ktp, 400, .inl gtp)), (h3, .inr (1, [.int (yy_555 2), .int (yy_555 3), .int (yy_555 4), .ref h3lo, .ref h3sa, .ref h3ea, .ref h3cl])), (h3lo, .inl (kh3lo, 8, .inl f_551)), (h3sa, .inl (kh3sa, 8, .inl f_552)), (h3ea, .inl (kh3ea, 8, .inl f_553)), (h3cl, .inl (kh3cl, 8, .inl f_554))]) hP hD [0, 6, 7, 5, 1, 2, 3, 4] [] rfl rfl (by decide) (by decide) hk1 hFc hP1 hD1
            generalize H1 = H at hP hS ⊢
            have hP : va_P (dC, dI) classes [(h0, .inr (2, [.ref rd])), (rd, .inr (7, [.ref tp, .int (yy_251 0), .int (yy_555 0), .int (yy_555 1)])), (tp, .inl (ktp, 400, .inl gtp)), (h3, .inr (1, [.int (yy_555 2), .int (yy_555 3), .int (yy_555 4), .ref h3lo, .ref h3sa, .ref h3ea, .ref h3cl])), (h3lo, .inl (kh3lo, 8, .inl f_551)), (h3sa, .inl (kh3sa, 8, .inl f_552)), (h3ea, .inl (kh3ea, 8, .inl f_553)), (h3cl, .inl (kh3cl, 8, .inl f_554))] H := hP
            have hD : va_D A [(h0, .inr (2, [.ref rd])), (rd, .inr (7, [.ref tp, .int (yy_251 0), .int (yy_555 0), .int (yy_555 1)])), (tp, .inl (ktp, 400, .inl gtp)), (h3, .inr (1, [.int (yy_555 2), .int (yy_555 3), .int (yy_555 4), .ref h3lo, .ref h3sa, .ref h3ea, .ref h3cl])), (h3lo, .inl (kh3lo, 8, .inl f_551)), (h3sa, .inl (kh3sa, 8, .inl f_552)), (h3ea, .inl (kh3ea, 8, .inl f_553)), (h3cl, .inl (kh3cl, 8, .inl f_554))] := hD
            exact hJ116 _ _ _ ⟨f_551, f_552, f_553, f_554, (fun i => [(yy_555 0), (yy_555 1), (yy_555 2), (yy_555 3), (yy_555 4)].getD i 0), _, (hP.sub (ws' := [(h0, .inr (2, [.ref rd])), (h3lo, .inl (kh3lo, 8, .inl f_551)), (h3sa, .inl (kh3sa, 8, .inl f_552)), (h3ea, .inl (kh3ea, 8, .inl f_553)), (h3, .inr (1, [.int (yy_555 2), .int (yy_555 3), .int (yy_555 4), .ref h3lo, .ref h3sa, .ref h3ea, .ref h3cl])), (h3cl, .inl (kh3cl, 8, .inl f_554)), (rd, .inr (7, [.ref tp, .int (yy_251 0), .int (yy_555 0), .int (yy_555 1)])), (tp, .inl (ktp, 400, .inl gtp))]) [0, 4, 5, 6, 3, 7, 1, 2] rfl), (hD.sub (ws' := [(h0, .inr (2, [.ref rd])), (h3lo, .inl (kh3lo, 8, .inl f_551)), (h3sa, .inl (kh3sa, 8, .inl f_552)), (h3ea, .inl (kh3ea, 8, .inl f_553)), (h3, .inr (1, [.int (yy_555 2), .int (yy_555 3), .int (yy_555 4), .ref h3lo, .ref h3sa, .ref h3ea, .ref h3cl])), (h3cl, .inl (kh3cl, 8, .inl f_554)), (rd, .inr (7, [.ref tp, .int (yy_251 0), .int (yy_555 0), .int (yy_555 1)])), (tp, .inl (ktp, 400, .inl gtp))]) [0, 4, 5, 6, 3, 7, 1, 2] (by decide) rfl), hS, (lv_sub hl [1, 2, 3] rfl), rfl⟩
          · exact hJ84 _ _ _ ⟨_, (hP.sub (ws' := [(h0, .inr (2, [.ref rd])), (h3lo, .inl (kh3lo, 8, .inl f_281)), (h3sa, .inl (kh3sa, 8, .inl f_282)), (h3ea, .inl (kh3ea, 8, .inl f_283)), (h3, .inr (1, [.int (yy_284 2), .int (yy_284 3), .int (yy_284 4), .ref h3lo, .ref h3sa, .ref h3ea, .ref h3cl])), (h3cl, .inl (kh3cl, 8, .inl f_285)), (rd, .inr (7, [.ref tp, .int (yy_251 0), .int (yy_496 0), .int (yy_284 1)])), (tp, .inl (ktp, 400, .inl gtp))]) [0, 1, 2, 3, 7, 4, 5, 6] rfl), (hD.sub (ws' := [(h0, .inr (2, [.ref rd])), (h3lo, .inl (kh3lo, 8, .inl f_281)), (h3sa, .inl (kh3sa, 8, .inl f_282)), (h3ea, .inl (kh3ea, 8, .inl f_283)), (h3, .inr (1, [.int (yy_284 2), .int (yy_284 3), .int (yy_284 4), .ref h3lo, .ref h3sa, .ref h3ea, .ref h3cl])), (h3cl, .inl (kh3cl, 8, .inl f_285)), (rd, .inr (7, [.ref tp, .int (yy_251 0), .int (yy_496 0), .int (yy_284 1)])), (tp, .inl (ktp, 400, .inl gtp))]) [0, 1, 2, 3, 7, 4, 5, 6] (by decide) rfl), hS, (lv_sub hl [1, 2, 3] rfl), rfl⟩
      · refine lv_aload_n hx hb dX2_read_48 rfl (lv_at hl 2 rfl) ?_
        refine va_get (D := (dC, dI)) (ci := 2) (v := .ref rd) (C := RX2) (T := TX2) (N := 1) hx hb hq inX2 hown hK hP 0 rfl rfl 0 (by decide) (hq _ qw_177) (fun _ h9 => h9) rfl dX2_read_49 ?_
        refine lv_aload_n hx hb dX2_read_52 rfl (lv_at hl 2 rfl) ?_
        refine va_get (D := (dC, dI)) (ci := 2) (v := .ref rd) (C := RX2) (T := TX2) (N := 1) hx hb hq inX2 hown hK hP 0 rfl rfl 0 (by decide) (hq _ qw_177) (fun _ h9 => h9) rfl dX2_read_53 ?_
        refine va_get (D := (dC, dI)) (ci := 7) (v := .int (yy_496 0)) (C := RX7) (T := TX7) (N := 4) hx hb hq inX7 hown hK hP 6 rfl rfl 2 (by decide) (hq _ qw_162) (fun _ h9 => h9) rfl dX2_read_56 ?_
        refine lv_iconst (v := 0) hx hb dX2_read_59 (by decide) ?_
        have hPc := hP.sub (ws' := [(rd, .inr (7, [.ref tp, .int (yy_251 0), .int (yy_496 0), .int (yy_284 1)]))]) [6] rfl
        have hDc := hD.sub (ws' := [(rd, .inr (7, [.ref tp, .int (yy_251 0), .int (yy_496 0), .int (yy_284 1)]))]) [6] (by decide) rfl
        have hKc := hK.sub (tys' := []) [] rfl
        have hFc := va_free (wc := [(rd, .inr (7, [.ref tp, .int (yy_251 0), .int (yy_496 0), .int (yy_284 1)]))]) hD hS hA [6] rfl
        refine va_callv (va_runV (As := [.int (yy_496 0), .int 0]) (rest := []) ⟨hx, hb, hml, hown, hq⟩ (rd_blame l dC dI _ rd tp (yy_251 0) (yy_496 0) (yy_284 1) (yy_496 0) 0 ) (cwV 2 hq (gV qw_602 qw_603 qw_604 qw_121 qw_605) rfl rfl rfl (by decide +kernel) ⟨Nat.le_of_ble_eq_true rfl, Nat.le_of_ble_eq_true rfl⟩) ⟨fun a U g mk q => by obtain ⟨q0, q1, qP, qK, qD, qE⟩ := q; exact ⟨q0, q1, qP, va_K.moved (u := U) (U := U.calling g mk a) (Vm.Alike.refl U.vm) qK, qD, xE.same rfl qE⟩, va_recv hKc hPc (ci := 7) (q0 := 0) rfl rfl, fun U hU hW => ⟨rfl, by rw [hU], by rw [hU]; exact hPc, va_K.moved hW.alike hKc, hDc.weaken (fun _ _ _ _ => trivial), xE.warm hW hE⟩⟩ rfl rfl hl.1 rfl (lv_room (Nat.le_of_ble_eq_true rfl)) dX2_read_60 ⟨Nat.le_of_ble_eq_true rfl, Nat.le_of_ble_eq_true rfl⟩) hS (fun q _ h => hFc q h) hFc (fun u t H1 locs ht hvm hw hB hz1 hk1 hS => ?_)
        obtain ⟨yy_557, hP1, hK1, hD1⟩ := hB
        rw [ht] at hP1
        obtain ⟨hP, hD⟩ := va_join (wr := [(h0, .inr (2, [.ref rd])), (h3lo, .inl (kh3lo, 8, .inl f_281)), (h3sa, .inl (kh3sa, 8, .inl f_282)), (h3ea, .inl (kh3ea, 8, .inl f_283)), (h3, .inr (1, [.int (yy_284 2), .int (yy_284 3), .int (yy_284 4), .ref h3lo, .ref h3sa, .ref h3ea, .ref h3cl])), (h3cl, .inl (kh3cl, 8, .inl f_285)), (tp, .inl (ktp, 400, .inl gtp))]) (w1 := [(rd, .inr (7, [.ref tp, .int (yy_251 0), .int (yy_496 0), .int (yy_557 0)]))]) hP hD [6] [0, 1, 2, 3, 4, 5, 7] rfl rfl (by decide) (by decide) hk1 hFc hP1 hD1
        generalize H1 = H at hP hS ⊢
        have hP : va_P (dC, dI) classes [(h0, .inr (2, [.ref rd])), (h3lo, .inl (kh3lo, 8, .inl f_281)), (h3sa, .inl (kh3sa, 8, .inl f_282)), (h3ea, .inl (kh3ea, 8, .inl f_283)), (h3, .inr (1, [.int (yy_284 2), .int (yy_284 3), .int (yy_284 4), .ref h3lo, .ref h3sa, .ref h3ea, .ref h3cl])), (h3cl, .inl (kh3cl, 8, .inl f_285)), (tp, .inl (ktp, 400, .inl gtp)), (rd, .inr (7, [.ref tp, .int (yy_251 0), .int (yy_496 0), .int (yy_557 0)]))] H := hP
        have hD : va_D A [(h0, .inr (2, [.ref rd])), (h3lo, .inl (kh3lo, 8, .inl f_281)), (h3sa, .inl (kh3sa, 8, .inl f_282)), (h3ea, .inl (kh3ea, 8, .inl f_283)), (h3, .inr (1, [.int (yy_284 2), .int (yy_284 3), .int (yy_284 4), .ref h3lo, .ref h3sa, .ref h3ea, .ref h3cl])), (h3cl, .inl (kh3cl, 8, .inl f_285)), (tp, .inl (ktp, 400, .inl gtp)), (rd, .inr (7, [.ref tp, .int (yy_251 0), .int (yy_496 0), .int (yy_557 0)]))] := hD
        refine lv_goto (tgt := 116) hx hb dX2_read_63 (by decide) ?_
        exact hJ116 _ _ _ ⟨f_281, f_282, f_283, f_285, (fun i => [(yy_496 0), (yy_557 0), (yy_284 2), (yy_284 3), (yy_284 4)].getD i 0), _, (hP.sub (ws' := [(h0, .inr (2, [.ref rd])), (h3lo, .inl (kh3lo, 8, .inl f_281)), (h3sa, .inl (kh3sa, 8, .inl f_282)), (h3ea, .inl (kh3ea, 8, .inl f_283)), (h3, .inr (1, [.int (yy_284 2), .int (yy_284 3), .int (yy_284 4), .ref h3lo, .ref h3sa, .ref h3ea, .ref h3cl])), (h3cl, .inl (kh3cl, 8, .inl f_285)), (rd, .inr (7, [.ref tp, .int (yy_251 0), .int (yy_496 0), .int (yy_557 0)])), (tp, .inl (ktp, 400, .inl gtp))]) [0, 1, 2, 3, 4, 5, 7, 6] rfl), (hD.sub (ws' := [(h0, .inr (2, [.ref rd])), (h3lo, .inl (kh3lo, 8, .inl f_281)), (h3sa, .inl (kh3sa, 8, .inl f_282)), (h3ea, .inl (kh3ea, 8, .inl f_283)), (h3, .inr (1, [.int (yy_284 2), .int (yy_284 3), .int (yy_284 4), .ref h3lo, .ref h3sa, .ref h3ea, .ref h3cl])), (h3cl, .inl (kh3cl, 8, .inl f_285)), (rd, .inr (7, [.ref tp, .int (yy_251 0), .int (yy_496 0), .int (yy_557 0)])), (tp, .inl (ktp, 400, .inl gtp))]) [0, 1, 2, 3, 4, 5, 7, 6] (by decide) rfl), hS, (lv_sub hl [1, 2, 3] rfl), rfl⟩
