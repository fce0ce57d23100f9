theorem qw_943 : (.methodLink RL 90 yX11_knowing : Cond) ∈ wsA := mA (i := 943) (by decide +kernel) rfl
theorem qw_944 : (.instanceMethod yX11_knowing : Cond) ∈ wsA := mA (i := 944) (by decide +kernel) rfl
theorem qw_945 : (.selects RX11 yX11_knowing yX11_knowing : Cond) ∈ wsA := mA (i := 945) (by decide +kernel) rfl
theorem qw_946 : (.code yX11_knowing cX11_knowing 4 (some .int) : Cond) ∈ wsA := mA (i := 946) (by decide +kernel) rfl
theorem qw_947 : (.methodLink RL 94 yX11_bestRow : Cond) ∈ wsA := mA (i := 947) (by decide +kernel) rfl
theorem qw_948 : (.instanceMethod yX11_bestRow : Cond) ∈ wsA := mA (i := 948) (by decide +kernel) rfl
theorem qw_949 : (.selects RX11 yX11_bestRow yX11_bestRow : Cond) ∈ wsA := mA (i := 949) (by decide +kernel) rfl
theorem qw_950 : (.code yX11_bestRow cX11_bestRow 3 (some .int) : Cond) ∈ wsA := mA (i := 950) (by decide +kernel) rfl
theorem qw_1020 : (.methodLink RL 98 yX11_hush : Cond) ∈ wsA := mA (i := 1020) (by decide +kernel) rfl
theorem qw_1021 : (.instanceMethod yX11_hush : Cond) ∈ wsA := mA (i := 1021) (by decide +kernel) rfl
theorem qw_1022 : (.selects RX11 yX11_hush yX11_hush : Cond) ∈ wsA := mA (i := 1022) (by decide +kernel) rfl
theorem qw_1023 : (.code yX11_hush cX11_hush 3 (some .int) : Cond) ∈ wsA := mA (i := 1023) (by decide +kernel) rfl
theorem qw_1024 : (.methodLink RL 102 yX11_rows : Cond) ∈ wsA := mA (i := 1024) (by decide +kernel) rfl
theorem qw_1025 : (.instanceMethod yX11_rows : Cond) ∈ wsA := mA (i := 1025) (by decide +kernel) rfl
theorem qw_1026 : (.selects RX11 yX11_rows yX11_rows : Cond) ∈ wsA := mA (i := 1026) (by decide +kernel) rfl
theorem qw_1027 : (.code yX11_rows cX11_rows 2 (some .int) : Cond) ∈ wsA := mA (i := 1027) (by decide +kernel) rfl
theorem qw_1028 : (.methodLink RL 106 yX11_believed : Cond) ∈ wsA := mA (i := 1028) (by decide +kernel) rfl
theorem qw_1029 : (.instanceMethod yX11_believed : Cond) ∈ wsA := mA (i := 1029) (by decide +kernel) rfl
theorem qw_1030 : (.selects RX11 yX11_believed yX11_believed : Cond) ∈ wsA := mA (i := 1030) (by decide +kernel) rfl
theorem qw_1031 : (.code yX11_believed cX11_believed 6 (some .int) : Cond) ∈ wsA := mA (i := 1031) (by decide +kernel) rfl
theorem qw_1035 : (.methodLink RL 110 yX11_dropped : Cond) ∈ wsA := mA (i := 1035) (by decide +kernel) rfl
theorem qw_1036 : (.instanceMethod yX11_dropped : Cond) ∈ wsA := mA (i := 1036) (by decide +kernel) rfl
theorem qw_1037 : (.selects RX11 yX11_dropped yX11_dropped : Cond) ∈ wsA := mA (i := 1037) (by decide +kernel) rfl
theorem qw_1038 : (.code yX11_dropped cX11_dropped 6 (some .int) : Cond) ∈ wsA := mA (i := 1038) (by decide +kernel) rfl
theorem qw_1039 : (.methodLink RL 114 yX11_leftOut : Cond) ∈ wsA := mA (i := 1039) (by decide +kernel) rfl
theorem qw_1040 : (.instanceMethod yX11_leftOut : Cond) ∈ wsA := mA (i := 1040) (by decide +kernel) rfl
theorem qw_1041 : (.selects RX11 yX11_leftOut yX11_leftOut : Cond) ∈ wsA := mA (i := 1041) (by decide +kernel) rfl
theorem qw_1042 : (.code yX11_leftOut cX11_leftOut 9 (some .int) : Cond) ∈ wsA := mA (i := 1042) (by decide +kernel) rfl
theorem qw_1048 : (.methodLink RL 118 yX11_rests : Cond) ∈ wsA := mA (i := 1048) (by decide +kernel) rfl
theorem qw_1049 : (.instanceMethod yX11_rests : Cond) ∈ wsA := mA (i := 1049) (by decide +kernel) rfl
theorem qw_1050 : (.selects RX11 yX11_rests yX11_rests : Cond) ∈ wsA := mA (i := 1050) (by decide +kernel) rfl
theorem qw_1051 : (.code yX11_rests cX11_rests 8 (some .int) : Cond) ∈ wsA := mA (i := 1051) (by decide +kernel) rfl
theorem qw_1068 : (.methodLink RL 123 yX11_crumbs : Cond) ∈ wsA := mA (i := 1068) (by decide +kernel) rfl
theorem qw_1069 : (.instanceMethod yX11_crumbs : Cond) ∈ wsA := mA (i := 1069) (by decide +kernel) rfl
theorem qw_1070 : (.selects RX11 yX11_crumbs yX11_crumbs : Cond) ∈ wsA := mA (i := 1070) (by decide +kernel) rfl
theorem qw_1071 : (.code yX11_crumbs cX11_crumbs 9 (some .int) : Cond) ∈ wsA := mA (i := 1071) (by decide +kernel) rfl
theorem qw_1076 : (.methodLink RL 127 yX11_loudest : Cond) ∈ wsA := mA (i := 1076) (by decide +kernel) rfl
theorem qw_1077 : (.instanceMethod yX11_loudest : Cond) ∈ wsA := mA (i := 1077) (by decide +kernel) rfl
theorem qw_1078 : (.selects RX11 yX11_loudest yX11_loudest : Cond) ∈ wsA := mA (i := 1078) (by decide +kernel) rfl
theorem qw_1079 : (.code yX11_loudest cX11_loudest 6 (some .int) : Cond) ∈ wsA := mA (i := 1079) (by decide +kernel) rfl
theorem qw_1080 : (.methodLink RL 131 yX11_note : Cond) ∈ wsA := mA (i := 1080) (by decide +kernel) rfl
theorem qw_1081 : (.instanceMethod yX11_note : Cond) ∈ wsA := mA (i := 1081) (by decide +kernel) rfl
theorem qw_1082 : (.selects RX11 yX11_note yX11_note : Cond) ∈ wsA := mA (i := 1082) (by decide +kernel) rfl
theorem qw_1083 : (.code yX11_note cX11_note 5 (some .int) : Cond) ∈ wsA := mA (i := 1083) (by decide +kernel) rfl
theorem qw_1088 : (.methodLink RL 135 yX11_ruled : Cond) ∈ wsA := mA (i := 1088) (by decide +kernel) rfl
theorem qw_1089 : (.instanceMethod yX11_ruled : Cond) ∈ wsA := mA (i := 1089) (by decide +kernel) rfl
theorem qw_1090 : (.selects RX11 yX11_ruled yX11_ruled : Cond) ∈ wsA := mA (i := 1090) (by decide +kernel) rfl
theorem qw_1091 : (.code yX11_ruled cX11_ruled 5 (some .int) : Cond) ∈ wsA := mA (i := 1091) (by decide +kernel) rfl
theorem qw_1097 : (.methodLink RL 139 yX11_look : Cond) ∈ wsA := mA (i := 1097) (by decide +kernel) rfl
theorem qw_1098 : (.instanceMethod yX11_look : Cond) ∈ wsA := mA (i := 1098) (by decide +kernel) rfl
theorem qw_1099 : (.selects RX11 yX11_look yX11_look : Cond) ∈ wsA := mA (i := 1099) (by decide +kernel) rfl
theorem qw_1100 : (.code yX11_look cX11_look 8 (some .int) : Cond) ∈ wsA := mA (i := 1100) (by decide +kernel) rfl
theorem qw_1111 : (.methodLink RL 143 yX11_seed : Cond) ∈ wsA := mA (i := 1111) (by decide +kernel) rfl
theorem qw_1112 : (.instanceMethod yX11_seed : Cond) ∈ wsA := mA (i := 1112) (by decide +kernel) rfl
theorem qw_1113 : (.selects RX11 yX11_seed yX11_seed : Cond) ∈ wsA := mA (i := 1113) (by decide +kernel) rfl
theorem qw_1114 : (.code yX11_seed cX11_seed 3 (some .int) : Cond) ∈ wsA := mA (i := 1114) (by decide +kernel) rfl
theorem qw_1115 : (.methodLink RL 147 yX11_hiccups : Cond) ∈ wsA := mA (i := 1115) (by decide +kernel) rfl
theorem qw_1116 : (.instanceMethod yX11_hiccups : Cond) ∈ wsA := mA (i := 1116) (by decide +kernel) rfl
theorem qw_1117 : (.selects RX11 yX11_hiccups yX11_hiccups : Cond) ∈ wsA := mA (i := 1117) (by decide +kernel) rfl
theorem qw_1118 : (.code yX11_hiccups cX11_hiccups 8 (some .int) : Cond) ∈ wsA := mA (i := 1118) (by decide +kernel) rfl
theorem qw_1134 : (.methodLink RL 151 yX11_count : Cond) ∈ wsA := mA (i := 1134) (by decide +kernel) rfl
theorem qw_1135 : (.instanceMethod yX11_count : Cond) ∈ wsA := mA (i := 1135) (by decide +kernel) rfl
theorem qw_1136 : (.selects RX11 yX11_count yX11_count : Cond) ∈ wsA := mA (i := 1136) (by decide +kernel) rfl
theorem qw_1137 : (.code yX11_count cX11_count 2 (some .int) : Cond) ∈ wsA := mA (i := 1137) (by decide +kernel) rfl
theorem qw_1138 : (.methodLink RL 155 yX11_image : Cond) ∈ wsA := mA (i := 1138) (by decide +kernel) rfl
theorem qw_1139 : (.instanceMethod yX11_image : Cond) ∈ wsA := mA (i := 1139) (by decide +kernel) rfl
theorem qw_1140 : (.selects RX11 yX11_image yX11_image : Cond) ∈ wsA := mA (i := 1140) (by decide +kernel) rfl
theorem qw_1141 : (.code yX11_image cX11_image 3 (some .int) : Cond) ∈ wsA := mA (i := 1141) (by decide +kernel) rfl
theorem qw_1150 : (.methodLink RL 159 yX11_back : Cond) ∈ wsA := mA (i := 1150) (by decide +kernel) rfl
theorem qw_1151 : (.instanceMethod yX11_back : Cond) ∈ wsA := mA (i := 1151) (by decide +kernel) rfl
theorem qw_1152 : (.selects RX11 yX11_back yX11_back : Cond) ∈ wsA := mA (i := 1152) (by decide +kernel) rfl
theorem qw_1153 : (.code yX11_back cX11_back 3 (some .int) : Cond) ∈ wsA := mA (i := 1153) (by decide +kernel) rfl
theorem qw_1644 : (.methodLink RL 93 yX12_knowing : Cond) ∈ wsA := mA (i := 1644) (by decide +kernel) rfl
theorem qw_1648 : (.methodLink RL 97 yX12_bestRow : Cond) ∈ wsA := mA (i := 1648) (by decide +kernel) rfl
theorem qw_1681 : (.methodLink RL 101 yX12_hush : Cond) ∈ wsA := mA (i := 1681) (by decide +kernel) rfl
theorem qw_1685 : (.methodLink RL 105 yX12_rows : Cond) ∈ wsA := mA (i := 1685) (by decide +kernel) rfl
theorem qw_1701 : (.methodLink RL 109 yX12_believed : Cond) ∈ wsA := mA (i := 1701) (by decide +kernel) rfl
theorem qw_1705 : (.methodLink RL 113 yX12_dropped : Cond) ∈ wsA := mA (i := 1705) (by decide +kernel) rfl
theorem qw_1709 : (.methodLink RL 117 yX12_leftOut : Cond) ∈ wsA := mA (i := 1709) (by decide +kernel) rfl
theorem qw_1718 : (.methodLink RL 122 yX12_rests : Cond) ∈ wsA := mA (i := 1718) (by decide +kernel) rfl
theorem qw_1735 : (.methodLink RL 126 yX12_crumbs : Cond) ∈ wsA := mA (i := 1735) (by decide +kernel) rfl
theorem qw_1740 : (.methodLink RL 130 yX12_loudest : Cond) ∈ wsA := mA (i := 1740) (by decide +kernel) rfl
theorem qw_1744 : (.methodLink RL 134 yX12_note : Cond) ∈ wsA := mA (i := 1744) (by decide +kernel) rfl
theorem qw_1749 : (.methodLink RL 138 yX12_ruled : Cond) ∈ wsA := mA (i := 1749) (by decide +kernel) rfl
theorem qw_1757 : (.methodLink RL 142 yX12_look : Cond) ∈ wsA := mA (i := 1757) (by decide +kernel) rfl
theorem qw_1765 : (.methodLink RL 146 yX12_seed : Cond) ∈ wsA := mA (i := 1765) (by decide +kernel) rfl
theorem qw_1769 : (.methodLink RL 150 yX12_hiccups : Cond) ∈ wsA := mA (i := 1769) (by decide +kernel) rfl
theorem qw_1786 : (.methodLink RL 154 yX12_count : Cond) ∈ wsA := mA (i := 1786) (by decide +kernel) rfl
theorem qw_1790 : (.methodLink RL 158 yX12_image : Cond) ∈ wsA := mA (i := 1790) (by decide +kernel) rfl
theorem qw_1795 : (.methodLink RL 162 yX12_back : Cond) ∈ wsA := mA (i := 1795) (by decide +kernel) rfl
theorem dL_law_646 : decode cL_law 646 = .ok (.aload_n 1, 1) := by decide +kernel
theorem dL_law_647 : decode cL_law 647 = .ok (.aload_n 0, 1) := by decide +kernel
theorem dL_law_648 : decode cL_law 648 = .ok (.iload_n 3, 1) := by decide +kernel
theorem dL_law_649 : decode cL_law 649 = .ok (.iconst 1, 1) := by decide +kernel
theorem dL_law_650 : decode cL_law 650 = .ok (.iadd, 1) := by decide +kernel
theorem dL_law_651 : decode cL_law 651 = .ok (.iaload, 1) := by decide +kernel
theorem dL_law_652 : decode cL_law 652 = .ok (.invokevirtual 90, 3) := by decide +kernel
theorem dL_law_655 : decode cL_law 655 = .ok (.pop, 1) := by decide +kernel
theorem dL_law_656 : decode cL_law 656 = .ok (.aload_n 2, 1) := by decide +kernel
theorem dL_law_657 : decode cL_law 657 = .ok (.aload_n 0, 1) := by decide +kernel
theorem dL_law_658 : decode cL_law 658 = .ok (.iload_n 3, 1) := by decide +kernel
theorem dL_law_659 : decode cL_law 659 = .ok (.iconst 1, 1) := by decide +kernel
theorem dL_law_660 : decode cL_law 660 = .ok (.iadd, 1) := by decide +kernel
theorem dL_law_661 : decode cL_law 661 = .ok (.iaload, 1) := by decide +kernel
theorem dL_law_662 : decode cL_law 662 = .ok (.invokevirtual 93, 3) := by decide +kernel
theorem dL_law_665 : decode cL_law 665 = .ok (.pop, 1) := by decide +kernel
theorem dL_law_666 : decode cL_law 666 = .ok (.goto 544, 3) := by decide +kernel
theorem dL_law_669 : decode cL_law 669 = .ok (.aload_n 1, 1) := by decide +kernel
theorem dL_law_670 : decode cL_law 670 = .ok (.aload_n 0, 1) := by decide +kernel
theorem dL_law_671 : decode cL_law 671 = .ok (.iload_n 3, 1) := by decide +kernel
theorem dL_law_672 : decode cL_law 672 = .ok (.iconst 1, 1) := by decide +kernel
theorem dL_law_673 : decode cL_law 673 = .ok (.iadd, 1) := by decide +kernel
theorem dL_law_674 : decode cL_law 674 = .ok (.iaload, 1) := by decide +kernel
theorem dL_law_675 : decode cL_law 675 = .ok (.aload_n 0, 1) := by decide +kernel
theorem dL_law_676 : decode cL_law 676 = .ok (.iload_n 3, 1) := by decide +kernel
theorem dL_law_677 : decode cL_law 677 = .ok (.iconst 2, 1) := by decide +kernel
theorem dL_law_678 : decode cL_law 678 = .ok (.iadd, 1) := by decide +kernel
theorem dL_law_679 : decode cL_law 679 = .ok (.iaload, 1) := by decide +kernel
theorem dL_law_680 : decode cL_law 680 = .ok (.invokevirtual 94, 3) := by decide +kernel
theorem dL_law_683 : decode cL_law 683 = .ok (.pop, 1) := by decide +kernel
theorem dL_law_684 : decode cL_law 684 = .ok (.aload_n 2, 1) := by decide +kernel
theorem dL_law_685 : decode cL_law 685 = .ok (.aload_n 0, 1) := by decide +kernel
theorem dL_law_686 : decode cL_law 686 = .ok (.iload_n 3, 1) := by decide +kernel
theorem dL_law_687 : decode cL_law 687 = .ok (.iconst 1, 1) := by decide +kernel
theorem dL_law_688 : decode cL_law 688 = .ok (.iadd, 1) := by decide +kernel
theorem dL_law_689 : decode cL_law 689 = .ok (.iaload, 1) := by decide +kernel
theorem dL_law_690 : decode cL_law 690 = .ok (.aload_n 0, 1) := by decide +kernel
theorem dL_law_691 : decode cL_law 691 = .ok (.iload_n 3, 1) := by decide +kernel
theorem dL_law_692 : decode cL_law 692 = .ok (.iconst 2, 1) := by decide +kernel
theorem dL_law_693 : decode cL_law 693 = .ok (.iadd, 1) := by decide +kernel
theorem dL_law_694 : decode cL_law 694 = .ok (.iaload, 1) := by decide +kernel
theorem dL_law_695 : decode cL_law 695 = .ok (.invokevirtual 97, 3) := by decide +kernel
theorem dL_law_698 : decode cL_law 698 = .ok (.pop, 1) := by decide +kernel
theorem dL_law_699 : decode cL_law 699 = .ok (.goto 511, 3) := by decide +kernel
theorem dL_law_702 : decode cL_law 702 = .ok (.aload_n 1, 1) := by decide +kernel
theorem dL_law_703 : decode cL_law 703 = .ok (.aload_n 0, 1) := by decide +kernel
theorem dL_law_704 : decode cL_law 704 = .ok (.iload_n 3, 1) := by decide +kernel
theorem dL_law_705 : decode cL_law 705 = .ok (.iconst 1, 1) := by decide +kernel
theorem dL_law_706 : decode cL_law 706 = .ok (.iadd, 1) := by decide +kernel
theorem dL_law_707 : decode cL_law 707 = .ok (.iaload, 1) := by decide +kernel
theorem dL_law_708 : decode cL_law 708 = .ok (.aload_n 0, 1) := by decide +kernel
theorem dL_law_709 : decode cL_law 709 = .ok (.iload_n 3, 1) := by decide +kernel
theorem dL_law_710 : decode cL_law 710 = .ok (.iconst 2, 1) := by decide +kernel
theorem dL_law_711 : decode cL_law 711 = .ok (.iadd, 1) := by decide +kernel
theorem dL_law_712 : decode cL_law 712 = .ok (.iaload, 1) := by decide +kernel
theorem dL_law_713 : decode cL_law 713 = .ok (.invokevirtual 98, 3) := by decide +kernel
theorem dL_law_716 : decode cL_law 716 = .ok (.pop, 1) := by decide +kernel
theorem dL_law_717 : decode cL_law 717 = .ok (.aload_n 2, 1) := by decide +kernel
theorem dL_law_718 : decode cL_law 718 = .ok (.aload_n 0, 1) := by decide +kernel
theorem dL_law_719 : decode cL_law 719 = .ok (.iload_n 3, 1) := by decide +kernel
theorem dL_law_720 : decode cL_law 720 = .ok (.iconst 1, 1) := by decide +kernel
theorem dL_law_721 : decode cL_law 721 = .ok (.iadd, 1) := by decide +kernel
theorem dL_law_722 : decode cL_law 722 = .ok (.iaload, 1) := by decide +kernel
theorem dL_law_723 : decode cL_law 723 = .ok (.aload_n 0, 1) := by decide +kernel
theorem dL_law_724 : decode cL_law 724 = .ok (.iload_n 3, 1) := by decide +kernel
theorem dL_law_725 : decode cL_law 725 = .ok (.iconst 2, 1) := by decide +kernel
theorem dL_law_726 : decode cL_law 726 = .ok (.iadd, 1) := by decide +kernel
theorem dL_law_727 : decode cL_law 727 = .ok (.iaload, 1) := by decide +kernel
theorem dL_law_728 : decode cL_law 728 = .ok (.invokevirtual 101, 3) := by decide +kernel
theorem dL_law_731 : decode cL_law 731 = .ok (.pop, 1) := by decide +kernel
theorem dL_law_732 : decode cL_law 732 = .ok (.goto 478, 3) := by decide +kernel
theorem dL_law_735 : decode cL_law 735 = .ok (.aload_n 1, 1) := by decide +kernel
theorem dL_law_736 : decode cL_law 736 = .ok (.aload_n 0, 1) := by decide +kernel
theorem dL_law_737 : decode cL_law 737 = .ok (.iload_n 3, 1) := by decide +kernel
theorem dL_law_738 : decode cL_law 738 = .ok (.iconst 1, 1) := by decide +kernel
theorem dL_law_739 : decode cL_law 739 = .ok (.iadd, 1) := by decide +kernel
theorem dL_law_740 : decode cL_law 740 = .ok (.iaload, 1) := by decide +kernel
theorem dL_law_741 : decode cL_law 741 = .ok (.invokevirtual 102, 3) := by decide +kernel
theorem dL_law_744 : decode cL_law 744 = .ok (.pop, 1) := by decide +kernel
theorem dL_law_745 : decode cL_law 745 = .ok (.aload_n 2, 1) := by decide +kernel
theorem dL_law_746 : decode cL_law 746 = .ok (.aload_n 0, 1) := by decide +kernel
theorem dL_law_747 : decode cL_law 747 = .ok (.iload_n 3, 1) := by decide +kernel
theorem dL_law_748 : decode cL_law 748 = .ok (.iconst 1, 1) := by decide +kernel
theorem dL_law_749 : decode cL_law 749 = .ok (.iadd, 1) := by decide +kernel
theorem dL_law_750 : decode cL_law 750 = .ok (.iaload, 1) := by decide +kernel
theorem dL_law_751 : decode cL_law 751 = .ok (.invokevirtual 105, 3) := by decide +kernel
theorem dL_law_754 : decode cL_law 754 = .ok (.pop, 1) := by decide +kernel
theorem dL_law_755 : decode cL_law 755 = .ok (.goto 455, 3) := by decide +kernel
theorem dL_law_758 : decode cL_law 758 = .ok (.aload_n 1, 1) := by decide +kernel
theorem dL_law_759 : decode cL_law 759 = .ok (.aload_n 0, 1) := by decide +kernel
theorem dL_law_760 : decode cL_law 760 = .ok (.iload_n 3, 1) := by decide +kernel
theorem dL_law_761 : decode cL_law 761 = .ok (.iconst 1, 1) := by decide +kernel
theorem dL_law_762 : decode cL_law 762 = .ok (.iadd, 1) := by decide +kernel
theorem dL_law_763 : decode cL_law 763 = .ok (.iaload, 1) := by decide +kernel
theorem dL_law_764 : decode cL_law 764 = .ok (.invokevirtual 106, 3) := by decide +kernel
theorem dL_law_767 : decode cL_law 767 = .ok (.pop, 1) := by decide +kernel
theorem dL_law_768 : decode cL_law 768 = .ok (.aload_n 2, 1) := by decide +kernel
theorem dL_law_769 : decode cL_law 769 = .ok (.aload_n 0, 1) := by decide +kernel
theorem dL_law_770 : decode cL_law 770 = .ok (.iload_n 3, 1) := by decide +kernel
theorem dL_law_771 : decode cL_law 771 = .ok (.iconst 1, 1) := by decide +kernel
theorem dL_law_772 : decode cL_law 772 = .ok (.iadd, 1) := by decide +kernel
theorem dL_law_773 : decode cL_law 773 = .ok (.iaload, 1) := by decide +kernel
theorem dL_law_774 : decode cL_law 774 = .ok (.invokevirtual 109, 3) := by decide +kernel
theorem dL_law_777 : decode cL_law 777 = .ok (.pop, 1) := by decide +kernel
theorem dL_law_778 : decode cL_law 778 = .ok (.goto 432, 3) := by decide +kernel
theorem dL_law_781 : decode cL_law 781 = .ok (.aload_n 1, 1) := by decide +kernel
theorem dL_law_782 : decode cL_law 782 = .ok (.aload_n 0, 1) := by decide +kernel
theorem dL_law_783 : decode cL_law 783 = .ok (.iload_n 3, 1) := by decide +kernel
theorem dL_law_784 : decode cL_law 784 = .ok (.iconst 1, 1) := by decide +kernel
theorem dL_law_785 : decode cL_law 785 = .ok (.iadd, 1) := by decide +kernel
theorem dL_law_786 : decode cL_law 786 = .ok (.iaload, 1) := by decide +kernel
theorem dL_law_787 : decode cL_law 787 = .ok (.invokevirtual 110, 3) := by decide +kernel
theorem dL_law_790 : decode cL_law 790 = .ok (.pop, 1) := by decide +kernel
theorem dL_law_791 : decode cL_law 791 = .ok (.aload_n 2, 1) := by decide +kernel
theorem dL_law_792 : decode cL_law 792 = .ok (.aload_n 0, 1) := by decide +kernel
theorem dL_law_793 : decode cL_law 793 = .ok (.iload_n 3, 1) := by decide +kernel
theorem dL_law_794 : decode cL_law 794 = .ok (.iconst 1, 1) := by decide +kernel
theorem dL_law_795 : decode cL_law 795 = .ok (.iadd, 1) := by decide +kernel
theorem dL_law_796 : decode cL_law 796 = .ok (.iaload, 1) := by decide +kernel
theorem dL_law_797 : decode cL_law 797 = .ok (.invokevirtual 113, 3) := by decide +kernel
theorem dL_law_800 : decode cL_law 800 = .ok (.pop, 1) := by decide +kernel
theorem dL_law_801 : decode cL_law 801 = .ok (.goto 409, 3) := by decide +kernel
theorem dL_law_804 : decode cL_law 804 = .ok (.aload_n 1, 1) := by decide +kernel
theorem dL_law_805 : decode cL_law 805 = .ok (.aload_n 0, 1) := by decide +kernel
theorem dL_law_806 : decode cL_law 806 = .ok (.iload_n 3, 1) := by decide +kernel
theorem dL_law_807 : decode cL_law 807 = .ok (.iconst 1, 1) := by decide +kernel
theorem dL_law_808 : decode cL_law 808 = .ok (.iadd, 1) := by decide +kernel
theorem dL_law_809 : decode cL_law 809 = .ok (.iaload, 1) := by decide +kernel
theorem dL_law_810 : decode cL_law 810 = .ok (.aload_n 0, 1) := by decide +kernel
theorem dL_law_811 : decode cL_law 811 = .ok (.iload_n 3, 1) := by decide +kernel
theorem dL_law_812 : decode cL_law 812 = .ok (.iconst 2, 1) := by decide +kernel
theorem dL_law_813 : decode cL_law 813 = .ok (.iadd, 1) := by decide +kernel
theorem dL_law_814 : decode cL_law 814 = .ok (.iaload, 1) := by decide +kernel
theorem dL_law_815 : decode cL_law 815 = .ok (.invokevirtual 114, 3) := by decide +kernel
theorem dL_law_818 : decode cL_law 818 = .ok (.pop, 1) := by decide +kernel
theorem dL_law_819 : decode cL_law 819 = .ok (.aload_n 2, 1) := by decide +kernel
theorem dL_law_820 : decode cL_law 820 = .ok (.aload_n 0, 1) := by decide +kernel
theorem dL_law_821 : decode cL_law 821 = .ok (.iload_n 3, 1) := by decide +kernel
theorem dL_law_822 : decode cL_law 822 = .ok (.iconst 1, 1) := by decide +kernel
theorem dL_law_823 : decode cL_law 823 = .ok (.iadd, 1) := by decide +kernel
theorem dL_law_824 : decode cL_law 824 = .ok (.iaload, 1) := by decide +kernel
theorem dL_law_825 : decode cL_law 825 = .ok (.aload_n 0, 1) := by decide +kernel
theorem dL_law_826 : decode cL_law 826 = .ok (.iload_n 3, 1) := by decide +kernel
theorem dL_law_827 : decode cL_law 827 = .ok (.iconst 2, 1) := by decide +kernel
theorem dL_law_828 : decode cL_law 828 = .ok (.iadd, 1) := by decide +kernel
theorem dL_law_829 : decode cL_law 829 = .ok (.iaload, 1) := by decide +kernel
theorem dL_law_830 : decode cL_law 830 = .ok (.invokevirtual 117, 3) := by decide +kernel
theorem dL_law_833 : decode cL_law 833 = .ok (.pop, 1) := by decide +kernel
theorem dL_law_834 : decode cL_law 834 = .ok (.goto 376, 3) := by decide +kernel
theorem dL_law_837 : decode cL_law 837 = .ok (.aload_n 1, 1) := by decide +kernel
theorem dL_law_838 : decode cL_law 838 = .ok (.aload_n 0, 1) := by decide +kernel
theorem dL_law_839 : decode cL_law 839 = .ok (.iload_n 3, 1) := by decide +kernel
theorem dL_law_840 : decode cL_law 840 = .ok (.iconst 1, 1) := by decide +kernel
theorem dL_law_841 : decode cL_law 841 = .ok (.iadd, 1) := by decide +kernel
theorem dL_law_842 : decode cL_law 842 = .ok (.iaload, 1) := by decide +kernel
theorem dL_law_843 : decode cL_law 843 = .ok (.aload_n 0, 1) := by decide +kernel
theorem dL_law_844 : decode cL_law 844 = .ok (.iload_n 3, 1) := by decide +kernel
theorem dL_law_845 : decode cL_law 845 = .ok (.iconst 2, 1) := by decide +kernel
theorem dL_law_846 : decode cL_law 846 = .ok (.iadd, 1) := by decide +kernel
theorem dL_law_847 : decode cL_law 847 = .ok (.iaload, 1) := by decide +kernel
theorem dL_law_848 : decode cL_law 848 = .ok (.aload_n 0, 1) := by decide +kernel
theorem dL_law_849 : decode cL_law 849 = .ok (.iload_n 3, 1) := by decide +kernel
theorem dL_law_850 : decode cL_law 850 = .ok (.iconst 3, 1) := by decide +kernel
theorem dL_law_851 : decode cL_law 851 = .ok (.iadd, 1) := by decide +kernel
theorem dL_law_852 : decode cL_law 852 = .ok (.iaload, 1) := by decide +kernel
theorem dL_law_853 : decode cL_law 853 = .ok (.aload_n 0, 1) := by decide +kernel
theorem dL_law_854 : decode cL_law 854 = .ok (.iload_n 3, 1) := by decide +kernel
theorem dL_law_855 : decode cL_law 855 = .ok (.iconst 4, 1) := by decide +kernel
theorem dL_law_856 : decode cL_law 856 = .ok (.iadd, 1) := by decide +kernel
theorem dL_law_857 : decode cL_law 857 = .ok (.iaload, 1) := by decide +kernel
theorem dL_law_858 : decode cL_law 858 = .ok (.invokevirtual 118, 3) := by decide +kernel
theorem dL_law_861 : decode cL_law 861 = .ok (.pop, 1) := by decide +kernel
theorem dL_law_862 : decode cL_law 862 = .ok (.aload_n 2, 1) := by decide +kernel
theorem dL_law_863 : decode cL_law 863 = .ok (.aload_n 0, 1) := by decide +kernel
theorem dL_law_864 : decode cL_law 864 = .ok (.iload_n 3, 1) := by decide +kernel
theorem dL_law_865 : decode cL_law 865 = .ok (.iconst 1, 1) := by decide +kernel
theorem dL_law_866 : decode cL_law 866 = .ok (.iadd, 1) := by decide +kernel
theorem dL_law_867 : decode cL_law 867 = .ok (.iaload, 1) := by decide +kernel
theorem dL_law_868 : decode cL_law 868 = .ok (.aload_n 0, 1) := by decide +kernel
theorem dL_law_869 : decode cL_law 869 = .ok (.iload_n 3, 1) := by decide +kernel
theorem dL_law_870 : decode cL_law 870 = .ok (.iconst 2, 1) := by decide +kernel
theorem dL_law_871 : decode cL_law 871 = .ok (.iadd, 1) := by decide +kernel
theorem dL_law_872 : decode cL_law 872 = .ok (.iaload, 1) := by decide +kernel
theorem dL_law_873 : decode cL_law 873 = .ok (.aload_n 0, 1) := by decide +kernel
theorem dL_law_874 : decode cL_law 874 = .ok (.iload_n 3, 1) := by decide +kernel
theorem dL_law_875 : decode cL_law 875 = .ok (.iconst 3, 1) := by decide +kernel
theorem dL_law_876 : decode cL_law 876 = .ok (.iadd, 1) := by decide +kernel
theorem dL_law_877 : decode cL_law 877 = .ok (.iaload, 1) := by decide +kernel
theorem dL_law_878 : decode cL_law 878 = .ok (.aload_n 0, 1) := by decide +kernel
theorem dL_law_879 : decode cL_law 879 = .ok (.iload_n 3, 1) := by decide +kernel
theorem dL_law_880 : decode cL_law 880 = .ok (.iconst 4, 1) := by decide +kernel
theorem dL_law_881 : decode cL_law 881 = .ok (.iadd, 1) := by decide +kernel
theorem dL_law_882 : decode cL_law 882 = .ok (.iaload, 1) := by decide +kernel
theorem dL_law_883 : decode cL_law 883 = .ok (.invokevirtual 122, 3) := by decide +kernel
theorem dL_law_886 : decode cL_law 886 = .ok (.pop, 1) := by decide +kernel
theorem dL_law_887 : decode cL_law 887 = .ok (.goto 323, 3) := by decide +kernel
theorem dL_law_890 : decode cL_law 890 = .ok (.aload_n 1, 1) := by decide +kernel
theorem dL_law_891 : decode cL_law 891 = .ok (.aload_n 0, 1) := by decide +kernel
theorem dL_law_892 : decode cL_law 892 = .ok (.iload_n 3, 1) := by decide +kernel
theorem dL_law_893 : decode cL_law 893 = .ok (.iconst 1, 1) := by decide +kernel
theorem dL_law_894 : decode cL_law 894 = .ok (.iadd, 1) := by decide +kernel
theorem dL_law_895 : decode cL_law 895 = .ok (.iaload, 1) := by decide +kernel
theorem dL_law_896 : decode cL_law 896 = .ok (.aload_n 0, 1) := by decide +kernel
theorem dL_law_897 : decode cL_law 897 = .ok (.iload_n 3, 1) := by decide +kernel
theorem dL_law_898 : decode cL_law 898 = .ok (.iconst 2, 1) := by decide +kernel
theorem dL_law_899 : decode cL_law 899 = .ok (.iadd, 1) := by decide +kernel
theorem dL_law_900 : decode cL_law 900 = .ok (.iaload, 1) := by decide +kernel
theorem dL_law_901 : decode cL_law 901 = .ok (.invokevirtual 123, 3) := by decide +kernel
theorem dL_law_904 : decode cL_law 904 = .ok (.pop, 1) := by decide +kernel
theorem dL_law_905 : decode cL_law 905 = .ok (.aload_n 2, 1) := by decide +kernel
theorem dL_law_906 : decode cL_law 906 = .ok (.aload_n 0, 1) := by decide +kernel
theorem dL_law_907 : decode cL_law 907 = .ok (.iload_n 3, 1) := by decide +kernel
theorem dL_law_908 : decode cL_law 908 = .ok (.iconst 1, 1) := by decide +kernel
theorem dL_law_909 : decode cL_law 909 = .ok (.iadd, 1) := by decide +kernel
theorem dL_law_910 : decode cL_law 910 = .ok (.iaload, 1) := by decide +kernel
theorem dL_law_911 : decode cL_law 911 = .ok (.aload_n 0, 1) := by decide +kernel
theorem dL_law_912 : decode cL_law 912 = .ok (.iload_n 3, 1) := by decide +kernel
theorem dL_law_913 : decode cL_law 913 = .ok (.iconst 2, 1) := by decide +kernel
theorem dL_law_914 : decode cL_law 914 = .ok (.iadd, 1) := by decide +kernel
theorem dL_law_915 : decode cL_law 915 = .ok (.iaload, 1) := by decide +kernel
theorem dL_law_916 : decode cL_law 916 = .ok (.invokevirtual 126, 3) := by decide +kernel
theorem dL_law_919 : decode cL_law 919 = .ok (.pop, 1) := by decide +kernel
theorem dL_law_920 : decode cL_law 920 = .ok (.goto 290, 3) := by decide +kernel
theorem dL_law_923 : decode cL_law 923 = .ok (.aload_n 1, 1) := by decide +kernel
theorem dL_law_924 : decode cL_law 924 = .ok (.aload_n 0, 1) := by decide +kernel
theorem dL_law_925 : decode cL_law 925 = .ok (.iload_n 3, 1) := by decide +kernel
theorem dL_law_926 : decode cL_law 926 = .ok (.iconst 1, 1) := by decide +kernel
theorem dL_law_927 : decode cL_law 927 = .ok (.iadd, 1) := by decide +kernel
theorem dL_law_928 : decode cL_law 928 = .ok (.iaload, 1) := by decide +kernel
theorem dL_law_929 : decode cL_law 929 = .ok (.aload_n 0, 1) := by decide +kernel
theorem dL_law_930 : decode cL_law 930 = .ok (.iload_n 3, 1) := by decide +kernel
theorem dL_law_931 : decode cL_law 931 = .ok (.iconst 2, 1) := by decide +kernel
theorem dL_law_932 : decode cL_law 932 = .ok (.iadd, 1) := by decide +kernel
theorem dL_law_933 : decode cL_law 933 = .ok (.iaload, 1) := by decide +kernel
theorem dL_law_934 : decode cL_law 934 = .ok (.invokevirtual 127, 3) := by decide +kernel
theorem dL_law_937 : decode cL_law 937 = .ok (.pop, 1) := by decide +kernel
theorem dL_law_938 : decode cL_law 938 = .ok (.aload_n 2, 1) := by decide +kernel
theorem dL_law_939 : decode cL_law 939 = .ok (.aload_n 0, 1) := by decide +kernel
theorem dL_law_940 : decode cL_law 940 = .ok (.iload_n 3, 1) := by decide +kernel
theorem dL_law_941 : decode cL_law 941 = .ok (.iconst 1, 1) := by decide +kernel
theorem dL_law_942 : decode cL_law 942 = .ok (.iadd, 1) := by decide +kernel
theorem dL_law_943 : decode cL_law 943 = .ok (.iaload, 1) := by decide +kernel
theorem dL_law_944 : decode cL_law 944 = .ok (.aload_n 0, 1) := by decide +kernel
theorem dL_law_945 : decode cL_law 945 = .ok (.iload_n 3, 1) := by decide +kernel
theorem dL_law_946 : decode cL_law 946 = .ok (.iconst 2, 1) := by decide +kernel
theorem dL_law_947 : decode cL_law 947 = .ok (.iadd, 1) := by decide +kernel
theorem dL_law_948 : decode cL_law 948 = .ok (.iaload, 1) := by decide +kernel
theorem dL_law_949 : decode cL_law 949 = .ok (.invokevirtual 130, 3) := by decide +kernel
theorem dL_law_952 : decode cL_law 952 = .ok (.pop, 1) := by decide +kernel
theorem dL_law_953 : decode cL_law 953 = .ok (.goto 257, 3) := by decide +kernel
theorem dL_law_956 : decode cL_law 956 = .ok (.aload_n 1, 1) := by decide +kernel
theorem dL_law_957 : decode cL_law 957 = .ok (.aload_n 0, 1) := by decide +kernel
theorem dL_law_958 : decode cL_law 958 = .ok (.iload_n 3, 1) := by decide +kernel
theorem dL_law_959 : decode cL_law 959 = .ok (.iconst 1, 1) := by decide +kernel
theorem dL_law_960 : decode cL_law 960 = .ok (.iadd, 1) := by decide +kernel
theorem dL_law_961 : decode cL_law 961 = .ok (.iaload, 1) := by decide +kernel
theorem dL_law_962 : decode cL_law 962 = .ok (.aload_n 0, 1) := by decide +kernel
theorem dL_law_963 : decode cL_law 963 = .ok (.iload_n 3, 1) := by decide +kernel
theorem dL_law_964 : decode cL_law 964 = .ok (.iconst 2, 1) := by decide +kernel
theorem dL_law_965 : decode cL_law 965 = .ok (.iadd, 1) := by decide +kernel
theorem dL_law_966 : decode cL_law 966 = .ok (.iaload, 1) := by decide +kernel
theorem dL_law_967 : decode cL_law 967 = .ok (.aload_n 0, 1) := by decide +kernel
theorem dL_law_968 : decode cL_law 968 = .ok (.iload_n 3, 1) := by decide +kernel
theorem dL_law_969 : decode cL_law 969 = .ok (.iconst 3, 1) := by decide +kernel
theorem dL_law_970 : decode cL_law 970 = .ok (.iadd, 1) := by decide +kernel
theorem dL_law_971 : decode cL_law 971 = .ok (.iaload, 1) := by decide +kernel
theorem dL_law_972 : decode cL_law 972 = .ok (.aload_n 0, 1) := by decide +kernel
theorem dL_law_973 : decode cL_law 973 = .ok (.iload_n 3, 1) := by decide +kernel
theorem dL_law_974 : decode cL_law 974 = .ok (.iconst 4, 1) := by decide +kernel
theorem dL_law_975 : decode cL_law 975 = .ok (.iadd, 1) := by decide +kernel
theorem dL_law_976 : decode cL_law 976 = .ok (.iaload, 1) := by decide +kernel
theorem dL_law_977 : decode cL_law 977 = .ok (.invokevirtual 131, 3) := by decide +kernel
theorem dL_law_980 : decode cL_law 980 = .ok (.pop, 1) := by decide +kernel
theorem dL_law_981 : decode cL_law 981 = .ok (.aload_n 2, 1) := by decide +kernel
theorem dL_law_982 : decode cL_law 982 = .ok (.aload_n 0, 1) := by decide +kernel
theorem dL_law_983 : decode cL_law 983 = .ok (.iload_n 3, 1) := by decide +kernel
theorem dL_law_984 : decode cL_law 984 = .ok (.iconst 1, 1) := by decide +kernel
theorem dL_law_985 : decode cL_law 985 = .ok (.iadd, 1) := by decide +kernel
theorem dL_law_986 : decode cL_law 986 = .ok (.iaload, 1) := by decide +kernel
theorem dL_law_987 : decode cL_law 987 = .ok (.aload_n 0, 1) := by decide +kernel
theorem dL_law_988 : decode cL_law 988 = .ok (.iload_n 3, 1) := by decide +kernel
theorem dL_law_989 : decode cL_law 989 = .ok (.iconst 2, 1) := by decide +kernel
theorem dL_law_990 : decode cL_law 990 = .ok (.iadd, 1) := by decide +kernel
theorem dL_law_991 : decode cL_law 991 = .ok (.iaload, 1) := by decide +kernel
theorem dL_law_992 : decode cL_law 992 = .ok (.aload_n 0, 1) := by decide +kernel
theorem dL_law_993 : decode cL_law 993 = .ok (.iload_n 3, 1) := by decide +kernel
theorem dL_law_994 : decode cL_law 994 = .ok (.iconst 3, 1) := by decide +kernel
theorem dL_law_995 : decode cL_law 995 = .ok (.iadd, 1) := by decide +kernel
theorem dL_law_996 : decode cL_law 996 = .ok (.iaload, 1) := by decide +kernel
theorem dL_law_997 : decode cL_law 997 = .ok (.aload_n 0, 1) := by decide +kernel
theorem dL_law_998 : decode cL_law 998 = .ok (.iload_n 3, 1) := by decide +kernel
theorem dL_law_999 : decode cL_law 999 = .ok (.iconst 4, 1) := by decide +kernel
theorem dL_law_1000 : decode cL_law 1000 = .ok (.iadd, 1) := by decide +kernel
theorem dL_law_1001 : decode cL_law 1001 = .ok (.iaload, 1) := by decide +kernel
theorem dL_law_1002 : decode cL_law 1002 = .ok (.invokevirtual 134, 3) := by decide +kernel
theorem dL_law_1005 : decode cL_law 1005 = .ok (.pop, 1) := by decide +kernel
theorem dL_law_1006 : decode cL_law 1006 = .ok (.goto 204, 3) := by decide +kernel
theorem dL_law_1009 : decode cL_law 1009 = .ok (.aload_n 1, 1) := by decide +kernel
theorem dL_law_1010 : decode cL_law 1010 = .ok (.aload_n 0, 1) := by decide +kernel
theorem dL_law_1011 : decode cL_law 1011 = .ok (.iload_n 3, 1) := by decide +kernel
theorem dL_law_1012 : decode cL_law 1012 = .ok (.iconst 1, 1) := by decide +kernel
theorem dL_law_1013 : decode cL_law 1013 = .ok (.iadd, 1) := by decide +kernel
theorem dL_law_1014 : decode cL_law 1014 = .ok (.iaload, 1) := by decide +kernel
theorem dL_law_1015 : decode cL_law 1015 = .ok (.invokevirtual 135, 3) := by decide +kernel
theorem dL_law_1018 : decode cL_law 1018 = .ok (.pop, 1) := by decide +kernel
theorem dL_law_1019 : decode cL_law 1019 = .ok (.aload_n 2, 1) := by decide +kernel
theorem dL_law_1020 : decode cL_law 1020 = .ok (.aload_n 0, 1) := by decide +kernel
theorem dL_law_1021 : decode cL_law 1021 = .ok (.iload_n 3, 1) := by decide +kernel
theorem dL_law_1022 : decode cL_law 1022 = .ok (.iconst 1, 1) := by decide +kernel
theorem dL_law_1023 : decode cL_law 1023 = .ok (.iadd, 1) := by decide +kernel
theorem dL_law_1024 : decode cL_law 1024 = .ok (.iaload, 1) := by decide +kernel
theorem dL_law_1025 : decode cL_law 1025 = .ok (.invokevirtual 138, 3) := by decide +kernel
theorem dL_law_1028 : decode cL_law 1028 = .ok (.pop, 1) := by decide +kernel
theorem dL_law_1029 : decode cL_law 1029 = .ok (.goto 181, 3) := by decide +kernel
theorem dL_law_1032 : decode cL_law 1032 = .ok (.aload_n 1, 1) := by decide +kernel
theorem dL_law_1033 : decode cL_law 1033 = .ok (.aload_n 0, 1) := by decide +kernel
theorem dL_law_1034 : decode cL_law 1034 = .ok (.iload_n 3, 1) := by decide +kernel
theorem dL_law_1035 : decode cL_law 1035 = .ok (.iconst 1, 1) := by decide +kernel
theorem dL_law_1036 : decode cL_law 1036 = .ok (.iadd, 1) := by decide +kernel
theorem dL_law_1037 : decode cL_law 1037 = .ok (.iaload, 1) := by decide +kernel
theorem dL_law_1038 : decode cL_law 1038 = .ok (.aload_n 0, 1) := by decide +kernel
theorem dL_law_1039 : decode cL_law 1039 = .ok (.iload_n 3, 1) := by decide +kernel
theorem dL_law_1040 : decode cL_law 1040 = .ok (.iconst 2, 1) := by decide +kernel
theorem dL_law_1041 : decode cL_law 1041 = .ok (.iadd, 1) := by decide +kernel
theorem dL_law_1042 : decode cL_law 1042 = .ok (.iaload, 1) := by decide +kernel
theorem dL_law_1043 : decode cL_law 1043 = .ok (.invokevirtual 139, 3) := by decide +kernel
theorem dL_law_1046 : decode cL_law 1046 = .ok (.pop, 1) := by decide +kernel
theorem dL_law_1047 : decode cL_law 1047 = .ok (.aload_n 2, 1) := by decide +kernel
theorem dL_law_1048 : decode cL_law 1048 = .ok (.aload_n 0, 1) := by decide +kernel
theorem dL_law_1049 : decode cL_law 1049 = .ok (.iload_n 3, 1) := by decide +kernel
theorem dL_law_1050 : decode cL_law 1050 = .ok (.iconst 1, 1) := by decide +kernel
theorem dL_law_1051 : decode cL_law 1051 = .ok (.iadd, 1) := by decide +kernel
theorem dL_law_1052 : decode cL_law 1052 = .ok (.iaload, 1) := by decide +kernel
theorem dL_law_1053 : decode cL_law 1053 = .ok (.aload_n 0, 1) := by decide +kernel
theorem dL_law_1054 : decode cL_law 1054 = .ok (.iload_n 3, 1) := by decide +kernel
theorem dL_law_1055 : decode cL_law 1055 = .ok (.iconst 2, 1) := by decide +kernel
theorem dL_law_1056 : decode cL_law 1056 = .ok (.iadd, 1) := by decide +kernel
theorem dL_law_1057 : decode cL_law 1057 = .ok (.iaload, 1) := by decide +kernel
theorem dL_law_1058 : decode cL_law 1058 = .ok (.invokevirtual 142, 3) := by decide +kernel
theorem dL_law_1061 : decode cL_law 1061 = .ok (.pop, 1) := by decide +kernel
theorem dL_law_1062 : decode cL_law 1062 = .ok (.goto 148, 3) := by decide +kernel
theorem dL_law_1065 : decode cL_law 1065 = .ok (.aload_n 1, 1) := by decide +kernel
theorem dL_law_1066 : decode cL_law 1066 = .ok (.aload_n 0, 1) := by decide +kernel
theorem dL_law_1067 : decode cL_law 1067 = .ok (.iload_n 3, 1) := by decide +kernel
theorem dL_law_1068 : decode cL_law 1068 = .ok (.iconst 1, 1) := by decide +kernel
theorem dL_law_1069 : decode cL_law 1069 = .ok (.iadd, 1) := by decide +kernel
theorem dL_law_1070 : decode cL_law 1070 = .ok (.iaload, 1) := by decide +kernel
theorem dL_law_1071 : decode cL_law 1071 = .ok (.invokevirtual 143, 3) := by decide +kernel
theorem dL_law_1074 : decode cL_law 1074 = .ok (.aload_n 2, 1) := by decide +kernel
theorem dL_law_1075 : decode cL_law 1075 = .ok (.aload_n 0, 1) := by decide +kernel
theorem dL_law_1076 : decode cL_law 1076 = .ok (.iload_n 3, 1) := by decide +kernel
theorem dL_law_1077 : decode cL_law 1077 = .ok (.iconst 1, 1) := by decide +kernel
theorem dL_law_1078 : decode cL_law 1078 = .ok (.iadd, 1) := by decide +kernel
theorem dL_law_1079 : decode cL_law 1079 = .ok (.iaload, 1) := by decide +kernel
theorem dL_law_1080 : decode cL_law 1080 = .ok (.invokevirtual 146, 3) := by decide +kernel
theorem dL_law_1083 : decode cL_law 1083 = .ok (.if_icmp .eq 127, 3) := by decide +kernel
theorem dL_law_1088 : decode cL_law 1088 = .ok (.aload_n 1, 1) := by decide +kernel
theorem dL_law_1089 : decode cL_law 1089 = .ok (.aload_n 0, 1) := by decide +kernel
theorem dL_law_1090 : decode cL_law 1090 = .ok (.iload_n 3, 1) := by decide +kernel
theorem dL_law_1091 : decode cL_law 1091 = .ok (.iconst 1, 1) := by decide +kernel
theorem dL_law_1092 : decode cL_law 1092 = .ok (.iadd, 1) := by decide +kernel
theorem dL_law_1093 : decode cL_law 1093 = .ok (.iaload, 1) := by decide +kernel
theorem dL_law_1094 : decode cL_law 1094 = .ok (.aload_n 0, 1) := by decide +kernel
theorem dL_law_1095 : decode cL_law 1095 = .ok (.iload_n 3, 1) := by decide +kernel
theorem dL_law_1096 : decode cL_law 1096 = .ok (.iconst 2, 1) := by decide +kernel
theorem dL_law_1097 : decode cL_law 1097 = .ok (.iadd, 1) := by decide +kernel
theorem dL_law_1098 : decode cL_law 1098 = .ok (.iaload, 1) := by decide +kernel
theorem dL_law_1099 : decode cL_law 1099 = .ok (.aload_n 0, 1) := by decide +kernel
theorem dL_law_1100 : decode cL_law 1100 = .ok (.iload_n 3, 1) := by decide +kernel
theorem dL_law_1101 : decode cL_law 1101 = .ok (.iconst 3, 1) := by decide +kernel
theorem dL_law_1102 : decode cL_law 1102 = .ok (.iadd, 1) := by decide +kernel
theorem dL_law_1103 : decode cL_law 1103 = .ok (.iaload, 1) := by decide +kernel
theorem dL_law_1104 : decode cL_law 1104 = .ok (.aload_n 0, 1) := by decide +kernel
theorem dL_law_1105 : decode cL_law 1105 = .ok (.iload_n 3, 1) := by decide +kernel
theorem dL_law_1106 : decode cL_law 1106 = .ok (.iconst 4, 1) := by decide +kernel
theorem dL_law_1107 : decode cL_law 1107 = .ok (.iadd, 1) := by decide +kernel
theorem dL_law_1108 : decode cL_law 1108 = .ok (.iaload, 1) := by decide +kernel
theorem dL_law_1109 : decode cL_law 1109 = .ok (.invokevirtual 147, 3) := by decide +kernel
theorem dL_law_1112 : decode cL_law 1112 = .ok (.pop, 1) := by decide +kernel
theorem dL_law_1113 : decode cL_law 1113 = .ok (.aload_n 2, 1) := by decide +kernel
theorem dL_law_1114 : decode cL_law 1114 = .ok (.aload_n 0, 1) := by decide +kernel
theorem dL_law_1115 : decode cL_law 1115 = .ok (.iload_n 3, 1) := by decide +kernel
theorem dL_law_1116 : decode cL_law 1116 = .ok (.iconst 1, 1) := by decide +kernel
theorem dL_law_1117 : decode cL_law 1117 = .ok (.iadd, 1) := by decide +kernel
theorem dL_law_1118 : decode cL_law 1118 = .ok (.iaload, 1) := by decide +kernel
theorem dL_law_1119 : decode cL_law 1119 = .ok (.aload_n 0, 1) := by decide +kernel
theorem dL_law_1120 : decode cL_law 1120 = .ok (.iload_n 3, 1) := by decide +kernel
theorem dL_law_1121 : decode cL_law 1121 = .ok (.iconst 2, 1) := by decide +kernel
theorem dL_law_1122 : decode cL_law 1122 = .ok (.iadd, 1) := by decide +kernel
theorem dL_law_1123 : decode cL_law 1123 = .ok (.iaload, 1) := by decide +kernel
theorem dL_law_1124 : decode cL_law 1124 = .ok (.aload_n 0, 1) := by decide +kernel
theorem dL_law_1125 : decode cL_law 1125 = .ok (.iload_n 3, 1) := by decide +kernel
theorem dL_law_1126 : decode cL_law 1126 = .ok (.iconst 3, 1) := by decide +kernel
theorem dL_law_1127 : decode cL_law 1127 = .ok (.iadd, 1) := by decide +kernel
theorem dL_law_1128 : decode cL_law 1128 = .ok (.iaload, 1) := by decide +kernel
theorem dL_law_1129 : decode cL_law 1129 = .ok (.aload_n 0, 1) := by decide +kernel
theorem dL_law_1130 : decode cL_law 1130 = .ok (.iload_n 3, 1) := by decide +kernel
theorem dL_law_1131 : decode cL_law 1131 = .ok (.iconst 4, 1) := by decide +kernel
theorem dL_law_1132 : decode cL_law 1132 = .ok (.iadd, 1) := by decide +kernel
theorem dL_law_1133 : decode cL_law 1133 = .ok (.iaload, 1) := by decide +kernel
theorem dL_law_1134 : decode cL_law 1134 = .ok (.invokevirtual 150, 3) := by decide +kernel
theorem dL_law_1137 : decode cL_law 1137 = .ok (.pop, 1) := by decide +kernel
theorem dL_law_1138 : decode cL_law 1138 = .ok (.goto 72, 3) := by decide +kernel
theorem dL_law_1141 : decode cL_law 1141 = .ok (.aload_n 1, 1) := by decide +kernel
theorem dL_law_1142 : decode cL_law 1142 = .ok (.aload_n 0, 1) := by decide +kernel
theorem dL_law_1143 : decode cL_law 1143 = .ok (.iload_n 3, 1) := by decide +kernel
theorem dL_law_1144 : decode cL_law 1144 = .ok (.iconst 1, 1) := by decide +kernel
theorem dL_law_1145 : decode cL_law 1145 = .ok (.iadd, 1) := by decide +kernel
theorem dL_law_1146 : decode cL_law 1146 = .ok (.iaload, 1) := by decide +kernel
theorem dL_law_1147 : decode cL_law 1147 = .ok (.invokevirtual 151, 3) := by decide +kernel
theorem dL_law_1150 : decode cL_law 1150 = .ok (.pop, 1) := by decide +kernel
theorem dL_law_1151 : decode cL_law 1151 = .ok (.aload_n 2, 1) := by decide +kernel
theorem dL_law_1152 : decode cL_law 1152 = .ok (.aload_n 0, 1) := by decide +kernel
theorem dL_law_1153 : decode cL_law 1153 = .ok (.iload_n 3, 1) := by decide +kernel
theorem dL_law_1154 : decode cL_law 1154 = .ok (.iconst 1, 1) := by decide +kernel
theorem dL_law_1155 : decode cL_law 1155 = .ok (.iadd, 1) := by decide +kernel
theorem dL_law_1156 : decode cL_law 1156 = .ok (.iaload, 1) := by decide +kernel
theorem dL_law_1157 : decode cL_law 1157 = .ok (.invokevirtual 154, 3) := by decide +kernel
theorem dL_law_1160 : decode cL_law 1160 = .ok (.pop, 1) := by decide +kernel
theorem dL_law_1161 : decode cL_law 1161 = .ok (.goto 49, 3) := by decide +kernel
theorem dL_law_1164 : decode cL_law 1164 = .ok (.aload_n 1, 1) := by decide +kernel
theorem dL_law_1165 : decode cL_law 1165 = .ok (.aload_n 0, 1) := by decide +kernel
theorem dL_law_1166 : decode cL_law 1166 = .ok (.iload_n 3, 1) := by decide +kernel
theorem dL_law_1167 : decode cL_law 1167 = .ok (.iconst 1, 1) := by decide +kernel
theorem dL_law_1168 : decode cL_law 1168 = .ok (.iadd, 1) := by decide +kernel
theorem dL_law_1169 : decode cL_law 1169 = .ok (.iaload, 1) := by decide +kernel
theorem dL_law_1170 : decode cL_law 1170 = .ok (.invokevirtual 155, 3) := by decide +kernel
theorem dL_law_1173 : decode cL_law 1173 = .ok (.pop, 1) := by decide +kernel
theorem dL_law_1174 : decode cL_law 1174 = .ok (.aload_n 2, 1) := by decide +kernel
theorem dL_law_1175 : decode cL_law 1175 = .ok (.aload_n 0, 1) := by decide +kernel
theorem dL_law_1176 : decode cL_law 1176 = .ok (.iload_n 3, 1) := by decide +kernel
theorem dL_law_1177 : decode cL_law 1177 = .ok (.iconst 1, 1) := by decide +kernel
theorem dL_law_1178 : decode cL_law 1178 = .ok (.iadd, 1) := by decide +kernel
theorem dL_law_1179 : decode cL_law 1179 = .ok (.iaload, 1) := by decide +kernel
theorem dL_law_1180 : decode cL_law 1180 = .ok (.invokevirtual 158, 3) := by decide +kernel
theorem dL_law_1183 : decode cL_law 1183 = .ok (.pop, 1) := by decide +kernel
theorem dL_law_1184 : decode cL_law 1184 = .ok (.goto 26, 3) := by decide +kernel
theorem dL_law_1187 : decode cL_law 1187 = .ok (.aload_n 1, 1) := by decide +kernel
theorem dL_law_1188 : decode cL_law 1188 = .ok (.aload_n 0, 1) := by decide +kernel
theorem dL_law_1189 : decode cL_law 1189 = .ok (.iload_n 3, 1) := by decide +kernel
theorem dL_law_1190 : decode cL_law 1190 = .ok (.iconst 1, 1) := by decide +kernel
theorem dL_law_1191 : decode cL_law 1191 = .ok (.iadd, 1) := by decide +kernel
theorem dL_law_1192 : decode cL_law 1192 = .ok (.iaload, 1) := by decide +kernel
theorem dL_law_1193 : decode cL_law 1193 = .ok (.invokevirtual 159, 3) := by decide +kernel
theorem dL_law_1196 : decode cL_law 1196 = .ok (.pop, 1) := by decide +kernel
theorem dL_law_1197 : decode cL_law 1197 = .ok (.aload_n 2, 1) := by decide +kernel
theorem dL_law_1198 : decode cL_law 1198 = .ok (.aload_n 0, 1) := by decide +kernel
theorem dL_law_1199 : decode cL_law 1199 = .ok (.iload_n 3, 1) := by decide +kernel
theorem dL_law_1200 : decode cL_law 1200 = .ok (.iconst 1, 1) := by decide +kernel
theorem dL_law_1201 : decode cL_law 1201 = .ok (.iadd, 1) := by decide +kernel
theorem dL_law_1202 : decode cL_law 1202 = .ok (.iaload, 1) := by decide +kernel
theorem dL_law_1203 : decode cL_law 1203 = .ok (.invokevirtual 162, 3) := by decide +kernel
theorem dL_law_1206 : decode cL_law 1206 = .ok (.pop, 1) := by decide +kernel
theorem dL_law_1207 : decode cL_law 1207 = .ok (.goto 3, 3) := by decide +kernel
set_option maxHeartbeats 4000000 in
set_option maxRecDepth 100000 in
theorem law_18 {p : Program} {l : Launch} {e : Env} {s : State} {m : MethodId} {below : List Frame} {meth : Method} {c : Code} {A : Nat → Prop} {kA vA : Nat → Nat} {dC : Nat → ClassId} {dI : Nat → Nat → Nat} {b : Nat} {xs : Nat → Int32} {L : Nat} {a : Nat → Nat} {k : Nat → ClassId} {q : Nat → Nat → Option Nat} {a2 : Nat → Nat} {k2 : Nat → ClassId} {q2 : Nat → Nat → Option Nat} (C1 : lwC p s m meth c A kA vA dC dI b xs L a k q a2 k2) {x : Int32} {md ix : Nat → Int32} (hM : (∀ j : Nat, j < 4 → md j = 0 ∨ md j = 1)) {H : Heap} {locs : List Loc} (hX : xP dC dI a k q x md ix H) (hY : mP dC dI a2 k2 q2 x md ix H) (hS : va_S A s.heap H locs) {ls : Array Slot} {i : Int32} (hi : 0 ≤ i.toInt ∧ i.toInt + 6 ≤ (L : Int)) (hl : lv_has ls 4 [(3, .int i), (2, .ref (a2 0)), (1, .ref (a 0)), (0, .ref b)])
    (hC : ∀ (x : Int32) (md ix : Nat → Int32) (H : Heap) (locs : List Loc), (∀ j : Nat, j < 4 → md j = 0 ∨ md j = 1) → xP dC dI a k q x md ix H → mP dC dI a2 k2 q2 x md ix H → va_S A s.heap H locs → W p l e room_1 s m #[Value.ref b] below meth c H locs 152 8829 (lw_Z below #[Value.ref b] s) (F0 m 1210 ls [])) : W p l e room_1 s m #[Value.ref b] below meth c H locs 152 8829 (lw_Z below #[Value.ref b] s) (F0 m 646 ls []) := by
  obtain ⟨C0, hL, hA, hAq, hE, hT, hQ, hNx, hNm, hdx, hdm, hKx, hKm⟩ := C1
  obtain ⟨hx, hb, hr, hml, hown, hts, hXs, hbl, hlocks, hgv⟩ := id C0
  have hown : s.vm.findClass RL = some m.cls := hown
  have hq : ∀ w ∈ wsA, w.before _ s = true := fun w h => hts w (List.mem_filter.mp h).1
  have hbA : ¬ A b := fun h => Nat.not_le.mpr hbl (hAq b h)
  refine lv_aload_n hx hb dL_law_646 rfl (lv_at hl 2 rfl) ?_
  refine lv_aload_n hx hb dL_law_647 rfl (lv_at hl 3 rfl) ?_
  refine lv_iload_n hx hb dL_law_648 rfl (lv_at hl 0 rfl) ?_
  refine lv_iconst (v := 1) hx hb dL_law_649 (by decide) ?_
  refine lv_iadd hx hb dL_law_650 ?_
  refine lv_topi (fun y1_1 ey1_1 => ?_)
  refine va_sld hx hb hXs hbl hbA hS (sc_in ey1_1 hi hL (by decide)) dL_law_651 ?_
  refine lv_topi (fun z1_1 ez1_1 => ?_)
  have hFx : ∀ p : Nat, inL (xL a) H.size p → A p := fun p h => in_A hNx hA hS h
  refine va_calli (va_runV (As := [.int z1_1]) (rest := []) ⟨hx, hb, hml, hown, hq⟩ (X_knowing l dC dI _ kA vA a k q hQ hNx.tt x md ix hM z1_1) (cwV 1 hq (gV qw_943 qw_944 qw_945 qw_119 qw_946) rfl rfl rfl (by decide +kernel) ⟨Nat.le_of_ble_eq_true rfl, Nat.le_of_ble_eq_true rfl⟩) ⟨fun ar U g mk h => by obtain ⟨q0, q1, qX, qK, qE, qT⟩ := h; exact ⟨q0, q1, qX, va_K.moved (u := U) (U := U.calling g mk ar) (Vm.Alike.refl U.vm) qK, xE.same rfl qE, xT.same rfl qT⟩, hX.recv hKx, fun U hU hW => ⟨rfl, by rw [hU], by rw [hU]; exact hX, va_K.moved hW.alike hKx, xE.warm hW hE, by rw [hU]; exact xT.call hW hT hS hFx⟩⟩ rfl rfl hl.1 rfl (lv_room (Nat.le_of_ble_eq_true rfl)) dL_law_652 ⟨Nat.le_of_ble_eq_true rfl, Nat.le_of_ble_eq_true rfl⟩) hS (fun p _ h => hFx p h) hFx (fun r_1 u1 t1 H1 locs ht1 hvm1 hw1 hB1 hz1 hk1 hS => ?_)
  have hX1 : xP dC dI a k q x md ix t1.heap := hB1
  rw [ht1] at hX1
  have hY := hY.keep hdm hk1
  refine lv_pop hx hb dL_law_655 rfl ?_
  refine lv_aload_n hx hb dL_law_656 rfl (lv_at hl 1 rfl) ?_
  refine lv_aload_n hx hb dL_law_657 rfl (lv_at hl 3 rfl) ?_
  refine lv_iload_n hx hb dL_law_658 rfl (lv_at hl 0 rfl) ?_
  refine lv_iconst (v := 1) hx hb dL_law_659 (by decide) ?_
  refine lv_iadd hx hb dL_law_660 ?_
  refine lv_topi (fun y2_1 ey2_1 => ?_)
  refine va_sld hx hb hXs hbl hbA hS (sc_in ey2_1 hi hL (by decide)) dL_law_661 ?_
  refine lv_topi (fun z2_1 ez2_1 => ?_)
  have hFm : ∀ p : Nat, inL (mL a2) H1.size p → A p := fun p h => in_A hNm hA hS h
  refine va_calli (va_runV (As := [.int z2_1]) (rest := []) ⟨hx, hb, hml, hown, hq⟩ (M_knowing l dC dI _ a2 k2 q2 hNm.tt x md ix hM z2_1) (cwV 1 hq (gV qw_1644 qw_1645 qw_1646 qw_131 qw_1647) rfl rfl rfl (by decide +kernel) ⟨Nat.le_of_ble_eq_true rfl, Nat.le_of_ble_eq_true rfl⟩) ⟨fun ar U g mk h => by obtain ⟨q0, q1, qX, qK, qE⟩ := h; exact ⟨q0, q1, qX, va_K.moved (u := U) (U := U.calling g mk ar) (Vm.Alike.refl U.vm) qK, xE.same rfl qE⟩, hY.recv hKm, fun U hU hW => ⟨rfl, by rw [hU], by rw [hU]; exact hY, va_K.moved hW.alike hKm, xE.warm hW hE⟩⟩ rfl rfl hl.1 rfl (lv_room (Nat.le_of_ble_eq_true rfl)) dL_law_662 ⟨Nat.le_of_ble_eq_true rfl, Nat.le_of_ble_eq_true rfl⟩) hS (fun p _ h => hFm p h) hFm (fun r_2 u2 t2 H2 locs ht2 hvm2 hw2 hB2 hz2 hk2 hS => ?_)
  have hY2 : mP dC dI a2 k2 q2 x md ix t2.heap := hB2
  rw [ht2] at hY2
  have hX2 := hX1.keep hdx hk2
  refine lv_pop hx hb dL_law_665 rfl ?_
  refine lv_goto (tgt := 1210) hx hb dL_law_666 (by decide) ?_
  exact hC _ _ _ _ _ hM hX2 hY2 hS

set_option maxHeartbeats 4000000 in
set_option maxRecDepth 100000 in
theorem law_19 {p : Program} {l : Launch} {e : Env} {s : State} {m : MethodId} {below : List Frame} {meth : Method} {c : Code} {A : Nat → Prop} {kA vA : Nat → Nat} {dC : Nat → ClassId} {dI : Nat → Nat → Nat} {b : Nat} {xs : Nat → Int32} {L : Nat} {a : Nat → Nat} {k : Nat → ClassId} {q : Nat → Nat → Option Nat} {a2 : Nat → Nat} {k2 : Nat → ClassId} {q2 : Nat → Nat → Option Nat} (C1 : lwC p s m meth c A kA vA dC dI b xs L a k q a2 k2) {x : Int32} {md ix : Nat → Int32} (hM : (∀ j : Nat, j < 4 → md j = 0 ∨ md j = 1)) {H : Heap} {locs : List Loc} (hX : xP dC dI a k q x md ix H) (hY : mP dC dI a2 k2 q2 x md ix H) (hS : va_S A s.heap H locs) {ls : Array Slot} {i : Int32} (hi : 0 ≤ i.toInt ∧ i.toInt + 6 ≤ (L : Int)) (hl : lv_has ls 4 [(3, .int i), (2, .ref (a2 0)), (1, .ref (a 0)), (0, .ref b)])
    (hC : ∀ (x : Int32) (md ix : Nat → Int32) (H : Heap) (locs : List Loc), (∀ j : Nat, j < 4 → md j = 0 ∨ md j = 1) → xP dC dI a k q x md ix H → mP dC dI a2 k2 q2 x md ix H → va_S A s.heap H locs → W p l e room_1 s m #[Value.ref b] below meth c H locs 152 8829 (lw_Z below #[Value.ref b] s) (F0 m 1210 ls [])) : W p l e room_1 s m #[Value.ref b] below meth c H locs 152 8829 (lw_Z below #[Value.ref b] s) (F0 m 669 ls []) := by
  obtain ⟨C0, hL, hA, hAq, hE, hT, hQ, hNx, hNm, hdx, hdm, hKx, hKm⟩ := C1
  obtain ⟨hx, hb, hr, hml, hown, hts, hXs, hbl, hlocks, hgv⟩ := id C0
  have hown : s.vm.findClass RL = some m.cls := hown
  have hq : ∀ w ∈ wsA, w.before _ s = true := fun w h => hts w (List.mem_filter.mp h).1
  have hbA : ¬ A b := fun h => Nat.not_le.mpr hbl (hAq b h)
  refine lv_aload_n hx hb dL_law_669 rfl (lv_at hl 2 rfl) ?_
  refine lv_aload_n hx hb dL_law_670 rfl (lv_at hl 3 rfl) ?_
  refine lv_iload_n hx hb dL_law_671 rfl (lv_at hl 0 rfl) ?_
  refine lv_iconst (v := 1) hx hb dL_law_672 (by decide) ?_
  refine lv_iadd hx hb dL_law_673 ?_
  refine lv_topi (fun y1_1 ey1_1 => ?_)
  refine va_sld hx hb hXs hbl hbA hS (sc_in ey1_1 hi hL (by decide)) dL_law_674 ?_
  refine lv_topi (fun z1_1 ez1_1 => ?_)
  refine lv_aload_n hx hb dL_law_675 rfl (lv_at hl 3 rfl) ?_
  refine lv_iload_n hx hb dL_law_676 rfl (lv_at hl 0 rfl) ?_
  refine lv_iconst (v := 2) hx hb dL_law_677 (by decide) ?_
  refine lv_iadd hx hb dL_law_678 ?_
  refine lv_topi (fun y1_2 ey1_2 => ?_)
  refine va_sld hx hb hXs hbl hbA hS (sc_in ey1_2 hi hL (by decide)) dL_law_679 ?_
  refine lv_topi (fun z1_2 ez1_2 => ?_)
  have hFx : ∀ p : Nat, inL (xL a) H.size p → A p := fun p h => in_A hNx hA hS h
  refine va_calli (va_runV (As := [.int z1_1, .int z1_2]) (rest := []) ⟨hx, hb, hml, hown, hq⟩ (X_bestRow l dC dI _ kA vA a k q hQ hNx.tt x md ix hM z1_1 z1_2) (cwV 2 hq (gV qw_947 qw_948 qw_949 qw_119 qw_950) rfl rfl rfl (by decide +kernel) ⟨Nat.le_of_ble_eq_true rfl, Nat.le_of_ble_eq_true rfl⟩) ⟨fun ar U g mk h => by obtain ⟨q0, q1, qX, qK, qE, qT⟩ := h; exact ⟨q0, q1, qX, va_K.moved (u := U) (U := U.calling g mk ar) (Vm.Alike.refl U.vm) qK, xE.same rfl qE, xT.same rfl qT⟩, hX.recv hKx, fun U hU hW => ⟨rfl, by rw [hU], by rw [hU]; exact hX, va_K.moved hW.alike hKx, xE.warm hW hE, by rw [hU]; exact xT.call hW hT hS hFx⟩⟩ rfl rfl hl.1 rfl (lv_room (Nat.le_of_ble_eq_true rfl)) dL_law_680 ⟨Nat.le_of_ble_eq_true rfl, Nat.le_of_ble_eq_true rfl⟩) hS (fun p _ h => hFx p h) hFx (fun r_1 u1 t1 H1 locs ht1 hvm1 hw1 hB1 hz1 hk1 hS => ?_)
  have hX1 : xP dC dI a k q x md ix t1.heap := hB1
  rw [ht1] at hX1
  have hY := hY.keep hdm hk1
  refine lv_pop hx hb dL_law_683 rfl ?_
  refine lv_aload_n hx hb dL_law_684 rfl (lv_at hl 1 rfl) ?_
  refine lv_aload_n hx hb dL_law_685 rfl (lv_at hl 3 rfl) ?_
  refine lv_iload_n hx hb dL_law_686 rfl (lv_at hl 0 rfl) ?_
  refine lv_iconst (v := 1) hx hb dL_law_687 (by decide) ?_
  refine lv_iadd hx hb dL_law_688 ?_
  refine lv_topi (fun y2_1 ey2_1 => ?_)
  refine va_sld hx hb hXs hbl hbA hS (sc_in ey2_1 hi hL (by decide)) dL_law_689 ?_
  refine lv_topi (fun z2_1 ez2_1 => ?_)
  refine lv_aload_n hx hb dL_law_690 rfl (lv_at hl 3 rfl) ?_
  refine lv_iload_n hx hb dL_law_691 rfl (lv_at hl 0 rfl) ?_
  refine lv_iconst (v := 2) hx hb dL_law_692 (by decide) ?_
  refine lv_iadd hx hb dL_law_693 ?_
  refine lv_topi (fun y2_2 ey2_2 => ?_)
  refine va_sld hx hb hXs hbl hbA hS (sc_in ey2_2 hi hL (by decide)) dL_law_694 ?_
  refine lv_topi (fun z2_2 ez2_2 => ?_)
  have hFm : ∀ p : Nat, inL (mL a2) H1.size p → A p := fun p h => in_A hNm hA hS h
  refine va_calli (va_runV (As := [.int z2_1, .int z2_2]) (rest := []) ⟨hx, hb, hml, hown, hq⟩ (M_bestRow l dC dI _ a2 k2 q2 hNm.tt x md ix hM z2_1 z2_2) (cwV 2 hq (gV qw_1648 qw_1649 qw_1650 qw_131 qw_1651) rfl rfl rfl (by decide +kernel) ⟨Nat.le_of_ble_eq_true rfl, Nat.le_of_ble_eq_true rfl⟩) ⟨fun ar U g mk h => by obtain ⟨q0, q1, qX, qK, qE⟩ := h; exact ⟨q0, q1, qX, va_K.moved (u := U) (U := U.calling g mk ar) (Vm.Alike.refl U.vm) qK, xE.same rfl qE⟩, hY.recv hKm, fun U hU hW => ⟨rfl, by rw [hU], by rw [hU]; exact hY, va_K.moved hW.alike hKm, xE.warm hW hE⟩⟩ rfl rfl hl.1 rfl (lv_room (Nat.le_of_ble_eq_true rfl)) dL_law_695 ⟨Nat.le_of_ble_eq_true rfl, Nat.le_of_ble_eq_true rfl⟩) hS (fun p _ h => hFm p h) hFm (fun r_2 u2 t2 H2 locs ht2 hvm2 hw2 hB2 hz2 hk2 hS => ?_)
  have hY2 : mP dC dI a2 k2 q2 x md ix t2.heap := hB2
  rw [ht2] at hY2
  have hX2 := hX1.keep hdx hk2
  refine lv_pop hx hb dL_law_698 rfl ?_
  refine lv_goto (tgt := 1210) hx hb dL_law_699 (by decide) ?_
  exact hC _ _ _ _ _ hM hX2 hY2 hS

set_option maxHeartbeats 4000000 in
set_option maxRecDepth 100000 in
theorem law_20 {p : Program} {l : Launch} {e : Env} {s : State} {m : MethodId} {below : List Frame} {meth : Method} {c : Code} {A : Nat → Prop} {kA vA : Nat → Nat} {dC : Nat → ClassId} {dI : Nat → Nat → Nat} {b : Nat} {xs : Nat → Int32} {L : Nat} {a : Nat → Nat} {k : Nat → ClassId} {q : Nat → Nat → Option Nat} {a2 : Nat → Nat} {k2 : Nat → ClassId} {q2 : Nat → Nat → Option Nat} (C1 : lwC p s m meth c A kA vA dC dI b xs L a k q a2 k2) {x : Int32} {md ix : Nat → Int32} (hM : (∀ j : Nat, j < 4 → md j = 0 ∨ md j = 1)) {H : Heap} {locs : List Loc} (hX : xP dC dI a k q x md ix H) (hY : mP dC dI a2 k2 q2 x md ix H) (hS : va_S A s.heap H locs) {ls : Array Slot} {i : Int32} (hi : 0 ≤ i.toInt ∧ i.toInt + 6 ≤ (L : Int)) (hl : lv_has ls 4 [(3, .int i), (2, .ref (a2 0)), (1, .ref (a 0)), (0, .ref b)])
    (hC : ∀ (x : Int32) (md ix : Nat → Int32) (H : Heap) (locs : List Loc), (∀ j : Nat, j < 4 → md j = 0 ∨ md j = 1) → xP dC dI a k q x md ix H → mP dC dI a2 k2 q2 x md ix H → va_S A s.heap H locs → W p l e room_1 s m #[Value.ref b] below meth c H locs 152 8829 (lw_Z below #[Value.ref b] s) (F0 m 1210 ls [])) : W p l e room_1 s m #[Value.ref b] below meth c H locs 152 8829 (lw_Z below #[Value.ref b] s) (F0 m 702 ls []) := by
  obtain ⟨C0, hL, hA, hAq, hE, hT, hQ, hNx, hNm, hdx, hdm, hKx, hKm⟩ := C1
  obtain ⟨hx, hb, hr, hml, hown, hts, hXs, hbl, hlocks, hgv⟩ := id C0
  have hown : s.vm.findClass RL = some m.cls := hown
  have hq : ∀ w ∈ wsA, w.before _ s = true := fun w h => hts w (List.mem_filter.mp h).1
  have hbA : ¬ A b := fun h => Nat.not_le.mpr hbl (hAq b h)
  refine lv_aload_n hx hb dL_law_702 rfl (lv_at hl 2 rfl) ?_
  refine lv_aload_n hx hb dL_law_703 rfl (lv_at hl 3 rfl) ?_
  refine lv_iload_n hx hb dL_law_704 rfl (lv_at hl 0 rfl) ?_
  refine lv_iconst (v := 1) hx hb dL_law_705 (by decide) ?_
  refine lv_iadd hx hb dL_law_706 ?_
  refine lv_topi (fun y1_1 ey1_1 => ?_)
  refine va_sld hx hb hXs hbl hbA hS (sc_in ey1_1 hi hL (by decide)) dL_law_707 ?_
  refine lv_topi (fun z1_1 ez1_1 => ?_)
  refine lv_aload_n hx hb dL_law_708 rfl (lv_at hl 3 rfl) ?_
  refine lv_iload_n hx hb dL_law_709 rfl (lv_at hl 0 rfl) ?_
  refine lv_iconst (v := 2) hx hb dL_law_710 (by decide) ?_
  refine lv_iadd hx hb dL_law_711 ?_
  refine lv_topi (fun y1_2 ey1_2 => ?_)
  refine va_sld hx hb hXs hbl hbA hS (sc_in ey1_2 hi hL (by decide)) dL_law_712 ?_
  refine lv_topi (fun z1_2 ez1_2 => ?_)
  have hFx : ∀ p : Nat, inL (xL a) H.size p → A p := fun p h => in_A hNx hA hS h
  refine va_calli (va_runV (As := [.int z1_1, .int z1_2]) (rest := []) ⟨hx, hb, hml, hown, hq⟩ (X_hush l dC dI _ kA vA a k q hQ hNx.tt x md ix hM z1_1 z1_2) (cwV 2 hq (gV qw_1020 qw_1021 qw_1022 qw_119 qw_1023) rfl rfl rfl (by decide +kernel) ⟨Nat.le_of_ble_eq_true rfl, Nat.le_of_ble_eq_true rfl⟩) ⟨fun ar U g mk h => by obtain ⟨q0, q1, qX, qK, qE, qT⟩ := h; exact ⟨q0, q1, qX, va_K.moved (u := U) (U := U.calling g mk ar) (Vm.Alike.refl U.vm) qK, xE.same rfl qE, xT.same rfl qT⟩, hX.recv hKx, fun U hU hW => ⟨rfl, by rw [hU], by rw [hU]; exact hX, va_K.moved hW.alike hKx, xE.warm hW hE, by rw [hU]; exact xT.call hW hT hS hFx⟩⟩ rfl rfl hl.1 rfl (lv_room (Nat.le_of_ble_eq_true rfl)) dL_law_713 ⟨Nat.le_of_ble_eq_true rfl, Nat.le_of_ble_eq_true rfl⟩) hS (fun p _ h => hFx p h) hFx (fun r_1 u1 t1 H1 locs ht1 hvm1 hw1 hB1 hz1 hk1 hS => ?_)
  have hX1 : xP dC dI a k q x md ix t1.heap := hB1
  rw [ht1] at hX1
  have hY := hY.keep hdm hk1
  refine lv_pop hx hb dL_law_716 rfl ?_
  refine lv_aload_n hx hb dL_law_717 rfl (lv_at hl 1 rfl) ?_
  refine lv_aload_n hx hb dL_law_718 rfl (lv_at hl 3 rfl) ?_
  refine lv_iload_n hx hb dL_law_719 rfl (lv_at hl 0 rfl) ?_
  refine lv_iconst (v := 1) hx hb dL_law_720 (by decide) ?_
  refine lv_iadd hx hb dL_law_721 ?_
  refine lv_topi (fun y2_1 ey2_1 => ?_)
  refine va_sld hx hb hXs hbl hbA hS (sc_in ey2_1 hi hL (by decide)) dL_law_722 ?_
  refine lv_topi (fun z2_1 ez2_1 => ?_)
  refine lv_aload_n hx hb dL_law_723 rfl (lv_at hl 3 rfl) ?_
  refine lv_iload_n hx hb dL_law_724 rfl (lv_at hl 0 rfl) ?_
  refine lv_iconst (v := 2) hx hb dL_law_725 (by decide) ?_
  refine lv_iadd hx hb dL_law_726 ?_
  refine lv_topi (fun y2_2 ey2_2 => ?_)
  refine va_sld hx hb hXs hbl hbA hS (sc_in ey2_2 hi hL (by decide)) dL_law_727 ?_
  refine lv_topi (fun z2_2 ez2_2 => ?_)
  have hFm : ∀ p : Nat, inL (mL a2) H1.size p → A p := fun p h => in_A hNm hA hS h
  refine va_calli (va_runV (As := [.int z2_1, .int z2_2]) (rest := []) ⟨hx, hb, hml, hown, hq⟩ (M_hush l dC dI _ a2 k2 q2 hNm.tt x md ix hM z2_1 z2_2) (cwV 2 hq (gV qw_1681 qw_1682 qw_1683 qw_131 qw_1684) rfl rfl rfl (by decide +kernel) ⟨Nat.le_of_ble_eq_true rfl, Nat.le_of_ble_eq_true rfl⟩) ⟨fun ar U g mk h => by obtain ⟨q0, q1, qX, qK, qE⟩ := h; exact ⟨q0, q1, qX, va_K.moved (u := U) (U := U.calling g mk ar) (Vm.Alike.refl U.vm) qK, xE.same rfl qE⟩, hY.recv hKm, fun U hU hW => ⟨rfl, by rw [hU], by rw [hU]; exact hY, va_K.moved hW.alike hKm, xE.warm hW hE⟩⟩ rfl rfl hl.1 rfl (lv_room (Nat.le_of_ble_eq_true rfl)) dL_law_728 ⟨Nat.le_of_ble_eq_true rfl, Nat.le_of_ble_eq_true rfl⟩) hS (fun p _ h => hFm p h) hFm (fun r_2 u2 t2 H2 locs ht2 hvm2 hw2 hB2 hz2 hk2 hS => ?_)
  have hY2 : mP dC dI a2 k2 q2 x md ix t2.heap := hB2
  rw [ht2] at hY2
  have hX2 := hX1.keep hdx hk2
  refine lv_pop hx hb dL_law_731 rfl ?_
  refine lv_goto (tgt := 1210) hx hb dL_law_732 (by decide) ?_
  exact hC _ _ _ _ _ hM hX2 hY2 hS

set_option maxHeartbeats 4000000 in
set_option maxRecDepth 100000 in
theorem law_21 {p : Program} {l : Launch} {e : Env} {s : State} {m : MethodId} {below : List Frame} {meth : Method} {c : Code} {A : Nat → Prop} {kA vA : Nat → Nat} {dC : Nat → ClassId} {dI : Nat → Nat → Nat} {b : Nat} {xs : Nat → Int32} {L : Nat} {a : Nat → Nat} {k : Nat → ClassId} {q : Nat → Nat → Option Nat} {a2 : Nat → Nat} {k2 : Nat → ClassId} {q2 : Nat → Nat → Option Nat} (C1 : lwC p s m meth c A kA vA dC dI b xs L a k q a2 k2) {x : Int32} {md ix : Nat → Int32} (hM : (∀ j : Nat, j < 4 → md j = 0 ∨ md j = 1)) {H : Heap} {locs : List Loc} (hX : xP dC dI a k q x md ix H) (hY : mP dC dI a2 k2 q2 x md ix H) (hS : va_S A s.heap H locs) {ls : Array Slot} {i : Int32} (hi : 0 ≤ i.toInt ∧ i.toInt + 6 ≤ (L : Int)) (hl : lv_has ls 4 [(3, .int i), (2, .ref (a2 0)), (1, .ref (a 0)), (0, .ref b)])
    (hC : ∀ (x : Int32) (md ix : Nat → Int32) (H : Heap) (locs : List Loc), (∀ j : Nat, j < 4 → md j = 0 ∨ md j = 1) → xP dC dI a k q x md ix H → mP dC dI a2 k2 q2 x md ix H → va_S A s.heap H locs → W p l e room_1 s m #[Value.ref b] below meth c H locs 152 8829 (lw_Z below #[Value.ref b] s) (F0 m 1210 ls [])) : W p l e room_1 s m #[Value.ref b] below meth c H locs 152 8829 (lw_Z below #[Value.ref b] s) (F0 m 735 ls []) := by
  obtain ⟨C0, hL, hA, hAq, hE, hT, hQ, hNx, hNm, hdx, hdm, hKx, hKm⟩ := C1
  obtain ⟨hx, hb, hr, hml, hown, hts, hXs, hbl, hlocks, hgv⟩ := id C0
  have hown : s.vm.findClass RL = some m.cls := hown
  have hq : ∀ w ∈ wsA, w.before _ s = true := fun w h => hts w (List.mem_filter.mp h).1
  have hbA : ¬ A b := fun h => Nat.not_le.mpr hbl (hAq b h)
  refine lv_aload_n hx hb dL_law_735 rfl (lv_at hl 2 rfl) ?_
  refine lv_aload_n hx hb dL_law_736 rfl (lv_at hl 3 rfl) ?_
  refine lv_iload_n hx hb dL_law_737 rfl (lv_at hl 0 rfl) ?_
  refine lv_iconst (v := 1) hx hb dL_law_738 (by decide) ?_
  refine lv_iadd hx hb dL_law_739 ?_
  refine lv_topi (fun y1_1 ey1_1 => ?_)
  refine va_sld hx hb hXs hbl hbA hS (sc_in ey1_1 hi hL (by decide)) dL_law_740 ?_
  refine lv_topi (fun z1_1 ez1_1 => ?_)
  have hFx : ∀ p : Nat, inL (xL a) H.size p → A p := fun p h => in_A hNx hA hS h
  refine va_calli (va_runV (As := [.int z1_1]) (rest := []) ⟨hx, hb, hml, hown, hq⟩ (X_rows l dC dI _ kA vA a k q hQ hNx.tt x md ix hM z1_1) (cwV 1 hq (gV qw_1024 qw_1025 qw_1026 qw_119 qw_1027) rfl rfl rfl (by decide +kernel) ⟨Nat.le_of_ble_eq_true rfl, Nat.le_of_ble_eq_true rfl⟩) ⟨fun ar U g mk h => by obtain ⟨q0, q1, qX, qK, qE, qT⟩ := h; exact ⟨q0, q1, qX, va_K.moved (u := U) (U := U.calling g mk ar) (Vm.Alike.refl U.vm) qK, xE.same rfl qE, xT.same rfl qT⟩, hX.recv hKx, fun U hU hW => ⟨rfl, by rw [hU], by rw [hU]; exact hX, va_K.moved hW.alike hKx, xE.warm hW hE, by rw [hU]; exact xT.call hW hT hS hFx⟩⟩ rfl rfl hl.1 rfl (lv_room (Nat.le_of_ble_eq_true rfl)) dL_law_741 ⟨Nat.le_of_ble_eq_true rfl, Nat.le_of_ble_eq_true rfl⟩) hS (fun p _ h => hFx p h) hFx (fun r_1 u1 t1 H1 locs ht1 hvm1 hw1 hB1 hz1 hk1 hS => ?_)
  have hX1 : xP dC dI a k q x md ix t1.heap := hB1
  rw [ht1] at hX1
  have hY := hY.keep hdm hk1
  refine lv_pop hx hb dL_law_744 rfl ?_
  refine lv_aload_n hx hb dL_law_745 rfl (lv_at hl 1 rfl) ?_
  refine lv_aload_n hx hb dL_law_746 rfl (lv_at hl 3 rfl) ?_
  refine lv_iload_n hx hb dL_law_747 rfl (lv_at hl 0 rfl) ?_
  refine lv_iconst (v := 1) hx hb dL_law_748 (by decide) ?_
  refine lv_iadd hx hb dL_law_749 ?_
  refine lv_topi (fun y2_1 ey2_1 => ?_)
  refine va_sld hx hb hXs hbl hbA hS (sc_in ey2_1 hi hL (by decide)) dL_law_750 ?_
  refine lv_topi (fun z2_1 ez2_1 => ?_)
  have hFm : ∀ p : Nat, inL (mL a2) H1.size p → A p := fun p h => in_A hNm hA hS h
  refine va_calli (va_runV (As := [.int z2_1]) (rest := []) ⟨hx, hb, hml, hown, hq⟩ (M_rows l dC dI _ a2 k2 q2 hNm.tt x md ix hM z2_1) (cwV 1 hq (gV qw_1685 qw_1686 qw_1687 qw_131 qw_1688) rfl rfl rfl (by decide +kernel) ⟨Nat.le_of_ble_eq_true rfl, Nat.le_of_ble_eq_true rfl⟩) ⟨fun ar U g mk h => by obtain ⟨q0, q1, qX, qK, qE⟩ := h; exact ⟨q0, q1, qX, va_K.moved (u := U) (U := U.calling g mk ar) (Vm.Alike.refl U.vm) qK, xE.same rfl qE⟩, hY.recv hKm, fun U hU hW => ⟨rfl, by rw [hU], by rw [hU]; exact hY, va_K.moved hW.alike hKm, xE.warm hW hE⟩⟩ rfl rfl hl.1 rfl (lv_room (Nat.le_of_ble_eq_true rfl)) dL_law_751 ⟨Nat.le_of_ble_eq_true rfl, Nat.le_of_ble_eq_true rfl⟩) hS (fun p _ h => hFm p h) hFm (fun r_2 u2 t2 H2 locs ht2 hvm2 hw2 hB2 hz2 hk2 hS => ?_)
  have hY2 : mP dC dI a2 k2 q2 x md ix t2.heap := hB2
  rw [ht2] at hY2
  have hX2 := hX1.keep hdx hk2
  refine lv_pop hx hb dL_law_754 rfl ?_
  refine lv_goto (tgt := 1210) hx hb dL_law_755 (by decide) ?_
  exact hC _ _ _ _ _ hM hX2 hY2 hS

set_option maxHeartbeats 4000000 in
set_option maxRecDepth 100000 in
theorem law_22 {p : Program} {l : Launch} {e : Env} {s : State} {m : MethodId} {below : List Frame} {meth : Method} {c : Code} {A : Nat → Prop} {kA vA : Nat → Nat} {dC : Nat → ClassId} {dI : Nat → Nat → Nat} {b : Nat} {xs : Nat → Int32} {L : Nat} {a : Nat → Nat} {k : Nat → ClassId} {q : Nat → Nat → Option Nat} {a2 : Nat → Nat} {k2 : Nat → ClassId} {q2 : Nat → Nat → Option Nat} (C1 : lwC p s m meth c A kA vA dC dI b xs L a k q a2 k2) {x : Int32} {md ix : Nat → Int32} (hM : (∀ j : Nat, j < 4 → md j = 0 ∨ md j = 1)) {H : Heap} {locs : List Loc} (hX : xP dC dI a k q x md ix H) (hY : mP dC dI a2 k2 q2 x md ix H) (hS : va_S A s.heap H locs) {ls : Array Slot} {i : Int32} (hi : 0 ≤ i.toInt ∧ i.toInt + 6 ≤ (L : Int)) (hl : lv_has ls 4 [(3, .int i), (2, .ref (a2 0)), (1, .ref (a 0)), (0, .ref b)])
    (hC : ∀ (x : Int32) (md ix : Nat → Int32) (H : Heap) (locs : List Loc), (∀ j : Nat, j < 4 → md j = 0 ∨ md j = 1) → xP dC dI a k q x md ix H → mP dC dI a2 k2 q2 x md ix H → va_S A s.heap H locs → W p l e room_1 s m #[Value.ref b] below meth c H locs 152 8829 (lw_Z below #[Value.ref b] s) (F0 m 1210 ls [])) : W p l e room_1 s m #[Value.ref b] below meth c H locs 152 8829 (lw_Z below #[Value.ref b] s) (F0 m 758 ls []) := by
  obtain ⟨C0, hL, hA, hAq, hE, hT, hQ, hNx, hNm, hdx, hdm, hKx, hKm⟩ := C1
  obtain ⟨hx, hb, hr, hml, hown, hts, hXs, hbl, hlocks, hgv⟩ := id C0
  have hown : s.vm.findClass RL = some m.cls := hown
  have hq : ∀ w ∈ wsA, w.before _ s = true := fun w h => hts w (List.mem_filter.mp h).1
  have hbA : ¬ A b := fun h => Nat.not_le.mpr hbl (hAq b h)
  refine lv_aload_n hx hb dL_law_758 rfl (lv_at hl 2 rfl) ?_
  refine lv_aload_n hx hb dL_law_759 rfl (lv_at hl 3 rfl) ?_
  refine lv_iload_n hx hb dL_law_760 rfl (lv_at hl 0 rfl) ?_
  refine lv_iconst (v := 1) hx hb dL_law_761 (by decide) ?_
  refine lv_iadd hx hb dL_law_762 ?_
  refine lv_topi (fun y1_1 ey1_1 => ?_)
  refine va_sld hx hb hXs hbl hbA hS (sc_in ey1_1 hi hL (by decide)) dL_law_763 ?_
  refine lv_topi (fun z1_1 ez1_1 => ?_)
  have hFx : ∀ p : Nat, inL (xL a) H.size p → A p := fun p h => in_A hNx hA hS h
  refine va_calli (va_runV (As := [.int z1_1]) (rest := []) ⟨hx, hb, hml, hown, hq⟩ (X_believed l dC dI _ kA vA a k q hQ hNx.tt x md ix hM z1_1) (cwV 1 hq (gV qw_1028 qw_1029 qw_1030 qw_119 qw_1031) rfl rfl rfl (by decide +kernel) ⟨Nat.le_of_ble_eq_true rfl, Nat.le_of_ble_eq_true rfl⟩) ⟨fun ar U g mk h => by obtain ⟨q0, q1, qX, qK, qE, qT⟩ := h; exact ⟨q0, q1, qX, va_K.moved (u := U) (U := U.calling g mk ar) (Vm.Alike.refl U.vm) qK, xE.same rfl qE, xT.same rfl qT⟩, hX.recv hKx, fun U hU hW => ⟨rfl, by rw [hU], by rw [hU]; exact hX, va_K.moved hW.alike hKx, xE.warm hW hE, by rw [hU]; exact xT.call hW hT hS hFx⟩⟩ rfl rfl hl.1 rfl (lv_room (Nat.le_of_ble_eq_true rfl)) dL_law_764 ⟨Nat.le_of_ble_eq_true rfl, Nat.le_of_ble_eq_true rfl⟩) hS (fun p _ h => hFx p h) hFx (fun r_1 u1 t1 H1 locs ht1 hvm1 hw1 hB1 hz1 hk1 hS => ?_)
  have hX1 : xP dC dI a k q x md ix t1.heap := hB1
  rw [ht1] at hX1
  have hY := hY.keep hdm hk1
  refine lv_pop hx hb dL_law_767 rfl ?_
  refine lv_aload_n hx hb dL_law_768 rfl (lv_at hl 1 rfl) ?_
  refine lv_aload_n hx hb dL_law_769 rfl (lv_at hl 3 rfl) ?_
  refine lv_iload_n hx hb dL_law_770 rfl (lv_at hl 0 rfl) ?_
  refine lv_iconst (v := 1) hx hb dL_law_771 (by decide) ?_
  refine lv_iadd hx hb dL_law_772 ?_
  refine lv_topi (fun y2_1 ey2_1 => ?_)
  refine va_sld hx hb hXs hbl hbA hS (sc_in ey2_1 hi hL (by decide)) dL_law_773 ?_
  refine lv_topi (fun z2_1 ez2_1 => ?_)
  have hFm : ∀ p : Nat, inL (mL a2) H1.size p → A p := fun p h => in_A hNm hA hS h
  refine va_calli (va_runV (As := [.int z2_1]) (rest := []) ⟨hx, hb, hml, hown, hq⟩ (M_believed l dC dI _ a2 k2 q2 hNm.tt x md ix hM z2_1) (cwV 1 hq (gV qw_1701 qw_1702 qw_1703 qw_131 qw_1704) rfl rfl rfl (by decide +kernel) ⟨Nat.le_of_ble_eq_true rfl, Nat.le_of_ble_eq_true rfl⟩) ⟨fun ar U g mk h => by obtain ⟨q0, q1, qX, qK, qE⟩ := h; exact ⟨q0, q1, qX, va_K.moved (u := U) (U := U.calling g mk ar) (Vm.Alike.refl U.vm) qK, xE.same rfl qE⟩, hY.recv hKm, fun U hU hW => ⟨rfl, by rw [hU], by rw [hU]; exact hY, va_K.moved hW.alike hKm, xE.warm hW hE⟩⟩ rfl rfl hl.1 rfl (lv_room (Nat.le_of_ble_eq_true rfl)) dL_law_774 ⟨Nat.le_of_ble_eq_true rfl, Nat.le_of_ble_eq_true rfl⟩) hS (fun p _ h => hFm p h) hFm (fun r_2 u2 t2 H2 locs ht2 hvm2 hw2 hB2 hz2 hk2 hS => ?_)
  have hY2 : mP dC dI a2 k2 q2 x md ix t2.heap := hB2
  rw [ht2] at hY2
  have hX2 := hX1.keep hdx hk2
  refine lv_pop hx hb dL_law_777 rfl ?_
  refine lv_goto (tgt := 1210) hx hb dL_law_778 (by decide) ?_
  exact hC _ _ _ _ _ hM hX2 hY2 hS

set_option maxHeartbeats 4000000 in
set_option maxRecDepth 100000 in
theorem law_23 {p : Program} {l : Launch} {e : Env} {s : State} {m : MethodId} {below : List Frame} {meth : Method} {c : Code} {A : Nat → Prop} {kA vA : Nat → Nat} {dC : Nat → ClassId} {dI : Nat → Nat → Nat} {b : Nat} {xs : Nat → Int32} {L : Nat} {a : Nat → Nat} {k : Nat → ClassId} {q : Nat → Nat → Option Nat} {a2 : Nat → Nat} {k2 : Nat → ClassId} {q2 : Nat → Nat → Option Nat} (C1 : lwC p s m meth c A kA vA dC dI b xs L a k q a2 k2) {x : Int32} {md ix : Nat → Int32} (hM : (∀ j : Nat, j < 4 → md j = 0 ∨ md j = 1)) {H : Heap} {locs : List Loc} (hX : xP dC dI a k q x md ix H) (hY : mP dC dI a2 k2 q2 x md ix H) (hS : va_S A s.heap H locs) {ls : Array Slot} {i : Int32} (hi : 0 ≤ i.toInt ∧ i.toInt + 6 ≤ (L : Int)) (hl : lv_has ls 4 [(3, .int i), (2, .ref (a2 0)), (1, .ref (a 0)), (0, .ref b)])
    (hC : ∀ (x : Int32) (md ix : Nat → Int32) (H : Heap) (locs : List Loc), (∀ j : Nat, j < 4 → md j = 0 ∨ md j = 1) → xP dC dI a k q x md ix H → mP dC dI a2 k2 q2 x md ix H → va_S A s.heap H locs → W p l e room_1 s m #[Value.ref b] below meth c H locs 152 8829 (lw_Z below #[Value.ref b] s) (F0 m 1210 ls [])) : W p l e room_1 s m #[Value.ref b] below meth c H locs 152 8829 (lw_Z below #[Value.ref b] s) (F0 m 781 ls []) := by
  obtain ⟨C0, hL, hA, hAq, hE, hT, hQ, hNx, hNm, hdx, hdm, hKx, hKm⟩ := C1
  obtain ⟨hx, hb, hr, hml, hown, hts, hXs, hbl, hlocks, hgv⟩ := id C0
  have hown : s.vm.findClass RL = some m.cls := hown
  have hq : ∀ w ∈ wsA, w.before _ s = true := fun w h => hts w (List.mem_filter.mp h).1
  have hbA : ¬ A b := fun h => Nat.not_le.mpr hbl (hAq b h)
  refine lv_aload_n hx hb dL_law_781 rfl (lv_at hl 2 rfl) ?_
  refine lv_aload_n hx hb dL_law_782 rfl (lv_at hl 3 rfl) ?_
  refine lv_iload_n hx hb dL_law_783 rfl (lv_at hl 0 rfl) ?_
  refine lv_iconst (v := 1) hx hb dL_law_784 (by decide) ?_
  refine lv_iadd hx hb dL_law_785 ?_
  refine lv_topi (fun y1_1 ey1_1 => ?_)
  refine va_sld hx hb hXs hbl hbA hS (sc_in ey1_1 hi hL (by decide)) dL_law_786 ?_
  refine lv_topi (fun z1_1 ez1_1 => ?_)
  have hFx : ∀ p : Nat, inL (xL a) H.size p → A p := fun p h => in_A hNx hA hS h
  refine va_calli (va_runV (As := [.int z1_1]) (rest := []) ⟨hx, hb, hml, hown, hq⟩ (X_dropped l dC dI _ kA vA a k q hQ hNx.tt x md ix hM z1_1) (cwV 1 hq (gV qw_1035 qw_1036 qw_1037 qw_119 qw_1038) rfl rfl rfl (by decide +kernel) ⟨Nat.le_of_ble_eq_true rfl, Nat.le_of_ble_eq_true rfl⟩) ⟨fun ar U g mk h => by obtain ⟨q0, q1, qX, qK, qE, qT⟩ := h; exact ⟨q0, q1, qX, va_K.moved (u := U) (U := U.calling g mk ar) (Vm.Alike.refl U.vm) qK, xE.same rfl qE, xT.same rfl qT⟩, hX.recv hKx, fun U hU hW => ⟨rfl, by rw [hU], by rw [hU]; exact hX, va_K.moved hW.alike hKx, xE.warm hW hE, by rw [hU]; exact xT.call hW hT hS hFx⟩⟩ rfl rfl hl.1 rfl (lv_room (Nat.le_of_ble_eq_true rfl)) dL_law_787 ⟨Nat.le_of_ble_eq_true rfl, Nat.le_of_ble_eq_true rfl⟩) hS (fun p _ h => hFx p h) hFx (fun r_1 u1 t1 H1 locs ht1 hvm1 hw1 hB1 hz1 hk1 hS => ?_)
  have hX1 : xP dC dI a k q x md ix t1.heap := hB1
  rw [ht1] at hX1
  have hY := hY.keep hdm hk1
  refine lv_pop hx hb dL_law_790 rfl ?_
  refine lv_aload_n hx hb dL_law_791 rfl (lv_at hl 1 rfl) ?_
  refine lv_aload_n hx hb dL_law_792 rfl (lv_at hl 3 rfl) ?_
  refine lv_iload_n hx hb dL_law_793 rfl (lv_at hl 0 rfl) ?_
  refine lv_iconst (v := 1) hx hb dL_law_794 (by decide) ?_
  refine lv_iadd hx hb dL_law_795 ?_
  refine lv_topi (fun y2_1 ey2_1 => ?_)
  refine va_sld hx hb hXs hbl hbA hS (sc_in ey2_1 hi hL (by decide)) dL_law_796 ?_
  refine lv_topi (fun z2_1 ez2_1 => ?_)
  have hFm : ∀ p : Nat, inL (mL a2) H1.size p → A p := fun p h => in_A hNm hA hS h
  refine va_calli (va_runV (As := [.int z2_1]) (rest := []) ⟨hx, hb, hml, hown, hq⟩ (M_dropped l dC dI _ a2 k2 q2 hNm.tt x md ix hM z2_1) (cwV 1 hq (gV qw_1705 qw_1706 qw_1707 qw_131 qw_1708) rfl rfl rfl (by decide +kernel) ⟨Nat.le_of_ble_eq_true rfl, Nat.le_of_ble_eq_true rfl⟩) ⟨fun ar U g mk h => by obtain ⟨q0, q1, qX, qK, qE⟩ := h; exact ⟨q0, q1, qX, va_K.moved (u := U) (U := U.calling g mk ar) (Vm.Alike.refl U.vm) qK, xE.same rfl qE⟩, hY.recv hKm, fun U hU hW => ⟨rfl, by rw [hU], by rw [hU]; exact hY, va_K.moved hW.alike hKm, xE.warm hW hE⟩⟩ rfl rfl hl.1 rfl (lv_room (Nat.le_of_ble_eq_true rfl)) dL_law_797 ⟨Nat.le_of_ble_eq_true rfl, Nat.le_of_ble_eq_true rfl⟩) hS (fun p _ h => hFm p h) hFm (fun r_2 u2 t2 H2 locs ht2 hvm2 hw2 hB2 hz2 hk2 hS => ?_)
  have hY2 : mP dC dI a2 k2 q2 x md ix t2.heap := hB2
  rw [ht2] at hY2
  have hX2 := hX1.keep hdx hk2
  refine lv_pop hx hb dL_law_800 rfl ?_
  refine lv_goto (tgt := 1210) hx hb dL_law_801 (by decide) ?_
  exact hC _ _ _ _ _ hM hX2 hY2 hS

set_option maxHeartbeats 4000000 in
set_option maxRecDepth 100000 in
theorem law_24 {p : Program} {l : Launch} {e : Env} {s : State} {m : MethodId} {below : List Frame} {meth : Method} {c : Code} {A : Nat → Prop} {kA vA : Nat → Nat} {dC : Nat → ClassId} {dI : Nat → Nat → Nat} {b : Nat} {xs : Nat → Int32} {L : Nat} {a : Nat → Nat} {k : Nat → ClassId} {q : Nat → Nat → Option Nat} {a2 : Nat → Nat} {k2 : Nat → ClassId} {q2 : Nat → Nat → Option Nat} (C1 : lwC p s m meth c A kA vA dC dI b xs L a k q a2 k2) {x : Int32} {md ix : Nat → Int32} (hM : (∀ j : Nat, j < 4 → md j = 0 ∨ md j = 1)) {H : Heap} {locs : List Loc} (hX : xP dC dI a k q x md ix H) (hY : mP dC dI a2 k2 q2 x md ix H) (hS : va_S A s.heap H locs) {ls : Array Slot} {i : Int32} (hi : 0 ≤ i.toInt ∧ i.toInt + 6 ≤ (L : Int)) (hl : lv_has ls 4 [(3, .int i), (2, .ref (a2 0)), (1, .ref (a 0)), (0, .ref b)])
    (hC : ∀ (x : Int32) (md ix : Nat → Int32) (H : Heap) (locs : List Loc), (∀ j : Nat, j < 4 → md j = 0 ∨ md j = 1) → xP dC dI a k q x md ix H → mP dC dI a2 k2 q2 x md ix H → va_S A s.heap H locs → W p l e room_1 s m #[Value.ref b] below meth c H locs 152 8829 (lw_Z below #[Value.ref b] s) (F0 m 1210 ls [])) : W p l e room_1 s m #[Value.ref b] below meth c H locs 152 8829 (lw_Z below #[Value.ref b] s) (F0 m 804 ls []) := by
  obtain ⟨C0, hL, hA, hAq, hE, hT, hQ, hNx, hNm, hdx, hdm, hKx, hKm⟩ := C1
  obtain ⟨hx, hb, hr, hml, hown, hts, hXs, hbl, hlocks, hgv⟩ := id C0
  have hown : s.vm.findClass RL = some m.cls := hown
  have hq : ∀ w ∈ wsA, w.before _ s = true := fun w h => hts w (List.mem_filter.mp h).1
  have hbA : ¬ A b := fun h => Nat.not_le.mpr hbl (hAq b h)
  refine lv_aload_n hx hb dL_law_804 rfl (lv_at hl 2 rfl) ?_
  refine lv_aload_n hx hb dL_law_805 rfl (lv_at hl 3 rfl) ?_
  refine lv_iload_n hx hb dL_law_806 rfl (lv_at hl 0 rfl) ?_
  refine lv_iconst (v := 1) hx hb dL_law_807 (by decide) ?_
  refine lv_iadd hx hb dL_law_808 ?_
  refine lv_topi (fun y1_1 ey1_1 => ?_)
  refine va_sld hx hb hXs hbl hbA hS (sc_in ey1_1 hi hL (by decide)) dL_law_809 ?_
  refine lv_topi (fun z1_1 ez1_1 => ?_)
  refine lv_aload_n hx hb dL_law_810 rfl (lv_at hl 3 rfl) ?_
  refine lv_iload_n hx hb dL_law_811 rfl (lv_at hl 0 rfl) ?_
  refine lv_iconst (v := 2) hx hb dL_law_812 (by decide) ?_
  refine lv_iadd hx hb dL_law_813 ?_
  refine lv_topi (fun y1_2 ey1_2 => ?_)
  refine va_sld hx hb hXs hbl hbA hS (sc_in ey1_2 hi hL (by decide)) dL_law_814 ?_
  refine lv_topi (fun z1_2 ez1_2 => ?_)
  have hFx : ∀ p : Nat, inL (xL a) H.size p → A p := fun p h => in_A hNx hA hS h
  refine va_calli (va_runV (As := [.int z1_1, .int z1_2]) (rest := []) ⟨hx, hb, hml, hown, hq⟩ (X_leftOut l dC dI _ kA vA a k q hQ hNx.tt x md ix hM z1_1 z1_2) (cwV 2 hq (gV qw_1039 qw_1040 qw_1041 qw_119 qw_1042) rfl rfl rfl (by decide +kernel) ⟨Nat.le_of_ble_eq_true rfl, Nat.le_of_ble_eq_true rfl⟩) ⟨fun ar U g mk h => by obtain ⟨q0, q1, qX, qK, qE, qT⟩ := h; exact ⟨q0, q1, qX, va_K.moved (u := U) (U := U.calling g mk ar) (Vm.Alike.refl U.vm) qK, xE.same rfl qE, xT.same rfl qT⟩, hX.recv hKx, fun U hU hW => ⟨rfl, by rw [hU], by rw [hU]; exact hX, va_K.moved hW.alike hKx, xE.warm hW hE, by rw [hU]; exact xT.call hW hT hS hFx⟩⟩ rfl rfl hl.1 rfl (lv_room (Nat.le_of_ble_eq_true rfl)) dL_law_815 ⟨Nat.le_of_ble_eq_true rfl, Nat.le_of_ble_eq_true rfl⟩) hS (fun p _ h => hFx p h) hFx (fun r_1 u1 t1 H1 locs ht1 hvm1 hw1 hB1 hz1 hk1 hS => ?_)
  have hX1 : xP dC dI a k q x md ix t1.heap := hB1
  rw [ht1] at hX1
  have hY := hY.keep hdm hk1
  refine lv_pop hx hb dL_law_818 rfl ?_
  refine lv_aload_n hx hb dL_law_819 rfl (lv_at hl 1 rfl) ?_
  refine lv_aload_n hx hb dL_law_820 rfl (lv_at hl 3 rfl) ?_
  refine lv_iload_n hx hb dL_law_821 rfl (lv_at hl 0 rfl) ?_
  refine lv_iconst (v := 1) hx hb dL_law_822 (by decide) ?_
  refine lv_iadd hx hb dL_law_823 ?_
  refine lv_topi (fun y2_1 ey2_1 => ?_)
  refine va_sld hx hb hXs hbl hbA hS (sc_in ey2_1 hi hL (by decide)) dL_law_824 ?_
  refine lv_topi (fun z2_1 ez2_1 => ?_)
  refine lv_aload_n hx hb dL_law_825 rfl (lv_at hl 3 rfl) ?_
  refine lv_iload_n hx hb dL_law_826 rfl (lv_at hl 0 rfl) ?_
  refine lv_iconst (v := 2) hx hb dL_law_827 (by decide) ?_
  refine lv_iadd hx hb dL_law_828 ?_
  refine lv_topi (fun y2_2 ey2_2 => ?_)
  refine va_sld hx hb hXs hbl hbA hS (sc_in ey2_2 hi hL (by decide)) dL_law_829 ?_
  refine lv_topi (fun z2_2 ez2_2 => ?_)
  have hFm : ∀ p : Nat, inL (mL a2) H1.size p → A p := fun p h => in_A hNm hA hS h
  refine va_calli (va_runV (As := [.int z2_1, .int z2_2]) (rest := []) ⟨hx, hb, hml, hown, hq⟩ (M_leftOut l dC dI _ a2 k2 q2 hNm.tt x md ix hM z2_1 z2_2) (cwV 2 hq (gV qw_1709 qw_1710 qw_1711 qw_131 qw_1712) rfl rfl rfl (by decide +kernel) ⟨Nat.le_of_ble_eq_true rfl, Nat.le_of_ble_eq_true rfl⟩) ⟨fun ar U g mk h => by obtain ⟨q0, q1, qX, qK, qE⟩ := h; exact ⟨q0, q1, qX, va_K.moved (u := U) (U := U.calling g mk ar) (Vm.Alike.refl U.vm) qK, xE.same rfl qE⟩, hY.recv hKm, fun U hU hW => ⟨rfl, by rw [hU], by rw [hU]; exact hY, va_K.moved hW.alike hKm, xE.warm hW hE⟩⟩ rfl rfl hl.1 rfl (lv_room (Nat.le_of_ble_eq_true rfl)) dL_law_830 ⟨Nat.le_of_ble_eq_true rfl, Nat.le_of_ble_eq_true rfl⟩) hS (fun p _ h => hFm p h) hFm (fun r_2 u2 t2 H2 locs ht2 hvm2 hw2 hB2 hz2 hk2 hS => ?_)
  have hY2 : mP dC dI a2 k2 q2 x md ix t2.heap := hB2
  rw [ht2] at hY2
  have hX2 := hX1.keep hdx hk2
  refine lv_pop hx hb dL_law_833 rfl ?_
  refine lv_goto (tgt := 1210) hx hb dL_law_834 (by decide) ?_
  exact hC _ _ _ _ _ hM hX2 hY2 hS

set_option maxHeartbeats 4000000 in
set_option maxRecDepth 100000 in
theorem law_25 {p : Program} {l : Launch} {e : Env} {s : State} {m : MethodId} {below : List Frame} {meth : Method} {c : Code} {A : Nat → Prop} {kA vA : Nat → Nat} {dC : Nat → ClassId} {dI : Nat → Nat → Nat} {b : Nat} {xs : Nat → Int32} {L : Nat} {a : Nat → Nat} {k : Nat → ClassId} {q : Nat → Nat → Option Nat} {a2 : Nat → Nat} {k2 : Nat → ClassId} {q2 : Nat → Nat → Option Nat} (C1 : lwC p s m meth c A kA vA dC dI b xs L a k q a2 k2) {x : Int32} {md ix : Nat → Int32} (hM : (∀ j : Nat, j < 4 → md j = 0 ∨ md j = 1)) {H : Heap} {locs : List Loc} (hX : xP dC dI a k q x md ix H) (hY : mP dC dI a2 k2 q2 x md ix H) (hS : va_S A s.heap H locs) {ls : Array Slot} {i : Int32} (hi : 0 ≤ i.toInt ∧ i.toInt + 6 ≤ (L : Int)) (hl : lv_has ls 4 [(3, .int i), (2, .ref (a2 0)), (1, .ref (a 0)), (0, .ref b)])
    (hC : ∀ (x : Int32) (md ix : Nat → Int32) (H : Heap) (locs : List Loc), (∀ j : Nat, j < 4 → md j = 0 ∨ md j = 1) → xP dC dI a k q x md ix H → mP dC dI a2 k2 q2 x md ix H → va_S A s.heap H locs → W p l e room_1 s m #[Value.ref b] below meth c H locs 152 8829 (lw_Z below #[Value.ref b] s) (F0 m 1210 ls [])) : W p l e room_1 s m #[Value.ref b] below meth c H locs 152 8829 (lw_Z below #[Value.ref b] s) (F0 m 837 ls []) := by
  obtain ⟨C0, hL, hA, hAq, hE, hT, hQ, hNx, hNm, hdx, hdm, hKx, hKm⟩ := C1
  obtain ⟨hx, hb, hr, hml, hown, hts, hXs, hbl, hlocks, hgv⟩ := id C0
  have hown : s.vm.findClass RL = some m.cls := hown
  have hq : ∀ w ∈ wsA, w.before _ s = true := fun w h => hts w (List.mem_filter.mp h).1
  have hbA : ¬ A b := fun h => Nat.not_le.mpr hbl (hAq b h)
  refine lv_aload_n hx hb dL_law_837 rfl (lv_at hl 2 rfl) ?_
  refine lv_aload_n hx hb dL_law_838 rfl (lv_at hl 3 rfl) ?_
  refine lv_iload_n hx hb dL_law_839 rfl (lv_at hl 0 rfl) ?_
  refine lv_iconst (v := 1) hx hb dL_law_840 (by decide) ?_
  refine lv_iadd hx hb dL_law_841 ?_
  refine lv_topi (fun y1_1 ey1_1 => ?_)
  refine va_sld hx hb hXs hbl hbA hS (sc_in ey1_1 hi hL (by decide)) dL_law_842 ?_
  refine lv_topi (fun z1_1 ez1_1 => ?_)
  refine lv_aload_n hx hb dL_law_843 rfl (lv_at hl 3 rfl) ?_
  refine lv_iload_n hx hb dL_law_844 rfl (lv_at hl 0 rfl) ?_
  refine lv_iconst (v := 2) hx hb dL_law_845 (by decide) ?_
  refine lv_iadd hx hb dL_law_846 ?_
  refine lv_topi (fun y1_2 ey1_2 => ?_)
  refine va_sld hx hb hXs hbl hbA hS (sc_in ey1_2 hi hL (by decide)) dL_law_847 ?_
  refine lv_topi (fun z1_2 ez1_2 => ?_)
  refine lv_aload_n hx hb dL_law_848 rfl (lv_at hl 3 rfl) ?_
  refine lv_iload_n hx hb dL_law_849 rfl (lv_at hl 0 rfl) ?_
  refine lv_iconst (v := 3) hx hb dL_law_850 (by decide) ?_
  refine lv_iadd hx hb dL_law_851 ?_
  refine lv_topi (fun y1_3 ey1_3 => ?_)
  refine va_sld hx hb hXs hbl hbA hS (sc_in ey1_3 hi hL (by decide)) dL_law_852 ?_
  refine lv_topi (fun z1_3 ez1_3 => ?_)
  refine lv_aload_n hx hb dL_law_853 rfl (lv_at hl 3 rfl) ?_
  refine lv_iload_n hx hb dL_law_854 rfl (lv_at hl 0 rfl) ?_
  refine lv_iconst (v := 4) hx hb dL_law_855 (by decide) ?_
  refine lv_iadd hx hb dL_law_856 ?_
  refine lv_topi (fun y1_4 ey1_4 => ?_)
  refine va_sld hx hb hXs hbl hbA hS (sc_in ey1_4 hi hL (by decide)) dL_law_857 ?_
  refine lv_topi (fun z1_4 ez1_4 => ?_)
  have hFx : ∀ p : Nat, inL (xL a) H.size p → A p := fun p h => in_A hNx hA hS h
  refine va_calli (va_runV (As := [.int z1_1, .int z1_2, .int z1_3, .int z1_4]) (rest := []) ⟨hx, hb, hml, hown, hq⟩ (X_rests l dC dI _ kA vA a k q hQ hNx.tt x md ix hM z1_1 z1_2 z1_3 z1_4) (cwV 4 hq (gV qw_1048 qw_1049 qw_1050 qw_119 qw_1051) rfl rfl rfl (by decide +kernel) ⟨Nat.le_of_ble_eq_true rfl, Nat.le_of_ble_eq_true rfl⟩) ⟨fun ar U g mk h => by obtain ⟨q0, q1, qX, qK, qE, qT⟩ := h; exact ⟨q0, q1, qX, va_K.moved (u := U) (U := U.calling g mk ar) (Vm.Alike.refl U.vm) qK, xE.same rfl qE, xT.same rfl qT⟩, hX.recv hKx, fun U hU hW => ⟨rfl, by rw [hU], by rw [hU]; exact hX, va_K.moved hW.alike hKx, xE.warm hW hE, by rw [hU]; exact xT.call hW hT hS hFx⟩⟩ rfl rfl hl.1 rfl (lv_room (Nat.le_of_ble_eq_true rfl)) dL_law_858 ⟨Nat.le_of_ble_eq_true rfl, Nat.le_of_ble_eq_true rfl⟩) hS (fun p _ h => hFx p h) hFx (fun r_1 u1 t1 H1 locs ht1 hvm1 hw1 hB1 hz1 hk1 hS => ?_)
  have hX1 : xP dC dI a k q x md ix t1.heap := hB1
  rw [ht1] at hX1
  have hY := hY.keep hdm hk1
  refine lv_pop hx hb dL_law_861 rfl ?_
  refine lv_aload_n hx hb dL_law_862 rfl (lv_at hl 1 rfl) ?_
  refine lv_aload_n hx hb dL_law_863 rfl (lv_at hl 3 rfl) ?_
  refine lv_iload_n hx hb dL_law_864 rfl (lv_at hl 0 rfl) ?_
  refine lv_iconst (v := 1) hx hb dL_law_865 (by decide) ?_
  refine lv_iadd hx hb dL_law_866 ?_
  refine lv_topi (fun y2_1 ey2_1 => ?_)
  refine va_sld hx hb hXs hbl hbA hS (sc_in ey2_1 hi hL (by decide)) dL_law_867 ?_
  refine lv_topi (fun z2_1 ez2_1 => ?_)
  refine lv_aload_n hx hb dL_law_868 rfl (lv_at hl 3 rfl) ?_
  refine lv_iload_n hx hb dL_law_869 rfl (lv_at hl 0 rfl) ?_
  refine lv_iconst (v := 2) hx hb dL_law_870 (by decide) ?_
  refine lv_iadd hx hb dL_law_871 ?_
  refine lv_topi (fun y2_2 ey2_2 => ?_)
  refine va_sld hx hb hXs hbl hbA hS (sc_in ey2_2 hi hL (by decide)) dL_law_872 ?_
  refine lv_topi (fun z2_2 ez2_2 => ?_)
  refine lv_aload_n hx hb dL_law_873 rfl (lv_at hl 3 rfl) ?_
  refine lv_iload_n hx hb dL_law_874 rfl (lv_at hl 0 rfl) ?_
  refine lv_iconst (v := 3) hx hb dL_law_875 (by decide) ?_
  refine lv_iadd hx hb dL_law_876 ?_
  refine lv_topi (fun y2_3 ey2_3 => ?_)
  refine va_sld hx hb hXs hbl hbA hS (sc_in ey2_3 hi hL (by decide)) dL_law_877 ?_
  refine lv_topi (fun z2_3 ez2_3 => ?_)
  refine lv_aload_n hx hb dL_law_878 rfl (lv_at hl 3 rfl) ?_
  refine lv_iload_n hx hb dL_law_879 rfl (lv_at hl 0 rfl) ?_
  refine lv_iconst (v := 4) hx hb dL_law_880 (by decide) ?_
  refine lv_iadd hx hb dL_law_881 ?_
  refine lv_topi (fun y2_4 ey2_4 => ?_)
  refine va_sld hx hb hXs hbl hbA hS (sc_in ey2_4 hi hL (by decide)) dL_law_882 ?_
  refine lv_topi (fun z2_4 ez2_4 => ?_)
  have hFm : ∀ p : Nat, inL (mL a2) H1.size p → A p := fun p h => in_A hNm hA hS h
  refine va_calli (va_runV (As := [.int z2_1, .int z2_2, .int z2_3, .int z2_4]) (rest := []) ⟨hx, hb, hml, hown, hq⟩ (M_rests l dC dI _ a2 k2 q2 hNm.tt x md ix hM z2_1 z2_2 z2_3 z2_4) (cwV 4 hq (gV qw_1718 qw_1719 qw_1720 qw_131 qw_1721) rfl rfl rfl (by decide +kernel) ⟨Nat.le_of_ble_eq_true rfl, Nat.le_of_ble_eq_true rfl⟩) ⟨fun ar U g mk h => by obtain ⟨q0, q1, qX, qK, qE⟩ := h; exact ⟨q0, q1, qX, va_K.moved (u := U) (U := U.calling g mk ar) (Vm.Alike.refl U.vm) qK, xE.same rfl qE⟩, hY.recv hKm, fun U hU hW => ⟨rfl, by rw [hU], by rw [hU]; exact hY, va_K.moved hW.alike hKm, xE.warm hW hE⟩⟩ rfl rfl hl.1 rfl (lv_room (Nat.le_of_ble_eq_true rfl)) dL_law_883 ⟨Nat.le_of_ble_eq_true rfl, Nat.le_of_ble_eq_true rfl⟩) hS (fun p _ h => hFm p h) hFm (fun r_2 u2 t2 H2 locs ht2 hvm2 hw2 hB2 hz2 hk2 hS => ?_)
  have hY2 : mP dC dI a2 k2 q2 x md ix t2.heap := hB2
  rw [ht2] at hY2
  have hX2 := hX1.keep hdx hk2
  refine lv_pop hx hb dL_law_886 rfl ?_
  refine lv_goto (tgt := 1210) hx hb dL_law_887 (by decide) ?_
  exact hC _ _ _ _ _ hM hX2 hY2 hS

set_option maxHeartbeats 4000000 in
set_option maxRecDepth 100000 in
theorem law_26 {p : Program} {l : Launch} {e : Env} {s : State} {m : MethodId} {below : List Frame} {meth : Method} {c : Code} {A : Nat → Prop} {kA vA : Nat → Nat} {dC : Nat → ClassId} {dI : Nat → Nat → Nat} {b : Nat} {xs : Nat → Int32} {L : Nat} {a : Nat → Nat} {k : Nat → ClassId} {q : Nat → Nat → Option Nat} {a2 : Nat → Nat} {k2 : Nat → ClassId} {q2 : Nat → Nat → Option Nat} (C1 : lwC p s m meth c A kA vA dC dI b xs L a k q a2 k2) {x : Int32} {md ix : Nat → Int32} (hM : (∀ j : Nat, j < 4 → md j = 0 ∨ md j = 1)) {H : Heap} {locs : List Loc} (hX : xP dC dI a k q x md ix H) (hY : mP dC dI a2 k2 q2 x md ix H) (hS : va_S A s.heap H locs) {ls : Array Slot} {i : Int32} (hi : 0 ≤ i.toInt ∧ i.toInt + 6 ≤ (L : Int)) (hl : lv_has ls 4 [(3, .int i), (2, .ref (a2 0)), (1, .ref (a 0)), (0, .ref b)])
    (hC : ∀ (x : Int32) (md ix : Nat → Int32) (H : Heap) (locs : List Loc), (∀ j : Nat, j < 4 → md j = 0 ∨ md j = 1) → xP dC dI a k q x md ix H → mP dC dI a2 k2 q2 x md ix H → va_S A s.heap H locs → W p l e room_1 s m #[Value.ref b] below meth c H locs 152 8829 (lw_Z below #[Value.ref b] s) (F0 m 1210 ls [])) : W p l e room_1 s m #[Value.ref b] below meth c H locs 152 8829 (lw_Z below #[Value.ref b] s) (F0 m 890 ls []) := by
  obtain ⟨C0, hL, hA, hAq, hE, hT, hQ, hNx, hNm, hdx, hdm, hKx, hKm⟩ := C1
  obtain ⟨hx, hb, hr, hml, hown, hts, hXs, hbl, hlocks, hgv⟩ := id C0
  have hown : s.vm.findClass RL = some m.cls := hown
  have hq : ∀ w ∈ wsA, w.before _ s = true := fun w h => hts w (List.mem_filter.mp h).1
  have hbA : ¬ A b := fun h => Nat.not_le.mpr hbl (hAq b h)
  refine lv_aload_n hx hb dL_law_890 rfl (lv_at hl 2 rfl) ?_
  refine lv_aload_n hx hb dL_law_891 rfl (lv_at hl 3 rfl) ?_
  refine lv_iload_n hx hb dL_law_892 rfl (lv_at hl 0 rfl) ?_
  refine lv_iconst (v := 1) hx hb dL_law_893 (by decide) ?_
  refine lv_iadd hx hb dL_law_894 ?_
  refine lv_topi (fun y1_1 ey1_1 => ?_)
  refine va_sld hx hb hXs hbl hbA hS (sc_in ey1_1 hi hL (by decide)) dL_law_895 ?_
  refine lv_topi (fun z1_1 ez1_1 => ?_)
  refine lv_aload_n hx hb dL_law_896 rfl (lv_at hl 3 rfl) ?_
  refine lv_iload_n hx hb dL_law_897 rfl (lv_at hl 0 rfl) ?_
  refine lv_iconst (v := 2) hx hb dL_law_898 (by decide) ?_
  refine lv_iadd hx hb dL_law_899 ?_
  refine lv_topi (fun y1_2 ey1_2 => ?_)
  refine va_sld hx hb hXs hbl hbA hS (sc_in ey1_2 hi hL (by decide)) dL_law_900 ?_
  refine lv_topi (fun z1_2 ez1_2 => ?_)
  have hFx : ∀ p : Nat, inL (xL a) H.size p → A p := fun p h => in_A hNx hA hS h
  refine va_calli (va_runV (As := [.int z1_1, .int z1_2]) (rest := []) ⟨hx, hb, hml, hown, hq⟩ (X_crumbs l dC dI _ kA vA a k q hQ hNx.tt x md ix hM z1_1 z1_2) (cwV 2 hq (gV qw_1068 qw_1069 qw_1070 qw_119 qw_1071) rfl rfl rfl (by decide +kernel) ⟨Nat.le_of_ble_eq_true rfl, Nat.le_of_ble_eq_true rfl⟩) ⟨fun ar U g mk h => by obtain ⟨q0, q1, qX, qK, qE, qT⟩ := h; exact ⟨q0, q1, qX, va_K.moved (u := U) (U := U.calling g mk ar) (Vm.Alike.refl U.vm) qK, xE.same rfl qE, xT.same rfl qT⟩, hX.recv hKx, fun U hU hW => ⟨rfl, by rw [hU], by rw [hU]; exact hX, va_K.moved hW.alike hKx, xE.warm hW hE, by rw [hU]; exact xT.call hW hT hS hFx⟩⟩ rfl rfl hl.1 rfl (lv_room (Nat.le_of_ble_eq_true rfl)) dL_law_901 ⟨Nat.le_of_ble_eq_true rfl, Nat.le_of_ble_eq_true rfl⟩) hS (fun p _ h => hFx p h) hFx (fun r_1 u1 t1 H1 locs ht1 hvm1 hw1 hB1 hz1 hk1 hS => ?_)
  have hX1 : xP dC dI a k q x md ix t1.heap := hB1
  rw [ht1] at hX1
  have hY := hY.keep hdm hk1
  refine lv_pop hx hb dL_law_904 rfl ?_
  refine lv_aload_n hx hb dL_law_905 rfl (lv_at hl 1 rfl) ?_
  refine lv_aload_n hx hb dL_law_906 rfl (lv_at hl 3 rfl) ?_
  refine lv_iload_n hx hb dL_law_907 rfl (lv_at hl 0 rfl) ?_
  refine lv_iconst (v := 1) hx hb dL_law_908 (by decide) ?_
  refine lv_iadd hx hb dL_law_909 ?_
  refine lv_topi (fun y2_1 ey2_1 => ?_)
  refine va_sld hx hb hXs hbl hbA hS (sc_in ey2_1 hi hL (by decide)) dL_law_910 ?_
  refine lv_topi (fun z2_1 ez2_1 => ?_)
  refine lv_aload_n hx hb dL_law_911 rfl (lv_at hl 3 rfl) ?_
  refine lv_iload_n hx hb dL_law_912 rfl (lv_at hl 0 rfl) ?_
  refine lv_iconst (v := 2) hx hb dL_law_913 (by decide) ?_
  refine lv_iadd hx hb dL_law_914 ?_
  refine lv_topi (fun y2_2 ey2_2 => ?_)
  refine va_sld hx hb hXs hbl hbA hS (sc_in ey2_2 hi hL (by decide)) dL_law_915 ?_
  refine lv_topi (fun z2_2 ez2_2 => ?_)
  have hFm : ∀ p : Nat, inL (mL a2) H1.size p → A p := fun p h => in_A hNm hA hS h
  refine va_calli (va_runV (As := [.int z2_1, .int z2_2]) (rest := []) ⟨hx, hb, hml, hown, hq⟩ (M_crumbs l dC dI _ a2 k2 q2 hNm.tt x md ix hM z2_1 z2_2) (cwV 2 hq (gV qw_1735 qw_1736 qw_1737 qw_131 qw_1738) rfl rfl rfl (by decide +kernel) ⟨Nat.le_of_ble_eq_true rfl, Nat.le_of_ble_eq_true rfl⟩) ⟨fun ar U g mk h => by obtain ⟨q0, q1, qX, qK, qE⟩ := h; exact ⟨q0, q1, qX, va_K.moved (u := U) (U := U.calling g mk ar) (Vm.Alike.refl U.vm) qK, xE.same rfl qE⟩, hY.recv hKm, fun U hU hW => ⟨rfl, by rw [hU], by rw [hU]; exact hY, va_K.moved hW.alike hKm, xE.warm hW hE⟩⟩ rfl rfl hl.1 rfl (lv_room (Nat.le_of_ble_eq_true rfl)) dL_law_916 ⟨Nat.le_of_ble_eq_true rfl, Nat.le_of_ble_eq_true rfl⟩) hS (fun p _ h => hFm p h) hFm (fun r_2 u2 t2 H2 locs ht2 hvm2 hw2 hB2 hz2 hk2 hS => ?_)
  have hY2 : mP dC dI a2 k2 q2 x md ix t2.heap := hB2
  rw [ht2] at hY2
  have hX2 := hX1.keep hdx hk2
  refine lv_pop hx hb dL_law_919 rfl ?_
  refine lv_goto (tgt := 1210) hx hb dL_law_920 (by decide) ?_
  exact hC _ _ _ _ _ hM hX2 hY2 hS

set_option maxHeartbeats 4000000 in
set_option maxRecDepth 100000 in
theorem law_27 {p : Program} {l : Launch} {e : Env} {s : State} {m : MethodId} {below : List Frame} {meth : Method} {c : Code} {A : Nat → Prop} {kA vA : Nat → Nat} {dC : Nat → ClassId} {dI : Nat → Nat → Nat} {b : Nat} {xs : Nat → Int32} {L : Nat} {a : Nat → Nat} {k : Nat → ClassId} {q : Nat → Nat → Option Nat} {a2 : Nat → Nat} {k2 : Nat → ClassId} {q2 : Nat → Nat → Option Nat} (C1 : lwC p s m meth c A kA vA dC dI b xs L a k q a2 k2) {x : Int32} {md ix : Nat → Int32} (hM : (∀ j : Nat, j < 4 → md j = 0 ∨ md j = 1)) {H : Heap} {locs : List Loc} (hX : xP dC dI a k q x md ix H) (hY : mP dC dI a2 k2 q2 x md ix H) (hS : va_S A s.heap H locs) {ls : Array Slot} {i : Int32} (hi : 0 ≤ i.toInt ∧ i.toInt + 6 ≤ (L : Int)) (hl : lv_has ls 4 [(3, .int i), (2, .ref (a2 0)), (1, .ref (a 0)), (0, .ref b)])
    (hC : ∀ (x : Int32) (md ix : Nat → Int32) (H : Heap) (locs : List Loc), (∀ j : Nat, j < 4 → md j = 0 ∨ md j = 1) → xP dC dI a k q x md ix H → mP dC dI a2 k2 q2 x md ix H → va_S A s.heap H locs → W p l e room_1 s m #[Value.ref b] below meth c H locs 152 8829 (lw_Z below #[Value.ref b] s) (F0 m 1210 ls [])) : W p l e room_1 s m #[Value.ref b] below meth c H locs 152 8829 (lw_Z below #[Value.ref b] s) (F0 m 923 ls []) := by
  obtain ⟨C0, hL, hA, hAq, hE, hT, hQ, hNx, hNm, hdx, hdm, hKx, hKm⟩ := C1
  obtain ⟨hx, hb, hr, hml, hown, hts, hXs, hbl, hlocks, hgv⟩ := id C0
  have hown : s.vm.findClass RL = some m.cls := hown
  have hq : ∀ w ∈ wsA, w.before _ s = true := fun w h => hts w (List.mem_filter.mp h).1
  have hbA : ¬ A b := fun h => Nat.not_le.mpr hbl (hAq b h)
  refine lv_aload_n hx hb dL_law_923 rfl (lv_at hl 2 rfl) ?_
  refine lv_aload_n hx hb dL_law_924 rfl (lv_at hl 3 rfl) ?_
  refine lv_iload_n hx hb dL_law_925 rfl (lv_at hl 0 rfl) ?_
  refine lv_iconst (v := 1) hx hb dL_law_926 (by decide) ?_
  refine lv_iadd hx hb dL_law_927 ?_
  refine lv_topi (fun y1_1 ey1_1 => ?_)
  refine va_sld hx hb hXs hbl hbA hS (sc_in ey1_1 hi hL (by decide)) dL_law_928 ?_
  refine lv_topi (fun z1_1 ez1_1 => ?_)
  refine lv_aload_n hx hb dL_law_929 rfl (lv_at hl 3 rfl) ?_
  refine lv_iload_n hx hb dL_law_930 rfl (lv_at hl 0 rfl) ?_
  refine lv_iconst (v := 2) hx hb dL_law_931 (by decide) ?_
  refine lv_iadd hx hb dL_law_932 ?_
  refine lv_topi (fun y1_2 ey1_2 => ?_)
  refine va_sld hx hb hXs hbl hbA hS (sc_in ey1_2 hi hL (by decide)) dL_law_933 ?_
  refine lv_topi (fun z1_2 ez1_2 => ?_)
  have hFx : ∀ p : Nat, inL (xL a) H.size p → A p := fun p h => in_A hNx hA hS h
  refine va_calli (va_runV (As := [.int z1_1, .int z1_2]) (rest := []) ⟨hx, hb, hml, hown, hq⟩ (X_loudest l dC dI _ kA vA a k q hQ hNx.tt x md ix hM z1_1 z1_2) (cwV 2 hq (gV qw_1076 qw_1077 qw_1078 qw_119 qw_1079) rfl rfl rfl (by decide +kernel) ⟨Nat.le_of_ble_eq_true rfl, Nat.le_of_ble_eq_true rfl⟩) ⟨fun ar U g mk h => by obtain ⟨q0, q1, qX, qK, qE, qT⟩ := h; exact ⟨q0, q1, qX, va_K.moved (u := U) (U := U.calling g mk ar) (Vm.Alike.refl U.vm) qK, xE.same rfl qE, xT.same rfl qT⟩, hX.recv hKx, fun U hU hW => ⟨rfl, by rw [hU], by rw [hU]; exact hX, va_K.moved hW.alike hKx, xE.warm hW hE, by rw [hU]; exact xT.call hW hT hS hFx⟩⟩ rfl rfl hl.1 rfl (lv_room (Nat.le_of_ble_eq_true rfl)) dL_law_934 ⟨Nat.le_of_ble_eq_true rfl, Nat.le_of_ble_eq_true rfl⟩) hS (fun p _ h => hFx p h) hFx (fun r_1 u1 t1 H1 locs ht1 hvm1 hw1 hB1 hz1 hk1 hS => ?_)
  have hX1 : xP dC dI a k q x md ix t1.heap := hB1
  rw [ht1] at hX1
  have hY := hY.keep hdm hk1
  refine lv_pop hx hb dL_law_937 rfl ?_
  refine lv_aload_n hx hb dL_law_938 rfl (lv_at hl 1 rfl) ?_
  refine lv_aload_n hx hb dL_law_939 rfl (lv_at hl 3 rfl) ?_
  refine lv_iload_n hx hb dL_law_940 rfl (lv_at hl 0 rfl) ?_
  refine lv_iconst (v := 1) hx hb dL_law_941 (by decide) ?_
  refine lv_iadd hx hb dL_law_942 ?_
  refine lv_topi (fun y2_1 ey2_1 => ?_)
  refine va_sld hx hb hXs hbl hbA hS (sc_in ey2_1 hi hL (by decide)) dL_law_943 ?_
  refine lv_topi (fun z2_1 ez2_1 => ?_)
  refine lv_aload_n hx hb dL_law_944 rfl (lv_at hl 3 rfl) ?_
  refine lv_iload_n hx hb dL_law_945 rfl (lv_at hl 0 rfl) ?_
  refine lv_iconst (v := 2) hx hb dL_law_946 (by decide) ?_
  refine lv_iadd hx hb dL_law_947 ?_
  refine lv_topi (fun y2_2 ey2_2 => ?_)
  refine va_sld hx hb hXs hbl hbA hS (sc_in ey2_2 hi hL (by decide)) dL_law_948 ?_
  refine lv_topi (fun z2_2 ez2_2 => ?_)
  have hFm : ∀ p : Nat, inL (mL a2) H1.size p → A p := fun p h => in_A hNm hA hS h
  refine va_calli (va_runV (As := [.int z2_1, .int z2_2]) (rest := []) ⟨hx, hb, hml, hown, hq⟩ (M_loudest l dC dI _ a2 k2 q2 hNm.tt x md ix hM z2_1 z2_2) (cwV 2 hq (gV qw_1740 qw_1741 qw_1742 qw_131 qw_1743) rfl rfl rfl (by decide +kernel) ⟨Nat.le_of_ble_eq_true rfl, Nat.le_of_ble_eq_true rfl⟩) ⟨fun ar U g mk h => by obtain ⟨q0, q1, qX, qK, qE⟩ := h; exact ⟨q0, q1, qX, va_K.moved (u := U) (U := U.calling g mk ar) (Vm.Alike.refl U.vm) qK, xE.same rfl qE⟩, hY.recv hKm, fun U hU hW => ⟨rfl, by rw [hU], by rw [hU]; exact hY, va_K.moved hW.alike hKm, xE.warm hW hE⟩⟩ rfl rfl hl.1 rfl (lv_room (Nat.le_of_ble_eq_true rfl)) dL_law_949 ⟨Nat.le_of_ble_eq_true rfl, Nat.le_of_ble_eq_true rfl⟩) hS (fun p _ h => hFm p h) hFm (fun r_2 u2 t2 H2 locs ht2 hvm2 hw2 hB2 hz2 hk2 hS => ?_)
  have hY2 : mP dC dI a2 k2 q2 x md ix t2.heap := hB2
  rw [ht2] at hY2
  have hX2 := hX1.keep hdx hk2
  refine lv_pop hx hb dL_law_952 rfl ?_
  refine lv_goto (tgt := 1210) hx hb dL_law_953 (by decide) ?_
  exact hC _ _ _ _ _ hM hX2 hY2 hS

set_option maxHeartbeats 4000000 in
set_option maxRecDepth 100000 in
theorem law_28 {p : Program} {l : Launch} {e : Env} {s : State} {m : MethodId} {below : List Frame} {meth : Method} {c : Code} {A : Nat → Prop} {kA vA : Nat → Nat} {dC : Nat → ClassId} {dI : Nat → Nat → Nat} {b : Nat} {xs : Nat → Int32} {L : Nat} {a : Nat → Nat} {k : Nat → ClassId} {q : Nat → Nat → Option Nat} {a2 : Nat → Nat} {k2 : Nat → ClassId} {q2 : Nat → Nat → Option Nat} (C1 : lwC p s m meth c A kA vA dC dI b xs L a k q a2 k2) {x : Int32} {md ix : Nat → Int32} (hM : (∀ j : Nat, j < 4 → md j = 0 ∨ md j = 1)) {H : Heap} {locs : List Loc} (hX : xP dC dI a k q x md ix H) (hY : mP dC dI a2 k2 q2 x md ix H) (hS : va_S A s.heap H locs) {ls : Array Slot} {i : Int32} (hi : 0 ≤ i.toInt ∧ i.toInt + 6 ≤ (L : Int)) (hl : lv_has ls 4 [(3, .int i), (2, .ref (a2 0)), (1, .ref (a 0)), (0, .ref b)])
    (hC : ∀ (x : Int32) (md ix : Nat → Int32) (H : Heap) (locs : List Loc), (∀ j : Nat, j < 4 → md j = 0 ∨ md j = 1) → xP dC dI a k q x md ix H → mP dC dI a2 k2 q2 x md ix H → va_S A s.heap H locs → W p l e room_1 s m #[Value.ref b] below meth c H locs 152 8829 (lw_Z below #[Value.ref b] s) (F0 m 1210 ls [])) : W p l e room_1 s m #[Value.ref b] below meth c H locs 152 8829 (lw_Z below #[Value.ref b] s) (F0 m 956 ls []) := by
  obtain ⟨C0, hL, hA, hAq, hE, hT, hQ, hNx, hNm, hdx, hdm, hKx, hKm⟩ := C1
  obtain ⟨hx, hb, hr, hml, hown, hts, hXs, hbl, hlocks, hgv⟩ := id C0
  have hown : s.vm.findClass RL = some m.cls := hown
  have hq : ∀ w ∈ wsA, w.before _ s = true := fun w h => hts w (List.mem_filter.mp h).1
  have hbA : ¬ A b := fun h => Nat.not_le.mpr hbl (hAq b h)
  refine lv_aload_n hx hb dL_law_956 rfl (lv_at hl 2 rfl) ?_
  refine lv_aload_n hx hb dL_law_957 rfl (lv_at hl 3 rfl) ?_
  refine lv_iload_n hx hb dL_law_958 rfl (lv_at hl 0 rfl) ?_
  refine lv_iconst (v := 1) hx hb dL_law_959 (by decide) ?_
  refine lv_iadd hx hb dL_law_960 ?_
  refine lv_topi (fun y1_1 ey1_1 => ?_)
  refine va_sld hx hb hXs hbl hbA hS (sc_in ey1_1 hi hL (by decide)) dL_law_961 ?_
  refine lv_topi (fun z1_1 ez1_1 => ?_)
  refine lv_aload_n hx hb dL_law_962 rfl (lv_at hl 3 rfl) ?_
  refine lv_iload_n hx hb dL_law_963 rfl (lv_at hl 0 rfl) ?_
  refine lv_iconst (v := 2) hx hb dL_law_964 (by decide) ?_
  refine lv_iadd hx hb dL_law_965 ?_
  refine lv_topi (fun y1_2 ey1_2 => ?_)
  refine va_sld hx hb hXs hbl hbA hS (sc_in ey1_2 hi hL (by decide)) dL_law_966 ?_
  refine lv_topi (fun z1_2 ez1_2 => ?_)
  refine lv_aload_n hx hb dL_law_967 rfl (lv_at hl 3 rfl) ?_
  refine lv_iload_n hx hb dL_law_968 rfl (lv_at hl 0 rfl) ?_
  refine lv_iconst (v := 3) hx hb dL_law_969 (by decide) ?_
  refine lv_iadd hx hb dL_law_970 ?_
  refine lv_topi (fun y1_3 ey1_3 => ?_)
  refine va_sld hx hb hXs hbl hbA hS (sc_in ey1_3 hi hL (by decide)) dL_law_971 ?_
  refine lv_topi (fun z1_3 ez1_3 => ?_)
  refine lv_aload_n hx hb dL_law_972 rfl (lv_at hl 3 rfl) ?_
  refine lv_iload_n hx hb dL_law_973 rfl (lv_at hl 0 rfl) ?_
  refine lv_iconst (v := 4) hx hb dL_law_974 (by decide) ?_
  refine lv_iadd hx hb dL_law_975 ?_
  refine lv_topi (fun y1_4 ey1_4 => ?_)
  refine va_sld hx hb hXs hbl hbA hS (sc_in ey1_4 hi hL (by decide)) dL_law_976 ?_
  refine lv_topi (fun z1_4 ez1_4 => ?_)
  have hFx : ∀ p : Nat, inL (xL a) H.size p → A p := fun p h => in_A hNx hA hS h
  refine va_calli (va_runV (As := [.int z1_1, .int z1_2, .int z1_3, .int z1_4]) (rest := []) ⟨hx, hb, hml, hown, hq⟩ (X_note l dC dI _ kA vA a k q hQ hNx.tt x md ix hM z1_1 z1_2 z1_3 z1_4) (cwV 4 hq (gV qw_1080 qw_1081 qw_1082 qw_119 qw_1083) rfl rfl rfl (by decide +kernel) ⟨Nat.le_of_ble_eq_true rfl, Nat.le_of_ble_eq_true rfl⟩) ⟨fun ar U g mk h => by obtain ⟨q0, q1, qX, qK, qE, qT⟩ := h; exact ⟨q0, q1, qX, va_K.moved (u := U) (U := U.calling g mk ar) (Vm.Alike.refl U.vm) qK, xE.same rfl qE, xT.same rfl qT⟩, hX.recv hKx, fun U hU hW => ⟨rfl, by rw [hU], by rw [hU]; exact hX, va_K.moved hW.alike hKx, xE.warm hW hE, by rw [hU]; exact xT.call hW hT hS hFx⟩⟩ rfl rfl hl.1 rfl (lv_room (Nat.le_of_ble_eq_true rfl)) dL_law_977 ⟨Nat.le_of_ble_eq_true rfl, Nat.le_of_ble_eq_true rfl⟩) hS (fun p _ h => hFx p h) hFx (fun r_1 u1 t1 H1 locs ht1 hvm1 hw1 hB1 hz1 hk1 hS => ?_)
  have hX1 : xP dC dI a k q x md ix t1.heap := hB1
  rw [ht1] at hX1
  have hY := hY.keep hdm hk1
  refine lv_pop hx hb dL_law_980 rfl ?_
  refine lv_aload_n hx hb dL_law_981 rfl (lv_at hl 1 rfl) ?_
  refine lv_aload_n hx hb dL_law_982 rfl (lv_at hl 3 rfl) ?_
  refine lv_iload_n hx hb dL_law_983 rfl (lv_at hl 0 rfl) ?_
  refine lv_iconst (v := 1) hx hb dL_law_984 (by decide) ?_
  refine lv_iadd hx hb dL_law_985 ?_
  refine lv_topi (fun y2_1 ey2_1 => ?_)
  refine va_sld hx hb hXs hbl hbA hS (sc_in ey2_1 hi hL (by decide)) dL_law_986 ?_
  refine lv_topi (fun z2_1 ez2_1 => ?_)
  refine lv_aload_n hx hb dL_law_987 rfl (lv_at hl 3 rfl) ?_
  refine lv_iload_n hx hb dL_law_988 rfl (lv_at hl 0 rfl) ?_
  refine lv_iconst (v := 2) hx hb dL_law_989 (by decide) ?_
  refine lv_iadd hx hb dL_law_990 ?_
  refine lv_topi (fun y2_2 ey2_2 => ?_)
  refine va_sld hx hb hXs hbl hbA hS (sc_in ey2_2 hi hL (by decide)) dL_law_991 ?_
  refine lv_topi (fun z2_2 ez2_2 => ?_)
  refine lv_aload_n hx hb dL_law_992 rfl (lv_at hl 3 rfl) ?_
  refine lv_iload_n hx hb dL_law_993 rfl (lv_at hl 0 rfl) ?_
  refine lv_iconst (v := 3) hx hb dL_law_994 (by decide) ?_
  refine lv_iadd hx hb dL_law_995 ?_
  refine lv_topi (fun y2_3 ey2_3 => ?_)
  refine va_sld hx hb hXs hbl hbA hS (sc_in ey2_3 hi hL (by decide)) dL_law_996 ?_
  refine lv_topi (fun z2_3 ez2_3 => ?_)
  refine lv_aload_n hx hb dL_law_997 rfl (lv_at hl 3 rfl) ?_
  refine lv_iload_n hx hb dL_law_998 rfl (lv_at hl 0 rfl) ?_
  refine lv_iconst (v := 4) hx hb dL_law_999 (by decide) ?_
  refine lv_iadd hx hb dL_law_1000 ?_
  refine lv_topi (fun y2_4 ey2_4 => ?_)
  refine va_sld hx hb hXs hbl hbA hS (sc_in ey2_4 hi hL (by decide)) dL_law_1001 ?_
  refine lv_topi (fun z2_4 ez2_4 => ?_)
  have hFm : ∀ p : Nat, inL (mL a2) H1.size p → A p := fun p h => in_A hNm hA hS h
  refine va_calli (va_runV (As := [.int z2_1, .int z2_2, .int z2_3, .int z2_4]) (rest := []) ⟨hx, hb, hml, hown, hq⟩ (M_note l dC dI _ a2 k2 q2 hNm.tt x md ix hM z2_1 z2_2 z2_3 z2_4) (cwV 4 hq (gV qw_1744 qw_1745 qw_1746 qw_131 qw_1747) rfl rfl rfl (by decide +kernel) ⟨Nat.le_of_ble_eq_true rfl, Nat.le_of_ble_eq_true rfl⟩) ⟨fun ar U g mk h => by obtain ⟨q0, q1, qX, qK, qE⟩ := h; exact ⟨q0, q1, qX, va_K.moved (u := U) (U := U.calling g mk ar) (Vm.Alike.refl U.vm) qK, xE.same rfl qE⟩, hY.recv hKm, fun U hU hW => ⟨rfl, by rw [hU], by rw [hU]; exact hY, va_K.moved hW.alike hKm, xE.warm hW hE⟩⟩ rfl rfl hl.1 rfl (lv_room (Nat.le_of_ble_eq_true rfl)) dL_law_1002 ⟨Nat.le_of_ble_eq_true rfl, Nat.le_of_ble_eq_true rfl⟩) hS (fun p _ h => hFm p h) hFm (fun r_2 u2 t2 H2 locs ht2 hvm2 hw2 hB2 hz2 hk2 hS => ?_)
  have hY2 : mP dC dI a2 k2 q2 x md ix t2.heap := hB2
  rw [ht2] at hY2
  have hX2 := hX1.keep hdx hk2
  refine lv_pop hx hb dL_law_1005 rfl ?_
  refine lv_goto (tgt := 1210) hx hb dL_law_1006 (by decide) ?_
  exact hC _ _ _ _ _ hM hX2 hY2 hS

set_option maxHeartbeats 4000000 in
set_option maxRecDepth 100000 in
theorem law_29 {p : Program} {l : Launch} {e : Env} {s : State} {m : MethodId} {below : List Frame} {meth : Method} {c : Code} {A : Nat → Prop} {kA vA : Nat → Nat} {dC : Nat → ClassId} {dI : Nat → Nat → Nat} {b : Nat} {xs : Nat → Int32} {L : Nat} {a : Nat → Nat} {k : Nat → ClassId} {q : Nat → Nat → Option Nat} {a2 : Nat → Nat} {k2 : Nat → ClassId} {q2 : Nat → Nat → Option Nat} (C1 : lwC p s m meth c A kA vA dC dI b xs L a k q a2 k2) {x : Int32} {md ix : Nat → Int32} (hM : (∀ j : Nat, j < 4 → md j = 0 ∨ md j = 1)) {H : Heap} {locs : List Loc} (hX : xP dC dI a k q x md ix H) (hY : mP dC dI a2 k2 q2 x md ix H) (hS : va_S A s.heap H locs) {ls : Array Slot} {i : Int32} (hi : 0 ≤ i.toInt ∧ i.toInt + 6 ≤ (L : Int)) (hl : lv_has ls 4 [(3, .int i), (2, .ref (a2 0)), (1, .ref (a 0)), (0, .ref b)])
    (hC : ∀ (x : Int32) (md ix : Nat → Int32) (H : Heap) (locs : List Loc), (∀ j : Nat, j < 4 → md j = 0 ∨ md j = 1) → xP dC dI a k q x md ix H → mP dC dI a2 k2 q2 x md ix H → va_S A s.heap H locs → W p l e room_1 s m #[Value.ref b] below meth c H locs 152 8829 (lw_Z below #[Value.ref b] s) (F0 m 1210 ls [])) : W p l e room_1 s m #[Value.ref b] below meth c H locs 152 8829 (lw_Z below #[Value.ref b] s) (F0 m 1009 ls []) := by
  obtain ⟨C0, hL, hA, hAq, hE, hT, hQ, hNx, hNm, hdx, hdm, hKx, hKm⟩ := C1
  obtain ⟨hx, hb, hr, hml, hown, hts, hXs, hbl, hlocks, hgv⟩ := id C0
  have hown : s.vm.findClass RL = some m.cls := hown
  have hq : ∀ w ∈ wsA, w.before _ s = true := fun w h => hts w (List.mem_filter.mp h).1
  have hbA : ¬ A b := fun h => Nat.not_le.mpr hbl (hAq b h)
  refine lv_aload_n hx hb dL_law_1009 rfl (lv_at hl 2 rfl) ?_
  refine lv_aload_n hx hb dL_law_1010 rfl (lv_at hl 3 rfl) ?_
  refine lv_iload_n hx hb dL_law_1011 rfl (lv_at hl 0 rfl) ?_
  refine lv_iconst (v := 1) hx hb dL_law_1012 (by decide) ?_
  refine lv_iadd hx hb dL_law_1013 ?_
  refine lv_topi (fun y1_1 ey1_1 => ?_)
  refine va_sld hx hb hXs hbl hbA hS (sc_in ey1_1 hi hL (by decide)) dL_law_1014 ?_
  refine lv_topi (fun z1_1 ez1_1 => ?_)
  have hFx : ∀ p : Nat, inL (xL a) H.size p → A p := fun p h => in_A hNx hA hS h
  refine va_calli (va_runV (As := [.int z1_1]) (rest := []) ⟨hx, hb, hml, hown, hq⟩ (X_ruled l dC dI _ kA vA a k q hQ hNx.tt x md ix hM z1_1) (cwV 1 hq (gV qw_1088 qw_1089 qw_1090 qw_119 qw_1091) rfl rfl rfl (by decide +kernel) ⟨Nat.le_of_ble_eq_true rfl, Nat.le_of_ble_eq_true rfl⟩) ⟨fun ar U g mk h => by obtain ⟨q0, q1, qX, qK, qE, qT⟩ := h; exact ⟨q0, q1, qX, va_K.moved (u := U) (U := U.calling g mk ar) (Vm.Alike.refl U.vm) qK, xE.same rfl qE, xT.same rfl qT⟩, hX.recv hKx, fun U hU hW => ⟨rfl, by rw [hU], by rw [hU]; exact hX, va_K.moved hW.alike hKx, xE.warm hW hE, by rw [hU]; exact xT.call hW hT hS hFx⟩⟩ rfl rfl hl.1 rfl (lv_room (Nat.le_of_ble_eq_true rfl)) dL_law_1015 ⟨Nat.le_of_ble_eq_true rfl, Nat.le_of_ble_eq_true rfl⟩) hS (fun p _ h => hFx p h) hFx (fun r_1 u1 t1 H1 locs ht1 hvm1 hw1 hB1 hz1 hk1 hS => ?_)
  have hX1 : xP dC dI a k q x md ix t1.heap := hB1
  rw [ht1] at hX1
  have hY := hY.keep hdm hk1
  refine lv_pop hx hb dL_law_1018 rfl ?_
  refine lv_aload_n hx hb dL_law_1019 rfl (lv_at hl 1 rfl) ?_
  refine lv_aload_n hx hb dL_law_1020 rfl (lv_at hl 3 rfl) ?_
  refine lv_iload_n hx hb dL_law_1021 rfl (lv_at hl 0 rfl) ?_
  refine lv_iconst (v := 1) hx hb dL_law_1022 (by decide) ?_
  refine lv_iadd hx hb dL_law_1023 ?_
  refine lv_topi (fun y2_1 ey2_1 => ?_)
  refine va_sld hx hb hXs hbl hbA hS (sc_in ey2_1 hi hL (by decide)) dL_law_1024 ?_
  refine lv_topi (fun z2_1 ez2_1 => ?_)
  have hFm : ∀ p : Nat, inL (mL a2) H1.size p → A p := fun p h => in_A hNm hA hS h
  refine va_calli (va_runV (As := [.int z2_1]) (rest := []) ⟨hx, hb, hml, hown, hq⟩ (M_ruled l dC dI _ a2 k2 q2 hNm.tt x md ix hM z2_1) (cwV 1 hq (gV qw_1749 qw_1750 qw_1751 qw_131 qw_1752) rfl rfl rfl (by decide +kernel) ⟨Nat.le_of_ble_eq_true rfl, Nat.le_of_ble_eq_true rfl⟩) ⟨fun ar U g mk h => by obtain ⟨q0, q1, qX, qK, qE⟩ := h; exact ⟨q0, q1, qX, va_K.moved (u := U) (U := U.calling g mk ar) (Vm.Alike.refl U.vm) qK, xE.same rfl qE⟩, hY.recv hKm, fun U hU hW => ⟨rfl, by rw [hU], by rw [hU]; exact hY, va_K.moved hW.alike hKm, xE.warm hW hE⟩⟩ rfl rfl hl.1 rfl (lv_room (Nat.le_of_ble_eq_true rfl)) dL_law_1025 ⟨Nat.le_of_ble_eq_true rfl, Nat.le_of_ble_eq_true rfl⟩) hS (fun p _ h => hFm p h) hFm (fun r_2 u2 t2 H2 locs ht2 hvm2 hw2 hB2 hz2 hk2 hS => ?_)
  have hY2 : mP dC dI a2 k2 q2 x md ix t2.heap := hB2
  rw [ht2] at hY2
  have hX2 := hX1.keep hdx hk2
  refine lv_pop hx hb dL_law_1028 rfl ?_
  refine lv_goto (tgt := 1210) hx hb dL_law_1029 (by decide) ?_
  exact hC _ _ _ _ _ hM hX2 hY2 hS

set_option maxHeartbeats 4000000 in
set_option maxRecDepth 100000 in
theorem law_30 {p : Program} {l : Launch} {e : Env} {s : State} {m : MethodId} {below : List Frame} {meth : Method} {c : Code} {A : Nat → Prop} {kA vA : Nat → Nat} {dC : Nat → ClassId} {dI : Nat → Nat → Nat} {b : Nat} {xs : Nat → Int32} {L : Nat} {a : Nat → Nat} {k : Nat → ClassId} {q : Nat → Nat → Option Nat} {a2 : Nat → Nat} {k2 : Nat → ClassId} {q2 : Nat → Nat → Option Nat} (C1 : lwC p s m meth c A kA vA dC dI b xs L a k q a2 k2) {x : Int32} {md ix : Nat → Int32} (hM : (∀ j : Nat, j < 4 → md j = 0 ∨ md j = 1)) {H : Heap} {locs : List Loc} (hX : xP dC dI a k q x md ix H) (hY : mP dC dI a2 k2 q2 x md ix H) (hS : va_S A s.heap H locs) {ls : Array Slot} {i : Int32} (hi : 0 ≤ i.toInt ∧ i.toInt + 6 ≤ (L : Int)) (hl : lv_has ls 4 [(3, .int i), (2, .ref (a2 0)), (1, .ref (a 0)), (0, .ref b)])
    (hC : ∀ (x : Int32) (md ix : Nat → Int32) (H : Heap) (locs : List Loc), (∀ j : Nat, j < 4 → md j = 0 ∨ md j = 1) → xP dC dI a k q x md ix H → mP dC dI a2 k2 q2 x md ix H → va_S A s.heap H locs → W p l e room_1 s m #[Value.ref b] below meth c H locs 152 8829 (lw_Z below #[Value.ref b] s) (F0 m 1210 ls [])) : W p l e room_1 s m #[Value.ref b] below meth c H locs 152 8829 (lw_Z below #[Value.ref b] s) (F0 m 1032 ls []) := by
  obtain ⟨C0, hL, hA, hAq, hE, hT, hQ, hNx, hNm, hdx, hdm, hKx, hKm⟩ := C1
  obtain ⟨hx, hb, hr, hml, hown, hts, hXs, hbl, hlocks, hgv⟩ := id C0
  have hown : s.vm.findClass RL = some m.cls := hown
  have hq : ∀ w ∈ wsA, w.before _ s = true := fun w h => hts w (List.mem_filter.mp h).1
  have hbA : ¬ A b := fun h => Nat.not_le.mpr hbl (hAq b h)
  refine lv_aload_n hx hb dL_law_1032 rfl (lv_at hl 2 rfl) ?_
  refine lv_aload_n hx hb dL_law_1033 rfl (lv_at hl 3 rfl) ?_
  refine lv_iload_n hx hb dL_law_1034 rfl (lv_at hl 0 rfl) ?_
  refine lv_iconst (v := 1) hx hb dL_law_1035 (by decide) ?_
  refine lv_iadd hx hb dL_law_1036 ?_
  refine lv_topi (fun y1_1 ey1_1 => ?_)
  refine va_sld hx hb hXs hbl hbA hS (sc_in ey1_1 hi hL (by decide)) dL_law_1037 ?_
  refine lv_topi (fun z1_1 ez1_1 => ?_)
  refine lv_aload_n hx hb dL_law_1038 rfl (lv_at hl 3 rfl) ?_
  refine lv_iload_n hx hb dL_law_1039 rfl (lv_at hl 0 rfl) ?_
  refine lv_iconst (v := 2) hx hb dL_law_1040 (by decide) ?_
  refine lv_iadd hx hb dL_law_1041 ?_
  refine lv_topi (fun y1_2 ey1_2 => ?_)
  refine va_sld hx hb hXs hbl hbA hS (sc_in ey1_2 hi hL (by decide)) dL_law_1042 ?_
  refine lv_topi (fun z1_2 ez1_2 => ?_)
  have hFx : ∀ p : Nat, inL (xL a) H.size p → A p := fun p h => in_A hNx hA hS h
  refine va_calli (va_runV (As := [.int z1_1, .int z1_2]) (rest := []) ⟨hx, hb, hml, hown, hq⟩ (X_look l dC dI _ kA vA a k q hQ hNx.tt x md ix hM z1_1 z1_2) (cwV 2 hq (gV qw_1097 qw_1098 qw_1099 qw_119 qw_1100) rfl rfl rfl (by decide +kernel) ⟨Nat.le_of_ble_eq_true rfl, Nat.le_of_ble_eq_true rfl⟩) ⟨fun ar U g mk h => by obtain ⟨q0, q1, qX, qK, qE, qT⟩ := h; exact ⟨q0, q1, qX, va_K.moved (u := U) (U := U.calling g mk ar) (Vm.Alike.refl U.vm) qK, xE.same rfl qE, xT.same rfl qT⟩, hX.recv hKx, fun U hU hW => ⟨rfl, by rw [hU], by rw [hU]; exact hX, va_K.moved hW.alike hKx, xE.warm hW hE, by rw [hU]; exact xT.call hW hT hS hFx⟩⟩ rfl rfl hl.1 rfl (lv_room (Nat.le_of_ble_eq_true rfl)) dL_law_1043 ⟨Nat.le_of_ble_eq_true rfl, Nat.le_of_ble_eq_true rfl⟩) hS (fun p _ h => hFx p h) hFx (fun r_1 u1 t1 H1 locs ht1 hvm1 hw1 hB1 hz1 hk1 hS => ?_)
  have hX1 : xP dC dI a k q x md ix t1.heap := hB1
  rw [ht1] at hX1
  have hY := hY.keep hdm hk1
  refine lv_pop hx hb dL_law_1046 rfl ?_
  refine lv_aload_n hx hb dL_law_1047 rfl (lv_at hl 1 rfl) ?_
  refine lv_aload_n hx hb dL_law_1048 rfl (lv_at hl 3 rfl) ?_
  refine lv_iload_n hx hb dL_law_1049 rfl (lv_at hl 0 rfl) ?_
  refine lv_iconst (v := 1) hx hb dL_law_1050 (by decide) ?_
  refine lv_iadd hx hb dL_law_1051 ?_
  refine lv_topi (fun y2_1 ey2_1 => ?_)
  refine va_sld hx hb hXs hbl hbA hS (sc_in ey2_1 hi hL (by decide)) dL_law_1052 ?_
  refine lv_topi (fun z2_1 ez2_1 => ?_)
  refine lv_aload_n hx hb dL_law_1053 rfl (lv_at hl 3 rfl) ?_
  refine lv_iload_n hx hb dL_law_1054 rfl (lv_at hl 0 rfl) ?_
  refine lv_iconst (v := 2) hx hb dL_law_1055 (by decide) ?_
  refine lv_iadd hx hb dL_law_1056 ?_
  refine lv_topi (fun y2_2 ey2_2 => ?_)
  refine va_sld hx hb hXs hbl hbA hS (sc_in ey2_2 hi hL (by decide)) dL_law_1057 ?_
  refine lv_topi (fun z2_2 ez2_2 => ?_)
  have hFm : ∀ p : Nat, inL (mL a2) H1.size p → A p := fun p h => in_A hNm hA hS h
  refine va_calli (va_runV (As := [.int z2_1, .int z2_2]) (rest := []) ⟨hx, hb, hml, hown, hq⟩ (M_look l dC dI _ a2 k2 q2 hNm.tt x md ix hM z2_1 z2_2) (cwV 2 hq (gV qw_1757 qw_1758 qw_1759 qw_131 qw_1760) rfl rfl rfl (by decide +kernel) ⟨Nat.le_of_ble_eq_true rfl, Nat.le_of_ble_eq_true rfl⟩) ⟨fun ar U g mk h => by obtain ⟨q0, q1, qX, qK, qE⟩ := h; exact ⟨q0, q1, qX, va_K.moved (u := U) (U := U.calling g mk ar) (Vm.Alike.refl U.vm) qK, xE.same rfl qE⟩, hY.recv hKm, fun U hU hW => ⟨rfl, by rw [hU], by rw [hU]; exact hY, va_K.moved hW.alike hKm, xE.warm hW hE⟩⟩ rfl rfl hl.1 rfl (lv_room (Nat.le_of_ble_eq_true rfl)) dL_law_1058 ⟨Nat.le_of_ble_eq_true rfl, Nat.le_of_ble_eq_true rfl⟩) hS (fun p _ h => hFm p h) hFm (fun r_2 u2 t2 H2 locs ht2 hvm2 hw2 hB2 hz2 hk2 hS => ?_)
  have hY2 : mP dC dI a2 k2 q2 x md ix t2.heap := hB2
  rw [ht2] at hY2
  have hX2 := hX1.keep hdx hk2
  refine lv_pop hx hb dL_law_1061 rfl ?_
  refine lv_goto (tgt := 1210) hx hb dL_law_1062 (by decide) ?_
  exact hC _ _ _ _ _ hM hX2 hY2 hS

set_option maxHeartbeats 4000000 in
set_option maxRecDepth 100000 in
theorem law_31 {p : Program} {l : Launch} {e : Env} {s : State} {m : MethodId} {below : List Frame} {meth : Method} {c : Code} {A : Nat → Prop} {kA vA : Nat → Nat} {dC : Nat → ClassId} {dI : Nat → Nat → Nat} {b : Nat} {xs : Nat → Int32} {L : Nat} {a : Nat → Nat} {k : Nat → ClassId} {q : Nat → Nat → Option Nat} {a2 : Nat → Nat} {k2 : Nat → ClassId} {q2 : Nat → Nat → Option Nat} (C1 : lwC p s m meth c A kA vA dC dI b xs L a k q a2 k2) {x : Int32} {md ix : Nat → Int32} (hM : (∀ j : Nat, j < 4 → md j = 0 ∨ md j = 1)) {H : Heap} {locs : List Loc} (hX : xP dC dI a k q x md ix H) (hY : mP dC dI a2 k2 q2 x md ix H) (hS : va_S A s.heap H locs) {ls : Array Slot} {i : Int32} (hi : 0 ≤ i.toInt ∧ i.toInt + 6 ≤ (L : Int)) (hl : lv_has ls 4 [(3, .int i), (2, .ref (a2 0)), (1, .ref (a 0)), (0, .ref b)])
    (hC : ∀ (x : Int32) (md ix : Nat → Int32) (H : Heap) (locs : List Loc), (∀ j : Nat, j < 4 → md j = 0 ∨ md j = 1) → xP dC dI a k q x md ix H → mP dC dI a2 k2 q2 x md ix H → va_S A s.heap H locs → W p l e room_1 s m #[Value.ref b] below meth c H locs 152 8829 (lw_Z below #[Value.ref b] s) (F0 m 1210 ls [])) : W p l e room_1 s m #[Value.ref b] below meth c H locs 152 8829 (lw_Z below #[Value.ref b] s) (F0 m 1065 ls []) := by
  obtain ⟨C0, hL, hA, hAq, hE, hT, hQ, hNx, hNm, hdx, hdm, hKx, hKm⟩ := C1
  obtain ⟨hx, hb, hr, hml, hown, hts, hXs, hbl, hlocks, hgv⟩ := id C0
  have hown : s.vm.findClass RL = some m.cls := hown
  have hq : ∀ w ∈ wsA, w.before _ s = true := fun w h => hts w (List.mem_filter.mp h).1
  have hbA : ¬ A b := fun h => Nat.not_le.mpr hbl (hAq b h)
  refine lv_aload_n hx hb dL_law_1065 rfl (lv_at hl 2 rfl) ?_
  refine lv_aload_n hx hb dL_law_1066 rfl (lv_at hl 3 rfl) ?_
  refine lv_iload_n hx hb dL_law_1067 rfl (lv_at hl 0 rfl) ?_
  refine lv_iconst (v := 1) hx hb dL_law_1068 (by decide) ?_
  refine lv_iadd hx hb dL_law_1069 ?_
  refine lv_topi (fun y1_1 ey1_1 => ?_)
  refine va_sld hx hb hXs hbl hbA hS (sc_in ey1_1 hi hL (by decide)) dL_law_1070 ?_
  refine lv_topi (fun z1_1 ez1_1 => ?_)
  have hFx : ∀ p : Nat, inL (xL a) H.size p → A p := fun p h => in_A hNx hA hS h
  refine va_calli (va_runV (As := [.int z1_1]) (rest := []) ⟨hx, hb, hml, hown, hq⟩ (X_seed l dC dI _ kA vA a k q hQ hNx.tt x md ix hM z1_1) (cwV 1 hq (gV qw_1111 qw_1112 qw_1113 qw_119 qw_1114) rfl rfl rfl (by decide +kernel) ⟨Nat.le_of_ble_eq_true rfl, Nat.le_of_ble_eq_true rfl⟩) ⟨fun ar U g mk h => by obtain ⟨q0, q1, qX, qK, qE, qT⟩ := h; exact ⟨q0, q1, qX, va_K.moved (u := U) (U := U.calling g mk ar) (Vm.Alike.refl U.vm) qK, xE.same rfl qE, xT.same rfl qT⟩, hX.recv hKx, fun U hU hW => ⟨rfl, by rw [hU], by rw [hU]; exact hX, va_K.moved hW.alike hKx, xE.warm hW hE, by rw [hU]; exact xT.call hW hT hS hFx⟩⟩ rfl rfl hl.1 rfl (lv_room (Nat.le_of_ble_eq_true rfl)) dL_law_1071 ⟨Nat.le_of_ble_eq_true rfl, Nat.le_of_ble_eq_true rfl⟩) hS (fun p _ h => hFx p h) hFx (fun r_1 u1 t1 H1 locs ht1 hvm1 hw1 hB1 hz1 hk1 hS => ?_)
  have hX1 : xP dC dI a k q (sdx z1_1 x) md ix t1.heap := hB1
  rw [ht1] at hX1
  have hY := hY.keep hdm hk1
  refine lv_aload_n hx hb dL_law_1074 rfl (lv_at hl 1 rfl) ?_
  refine lv_aload_n hx hb dL_law_1075 rfl (lv_at hl 3 rfl) ?_
  refine lv_iload_n hx hb dL_law_1076 rfl (lv_at hl 0 rfl) ?_
  refine lv_iconst (v := 1) hx hb dL_law_1077 (by decide) ?_
  refine lv_iadd hx hb dL_law_1078 ?_
  refine lv_topi (fun y2_1 ey2_1 => ?_)
  refine va_sld hx hb hXs hbl hbA hS (sc_in ey2_1 hi hL (by decide)) dL_law_1079 ?_
  refine lv_topi (fun z2_1 ez2_1 => ?_)
  obtain rfl : z2_1 = z1_1 := by rw [ez2_1, ez1_1, ey2_1, ey1_1]
  have hFm : ∀ p : Nat, inL (mL a2) H1.size p → A p := fun p h => in_A hNm hA hS h
  refine va_calli (va_runV (As := [.int z2_1]) (rest := [.int r_1]) ⟨hx, hb, hml, hown, hq⟩ (M_seed l dC dI _ a2 k2 q2 hNm.tt x md ix hM z2_1) (cwV 1 hq (gV qw_1765 qw_1766 qw_1767 qw_131 qw_1768) rfl rfl rfl (by decide +kernel) ⟨Nat.le_of_ble_eq_true rfl, Nat.le_of_ble_eq_true rfl⟩) ⟨fun ar U g mk h => by obtain ⟨q0, q1, qX, qK, qE⟩ := h; exact ⟨q0, q1, qX, va_K.moved (u := U) (U := U.calling g mk ar) (Vm.Alike.refl U.vm) qK, xE.same rfl qE⟩, hY.recv hKm, fun U hU hW => ⟨rfl, by rw [hU], by rw [hU]; exact hY, va_K.moved hW.alike hKm, xE.warm hW hE⟩⟩ rfl rfl hl.1 rfl (lv_room (Nat.le_of_ble_eq_true rfl)) dL_law_1080 ⟨Nat.le_of_ble_eq_true rfl, Nat.le_of_ble_eq_true rfl⟩) hS (fun p _ h => hFm p h) hFm (fun r_2 u2 t2 H2 locs ht2 hvm2 hw2 hB2 hz2 hk2 hS => ?_)
  have hY2 : mP dC dI a2 k2 q2 (sdx z2_1 x) md ix t2.heap := hB2
  rw [ht2] at hY2
  have hX2 := hX1.keep hdx hk2
  refine lv_icmp_eq (tgt := 1210) hx hb dL_law_1083 (by decide) (fun _ => ?_) (fun c9 => absurd (Eq.trans hw1 (Eq.symm hw2)) c9)
  exact hC _ _ _ _ _ hM hX2 hY2 hS

set_option maxHeartbeats 4000000 in
set_option maxRecDepth 100000 in
theorem law_32 {p : Program} {l : Launch} {e : Env} {s : State} {m : MethodId} {below : List Frame} {meth : Method} {c : Code} {A : Nat → Prop} {kA vA : Nat → Nat} {dC : Nat → ClassId} {dI : Nat → Nat → Nat} {b : Nat} {xs : Nat → Int32} {L : Nat} {a : Nat → Nat} {k : Nat → ClassId} {q : Nat → Nat → Option Nat} {a2 : Nat → Nat} {k2 : Nat → ClassId} {q2 : Nat → Nat → Option Nat} (C1 : lwC p s m meth c A kA vA dC dI b xs L a k q a2 k2) {x : Int32} {md ix : Nat → Int32} (hM : (∀ j : Nat, j < 4 → md j = 0 ∨ md j = 1)) {H : Heap} {locs : List Loc} (hX : xP dC dI a k q x md ix H) (hY : mP dC dI a2 k2 q2 x md ix H) (hS : va_S A s.heap H locs) {ls : Array Slot} {i : Int32} (hi : 0 ≤ i.toInt ∧ i.toInt + 6 ≤ (L : Int)) (hl : lv_has ls 4 [(3, .int i), (2, .ref (a2 0)), (1, .ref (a 0)), (0, .ref b)])
    (hC : ∀ (x : Int32) (md ix : Nat → Int32) (H : Heap) (locs : List Loc), (∀ j : Nat, j < 4 → md j = 0 ∨ md j = 1) → xP dC dI a k q x md ix H → mP dC dI a2 k2 q2 x md ix H → va_S A s.heap H locs → W p l e room_1 s m #[Value.ref b] below meth c H locs 152 8829 (lw_Z below #[Value.ref b] s) (F0 m 1210 ls [])) : W p l e room_1 s m #[Value.ref b] below meth c H locs 152 8829 (lw_Z below #[Value.ref b] s) (F0 m 1088 ls []) := by
  obtain ⟨C0, hL, hA, hAq, hE, hT, hQ, hNx, hNm, hdx, hdm, hKx, hKm⟩ := C1
  obtain ⟨hx, hb, hr, hml, hown, hts, hXs, hbl, hlocks, hgv⟩ := id C0
  have hown : s.vm.findClass RL = some m.cls := hown
  have hq : ∀ w ∈ wsA, w.before _ s = true := fun w h => hts w (List.mem_filter.mp h).1
  have hbA : ¬ A b := fun h => Nat.not_le.mpr hbl (hAq b h)
  refine lv_aload_n hx hb dL_law_1088 rfl (lv_at hl 2 rfl) ?_
  refine lv_aload_n hx hb dL_law_1089 rfl (lv_at hl 3 rfl) ?_
  refine lv_iload_n hx hb dL_law_1090 rfl (lv_at hl 0 rfl) ?_
  refine lv_iconst (v := 1) hx hb dL_law_1091 (by decide) ?_
  refine lv_iadd hx hb dL_law_1092 ?_
  refine lv_topi (fun y1_1 ey1_1 => ?_)
  refine va_sld hx hb hXs hbl hbA hS (sc_in ey1_1 hi hL (by decide)) dL_law_1093 ?_
  refine lv_topi (fun z1_1 ez1_1 => ?_)
  refine lv_aload_n hx hb dL_law_1094 rfl (lv_at hl 3 rfl) ?_
  refine lv_iload_n hx hb dL_law_1095 rfl (lv_at hl 0 rfl) ?_
  refine lv_iconst (v := 2) hx hb dL_law_1096 (by decide) ?_
  refine lv_iadd hx hb dL_law_1097 ?_
  refine lv_topi (fun y1_2 ey1_2 => ?_)
  refine va_sld hx hb hXs hbl hbA hS (sc_in ey1_2 hi hL (by decide)) dL_law_1098 ?_
  refine lv_topi (fun z1_2 ez1_2 => ?_)
  refine lv_aload_n hx hb dL_law_1099 rfl (lv_at hl 3 rfl) ?_
  refine lv_iload_n hx hb dL_law_1100 rfl (lv_at hl 0 rfl) ?_
  refine lv_iconst (v := 3) hx hb dL_law_1101 (by decide) ?_
  refine lv_iadd hx hb dL_law_1102 ?_
  refine lv_topi (fun y1_3 ey1_3 => ?_)
  refine va_sld hx hb hXs hbl hbA hS (sc_in ey1_3 hi hL (by decide)) dL_law_1103 ?_
  refine lv_topi (fun z1_3 ez1_3 => ?_)
  refine lv_aload_n hx hb dL_law_1104 rfl (lv_at hl 3 rfl) ?_
  refine lv_iload_n hx hb dL_law_1105 rfl (lv_at hl 0 rfl) ?_
  refine lv_iconst (v := 4) hx hb dL_law_1106 (by decide) ?_
  refine lv_iadd hx hb dL_law_1107 ?_
  refine lv_topi (fun y1_4 ey1_4 => ?_)
  refine va_sld hx hb hXs hbl hbA hS (sc_in ey1_4 hi hL (by decide)) dL_law_1108 ?_
  refine lv_topi (fun z1_4 ez1_4 => ?_)
  have hFx : ∀ p : Nat, inL (xL a) H.size p → A p := fun p h => in_A hNx hA hS h
  refine va_calli (va_runV (As := [.int z1_1, .int z1_2, .int z1_3, .int z1_4]) (rest := []) ⟨hx, hb, hml, hown, hq⟩ (X_hiccups l dC dI _ kA vA a k q hQ hNx.tt x md ix hM z1_1 z1_2 z1_3 z1_4) (cwV 4 hq (gV qw_1115 qw_1116 qw_1117 qw_119 qw_1118) rfl rfl rfl (by decide +kernel) ⟨Nat.le_of_ble_eq_true rfl, Nat.le_of_ble_eq_true rfl⟩) ⟨fun ar U g mk h => by obtain ⟨q0, q1, qX, qK, qE, qT⟩ := h; exact ⟨q0, q1, qX, va_K.moved (u := U) (U := U.calling g mk ar) (Vm.Alike.refl U.vm) qK, xE.same rfl qE, xT.same rfl qT⟩, hX.recv hKx, fun U hU hW => ⟨rfl, by rw [hU], by rw [hU]; exact hX, va_K.moved hW.alike hKx, xE.warm hW hE, by rw [hU]; exact xT.call hW hT hS hFx⟩⟩ rfl rfl hl.1 rfl (lv_room (Nat.le_of_ble_eq_true rfl)) dL_law_1109 ⟨Nat.le_of_ble_eq_true rfl, Nat.le_of_ble_eq_true rfl⟩) hS (fun p _ h => hFx p h) hFx (fun r_1 u1 t1 H1 locs ht1 hvm1 hw1 hB1 hz1 hk1 hS => ?_)
  have hX1 : xP dC dI a k q x md ix t1.heap := hB1
  rw [ht1] at hX1
  have hY := hY.keep hdm hk1
  refine lv_pop hx hb dL_law_1112 rfl ?_
  refine lv_aload_n hx hb dL_law_1113 rfl (lv_at hl 1 rfl) ?_
  refine lv_aload_n hx hb dL_law_1114 rfl (lv_at hl 3 rfl) ?_
  refine lv_iload_n hx hb dL_law_1115 rfl (lv_at hl 0 rfl) ?_
  refine lv_iconst (v := 1) hx hb dL_law_1116 (by decide) ?_
  refine lv_iadd hx hb dL_law_1117 ?_
  refine lv_topi (fun y2_1 ey2_1 => ?_)
  refine va_sld hx hb hXs hbl hbA hS (sc_in ey2_1 hi hL (by decide)) dL_law_1118 ?_
  refine lv_topi (fun z2_1 ez2_1 => ?_)
  refine lv_aload_n hx hb dL_law_1119 rfl (lv_at hl 3 rfl) ?_
  refine lv_iload_n hx hb dL_law_1120 rfl (lv_at hl 0 rfl) ?_
  refine lv_iconst (v := 2) hx hb dL_law_1121 (by decide) ?_
  refine lv_iadd hx hb dL_law_1122 ?_
  refine lv_topi (fun y2_2 ey2_2 => ?_)
  refine va_sld hx hb hXs hbl hbA hS (sc_in ey2_2 hi hL (by decide)) dL_law_1123 ?_
  refine lv_topi (fun z2_2 ez2_2 => ?_)
  refine lv_aload_n hx hb dL_law_1124 rfl (lv_at hl 3 rfl) ?_
  refine lv_iload_n hx hb dL_law_1125 rfl (lv_at hl 0 rfl) ?_
  refine lv_iconst (v := 3) hx hb dL_law_1126 (by decide) ?_
  refine lv_iadd hx hb dL_law_1127 ?_
  refine lv_topi (fun y2_3 ey2_3 => ?_)
  refine va_sld hx hb hXs hbl hbA hS (sc_in ey2_3 hi hL (by decide)) dL_law_1128 ?_
  refine lv_topi (fun z2_3 ez2_3 => ?_)
  refine lv_aload_n hx hb dL_law_1129 rfl (lv_at hl 3 rfl) ?_
  refine lv_iload_n hx hb dL_law_1130 rfl (lv_at hl 0 rfl) ?_
  refine lv_iconst (v := 4) hx hb dL_law_1131 (by decide) ?_
  refine lv_iadd hx hb dL_law_1132 ?_
  refine lv_topi (fun y2_4 ey2_4 => ?_)
  refine va_sld hx hb hXs hbl hbA hS (sc_in ey2_4 hi hL (by decide)) dL_law_1133 ?_
  refine lv_topi (fun z2_4 ez2_4 => ?_)
  have hFm : ∀ p : Nat, inL (mL a2) H1.size p → A p := fun p h => in_A hNm hA hS h
  refine va_calli (va_runV (As := [.int z2_1, .int z2_2, .int z2_3, .int z2_4]) (rest := []) ⟨hx, hb, hml, hown, hq⟩ (M_hiccups l dC dI _ a2 k2 q2 hNm.tt x md ix hM z2_1 z2_2 z2_3 z2_4) (cwV 4 hq (gV qw_1769 qw_1770 qw_1771 qw_131 qw_1772) rfl rfl rfl (by decide +kernel) ⟨Nat.le_of_ble_eq_true rfl, Nat.le_of_ble_eq_true rfl⟩) ⟨fun ar U g mk h => by obtain ⟨q0, q1, qX, qK, qE⟩ := h; exact ⟨q0, q1, qX, va_K.moved (u := U) (U := U.calling g mk ar) (Vm.Alike.refl U.vm) qK, xE.same rfl qE⟩, hY.recv hKm, fun U hU hW => ⟨rfl, by rw [hU], by rw [hU]; exact hY, va_K.moved hW.alike hKm, xE.warm hW hE⟩⟩ rfl rfl hl.1 rfl (lv_room (Nat.le_of_ble_eq_true rfl)) dL_law_1134 ⟨Nat.le_of_ble_eq_true rfl, Nat.le_of_ble_eq_true rfl⟩) hS (fun p _ h => hFm p h) hFm (fun r_2 u2 t2 H2 locs ht2 hvm2 hw2 hB2 hz2 hk2 hS => ?_)
  have hY2 : mP dC dI a2 k2 q2 x md ix t2.heap := hB2
  rw [ht2] at hY2
  have hX2 := hX1.keep hdx hk2
  refine lv_pop hx hb dL_law_1137 rfl ?_
  refine lv_goto (tgt := 1210) hx hb dL_law_1138 (by decide) ?_
  exact hC _ _ _ _ _ hM hX2 hY2 hS

set_option maxHeartbeats 4000000 in
set_option maxRecDepth 100000 in
theorem law_33 {p : Program} {l : Launch} {e : Env} {s : State} {m : MethodId} {below : List Frame} {meth : Method} {c : Code} {A : Nat → Prop} {kA vA : Nat → Nat} {dC : Nat → ClassId} {dI : Nat → Nat → Nat} {b : Nat} {xs : Nat → Int32} {L : Nat} {a : Nat → Nat} {k : Nat → ClassId} {q : Nat → Nat → Option Nat} {a2 : Nat → Nat} {k2 : Nat → ClassId} {q2 : Nat → Nat → Option Nat} (C1 : lwC p s m meth c A kA vA dC dI b xs L a k q a2 k2) {x : Int32} {md ix : Nat → Int32} (hM : (∀ j : Nat, j < 4 → md j = 0 ∨ md j = 1)) {H : Heap} {locs : List Loc} (hX : xP dC dI a k q x md ix H) (hY : mP dC dI a2 k2 q2 x md ix H) (hS : va_S A s.heap H locs) {ls : Array Slot} {i : Int32} (hi : 0 ≤ i.toInt ∧ i.toInt + 6 ≤ (L : Int)) (hl : lv_has ls 4 [(3, .int i), (2, .ref (a2 0)), (1, .ref (a 0)), (0, .ref b)])
    (hC : ∀ (x : Int32) (md ix : Nat → Int32) (H : Heap) (locs : List Loc), (∀ j : Nat, j < 4 → md j = 0 ∨ md j = 1) → xP dC dI a k q x md ix H → mP dC dI a2 k2 q2 x md ix H → va_S A s.heap H locs → W p l e room_1 s m #[Value.ref b] below meth c H locs 152 8829 (lw_Z below #[Value.ref b] s) (F0 m 1210 ls [])) : W p l e room_1 s m #[Value.ref b] below meth c H locs 152 8829 (lw_Z below #[Value.ref b] s) (F0 m 1141 ls []) := by
  obtain ⟨C0, hL, hA, hAq, hE, hT, hQ, hNx, hNm, hdx, hdm, hKx, hKm⟩ := C1
  obtain ⟨hx, hb, hr, hml, hown, hts, hXs, hbl, hlocks, hgv⟩ := id C0
  have hown : s.vm.findClass RL = some m.cls := hown
  have hq : ∀ w ∈ wsA, w.before _ s = true := fun w h => hts w (List.mem_filter.mp h).1
  have hbA : ¬ A b := fun h => Nat.not_le.mpr hbl (hAq b h)
  refine lv_aload_n hx hb dL_law_1141 rfl (lv_at hl 2 rfl) ?_
  refine lv_aload_n hx hb dL_law_1142 rfl (lv_at hl 3 rfl) ?_
  refine lv_iload_n hx hb dL_law_1143 rfl (lv_at hl 0 rfl) ?_
  refine lv_iconst (v := 1) hx hb dL_law_1144 (by decide) ?_
  refine lv_iadd hx hb dL_law_1145 ?_
  refine lv_topi (fun y1_1 ey1_1 => ?_)
  refine va_sld hx hb hXs hbl hbA hS (sc_in ey1_1 hi hL (by decide)) dL_law_1146 ?_
  refine lv_topi (fun z1_1 ez1_1 => ?_)
  have hFx : ∀ p : Nat, inL (xL a) H.size p → A p := fun p h => in_A hNx hA hS h
  refine va_calli (va_runV (As := [.int z1_1]) (rest := []) ⟨hx, hb, hml, hown, hq⟩ (X_count l dC dI _ kA vA a k q hQ hNx.tt x md ix hM z1_1) (cwV 1 hq (gV qw_1134 qw_1135 qw_1136 qw_119 qw_1137) rfl rfl rfl (by decide +kernel) ⟨Nat.le_of_ble_eq_true rfl, Nat.le_of_ble_eq_true rfl⟩) ⟨fun ar U g mk h => by obtain ⟨q0, q1, qX, qK, qE, qT⟩ := h; exact ⟨q0, q1, qX, va_K.moved (u := U) (U := U.calling g mk ar) (Vm.Alike.refl U.vm) qK, xE.same rfl qE, xT.same rfl qT⟩, hX.recv hKx, fun U hU hW => ⟨rfl, by rw [hU], by rw [hU]; exact hX, va_K.moved hW.alike hKx, xE.warm hW hE, by rw [hU]; exact xT.call hW hT hS hFx⟩⟩ rfl rfl hl.1 rfl (lv_room (Nat.le_of_ble_eq_true rfl)) dL_law_1147 ⟨Nat.le_of_ble_eq_true rfl, Nat.le_of_ble_eq_true rfl⟩) hS (fun p _ h => hFx p h) hFx (fun r_1 u1 t1 H1 locs ht1 hvm1 hw1 hB1 hz1 hk1 hS => ?_)
  have hX1 : xP dC dI a k q x md ix t1.heap := hB1
  rw [ht1] at hX1
  have hY := hY.keep hdm hk1
  refine lv_pop hx hb dL_law_1150 rfl ?_
  refine lv_aload_n hx hb dL_law_1151 rfl (lv_at hl 1 rfl) ?_
  refine lv_aload_n hx hb dL_law_1152 rfl (lv_at hl 3 rfl) ?_
  refine lv_iload_n hx hb dL_law_1153 rfl (lv_at hl 0 rfl) ?_
  refine lv_iconst (v := 1) hx hb dL_law_1154 (by decide) ?_
  refine lv_iadd hx hb dL_law_1155 ?_
  refine lv_topi (fun y2_1 ey2_1 => ?_)
  refine va_sld hx hb hXs hbl hbA hS (sc_in ey2_1 hi hL (by decide)) dL_law_1156 ?_
  refine lv_topi (fun z2_1 ez2_1 => ?_)
  have hFm : ∀ p : Nat, inL (mL a2) H1.size p → A p := fun p h => in_A hNm hA hS h
  refine va_calli (va_runV (As := [.int z2_1]) (rest := []) ⟨hx, hb, hml, hown, hq⟩ (M_count l dC dI _ a2 k2 q2 hNm.tt x md ix hM z2_1) (cwV 1 hq (gV qw_1786 qw_1787 qw_1788 qw_131 qw_1789) rfl rfl rfl (by decide +kernel) ⟨Nat.le_of_ble_eq_true rfl, Nat.le_of_ble_eq_true rfl⟩) ⟨fun ar U g mk h => by obtain ⟨q0, q1, qX, qK, qE⟩ := h; exact ⟨q0, q1, qX, va_K.moved (u := U) (U := U.calling g mk ar) (Vm.Alike.refl U.vm) qK, xE.same rfl qE⟩, hY.recv hKm, fun U hU hW => ⟨rfl, by rw [hU], by rw [hU]; exact hY, va_K.moved hW.alike hKm, xE.warm hW hE⟩⟩ rfl rfl hl.1 rfl (lv_room (Nat.le_of_ble_eq_true rfl)) dL_law_1157 ⟨Nat.le_of_ble_eq_true rfl, Nat.le_of_ble_eq_true rfl⟩) hS (fun p _ h => hFm p h) hFm (fun r_2 u2 t2 H2 locs ht2 hvm2 hw2 hB2 hz2 hk2 hS => ?_)
  have hY2 : mP dC dI a2 k2 q2 x md ix t2.heap := hB2
  rw [ht2] at hY2
  have hX2 := hX1.keep hdx hk2
  refine lv_pop hx hb dL_law_1160 rfl ?_
  refine lv_goto (tgt := 1210) hx hb dL_law_1161 (by decide) ?_
  exact hC _ _ _ _ _ hM hX2 hY2 hS

set_option maxHeartbeats 4000000 in
set_option maxRecDepth 100000 in
theorem law_34 {p : Program} {l : Launch} {e : Env} {s : State} {m : MethodId} {below : List Frame} {meth : Method} {c : Code} {A : Nat → Prop} {kA vA : Nat → Nat} {dC : Nat → ClassId} {dI : Nat → Nat → Nat} {b : Nat} {xs : Nat → Int32} {L : Nat} {a : Nat → Nat} {k : Nat → ClassId} {q : Nat → Nat → Option Nat} {a2 : Nat → Nat} {k2 : Nat → ClassId} {q2 : Nat → Nat → Option Nat} (C1 : lwC p s m meth c A kA vA dC dI b xs L a k q a2 k2) {x : Int32} {md ix : Nat → Int32} (hM : (∀ j : Nat, j < 4 → md j = 0 ∨ md j = 1)) {H : Heap} {locs : List Loc} (hX : xP dC dI a k q x md ix H) (hY : mP dC dI a2 k2 q2 x md ix H) (hS : va_S A s.heap H locs) {ls : Array Slot} {i : Int32} (hi : 0 ≤ i.toInt ∧ i.toInt + 6 ≤ (L : Int)) (hl : lv_has ls 4 [(3, .int i), (2, .ref (a2 0)), (1, .ref (a 0)), (0, .ref b)])
    (hC : ∀ (x : Int32) (md ix : Nat → Int32) (H : Heap) (locs : List Loc), (∀ j : Nat, j < 4 → md j = 0 ∨ md j = 1) → xP dC dI a k q x md ix H → mP dC dI a2 k2 q2 x md ix H → va_S A s.heap H locs → W p l e room_1 s m #[Value.ref b] below meth c H locs 152 8829 (lw_Z below #[Value.ref b] s) (F0 m 1210 ls [])) : W p l e room_1 s m #[Value.ref b] below meth c H locs 152 8829 (lw_Z below #[Value.ref b] s) (F0 m 1164 ls []) := by
  obtain ⟨C0, hL, hA, hAq, hE, hT, hQ, hNx, hNm, hdx, hdm, hKx, hKm⟩ := C1
  obtain ⟨hx, hb, hr, hml, hown, hts, hXs, hbl, hlocks, hgv⟩ := id C0
  have hown : s.vm.findClass RL = some m.cls := hown
  have hq : ∀ w ∈ wsA, w.before _ s = true := fun w h => hts w (List.mem_filter.mp h).1
  have hbA : ¬ A b := fun h => Nat.not_le.mpr hbl (hAq b h)
  refine lv_aload_n hx hb dL_law_1164 rfl (lv_at hl 2 rfl) ?_
  refine lv_aload_n hx hb dL_law_1165 rfl (lv_at hl 3 rfl) ?_
  refine lv_iload_n hx hb dL_law_1166 rfl (lv_at hl 0 rfl) ?_
  refine lv_iconst (v := 1) hx hb dL_law_1167 (by decide) ?_
  refine lv_iadd hx hb dL_law_1168 ?_
  refine lv_topi (fun y1_1 ey1_1 => ?_)
  refine va_sld hx hb hXs hbl hbA hS (sc_in ey1_1 hi hL (by decide)) dL_law_1169 ?_
  refine lv_topi (fun z1_1 ez1_1 => ?_)
  have hFx : ∀ p : Nat, inL (xL a) H.size p → A p := fun p h => in_A hNx hA hS h
  refine va_calli (va_runV (As := [.int z1_1]) (rest := []) ⟨hx, hb, hml, hown, hq⟩ (X_image l dC dI _ kA vA a k q hQ hNx.tt x md ix hM z1_1) (cwV 1 hq (gV qw_1138 qw_1139 qw_1140 qw_119 qw_1141) rfl rfl rfl (by decide +kernel) ⟨Nat.le_of_ble_eq_true rfl, Nat.le_of_ble_eq_true rfl⟩) ⟨fun ar U g mk h => by obtain ⟨q0, q1, qX, qK, qE, qT⟩ := h; exact ⟨q0, q1, qX, va_K.moved (u := U) (U := U.calling g mk ar) (Vm.Alike.refl U.vm) qK, xE.same rfl qE, xT.same rfl qT⟩, hX.recv hKx, fun U hU hW => ⟨rfl, by rw [hU], by rw [hU]; exact hX, va_K.moved hW.alike hKx, xE.warm hW hE, by rw [hU]; exact xT.call hW hT hS hFx⟩⟩ rfl rfl hl.1 rfl (lv_room (Nat.le_of_ble_eq_true rfl)) dL_law_1170 ⟨Nat.le_of_ble_eq_true rfl, Nat.le_of_ble_eq_true rfl⟩) hS (fun p _ h => hFx p h) hFx (fun r_1 u1 t1 H1 locs ht1 hvm1 hw1 hB1 hz1 hk1 hS => ?_)
  have hX1 : xP dC dI a k q x (imd z1_1 md) (imx z1_1 x ix) t1.heap := hB1
  rw [ht1] at hX1
  have hY := hY.keep hdm hk1
  refine lv_pop hx hb dL_law_1173 rfl ?_
  refine lv_aload_n hx hb dL_law_1174 rfl (lv_at hl 1 rfl) ?_
  refine lv_aload_n hx hb dL_law_1175 rfl (lv_at hl 3 rfl) ?_
  refine lv_iload_n hx hb dL_law_1176 rfl (lv_at hl 0 rfl) ?_
  refine lv_iconst (v := 1) hx hb dL_law_1177 (by decide) ?_
  refine lv_iadd hx hb dL_law_1178 ?_
  refine lv_topi (fun y2_1 ey2_1 => ?_)
  refine va_sld hx hb hXs hbl hbA hS (sc_in ey2_1 hi hL (by decide)) dL_law_1179 ?_
  refine lv_topi (fun z2_1 ez2_1 => ?_)
  obtain rfl : z2_1 = z1_1 := by rw [ez2_1, ez1_1, ey2_1, ey1_1]
  have hFm : ∀ p : Nat, inL (mL a2) H1.size p → A p := fun p h => in_A hNm hA hS h
  refine va_calli (va_runV (As := [.int z2_1]) (rest := []) ⟨hx, hb, hml, hown, hq⟩ (M_image l dC dI _ a2 k2 q2 hNm.tt x md ix hM z2_1) (cwV 1 hq (gV qw_1790 qw_1791 qw_1792 qw_131 qw_1793) rfl rfl rfl (by decide +kernel) ⟨Nat.le_of_ble_eq_true rfl, Nat.le_of_ble_eq_true rfl⟩) ⟨fun ar U g mk h => by obtain ⟨q0, q1, qX, qK, qE⟩ := h; exact ⟨q0, q1, qX, va_K.moved (u := U) (U := U.calling g mk ar) (Vm.Alike.refl U.vm) qK, xE.same rfl qE⟩, hY.recv hKm, fun U hU hW => ⟨rfl, by rw [hU], by rw [hU]; exact hY, va_K.moved hW.alike hKm, xE.warm hW hE⟩⟩ rfl rfl hl.1 rfl (lv_room (Nat.le_of_ble_eq_true rfl)) dL_law_1180 ⟨Nat.le_of_ble_eq_true rfl, Nat.le_of_ble_eq_true rfl⟩) hS (fun p _ h => hFm p h) hFm (fun r_2 u2 t2 H2 locs ht2 hvm2 hw2 hB2 hz2 hk2 hS => ?_)
  have hY2 : mP dC dI a2 k2 q2 x (imd z2_1 md) (imx z2_1 x ix) t2.heap := hB2
  rw [ht2] at hY2
  have hX2 := hX1.keep hdx hk2
  refine lv_pop hx hb dL_law_1183 rfl ?_
  refine lv_goto (tgt := 1210) hx hb dL_law_1184 (by decide) ?_
  exact hC _ _ _ _ _ (imd_ok hM) hX2 hY2 hS

set_option maxHeartbeats 4000000 in
set_option maxRecDepth 100000 in
theorem law_35 {p : Program} {l : Launch} {e : Env} {s : State} {m : MethodId} {below : List Frame} {meth : Method} {c : Code} {A : Nat → Prop} {kA vA : Nat → Nat} {dC : Nat → ClassId} {dI : Nat → Nat → Nat} {b : Nat} {xs : Nat → Int32} {L : Nat} {a : Nat → Nat} {k : Nat → ClassId} {q : Nat → Nat → Option Nat} {a2 : Nat → Nat} {k2 : Nat → ClassId} {q2 : Nat → Nat → Option Nat} (C1 : lwC p s m meth c A kA vA dC dI b xs L a k q a2 k2) {x : Int32} {md ix : Nat → Int32} (hM : (∀ j : Nat, j < 4 → md j = 0 ∨ md j = 1)) {H : Heap} {locs : List Loc} (hX : xP dC dI a k q x md ix H) (hY : mP dC dI a2 k2 q2 x md ix H) (hS : va_S A s.heap H locs) {ls : Array Slot} {i : Int32} (hi : 0 ≤ i.toInt ∧ i.toInt + 6 ≤ (L : Int)) (hl : lv_has ls 4 [(3, .int i), (2, .ref (a2 0)), (1, .ref (a 0)), (0, .ref b)])
    (hC : ∀ (x : Int32) (md ix : Nat → Int32) (H : Heap) (locs : List Loc), (∀ j : Nat, j < 4 → md j = 0 ∨ md j = 1) → xP dC dI a k q x md ix H → mP dC dI a2 k2 q2 x md ix H → va_S A s.heap H locs → W p l e room_1 s m #[Value.ref b] below meth c H locs 152 8829 (lw_Z below #[Value.ref b] s) (F0 m 1210 ls [])) : W p l e room_1 s m #[Value.ref b] below meth c H locs 152 8829 (lw_Z below #[Value.ref b] s) (F0 m 1187 ls []) := by
  obtain ⟨C0, hL, hA, hAq, hE, hT, hQ, hNx, hNm, hdx, hdm, hKx, hKm⟩ := C1
  obtain ⟨hx, hb, hr, hml, hown, hts, hXs, hbl, hlocks, hgv⟩ := id C0
  have hown : s.vm.findClass RL = some m.cls := hown
  have hq : ∀ w ∈ wsA, w.before _ s = true := fun w h => hts w (List.mem_filter.mp h).1
  have hbA : ¬ A b := fun h => Nat.not_le.mpr hbl (hAq b h)
  refine lv_aload_n hx hb dL_law_1187 rfl (lv_at hl 2 rfl) ?_
  refine lv_aload_n hx hb dL_law_1188 rfl (lv_at hl 3 rfl) ?_
  refine lv_iload_n hx hb dL_law_1189 rfl (lv_at hl 0 rfl) ?_
  refine lv_iconst (v := 1) hx hb dL_law_1190 (by decide) ?_
  refine lv_iadd hx hb dL_law_1191 ?_
  refine lv_topi (fun y1_1 ey1_1 => ?_)
  refine va_sld hx hb hXs hbl hbA hS (sc_in ey1_1 hi hL (by decide)) dL_law_1192 ?_
  refine lv_topi (fun z1_1 ez1_1 => ?_)
  have hFx : ∀ p : Nat, inL (xL a) H.size p → A p := fun p h => in_A hNx hA hS h
  refine va_calli (va_runV (As := [.int z1_1]) (rest := []) ⟨hx, hb, hml, hown, hq⟩ (X_back l dC dI _ kA vA a k q hQ hNx.tt x md ix hM z1_1) (cwV 1 hq (gV qw_1150 qw_1151 qw_1152 qw_119 qw_1153) rfl rfl rfl (by decide +kernel) ⟨Nat.le_of_ble_eq_true rfl, Nat.le_of_ble_eq_true rfl⟩) ⟨fun ar U g mk h => by obtain ⟨q0, q1, qX, qK, qE, qT⟩ := h; exact ⟨q0, q1, qX, va_K.moved (u := U) (U := U.calling g mk ar) (Vm.Alike.refl U.vm) qK, xE.same rfl qE, xT.same rfl qT⟩, hX.recv hKx, fun U hU hW => ⟨rfl, by rw [hU], by rw [hU]; exact hX, va_K.moved hW.alike hKx, xE.warm hW hE, by rw [hU]; exact xT.call hW hT hS hFx⟩⟩ rfl rfl hl.1 rfl (lv_room (Nat.le_of_ble_eq_true rfl)) dL_law_1193 ⟨Nat.le_of_ble_eq_true rfl, Nat.le_of_ble_eq_true rfl⟩) hS (fun p _ h => hFx p h) hFx (fun r_1 u1 t1 H1 locs ht1 hvm1 hw1 hB1 hz1 hk1 hS => ?_)
  have hX1 : xP dC dI a k q (bkx z1_1 x md ix) md ix t1.heap := hB1
  rw [ht1] at hX1
  have hY := hY.keep hdm hk1
  refine lv_pop hx hb dL_law_1196 rfl ?_
  refine lv_aload_n hx hb dL_law_1197 rfl (lv_at hl 1 rfl) ?_
  refine lv_aload_n hx hb dL_law_1198 rfl (lv_at hl 3 rfl) ?_
  refine lv_iload_n hx hb dL_law_1199 rfl (lv_at hl 0 rfl) ?_
  refine lv_iconst (v := 1) hx hb dL_law_1200 (by decide) ?_
  refine lv_iadd hx hb dL_law_1201 ?_
  refine lv_topi (fun y2_1 ey2_1 => ?_)
  refine va_sld hx hb hXs hbl hbA hS (sc_in ey2_1 hi hL (by decide)) dL_law_1202 ?_
  refine lv_topi (fun z2_1 ez2_1 => ?_)
  obtain rfl : z2_1 = z1_1 := by rw [ez2_1, ez1_1, ey2_1, ey1_1]
  have hFm : ∀ p : Nat, inL (mL a2) H1.size p → A p := fun p h => in_A hNm hA hS h
  refine va_calli (va_runV (As := [.int z2_1]) (rest := []) ⟨hx, hb, hml, hown, hq⟩ (M_back l dC dI _ a2 k2 q2 hNm.tt x md ix hM z2_1) (cwV 1 hq (gV qw_1795 qw_1796 qw_1797 qw_131 qw_1798) rfl rfl rfl (by decide +kernel) ⟨Nat.le_of_ble_eq_true rfl, Nat.le_of_ble_eq_true rfl⟩) ⟨fun ar U g mk h => by obtain ⟨q0, q1, qX, qK, qE⟩ := h; exact ⟨q0, q1, qX, va_K.moved (u := U) (U := U.calling g mk ar) (Vm.Alike.refl U.vm) qK, xE.same rfl qE⟩, hY.recv hKm, fun U hU hW => ⟨rfl, by rw [hU], by rw [hU]; exact hY, va_K.moved hW.alike hKm, xE.warm hW hE⟩⟩ rfl rfl hl.1 rfl (lv_room (Nat.le_of_ble_eq_true rfl)) dL_law_1203 ⟨Nat.le_of_ble_eq_true rfl, Nat.le_of_ble_eq_true rfl⟩) hS (fun p _ h => hFm p h) hFm (fun r_2 u2 t2 H2 locs ht2 hvm2 hw2 hB2 hz2 hk2 hS => ?_)
  have hY2 : mP dC dI a2 k2 q2 (bkx z2_1 x md ix) md ix t2.heap := hB2
  rw [ht2] at hY2
  have hX2 := hX1.keep hdx hk2
  refine lv_pop hx hb dL_law_1206 rfl ?_
  refine lv_goto (tgt := 1210) hx hb dL_law_1207 (by decide) ?_
  exact hC _ _ _ _ _ hM hX2 hY2 hS
