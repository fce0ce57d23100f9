theorem qw_123 : (.initialized RX9 : Cond) ∈ wsA := mA (i := 123) (by decide +kernel) rfl
theorem qw_195 : (.fieldLink RX9 9 "SpokenBite$Rule" "code" "[I" : Cond) ∈ wsA := mA (i := 195) (by decide +kernel) rfl
theorem qw_196 : (.fieldLink RX9 15 "SpokenBite$Rule" "steps" "I" : Cond) ∈ wsA := mA (i := 196) (by decide +kernel) rfl
theorem qw_197 : (.fieldLink RX9 19 "SpokenBite$Rule" "asksMinute" "Z" : Cond) ∈ wsA := mA (i := 197) (by decide +kernel) rfl
theorem qw_862 : (.methodLink RX9 23 yX9_joined : Cond) ∈ wsA := mA (i := 862) (by decide +kernel) rfl
theorem qw_863 : (.static yX9_joined : Cond) ∈ wsA := mA (i := 863) (by decide +kernel) rfl
theorem qw_864 : (.code yX9_joined cX9_joined 5 (some .long) : Cond) ∈ wsA := mA (i := 864) (by decide +kernel) rfl
theorem dX9_clear_0 : decode cX9_clear 0 = .ok (.aload_n 0, 1) := by decide +kernel
theorem dX9_clear_1 : decode cX9_clear 1 = .ok (.iconst 0, 1) := by decide +kernel
theorem dX9_clear_2 : decode cX9_clear 2 = .ok (.putfield 15, 3) := by decide +kernel
theorem dX9_clear_5 : decode cX9_clear 5 = .ok (.aload_n 0, 1) := by decide +kernel
theorem dX9_clear_6 : decode cX9_clear 6 = .ok (.iconst 0, 1) := by decide +kernel
theorem dX9_clear_7 : decode cX9_clear 7 = .ok (.putfield 19, 3) := by decide +kernel
theorem dX9_clear_10 : decode cX9_clear 10 = .ok (.return_, 1) := by decide +kernel
theorem dX9_joined_0 : decode cX9_joined 0 = .ok (.iload_n 0, 1) := by decide +kernel
theorem dX9_joined_1 : decode cX9_joined 1 = .ok (.tableswitch 163 10 20 #[59, 63, 67, 71, 85, 99, 111, 123, 135, 147, 159], 59) := by decide +kernel
theorem dX9_joined_60 : decode cX9_joined 60 = .ok (.lload_n 1, 1) := by decide +kernel
theorem dX9_joined_61 : decode cX9_joined 61 = .ok (.lload_n 3, 1) := by decide +kernel
theorem dX9_joined_62 : decode cX9_joined 62 = .ok (.ladd, 1) := by decide +kernel
theorem dX9_joined_63 : decode cX9_joined 63 = .ok (.lreturn, 1) := by decide +kernel
theorem dX9_joined_64 : decode cX9_joined 64 = .ok (.lload_n 1, 1) := by decide +kernel
theorem dX9_joined_65 : decode cX9_joined 65 = .ok (.lload_n 3, 1) := by decide +kernel
theorem dX9_joined_66 : decode cX9_joined 66 = .ok (.lsub, 1) := by decide +kernel
theorem dX9_joined_67 : decode cX9_joined 67 = .ok (.lreturn, 1) := by decide +kernel
theorem dX9_joined_68 : decode cX9_joined 68 = .ok (.lload_n 1, 1) := by decide +kernel
theorem dX9_joined_69 : decode cX9_joined 69 = .ok (.lload_n 3, 1) := by decide +kernel
theorem dX9_joined_70 : decode cX9_joined 70 = .ok (.lmul, 1) := by decide +kernel
theorem dX9_joined_71 : decode cX9_joined 71 = .ok (.lreturn, 1) := by decide +kernel
theorem dX9_joined_72 : decode cX9_joined 72 = .ok (.lload_n 3, 1) := by decide +kernel
theorem dX9_joined_73 : decode cX9_joined 73 = .ok (.lconst 0, 1) := by decide +kernel
theorem dX9_joined_74 : decode cX9_joined 74 = .ok (.lcmp, 1) := by decide +kernel
theorem dX9_joined_75 : decode cX9_joined 75 = .ok (.ifCond .ne 7, 3) := by decide +kernel
theorem dX9_joined_78 : decode cX9_joined 78 = .ok (.lconst 0, 1) := by decide +kernel
theorem dX9_joined_79 : decode cX9_joined 79 = .ok (.goto 6, 3) := by decide +kernel
theorem dX9_joined_82 : decode cX9_joined 82 = .ok (.lload_n 1, 1) := by decide +kernel
theorem dX9_joined_83 : decode cX9_joined 83 = .ok (.lload_n 3, 1) := by decide +kernel
theorem dX9_joined_84 : decode cX9_joined 84 = .ok (.ldiv, 1) := by decide +kernel
theorem dX9_joined_85 : decode cX9_joined 85 = .ok (.lreturn, 1) := by decide +kernel
theorem dX9_joined_86 : decode cX9_joined 86 = .ok (.lload_n 3, 1) := by decide +kernel
theorem dX9_joined_87 : decode cX9_joined 87 = .ok (.lconst 0, 1) := by decide +kernel
theorem dX9_joined_88 : decode cX9_joined 88 = .ok (.lcmp, 1) := by decide +kernel
theorem dX9_joined_89 : decode cX9_joined 89 = .ok (.ifCond .ne 7, 3) := by decide +kernel
theorem dX9_joined_92 : decode cX9_joined 92 = .ok (.lconst 0, 1) := by decide +kernel
theorem dX9_joined_93 : decode cX9_joined 93 = .ok (.goto 6, 3) := by decide +kernel
theorem dX9_joined_96 : decode cX9_joined 96 = .ok (.lload_n 1, 1) := by decide +kernel
theorem dX9_joined_97 : decode cX9_joined 97 = .ok (.lload_n 3, 1) := by decide +kernel
theorem dX9_joined_98 : decode cX9_joined 98 = .ok (.lrem, 1) := by decide +kernel
theorem dX9_joined_99 : decode cX9_joined 99 = .ok (.lreturn, 1) := by decide +kernel
theorem dX9_joined_100 : decode cX9_joined 100 = .ok (.lload_n 1, 1) := by decide +kernel
theorem dX9_joined_101 : decode cX9_joined 101 = .ok (.lload_n 3, 1) := by decide +kernel
theorem dX9_joined_102 : decode cX9_joined 102 = .ok (.lcmp, 1) := by decide +kernel
theorem dX9_joined_103 : decode cX9_joined 103 = .ok (.ifCond .ge 7, 3) := by decide +kernel
theorem dX9_joined_106 : decode cX9_joined 106 = .ok (.lconst 1, 1) := by decide +kernel
theorem dX9_joined_107 : decode cX9_joined 107 = .ok (.goto 4, 3) := by decide +kernel
theorem dX9_joined_110 : decode cX9_joined 110 = .ok (.lconst 0, 1) := by decide +kernel
theorem dX9_joined_111 : decode cX9_joined 111 = .ok (.lreturn, 1) := by decide +kernel
theorem dX9_joined_112 : decode cX9_joined 112 = .ok (.lload_n 1, 1) := by decide +kernel
theorem dX9_joined_113 : decode cX9_joined 113 = .ok (.lload_n 3, 1) := by decide +kernel
theorem dX9_joined_114 : decode cX9_joined 114 = .ok (.lcmp, 1) := by decide +kernel
theorem dX9_joined_115 : decode cX9_joined 115 = .ok (.ifCond .gt 7, 3) := by decide +kernel
theorem dX9_joined_118 : decode cX9_joined 118 = .ok (.lconst 1, 1) := by decide +kernel
theorem dX9_joined_119 : decode cX9_joined 119 = .ok (.goto 4, 3) := by decide +kernel
theorem dX9_joined_122 : decode cX9_joined 122 = .ok (.lconst 0, 1) := by decide +kernel
theorem dX9_joined_123 : decode cX9_joined 123 = .ok (.lreturn, 1) := by decide +kernel
theorem dX9_joined_124 : decode cX9_joined 124 = .ok (.lload_n 1, 1) := by decide +kernel
theorem dX9_joined_125 : decode cX9_joined 125 = .ok (.lload_n 3, 1) := by decide +kernel
theorem dX9_joined_126 : decode cX9_joined 126 = .ok (.lcmp, 1) := by decide +kernel
theorem dX9_joined_127 : decode cX9_joined 127 = .ok (.ifCond .ne 7, 3) := by decide +kernel
theorem dX9_joined_130 : decode cX9_joined 130 = .ok (.lconst 1, 1) := by decide +kernel
theorem dX9_joined_131 : decode cX9_joined 131 = .ok (.goto 4, 3) := by decide +kernel
theorem dX9_joined_134 : decode cX9_joined 134 = .ok (.lconst 0, 1) := by decide +kernel
theorem dX9_joined_135 : decode cX9_joined 135 = .ok (.lreturn, 1) := by decide +kernel
theorem dX9_joined_136 : decode cX9_joined 136 = .ok (.lload_n 1, 1) := by decide +kernel
theorem dX9_joined_137 : decode cX9_joined 137 = .ok (.lload_n 3, 1) := by decide +kernel
theorem dX9_joined_138 : decode cX9_joined 138 = .ok (.lcmp, 1) := by decide +kernel
theorem dX9_joined_139 : decode cX9_joined 139 = .ok (.ifCond .lt 7, 3) := by decide +kernel
theorem dX9_joined_142 : decode cX9_joined 142 = .ok (.lconst 1, 1) := by decide +kernel
theorem dX9_joined_143 : decode cX9_joined 143 = .ok (.goto 4, 3) := by decide +kernel
theorem dX9_joined_146 : decode cX9_joined 146 = .ok (.lconst 0, 1) := by decide +kernel
theorem dX9_joined_147 : decode cX9_joined 147 = .ok (.lreturn, 1) := by decide +kernel
theorem dX9_joined_148 : decode cX9_joined 148 = .ok (.lload_n 1, 1) := by decide +kernel
theorem dX9_joined_149 : decode cX9_joined 149 = .ok (.lload_n 3, 1) := by decide +kernel
theorem dX9_joined_150 : decode cX9_joined 150 = .ok (.lcmp, 1) := by decide +kernel
theorem dX9_joined_151 : decode cX9_joined 151 = .ok (.ifCond .le 7, 3) := by decide +kernel
theorem dX9_joined_154 : decode cX9_joined 154 = .ok (.lconst 1, 1) := by decide +kernel
theorem dX9_joined_155 : decode cX9_joined 155 = .ok (.goto 4, 3) := by decide +kernel
theorem dX9_joined_158 : decode cX9_joined 158 = .ok (.lconst 0, 1) := by decide +kernel
theorem dX9_joined_159 : decode cX9_joined 159 = .ok (.lreturn, 1) := by decide +kernel
theorem dX9_joined_160 : decode cX9_joined 160 = .ok (.lload_n 1, 1) := by decide +kernel
theorem dX9_joined_161 : decode cX9_joined 161 = .ok (.lload_n 3, 1) := by decide +kernel
theorem dX9_joined_162 : decode cX9_joined 162 = .ok (.land, 1) := by decide +kernel
theorem dX9_joined_163 : decode cX9_joined 163 = .ok (.lreturn, 1) := by decide +kernel
theorem dX9_joined_164 : decode cX9_joined 164 = .ok (.lload_n 1, 1) := by decide +kernel
theorem dX9_joined_165 : decode cX9_joined 165 = .ok (.lload_n 3, 1) := by decide +kernel
theorem dX9_joined_166 : decode cX9_joined 166 = .ok (.lor, 1) := by decide +kernel
theorem dX9_joined_167 : decode cX9_joined 167 = .ok (.lreturn, 1) := by decide +kernel
theorem dX9_put_0 : decode cX9_put 0 = .ok (.aload_n 0, 1) := by decide +kernel
theorem dX9_put_1 : decode cX9_put 1 = .ok (.getfield 15, 3) := by decide +kernel
theorem dX9_put_4 : decode cX9_put 4 = .ok (.ifCond .lt 57, 3) := by decide +kernel
theorem dX9_put_7 : decode cX9_put 7 = .ok (.aload_n 0, 1) := by decide +kernel
theorem dX9_put_8 : decode cX9_put 8 = .ok (.getfield 15, 3) := by decide +kernel
theorem dX9_put_11 : decode cX9_put 11 = .ok (.aload_n 0, 1) := by decide +kernel
theorem dX9_put_12 : decode cX9_put 12 = .ok (.getfield 9, 3) := by decide +kernel
theorem dX9_put_15 : decode cX9_put 15 = .ok (.arraylength, 1) := by decide +kernel
theorem dX9_put_16 : decode cX9_put 16 = .ok (.if_icmp .ge 45, 3) := by decide +kernel
theorem dX9_put_19 : decode cX9_put 19 = .ok (.aload_n 0, 1) := by decide +kernel
theorem dX9_put_20 : decode cX9_put 20 = .ok (.getfield 9, 3) := by decide +kernel
theorem dX9_put_23 : decode cX9_put 23 = .ok (.aload_n 0, 1) := by decide +kernel
theorem dX9_put_24 : decode cX9_put 24 = .ok (.getfield 15, 3) := by decide +kernel
theorem dX9_put_27 : decode cX9_put 27 = .ok (.iload_n 1, 1) := by decide +kernel
theorem dX9_put_28 : decode cX9_put 28 = .ok (.iastore, 1) := by decide +kernel
theorem dX9_put_29 : decode cX9_put 29 = .ok (.aload_n 0, 1) := by decide +kernel
theorem dX9_put_30 : decode cX9_put 30 = .ok (.dup, 1) := by decide +kernel
theorem dX9_put_31 : decode cX9_put 31 = .ok (.getfield 15, 3) := by decide +kernel
theorem dX9_put_34 : decode cX9_put 34 = .ok (.iconst 1, 1) := by decide +kernel
theorem dX9_put_35 : decode cX9_put 35 = .ok (.iadd, 1) := by decide +kernel
theorem dX9_put_36 : decode cX9_put 36 = .ok (.putfield 15, 3) := by decide +kernel
theorem dX9_put_39 : decode cX9_put 39 = .ok (.aload_n 0, 1) := by decide +kernel
theorem dX9_put_40 : decode cX9_put 40 = .ok (.aload_n 0, 1) := by decide +kernel
theorem dX9_put_41 : decode cX9_put 41 = .ok (.getfield 19, 3) := by decide +kernel
theorem dX9_put_44 : decode cX9_put 44 = .ok (.ifCond .ne 9, 3) := by decide +kernel
theorem dX9_put_47 : decode cX9_put 47 = .ok (.iload_n 1, 1) := by decide +kernel
theorem dX9_put_48 : decode cX9_put 48 = .ok (.bipush 9, 2) := by decide +kernel
theorem dX9_put_50 : decode cX9_put 50 = .ok (.if_icmp .ne 7, 3) := by decide +kernel
theorem dX9_put_53 : decode cX9_put 53 = .ok (.iconst 1, 1) := by decide +kernel
theorem dX9_put_54 : decode cX9_put 54 = .ok (.goto 4, 3) := by decide +kernel
theorem dX9_put_57 : decode cX9_put 57 = .ok (.iconst 0, 1) := by decide +kernel
theorem dX9_put_58 : decode cX9_put 58 = .ok (.putfield 19, 3) := by decide +kernel
theorem dX9_put_61 : decode cX9_put 61 = .ok (.return_, 1) := by decide +kernel
theorem dX9_worth_0 : decode cX9_worth 0 = .ok (.aload_n 1, 1) := by decide +kernel
theorem dX9_worth_1 : decode cX9_worth 1 = .ok (.arraylength, 1) := by decide +kernel
theorem dX9_worth_2 : decode cX9_worth 2 = .ok (.bipush 10, 2) := by decide +kernel
theorem dX9_worth_4 : decode cX9_worth 4 = .ok (.if_icmp .lt 10, 3) := by decide +kernel
theorem dX9_worth_7 : decode cX9_worth 7 = .ok (.aload_n 2, 1) := by decide +kernel
theorem dX9_worth_8 : decode cX9_worth 8 = .ok (.arraylength, 1) := by decide +kernel
theorem dX9_worth_9 : decode cX9_worth 9 = .ok (.bipush 32, 2) := by decide +kernel
theorem dX9_worth_11 : decode cX9_worth 11 = .ok (.if_icmp .ge 5, 3) := by decide +kernel
theorem dX9_worth_16 : decode cX9_worth 16 = .ok (.iconst 0, 1) := by decide +kernel
theorem dX9_worth_17 : decode cX9_worth 17 = .ok (.istore_n 3, 1) := by decide +kernel
theorem dX9_worth_18 : decode cX9_worth 18 = .ok (.iconst 0, 1) := by decide +kernel
theorem dX9_worth_19 : decode cX9_worth 19 = .ok (.istore 4, 2) := by decide +kernel
theorem dX9_worth_21 : decode cX9_worth 21 = .ok (.iload 4, 2) := by decide +kernel
theorem dX9_worth_23 : decode cX9_worth 23 = .ok (.aload_n 0, 1) := by decide +kernel
theorem dX9_worth_24 : decode cX9_worth 24 = .ok (.getfield 15, 3) := by decide +kernel
theorem dX9_worth_27 : decode cX9_worth 27 = .ok (.if_icmp .ge 183, 3) := by decide +kernel
theorem dX9_worth_30 : decode cX9_worth 30 = .ok (.iload 4, 2) := by decide +kernel
theorem dX9_worth_32 : decode cX9_worth 32 = .ok (.aload_n 0, 1) := by decide +kernel
theorem dX9_worth_33 : decode cX9_worth 33 = .ok (.getfield 9, 3) := by decide +kernel
theorem dX9_worth_36 : decode cX9_worth 36 = .ok (.arraylength, 1) := by decide +kernel
theorem dX9_worth_37 : decode cX9_worth 37 = .ok (.if_icmp .ge 173, 3) := by decide +kernel
theorem dX9_worth_40 : decode cX9_worth 40 = .ok (.aload_n 0, 1) := by decide +kernel
theorem dX9_worth_41 : decode cX9_worth 41 = .ok (.getfield 9, 3) := by decide +kernel
theorem dX9_worth_44 : decode cX9_worth 44 = .ok (.iload 4, 2) := by decide +kernel
theorem dX9_worth_46 : decode cX9_worth 46 = .ok (.iaload, 1) := by decide +kernel
theorem dX9_worth_47 : decode cX9_worth 47 = .ok (.istore 5, 2) := by decide +kernel
theorem dX9_worth_49 : decode cX9_worth 49 = .ok (.iload_n 3, 1) := by decide +kernel
theorem dX9_worth_50 : decode cX9_worth 50 = .ok (.iconst 1, 1) := by decide +kernel
theorem dX9_worth_51 : decode cX9_worth 51 = .ok (.isub, 1) := by decide +kernel
theorem dX9_worth_52 : decode cX9_worth 52 = .ok (.bipush 31, 2) := by decide +kernel
theorem dX9_worth_54 : decode cX9_worth 54 = .ok (.iand, 1) := by decide +kernel
theorem dX9_worth_55 : decode cX9_worth 55 = .ok (.istore 6, 2) := by decide +kernel
theorem dX9_worth_57 : decode cX9_worth 57 = .ok (.iload_n 3, 1) := by decide +kernel
theorem dX9_worth_58 : decode cX9_worth 58 = .ok (.iconst 2, 1) := by decide +kernel
theorem dX9_worth_59 : decode cX9_worth 59 = .ok (.isub, 1) := by decide +kernel
theorem dX9_worth_60 : decode cX9_worth 60 = .ok (.bipush 31, 2) := by decide +kernel
theorem dX9_worth_62 : decode cX9_worth 62 = .ok (.iand, 1) := by decide +kernel
theorem dX9_worth_63 : decode cX9_worth 63 = .ok (.istore 7, 2) := by decide +kernel
theorem dX9_worth_65 : decode cX9_worth 65 = .ok (.iload 5, 2) := by decide +kernel
theorem dX9_worth_67 : decode cX9_worth 67 = .ok (.bipush 100, 2) := by decide +kernel
theorem dX9_worth_69 : decode cX9_worth 69 = .ok (.if_icmp .lt 21, 3) := by decide +kernel
theorem dX9_worth_72 : decode cX9_worth 72 = .ok (.aload_n 2, 1) := by decide +kernel
theorem dX9_worth_73 : decode cX9_worth 73 = .ok (.iload_n 3, 1) := by decide +kernel
theorem dX9_worth_74 : decode cX9_worth 74 = .ok (.bipush 31, 2) := by decide +kernel
theorem dX9_worth_76 : decode cX9_worth 76 = .ok (.iand, 1) := by decide +kernel
theorem dX9_worth_77 : decode cX9_worth 77 = .ok (.iload 5, 2) := by decide +kernel
theorem dX9_worth_79 : decode cX9_worth 79 = .ok (.bipush 100, 2) := by decide +kernel
theorem dX9_worth_81 : decode cX9_worth 81 = .ok (.isub, 1) := by decide +kernel
theorem dX9_worth_82 : decode cX9_worth 82 = .ok (.i2l, 1) := by decide +kernel
theorem dX9_worth_83 : decode cX9_worth 83 = .ok (.lastore, 1) := by decide +kernel
theorem dX9_worth_84 : decode cX9_worth 84 = .ok (.iinc 3 1, 3) := by decide +kernel
theorem dX9_worth_87 : decode cX9_worth 87 = .ok (.goto 117, 3) := by decide +kernel
theorem dX9_worth_90 : decode cX9_worth 90 = .ok (.iload 5, 2) := by decide +kernel
theorem dX9_worth_92 : decode cX9_worth 92 = .ok (.ifCond .lt 26, 3) := by decide +kernel
theorem dX9_worth_95 : decode cX9_worth 95 = .ok (.iload 5, 2) := by decide +kernel
theorem dX9_worth_97 : decode cX9_worth 97 = .ok (.bipush 10, 2) := by decide +kernel
theorem dX9_worth_99 : decode cX9_worth 99 = .ok (.if_icmp .ge 19, 3) := by decide +kernel
theorem dX9_worth_102 : decode cX9_worth 102 = .ok (.aload_n 2, 1) := by decide +kernel
theorem dX9_worth_103 : decode cX9_worth 103 = .ok (.iload_n 3, 1) := by decide +kernel
theorem dX9_worth_104 : decode cX9_worth 104 = .ok (.bipush 31, 2) := by decide +kernel
theorem dX9_worth_106 : decode cX9_worth 106 = .ok (.iand, 1) := by decide +kernel
theorem dX9_worth_107 : decode cX9_worth 107 = .ok (.aload_n 1, 1) := by decide +kernel
theorem dX9_worth_108 : decode cX9_worth 108 = .ok (.iload 5, 2) := by decide +kernel
theorem dX9_worth_110 : decode cX9_worth 110 = .ok (.laload, 1) := by decide +kernel
theorem dX9_worth_111 : decode cX9_worth 111 = .ok (.lastore, 1) := by decide +kernel
theorem dX9_worth_112 : decode cX9_worth 112 = .ok (.iinc 3 1, 3) := by decide +kernel
theorem dX9_worth_115 : decode cX9_worth 115 = .ok (.goto 89, 3) := by decide +kernel
theorem dX9_worth_118 : decode cX9_worth 118 = .ok (.iload 5, 2) := by decide +kernel
theorem dX9_worth_120 : decode cX9_worth 120 = .ok (.bipush 22, 2) := by decide +kernel
theorem dX9_worth_122 : decode cX9_worth 122 = .ok (.if_icmp .ne 24, 3) := by decide +kernel
theorem dX9_worth_125 : decode cX9_worth 125 = .ok (.aload_n 2, 1) := by decide +kernel
theorem dX9_worth_126 : decode cX9_worth 126 = .ok (.iload 6, 2) := by decide +kernel
theorem dX9_worth_128 : decode cX9_worth 128 = .ok (.aload_n 2, 1) := by decide +kernel
theorem dX9_worth_129 : decode cX9_worth 129 = .ok (.iload 6, 2) := by decide +kernel
theorem dX9_worth_131 : decode cX9_worth 131 = .ok (.laload, 1) := by decide +kernel
theorem dX9_worth_132 : decode cX9_worth 132 = .ok (.lconst 0, 1) := by decide +kernel
theorem dX9_worth_133 : decode cX9_worth 133 = .ok (.lcmp, 1) := by decide +kernel
theorem dX9_worth_134 : decode cX9_worth 134 = .ok (.ifCond .ne 7, 3) := by decide +kernel
theorem dX9_worth_137 : decode cX9_worth 137 = .ok (.lconst 1, 1) := by decide +kernel
theorem dX9_worth_138 : decode cX9_worth 138 = .ok (.goto 4, 3) := by decide +kernel
theorem dX9_worth_141 : decode cX9_worth 141 = .ok (.lconst 0, 1) := by decide +kernel
theorem dX9_worth_142 : decode cX9_worth 142 = .ok (.lastore, 1) := by decide +kernel
theorem dX9_worth_143 : decode cX9_worth 143 = .ok (.goto 61, 3) := by decide +kernel
theorem dX9_worth_146 : decode cX9_worth 146 = .ok (.iload 5, 2) := by decide +kernel
theorem dX9_worth_148 : decode cX9_worth 148 = .ok (.bipush 23, 2) := by decide +kernel
theorem dX9_worth_150 : decode cX9_worth 150 = .ok (.if_icmp .ne 8, 3) := by decide +kernel
theorem dX9_worth_153 : decode cX9_worth 153 = .ok (.aload_n 2, 1) := by decide +kernel
theorem dX9_worth_154 : decode cX9_worth 154 = .ok (.iload 6, 2) := by decide +kernel
theorem dX9_worth_156 : decode cX9_worth 156 = .ok (.laload, 1) := by decide +kernel
theorem dX9_worth_157 : decode cX9_worth 157 = .ok (.lreturn, 1) := by decide +kernel
theorem dX9_worth_158 : decode cX9_worth 158 = .ok (.iload 5, 2) := by decide +kernel
theorem dX9_worth_160 : decode cX9_worth 160 = .ok (.bipush 24, 2) := by decide +kernel
theorem dX9_worth_162 : decode cX9_worth 162 = .ok (.if_icmp .ne 22, 3) := by decide +kernel
theorem dX9_worth_165 : decode cX9_worth 165 = .ok (.aload_n 2, 1) := by decide +kernel
theorem dX9_worth_166 : decode cX9_worth 166 = .ok (.iload 6, 2) := by decide +kernel
theorem dX9_worth_168 : decode cX9_worth 168 = .ok (.laload, 1) := by decide +kernel
theorem dX9_worth_169 : decode cX9_worth 169 = .ok (.lconst 0, 1) := by decide +kernel
theorem dX9_worth_170 : decode cX9_worth 170 = .ok (.lcmp, 1) := by decide +kernel
theorem dX9_worth_171 : decode cX9_worth 171 = .ok (.ifCond .eq 8, 3) := by decide +kernel
theorem dX9_worth_174 : decode cX9_worth 174 = .ok (.aload_n 2, 1) := by decide +kernel
theorem dX9_worth_175 : decode cX9_worth 175 = .ok (.iload 7, 2) := by decide +kernel
theorem dX9_worth_177 : decode cX9_worth 177 = .ok (.laload, 1) := by decide +kernel
theorem dX9_worth_178 : decode cX9_worth 178 = .ok (.lreturn, 1) := by decide +kernel
theorem dX9_worth_179 : decode cX9_worth 179 = .ok (.iconst 0, 1) := by decide +kernel
theorem dX9_worth_180 : decode cX9_worth 180 = .ok (.istore_n 3, 1) := by decide +kernel
theorem dX9_worth_181 : decode cX9_worth 181 = .ok (.goto 23, 3) := by decide +kernel
theorem dX9_worth_184 : decode cX9_worth 184 = .ok (.aload_n 2, 1) := by decide +kernel
theorem dX9_worth_185 : decode cX9_worth 185 = .ok (.iload 7, 2) := by decide +kernel
theorem dX9_worth_187 : decode cX9_worth 187 = .ok (.iload 5, 2) := by decide +kernel
theorem dX9_worth_189 : decode cX9_worth 189 = .ok (.aload_n 2, 1) := by decide +kernel
theorem dX9_worth_190 : decode cX9_worth 190 = .ok (.iload 7, 2) := by decide +kernel
theorem dX9_worth_192 : decode cX9_worth 192 = .ok (.laload, 1) := by decide +kernel
theorem dX9_worth_193 : decode cX9_worth 193 = .ok (.aload_n 2, 1) := by decide +kernel
theorem dX9_worth_194 : decode cX9_worth 194 = .ok (.iload 6, 2) := by decide +kernel
theorem dX9_worth_196 : decode cX9_worth 196 = .ok (.laload, 1) := by decide +kernel
theorem dX9_worth_197 : decode cX9_worth 197 = .ok (.invokestatic 23, 3) := by decide +kernel
theorem dX9_worth_200 : decode cX9_worth 200 = .ok (.lastore, 1) := by decide +kernel
theorem dX9_worth_201 : decode cX9_worth 201 = .ok (.iinc 3 (-1), 3) := by decide +kernel
theorem dX9_worth_204 : decode cX9_worth 204 = .ok (.iinc 4 1, 3) := by decide +kernel
theorem dX9_worth_207 : decode cX9_worth 207 = .ok (.goto (-186), 3) := by decide +kernel
theorem dX9_worth_210 : decode cX9_worth 210 = .ok (.lconst 0, 1) := by decide +kernel
theorem dX9_worth_211 : decode cX9_worth 211 = .ok (.lreturn, 1) := by decide +kernel
set_option maxHeartbeats 4000000 in
set_option maxRecDepth 100000 in
/-- r_clear -/
theorem r_clear (l : Launch) (dC : Nat → ClassId) (dI : Nat → Nat → Nat) (sz : Nat) (h0 : Nat) (h0co : Nat) (h0_steps : Int32) (h0_asksMinute : Int32) : Met l yX9_clear (.code yX9_clear cX9_clear 1 none :: wsA) ({ frames := 0, cells := 0, slots := 0, locals := 0 }) (va_Pc [.ref h0] (fun U => U.heap.size = sz ∧ va_P (dC, dI) classes [(h0, .inr (9, [.ref h0co, .int h0_steps, .int h0_asksMinute]))] U.heap ∧ va_K (dC, dI) classes [] U ∧ va_D (fun _ => True) [(h0, .inr (9, [.ref h0co, .int h0_steps, .int h0_asksMinute]))] ∧ xE U)) (va_Qv (fun (_ : Unit) => True) (fun _ t => va_P (dC, dI) classes [(h0, .inr (9, [.ref h0co, .int 0, .int 0]))] t.heap ∧ va_K (dC, dI) classes [] t ∧ va_D (va_A [(h0, .inr (9, [.ref h0co, .int h0_steps, .int h0_asksMinute]))] sz) [(h0, .inr (9, [.ref h0co, .int 0, .int 0]))]) (va_A [(h0, .inr (9, [.ref h0co, .int h0_steps, .int h0_asksMinute]))] sz)) 0 0 (va_A [(h0, .inr (9, [.ref h0co, .int h0_steps, .int h0_asksMinute]))] sz) := by
  refine Met.ofW (cc := cX9_clear) (maxL := 1) (ret := none) (by decide) rfl ?_
  intro p e s m args below meth c s₁ B hml hv
  obtain ⟨rfl, hsz, hP, hK, hD0, hE⟩ := hv
  have hx := B.exec
  have hb := B.bytes
  have hr := B.returns
  have hts := atoms_spec (ws := .code yX9_clear cX9_clear 1 none :: wsA) B.pre
  have hq : ∀ w ∈ wsA, w.before _ s = true := fun w h => hts w (List.mem_cons_of_mem _ h)
  have hown : s.vm.findClass RX9 = some m.cls := findClass_of_methodNamed B.named
  have hlocks := B.notSynchronized
  subst hsz
  have hD := hD0.self (sz := s.heap.size)
  generalize hAe : va_A [(h0, .inr (9, [.ref h0co, .int h0_steps, .int h0_asksMinute]))] s.heap.size = A at hD ⊢
  have hA : ∀ q : Nat, s.heap.size ≤ q → A q := fun q h => by rw [← hAe]; exact Or.inr h
  have hS : va_S A s.heap s.heap [] := va_S.rf
  have hl := lv_entry ([.ref h0]) (n := 1) (Nat.le_of_ble_eq_true rfl)
  rw [lg_entry_eq]
  generalize (lg_sl ([.ref h0]) ++ List.replicate (1 - (lg_sl ([.ref h0])).length) Slot.unset).toArray = ls at hl ⊢
  have hl : lv_has ls 1 [(0, .ref h0)] := hl
  refine lv_aload_n hx hb dX9_clear_0 rfl (lv_at hl 0 rfl) ?_
  refine lv_iconst (v := 0) hx hb dX9_clear_1 (by decide) ?_
  refine va_put (D := (dC, dI)) (ci := 9) (v := .int 0) (ty := .int) (C := RX9) (T := TX9) (N := 3) hx hb hq inX9 tyX9 tyX9_ok nmX9 hown hK hP hD hS 0 rfl rfl 1 (by decide) (hq _ qw_196) (fun _ h9 => h9) rfl (by decide +kernel) rfl rfl (Nat.le_of_ble_eq_true rfl) dX9_clear_2 (fun H locs hP hD hS => ?_)
  have hP : va_P (dC, dI) classes [(h0, .inr (9, [.ref h0co, .int 0, .int h0_asksMinute]))] H := hP
  have hD : va_D A [(h0, .inr (9, [.ref h0co, .int 0, .int h0_asksMinute]))] := hD
  refine lv_aload_n hx hb dX9_clear_5 rfl (lv_at hl 0 rfl) ?_
  refine lv_iconst (v := 0) hx hb dX9_clear_6 (by decide) ?_
  refine va_put (D := (dC, dI)) (ci := 9) (v := .int 0) (ty := .boolean) (C := RX9) (T := TX9) (N := 3) hx hb hq inX9 tyX9 tyX9_ok nmX9 hown hK hP hD hS 0 rfl rfl 2 (by decide) (hq _ qw_197) (fun _ h9 => h9) rfl (by decide +kernel) rfl rfl (Nat.le_of_ble_eq_true rfl) dX9_clear_7 (fun H locs hP hD hS => ?_)
  have hP : va_P (dC, dI) classes [(h0, .inr (9, [.ref h0co, .int 0, .int 0]))] H := hP
  have hD : va_D A [(h0, .inr (9, [.ref h0co, .int 0, .int 0]))] := hD
  refine W.widen (k := 0) (n := 0) (Nat.le_of_ble_eq_true rfl) (Nat.le_of_ble_eq_true rfl) ?_
  exact W.vret hx hb hr (fun t ht hW => ⟨⟨(), rfl, trivial, by rw [ht]; exact hP, va_K.moved hW.alike hK, hD⟩, hS.F ht⟩) hS.2.2 dX9_clear_10

set_option maxHeartbeats 4000000 in
set_option maxRecDepth 100000 in
/-- r_put -/
theorem r_put (l : Launch) (dC : Nat → ClassId) (dI : Nat → Nat → Nat) (sz : Nat) (h0 : Nat) (h0co : Nat) (h0_steps : Int32) (h0_asksMinute : Int32) (kh0co : ClassId) (gh0co : Nat → Int32) (x0 : Int32) : Met l yX9_put (.code yX9_put cX9_put 2 none :: wsA) ({ frames := 0, cells := 0, slots := 0, locals := 0 }) (va_Pc [.ref h0, .int x0] (fun U => U.heap.size = sz ∧ va_P (dC, dI) classes [(h0, .inr (9, [.ref h0co, .int h0_steps, .int h0_asksMinute])), (h0co, .inl (kh0co, 400, .inl gh0co))] U.heap ∧ va_K (dC, dI) classes [(kh0co, .int)] U ∧ va_D (fun _ => True) [(h0, .inr (9, [.ref h0co, .int h0_steps, .int h0_asksMinute])), (h0co, .inl (kh0co, 400, .inl gh0co))] ∧ xE U)) (va_Qv (fun (_ : Unit) => True) (fun _ t => ∃ (f_11 : Nat → Int32) (yy_10 : Nat → Int32), va_P (dC, dI) classes [(h0, .inr (9, [.ref h0co, .int (yy_10 0), .int (yy_10 1)])), (h0co, .inl (kh0co, 400, .inl f_11))] t.heap ∧ va_K (dC, dI) classes [(kh0co, .int)] t ∧ va_D (va_A [(h0, .inr (9, [.ref h0co, .int h0_steps, .int h0_asksMinute])), (h0co, .inl (kh0co, 400, .inl gh0co))] sz) [(h0, .inr (9, [.ref h0co, .int (yy_10 0), .int (yy_10 1)])), (h0co, .inl (kh0co, 400, .inl f_11))]) (va_A [(h0, .inr (9, [.ref h0co, .int h0_steps, .int h0_asksMinute])), (h0co, .inl (kh0co, 400, .inl gh0co))] sz)) 0 0 (va_A [(h0, .inr (9, [.ref h0co, .int h0_steps, .int h0_asksMinute])), (h0co, .inl (kh0co, 400, .inl gh0co))] sz) := by
  refine Met.ofW (cc := cX9_put) (maxL := 2) (ret := none) (by decide) rfl ?_
  intro p e s m args below meth c s₁ B hml hv
  obtain ⟨rfl, hsz, hP, hK, hD0, hE⟩ := hv
  have hx := B.exec
  have hb := B.bytes
  have hr := B.returns
  have hts := atoms_spec (ws := .code yX9_put cX9_put 2 none :: wsA) B.pre
  have hq : ∀ w ∈ wsA, w.before _ s = true := fun w h => hts w (List.mem_cons_of_mem _ h)
  have hown : s.vm.findClass RX9 = some m.cls := findClass_of_methodNamed B.named
  have hlocks := B.notSynchronized
  subst hsz
  have hD := hD0.self (sz := s.heap.size)
  generalize hAe : va_A [(h0, .inr (9, [.ref h0co, .int h0_steps, .int h0_asksMinute])), (h0co, .inl (kh0co, 400, .inl gh0co))] s.heap.size = A at hD ⊢
  have hA : ∀ q : Nat, s.heap.size ≤ q → A q := fun q h => by rw [← hAe]; exact Or.inr h
  have hS : va_S A s.heap s.heap [] := va_S.rf
  have hl := lv_entry ([.ref h0, .int x0]) (n := 2) (Nat.le_of_ble_eq_true rfl)
  rw [lg_entry_eq]
  generalize (lg_sl ([.ref h0, .int x0]) ++ List.replicate (2 - (lg_sl ([.ref h0, .int x0])).length) Slot.unset).toArray = ls at hl ⊢
  have hl : lv_has ls 2 [(0, .ref h0), (1, .int x0)] := hl
  refine lv_aload_n hx hb dX9_put_0 rfl (lv_at hl 0 rfl) ?_
  refine va_get (D := (dC, dI)) (ci := 9) (v := .int h0_steps) (C := RX9) (T := TX9) (N := 3) hx hb hq inX9 hown hK hP 0 rfl rfl 1 (by decide) (hq _ qw_196) (fun _ h9 => h9) rfl dX9_put_1 ?_
  refine lv_if_lt (tgt := 61) hx hb dX9_put_4 (by decide) (fun c_12 => ?_) (fun c_12 => ?_)
  · refine W.widen (k := 0) (n := 0) (Nat.le_of_ble_eq_true rfl) (Nat.le_of_ble_eq_true rfl) ?_
    exact W.vret hx hb hr (fun t ht hW => ⟨⟨(), rfl, trivial, gh0co, (fun i => [h0_steps, h0_asksMinute].getD i 0), by rw [ht]; exact hP, va_K.moved hW.alike hK, hD⟩, hS.F ht⟩) hS.2.2 dX9_put_61
  · refine lv_aload_n hx hb dX9_put_7 rfl (lv_at hl 0 rfl) ?_
    refine va_get (D := (dC, dI)) (ci := 9) (v := .int h0_steps) (C := RX9) (T := TX9) (N := 3) hx hb hq inX9 hown hK hP 0 rfl rfl 1 (by decide) (hq _ qw_196) (fun _ h9 => h9) rfl dX9_put_8 ?_
    refine lv_aload_n hx hb dX9_put_11 rfl (lv_at hl 0 rfl) ?_
    refine va_get (D := (dC, dI)) (ci := 9) (v := .ref h0co) (C := RX9) (T := TX9) (N := 3) hx hb hq inX9 hown hK hP 0 rfl rfl 0 (by decide) (hq _ qw_195) (fun _ h9 => h9) rfl dX9_put_12 ?_
    refine va_alen (v := 400) hx hb hK hP 1 0 rfl rfl rfl dX9_put_15 ?_
    refine lv_icmp_ge (tgt := 61) hx hb dX9_put_16 (by decide) (fun c_13 => ?_) (fun c_13 => ?_)
    · refine W.widen (k := 0) (n := 0) (Nat.le_of_ble_eq_true rfl) (Nat.le_of_ble_eq_true rfl) ?_
      exact W.vret hx hb hr (fun t ht hW => ⟨⟨(), rfl, trivial, gh0co, (fun i => [h0_steps, h0_asksMinute].getD i 0), by rw [ht]; exact hP, va_K.moved hW.alike hK, hD⟩, hS.F ht⟩) hS.2.2 dX9_put_61
    · refine lv_aload_n hx hb dX9_put_19 rfl (lv_at hl 0 rfl) ?_
      refine va_get (D := (dC, dI)) (ci := 9) (v := .ref h0co) (C := RX9) (T := TX9) (N := 3) hx hb hq inX9 hown hK hP 0 rfl rfl 0 (by decide) (hq _ qw_195) (fun _ h9 => h9) rfl dX9_put_20 ?_
      refine lv_aload_n hx hb dX9_put_23 rfl (lv_at hl 0 rfl) ?_
      refine va_get (D := (dC, dI)) (ci := 9) (v := .int h0_steps) (C := RX9) (T := TX9) (N := 3) hx hb hq inX9 hown hK hP 0 rfl rfl 1 (by decide) (hq _ qw_196) (fun _ h9 => h9) rfl dX9_put_24 ?_
      refine lv_iload_n hx hb dX9_put_27 rfl (lv_at hl 1 rfl) ?_
      have b_14 : bt 0 2147483647 h0_steps := rf_le_r (bt_k (x := 0) (c := 0) (by decide)) (bt_all h0_steps) (Int32.not_lt.mp c_12) (by decide)
      have b_15 : bt 0 399 h0_steps := rf_lt_l b_14 (bt_k (x := 400) (c := 400) (by decide)) (Int32.not_le.mp c_13) (by decide)
      refine va_iast hx hb hK hP hD hS 1 0 rfl rfl (bt_in b_15 (by decide)) dX9_put_28 (fun H locs hP hD hS => ?_)
      obtain ⟨f_16, ef_16⟩ : ∃ f, f = upd gh0co (Int32.toNatClampNeg h0_steps) x0 := ⟨_, rfl⟩
      rw [← ef_16] at hP hD
      have hP : va_P (dC, dI) classes [(h0, .inr (9, [.ref h0co, .int h0_steps, .int h0_asksMinute])), (h0co, .inl (kh0co, 400, .inl f_16))] H := hP
      have hD : va_D A [(h0, .inr (9, [.ref h0co, .int h0_steps, .int h0_asksMinute])), (h0co, .inl (kh0co, 400, .inl f_16))] := hD
      refine lv_aload_n hx hb dX9_put_29 rfl (lv_at hl 0 rfl) ?_
      refine lv_dup hx hb dX9_put_30 rfl ?_
      refine va_get (D := (dC, dI)) (ci := 9) (v := .int h0_steps) (C := RX9) (T := TX9) (N := 3) hx hb hq inX9 hown hK hP 0 rfl rfl 1 (by decide) (hq _ qw_196) (fun _ h9 => h9) rfl dX9_put_31 ?_
      refine lv_iconst (v := 1) hx hb dX9_put_34 (by decide) ?_
      refine lv_iadd hx hb dX9_put_35 ?_
      refine lv_topi (fun y_17 ey_17 => ?_)
      refine va_put (D := (dC, dI)) (ci := 9) (v := .int y_17) (ty := .int) (C := RX9) (T := TX9) (N := 3) hx hb hq inX9 tyX9 tyX9_ok nmX9 hown hK hP hD hS 0 rfl rfl 1 (by decide) (hq _ qw_196) (fun _ h9 => h9) rfl (by decide +kernel) rfl rfl (Nat.le_of_ble_eq_true rfl) dX9_put_36 (fun H locs hP hD hS => ?_)
      have hP : va_P (dC, dI) classes [(h0, .inr (9, [.ref h0co, .int y_17, .int h0_asksMinute])), (h0co, .inl (kh0co, 400, .inl f_16))] H := hP
      have hD : va_D A [(h0, .inr (9, [.ref h0co, .int y_17, .int h0_asksMinute])), (h0co, .inl (kh0co, 400, .inl f_16))] := hD
      refine lv_aload_n hx hb dX9_put_39 rfl (lv_at hl 0 rfl) ?_
      refine lv_aload_n hx hb dX9_put_40 rfl (lv_at hl 0 rfl) ?_
      refine va_get (D := (dC, dI)) (ci := 9) (v := .int h0_asksMinute) (C := RX9) (T := TX9) (N := 3) hx hb hq inX9 hown hK hP 0 rfl rfl 2 (by decide) (hq _ qw_197) (fun _ h9 => h9) rfl dX9_put_41 ?_
      refine W.cut (I := fun H locs g => ∃ (y_20 : Int32) (ls : Array Slot), bt 0 1 y_20 ∧ va_P (dC, dI) classes [(h0, .inr (9, [.ref h0co, .int y_17, .int h0_asksMinute])), (h0co, .inl (kh0co, 400, .inl f_16))] H ∧ va_D A [(h0, .inr (9, [.ref h0co, .int y_17, .int h0_asksMinute])), (h0co, .inl (kh0co, 400, .inl f_16))] ∧ va_S A s.heap H locs ∧ lv_has ls 2 [] ∧ g = F0 m 58 ls [.int y_20, .ref h0]) (fun H locs g h => ?_) (fun hJ58 => ?_)
      · obtain ⟨y_20, ls, bd_s_0, hP, hD, hS, hl, rfl⟩ := h
        refine va_put (D := (dC, dI)) (ci := 9) (v := .int y_20) (ty := .boolean) (C := RX9) (T := TX9) (N := 3) hx hb hq inX9 tyX9 tyX9_ok nmX9 hown hK hP hD hS 0 rfl rfl 2 (by decide) (hq _ qw_197) (fun _ h9 => h9) rfl (by decide +kernel) (nar_z bd_s_0) (fit_z bd_s_0) (Nat.le_of_ble_eq_true rfl) dX9_put_58 (fun H locs hP hD hS => ?_)
        have hP : va_P (dC, dI) classes [(h0, .inr (9, [.ref h0co, .int y_17, .int y_20])), (h0co, .inl (kh0co, 400, .inl f_16))] H := hP
        have hD : va_D A [(h0, .inr (9, [.ref h0co, .int y_17, .int y_20])), (h0co, .inl (kh0co, 400, .inl f_16))] := hD
        refine W.widen (k := 0) (n := 0) (Nat.le_of_ble_eq_true rfl) (Nat.le_of_ble_eq_true rfl) ?_
        exact W.vret hx hb hr (fun t ht hW => ⟨⟨(), rfl, trivial, f_16, (fun i => [y_17, y_20].getD i 0), by rw [ht]; exact hP, va_K.moved hW.alike hK, hD⟩, hS.F ht⟩) hS.2.2 dX9_put_61
      refine W.cut (I := fun H locs g => ∃ (ls : Array Slot), va_P (dC, dI) classes [(h0, .inr (9, [.ref h0co, .int y_17, .int h0_asksMinute])), (h0co, .inl (kh0co, 400, .inl f_16))] H ∧ va_D A [(h0, .inr (9, [.ref h0co, .int y_17, .int h0_asksMinute])), (h0co, .inl (kh0co, 400, .inl f_16))] ∧ va_S A s.heap H locs ∧ lv_has ls 2 [] ∧ g = F0 m 53 ls [.ref h0]) (fun H locs g h => ?_) (fun hJ53 => ?_)
      · obtain ⟨ls, hP, hD, hS, hl, rfl⟩ := h
        refine lv_iconst (v := 1) hx hb dX9_put_53 (by decide) ?_
        refine lv_goto (tgt := 58) hx hb dX9_put_54 (by decide) ?_
        exact hJ58 _ _ _ ⟨1, _, (bt_w (bt_k (x := 1) (c := 1) (by decide)) (by decide)), hP, hD, hS, hl, rfl⟩
      refine lv_if_ne (tgt := 53) hx hb dX9_put_44 (by decide) (fun c_21 => ?_) (fun c_21 => ?_)
      · exact hJ53 _ _ _ ⟨_, hP, hD, hS, (lv_sub hl [] rfl), rfl⟩
      · refine lv_iload_n hx hb dX9_put_47 rfl (lv_at hl 1 rfl) ?_
        refine lv_bipush (v := 9) hx hb dX9_put_48 (by decide) ?_
        refine lv_icmp_ne (tgt := 57) hx hb dX9_put_50 (by decide) (fun c_22 => ?_) (fun c_22 => ?_)
        · refine lv_iconst (v := 0) hx hb dX9_put_57 (by decide) ?_
          exact hJ58 _ _ _ ⟨0, _, (bt_w (bt_k (x := 0) (c := 0) (by decide)) (by decide)), hP, hD, hS, (lv_sub hl [] rfl), rfl⟩
        · exact hJ53 _ _ _ ⟨_, hP, hD, hS, (lv_sub hl [] rfl), rfl⟩

set_option maxHeartbeats 4000000 in
set_option maxRecDepth 100000 in
/-- r_joined -/
theorem r_joined (l : Launch) (dC : Nat → ClassId) (dI : Nat → Nat → Nat) (sz : Nat) (x0 : Int32) (z0 : Int64) (z1 : Int64) : Met l yX9_joined (.code yX9_joined cX9_joined 5 (some .long) :: wsA) ({ frames := 0, cells := 0, slots := 0, locals := 0 }) (va_Pc [.int x0, .long z0, .long z1] (fun U => U.heap.size = sz ∧ va_P (dC, dI) classes [] U.heap ∧ va_K (dC, dI) classes [] U ∧ va_D (fun _ => True) [] ∧ xE U)) (va_Ql (fun (r : Int64) (_ : Unit) => True) (fun _ t => va_P (dC, dI) classes [] t.heap ∧ va_K (dC, dI) classes [] t ∧ va_D (va_A [] sz) []) (va_A [] sz)) 0 0 (va_A [] sz) := by
  refine Met.ofW (cc := cX9_joined) (maxL := 5) (ret := (some .long)) (by decide) rfl ?_
  intro p e s m args below meth c s₁ B hml hv
  obtain ⟨rfl, hsz, hP, hK, hD0, hE⟩ := hv
  have hx := B.exec
  have hb := B.bytes
  have hr := B.returns
  have hts := atoms_spec (ws := .code yX9_joined cX9_joined 5 (some .long) :: wsA) B.pre
  have hq : ∀ w ∈ wsA, w.before _ s = true := fun w h => hts w (List.mem_cons_of_mem _ h)
  have hown : s.vm.findClass RX9 = some m.cls := findClass_of_methodNamed B.named
  have hlocks := B.notSynchronized
  subst hsz
  have hD := hD0.self (sz := s.heap.size)
  generalize hAe : va_A [] s.heap.size = A at hD ⊢
  have hA : ∀ q : Nat, s.heap.size ≤ q → A q := fun q h => by rw [← hAe]; exact Or.inr h
  have hS : va_S A s.heap s.heap [] := va_S.rf
  have hl := lv_entry ([.int x0, .long z0, .long z1]) (n := 5) (Nat.le_of_ble_eq_true rfl)
  rw [lg_entry_eq]
  generalize (lg_sl ([.int x0, .long z0, .long z1]) ++ List.replicate (5 - (lg_sl ([.int x0, .long z0, .long z1])).length) Slot.unset).toArray = ls at hl ⊢
  have hl : lv_has ls 5 [(0, .int x0), (1, .long z0), (3, .long z1)] := hl
  refine lv_iload_n hx hb dX9_joined_0 rfl (lv_at hl 0 rfl) ?_
  rcases sw_10_20 x0 with rfl | rfl | rfl | rfl | rfl | rfl | rfl | rfl | rfl | rfl | rfl | c_23
  · refine lv_tableIn (tgt := 60) hx hb dX9_joined_1 (by decide) (by decide) (off := 59) (by decide) (by decide) ?_
    refine lv_lload_n hx hb dX9_joined_60 rfl (lv_at hl 1 rfl) ?_
    refine lv_lload_n hx hb dX9_joined_61 rfl (lv_at hl 2 rfl) ?_
    refine lv_ladd hx hb dX9_joined_62 ?_
    refine lv_topl (fun z_24 ez_24 => ?_)
    refine W.widen (k := 0) (n := 0) (Nat.le_of_ble_eq_true rfl) (Nat.le_of_ble_eq_true rfl) ?_
    exact W.lret (v := z_24) hx hb hr (fun t ht hW => ⟨⟨z_24, (), rfl, trivial, by rw [ht]; exact hP, va_K.moved hW.alike hK, hD⟩, hS.F ht⟩) hS.2.2 dX9_joined_63
  · refine lv_tableIn (tgt := 64) hx hb dX9_joined_1 (by decide) (by decide) (off := 63) (by decide) (by decide) ?_
    refine lv_lload_n hx hb dX9_joined_64 rfl (lv_at hl 1 rfl) ?_
    refine lv_lload_n hx hb dX9_joined_65 rfl (lv_at hl 2 rfl) ?_
    refine lv_lsub hx hb dX9_joined_66 ?_
    refine lv_topl (fun z_25 ez_25 => ?_)
    refine W.widen (k := 0) (n := 0) (Nat.le_of_ble_eq_true rfl) (Nat.le_of_ble_eq_true rfl) ?_
    exact W.lret (v := z_25) hx hb hr (fun t ht hW => ⟨⟨z_25, (), rfl, trivial, by rw [ht]; exact hP, va_K.moved hW.alike hK, hD⟩, hS.F ht⟩) hS.2.2 dX9_joined_67
  · refine lv_tableIn (tgt := 68) hx hb dX9_joined_1 (by decide) (by decide) (off := 67) (by decide) (by decide) ?_
    refine lv_lload_n hx hb dX9_joined_68 rfl (lv_at hl 1 rfl) ?_
    refine lv_lload_n hx hb dX9_joined_69 rfl (lv_at hl 2 rfl) ?_
    refine lv_lmul hx hb dX9_joined_70 ?_
    refine lv_topl (fun z_26 ez_26 => ?_)
    refine W.widen (k := 0) (n := 0) (Nat.le_of_ble_eq_true rfl) (Nat.le_of_ble_eq_true rfl) ?_
    exact W.lret (v := z_26) hx hb hr (fun t ht hW => ⟨⟨z_26, (), rfl, trivial, by rw [ht]; exact hP, va_K.moved hW.alike hK, hD⟩, hS.F ht⟩) hS.2.2 dX9_joined_71
  · refine lv_tableIn (tgt := 72) hx hb dX9_joined_1 (by decide) (by decide) (off := 71) (by decide) (by decide) ?_
    refine lv_lload_n hx hb dX9_joined_72 rfl (lv_at hl 2 rfl) ?_
    refine lv_lconst (v := 0) hx hb dX9_joined_73 (by decide) ?_
    refine W.lcmp hx hb dX9_joined_74 ?_
    refine lv_topi (fun y_27 ey_27 => ?_)
    refine lv_if_ne (tgt := 82) hx hb dX9_joined_75 (by decide) (fun c_28 => ?_) (fun c_28 => ?_)
    · refine lv_lload_n hx hb dX9_joined_82 rfl (lv_at hl 1 rfl) ?_
      refine lv_lload_n hx hb dX9_joined_83 rfl (lv_at hl 2 rfl) ?_
      refine lv_ldiv hx hb dX9_joined_84 (lg_nz ey_27 c_28) ?_
      refine lv_topl (fun z_29 ez_29 => ?_)
      refine W.widen (k := 0) (n := 0) (Nat.le_of_ble_eq_true rfl) (Nat.le_of_ble_eq_true rfl) ?_
      exact W.lret (v := z_29) hx hb hr (fun t ht hW => ⟨⟨z_29, (), rfl, trivial, by rw [ht]; exact hP, va_K.moved hW.alike hK, hD⟩, hS.F ht⟩) hS.2.2 dX9_joined_85
    · refine lv_lconst (v := 0) hx hb dX9_joined_78 (by decide) ?_
      refine lv_goto (tgt := 85) hx hb dX9_joined_79 (by decide) ?_
      refine W.widen (k := 0) (n := 0) (Nat.le_of_ble_eq_true rfl) (Nat.le_of_ble_eq_true rfl) ?_
      exact W.lret (v := 0) hx hb hr (fun t ht hW => ⟨⟨0, (), rfl, trivial, by rw [ht]; exact hP, va_K.moved hW.alike hK, hD⟩, hS.F ht⟩) hS.2.2 dX9_joined_85
  · refine lv_tableIn (tgt := 86) hx hb dX9_joined_1 (by decide) (by decide) (off := 85) (by decide) (by decide) ?_
    refine lv_lload_n hx hb dX9_joined_86 rfl (lv_at hl 2 rfl) ?_
    refine lv_lconst (v := 0) hx hb dX9_joined_87 (by decide) ?_
    refine W.lcmp hx hb dX9_joined_88 ?_
    refine lv_topi (fun y_30 ey_30 => ?_)
    refine lv_if_ne (tgt := 96) hx hb dX9_joined_89 (by decide) (fun c_31 => ?_) (fun c_31 => ?_)
    · refine lv_lload_n hx hb dX9_joined_96 rfl (lv_at hl 1 rfl) ?_
      refine lv_lload_n hx hb dX9_joined_97 rfl (lv_at hl 2 rfl) ?_
      refine lv_lrem hx hb dX9_joined_98 (lg_nz ey_30 c_31) ?_
      refine lv_topl (fun z_32 ez_32 => ?_)
      refine W.widen (k := 0) (n := 0) (Nat.le_of_ble_eq_true rfl) (Nat.le_of_ble_eq_true rfl) ?_
      exact W.lret (v := z_32) hx hb hr (fun t ht hW => ⟨⟨z_32, (), rfl, trivial, by rw [ht]; exact hP, va_K.moved hW.alike hK, hD⟩, hS.F ht⟩) hS.2.2 dX9_joined_99
    · refine lv_lconst (v := 0) hx hb dX9_joined_92 (by decide) ?_
      refine lv_goto (tgt := 99) hx hb dX9_joined_93 (by decide) ?_
      refine W.widen (k := 0) (n := 0) (Nat.le_of_ble_eq_true rfl) (Nat.le_of_ble_eq_true rfl) ?_
      exact W.lret (v := 0) hx hb hr (fun t ht hW => ⟨⟨0, (), rfl, trivial, by rw [ht]; exact hP, va_K.moved hW.alike hK, hD⟩, hS.F ht⟩) hS.2.2 dX9_joined_99
  · refine lv_tableIn (tgt := 100) hx hb dX9_joined_1 (by decide) (by decide) (off := 99) (by decide) (by decide) ?_
    refine lv_lload_n hx hb dX9_joined_100 rfl (lv_at hl 1 rfl) ?_
    refine lv_lload_n hx hb dX9_joined_101 rfl (lv_at hl 2 rfl) ?_
    refine W.lcmp hx hb dX9_joined_102 ?_
    refine lv_topi (fun y_33 ey_33 => ?_)
    refine lv_if_ge (tgt := 110) hx hb dX9_joined_103 (by decide) (fun c_34 => ?_) (fun c_34 => ?_)
    · refine lv_lconst (v := 0) hx hb dX9_joined_110 (by decide) ?_
      refine W.widen (k := 0) (n := 0) (Nat.le_of_ble_eq_true rfl) (Nat.le_of_ble_eq_true rfl) ?_
      exact W.lret (v := 0) hx hb hr (fun t ht hW => ⟨⟨0, (), rfl, trivial, by rw [ht]; exact hP, va_K.moved hW.alike hK, hD⟩, hS.F ht⟩) hS.2.2 dX9_joined_111
    · refine lv_lconst (v := 1) hx hb dX9_joined_106 (by decide) ?_
      refine lv_goto (tgt := 111) hx hb dX9_joined_107 (by decide) ?_
      refine W.widen (k := 0) (n := 0) (Nat.le_of_ble_eq_true rfl) (Nat.le_of_ble_eq_true rfl) ?_
      exact W.lret (v := 1) hx hb hr (fun t ht hW => ⟨⟨1, (), rfl, trivial, by rw [ht]; exact hP, va_K.moved hW.alike hK, hD⟩, hS.F ht⟩) hS.2.2 dX9_joined_111
  · refine lv_tableIn (tgt := 112) hx hb dX9_joined_1 (by decide) (by decide) (off := 111) (by decide) (by decide) ?_
    refine lv_lload_n hx hb dX9_joined_112 rfl (lv_at hl 1 rfl) ?_
    refine lv_lload_n hx hb dX9_joined_113 rfl (lv_at hl 2 rfl) ?_
    refine W.lcmp hx hb dX9_joined_114 ?_
    refine lv_topi (fun y_35 ey_35 => ?_)
    refine lv_if_gt (tgt := 122) hx hb dX9_joined_115 (by decide) (fun c_36 => ?_) (fun c_36 => ?_)
    · refine lv_lconst (v := 0) hx hb dX9_joined_122 (by decide) ?_
      refine W.widen (k := 0) (n := 0) (Nat.le_of_ble_eq_true rfl) (Nat.le_of_ble_eq_true rfl) ?_
      exact W.lret (v := 0) hx hb hr (fun t ht hW => ⟨⟨0, (), rfl, trivial, by rw [ht]; exact hP, va_K.moved hW.alike hK, hD⟩, hS.F ht⟩) hS.2.2 dX9_joined_123
    · refine lv_lconst (v := 1) hx hb dX9_joined_118 (by decide) ?_
      refine lv_goto (tgt := 123) hx hb dX9_joined_119 (by decide) ?_
      refine W.widen (k := 0) (n := 0) (Nat.le_of_ble_eq_true rfl) (Nat.le_of_ble_eq_true rfl) ?_
      exact W.lret (v := 1) hx hb hr (fun t ht hW => ⟨⟨1, (), rfl, trivial, by rw [ht]; exact hP, va_K.moved hW.alike hK, hD⟩, hS.F ht⟩) hS.2.2 dX9_joined_123
  · refine lv_tableIn (tgt := 124) hx hb dX9_joined_1 (by decide) (by decide) (off := 123) (by decide) (by decide) ?_
    refine lv_lload_n hx hb dX9_joined_124 rfl (lv_at hl 1 rfl) ?_
    refine lv_lload_n hx hb dX9_joined_125 rfl (lv_at hl 2 rfl) ?_
    refine W.lcmp hx hb dX9_joined_126 ?_
    refine lv_topi (fun y_37 ey_37 => ?_)
    refine lv_if_ne (tgt := 134) hx hb dX9_joined_127 (by decide) (fun c_38 => ?_) (fun c_38 => ?_)
    · refine lv_lconst (v := 0) hx hb dX9_joined_134 (by decide) ?_
      refine W.widen (k := 0) (n := 0) (Nat.le_of_ble_eq_true rfl) (Nat.le_of_ble_eq_true rfl) ?_
      exact W.lret (v := 0) hx hb hr (fun t ht hW => ⟨⟨0, (), rfl, trivial, by rw [ht]; exact hP, va_K.moved hW.alike hK, hD⟩, hS.F ht⟩) hS.2.2 dX9_joined_135
    · refine lv_lconst (v := 1) hx hb dX9_joined_130 (by decide) ?_
      refine lv_goto (tgt := 135) hx hb dX9_joined_131 (by decide) ?_
      refine W.widen (k := 0) (n := 0) (Nat.le_of_ble_eq_true rfl) (Nat.le_of_ble_eq_true rfl) ?_
      exact W.lret (v := 1) hx hb hr (fun t ht hW => ⟨⟨1, (), rfl, trivial, by rw [ht]; exact hP, va_K.moved hW.alike hK, hD⟩, hS.F ht⟩) hS.2.2 dX9_joined_135
  · refine lv_tableIn (tgt := 136) hx hb dX9_joined_1 (by decide) (by decide) (off := 135) (by decide) (by decide) ?_
    refine lv_lload_n hx hb dX9_joined_136 rfl (lv_at hl 1 rfl) ?_
    refine lv_lload_n hx hb dX9_joined_137 rfl (lv_at hl 2 rfl) ?_
    refine W.lcmp hx hb dX9_joined_138 ?_
    refine lv_topi (fun y_39 ey_39 => ?_)
    refine lv_if_lt (tgt := 146) hx hb dX9_joined_139 (by decide) (fun c_40 => ?_) (fun c_40 => ?_)
    · refine lv_lconst (v := 0) hx hb dX9_joined_146 (by decide) ?_
      refine W.widen (k := 0) (n := 0) (Nat.le_of_ble_eq_true rfl) (Nat.le_of_ble_eq_true rfl) ?_
      exact W.lret (v := 0) hx hb hr (fun t ht hW => ⟨⟨0, (), rfl, trivial, by rw [ht]; exact hP, va_K.moved hW.alike hK, hD⟩, hS.F ht⟩) hS.2.2 dX9_joined_147
    · refine lv_lconst (v := 1) hx hb dX9_joined_142 (by decide) ?_
      refine lv_goto (tgt := 147) hx hb dX9_joined_143 (by decide) ?_
      refine W.widen (k := 0) (n := 0) (Nat.le_of_ble_eq_true rfl) (Nat.le_of_ble_eq_true rfl) ?_
      exact W.lret (v := 1) hx hb hr (fun t ht hW => ⟨⟨1, (), rfl, trivial, by rw [ht]; exact hP, va_K.moved hW.alike hK, hD⟩, hS.F ht⟩) hS.2.2 dX9_joined_147
  · refine lv_tableIn (tgt := 148) hx hb dX9_joined_1 (by decide) (by decide) (off := 147) (by decide) (by decide) ?_
    refine lv_lload_n hx hb dX9_joined_148 rfl (lv_at hl 1 rfl) ?_
    refine lv_lload_n hx hb dX9_joined_149 rfl (lv_at hl 2 rfl) ?_
    refine W.lcmp hx hb dX9_joined_150 ?_
    refine lv_topi (fun y_41 ey_41 => ?_)
    refine lv_if_le (tgt := 158) hx hb dX9_joined_151 (by decide) (fun c_42 => ?_) (fun c_42 => ?_)
    · refine lv_lconst (v := 0) hx hb dX9_joined_158 (by decide) ?_
      refine W.widen (k := 0) (n := 0) (Nat.le_of_ble_eq_true rfl) (Nat.le_of_ble_eq_true rfl) ?_
      exact W.lret (v := 0) hx hb hr (fun t ht hW => ⟨⟨0, (), rfl, trivial, by rw [ht]; exact hP, va_K.moved hW.alike hK, hD⟩, hS.F ht⟩) hS.2.2 dX9_joined_159
    · refine lv_lconst (v := 1) hx hb dX9_joined_154 (by decide) ?_
      refine lv_goto (tgt := 159) hx hb dX9_joined_155 (by decide) ?_
      refine W.widen (k := 0) (n := 0) (Nat.le_of_ble_eq_true rfl) (Nat.le_of_ble_eq_true rfl) ?_
      exact W.lret (v := 1) hx hb hr (fun t ht hW => ⟨⟨1, (), rfl, trivial, by rw [ht]; exact hP, va_K.moved hW.alike hK, hD⟩, hS.F ht⟩) hS.2.2 dX9_joined_159
  · refine lv_tableIn (tgt := 160) hx hb dX9_joined_1 (by decide) (by decide) (off := 159) (by decide) (by decide) ?_
    refine lv_lload_n hx hb dX9_joined_160 rfl (lv_at hl 1 rfl) ?_
    refine lv_lload_n hx hb dX9_joined_161 rfl (lv_at hl 2 rfl) ?_
    refine lv_land hx hb dX9_joined_162 ?_
    refine lv_topl (fun z_43 ez_43 => ?_)
    refine W.widen (k := 0) (n := 0) (Nat.le_of_ble_eq_true rfl) (Nat.le_of_ble_eq_true rfl) ?_
    exact W.lret (v := z_43) hx hb hr (fun t ht hW => ⟨⟨z_43, (), rfl, trivial, by rw [ht]; exact hP, va_K.moved hW.alike hK, hD⟩, hS.F ht⟩) hS.2.2 dX9_joined_163
  · refine lv_tableOut (tgt := 164) hx hb dX9_joined_1 c_23 (by decide) ?_
    refine lv_lload_n hx hb dX9_joined_164 rfl (lv_at hl 1 rfl) ?_
    refine lv_lload_n hx hb dX9_joined_165 rfl (lv_at hl 2 rfl) ?_
    refine lv_lor hx hb dX9_joined_166 ?_
    refine lv_topl (fun z_44 ez_44 => ?_)
    refine W.widen (k := 0) (n := 0) (Nat.le_of_ble_eq_true rfl) (Nat.le_of_ble_eq_true rfl) ?_
    exact W.lret (v := z_44) hx hb hr (fun t ht hW => ⟨⟨z_44, (), rfl, trivial, by rw [ht]; exact hP, va_K.moved hW.alike hK, hD⟩, hS.F ht⟩) hS.2.2 dX9_joined_167

set_option maxHeartbeats 4000000 in
set_option maxRecDepth 100000 in
/-- r_worth -/
theorem r_worth (l : Launch) (dC : Nat → ClassId) (dI : Nat → Nat → Nat) (sz : Nat) (h0 : Nat) (h0co : Nat) (h0_steps : Int32) (h0_asksMinute : Int32) (kh0co : ClassId) (gh0co : Nat → Int32) (h1 : Nat) (kh1 : ClassId) (gh1 : Nat → Int64) (h2 : Nat) (kh2 : ClassId) (gh2 : Nat → Int64) : Met l yX9_worth (.code yX9_worth cX9_worth 8 (some .long) :: wsA) ({ frames := 1, cells := 0, slots := 0, locals := 24 }) (va_Pc [.ref h0, .ref h1, .ref h2] (fun U => U.heap.size = sz ∧ va_P (dC, dI) classes [(h0, .inr (9, [.ref h0co, .int h0_steps, .int h0_asksMinute])), (h0co, .inl (kh0co, 400, .inl gh0co)), (h1, .inl (kh1, 10, .inr (.inl gh1))), (h2, .inl (kh2, 32, .inr (.inl gh2)))] U.heap ∧ va_K (dC, dI) classes [(kh0co, .int), (kh1, .long), (kh2, .long)] U ∧ va_D (fun _ => True) [(h0, .inr (9, [.ref h0co, .int h0_steps, .int h0_asksMinute])), (h0co, .inl (kh0co, 400, .inl gh0co)), (h1, .inl (kh1, 10, .inr (.inl gh1))), (h2, .inl (kh2, 32, .inr (.inl gh2)))] ∧ xE U)) (va_Ql (fun (r : Int64) (_ : Unit) => True) (fun _ t => ∃ (f_379 : Nat → Int64), va_P (dC, dI) classes [(h0, .inr (9, [.ref h0co, .int h0_steps, .int h0_asksMinute])), (h0co, .inl (kh0co, 400, .inl gh0co)), (h1, .inl (kh1, 10, .inr (.inl gh1))), (h2, .inl (kh2, 32, .inr (.inl f_379)))] t.heap ∧ va_K (dC, dI) classes [(kh0co, .int), (kh1, .long), (kh2, .long)] t ∧ va_D (va_A [(h0, .inr (9, [.ref h0co, .int h0_steps, .int h0_asksMinute])), (h0co, .inl (kh0co, 400, .inl gh0co)), (h1, .inl (kh1, 10, .inr (.inl gh1))), (h2, .inl (kh2, 32, .inr (.inl gh2)))] sz) [(h0, .inr (9, [.ref h0co, .int h0_steps, .int h0_asksMinute])), (h0co, .inl (kh0co, 400, .inl gh0co)), (h1, .inl (kh1, 10, .inr (.inl gh1))), (h2, .inl (kh2, 32, .inr (.inl f_379)))]) (va_A [(h0, .inr (9, [.ref h0co, .int h0_steps, .int h0_asksMinute])), (h0co, .inl (kh0co, 400, .inl gh0co)), (h1, .inl (kh1, 10, .inr (.inl gh1))), (h2, .inl (kh2, 32, .inr (.inl gh2)))] sz)) 0 0 (va_A [(h0, .inr (9, [.ref h0co, .int h0_steps, .int h0_asksMinute])), (h0co, .inl (kh0co, 400, .inl gh0co)), (h1, .inl (kh1, 10, .inr (.inl gh1))), (h2, .inl (kh2, 32, .inr (.inl gh2)))] sz) := by
  refine Met.ofW (cc := cX9_worth) (maxL := 8) (ret := (some .long)) (by decide) rfl ?_
  intro p e s m args below meth c s₁ B hml hv
  obtain ⟨rfl, hsz, hP, hK, hD0, hE⟩ := hv
  have hx := B.exec
  have hb := B.bytes
  have hr := B.returns
  have hts := atoms_spec (ws := .code yX9_worth cX9_worth 8 (some .long) :: wsA) B.pre
  have hq : ∀ w ∈ wsA, w.before _ s = true := fun w h => hts w (List.mem_cons_of_mem _ h)
  have hown : s.vm.findClass RX9 = some m.cls := findClass_of_methodNamed B.named
  have hlocks := B.notSynchronized
  subst hsz
  have hD := hD0.self (sz := s.heap.size)
  generalize hAe : va_A [(h0, .inr (9, [.ref h0co, .int h0_steps, .int h0_asksMinute])), (h0co, .inl (kh0co, 400, .inl gh0co)), (h1, .inl (kh1, 10, .inr (.inl gh1))), (h2, .inl (kh2, 32, .inr (.inl gh2)))] s.heap.size = A at hD ⊢
  have hA : ∀ q : Nat, s.heap.size ≤ q → A q := fun q h => by rw [← hAe]; exact Or.inr h
  have hS : va_S A s.heap s.heap [] := va_S.rf
  have hl := lv_entry ([.ref h0, .ref h1, .ref h2]) (n := 8) (Nat.le_of_ble_eq_true rfl)
  rw [lg_entry_eq]
  generalize (lg_sl ([.ref h0, .ref h1, .ref h2]) ++ List.replicate (8 - (lg_sl ([.ref h0, .ref h1, .ref h2])).length) Slot.unset).toArray = ls at hl ⊢
  have hl : lv_has ls 8 [(0, .ref h0), (1, .ref h1), (2, .ref h2)] := hl
  refine lv_aload_n hx hb dX9_worth_0 rfl (lv_at hl 1 rfl) ?_
  refine va_alen (v := 10) hx hb hK hP 2 1 rfl rfl rfl dX9_worth_1 ?_
  refine lv_bipush (v := 10) hx hb dX9_worth_2 (by decide) ?_
  refine lv_icmp_lt (tgt := 14) hx hb dX9_worth_4 (by decide) (fun c9 => absurd c9 (by decide)) (fun _ => ?_)
  refine lv_aload_n hx hb dX9_worth_7 rfl (lv_at hl 2 rfl) ?_
  refine va_alen (v := 32) hx hb hK hP 3 2 rfl rfl rfl dX9_worth_8 ?_
  refine lv_bipush (v := 32) hx hb dX9_worth_9 (by decide) ?_
  refine lv_icmp_ge (tgt := 16) hx hb dX9_worth_11 (by decide) (fun _ => ?_) (fun c9 => absurd c9 (by decide))
  refine lv_iconst (v := 0) hx hb dX9_worth_16 (by decide) ?_
  refine lv_istore_n (lv' := [(3, .int 0), (0, .ref h0), (1, .ref h1), (2, .ref h2)]) hx hb dX9_worth_17 rfl hl (by decide) rfl (fun ls hl => ?_)
  refine lv_iconst (v := 0) hx hb dX9_worth_18 (by decide) ?_
  refine lv_istore (lv' := [(4, .int 0), (3, .int 0), (0, .ref h0), (1, .ref h1), (2, .ref h2)]) hx hb dX9_worth_19 hl (by decide) rfl (fun ls hl => ?_)
  refine W.loop (I := fun n H locs g => ∃ (y_794 : Int32) (y_795 : Int32) (f_796 : Nat → Int64) (ls : Array Slot), bt 0 400 y_794 ∧ 400 - y_794.toInt < (n : Int) ∧ va_P (dC, dI) classes [(h0, .inr (9, [.ref h0co, .int h0_steps, .int h0_asksMinute])), (h0co, .inl (kh0co, 400, .inl gh0co)), (h1, .inl (kh1, 10, .inr (.inl gh1))), (h2, .inl (kh2, 32, .inr (.inl f_796)))] H ∧ va_D A [(h0, .inr (9, [.ref h0co, .int h0_steps, .int h0_asksMinute])), (h0co, .inl (kh0co, 400, .inl gh0co)), (h1, .inl (kh1, 10, .inr (.inl gh1))), (h2, .inl (kh2, 32, .inr (.inl f_796)))] ∧ va_S A s.heap H locs ∧ lv_has ls 8 [(4, .int y_794), (3, .int y_795), (0, .ref h0), (1, .ref h1), (2, .ref h2)] ∧ g = F0 m 21 ls []) (fun H locs g h => ?_) (fun n ih21 H locs g h => ?_) (n := 401) ⟨0, 0, gh2, _, (bt_w (bt_k (x := 0) (c := 0) (by decide)) (by decide)), (ms_0 (bt_k (x := 0) (c := 0) (by decide)) (by decide)), hP, hD, hS, hl, rfl⟩
  · obtain ⟨y_794, y_795, f_796, ls, bd_v_4, hm, hP, hD, hS, hl, rfl⟩ := h
    exact ms_z bd_v_4 hm
  · obtain ⟨y_794, y_795, f_796, ls, bd_v_4, hm21, hP, hD, hS, hl, rfl⟩ := h
    refine lv_iload hx hb dX9_worth_21 (lv_at hl 0 rfl) ?_
    refine lv_aload_n hx hb dX9_worth_23 rfl (lv_at hl 2 rfl) ?_
    refine va_get (D := (dC, dI)) (ci := 9) (v := .int h0_steps) (C := RX9) (T := TX9) (N := 3) hx hb hq inX9 hown hK hP 0 rfl rfl 1 (by decide) (hq _ qw_196) (fun _ h9 => h9) rfl dX9_worth_24 ?_
    refine W.cut (I := fun H locs g => ∃ (ls : Array Slot), va_P (dC, dI) classes [(h0, .inr (9, [.ref h0co, .int h0_steps, .int h0_asksMinute])), (h0co, .inl (kh0co, 400, .inl gh0co)), (h1, .inl (kh1, 10, .inr (.inl gh1))), (h2, .inl (kh2, 32, .inr (.inl f_796)))] H ∧ va_D A [(h0, .inr (9, [.ref h0co, .int h0_steps, .int h0_asksMinute])), (h0co, .inl (kh0co, 400, .inl gh0co)), (h1, .inl (kh1, 10, .inr (.inl gh1))), (h2, .inl (kh2, 32, .inr (.inl f_796)))] ∧ va_S A s.heap H locs ∧ lv_has ls 8 [] ∧ g = F0 m 210 ls []) (fun H locs g h => ?_) (fun hJ210 => ?_)
    · obtain ⟨ls, hP, hD, hS, hl, rfl⟩ := h
      refine lv_lconst (v := 0) hx hb dX9_worth_210 (by decide) ?_
      refine W.widen (k := 0) (n := 0) (Nat.le_of_ble_eq_true rfl) (Nat.le_of_ble_eq_true rfl) ?_
      exact W.lret (v := 0) hx hb hr (fun t ht hW => ⟨⟨0, (), rfl, trivial, f_796, by rw [ht]; exact hP, va_K.moved hW.alike hK, hD⟩, hS.F ht⟩) hS.2.2 dX9_worth_211
    refine lv_icmp_ge (tgt := 210) hx hb dX9_worth_27 (by decide) (fun c_1136 => ?_) (fun c_1136 => ?_)
    · exact hJ210 _ _ _ ⟨_, hP, hD, hS, (lv_sub hl [] rfl), rfl⟩
    · refine lv_iload hx hb dX9_worth_30 (lv_at hl 0 rfl) ?_
      refine lv_aload_n hx hb dX9_worth_32 rfl (lv_at hl 2 rfl) ?_
      refine va_get (D := (dC, dI)) (ci := 9) (v := .ref h0co) (C := RX9) (T := TX9) (N := 3) hx hb hq inX9 hown hK hP 0 rfl rfl 0 (by decide) (hq _ qw_195) (fun _ h9 => h9) rfl dX9_worth_33 ?_
      refine va_alen (v := 400) hx hb hK hP 1 0 rfl rfl rfl dX9_worth_36 ?_
      refine lv_icmp_ge (tgt := 210) hx hb dX9_worth_37 (by decide) (fun c_1137 => ?_) (fun c_1137 => ?_)
      · exact hJ210 _ _ _ ⟨_, hP, hD, hS, (lv_sub hl [] rfl), rfl⟩
      · refine lv_aload_n hx hb dX9_worth_40 rfl (lv_at hl 2 rfl) ?_
        refine va_get (D := (dC, dI)) (ci := 9) (v := .ref h0co) (C := RX9) (T := TX9) (N := 3) hx hb hq inX9 hown hK hP 0 rfl rfl 0 (by decide) (hq _ qw_195) (fun _ h9 => h9) rfl dX9_worth_41 ?_
        refine lv_iload hx hb dX9_worth_44 (lv_at hl 0 rfl) ?_
        have b_1138 : bt 0 399 y_794 := rf_lt_l bd_v_4 (bt_k (x := 400) (c := 400) (by decide)) (Int32.not_le.mp c_1137) (by decide)
        refine va_iald hx hb hK hP 1 0 rfl rfl (bt_in b_1138 (by decide)) dX9_worth_46 ?_
        refine lv_topi (fun y_1139 ey_1139 => ?_)
        refine lv_istore (lv' := [(5, .int y_1139), (4, .int y_794), (3, .int y_795), (0, .ref h0), (1, .ref h1), (2, .ref h2)]) hx hb dX9_worth_47 hl (by decide) rfl (fun ls hl => ?_)
        refine lv_iload_n hx hb dX9_worth_49 rfl (lv_at hl 2 rfl) ?_
        refine lv_iconst (v := 1) hx hb dX9_worth_50 (by decide) ?_
        refine lv_isub hx hb dX9_worth_51 ?_
        refine lv_topi (fun y_1140 ey_1140 => ?_)
        refine lv_bipush (v := 31) hx hb dX9_worth_52 (by decide) ?_
        refine lv_iand hx hb dX9_worth_54 ?_
        refine lv_topi (fun y_1141 ey_1141 => ?_)
        refine lv_istore (lv' := [(6, .int y_1141), (5, .int y_1139), (4, .int y_794), (3, .int y_795), (0, .ref h0), (1, .ref h1), (2, .ref h2)]) hx hb dX9_worth_55 hl (by decide) rfl (fun ls hl => ?_)
        refine lv_iload_n hx hb dX9_worth_57 rfl (lv_at hl 3 rfl) ?_
        refine lv_iconst (v := 2) hx hb dX9_worth_58 (by decide) ?_
        refine lv_isub hx hb dX9_worth_59 ?_
        refine lv_topi (fun y_1142 ey_1142 => ?_)
        refine lv_bipush (v := 31) hx hb dX9_worth_60 (by decide) ?_
        refine lv_iand hx hb dX9_worth_62 ?_
        refine lv_topi (fun y_1143 ey_1143 => ?_)
        refine lv_istore (lv' := [(7, .int y_1143), (6, .int y_1141), (5, .int y_1139), (4, .int y_794), (3, .int y_795), (0, .ref h0), (1, .ref h1), (2, .ref h2)]) hx hb dX9_worth_63 hl (by decide) rfl (fun ls hl => ?_)
        refine lv_iload hx hb dX9_worth_65 (lv_at hl 2 rfl) ?_
        refine lv_bipush (v := 100) hx hb dX9_worth_67 (by decide) ?_
        refine W.cut (I := fun H locs g => ∃ (y_1185 : Int32) (f_1186 : Nat → Int64) (ls : Array Slot), va_P (dC, dI) classes [(h0, .inr (9, [.ref h0co, .int h0_steps, .int h0_asksMinute])), (h0co, .inl (kh0co, 400, .inl gh0co)), (h1, .inl (kh1, 10, .inr (.inl gh1))), (h2, .inl (kh2, 32, .inr (.inl f_1186)))] H ∧ va_D A [(h0, .inr (9, [.ref h0co, .int h0_steps, .int h0_asksMinute])), (h0co, .inl (kh0co, 400, .inl gh0co)), (h1, .inl (kh1, 10, .inr (.inl gh1))), (h2, .inl (kh2, 32, .inr (.inl f_1186)))] ∧ va_S A s.heap H locs ∧ lv_has ls 8 [(3, .int y_1185), (4, .int y_794), (0, .ref h0), (1, .ref h1), (2, .ref h2)] ∧ g = F0 m 204 ls []) (fun H locs g h => ?_) (fun hJ204 => ?_)
        · obtain ⟨y_1185, f_1186, ls, hP, hD, hS, hl, rfl⟩ := h
          obtain ⟨y_1188, ey_1188⟩ : ∃ y : Int32, y = y_794 + 1 := ⟨_, rfl⟩
          refine lv_iinc (v := y_1188) (lv' := [(4, .int y_1188), (3, .int y_1185), (0, .ref h0), (1, .ref h1), (2, .ref h2)]) hx hb dX9_worth_204 hl (k := 1) rfl (by rw [ey_1188]; rfl) (by decide) rfl (fun ls hl => ?_)
          refine lv_goto (tgt := 21) hx hb dX9_worth_207 (by decide) ?_
          have b_1189 : bt 1 400 y_1188 := bt_add ey_1188 b_1138 (bt_k (x := 1) (c := 1) (by decide)) (by decide)
          exact ih21 _ _ _ ⟨y_1188, y_1185, f_1186, _, (bt_w b_1189 (by decide)), (ms_s ey_1188 b_1138 hm21 (by decide)), hP, hD, hS, hl, rfl⟩
        refine lv_icmp_lt (tgt := 90) hx hb dX9_worth_69 (by decide) (fun c_1190 => ?_) (fun c_1190 => ?_)
        · refine lv_iload hx hb dX9_worth_90 (lv_at hl 2 rfl) ?_
          refine W.cut (I := fun H locs g => ∃ (ls : Array Slot), va_P (dC, dI) classes [(h0, .inr (9, [.ref h0co, .int h0_steps, .int h0_asksMinute])), (h0co, .inl (kh0co, 400, .inl gh0co)), (h1, .inl (kh1, 10, .inr (.inl gh1))), (h2, .inl (kh2, 32, .inr (.inl f_796)))] H ∧ va_D A [(h0, .inr (9, [.ref h0co, .int h0_steps, .int h0_asksMinute])), (h0co, .inl (kh0co, 400, .inl gh0co)), (h1, .inl (kh1, 10, .inr (.inl gh1))), (h2, .inl (kh2, 32, .inr (.inl f_796)))] ∧ va_S A s.heap H locs ∧ lv_has ls 8 [(7, .int y_1143), (6, .int y_1141), (5, .int y_1139), (4, .int y_794), (3, .int y_795), (0, .ref h0), (1, .ref h1), (2, .ref h2)] ∧ g = F0 m 118 ls []) (fun H locs g h => ?_) (fun hJ118 => ?_)
          · obtain ⟨ls, hP, hD, hS, hl, rfl⟩ := h
            refine lv_iload hx hb dX9_worth_118 (lv_at hl 2 rfl) ?_
            refine lv_bipush (v := 22) hx hb dX9_worth_120 (by decide) ?_
            refine lv_icmp_ne (tgt := 146) hx hb dX9_worth_122 (by decide) (fun c_1225 => ?_) (fun c_1225 => ?_)
            · refine lv_iload hx hb dX9_worth_146 (lv_at hl 2 rfl) ?_
              refine lv_bipush (v := 23) hx hb dX9_worth_148 (by decide) ?_
              refine lv_icmp_ne (tgt := 158) hx hb dX9_worth_150 (by decide) (fun c_1226 => ?_) (fun c_1226 => ?_)
              · refine lv_iload hx hb dX9_worth_158 (lv_at hl 2 rfl) ?_
                refine lv_bipush (v := 24) hx hb dX9_worth_160 (by decide) ?_
                refine lv_icmp_ne (tgt := 184) hx hb dX9_worth_162 (by decide) (fun c_1227 => ?_) (fun c_1227 => ?_)
                · refine lv_aload_n hx hb dX9_worth_184 rfl (lv_at hl 7 rfl) ?_
                  refine lv_iload hx hb dX9_worth_185 (lv_at hl 0 rfl) ?_
                  refine lv_iload hx hb dX9_worth_187 (lv_at hl 2 rfl) ?_
                  refine lv_aload_n hx hb dX9_worth_189 rfl (lv_at hl 7 rfl) ?_
                  refine lv_iload hx hb dX9_worth_190 (lv_at hl 0 rfl) ?_
                  have b_1228 : bt 0 31 y_1143 := bt_andr ey_1143 (bt_k (x := 31) (c := 31) (by decide)) (by decide)
                  refine va_lald hx hb hK hP 3 2 rfl rfl (bt_in b_1228 (by decide)) dX9_worth_192 ?_
                  refine lv_topl (fun z_1229 ez_1229 => ?_)
                  refine lv_aload_n hx hb dX9_worth_193 rfl (lv_at hl 7 rfl) ?_
                  refine lv_iload hx hb dX9_worth_194 (lv_at hl 1 rfl) ?_
                  have b_1230 : bt 0 31 y_1141 := bt_andr ey_1141 (bt_k (x := 31) (c := 31) (by decide)) (by decide)
                  refine va_lald hx hb hK hP 3 2 rfl rfl (bt_in b_1230 (by decide)) dX9_worth_196 ?_
                  refine lv_topl (fun z_1231 ez_1231 => ?_)
                  have hPc := hP.sub (ws' := []) [] rfl
                  have hDc := hD.sub (ws' := []) [] (by decide) rfl
                  have hKc := hK.sub (tys' := []) [] rfl
                  have hFc := va_free (wc := []) hD hS hA [] rfl
                  refine va_calll (va_runS (As := [.int y_1139, .long z_1229, .long z_1231]) (rest := [.int y_1143, .ref h2]) ⟨hx, hb, hml, hown, hq⟩ (r_joined l dC dI _ y_1139 z_1229 z_1231 ) (cwS 3 hq (gS qw_862 qw_863 qw_123 qw_864) rfl rfl rfl (by decide +kernel) ⟨Nat.le_of_ble_eq_true rfl, Nat.le_of_ble_eq_true rfl⟩) ⟨fun a U g mk q => by obtain ⟨q0, q1, qP, qK, qD, qE⟩ := q; exact ⟨q0, q1, qP, va_K.moved (u := U) (U := U.calling g mk a) (Vm.Alike.refl U.vm) qK, qD, xE.same rfl qE⟩, fun U hU hW => ⟨rfl, by rw [hU], by rw [hU]; exact hPc, va_K.moved hW.alike hKc, hDc.weaken (fun _ _ _ _ => trivial), xE.warm hW hE⟩⟩ rfl rfl hl.1 rfl (lv_room (Nat.le_of_ble_eq_true rfl)) dX9_worth_197 ⟨Nat.le_of_ble_eq_true rfl, Nat.le_of_ble_eq_true rfl⟩) hS (fun q _ h => hFc q h) hFc (fun r_1232 u t H1 locs ht hvm hw hB hz1 hk1 hS => ?_)
                  obtain ⟨hP1, hK1, hD1⟩ := hB
                  rw [ht] at hP1
                  obtain ⟨hP, hD⟩ := va_join (wr := [(h0, .inr (9, [.ref h0co, .int h0_steps, .int h0_asksMinute])), (h0co, .inl (kh0co, 400, .inl gh0co)), (h1, .inl (kh1, 10, .inr (.inl gh1))), (h2, .inl (kh2, 32, .inr (.inl f_796)))]) (w1 := []) hP hD [] [0, 1, 2, 3] rfl rfl (by decide) (by decide) hk1 hFc hP1 hD1
                  generalize H1 = H at hP hS ⊢
                  have hP : va_P (dC, dI) classes [(h0, .inr (9, [.ref h0co, .int h0_steps, .int h0_asksMinute])), (h0co, .inl (kh0co, 400, .inl gh0co)), (h1, .inl (kh1, 10, .inr (.inl gh1))), (h2, .inl (kh2, 32, .inr (.inl f_796)))] H := hP
                  have hD : va_D A [(h0, .inr (9, [.ref h0co, .int h0_steps, .int h0_asksMinute])), (h0co, .inl (kh0co, 400, .inl gh0co)), (h1, .inl (kh1, 10, .inr (.inl gh1))), (h2, .inl (kh2, 32, .inr (.inl f_796)))] := hD
                  refine va_last hx hb hK hP hD hS 3 2 rfl rfl (bt_in b_1228 (by decide)) dX9_worth_200 (fun H locs hP hD hS => ?_)
                  obtain ⟨f_1233, ef_1233⟩ : ∃ f, f = vp_updL f_796 (Int32.toNatClampNeg y_1143) r_1232 := ⟨_, rfl⟩
                  rw [← ef_1233] at hP hD
                  have hP : va_P (dC, dI) classes [(h0, .inr (9, [.ref h0co, .int h0_steps, .int h0_asksMinute])), (h0co, .inl (kh0co, 400, .inl gh0co)), (h1, .inl (kh1, 10, .inr (.inl gh1))), (h2, .inl (kh2, 32, .inr (.inl f_1233)))] H := hP
                  have hD : va_D A [(h0, .inr (9, [.ref h0co, .int h0_steps, .int h0_asksMinute])), (h0co, .inl (kh0co, 400, .inl gh0co)), (h1, .inl (kh1, 10, .inr (.inl gh1))), (h2, .inl (kh2, 32, .inr (.inl f_1233)))] := hD
                  obtain ⟨y_1234, ey_1234⟩ : ∃ y : Int32, y = y_795 + (-1) := ⟨_, rfl⟩
                  refine lv_iinc (v := y_1234) (lv' := [(3, .int y_1234), (7, .int y_1143), (6, .int y_1141), (5, .int y_1139), (4, .int y_794), (0, .ref h0), (1, .ref h1), (2, .ref h2)]) hx hb dX9_worth_201 hl (k := 4) rfl (by rw [ey_1234]; rfl) (by decide) rfl (fun ls hl => ?_)
                  exact hJ204 _ _ _ ⟨y_1234, f_1233, _, hP, hD, hS, (lv_sub hl [0, 4, 5, 6, 7] rfl), rfl⟩
                · refine lv_aload_n hx hb dX9_worth_165 rfl (lv_at hl 7 rfl) ?_
                  refine lv_iload hx hb dX9_worth_166 (lv_at hl 1 rfl) ?_
                  have b_1235 : bt 0 31 y_1141 := bt_andr ey_1141 (bt_k (x := 31) (c := 31) (by decide)) (by decide)
                  refine va_lald hx hb hK hP 3 2 rfl rfl (bt_in b_1235 (by decide)) dX9_worth_168 ?_
                  refine lv_topl (fun z_1236 ez_1236 => ?_)
                  refine lv_lconst (v := 0) hx hb dX9_worth_169 (by decide) ?_
                  refine W.lcmp hx hb dX9_worth_170 ?_
                  refine lv_topi (fun y_1237 ey_1237 => ?_)
                  refine lv_if_eq (tgt := 179) hx hb dX9_worth_171 (by decide) (fun c_1238 => ?_) (fun c_1238 => ?_)
                  · refine lv_iconst (v := 0) hx hb dX9_worth_179 (by decide) ?_
                    refine lv_istore_n (lv' := [(3, .int 0), (7, .int y_1143), (6, .int y_1141), (5, .int y_1139), (4, .int y_794), (0, .ref h0), (1, .ref h1), (2, .ref h2)]) hx hb dX9_worth_180 rfl hl (by decide) rfl (fun ls hl => ?_)
                    refine lv_goto (tgt := 204) hx hb dX9_worth_181 (by decide) ?_
                    exact hJ204 _ _ _ ⟨0, f_796, _, hP, hD, hS, (lv_sub hl [0, 4, 5, 6, 7] rfl), rfl⟩
                  · refine lv_aload_n hx hb dX9_worth_174 rfl (lv_at hl 7 rfl) ?_
                    refine lv_iload hx hb dX9_worth_175 (lv_at hl 0 rfl) ?_
                    have b_1239 : bt 0 31 y_1143 := bt_andr ey_1143 (bt_k (x := 31) (c := 31) (by decide)) (by decide)
                    refine va_lald hx hb hK hP 3 2 rfl rfl (bt_in b_1239 (by decide)) dX9_worth_177 ?_
                    refine lv_topl (fun z_1240 ez_1240 => ?_)
                    refine W.widen (k := 0) (n := 0) (Nat.le_of_ble_eq_true rfl) (Nat.le_of_ble_eq_true rfl) ?_
                    exact W.lret (v := z_1240) hx hb hr (fun t ht hW => ⟨⟨z_1240, (), rfl, trivial, f_796, by rw [ht]; exact hP, va_K.moved hW.alike hK, hD⟩, hS.F ht⟩) hS.2.2 dX9_worth_178
              · refine lv_aload_n hx hb dX9_worth_153 rfl (lv_at hl 7 rfl) ?_
                refine lv_iload hx hb dX9_worth_154 (lv_at hl 1 rfl) ?_
                have b_1241 : bt 0 31 y_1141 := bt_andr ey_1141 (bt_k (x := 31) (c := 31) (by decide)) (by decide)
                refine va_lald hx hb hK hP 3 2 rfl rfl (bt_in b_1241 (by decide)) dX9_worth_156 ?_
                refine lv_topl (fun z_1242 ez_1242 => ?_)
                refine W.widen (k := 0) (n := 0) (Nat.le_of_ble_eq_true rfl) (Nat.le_of_ble_eq_true rfl) ?_
                exact W.lret (v := z_1242) hx hb hr (fun t ht hW => ⟨⟨z_1242, (), rfl, trivial, f_796, by rw [ht]; exact hP, va_K.moved hW.alike hK, hD⟩, hS.F ht⟩) hS.2.2 dX9_worth_157
            · refine lv_aload_n hx hb dX9_worth_125 rfl (lv_at hl 7 rfl) ?_
              refine lv_iload hx hb dX9_worth_126 (lv_at hl 1 rfl) ?_
              refine lv_aload_n hx hb dX9_worth_128 rfl (lv_at hl 7 rfl) ?_
              refine lv_iload hx hb dX9_worth_129 (lv_at hl 1 rfl) ?_
              have b_1243 : bt 0 31 y_1141 := bt_andr ey_1141 (bt_k (x := 31) (c := 31) (by decide)) (by decide)
              refine va_lald hx hb hK hP 3 2 rfl rfl (bt_in b_1243 (by decide)) dX9_worth_131 ?_
              refine lv_topl (fun z_1244 ez_1244 => ?_)
              refine lv_lconst (v := 0) hx hb dX9_worth_132 (by decide) ?_
              refine W.lcmp hx hb dX9_worth_133 ?_
              refine lv_topi (fun y_1245 ey_1245 => ?_)
              refine W.cut (I := fun H locs g => ∃ (z_1247 : Int64) (ls : Array Slot), va_P (dC, dI) classes [(h0, .inr (9, [.ref h0co, .int h0_steps, .int h0_asksMinute])), (h0co, .inl (kh0co, 400, .inl gh0co)), (h1, .inl (kh1, 10, .inr (.inl gh1))), (h2, .inl (kh2, 32, .inr (.inl f_796)))] H ∧ va_D A [(h0, .inr (9, [.ref h0co, .int h0_steps, .int h0_asksMinute])), (h0co, .inl (kh0co, 400, .inl gh0co)), (h1, .inl (kh1, 10, .inr (.inl gh1))), (h2, .inl (kh2, 32, .inr (.inl f_796)))] ∧ va_S A s.heap H locs ∧ lv_has ls 8 [(4, .int y_794), (3, .int y_795), (0, .ref h0), (1, .ref h1), (2, .ref h2)] ∧ g = F0 m 142 ls [.long z_1247, .int y_1141, .ref h2]) (fun H locs g h => ?_) (fun hJ142 => ?_)
              · obtain ⟨z_1247, ls, hP, hD, hS, hl, rfl⟩ := h
                refine va_last hx hb hK hP hD hS 3 2 rfl rfl (bt_in b_1243 (by decide)) dX9_worth_142 (fun H locs hP hD hS => ?_)
                obtain ⟨f_1249, ef_1249⟩ : ∃ f, f = vp_updL f_796 (Int32.toNatClampNeg y_1141) z_1247 := ⟨_, rfl⟩
                rw [← ef_1249] at hP hD
                have hP : va_P (dC, dI) classes [(h0, .inr (9, [.ref h0co, .int h0_steps, .int h0_asksMinute])), (h0co, .inl (kh0co, 400, .inl gh0co)), (h1, .inl (kh1, 10, .inr (.inl gh1))), (h2, .inl (kh2, 32, .inr (.inl f_1249)))] H := hP
                have hD : va_D A [(h0, .inr (9, [.ref h0co, .int h0_steps, .int h0_asksMinute])), (h0co, .inl (kh0co, 400, .inl gh0co)), (h1, .inl (kh1, 10, .inr (.inl gh1))), (h2, .inl (kh2, 32, .inr (.inl f_1249)))] := hD
                refine lv_goto (tgt := 204) hx hb dX9_worth_143 (by decide) ?_
                exact hJ204 _ _ _ ⟨y_795, f_1249, _, hP, hD, hS, (lv_sub hl [1, 0, 2, 3, 4] rfl), rfl⟩
              refine lv_if_ne (tgt := 141) hx hb dX9_worth_134 (by decide) (fun c_1250 => ?_) (fun c_1250 => ?_)
              · refine lv_lconst (v := 0) hx hb dX9_worth_141 (by decide) ?_
                exact hJ142 _ _ _ ⟨0, _, hP, hD, hS, (lv_sub hl [3, 4, 5, 6, 7] rfl), rfl⟩
              · refine lv_lconst (v := 1) hx hb dX9_worth_137 (by decide) ?_
                refine lv_goto (tgt := 142) hx hb dX9_worth_138 (by decide) ?_
                exact hJ142 _ _ _ ⟨1, _, hP, hD, hS, (lv_sub hl [3, 4, 5, 6, 7] rfl), rfl⟩
          refine lv_if_lt (tgt := 118) hx hb dX9_worth_92 (by decide) (fun c_1251 => ?_) (fun c_1251 => ?_)
          · exact hJ118 _ _ _ ⟨_, hP, hD, hS, hl, rfl⟩
          · refine lv_iload hx hb dX9_worth_95 (lv_at hl 2 rfl) ?_
            refine lv_bipush (v := 10) hx hb dX9_worth_97 (by decide) ?_
            refine lv_icmp_ge (tgt := 118) hx hb dX9_worth_99 (by decide) (fun c_1252 => ?_) (fun c_1252 => ?_)
            · exact hJ118 _ _ _ ⟨_, hP, hD, hS, hl, rfl⟩
            · refine lv_aload_n hx hb dX9_worth_102 rfl (lv_at hl 7 rfl) ?_
              refine lv_iload_n hx hb dX9_worth_103 rfl (lv_at hl 4 rfl) ?_
              refine lv_bipush (v := 31) hx hb dX9_worth_104 (by decide) ?_
              refine lv_iand hx hb dX9_worth_106 ?_
              refine lv_topi (fun y_1253 ey_1253 => ?_)
              refine lv_aload_n hx hb dX9_worth_107 rfl (lv_at hl 6 rfl) ?_
              refine lv_iload hx hb dX9_worth_108 (lv_at hl 2 rfl) ?_
              have b_1254 : bt (-2147483648) 99 y_1139 := rf_lt_l (bt_all y_1139) (bt_k (x := 100) (c := 100) (by decide)) c_1190 (by decide)
              have b_1255 : bt 0 99 y_1139 := rf_le_r (bt_k (x := 0) (c := 0) (by decide)) b_1254 (Int32.not_lt.mp c_1251) (by decide)
              have b_1256 : bt 0 9 y_1139 := rf_lt_l b_1255 (bt_k (x := 10) (c := 10) (by decide)) (Int32.not_le.mp c_1252) (by decide)
              refine va_lald hx hb hK hP 2 1 rfl rfl (bt_in b_1256 (by decide)) dX9_worth_110 ?_
              refine lv_topl (fun z_1257 ez_1257 => ?_)
              have b_1258 : bt 0 31 y_1253 := bt_andr ey_1253 (bt_k (x := 31) (c := 31) (by decide)) (by decide)
              refine va_last hx hb hK hP hD hS 3 2 rfl rfl (bt_in b_1258 (by decide)) dX9_worth_111 (fun H locs hP hD hS => ?_)
              obtain ⟨f_1259, ef_1259⟩ : ∃ f, f = vp_updL f_796 (Int32.toNatClampNeg y_1253) z_1257 := ⟨_, rfl⟩
              rw [← ef_1259] at hP hD
              have hP : va_P (dC, dI) classes [(h0, .inr (9, [.ref h0co, .int h0_steps, .int h0_asksMinute])), (h0co, .inl (kh0co, 400, .inl gh0co)), (h1, .inl (kh1, 10, .inr (.inl gh1))), (h2, .inl (kh2, 32, .inr (.inl f_1259)))] H := hP
              have hD : va_D A [(h0, .inr (9, [.ref h0co, .int h0_steps, .int h0_asksMinute])), (h0co, .inl (kh0co, 400, .inl gh0co)), (h1, .inl (kh1, 10, .inr (.inl gh1))), (h2, .inl (kh2, 32, .inr (.inl f_1259)))] := hD
              obtain ⟨y_1260, ey_1260⟩ : ∃ y : Int32, y = y_795 + 1 := ⟨_, rfl⟩
              refine lv_iinc (v := y_1260) (lv' := [(3, .int y_1260), (7, .int y_1143), (6, .int y_1141), (5, .int y_1139), (4, .int y_794), (0, .ref h0), (1, .ref h1), (2, .ref h2)]) hx hb dX9_worth_112 hl (k := 4) rfl (by rw [ey_1260]; rfl) (by decide) rfl (fun ls hl => ?_)
              refine lv_goto (tgt := 204) hx hb dX9_worth_115 (by decide) ?_
              exact hJ204 _ _ _ ⟨y_1260, f_1259, _, hP, hD, hS, (lv_sub hl [0, 4, 5, 6, 7] rfl), rfl⟩
        · refine lv_aload_n hx hb dX9_worth_72 rfl (lv_at hl 7 rfl) ?_
          refine lv_iload_n hx hb dX9_worth_73 rfl (lv_at hl 4 rfl) ?_
          refine lv_bipush (v := 31) hx hb dX9_worth_74 (by decide) ?_
          refine lv_iand hx hb dX9_worth_76 ?_
          refine lv_topi (fun y_1261 ey_1261 => ?_)
          refine lv_iload hx hb dX9_worth_77 (lv_at hl 2 rfl) ?_
          refine lv_bipush (v := 100) hx hb dX9_worth_79 (by decide) ?_
          refine lv_isub hx hb dX9_worth_81 ?_
          refine lv_topi (fun y_1262 ey_1262 => ?_)
          refine lv_i2l hx hb dX9_worth_82 rfl ?_
          refine lv_topl (fun z_1263 ez_1263 => ?_)
          have b_1264 : bt 0 31 y_1261 := bt_andr ey_1261 (bt_k (x := 31) (c := 31) (by decide)) (by decide)
          refine va_last hx hb hK hP hD hS 3 2 rfl rfl (bt_in b_1264 (by decide)) dX9_worth_83 (fun H locs hP hD hS => ?_)
          obtain ⟨f_1265, ef_1265⟩ : ∃ f, f = vp_updL f_796 (Int32.toNatClampNeg y_1261) z_1263 := ⟨_, rfl⟩
          rw [← ef_1265] at hP hD
          have hP : va_P (dC, dI) classes [(h0, .inr (9, [.ref h0co, .int h0_steps, .int h0_asksMinute])), (h0co, .inl (kh0co, 400, .inl gh0co)), (h1, .inl (kh1, 10, .inr (.inl gh1))), (h2, .inl (kh2, 32, .inr (.inl f_1265)))] H := hP
          have hD : va_D A [(h0, .inr (9, [.ref h0co, .int h0_steps, .int h0_asksMinute])), (h0co, .inl (kh0co, 400, .inl gh0co)), (h1, .inl (kh1, 10, .inr (.inl gh1))), (h2, .inl (kh2, 32, .inr (.inl f_1265)))] := hD
          obtain ⟨y_1266, ey_1266⟩ : ∃ y : Int32, y = y_795 + 1 := ⟨_, rfl⟩
          refine lv_iinc (v := y_1266) (lv' := [(3, .int y_1266), (7, .int y_1143), (6, .int y_1141), (5, .int y_1139), (4, .int y_794), (0, .ref h0), (1, .ref h1), (2, .ref h2)]) hx hb dX9_worth_84 hl (k := 4) rfl (by rw [ey_1266]; rfl) (by decide) rfl (fun ls hl => ?_)
          refine lv_goto (tgt := 204) hx hb dX9_worth_87 (by decide) ?_
          exact hJ204 _ _ _ ⟨y_1266, f_1265, _, hP, hD, hS, (lv_sub hl [0, 4, 5, 6, 7] rfl), rfl⟩
