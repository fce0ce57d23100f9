theorem qw_39 : (.selects RX12 yX12_four yX12_four : Cond) ∈ wsA := mA (i := 39) (by decide +kernel) rfl
theorem qw_40 : (.selects RX12 yX12_readsAll yX12_readsAll : Cond) ∈ wsA := mA (i := 40) (by decide +kernel) rfl
theorem qw_41 : (.selects RX12 yX12_clauseHere yX12_clauseHere : Cond) ∈ wsA := mA (i := 41) (by decide +kernel) rfl
theorem qw_42 : (.selects RX12 yX12_see yX12_see : Cond) ∈ wsA := mA (i := 42) (by decide +kernel) rfl
theorem qw_43 : (.selects RX12 yX12_isDinnerWord yX12_isDinnerWord : Cond) ∈ wsA := mA (i := 43) (by decide +kernel) rfl
theorem qw_44 : (.selects RX12 yX12_isWord yX12_isWord : Cond) ∈ wsA := mA (i := 44) (by decide +kernel) rfl
theorem qw_45 : (.selects RX12 yX12_isLetter yX12_isLetter : Cond) ∈ wsA := mA (i := 45) (by decide +kernel) rfl
theorem qw_46 : (.selects RX12 yX12_fails yX12_fails : Cond) ∈ wsA := mA (i := 46) (by decide +kernel) rfl
theorem qw_47 : (.selects RX12 yX12_dinnerLineHere yX12_dinnerLineHere : Cond) ∈ wsA := mA (i := 47) (by decide +kernel) rfl
theorem qw_48 : (.selects RX12 yX12_isDinnerHere yX12_isDinnerHere : Cond) ∈ wsA := mA (i := 48) (by decide +kernel) rfl
theorem qw_49 : (.selects RX12 yX12_passWord yX12_passWord : Cond) ∈ wsA := mA (i := 49) (by decide +kernel) rfl
theorem qw_50 : (.selects RX12 yX12_cellHere yX12_cellHere : Cond) ∈ wsA := mA (i := 50) (by decide +kernel) rfl
theorem qw_51 : (.selects RX12 yX12_numberHere yX12_numberHere : Cond) ∈ wsA := mA (i := 51) (by decide +kernel) rfl
theorem qw_52 : (.selects RX12 yX12_isDigit yX12_isDigit : Cond) ∈ wsA := mA (i := 52) (by decide +kernel) rfl
theorem qw_53 : (.selects RX12 yX12_isDishHere yX12_isDishHere : Cond) ∈ wsA := mA (i := 53) (by decide +kernel) rfl
theorem qw_54 : (.selects RX12 yX12_isGuestHere yX12_isGuestHere : Cond) ∈ wsA := mA (i := 54) (by decide +kernel) rfl
theorem qw_55 : (.selects RX12 yX12_isClashHere yX12_isClashHere : Cond) ∈ wsA := mA (i := 55) (by decide +kernel) rfl
theorem qw_56 : (.selects RX12 yX12_isEatHere yX12_isEatHere : Cond) ∈ wsA := mA (i := 56) (by decide +kernel) rfl
theorem qw_57 : (.selects RX12 yX12_sum yX12_sum : Cond) ∈ wsA := mA (i := 57) (by decide +kernel) rfl
theorem qw_58 : (.selects RX12 yX12_term yX12_term : Cond) ∈ wsA := mA (i := 58) (by decide +kernel) rfl
theorem qw_59 : (.selects RX12 yX12_value yX12_value : Cond) ∈ wsA := mA (i := 59) (by decide +kernel) rfl
theorem qw_60 : (.selects RX12 yX12_makes yX12_makes : Cond) ∈ wsA := mA (i := 60) (by decide +kernel) rfl
theorem qw_61 : (.selects RX12 yX12_puts yX12_puts : Cond) ∈ wsA := mA (i := 61) (by decide +kernel) rfl
theorem qw_62 : (.selects RX12 yX12_wordHere yX12_wordHere : Cond) ∈ wsA := mA (i := 62) (by decide +kernel) rfl
theorem qw_63 : (.selects RX12 yX12_takesWord yX12_takesWord : Cond) ∈ wsA := mA (i := 63) (by decide +kernel) rfl
theorem qw_64 : (.selects RX12 yX12_tested yX12_tested : Cond) ∈ wsA := mA (i := 64) (by decide +kernel) rfl
theorem qw_65 : (.selects RX12 yX12_fact yX12_fact : Cond) ∈ wsA := mA (i := 65) (by decide +kernel) rfl
theorem qw_66 : (.selects RX12 yX12_opens yX12_opens : Cond) ∈ wsA := mA (i := 66) (by decide +kernel) rfl
theorem qw_67 : (.selects RX12 yX12_compare yX12_compare : Cond) ∈ wsA := mA (i := 67) (by decide +kernel) rfl
theorem qw_68 : (.selects RX12 yX12_closes yX12_closes : Cond) ∈ wsA := mA (i := 68) (by decide +kernel) rfl
theorem qw_69 : (.selects RX12 yX12_layDown yX12_layDown : Cond) ∈ wsA := mA (i := 69) (by decide +kernel) rfl
theorem qw_70 : (.selects RX12 yX12_isInside yX12_isInside : Cond) ∈ wsA := mA (i := 70) (by decide +kernel) rfl
theorem qw_71 : (.selects RX12 yX12_begins yX12_begins : Cond) ∈ wsA := mA (i := 71) (by decide +kernel) rfl
theorem qw_72 : (.selects RX12 yX12_isRule yX12_isRule : Cond) ∈ wsA := mA (i := 72) (by decide +kernel) rfl
theorem qw_73 : (.selects RX12 yX12_isDish yX12_isDish : Cond) ∈ wsA := mA (i := 73) (by decide +kernel) rfl
theorem qw_74 : (.selects RX12 yX12_isGuest yX12_isGuest : Cond) ∈ wsA := mA (i := 74) (by decide +kernel) rfl
theorem qw_75 : (.selects RX12 yX12_isSecret yX12_isSecret : Cond) ∈ wsA := mA (i := 75) (by decide +kernel) rfl
theorem qw_76 : (.selects RX12 yX12_isDinner yX12_isDinner : Cond) ∈ wsA := mA (i := 76) (by decide +kernel) rfl
theorem qw_77 : (.selects RX12 yX12_dishIn yX12_dishIn : Cond) ∈ wsA := mA (i := 77) (by decide +kernel) rfl
theorem qw_78 : (.selects RX12 yX12_keepsAct yX12_keepsAct : Cond) ∈ wsA := mA (i := 78) (by decide +kernel) rfl
theorem qw_79 : (.selects RX12 yX12_passes yX12_passes : Cond) ∈ wsA := mA (i := 79) (by decide +kernel) rfl
theorem qw_80 : (.selects RX12 yX12_choice yX12_choice : Cond) ∈ wsA := mA (i := 80) (by decide +kernel) rfl
theorem qw_81 : (.selects RX12 yX12_sumOf yX12_sumOf : Cond) ∈ wsA := mA (i := 81) (by decide +kernel) rfl
theorem qw_82 : (.selects RX12 yX12_sits yX12_sits : Cond) ∈ wsA := mA (i := 82) (by decide +kernel) rfl
theorem qw_83 : (.selects RX12 yX12_knownOnes yX12_knownOnes : Cond) ∈ wsA := mA (i := 83) (by decide +kernel) rfl
theorem qw_84 : (.selects RX12 yX12_onTable yX12_onTable : Cond) ∈ wsA := mA (i := 84) (by decide +kernel) rfl
theorem qw_85 : (.selects RX12 yX12_inThroat yX12_inThroat : Cond) ∈ wsA := mA (i := 85) (by decide +kernel) rfl
theorem qw_86 : (.selects RX12 yX12_topLoud yX12_topLoud : Cond) ∈ wsA := mA (i := 86) (by decide +kernel) rfl
theorem qw_87 : (.selects RX12 yX12_sitting yX12_sitting : Cond) ∈ wsA := mA (i := 87) (by decide +kernel) rfl
theorem qw_88 : (.selects RX12 yX12_summedBy yX12_summedBy : Cond) ∈ wsA := mA (i := 88) (by decide +kernel) rfl
theorem qw_89 : (.selects RX12 yX12_reckons yX12_reckons : Cond) ∈ wsA := mA (i := 89) (by decide +kernel) rfl
theorem qw_90 : (.selects RX12 yX12_push yX12_push : Cond) ∈ wsA := mA (i := 90) (by decide +kernel) rfl
theorem qw_91 : (.selects RX12 yX12_pop yX12_pop : Cond) ∈ wsA := mA (i := 91) (by decide +kernel) rfl
theorem qw_92 : (.selects RX12 yX12_speaks yX12_speaks : Cond) ∈ wsA := mA (i := 92) (by decide +kernel) rfl
theorem qw_93 : (.selects RX12 yX12_hears yX12_hears : Cond) ∈ wsA := mA (i := 93) (by decide +kernel) rfl
theorem qw_94 : (.selects RX12 yX12_areClashing yX12_areClashing : Cond) ∈ wsA := mA (i := 94) (by decide +kernel) rfl
theorem qw_95 : (.selects RX12 yX12_swallows yX12_swallows : Cond) ∈ wsA := mA (i := 95) (by decide +kernel) rfl
theorem qw_96 : (.selects RX12 yX12_keeps yX12_keeps : Cond) ∈ wsA := mA (i := 96) (by decide +kernel) rfl
theorem qw_97 : (.selects RX12 yX12_passesAll yX12_passesAll : Cond) ∈ wsA := mA (i := 97) (by decide +kernel) rfl
theorem qw_98 : (.selects RX12 yX12_laysBack yX12_laysBack : Cond) ∈ wsA := mA (i := 98) (by decide +kernel) rfl
theorem qw_99 : (.selects RX12 yX12_isSaid yX12_isSaid : Cond) ∈ wsA := mA (i := 99) (by decide +kernel) rfl
theorem qw_100 : (.selects RX12 yX12_bestOf yX12_bestOf : Cond) ∈ wsA := mA (i := 100) (by decide +kernel) rfl
theorem qw_101 : (.selects RX12 yX12_beginsRow yX12_beginsRow : Cond) ∈ wsA := mA (i := 101) (by decide +kernel) rfl
theorem qw_102 : (.selects RX12 yX12_eatsRow yX12_eatsRow : Cond) ∈ wsA := mA (i := 102) (by decide +kernel) rfl
theorem qw_103 : (.selects RX12 yX12_eats yX12_eats : Cond) ∈ wsA := mA (i := 103) (by decide +kernel) rfl
theorem qw_104 : (.selects RX12 yX12_knownMany yX12_knownMany : Cond) ∈ wsA := mA (i := 104) (by decide +kernel) rfl
theorem qw_105 : (.selects RX12 yX12_keepsRow yX12_keepsRow : Cond) ∈ wsA := mA (i := 105) (by decide +kernel) rfl
theorem qw_106 : (.selects RX12 yX12_nextRow yX12_nextRow : Cond) ∈ wsA := mA (i := 106) (by decide +kernel) rfl
theorem qw_107 : (.selects RX12 yX12_areUnlike yX12_areUnlike : Cond) ∈ wsA := mA (i := 107) (by decide +kernel) rfl
theorem qw_108 : (.selects RX12 yX12_isRowSo yX12_isRowSo : Cond) ∈ wsA := mA (i := 108) (by decide +kernel) rfl
theorem qw_109 : (.selects RX12 yX12_areNotesSo yX12_areNotesSo : Cond) ∈ wsA := mA (i := 109) (by decide +kernel) rfl
theorem qw_110 : (.selects RX12 yX12_weighsOut yX12_weighsOut : Cond) ∈ wsA := mA (i := 110) (by decide +kernel) rfl
theorem qw_111 : (.selects RX12 yX12_fillsRests yX12_fillsRests : Cond) ∈ wsA := mA (i := 111) (by decide +kernel) rfl
theorem qw_112 : (.selects RX12 yX12_hasThen yX12_hasThen : Cond) ∈ wsA := mA (i := 112) (by decide +kernel) rfl
theorem qw_113 : (.selects RX12 yX12_isRest yX12_isRest : Cond) ∈ wsA := mA (i := 113) (by decide +kernel) rfl
theorem qw_114 : (.selects RX12 yX12_fillsFits yX12_fillsFits : Cond) ∈ wsA := mA (i := 114) (by decide +kernel) rfl
theorem qw_115 : (.selects RX12 yX12_alikeAt yX12_alikeAt : Cond) ∈ wsA := mA (i := 115) (by decide +kernel) rfl
theorem qw_116 : (.selects RX12 yX12_draw yX12_draw : Cond) ∈ wsA := mA (i := 116) (by decide +kernel) rfl
theorem qw_117 : (.selects RX12 yX12_comesUp yX12_comesUp : Cond) ∈ wsA := mA (i := 117) (by decide +kernel) rfl
theorem qw_131 : (.initialized RX12 : Cond) ∈ wsA := mA (i := 131) (by decide +kernel) rfl
theorem qw_1157 : (.instanceMethod yX12_init : Cond) ∈ wsA := mA (i := 1157) (by decide +kernel) rfl
theorem qw_1158 : (.code yX12_init cX12_init 1 none : Cond) ∈ wsA := mA (i := 1158) (by decide +kernel) rfl
theorem qw_1159 : (.methodLink RX12 1 objectInit : Cond) ∈ wsA := mA (i := 1159) (by decide +kernel) rfl
theorem qw_1160 : (.fieldLink RX12 7 "SpokenBiteModel" "tape" "[B" : Cond) ∈ wsA := mA (i := 1160) (by decide +kernel) rfl
theorem qw_1161 : (.fieldLink RX12 80 "SpokenBiteModel" "taped" "I" : Cond) ∈ wsA := mA (i := 1161) (by decide +kernel) rfl
theorem qw_1162 : (.fieldLink RX12 253 "SpokenBiteModel" "rules" "I" : Cond) ∈ wsA := mA (i := 1162) (by decide +kernel) rfl
theorem qw_1163 : (.fieldLink RX12 13 "SpokenBiteModel" "sign" "[I" : Cond) ∈ wsA := mA (i := 1163) (by decide +kernel) rfl
theorem qw_1164 : (.fieldLink RX12 17 "SpokenBiteModel" "length" "[I" : Cond) ∈ wsA := mA (i := 1164) (by decide +kernel) rfl
theorem qw_1165 : (.fieldLink RX12 20 "SpokenBiteModel" "clause" "[I" : Cond) ∈ wsA := mA (i := 1165) (by decide +kernel) rfl
theorem qw_1166 : (.fieldLink RX12 23 "SpokenBiteModel" "clauses" "[I" : Cond) ∈ wsA := mA (i := 1166) (by decide +kernel) rfl
theorem qw_1167 : (.fieldLink RX12 26 "SpokenBiteModel" "read" "[I" : Cond) ∈ wsA := mA (i := 1167) (by decide +kernel) rfl
theorem qw_1168 : (.fieldLink RX12 90 "SpokenBiteModel" "next" "I" : Cond) ∈ wsA := mA (i := 1168) (by decide +kernel) rfl
theorem qw_1169 : (.fieldLink RX12 87 "SpokenBiteModel" "wrong" "I" : Cond) ∈ wsA := mA (i := 1169) (by decide +kernel) rfl
theorem qw_1170 : (.fieldLink RX12 115 "SpokenBiteModel" "numbe\x72" "I" : Cond) ∈ wsA := mA (i := 1170) (by decide +kernel) rfl
theorem qw_1171 : (.fieldLink RX12 142 "SpokenBiteModel" "text" "I" : Cond) ∈ wsA := mA (i := 1171) (by decide +kernel) rfl
theorem qw_1172 : (.fieldLink RX12 145 "SpokenBiteModel" "made" "I" : Cond) ∈ wsA := mA (i := 1172) (by decide +kernel) rfl
theorem qw_1173 : (.fieldLink RX12 148 "SpokenBiteModel" "deep" "I" : Cond) ∈ wsA := mA (i := 1173) (by decide +kernel) rfl
theorem qw_1174 : (.fieldLink RX12 241 "SpokenBiteModel" "lines" "I" : Cond) ∈ wsA := mA (i := 1174) (by decide +kernel) rfl
theorem qw_1175 : (.fieldLink RX12 29 "SpokenBiteModel" "open" "[I" : Cond) ∈ wsA := mA (i := 1175) (by decide +kernel) rfl
theorem qw_1176 : (.fieldLink RX12 151 "SpokenBiteModel" "opened" "I" : Cond) ∈ wsA := mA (i := 1176) (by decide +kernel) rfl
theorem qw_1177 : (.fieldLink RX12 32 "SpokenBiteModel" "stack" "[J" : Cond) ∈ wsA := mA (i := 1177) (by decide +kernel) rfl
theorem qw_1178 : (.fieldLink RX12 265 "SpokenBiteModel" "top" "I" : Cond) ∈ wsA := mA (i := 1178) (by decide +kernel) rfl
theorem qw_1179 : (.fieldLink RX12 36 "SpokenBiteModel" "word" "[J" : Cond) ∈ wsA := mA (i := 1179) (by decide +kernel) rfl
theorem qw_1180 : (.fieldLink RX12 39 "SpokenBiteModel" "told" "[I" : Cond) ∈ wsA := mA (i := 1180) (by decide +kernel) rfl
theorem qw_1181 : (.fieldLink RX12 42 "SpokenBiteModel" "force" "I" : Cond) ∈ wsA := mA (i := 1181) (by decide +kernel) rfl
theorem qw_1182 : (.fieldLink RX12 456 "SpokenBiteModel" "x" "I" : Cond) ∈ wsA := mA (i := 1182) (by decide +kernel) rfl
theorem qw_1183 : (.fieldLink RX12 348 "SpokenBiteModel" "planned" "I" : Cond) ∈ wsA := mA (i := 1183) (by decide +kernel) rfl
theorem qw_1184 : (.fieldLink RX12 344 "SpokenBiteModel" "isPlanned" "Z" : Cond) ∈ wsA := mA (i := 1184) (by decide +kernel) rfl
theorem qw_1185 : (.fieldLink RX12 338 "SpokenBiteModel" "sounds" "I" : Cond) ∈ wsA := mA (i := 1185) (by decide +kernel) rfl
theorem qw_1186 : (.fieldLink RX12 341 "SpokenBiteModel" "spoken" "I" : Cond) ∈ wsA := mA (i := 1186) (by decide +kernel) rfl
theorem qw_1187 : (.fieldLink RX12 46 "SpokenBiteModel" "wasTold" "[I" : Cond) ∈ wsA := mA (i := 1187) (by decide +kernel) rfl
theorem qw_1188 : (.fieldLink RX12 262 "SpokenBiteModel" "undone" "I" : Cond) ∈ wsA := mA (i := 1188) (by decide +kernel) rfl
theorem qw_1189 : (.fieldLink RX12 49 "SpokenBiteModel" "kept" "[I" : Cond) ∈ wsA := mA (i := 1189) (by decide +kernel) rfl
theorem qw_1190 : (.fieldLink RX12 52 "SpokenBiteModel" "row" "[I" : Cond) ∈ wsA := mA (i := 1190) (by decide +kernel) rfl
theorem qw_1191 : (.fieldLink RX12 55 "SpokenBiteModel" "bestRowSoFa\x72" "[I" : Cond) ∈ wsA := mA (i := 1191) (by decide +kernel) rfl
theorem qw_1192 : (.fieldLink RX12 420 "SpokenBiteModel" "bestSits" "I" : Cond) ∈ wsA := mA (i := 1192) (by decide +kernel) rfl
theorem qw_1193 : (.fieldLink RX12 423 "SpokenBiteModel" "bestKnown" "I" : Cond) ∈ wsA := mA (i := 1193) (by decide +kernel) rfl
theorem qw_1194 : (.fieldLink RX12 426 "SpokenBiteModel" "bestOut" "I" : Cond) ∈ wsA := mA (i := 1194) (by decide +kernel) rfl
theorem qw_1195 : (.fieldLink RX12 58 "SpokenBiteModel" "hasBy" "[I" : Cond) ∈ wsA := mA (i := 1195) (by decide +kernel) rfl
theorem qw_1196 : (.fieldLink RX12 61 "SpokenBiteModel" "isFit" "[Z" : Cond) ∈ wsA := mA (i := 1196) (by decide +kernel) rfl
theorem qw_1197 : (.fieldLink RX12 65 "SpokenBiteModel" "knowThen" "[I" : Cond) ∈ wsA := mA (i := 1197) (by decide +kernel) rfl
theorem qw_1198 : (.fieldLink RX12 459 "SpokenBiteModel" "drawX" "J" : Cond) ∈ wsA := mA (i := 1198) (by decide +kernel) rfl
theorem qw_1199 : (.fieldLink RX12 68 "SpokenBiteModel" "images" "[I" : Cond) ∈ wsA := mA (i := 1199) (by decide +kernel) rfl
theorem qw_1200 : (.fieldLink RX12 71 "SpokenBiteModel" "imageForce" "[I" : Cond) ∈ wsA := mA (i := 1200) (by decide +kernel) rfl
theorem qw_1201 : (.fieldLink RX12 74 "SpokenBiteModel" "imageX" "[I" : Cond) ∈ wsA := mA (i := 1201) (by decide +kernel) rfl
theorem qw_1202 : (.fieldLink RX12 77 "SpokenBiteModel" "isMade" "[Z" : Cond) ∈ wsA := mA (i := 1202) (by decide +kernel) rfl
theorem qw_1292 : (.instanceMethod yX12_feed : Cond) ∈ wsA := mA (i := 1292) (by decide +kernel) rfl
theorem qw_1293 : (.selects RX12 yX12_feed yX12_feed : Cond) ∈ wsA := mA (i := 1293) (by decide +kernel) rfl
theorem qw_1294 : (.code yX12_feed cX12_feed 6 (some .int) : Cond) ∈ wsA := mA (i := 1294) (by decide +kernel) rfl
theorem qw_1295 : (.methodLink RX12 83 yX12_four : Cond) ∈ wsA := mA (i := 1295) (by decide +kernel) rfl
theorem qw_1297 : (.instanceMethod yX12_four : Cond) ∈ wsA := mA (i := 1297) (by decide +kernel) rfl
theorem qw_1298 : (.code yX12_four cX12_four 3 none : Cond) ∈ wsA := mA (i := 1298) (by decide +kernel) rfl
theorem qw_1300 : (.instanceMethod yX12_end : Cond) ∈ wsA := mA (i := 1300) (by decide +kernel) rfl
theorem qw_1301 : (.selects RX12 yX12_end yX12_end : Cond) ∈ wsA := mA (i := 1301) (by decide +kernel) rfl
theorem qw_1302 : (.code yX12_end cX12_end 2 (some .int) : Cond) ∈ wsA := mA (i := 1302) (by decide +kernel) rfl
theorem qw_1304 : (.instanceMethod yX12_rule : Cond) ∈ wsA := mA (i := 1304) (by decide +kernel) rfl
theorem qw_1305 : (.selects RX12 yX12_rule yX12_rule : Cond) ∈ wsA := mA (i := 1305) (by decide +kernel) rfl
theorem qw_1306 : (.code yX12_rule cX12_rule 1 (some .int) : Cond) ∈ wsA := mA (i := 1306) (by decide +kernel) rfl
theorem qw_1307 : (.methodLink RX12 256 yX12_readsAll : Cond) ∈ wsA := mA (i := 1307) (by decide +kernel) rfl
theorem qw_1309 : (.instanceMethod yX12_readsAll : Cond) ∈ wsA := mA (i := 1309) (by decide +kernel) rfl
theorem qw_1310 : (.code yX12_readsAll cX12_readsAll 2 (some .boolean) : Cond) ∈ wsA := mA (i := 1310) (by decide +kernel) rfl
theorem qw_1311 : (.methodLink RX12 250 yX12_clauseHere : Cond) ∈ wsA := mA (i := 1311) (by decide +kernel) rfl
theorem qw_1313 : (.instanceMethod yX12_clauseHere : Cond) ∈ wsA := mA (i := 1313) (by decide +kernel) rfl
theorem qw_1314 : (.code yX12_clauseHere cX12_clauseHere 3 (some .boolean) : Cond) ∈ wsA := mA (i := 1314) (by decide +kernel) rfl
theorem qw_1315 : (.methodLink RX12 93 yX12_see : Cond) ∈ wsA := mA (i := 1315) (by decide +kernel) rfl
theorem qw_1317 : (.instanceMethod yX12_see : Cond) ∈ wsA := mA (i := 1317) (by decide +kernel) rfl
theorem qw_1318 : (.code yX12_see cX12_see 1 (some .int) : Cond) ∈ wsA := mA (i := 1318) (by decide +kernel) rfl
theorem qw_1319 : (.methodLink RX12 236 yX12_isDinnerWord : Cond) ∈ wsA := mA (i := 1319) (by decide +kernel) rfl
theorem qw_1321 : (.instanceMethod yX12_isDinnerWord : Cond) ∈ wsA := mA (i := 1321) (by decide +kernel) rfl
theorem qw_1322 : (.code yX12_isDinnerWord cX12_isDinnerWord 1 (some .boolean) : Cond) ∈ wsA := mA (i := 1322) (by decide +kernel) rfl
theorem qw_1323 : (.constantLong RX12 218 (110403987072370) : Cond) ∈ wsA := mA (i := 1323) (by decide +kernel) rfl
theorem qw_1324 : (.methodLink RX12 101 yX12_isWord : Cond) ∈ wsA := mA (i := 1324) (by decide +kernel) rfl
theorem qw_1326 : (.instanceMethod yX12_isWord : Cond) ∈ wsA := mA (i := 1326) (by decide +kernel) rfl
theorem qw_1327 : (.code yX12_isWord cX12_isWord 6 (some .boolean) : Cond) ∈ wsA := mA (i := 1327) (by decide +kernel) rfl
theorem qw_1328 : (.methodLink RX12 97 yX12_isLetter : Cond) ∈ wsA := mA (i := 1328) (by decide +kernel) rfl
theorem qw_1330 : (.instanceMethod yX12_isLetter : Cond) ∈ wsA := mA (i := 1330) (by decide +kernel) rfl
theorem qw_1331 : (.code yX12_isLetter cX12_isLetter 2 (some .boolean) : Cond) ∈ wsA := mA (i := 1331) (by decide +kernel) rfl
theorem qw_1332 : (.constantLong RX12 122 (1684632424) : Cond) ∈ wsA := mA (i := 1332) (by decide +kernel) rfl
theorem qw_1333 : (.constantLong RX12 226 (444351214452) : Cond) ∈ wsA := mA (i := 1333) (by decide +kernel) rfl
theorem qw_1334 : (.constantLong RX12 234 (427020088168) : Cond) ∈ wsA := mA (i := 1334) (by decide +kernel) rfl
theorem qw_1335 : (.constantLong RX12 239 (6644084) : Cond) ∈ wsA := mA (i := 1335) (by decide +kernel) rfl
theorem qw_1336 : (.methodLink RX12 111 yX12_fails : Cond) ∈ wsA := mA (i := 1336) (by decide +kernel) rfl
theorem qw_1338 : (.instanceMethod yX12_fails : Cond) ∈ wsA := mA (i := 1338) (by decide +kernel) rfl
theorem qw_1339 : (.code yX12_fails cX12_fails 3 (some .boolean) : Cond) ∈ wsA := mA (i := 1339) (by decide +kernel) rfl
theorem qw_1340 : (.methodLink RX12 244 yX12_dinnerLineHere : Cond) ∈ wsA := mA (i := 1340) (by decide +kernel) rfl
theorem qw_1342 : (.instanceMethod yX12_dinnerLineHere : Cond) ∈ wsA := mA (i := 1342) (by decide +kernel) rfl
theorem qw_1343 : (.code yX12_dinnerLineHere cX12_dinnerLineHere 2 (some .boolean) : Cond) ∈ wsA := mA (i := 1343) (by decide +kernel) rfl
theorem qw_1344 : (.methodLink RX12 220 yX12_isDinnerHere : Cond) ∈ wsA := mA (i := 1344) (by decide +kernel) rfl
theorem qw_1346 : (.instanceMethod yX12_isDinnerHere : Cond) ∈ wsA := mA (i := 1346) (by decide +kernel) rfl
theorem qw_1347 : (.code yX12_isDinnerHere cX12_isDinnerHere 2 (some .boolean) : Cond) ∈ wsA := mA (i := 1347) (by decide +kernel) rfl
theorem qw_1348 : (.methodLink RX12 105 yX12_passWord : Cond) ∈ wsA := mA (i := 1348) (by decide +kernel) rfl
theorem qw_1350 : (.instanceMethod yX12_passWord : Cond) ∈ wsA := mA (i := 1350) (by decide +kernel) rfl
theorem qw_1351 : (.code yX12_passWord cX12_passWord 1 none : Cond) ∈ wsA := mA (i := 1351) (by decide +kernel) rfl
theorem qw_1352 : (.methodLink RX12 214 yX12_cellHere : Cond) ∈ wsA := mA (i := 1352) (by decide +kernel) rfl
theorem qw_1354 : (.instanceMethod yX12_cellHere : Cond) ∈ wsA := mA (i := 1354) (by decide +kernel) rfl
theorem qw_1355 : (.code yX12_cellHere cX12_cellHere 4 (some .boolean) : Cond) ∈ wsA := mA (i := 1355) (by decide +kernel) rfl
theorem qw_1356 : (.methodLink RX12 163 yX12_numberHere : Cond) ∈ wsA := mA (i := 1356) (by decide +kernel) rfl
theorem qw_1358 : (.instanceMethod yX12_numberHere : Cond) ∈ wsA := mA (i := 1358) (by decide +kernel) rfl
theorem qw_1359 : (.code yX12_numberHere cX12_numberHere 5 (some .boolean) : Cond) ∈ wsA := mA (i := 1359) (by decide +kernel) rfl
theorem qw_1360 : (.methodLink RX12 108 yX12_isDigit : Cond) ∈ wsA := mA (i := 1360) (by decide +kernel) rfl
theorem qw_1362 : (.instanceMethod yX12_isDigit : Cond) ∈ wsA := mA (i := 1362) (by decide +kernel) rfl
theorem qw_1363 : (.code yX12_isDigit cX12_isDigit 2 (some .boolean) : Cond) ∈ wsA := mA (i := 1363) (by decide +kernel) rfl
theorem qw_1364 : (.methodLink RX12 118 yX12_in : Cond) ∈ wsA := mA (i := 1364) (by decide +kernel) rfl
theorem qw_1365 : (.static yX12_in : Cond) ∈ wsA := mA (i := 1365) (by decide +kernel) rfl
theorem qw_1366 : (.code yX12_in cX12_in 6 (some .boolean) : Cond) ∈ wsA := mA (i := 1366) (by decide +kernel) rfl
theorem qw_1367 : (.methodLink RX12 223 yX12_isDishHere : Cond) ∈ wsA := mA (i := 1367) (by decide +kernel) rfl
theorem qw_1369 : (.instanceMethod yX12_isDishHere : Cond) ∈ wsA := mA (i := 1369) (by decide +kernel) rfl
theorem qw_1370 : (.code yX12_isDishHere cX12_isDishHere 2 (some .boolean) : Cond) ∈ wsA := mA (i := 1370) (by decide +kernel) rfl
theorem qw_1371 : (.methodLink RX12 228 yX12_isGuestHere : Cond) ∈ wsA := mA (i := 1371) (by decide +kernel) rfl
theorem qw_1373 : (.instanceMethod yX12_isGuestHere : Cond) ∈ wsA := mA (i := 1373) (by decide +kernel) rfl
theorem qw_1374 : (.code yX12_isGuestHere cX12_isGuestHere 2 (some .boolean) : Cond) ∈ wsA := mA (i := 1374) (by decide +kernel) rfl
theorem qw_1375 : (.methodLink RX12 231 yX12_isClashHere : Cond) ∈ wsA := mA (i := 1375) (by decide +kernel) rfl
theorem qw_1377 : (.instanceMethod yX12_isClashHere : Cond) ∈ wsA := mA (i := 1377) (by decide +kernel) rfl
theorem qw_1378 : (.code yX12_isClashHere cX12_isClashHere 3 (some .boolean) : Cond) ∈ wsA := mA (i := 1378) (by decide +kernel) rfl
theorem qw_1379 : (.methodLink RX12 247 yX12_isEatHere : Cond) ∈ wsA := mA (i := 1379) (by decide +kernel) rfl
theorem qw_1381 : (.instanceMethod yX12_isEatHere : Cond) ∈ wsA := mA (i := 1381) (by decide +kernel) rfl
theorem qw_1382 : (.code yX12_isEatHere cX12_isEatHere 2 (some .boolean) : Cond) ∈ wsA := mA (i := 1382) (by decide +kernel) rfl
theorem qw_1383 : (.methodLink RX12 179 yX12_sum : Cond) ∈ wsA := mA (i := 1383) (by decide +kernel) rfl
theorem qw_1385 : (.instanceMethod yX12_sum : Cond) ∈ wsA := mA (i := 1385) (by decide +kernel) rfl
theorem qw_1386 : (.code yX12_sum cX12_sum 2 (some .boolean) : Cond) ∈ wsA := mA (i := 1386) (by decide +kernel) rfl
theorem qw_1387 : (.methodLink RX12 176 yX12_term : Cond) ∈ wsA := mA (i := 1387) (by decide +kernel) rfl
theorem qw_1389 : (.instanceMethod yX12_term : Cond) ∈ wsA := mA (i := 1389) (by decide +kernel) rfl
theorem qw_1390 : (.code yX12_term cX12_term 2 (some .boolean) : Cond) ∈ wsA := mA (i := 1390) (by decide +kernel) rfl
theorem qw_1391 : (.methodLink RX12 172 yX12_value : Cond) ∈ wsA := mA (i := 1391) (by decide +kernel) rfl
theorem qw_1393 : (.instanceMethod yX12_value : Cond) ∈ wsA := mA (i := 1393) (by decide +kernel) rfl
theorem qw_1394 : (.code yX12_value cX12_value 3 (some .boolean) : Cond) ∈ wsA := mA (i := 1394) (by decide +kernel) rfl
theorem qw_1395 : (.constant RX12 162 (99999) : Cond) ∈ wsA := mA (i := 1395) (by decide +kernel) rfl
theorem qw_1396 : (.methodLink RX12 166 yX12_makes : Cond) ∈ wsA := mA (i := 1396) (by decide +kernel) rfl
theorem qw_1398 : (.instanceMethod yX12_makes : Cond) ∈ wsA := mA (i := 1398) (by decide +kernel) rfl
theorem qw_1399 : (.code yX12_makes cX12_makes 2 (some .boolean) : Cond) ∈ wsA := mA (i := 1399) (by decide +kernel) rfl
theorem qw_1400 : (.methodLink RX12 158 yX12_puts : Cond) ∈ wsA := mA (i := 1400) (by decide +kernel) rfl
theorem qw_1402 : (.instanceMethod yX12_puts : Cond) ∈ wsA := mA (i := 1402) (by decide +kernel) rfl
theorem qw_1403 : (.code yX12_puts cX12_puts 3 none : Cond) ∈ wsA := mA (i := 1403) (by decide +kernel) rfl
theorem qw_1404 : (.methodLink RX12 169 yX12_wordHere : Cond) ∈ wsA := mA (i := 1404) (by decide +kernel) rfl
theorem qw_1406 : (.instanceMethod yX12_wordHere : Cond) ∈ wsA := mA (i := 1406) (by decide +kernel) rfl
theorem qw_1407 : (.code yX12_wordHere cX12_wordHere 1 (some .int) : Cond) ∈ wsA := mA (i := 1407) (by decide +kernel) rfl
theorem qw_1408 : (.constantLong RX12 124 (1819243876) : Cond) ∈ wsA := mA (i := 1408) (by decide +kernel) rfl
theorem qw_1409 : (.constantLong RX12 126 (1935767923) : Cond) ∈ wsA := mA (i := 1409) (by decide +kernel) rfl
theorem qw_1410 : (.constantLong RX12 128 (461414299502) : Cond) ∈ wsA := mA (i := 1410) (by decide +kernel) rfl
theorem qw_1411 : (.constantLong RX12 130 (27985188498204019) : Cond) ∈ wsA := mA (i := 1411) (by decide +kernel) rfl
theorem qw_1412 : (.constantLong RX12 132 (1818584692) : Cond) ∈ wsA := mA (i := 1412) (by decide +kernel) rfl
theorem qw_1413 : (.constantLong RX12 134 (127991945322868) : Cond) ∈ wsA := mA (i := 1413) (by decide +kernel) rfl
theorem qw_1414 : (.constantLong RX12 136 (7630704) : Cond) ∈ wsA := mA (i := 1414) (by decide +kernel) rfl
theorem qw_1415 : (.constantLong RX12 138 (32485571211914855) : Cond) ∈ wsA := mA (i := 1415) (by decide +kernel) rfl
theorem qw_1416 : (.constantLong RX12 140 (120299592184933) : Cond) ∈ wsA := mA (i := 1416) (by decide +kernel) rfl
theorem qw_1417 : (.constantLong RX12 206 (26982) : Cond) ∈ wsA := mA (i := 1417) (by decide +kernel) rfl
theorem qw_1418 : (.methodLink RX12 208 yX12_takesWord : Cond) ∈ wsA := mA (i := 1418) (by decide +kernel) rfl
theorem qw_1420 : (.instanceMethod yX12_takesWord : Cond) ∈ wsA := mA (i := 1420) (by decide +kernel) rfl
theorem qw_1421 : (.code yX12_takesWord cX12_takesWord 3 (some .boolean) : Cond) ∈ wsA := mA (i := 1421) (by decide +kernel) rfl
theorem qw_1422 : (.methodLink RX12 211 yX12_tested : Cond) ∈ wsA := mA (i := 1422) (by decide +kernel) rfl
theorem qw_1424 : (.instanceMethod yX12_tested : Cond) ∈ wsA := mA (i := 1424) (by decide +kernel) rfl
theorem qw_1425 : (.code yX12_tested cX12_tested 3 (some .boolean) : Cond) ∈ wsA := mA (i := 1425) (by decide +kernel) rfl
theorem qw_1426 : (.methodLink RX12 196 yX12_fact : Cond) ∈ wsA := mA (i := 1426) (by decide +kernel) rfl
theorem qw_1428 : (.instanceMethod yX12_fact : Cond) ∈ wsA := mA (i := 1428) (by decide +kernel) rfl
theorem qw_1429 : (.code yX12_fact cX12_fact 3 (some .boolean) : Cond) ∈ wsA := mA (i := 1429) (by decide +kernel) rfl
theorem qw_1430 : (.constantLong RX12 182 (7237492) : Cond) ∈ wsA := mA (i := 1430) (by decide +kernel) rfl
theorem qw_1431 : (.methodLink RX12 184 yX12_opens : Cond) ∈ wsA := mA (i := 1431) (by decide +kernel) rfl
theorem qw_1433 : (.instanceMethod yX12_opens : Cond) ∈ wsA := mA (i := 1433) (by decide +kernel) rfl
theorem qw_1434 : (.code yX12_opens cX12_opens 2 (some .boolean) : Cond) ∈ wsA := mA (i := 1434) (by decide +kernel) rfl
theorem qw_1435 : (.methodLink RX12 187 yX12_compare : Cond) ∈ wsA := mA (i := 1435) (by decide +kernel) rfl
theorem qw_1437 : (.instanceMethod yX12_compare : Cond) ∈ wsA := mA (i := 1437) (by decide +kernel) rfl
theorem qw_1438 : (.code yX12_compare cX12_compare 5 (some .boolean) : Cond) ∈ wsA := mA (i := 1438) (by decide +kernel) rfl
theorem qw_1439 : (.methodLink RX12 199 yX12_closes : Cond) ∈ wsA := mA (i := 1439) (by decide +kernel) rfl
theorem qw_1441 : (.instanceMethod yX12_closes : Cond) ∈ wsA := mA (i := 1441) (by decide +kernel) rfl
theorem qw_1442 : (.code yX12_closes cX12_closes 1 none : Cond) ∈ wsA := mA (i := 1442) (by decide +kernel) rfl
theorem qw_1443 : (.methodLink RX12 190 yX12_layDown : Cond) ∈ wsA := mA (i := 1443) (by decide +kernel) rfl
theorem qw_1445 : (.instanceMethod yX12_layDown : Cond) ∈ wsA := mA (i := 1445) (by decide +kernel) rfl
theorem qw_1446 : (.code yX12_layDown cX12_layDown 2 none : Cond) ∈ wsA := mA (i := 1446) (by decide +kernel) rfl
theorem qw_1447 : (.methodLink RX12 154 yX12_strength : Cond) ∈ wsA := mA (i := 1447) (by decide +kernel) rfl
theorem qw_1448 : (.static yX12_strength : Cond) ∈ wsA := mA (i := 1448) (by decide +kernel) rfl
theorem qw_1449 : (.code yX12_strength cX12_strength 1 (some .int) : Cond) ∈ wsA := mA (i := 1449) (by decide +kernel) rfl
theorem qw_1450 : (.methodLink RX12 193 yX12_isInside : Cond) ∈ wsA := mA (i := 1450) (by decide +kernel) rfl
theorem qw_1452 : (.instanceMethod yX12_isInside : Cond) ∈ wsA := mA (i := 1452) (by decide +kernel) rfl
theorem qw_1453 : (.code yX12_isInside cX12_isInside 2 (some .boolean) : Cond) ∈ wsA := mA (i := 1453) (by decide +kernel) rfl
theorem qw_1454 : (.constantLong RX12 202 (6385252) : Cond) ∈ wsA := mA (i := 1454) (by decide +kernel) rfl
theorem qw_1455 : (.constantLong RX12 204 (28530) : Cond) ∈ wsA := mA (i := 1455) (by decide +kernel) rfl
theorem qw_1457 : (.instanceMethod yX12_dinner : Cond) ∈ wsA := mA (i := 1457) (by decide +kernel) rfl
theorem qw_1458 : (.selects RX12 yX12_dinner yX12_dinner : Cond) ∈ wsA := mA (i := 1458) (by decide +kernel) rfl
theorem qw_1459 : (.code yX12_dinner cX12_dinner 2 (some .int) : Cond) ∈ wsA := mA (i := 1459) (by decide +kernel) rfl
theorem qw_1460 : (.methodLink RX12 259 yX12_begins : Cond) ∈ wsA := mA (i := 1460) (by decide +kernel) rfl
theorem qw_1462 : (.instanceMethod yX12_begins : Cond) ∈ wsA := mA (i := 1462) (by decide +kernel) rfl
theorem qw_1463 : (.code yX12_begins cX12_begins 2 none : Cond) ∈ wsA := mA (i := 1463) (by decide +kernel) rfl
theorem qw_1465 : (.instanceMethod yX12_force : Cond) ∈ wsA := mA (i := 1465) (by decide +kernel) rfl
theorem qw_1466 : (.selects RX12 yX12_force yX12_force : Cond) ∈ wsA := mA (i := 1466) (by decide +kernel) rfl
theorem qw_1467 : (.code yX12_force cX12_force 3 (some .int) : Cond) ∈ wsA := mA (i := 1467) (by decide +kernel) rfl
theorem qw_1468 : (.methodLink RX12 294 yX12_isRule : Cond) ∈ wsA := mA (i := 1468) (by decide +kernel) rfl
theorem qw_1470 : (.instanceMethod yX12_isRule : Cond) ∈ wsA := mA (i := 1470) (by decide +kernel) rfl
theorem qw_1471 : (.code yX12_isRule cX12_isRule 2 (some .boolean) : Cond) ∈ wsA := mA (i := 1471) (by decide +kernel) rfl
theorem qw_1473 : (.instanceMethod yX12_dish : Cond) ∈ wsA := mA (i := 1473) (by decide +kernel) rfl
theorem qw_1474 : (.selects RX12 yX12_dish yX12_dish : Cond) ∈ wsA := mA (i := 1474) (by decide +kernel) rfl
theorem qw_1475 : (.code yX12_dish cX12_dish 3 (some .int) : Cond) ∈ wsA := mA (i := 1475) (by decide +kernel) rfl
theorem qw_1476 : (.methodLink RX12 297 yX12_isDish : Cond) ∈ wsA := mA (i := 1476) (by decide +kernel) rfl
theorem qw_1478 : (.instanceMethod yX12_isDish : Cond) ∈ wsA := mA (i := 1478) (by decide +kernel) rfl
theorem qw_1479 : (.code yX12_isDish cX12_isDish 2 (some .boolean) : Cond) ∈ wsA := mA (i := 1479) (by decide +kernel) rfl
theorem qw_1480 : (.constantLong RX12 300 (2) : Cond) ∈ wsA := mA (i := 1480) (by decide +kernel) rfl
theorem qw_1482 : (.instanceMethod yX12_guest : Cond) ∈ wsA := mA (i := 1482) (by decide +kernel) rfl
theorem qw_1483 : (.selects RX12 yX12_guest yX12_guest : Cond) ∈ wsA := mA (i := 1483) (by decide +kernel) rfl
theorem qw_1484 : (.code yX12_guest cX12_guest 3 (some .int) : Cond) ∈ wsA := mA (i := 1484) (by decide +kernel) rfl
theorem qw_1485 : (.methodLink RX12 302 yX12_isGuest : Cond) ∈ wsA := mA (i := 1485) (by decide +kernel) rfl
theorem qw_1487 : (.instanceMethod yX12_isGuest : Cond) ∈ wsA := mA (i := 1487) (by decide +kernel) rfl
theorem qw_1488 : (.code yX12_isGuest cX12_isGuest 2 (some .boolean) : Cond) ∈ wsA := mA (i := 1488) (by decide +kernel) rfl
theorem qw_1490 : (.instanceMethod yX12_clashes : Cond) ∈ wsA := mA (i := 1490) (by decide +kernel) rfl
theorem qw_1491 : (.selects RX12 yX12_clashes yX12_clashes : Cond) ∈ wsA := mA (i := 1491) (by decide +kernel) rfl
theorem qw_1492 : (.code yX12_clashes cX12_clashes 2 (some .int) : Cond) ∈ wsA := mA (i := 1492) (by decide +kernel) rfl
theorem qw_1493 : (.methodLink RX12 305 yX12_isSecret : Cond) ∈ wsA := mA (i := 1493) (by decide +kernel) rfl
theorem qw_1495 : (.instanceMethod yX12_isSecret : Cond) ∈ wsA := mA (i := 1495) (by decide +kernel) rfl
theorem qw_1496 : (.code yX12_isSecret cX12_isSecret 2 (some .boolean) : Cond) ∈ wsA := mA (i := 1496) (by decide +kernel) rfl
theorem qw_1497 : (.methodLink RX12 280 yX12_isDinner : Cond) ∈ wsA := mA (i := 1497) (by decide +kernel) rfl
theorem qw_1499 : (.instanceMethod yX12_isDinner : Cond) ∈ wsA := mA (i := 1499) (by decide +kernel) rfl
theorem qw_1500 : (.code yX12_isDinner cX12_isDinner 1 (some .boolean) : Cond) ∈ wsA := mA (i := 1500) (by decide +kernel) rfl
theorem qw_1501 : (.constantLong RX12 283 (7) : Cond) ∈ wsA := mA (i := 1501) (by decide +kernel) rfl
theorem qw_1503 : (.instanceMethod yX12_throat : Cond) ∈ wsA := mA (i := 1503) (by decide +kernel) rfl
theorem qw_1504 : (.selects RX12 yX12_throat yX12_throat : Cond) ∈ wsA := mA (i := 1504) (by decide +kernel) rfl
theorem qw_1505 : (.code yX12_throat cX12_throat 2 (some .int) : Cond) ∈ wsA := mA (i := 1505) (by decide +kernel) rfl
theorem qw_1506 : (.methodLink RX12 308 yX12_dishIn : Cond) ∈ wsA := mA (i := 1506) (by decide +kernel) rfl
theorem qw_1508 : (.instanceMethod yX12_dishIn : Cond) ∈ wsA := mA (i := 1508) (by decide +kernel) rfl
theorem qw_1509 : (.code yX12_dishIn cX12_dishIn 3 (some .int) : Cond) ∈ wsA := mA (i := 1509) (by decide +kernel) rfl
theorem qw_1511 : (.instanceMethod yX12_undo : Cond) ∈ wsA := mA (i := 1511) (by decide +kernel) rfl
theorem qw_1512 : (.selects RX12 yX12_undo yX12_undo : Cond) ∈ wsA := mA (i := 1512) (by decide +kernel) rfl
theorem qw_1513 : (.code yX12_undo cX12_undo 2 (some .int) : Cond) ∈ wsA := mA (i := 1513) (by decide +kernel) rfl
theorem qw_1515 : (.instanceMethod yX12_minute : Cond) ∈ wsA := mA (i := 1515) (by decide +kernel) rfl
theorem qw_1516 : (.selects RX12 yX12_minute yX12_minute : Cond) ∈ wsA := mA (i := 1516) (by decide +kernel) rfl
theorem qw_1517 : (.code yX12_minute cX12_minute 1 (some .int) : Cond) ∈ wsA := mA (i := 1517) (by decide +kernel) rfl
theorem qw_1518 : (.methodLink RX12 369 yX12_keepsAct : Cond) ∈ wsA := mA (i := 1518) (by decide +kernel) rfl
theorem qw_1520 : (.instanceMethod yX12_keepsAct : Cond) ∈ wsA := mA (i := 1520) (by decide +kernel) rfl
theorem qw_1521 : (.code yX12_keepsAct cX12_keepsAct 2 none : Cond) ∈ wsA := mA (i := 1521) (by decide +kernel) rfl
theorem qw_1522 : (.methodLink RX12 366 yX12_passes : Cond) ∈ wsA := mA (i := 1522) (by decide +kernel) rfl
theorem qw_1524 : (.instanceMethod yX12_passes : Cond) ∈ wsA := mA (i := 1524) (by decide +kernel) rfl
theorem qw_1525 : (.code yX12_passes cX12_passes 3 (some .int) : Cond) ∈ wsA := mA (i := 1525) (by decide +kernel) rfl
theorem qw_1526 : (.methodLink RX12 351 yX12_choice : Cond) ∈ wsA := mA (i := 1526) (by decide +kernel) rfl
theorem qw_1528 : (.instanceMethod yX12_choice : Cond) ∈ wsA := mA (i := 1528) (by decide +kernel) rfl
theorem qw_1529 : (.code yX12_choice cX12_choice 7 (some .int) : Cond) ∈ wsA := mA (i := 1529) (by decide +kernel) rfl
theorem qw_1530 : (.methodLink RX12 335 yX12_sumOf : Cond) ∈ wsA := mA (i := 1530) (by decide +kernel) rfl
theorem qw_1532 : (.instanceMethod yX12_sumOf : Cond) ∈ wsA := mA (i := 1532) (by decide +kernel) rfl
theorem qw_1533 : (.code yX12_sumOf cX12_sumOf 5 (some .long) : Cond) ∈ wsA := mA (i := 1533) (by decide +kernel) rfl
theorem qw_1534 : (.methodLink RX12 285 yX12_sits : Cond) ∈ wsA := mA (i := 1534) (by decide +kernel) rfl
theorem qw_1536 : (.instanceMethod yX12_sits : Cond) ∈ wsA := mA (i := 1536) (by decide +kernel) rfl
theorem qw_1537 : (.code yX12_sits cX12_sits 2 (some .boolean) : Cond) ∈ wsA := mA (i := 1537) (by decide +kernel) rfl
theorem qw_1538 : (.methodLink RX12 291 yX12_isOf : Cond) ∈ wsA := mA (i := 1538) (by decide +kernel) rfl
theorem qw_1539 : (.static yX12_isOf : Cond) ∈ wsA := mA (i := 1539) (by decide +kernel) rfl
theorem qw_1540 : (.code yX12_isOf cX12_isOf 2 (some .boolean) : Cond) ∈ wsA := mA (i := 1540) (by decide +kernel) rfl
theorem qw_1541 : (.methodLink RX12 315 yX12_knownOnes : Cond) ∈ wsA := mA (i := 1541) (by decide +kernel) rfl
theorem qw_1543 : (.instanceMethod yX12_knownOnes : Cond) ∈ wsA := mA (i := 1543) (by decide +kernel) rfl
theorem qw_1544 : (.code yX12_knownOnes cX12_knownOnes 4 (some .int) : Cond) ∈ wsA := mA (i := 1544) (by decide +kernel) rfl
theorem qw_1545 : (.methodLink RX12 288 yX12_bits : Cond) ∈ wsA := mA (i := 1545) (by decide +kernel) rfl
theorem qw_1546 : (.static yX12_bits : Cond) ∈ wsA := mA (i := 1546) (by decide +kernel) rfl
theorem qw_1547 : (.code yX12_bits cX12_bits 3 (some .int) : Cond) ∈ wsA := mA (i := 1547) (by decide +kernel) rfl
theorem qw_1548 : (.methodLink RX12 319 yX12_onTable : Cond) ∈ wsA := mA (i := 1548) (by decide +kernel) rfl
theorem qw_1550 : (.instanceMethod yX12_onTable : Cond) ∈ wsA := mA (i := 1550) (by decide +kernel) rfl
theorem qw_1551 : (.code yX12_onTable cX12_onTable 3 (some .int) : Cond) ∈ wsA := mA (i := 1551) (by decide +kernel) rfl
theorem qw_1552 : (.methodLink RX12 322 yX12_inThroat : Cond) ∈ wsA := mA (i := 1552) (by decide +kernel) rfl
theorem qw_1554 : (.instanceMethod yX12_inThroat : Cond) ∈ wsA := mA (i := 1554) (by decide +kernel) rfl
theorem qw_1555 : (.code yX12_inThroat cX12_inThroat 3 (some .int) : Cond) ∈ wsA := mA (i := 1555) (by decide +kernel) rfl
theorem qw_1556 : (.methodLink RX12 325 yX12_topLoud : Cond) ∈ wsA := mA (i := 1556) (by decide +kernel) rfl
theorem qw_1558 : (.instanceMethod yX12_topLoud : Cond) ∈ wsA := mA (i := 1558) (by decide +kernel) rfl
theorem qw_1559 : (.code yX12_topLoud cX12_topLoud 2 (some .int) : Cond) ∈ wsA := mA (i := 1559) (by decide +kernel) rfl
theorem qw_1560 : (.methodLink RX12 328 yX12_sitting : Cond) ∈ wsA := mA (i := 1560) (by decide +kernel) rfl
theorem qw_1562 : (.instanceMethod yX12_sitting : Cond) ∈ wsA := mA (i := 1562) (by decide +kernel) rfl
theorem qw_1563 : (.code yX12_sitting cX12_sitting 3 (some .int) : Cond) ∈ wsA := mA (i := 1563) (by decide +kernel) rfl
theorem qw_1564 : (.methodLink RX12 331 yX12_summedBy : Cond) ∈ wsA := mA (i := 1564) (by decide +kernel) rfl
theorem qw_1566 : (.instanceMethod yX12_summedBy : Cond) ∈ wsA := mA (i := 1566) (by decide +kernel) rfl
theorem qw_1567 : (.code yX12_summedBy cX12_summedBy 4 (some .long) : Cond) ∈ wsA := mA (i := 1567) (by decide +kernel) rfl
theorem qw_1568 : (.methodLink RX12 311 yX12_reckons : Cond) ∈ wsA := mA (i := 1568) (by decide +kernel) rfl
theorem qw_1570 : (.instanceMethod yX12_reckons : Cond) ∈ wsA := mA (i := 1570) (by decide +kernel) rfl
theorem qw_1571 : (.code yX12_reckons cX12_reckons 11 (some .long) : Cond) ∈ wsA := mA (i := 1571) (by decide +kernel) rfl
theorem qw_1572 : (.methodLink RX12 268 yX12_push : Cond) ∈ wsA := mA (i := 1572) (by decide +kernel) rfl
theorem qw_1574 : (.instanceMethod yX12_push : Cond) ∈ wsA := mA (i := 1574) (by decide +kernel) rfl
theorem qw_1575 : (.code yX12_push cX12_push 3 none : Cond) ∈ wsA := mA (i := 1575) (by decide +kernel) rfl
theorem qw_1576 : (.methodLink RX12 272 yX12_pop : Cond) ∈ wsA := mA (i := 1576) (by decide +kernel) rfl
theorem qw_1578 : (.instanceMethod yX12_pop : Cond) ∈ wsA := mA (i := 1578) (by decide +kernel) rfl
theorem qw_1579 : (.code yX12_pop cX12_pop 1 (some .long) : Cond) ∈ wsA := mA (i := 1579) (by decide +kernel) rfl
theorem qw_1580 : (.methodLink RX12 276 yX12_one : Cond) ∈ wsA := mA (i := 1580) (by decide +kernel) rfl
theorem qw_1581 : (.static yX12_one : Cond) ∈ wsA := mA (i := 1581) (by decide +kernel) rfl
theorem qw_1582 : (.code yX12_one cX12_one 5 (some .long) : Cond) ∈ wsA := mA (i := 1582) (by decide +kernel) rfl
theorem qw_1583 : (.methodLink RX12 354 yX12_speaks : Cond) ∈ wsA := mA (i := 1583) (by decide +kernel) rfl
theorem qw_1585 : (.instanceMethod yX12_speaks : Cond) ∈ wsA := mA (i := 1585) (by decide +kernel) rfl
theorem qw_1586 : (.code yX12_speaks cX12_speaks 3 none : Cond) ∈ wsA := mA (i := 1586) (by decide +kernel) rfl
theorem qw_1587 : (.methodLink RX12 357 yX12_hears : Cond) ∈ wsA := mA (i := 1587) (by decide +kernel) rfl
theorem qw_1589 : (.instanceMethod yX12_hears : Cond) ∈ wsA := mA (i := 1589) (by decide +kernel) rfl
theorem qw_1590 : (.code yX12_hears cX12_hears 3 none : Cond) ∈ wsA := mA (i := 1590) (by decide +kernel) rfl
theorem qw_1591 : (.methodLink RX12 360 yX12_areClashing : Cond) ∈ wsA := mA (i := 1591) (by decide +kernel) rfl
theorem qw_1593 : (.instanceMethod yX12_areClashing : Cond) ∈ wsA := mA (i := 1593) (by decide +kernel) rfl
theorem qw_1594 : (.code yX12_areClashing cX12_areClashing 3 (some .boolean) : Cond) ∈ wsA := mA (i := 1594) (by decide +kernel) rfl
theorem qw_1595 : (.methodLink RX12 363 yX12_swallows : Cond) ∈ wsA := mA (i := 1595) (by decide +kernel) rfl
theorem qw_1597 : (.instanceMethod yX12_swallows : Cond) ∈ wsA := mA (i := 1597) (by decide +kernel) rfl
theorem qw_1598 : (.code yX12_swallows cX12_swallows 2 none : Cond) ∈ wsA := mA (i := 1598) (by decide +kernel) rfl
theorem qw_1600 : (.instanceMethod yX12_offer : Cond) ∈ wsA := mA (i := 1600) (by decide +kernel) rfl
theorem qw_1601 : (.selects RX12 yX12_offer yX12_offer : Cond) ∈ wsA := mA (i := 1601) (by decide +kernel) rfl
theorem qw_1602 : (.code yX12_offer cX12_offer 3 (some .int) : Cond) ∈ wsA := mA (i := 1602) (by decide +kernel) rfl
theorem qw_1604 : (.instanceMethod yX12_serve : Cond) ∈ wsA := mA (i := 1604) (by decide +kernel) rfl
theorem qw_1605 : (.selects RX12 yX12_serve yX12_serve : Cond) ∈ wsA := mA (i := 1605) (by decide +kernel) rfl
theorem qw_1606 : (.code yX12_serve cX12_serve 2 (some .int) : Cond) ∈ wsA := mA (i := 1606) (by decide +kernel) rfl
theorem qw_1608 : (.instanceMethod yX12_fetch : Cond) ∈ wsA := mA (i := 1608) (by decide +kernel) rfl
theorem qw_1609 : (.selects RX12 yX12_fetch yX12_fetch : Cond) ∈ wsA := mA (i := 1609) (by decide +kernel) rfl
theorem qw_1610 : (.code yX12_fetch cX12_fetch 3 (some .int) : Cond) ∈ wsA := mA (i := 1610) (by decide +kernel) rfl
theorem qw_1612 : (.instanceMethod yX12_tell : Cond) ∈ wsA := mA (i := 1612) (by decide +kernel) rfl
theorem qw_1613 : (.selects RX12 yX12_tell yX12_tell : Cond) ∈ wsA := mA (i := 1613) (by decide +kernel) rfl
theorem qw_1614 : (.code yX12_tell cX12_tell 3 (some .int) : Cond) ∈ wsA := mA (i := 1614) (by decide +kernel) rfl
theorem qw_1616 : (.instanceMethod yX12_ahead : Cond) ∈ wsA := mA (i := 1616) (by decide +kernel) rfl
theorem qw_1617 : (.selects RX12 yX12_ahead yX12_ahead : Cond) ∈ wsA := mA (i := 1617) (by decide +kernel) rfl
theorem qw_1618 : (.code yX12_ahead cX12_ahead 5 (some .int) : Cond) ∈ wsA := mA (i := 1618) (by decide +kernel) rfl
theorem qw_1619 : (.constantLong RX12 372 (100) : Cond) ∈ wsA := mA (i := 1619) (by decide +kernel) rfl
theorem qw_1620 : (.methodLink RX12 374 yX12_keeps : Cond) ∈ wsA := mA (i := 1620) (by decide +kernel) rfl
theorem qw_1622 : (.instanceMethod yX12_keeps : Cond) ∈ wsA := mA (i := 1622) (by decide +kernel) rfl
theorem qw_1623 : (.code yX12_keeps cX12_keeps 2 none : Cond) ∈ wsA := mA (i := 1623) (by decide +kernel) rfl
theorem qw_1624 : (.methodLink RX12 377 yX12_passesAll : Cond) ∈ wsA := mA (i := 1624) (by decide +kernel) rfl
theorem qw_1626 : (.instanceMethod yX12_passesAll : Cond) ∈ wsA := mA (i := 1626) (by decide +kernel) rfl
theorem qw_1627 : (.code yX12_passesAll cX12_passesAll 3 none : Cond) ∈ wsA := mA (i := 1627) (by decide +kernel) rfl
theorem qw_1628 : (.methodLink RX12 380 yX12_laysBack : Cond) ∈ wsA := mA (i := 1628) (by decide +kernel) rfl
theorem qw_1630 : (.instanceMethod yX12_laysBack : Cond) ∈ wsA := mA (i := 1630) (by decide +kernel) rfl
theorem qw_1631 : (.code yX12_laysBack cX12_laysBack 2 none : Cond) ∈ wsA := mA (i := 1631) (by decide +kernel) rfl
theorem qw_1633 : (.instanceMethod yX12_said : Cond) ∈ wsA := mA (i := 1633) (by decide +kernel) rfl
theorem qw_1634 : (.selects RX12 yX12_said yX12_said : Cond) ∈ wsA := mA (i := 1634) (by decide +kernel) rfl
theorem qw_1635 : (.code yX12_said cX12_said 4 (some .int) : Cond) ∈ wsA := mA (i := 1635) (by decide +kernel) rfl
theorem qw_1636 : (.methodLink RX12 383 yX12_isSaid : Cond) ∈ wsA := mA (i := 1636) (by decide +kernel) rfl
theorem qw_1638 : (.instanceMethod yX12_isSaid : Cond) ∈ wsA := mA (i := 1638) (by decide +kernel) rfl
theorem qw_1639 : (.code yX12_isSaid cX12_isSaid 3 (some .boolean) : Cond) ∈ wsA := mA (i := 1639) (by decide +kernel) rfl
theorem qw_1641 : (.instanceMethod yX12_quiet : Cond) ∈ wsA := mA (i := 1641) (by decide +kernel) rfl
theorem qw_1642 : (.selects RX12 yX12_quiet yX12_quiet : Cond) ∈ wsA := mA (i := 1642) (by decide +kernel) rfl
theorem qw_1643 : (.code yX12_quiet cX12_quiet 3 (some .int) : Cond) ∈ wsA := mA (i := 1643) (by decide +kernel) rfl
theorem qw_1645 : (.instanceMethod yX12_knowing : Cond) ∈ wsA := mA (i := 1645) (by decide +kernel) rfl
theorem qw_1646 : (.selects RX12 yX12_knowing yX12_knowing : Cond) ∈ wsA := mA (i := 1646) (by decide +kernel) rfl
theorem qw_1647 : (.code yX12_knowing cX12_knowing 4 (some .int) : Cond) ∈ wsA := mA (i := 1647) (by decide +kernel) rfl
theorem qw_1649 : (.instanceMethod yX12_bestRow : Cond) ∈ wsA := mA (i := 1649) (by decide +kernel) rfl
theorem qw_1650 : (.selects RX12 yX12_bestRow yX12_bestRow : Cond) ∈ wsA := mA (i := 1650) (by decide +kernel) rfl
theorem qw_1651 : (.code yX12_bestRow cX12_bestRow 4 (some .int) : Cond) ∈ wsA := mA (i := 1651) (by decide +kernel) rfl
theorem qw_1652 : (.constantLong RX12 405 (4) : Cond) ∈ wsA := mA (i := 1652) (by decide +kernel) rfl
theorem qw_1653 : (.methodLink RX12 407 yX12_bestOf : Cond) ∈ wsA := mA (i := 1653) (by decide +kernel) rfl
theorem qw_1655 : (.instanceMethod yX12_bestOf : Cond) ∈ wsA := mA (i := 1655) (by decide +kernel) rfl
theorem qw_1656 : (.code yX12_bestOf cX12_bestOf 6 (some .int) : Cond) ∈ wsA := mA (i := 1656) (by decide +kernel) rfl
theorem qw_1657 : (.methodLink RX12 389 yX12_beginsRow : Cond) ∈ wsA := mA (i := 1657) (by decide +kernel) rfl
theorem qw_1659 : (.instanceMethod yX12_beginsRow : Cond) ∈ wsA := mA (i := 1659) (by decide +kernel) rfl
theorem qw_1660 : (.code yX12_beginsRow cX12_beginsRow 2 none : Cond) ∈ wsA := mA (i := 1660) (by decide +kernel) rfl
theorem qw_1661 : (.methodLink RX12 392 yX12_eatsRow : Cond) ∈ wsA := mA (i := 1661) (by decide +kernel) rfl
theorem qw_1663 : (.instanceMethod yX12_eatsRow : Cond) ∈ wsA := mA (i := 1663) (by decide +kernel) rfl
theorem qw_1664 : (.code yX12_eatsRow cX12_eatsRow 5 (some .boolean) : Cond) ∈ wsA := mA (i := 1664) (by decide +kernel) rfl
theorem qw_1665 : (.methodLink RX12 386 yX12_eats : Cond) ∈ wsA := mA (i := 1665) (by decide +kernel) rfl
theorem qw_1667 : (.instanceMethod yX12_eats : Cond) ∈ wsA := mA (i := 1667) (by decide +kernel) rfl
theorem qw_1668 : (.code yX12_eats cX12_eats 2 none : Cond) ∈ wsA := mA (i := 1668) (by decide +kernel) rfl
theorem qw_1669 : (.methodLink RX12 396 yX12_knownMany : Cond) ∈ wsA := mA (i := 1669) (by decide +kernel) rfl
theorem qw_1671 : (.instanceMethod yX12_knownMany : Cond) ∈ wsA := mA (i := 1671) (by decide +kernel) rfl
theorem qw_1672 : (.code yX12_knownMany cX12_knownMany 4 (some .int) : Cond) ∈ wsA := mA (i := 1672) (by decide +kernel) rfl
theorem qw_1673 : (.methodLink RX12 399 yX12_keepsRow : Cond) ∈ wsA := mA (i := 1673) (by decide +kernel) rfl
theorem qw_1675 : (.instanceMethod yX12_keepsRow : Cond) ∈ wsA := mA (i := 1675) (by decide +kernel) rfl
theorem qw_1676 : (.code yX12_keepsRow cX12_keepsRow 2 none : Cond) ∈ wsA := mA (i := 1676) (by decide +kernel) rfl
theorem qw_1677 : (.methodLink RX12 402 yX12_nextRow : Cond) ∈ wsA := mA (i := 1677) (by decide +kernel) rfl
theorem qw_1679 : (.instanceMethod yX12_nextRow : Cond) ∈ wsA := mA (i := 1679) (by decide +kernel) rfl
theorem qw_1680 : (.code yX12_nextRow cX12_nextRow 3 (some .boolean) : Cond) ∈ wsA := mA (i := 1680) (by decide +kernel) rfl
theorem qw_1682 : (.instanceMethod yX12_hush : Cond) ∈ wsA := mA (i := 1682) (by decide +kernel) rfl
theorem qw_1683 : (.selects RX12 yX12_hush yX12_hush : Cond) ∈ wsA := mA (i := 1683) (by decide +kernel) rfl
theorem qw_1684 : (.code yX12_hush cX12_hush 4 (some .int) : Cond) ∈ wsA := mA (i := 1684) (by decide +kernel) rfl
theorem qw_1686 : (.instanceMethod yX12_rows : Cond) ∈ wsA := mA (i := 1686) (by decide +kernel) rfl
theorem qw_1687 : (.selects RX12 yX12_rows yX12_rows : Cond) ∈ wsA := mA (i := 1687) (by decide +kernel) rfl
theorem qw_1688 : (.code yX12_rows cX12_rows 4 (some .int) : Cond) ∈ wsA := mA (i := 1688) (by decide +kernel) rfl
theorem qw_1689 : (.methodLink RX12 414 yX12_areUnlike : Cond) ∈ wsA := mA (i := 1689) (by decide +kernel) rfl
theorem qw_1691 : (.instanceMethod yX12_areUnlike : Cond) ∈ wsA := mA (i := 1691) (by decide +kernel) rfl
theorem qw_1692 : (.code yX12_areUnlike cX12_areUnlike 3 (some .boolean) : Cond) ∈ wsA := mA (i := 1692) (by decide +kernel) rfl
theorem qw_1693 : (.methodLink RX12 417 yX12_isRowSo : Cond) ∈ wsA := mA (i := 1693) (by decide +kernel) rfl
theorem qw_1695 : (.instanceMethod yX12_isRowSo : Cond) ∈ wsA := mA (i := 1695) (by decide +kernel) rfl
theorem qw_1696 : (.code yX12_isRowSo cX12_isRowSo 3 (some .boolean) : Cond) ∈ wsA := mA (i := 1696) (by decide +kernel) rfl
theorem qw_1697 : (.methodLink RX12 411 yX12_areNotesSo : Cond) ∈ wsA := mA (i := 1697) (by decide +kernel) rfl
theorem qw_1699 : (.instanceMethod yX12_areNotesSo : Cond) ∈ wsA := mA (i := 1699) (by decide +kernel) rfl
theorem qw_1700 : (.code yX12_areNotesSo cX12_areNotesSo 4 (some .boolean) : Cond) ∈ wsA := mA (i := 1700) (by decide +kernel) rfl
theorem qw_1702 : (.instanceMethod yX12_believed : Cond) ∈ wsA := mA (i := 1702) (by decide +kernel) rfl
theorem qw_1703 : (.selects RX12 yX12_believed yX12_believed : Cond) ∈ wsA := mA (i := 1703) (by decide +kernel) rfl
theorem qw_1704 : (.code yX12_believed cX12_believed 5 (some .int) : Cond) ∈ wsA := mA (i := 1704) (by decide +kernel) rfl
theorem qw_1706 : (.instanceMethod yX12_dropped : Cond) ∈ wsA := mA (i := 1706) (by decide +kernel) rfl
theorem qw_1707 : (.selects RX12 yX12_dropped yX12_dropped : Cond) ∈ wsA := mA (i := 1707) (by decide +kernel) rfl
theorem qw_1708 : (.code yX12_dropped cX12_dropped 4 (some .int) : Cond) ∈ wsA := mA (i := 1708) (by decide +kernel) rfl
theorem qw_1710 : (.instanceMethod yX12_leftOut : Cond) ∈ wsA := mA (i := 1710) (by decide +kernel) rfl
theorem qw_1711 : (.selects RX12 yX12_leftOut yX12_leftOut : Cond) ∈ wsA := mA (i := 1711) (by decide +kernel) rfl
theorem qw_1712 : (.code yX12_leftOut cX12_leftOut 4 (some .int) : Cond) ∈ wsA := mA (i := 1712) (by decide +kernel) rfl
theorem qw_1713 : (.constantLong RX12 429 (40) : Cond) ∈ wsA := mA (i := 1713) (by decide +kernel) rfl
theorem qw_1714 : (.methodLink RX12 431 yX12_weighsOut : Cond) ∈ wsA := mA (i := 1714) (by decide +kernel) rfl
theorem qw_1716 : (.instanceMethod yX12_weighsOut : Cond) ∈ wsA := mA (i := 1716) (by decide +kernel) rfl
theorem qw_1717 : (.code yX12_weighsOut cX12_weighsOut 5 none : Cond) ∈ wsA := mA (i := 1717) (by decide +kernel) rfl
theorem qw_1719 : (.instanceMethod yX12_rests : Cond) ∈ wsA := mA (i := 1719) (by decide +kernel) rfl
theorem qw_1720 : (.selects RX12 yX12_rests yX12_rests : Cond) ∈ wsA := mA (i := 1720) (by decide +kernel) rfl
theorem qw_1721 : (.code yX12_rests cX12_rests 8 (some .int) : Cond) ∈ wsA := mA (i := 1721) (by decide +kernel) rfl
theorem qw_1722 : (.constantLong RX12 437 (20) : Cond) ∈ wsA := mA (i := 1722) (by decide +kernel) rfl
theorem qw_1723 : (.methodLink RX12 439 yX12_fillsRests : Cond) ∈ wsA := mA (i := 1723) (by decide +kernel) rfl
theorem qw_1725 : (.instanceMethod yX12_fillsRests : Cond) ∈ wsA := mA (i := 1725) (by decide +kernel) rfl
theorem qw_1726 : (.code yX12_fillsRests cX12_fillsRests 7 none : Cond) ∈ wsA := mA (i := 1726) (by decide +kernel) rfl
theorem qw_1727 : (.methodLink RX12 434 yX12_hasThen : Cond) ∈ wsA := mA (i := 1727) (by decide +kernel) rfl
theorem qw_1729 : (.instanceMethod yX12_hasThen : Cond) ∈ wsA := mA (i := 1729) (by decide +kernel) rfl
theorem qw_1730 : (.code yX12_hasThen cX12_hasThen 2 (some .int) : Cond) ∈ wsA := mA (i := 1730) (by decide +kernel) rfl
theorem qw_1731 : (.methodLink RX12 443 yX12_isRest : Cond) ∈ wsA := mA (i := 1731) (by decide +kernel) rfl
theorem qw_1733 : (.instanceMethod yX12_isRest : Cond) ∈ wsA := mA (i := 1733) (by decide +kernel) rfl
theorem qw_1734 : (.code yX12_isRest cX12_isRest 4 (some .boolean) : Cond) ∈ wsA := mA (i := 1734) (by decide +kernel) rfl
theorem qw_1736 : (.instanceMethod yX12_crumbs : Cond) ∈ wsA := mA (i := 1736) (by decide +kernel) rfl
theorem qw_1737 : (.selects RX12 yX12_crumbs yX12_crumbs : Cond) ∈ wsA := mA (i := 1737) (by decide +kernel) rfl
theorem qw_1738 : (.code yX12_crumbs cX12_crumbs 9 (some .int) : Cond) ∈ wsA := mA (i := 1738) (by decide +kernel) rfl
theorem qw_1739 : (.constantLong RX12 446 (9999) : Cond) ∈ wsA := mA (i := 1739) (by decide +kernel) rfl
theorem qw_1741 : (.instanceMethod yX12_loudest : Cond) ∈ wsA := mA (i := 1741) (by decide +kernel) rfl
theorem qw_1742 : (.selects RX12 yX12_loudest yX12_loudest : Cond) ∈ wsA := mA (i := 1742) (by decide +kernel) rfl
theorem qw_1743 : (.code yX12_loudest cX12_loudest 6 (some .int) : Cond) ∈ wsA := mA (i := 1743) (by decide +kernel) rfl
theorem qw_1745 : (.instanceMethod yX12_note : Cond) ∈ wsA := mA (i := 1745) (by decide +kernel) rfl
theorem qw_1746 : (.selects RX12 yX12_note yX12_note : Cond) ∈ wsA := mA (i := 1746) (by decide +kernel) rfl
theorem qw_1747 : (.code yX12_note cX12_note 6 (some .int) : Cond) ∈ wsA := mA (i := 1747) (by decide +kernel) rfl
theorem qw_1748 : (.constantLong RX12 448 (60) : Cond) ∈ wsA := mA (i := 1748) (by decide +kernel) rfl
theorem qw_1750 : (.instanceMethod yX12_ruled : Cond) ∈ wsA := mA (i := 1750) (by decide +kernel) rfl
theorem qw_1751 : (.selects RX12 yX12_ruled yX12_ruled : Cond) ∈ wsA := mA (i := 1751) (by decide +kernel) rfl
theorem qw_1752 : (.code yX12_ruled cX12_ruled 5 (some .int) : Cond) ∈ wsA := mA (i := 1752) (by decide +kernel) rfl
theorem qw_1753 : (.methodLink RX12 450 yX12_fillsFits : Cond) ∈ wsA := mA (i := 1753) (by decide +kernel) rfl
theorem qw_1755 : (.instanceMethod yX12_fillsFits : Cond) ∈ wsA := mA (i := 1755) (by decide +kernel) rfl
theorem qw_1756 : (.code yX12_fillsFits cX12_fillsFits 7 none : Cond) ∈ wsA := mA (i := 1756) (by decide +kernel) rfl
theorem qw_1758 : (.instanceMethod yX12_look : Cond) ∈ wsA := mA (i := 1758) (by decide +kernel) rfl
theorem qw_1759 : (.selects RX12 yX12_look yX12_look : Cond) ∈ wsA := mA (i := 1759) (by decide +kernel) rfl
theorem qw_1760 : (.code yX12_look cX12_look 7 (some .int) : Cond) ∈ wsA := mA (i := 1760) (by decide +kernel) rfl
theorem qw_1761 : (.methodLink RX12 453 yX12_alikeAt : Cond) ∈ wsA := mA (i := 1761) (by decide +kernel) rfl
theorem qw_1763 : (.instanceMethod yX12_alikeAt : Cond) ∈ wsA := mA (i := 1763) (by decide +kernel) rfl
theorem qw_1764 : (.code yX12_alikeAt cX12_alikeAt 6 (some .int) : Cond) ∈ wsA := mA (i := 1764) (by decide +kernel) rfl
theorem qw_1766 : (.instanceMethod yX12_seed : Cond) ∈ wsA := mA (i := 1766) (by decide +kernel) rfl
theorem qw_1767 : (.selects RX12 yX12_seed yX12_seed : Cond) ∈ wsA := mA (i := 1767) (by decide +kernel) rfl
theorem qw_1768 : (.code yX12_seed cX12_seed 3 (some .int) : Cond) ∈ wsA := mA (i := 1768) (by decide +kernel) rfl
theorem qw_1770 : (.instanceMethod yX12_hiccups : Cond) ∈ wsA := mA (i := 1770) (by decide +kernel) rfl
theorem qw_1771 : (.selects RX12 yX12_hiccups yX12_hiccups : Cond) ∈ wsA := mA (i := 1771) (by decide +kernel) rfl
theorem qw_1772 : (.code yX12_hiccups cX12_hiccups 9 (some .int) : Cond) ∈ wsA := mA (i := 1772) (by decide +kernel) rfl
theorem qw_1773 : (.constantLong RX12 474 (10) : Cond) ∈ wsA := mA (i := 1773) (by decide +kernel) rfl
theorem qw_1774 : (.methodLink RX12 471 yX12_draw : Cond) ∈ wsA := mA (i := 1774) (by decide +kernel) rfl
theorem qw_1776 : (.instanceMethod yX12_draw : Cond) ∈ wsA := mA (i := 1776) (by decide +kernel) rfl
theorem qw_1777 : (.code yX12_draw cX12_draw 2 (some .int) : Cond) ∈ wsA := mA (i := 1777) (by decide +kernel) rfl
theorem qw_1778 : (.constantLong RX12 463 (1103515245) : Cond) ∈ wsA := mA (i := 1778) (by decide +kernel) rfl
theorem qw_1779 : (.constantLong RX12 465 (12345) : Cond) ∈ wsA := mA (i := 1779) (by decide +kernel) rfl
theorem qw_1780 : (.constantLong RX12 467 (2147483648) : Cond) ∈ wsA := mA (i := 1780) (by decide +kernel) rfl
theorem qw_1781 : (.constantLong RX12 469 (65536) : Cond) ∈ wsA := mA (i := 1781) (by decide +kernel) rfl
theorem qw_1782 : (.methodLink RX12 476 yX12_comesUp : Cond) ∈ wsA := mA (i := 1782) (by decide +kernel) rfl
theorem qw_1784 : (.instanceMethod yX12_comesUp : Cond) ∈ wsA := mA (i := 1784) (by decide +kernel) rfl
theorem qw_1785 : (.code yX12_comesUp cX12_comesUp 2 none : Cond) ∈ wsA := mA (i := 1785) (by decide +kernel) rfl
theorem qw_1787 : (.instanceMethod yX12_count : Cond) ∈ wsA := mA (i := 1787) (by decide +kernel) rfl
theorem qw_1788 : (.selects RX12 yX12_count yX12_count : Cond) ∈ wsA := mA (i := 1788) (by decide +kernel) rfl
theorem qw_1789 : (.code yX12_count cX12_count 2 (some .int) : Cond) ∈ wsA := mA (i := 1789) (by decide +kernel) rfl
theorem qw_1791 : (.instanceMethod yX12_image : Cond) ∈ wsA := mA (i := 1791) (by decide +kernel) rfl
theorem qw_1792 : (.selects RX12 yX12_image yX12_image : Cond) ∈ wsA := mA (i := 1792) (by decide +kernel) rfl
theorem qw_1793 : (.code yX12_image cX12_image 3 (some .int) : Cond) ∈ wsA := mA (i := 1793) (by decide +kernel) rfl
theorem qw_1794 : (.constantLong RX12 479 (3) : Cond) ∈ wsA := mA (i := 1794) (by decide +kernel) rfl
theorem qw_1796 : (.instanceMethod yX12_back : Cond) ∈ wsA := mA (i := 1796) (by decide +kernel) rfl
theorem qw_1797 : (.selects RX12 yX12_back yX12_back : Cond) ∈ wsA := mA (i := 1797) (by decide +kernel) rfl
theorem qw_1798 : (.code yX12_back cX12_back 3 (some .int) : Cond) ∈ wsA := mA (i := 1798) (by decide +kernel) rfl
theorem dX12_bits_0 : decode cX12_bits 0 = .ok (.iconst 0, 1) := by decide +kernel
theorem dX12_bits_1 : decode cX12_bits 1 = .ok (.istore_n 1, 1) := by decide +kernel
theorem dX12_bits_2 : decode cX12_bits 2 = .ok (.iload_n 0, 1) := by decide +kernel
theorem dX12_bits_3 : decode cX12_bits 3 = .ok (.istore_n 2, 1) := by decide +kernel
theorem dX12_bits_4 : decode cX12_bits 4 = .ok (.iload_n 2, 1) := by decide +kernel
theorem dX12_bits_5 : decode cX12_bits 5 = .ok (.ifCond .eq 15, 3) := by decide +kernel
theorem dX12_bits_8 : decode cX12_bits 8 = .ok (.iinc 1 1, 3) := by decide +kernel
theorem dX12_bits_11 : decode cX12_bits 11 = .ok (.iload_n 2, 1) := by decide +kernel
theorem dX12_bits_12 : decode cX12_bits 12 = .ok (.iload_n 2, 1) := by decide +kernel
theorem dX12_bits_13 : decode cX12_bits 13 = .ok (.iconst 1, 1) := by decide +kernel
theorem dX12_bits_14 : decode cX12_bits 14 = .ok (.isub, 1) := by decide +kernel
theorem dX12_bits_15 : decode cX12_bits 15 = .ok (.iand, 1) := by decide +kernel
theorem dX12_bits_16 : decode cX12_bits 16 = .ok (.istore_n 2, 1) := by decide +kernel
theorem dX12_bits_17 : decode cX12_bits 17 = .ok (.goto (-13), 3) := by decide +kernel
theorem dX12_bits_20 : decode cX12_bits 20 = .ok (.iload_n 1, 1) := by decide +kernel
theorem dX12_bits_21 : decode cX12_bits 21 = .ok (.ireturn, 1) := by decide +kernel
theorem dX12_in_0 : decode cX12_in 0 = .ok (.lload_n 0, 1) := by decide +kernel
theorem dX12_in_1 : decode cX12_in 1 = .ok (.lload_n 2, 1) := by decide +kernel
theorem dX12_in_2 : decode cX12_in 2 = .ok (.lcmp, 1) := by decide +kernel
theorem dX12_in_3 : decode cX12_in 3 = .ok (.ifCond .lt 14, 3) := by decide +kernel
theorem dX12_in_6 : decode cX12_in 6 = .ok (.lload_n 0, 1) := by decide +kernel
theorem dX12_in_7 : decode cX12_in 7 = .ok (.lload 4, 2) := by decide +kernel
theorem dX12_in_9 : decode cX12_in 9 = .ok (.lcmp, 1) := by decide +kernel
theorem dX12_in_10 : decode cX12_in 10 = .ok (.ifCond .gt 7, 3) := by decide +kernel
theorem dX12_in_13 : decode cX12_in 13 = .ok (.iconst 1, 1) := by decide +kernel
theorem dX12_in_14 : decode cX12_in 14 = .ok (.goto 4, 3) := by decide +kernel
theorem dX12_in_17 : decode cX12_in 17 = .ok (.iconst 0, 1) := by decide +kernel
theorem dX12_in_18 : decode cX12_in 18 = .ok (.ireturn, 1) := by decide +kernel
theorem dX12_isOf_0 : decode cX12_isOf 0 = .ok (.iload_n 0, 1) := by decide +kernel
theorem dX12_isOf_1 : decode cX12_isOf 1 = .ok (.iload_n 1, 1) := by decide +kernel
theorem dX12_isOf_2 : decode cX12_isOf 2 = .ok (.ishr, 1) := by decide +kernel
theorem dX12_isOf_3 : decode cX12_isOf 3 = .ok (.iconst 1, 1) := by decide +kernel
theorem dX12_isOf_4 : decode cX12_isOf 4 = .ok (.iand, 1) := by decide +kernel
theorem dX12_isOf_5 : decode cX12_isOf 5 = .ok (.iconst 1, 1) := by decide +kernel
theorem dX12_isOf_6 : decode cX12_isOf 6 = .ok (.if_icmp .ne 7, 3) := by decide +kernel
theorem dX12_isOf_9 : decode cX12_isOf 9 = .ok (.iconst 1, 1) := by decide +kernel
theorem dX12_isOf_10 : decode cX12_isOf 10 = .ok (.goto 4, 3) := by decide +kernel
theorem dX12_isOf_13 : decode cX12_isOf 13 = .ok (.iconst 0, 1) := by decide +kernel
theorem dX12_isOf_14 : decode cX12_isOf 14 = .ok (.ireturn, 1) := by decide +kernel
theorem sp_1_4 {x : Int32} (h : bt 1 4 x) : x = 1 ∨ x = 2 ∨ x = 3 ∨ x = 4 := by
  obtain ⟨h1, h2⟩ := h
  have e : ∀ k : Int32, x = k ↔ x.toInt = k.toInt := fun k => Int32.toInt_inj.symm
  simp only [e, show (1 : Int32).toInt = 1 from rfl, show (2 : Int32).toInt = 2 from rfl, show (3 : Int32).toInt = 3 from rfl, show (4 : Int32).toInt = 4 from rfl]
  omega
theorem sw_0_13 (x : Int32) : x = 0 ∨ x = 1 ∨ x = 2 ∨ x = 3 ∨ x = 4 ∨ x = 5 ∨ x = 6 ∨ x = 7 ∨ x = 8 ∨ x = 9 ∨ x = 10 ∨ x = 11 ∨ x = 12 ∨ x = 13 ∨ (x.toInt < 0 ∨ 13 < x.toInt) := by
  have e : ∀ k : Int32, x = k ↔ x.toInt = k.toInt := fun k => Int32.toInt_inj.symm
  simp only [e, show (0 : Int32).toInt = 0 from rfl, show (1 : Int32).toInt = 1 from rfl, show (2 : Int32).toInt = 2 from rfl, show (3 : Int32).toInt = 3 from rfl, show (4 : Int32).toInt = 4 from rfl, show (5 : Int32).toInt = 5 from rfl, show (6 : Int32).toInt = 6 from rfl, show (7 : Int32).toInt = 7 from rfl, show (8 : Int32).toInt = 8 from rfl, show (9 : Int32).toInt = 9 from rfl, show (10 : Int32).toInt = 10 from rfl, show (11 : Int32).toInt = 11 from rfl, show (12 : Int32).toInt = 12 from rfl, show (13 : Int32).toInt = 13 from rfl]
  omega
theorem sw_2_14 (x : Int32) : x = 2 ∨ x = 3 ∨ x = 4 ∨ x = 5 ∨ x = 6 ∨ x = 7 ∨ x = 8 ∨ x = 9 ∨ x = 10 ∨ x = 11 ∨ x = 12 ∨ x = 13 ∨ x = 14 ∨ (x.toInt < 2 ∨ 14 < x.toInt) := by
  have e : ∀ k : Int32, x = k ↔ x.toInt = k.toInt := fun k => Int32.toInt_inj.symm
  simp only [e, show (2 : Int32).toInt = 2 from rfl, show (3 : Int32).toInt = 3 from rfl, show (4 : Int32).toInt = 4 from rfl, show (5 : Int32).toInt = 5 from rfl, show (6 : Int32).toInt = 6 from rfl, show (7 : Int32).toInt = 7 from rfl, show (8 : Int32).toInt = 8 from rfl, show (9 : Int32).toInt = 9 from rfl, show (10 : Int32).toInt = 10 from rfl, show (11 : Int32).toInt = 11 from rfl, show (12 : Int32).toInt = 12 from rfl, show (13 : Int32).toInt = 13 from rfl, show (14 : Int32).toInt = 14 from rfl]
  omega

/-! the other side's rows -/
def tlo (j : Nat) : Int := if j < 4 then 0 else if j = 11 then -1 else if 38 ≤ j ∧ j ≤ 45 then 0 else if 59 ≤ j then 0 else -2147483648
def thi (j : Nat) : Int := if j = 0 then 1 else if j = 1 then 6 else if j = 2 then 8 else if j = 3 then 5 else if j = 11 then 7 else if 38 ≤ j ∧ j ≤ 45 then 7 else if 59 ≤ j ∧ j ≤ 98 then 60 else if j = 99 then 10 else 2147483647
def TD (t0 t1 t2 t3 : Int32) (f : Nat → Int32) : Prop := f 0 = t0 ∧ f 1 = t1 ∧ f 2 = t2 ∧ f 3 = t3 ∧ ∀ j : Nat, j < 100 → bt (tlo j) (thi j) (f j)
section
variable {t0 t1 t2 t3 x y z v : Int32} {f g : Nat → Int32} {lo hi b c d a1 b1 : Int} {a n : Nat}
theorem bt_no2 {a b c d : Int} (h : bt a b x) (g : bt c d x) (s : b < c ∨ d < a) : False := by
  obtain ⟨h1, h2⟩ := h
  obtain ⟨h3, h4⟩ := g
  omega
theorem bt_addb1 {a b c d k1 k2 : Int} (e : y = x + z) (hy : bt a b y) (hx : bt c d x) (hz : bt k1 k2 z) (s : -2147483648 ≤ c + k1 ∧ d + k2 ≤ 2147483647 ∧ (lo ≤ c ∨ lo ≤ a - k2) ∧ (d ≤ hi ∨ b - k1 ≤ hi)) : bt lo hi x := by
  have h := add_eq e hx hz ⟨s.1, s.2.1⟩
  obtain ⟨h1, h2⟩ := hx
  obtain ⟨h3, h4⟩ := hz
  obtain ⟨h5, h6⟩ := hy
  constructor <;> omega
theorem bt_addb2 {a b c d k1 k2 : Int} (e : y = z + x) (hy : bt a b y) (hx : bt c d x) (hz : bt k1 k2 z) (s : -2147483648 ≤ c + k1 ∧ d + k2 ≤ 2147483647 ∧ (lo ≤ c ∨ lo ≤ a - k2) ∧ (d ≤ hi ∨ b - k1 ≤ hi)) : bt lo hi x := by
  have h := add_eq e hz hx (by omega)
  obtain ⟨h1, h2⟩ := hx
  obtain ⟨h3, h4⟩ := hz
  obtain ⟨h5, h6⟩ := hy
  constructor <;> omega
theorem td_0 (h : TD t0 t1 t2 t3 f) : f (Int32.toNatClampNeg 0) = t0 := h.1
theorem td_1 (h : TD t0 t1 t2 t3 f) : f (Int32.toNatClampNeg 1) = t1 := h.2.1
theorem td_2 (h : TD t0 t1 t2 t3 f) : f (Int32.toNatClampNeg 2) = t2 := h.2.2.1
theorem td_3 (h : TD t0 t1 t2 t3 f) : f (Int32.toNatClampNeg 3) = t3 := h.2.2.2.1
theorem clampN (h : 0 ≤ x.toInt) : (x.toNatClampNeg : Int) = x.toInt := by
  obtain ⟨j, hj, ex, tx⟩ := nI_pos_of h
  rw [tx, ex, nI_clamp hj]
theorem all_at {P : Nat → Prop} [DecidablePred P] {n : Nat} (h : (List.range n).all (fun i => decide (P i)) = true) {i : Nat} (hi : i < n) : P i := by
  have := List.all_eq_true.mp h i (List.mem_range.mpr hi)
  exact of_decide_eq_true this
theorem upd_keep {K : Int32} (p : y = f K.toNatClampNeg) (e : g = upd f x.toNatClampNeg v) (hx : bt a1 b1 x) (s : 0 ≤ a1 ∧ 0 ≤ K.toInt ∧ (K.toInt < a1 ∨ b1 < K.toInt)) : y = g K.toNatClampNeg := by
  obtain ⟨h1, h2⟩ := hx
  have c1 := clampN (x := x) (by omega)
  have c2 := clampN (x := K) s.2.1
  rw [e, pk_un (by omega)]; exact p
theorem td_ld (h : TD t0 t1 t2 t3 f) (e : y = f x.toNatClampNeg) (hx : bt a1 b1 x) (s1 : a1 = (a : Int) ∧ b1 < (a : Int) + (n : Int) ∧ a + n ≤ 100) (s : (List.range n).all (fun i => decide (lo ≤ tlo (a + i) ∧ thi (a + i) ≤ hi)) = true) : bt lo hi y := by
  obtain ⟨h1, h2⟩ := hx
  obtain ⟨s1, s2, s3⟩ := s1
  have hc := clampN (x := x) (by omega)
  have hi : x.toNatClampNeg = a + (x.toNatClampNeg - a) := by omega
  have g := h.2.2.2.2 x.toNatClampNeg (by omega)
  rw [← e] at g
  have q := all_at s (i := x.toNatClampNeg - a) (by omega)
  rw [← hi] at q
  exact bt_w g q
theorem td_st (h : TD t0 t1 t2 t3 f) (e : g = upd f x.toNatClampNeg v) (hx : bt a1 b1 x) (hv : bt c d v) (s1 : a1 = (a : Int) ∧ b1 < (a : Int) + (n : Int) ∧ a + n ≤ 100 ∧ 4 ≤ a) (s : (List.range n).all (fun i => decide (tlo (a + i) ≤ c ∧ d ≤ thi (a + i))) = true) : TD t0 t1 t2 t3 g := by
  obtain ⟨h1, h2⟩ := hx
  obtain ⟨s1, s2, s3, s4⟩ := s1
  have hc := clampN (x := x) (by omega)
  have hi : x.toNatClampNeg = a + (x.toNatClampNeg - a) := by omega
  have q := all_at s (i := x.toNatClampNeg - a) (by omega)
  rw [← hi] at q
  have keep : ∀ j : Nat, j < 4 → g j = f j := fun j hj => by rw [e]; exact pk_un (by omega)
  refine ⟨(keep 0 (by decide)).trans h.1, (keep 1 (by decide)).trans h.2.1, (keep 2 (by decide)).trans h.2.2.1, (keep 3 (by decide)).trans h.2.2.2.1, fun j hj => ?_⟩
  by_cases hj2 : j = x.toNatClampNeg
  · rw [e, hj2, pk_us]; exact bt_w hv q
  · rw [e, pk_un hj2]; exact h.2.2.2.2 j hj
theorem in_bt {u v w : Int64} {x : Int32} (h : v ≤ u ∧ u ≤ w) (e : u = x.toInt64) (s : lo ≤ v.toInt ∧ w.toInt ≤ hi) : bt lo hi x := by
  obtain ⟨h1, h2⟩ := h
  rw [e] at h1 h2
  have h1 := Int64.le_iff_toInt_le.mp h1
  have h2 := Int64.le_iff_toInt_le.mp h2
  rw [Int32.toInt_toInt64] at h1 h2
  exact ⟨Int.le_trans s.1 h1, Int.le_trans h2 s.2⟩
theorem l_nz {u : Int64} (e : u = x.toInt64) (h : bt c d x) (s : 0 < c ∨ d < 0) : ¬ u = 0 := by
  intro q
  obtain ⟨h1, h2⟩ := h
  rw [e] at q
  have : x.toInt = 0 := by rw [← Int32.toInt_toInt64, q]; rfl
  omega
theorem in_ge {u v : Int64} {q : Int32} (e : q = lg_cmp u v) (h : ¬ q < 0) : v ≤ u := by
  rw [e] at h
  exact (lg_cmp_ge u v).mp (Int32.not_lt.mp h)
theorem in_le {u v : Int64} {q : Int32} (e : q = lg_cmp u v) (h : ¬ 0 < q) : u ≤ v := by
  rw [e] at h
  exact (lg_cmp_le u v).mp (Int32.not_lt.mp h)
theorem bits_fall {s t y : Int32} {n : Nat} (e1 : t = s - 1) (e2 : y = s &&& t) (h : ¬ s = 0) (hm : s.toBitVec.toNat < n + 1) : y.toBitVec.toNat < n := by
  have h0 : s.toBitVec.toNat ≠ 0 := fun q => h (Int32.toBitVec_inj.mp (BitVec.eq_of_toNat_eq (by rw [q]; rfl)))
  have h1 : t.toBitVec.toNat = s.toBitVec.toNat - 1 := by
    rw [e1, Int32.toBitVec_sub, BitVec.toNat_sub]
    have := s.toBitVec.isLt
    show (2 ^ 32 - 1 + s.toBitVec.toNat) % 2 ^ 32 = _
    omega
  have h2 : y.toBitVec.toNat ≤ t.toBitVec.toNat := by
    rw [e2, Int32.toBitVec_and, BitVec.toNat_and]; exact Nat.and_le_right
  omega
end
set_option maxHeartbeats 4000000 in
set_option maxRecDepth 100000 in
/-- m_in_0 -/
theorem m_in_0 (l : Launch) (dC : Nat → ClassId) (dI : Nat → Nat → Nat) (sz : Nat) : Met l yX12_in (.code yX12_in cX12_in 6 (some .boolean) :: wsA) ({ frames := 0, cells := 0, slots := 0, locals := 0 }) (va_Pc [.long 0, .long 0, .long 3] (fun U => U.heap.size = sz ∧ va_P (dC, dI) classes [] U.heap ∧ va_K (dC, dI) classes [] U ∧ va_D (fun _ => True) [] ∧ xE U)) (va_Qi (fun (r : Int32) (_ : Unit) => r = 1) (fun _ t => va_P (dC, dI) classes [] t.heap ∧ va_K (dC, dI) classes [] t ∧ va_D (va_A [] sz) []) (va_A [] sz)) 0 0 (va_A [] sz) := by
  refine Met.ofW (cc := cX12_in) (maxL := 6) (ret := (some .boolean)) (by decide) rfl ?_
  intro p e s m args below meth c s₁ B hml hv
  obtain ⟨rfl, hsz, hP, hK, hD0, hE⟩ := hv
  have hx := B.exec
  have hb := B.bytes
  have hr := B.returns
  have hts := atoms_spec (ws := .code yX12_in cX12_in 6 (some .boolean) :: wsA) B.pre
  have hq : ∀ w ∈ wsA, w.before _ s = true := fun w h => hts w (List.mem_cons_of_mem _ h)
  have hown : s.vm.findClass RX12 = some m.cls := findClass_of_methodNamed B.named
  have hlocks := B.notSynchronized
  subst hsz
  have hD := hD0.self (sz := s.heap.size)
  generalize hAe : va_A [] s.heap.size = A at hD ⊢
  have hA : ∀ q : Nat, s.heap.size ≤ q → A q := fun q h => by rw [← hAe]; exact Or.inr h
  have hS : va_S A s.heap s.heap [] := va_S.rf
  have hl := lv_entry ([.long 0, .long 0, .long 3]) (n := 6) (Nat.le_of_ble_eq_true rfl)
  rw [lg_entry_eq]
  generalize (lg_sl ([.long 0, .long 0, .long 3]) ++ List.replicate (6 - (lg_sl ([.long 0, .long 0, .long 3])).length) Slot.unset).toArray = ls at hl ⊢
  have hl : lv_has ls 6 [(0, .long 0), (2, .long 0), (4, .long 3)] := hl
  refine lv_lload_n hx hb dX12_in_0 rfl (lv_at hl 0 rfl) ?_
  refine lv_lload_n hx hb dX12_in_1 rfl (lv_at hl 1 rfl) ?_
  refine W.lcmp hx hb dX12_in_2 ?_
  refine lv_topi (fun y_3 ey_3 => ?_)
  obtain rfl : y_3 = 0 := ey_3.trans (by decide)
  refine lv_if_lt (tgt := 17) hx hb dX12_in_3 (by decide) (fun c9 => absurd c9 (by decide)) (fun _ => ?_)
  refine lv_lload_n hx hb dX12_in_6 rfl (lv_at hl 0 rfl) ?_
  refine lv_lload hx hb dX12_in_7 (lv_at hl 2 rfl) ?_
  refine W.lcmp hx hb dX12_in_9 ?_
  refine lv_topi (fun y_5 ey_5 => ?_)
  obtain rfl : y_5 = (-1) := ey_5.trans (by decide)
  refine lv_if_gt (tgt := 17) hx hb dX12_in_10 (by decide) (fun c9 => absurd c9 (by decide)) (fun _ => ?_)
  refine lv_iconst (v := 1) hx hb dX12_in_13 (by decide) ?_
  refine lv_goto (tgt := 18) hx hb dX12_in_14 (by decide) ?_
  refine W.widen (k := 0) (n := 0) (Nat.le_of_ble_eq_true rfl) (Nat.le_of_ble_eq_true rfl) ?_
  exact W.zret (v := 1) hx hb hr (by decide) (fun t ht hW => ⟨⟨1, (), rfl, rfl, by rw [ht]; exact hP, va_K.moved hW.alike hK, hD⟩, hS.F ht⟩) hS.2.2 dX12_in_18

set_option maxHeartbeats 4000000 in
set_option maxRecDepth 100000 in
/-- m_in_1 -/
theorem m_in_1 (l : Launch) (dC : Nat → ClassId) (dI : Nat → Nat → Nat) (sz : Nat) : Met l yX12_in (.code yX12_in cX12_in 6 (some .boolean) :: wsA) ({ frames := 0, cells := 0, slots := 0, locals := 0 }) (va_Pc [.long 1, .long 0, .long 3] (fun U => U.heap.size = sz ∧ va_P (dC, dI) classes [] U.heap ∧ va_K (dC, dI) classes [] U ∧ va_D (fun _ => True) [] ∧ xE U)) (va_Qi (fun (r : Int32) (_ : Unit) => r = 1) (fun _ t => va_P (dC, dI) classes [] t.heap ∧ va_K (dC, dI) classes [] t ∧ va_D (va_A [] sz) []) (va_A [] sz)) 0 0 (va_A [] sz) := by
  refine Met.ofW (cc := cX12_in) (maxL := 6) (ret := (some .boolean)) (by decide) rfl ?_
  intro p e s m args below meth c s₁ B hml hv
  obtain ⟨rfl, hsz, hP, hK, hD0, hE⟩ := hv
  have hx := B.exec
  have hb := B.bytes
  have hr := B.returns
  have hts := atoms_spec (ws := .code yX12_in cX12_in 6 (some .boolean) :: wsA) B.pre
  have hq : ∀ w ∈ wsA, w.before _ s = true := fun w h => hts w (List.mem_cons_of_mem _ h)
  have hown : s.vm.findClass RX12 = some m.cls := findClass_of_methodNamed B.named
  have hlocks := B.notSynchronized
  subst hsz
  have hD := hD0.self (sz := s.heap.size)
  generalize hAe : va_A [] s.heap.size = A at hD ⊢
  have hA : ∀ q : Nat, s.heap.size ≤ q → A q := fun q h => by rw [← hAe]; exact Or.inr h
  have hS : va_S A s.heap s.heap [] := va_S.rf
  have hl := lv_entry ([.long 1, .long 0, .long 3]) (n := 6) (Nat.le_of_ble_eq_true rfl)
  rw [lg_entry_eq]
  generalize (lg_sl ([.long 1, .long 0, .long 3]) ++ List.replicate (6 - (lg_sl ([.long 1, .long 0, .long 3])).length) Slot.unset).toArray = ls at hl ⊢
  have hl : lv_has ls 6 [(0, .long 1), (2, .long 0), (4, .long 3)] := hl
  refine lv_lload_n hx hb dX12_in_0 rfl (lv_at hl 0 rfl) ?_
  refine lv_lload_n hx hb dX12_in_1 rfl (lv_at hl 1 rfl) ?_
  refine W.lcmp hx hb dX12_in_2 ?_
  refine lv_topi (fun y_3 ey_3 => ?_)
  obtain rfl : y_3 = 1 := ey_3.trans (by decide)
  refine lv_if_lt (tgt := 17) hx hb dX12_in_3 (by decide) (fun c9 => absurd c9 (by decide)) (fun _ => ?_)
  refine lv_lload_n hx hb dX12_in_6 rfl (lv_at hl 0 rfl) ?_
  refine lv_lload hx hb dX12_in_7 (lv_at hl 2 rfl) ?_
  refine W.lcmp hx hb dX12_in_9 ?_
  refine lv_topi (fun y_5 ey_5 => ?_)
  obtain rfl : y_5 = (-1) := ey_5.trans (by decide)
  refine lv_if_gt (tgt := 17) hx hb dX12_in_10 (by decide) (fun c9 => absurd c9 (by decide)) (fun _ => ?_)
  refine lv_iconst (v := 1) hx hb dX12_in_13 (by decide) ?_
  refine lv_goto (tgt := 18) hx hb dX12_in_14 (by decide) ?_
  refine W.widen (k := 0) (n := 0) (Nat.le_of_ble_eq_true rfl) (Nat.le_of_ble_eq_true rfl) ?_
  exact W.zret (v := 1) hx hb hr (by decide) (fun t ht hW => ⟨⟨1, (), rfl, rfl, by rw [ht]; exact hP, va_K.moved hW.alike hK, hD⟩, hS.F ht⟩) hS.2.2 dX12_in_18

set_option maxHeartbeats 4000000 in
set_option maxRecDepth 100000 in
/-- m_in_2 -/
theorem m_in_2 (l : Launch) (dC : Nat → ClassId) (dI : Nat → Nat → Nat) (sz : Nat) : Met l yX12_in (.code yX12_in cX12_in 6 (some .boolean) :: wsA) ({ frames := 0, cells := 0, slots := 0, locals := 0 }) (va_Pc [.long 2, .long 0, .long 3] (fun U => U.heap.size = sz ∧ va_P (dC, dI) classes [] U.heap ∧ va_K (dC, dI) classes [] U ∧ va_D (fun _ => True) [] ∧ xE U)) (va_Qi (fun (r : Int32) (_ : Unit) => r = 1) (fun _ t => va_P (dC, dI) classes [] t.heap ∧ va_K (dC, dI) classes [] t ∧ va_D (va_A [] sz) []) (va_A [] sz)) 0 0 (va_A [] sz) := by
  refine Met.ofW (cc := cX12_in) (maxL := 6) (ret := (some .boolean)) (by decide) rfl ?_
  intro p e s m args below meth c s₁ B hml hv
  obtain ⟨rfl, hsz, hP, hK, hD0, hE⟩ := hv
  have hx := B.exec
  have hb := B.bytes
  have hr := B.returns
  have hts := atoms_spec (ws := .code yX12_in cX12_in 6 (some .boolean) :: wsA) B.pre
  have hq : ∀ w ∈ wsA, w.before _ s = true := fun w h => hts w (List.mem_cons_of_mem _ h)
  have hown : s.vm.findClass RX12 = some m.cls := findClass_of_methodNamed B.named
  have hlocks := B.notSynchronized
  subst hsz
  have hD := hD0.self (sz := s.heap.size)
  generalize hAe : va_A [] s.heap.size = A at hD ⊢
  have hA : ∀ q : Nat, s.heap.size ≤ q → A q := fun q h => by rw [← hAe]; exact Or.inr h
  have hS : va_S A s.heap s.heap [] := va_S.rf
  have hl := lv_entry ([.long 2, .long 0, .long 3]) (n := 6) (Nat.le_of_ble_eq_true rfl)
  rw [lg_entry_eq]
  generalize (lg_sl ([.long 2, .long 0, .long 3]) ++ List.replicate (6 - (lg_sl ([.long 2, .long 0, .long 3])).length) Slot.unset).toArray = ls at hl ⊢
  have hl : lv_has ls 6 [(0, .long 2), (2, .long 0), (4, .long 3)] := hl
  refine lv_lload_n hx hb dX12_in_0 rfl (lv_at hl 0 rfl) ?_
  refine lv_lload_n hx hb dX12_in_1 rfl (lv_at hl 1 rfl) ?_
  refine W.lcmp hx hb dX12_in_2 ?_
  refine lv_topi (fun y_3 ey_3 => ?_)
  obtain rfl : y_3 = 1 := ey_3.trans (by decide)
  refine lv_if_lt (tgt := 17) hx hb dX12_in_3 (by decide) (fun c9 => absurd c9 (by decide)) (fun _ => ?_)
  refine lv_lload_n hx hb dX12_in_6 rfl (lv_at hl 0 rfl) ?_
  refine lv_lload hx hb dX12_in_7 (lv_at hl 2 rfl) ?_
  refine W.lcmp hx hb dX12_in_9 ?_
  refine lv_topi (fun y_5 ey_5 => ?_)
  obtain rfl : y_5 = (-1) := ey_5.trans (by decide)
  refine lv_if_gt (tgt := 17) hx hb dX12_in_10 (by decide) (fun c9 => absurd c9 (by decide)) (fun _ => ?_)
  refine lv_iconst (v := 1) hx hb dX12_in_13 (by decide) ?_
  refine lv_goto (tgt := 18) hx hb dX12_in_14 (by decide) ?_
  refine W.widen (k := 0) (n := 0) (Nat.le_of_ble_eq_true rfl) (Nat.le_of_ble_eq_true rfl) ?_
  exact W.zret (v := 1) hx hb hr (by decide) (fun t ht hW => ⟨⟨1, (), rfl, rfl, by rw [ht]; exact hP, va_K.moved hW.alike hK, hD⟩, hS.F ht⟩) hS.2.2 dX12_in_18

set_option maxHeartbeats 4000000 in
set_option maxRecDepth 100000 in
/-- m_in_3 -/
theorem m_in_3 (l : Launch) (dC : Nat → ClassId) (dI : Nat → Nat → Nat) (sz : Nat) : Met l yX12_in (.code yX12_in cX12_in 6 (some .boolean) :: wsA) ({ frames := 0, cells := 0, slots := 0, locals := 0 }) (va_Pc [.long 3, .long 0, .long 3] (fun U => U.heap.size = sz ∧ va_P (dC, dI) classes [] U.heap ∧ va_K (dC, dI) classes [] U ∧ va_D (fun _ => True) [] ∧ xE U)) (va_Qi (fun (r : Int32) (_ : Unit) => r = 1) (fun _ t => va_P (dC, dI) classes [] t.heap ∧ va_K (dC, dI) classes [] t ∧ va_D (va_A [] sz) []) (va_A [] sz)) 0 0 (va_A [] sz) := by
  refine Met.ofW (cc := cX12_in) (maxL := 6) (ret := (some .boolean)) (by decide) rfl ?_
  intro p e s m args below meth c s₁ B hml hv
  obtain ⟨rfl, hsz, hP, hK, hD0, hE⟩ := hv
  have hx := B.exec
  have hb := B.bytes
  have hr := B.returns
  have hts := atoms_spec (ws := .code yX12_in cX12_in 6 (some .boolean) :: wsA) B.pre
  have hq : ∀ w ∈ wsA, w.before _ s = true := fun w h => hts w (List.mem_cons_of_mem _ h)
  have hown : s.vm.findClass RX12 = some m.cls := findClass_of_methodNamed B.named
  have hlocks := B.notSynchronized
  subst hsz
  have hD := hD0.self (sz := s.heap.size)
  generalize hAe : va_A [] s.heap.size = A at hD ⊢
  have hA : ∀ q : Nat, s.heap.size ≤ q → A q := fun q h => by rw [← hAe]; exact Or.inr h
  have hS : va_S A s.heap s.heap [] := va_S.rf
  have hl := lv_entry ([.long 3, .long 0, .long 3]) (n := 6) (Nat.le_of_ble_eq_true rfl)
  rw [lg_entry_eq]
  generalize (lg_sl ([.long 3, .long 0, .long 3]) ++ List.replicate (6 - (lg_sl ([.long 3, .long 0, .long 3])).length) Slot.unset).toArray = ls at hl ⊢
  have hl : lv_has ls 6 [(0, .long 3), (2, .long 0), (4, .long 3)] := hl
  refine lv_lload_n hx hb dX12_in_0 rfl (lv_at hl 0 rfl) ?_
  refine lv_lload_n hx hb dX12_in_1 rfl (lv_at hl 1 rfl) ?_
  refine W.lcmp hx hb dX12_in_2 ?_
  refine lv_topi (fun y_3 ey_3 => ?_)
  obtain rfl : y_3 = 1 := ey_3.trans (by decide)
  refine lv_if_lt (tgt := 17) hx hb dX12_in_3 (by decide) (fun c9 => absurd c9 (by decide)) (fun _ => ?_)
  refine lv_lload_n hx hb dX12_in_6 rfl (lv_at hl 0 rfl) ?_
  refine lv_lload hx hb dX12_in_7 (lv_at hl 2 rfl) ?_
  refine W.lcmp hx hb dX12_in_9 ?_
  refine lv_topi (fun y_5 ey_5 => ?_)
  obtain rfl : y_5 = 0 := ey_5.trans (by decide)
  refine lv_if_gt (tgt := 17) hx hb dX12_in_10 (by decide) (fun c9 => absurd c9 (by decide)) (fun _ => ?_)
  refine lv_iconst (v := 1) hx hb dX12_in_13 (by decide) ?_
  refine lv_goto (tgt := 18) hx hb dX12_in_14 (by decide) ?_
  refine W.widen (k := 0) (n := 0) (Nat.le_of_ble_eq_true rfl) (Nat.le_of_ble_eq_true rfl) ?_
  exact W.zret (v := 1) hx hb hr (by decide) (fun t ht hW => ⟨⟨1, (), rfl, rfl, by rw [ht]; exact hP, va_K.moved hW.alike hK, hD⟩, hS.F ht⟩) hS.2.2 dX12_in_18

set_option maxHeartbeats 4000000 in
set_option maxRecDepth 100000 in
/-- m_in -/
theorem m_in (l : Launch) (dC : Nat → ClassId) (dI : Nat → Nat → Nat) (sz : Nat) (z0 : Int64) (z1 : Int64) (z2 : Int64) : Met l yX12_in (.code yX12_in cX12_in 6 (some .boolean) :: wsA) ({ frames := 0, cells := 0, slots := 0, locals := 0 }) (va_Pc [.long z0, .long z1, .long z2] (fun U => U.heap.size = sz ∧ va_P (dC, dI) classes [] U.heap ∧ va_K (dC, dI) classes [] U ∧ va_D (fun _ => True) [] ∧ xE U)) (va_Qi (fun (r : Int32) (u : Int32) => r = u ∧ True) (fun u t => (¬ u = 0 → z1 ≤ z0 ∧ z0 ≤ z2) ∧ va_P (dC, dI) classes [] t.heap ∧ va_K (dC, dI) classes [] t ∧ va_D (va_A [] sz) []) (va_A [] sz)) 0 0 (va_A [] sz) := by
  refine Met.ofW (cc := cX12_in) (maxL := 6) (ret := (some .boolean)) (by decide) rfl ?_
  intro p e s m args below meth c s₁ B hml hv
  obtain ⟨rfl, hsz, hP, hK, hD0, hE⟩ := hv
  have hx := B.exec
  have hb := B.bytes
  have hr := B.returns
  have hts := atoms_spec (ws := .code yX12_in cX12_in 6 (some .boolean) :: wsA) B.pre
  have hq : ∀ w ∈ wsA, w.before _ s = true := fun w h => hts w (List.mem_cons_of_mem _ h)
  have hown : s.vm.findClass RX12 = some m.cls := findClass_of_methodNamed B.named
  have hlocks := B.notSynchronized
  subst hsz
  have hD := hD0.self (sz := s.heap.size)
  generalize hAe : va_A [] s.heap.size = A at hD ⊢
  have hA : ∀ q : Nat, s.heap.size ≤ q → A q := fun q h => by rw [← hAe]; exact Or.inr h
  have hS : va_S A s.heap s.heap [] := va_S.rf
  have hl := lv_entry ([.long z0, .long z1, .long z2]) (n := 6) (Nat.le_of_ble_eq_true rfl)
  rw [lg_entry_eq]
  generalize (lg_sl ([.long z0, .long z1, .long z2]) ++ List.replicate (6 - (lg_sl ([.long z0, .long z1, .long z2])).length) Slot.unset).toArray = ls at hl ⊢
  have hl : lv_has ls 6 [(0, .long z0), (2, .long z1), (4, .long z2)] := hl
  refine lv_lload_n hx hb dX12_in_0 rfl (lv_at hl 0 rfl) ?_
  refine lv_lload_n hx hb dX12_in_1 rfl (lv_at hl 1 rfl) ?_
  refine W.lcmp hx hb dX12_in_2 ?_
  refine lv_topi (fun y_5 ey_5 => ?_)
  refine W.cut (I := fun H locs g => ∃ (ls : Array Slot), va_P (dC, dI) classes [] H ∧ va_D A [] ∧ va_S A s.heap H locs ∧ lv_has ls 6 [] ∧ g = F0 m 17 ls []) (fun H locs g h => ?_) (fun hJ17 => ?_)
  · obtain ⟨ls, hP, hD, hS, hl, rfl⟩ := h
    refine lv_iconst (v := 0) hx hb dX12_in_17 (by decide) ?_
    have p_9 : ¬ (0 : Int32) = 0 → z1 ≤ z0 ∧ z0 ≤ z2 := fun h9 => absurd rfl h9
    refine W.widen (k := 0) (n := 0) (Nat.le_of_ble_eq_true rfl) (Nat.le_of_ble_eq_true rfl) ?_
    exact W.zret (v := 0) hx hb hr (by decide) (fun t ht hW => ⟨⟨0, 0, rfl, ⟨rfl, trivial⟩, p_9, by rw [ht]; exact hP, va_K.moved hW.alike hK, hD⟩, hS.F ht⟩) hS.2.2 dX12_in_18
  refine lv_if_lt (tgt := 17) hx hb dX12_in_3 (by decide) (fun c_10 => ?_) (fun c_10 => ?_)
  · exact hJ17 _ _ _ ⟨_, hP, hD, hS, (lv_sub hl [] rfl), rfl⟩
  · refine lv_lload_n hx hb dX12_in_6 rfl (lv_at hl 0 rfl) ?_
    refine lv_lload hx hb dX12_in_7 (lv_at hl 2 rfl) ?_
    refine W.lcmp hx hb dX12_in_9 ?_
    refine lv_topi (fun y_11 ey_11 => ?_)
    refine lv_if_gt (tgt := 17) hx hb dX12_in_10 (by decide) (fun c_12 => ?_) (fun c_12 => ?_)
    · exact hJ17 _ _ _ ⟨_, hP, hD, hS, (lv_sub hl [] rfl), rfl⟩
    · refine lv_iconst (v := 1) hx hb dX12_in_13 (by decide) ?_
      refine lv_goto (tgt := 18) hx hb dX12_in_14 (by decide) ?_
      have p_13 : ¬ (1 : Int32) = 0 → z1 ≤ z0 ∧ z0 ≤ z2 := fun _ => ⟨in_ge ey_5 c_10, in_le ey_11 c_12⟩
      refine W.widen (k := 0) (n := 0) (Nat.le_of_ble_eq_true rfl) (Nat.le_of_ble_eq_true rfl) ?_
      exact W.zret (v := 1) hx hb hr (by decide) (fun t ht hW => ⟨⟨1, 1, rfl, ⟨rfl, trivial⟩, p_13, by rw [ht]; exact hP, va_K.moved hW.alike hK, hD⟩, hS.F ht⟩) hS.2.2 dX12_in_18

set_option maxHeartbeats 4000000 in
set_option maxRecDepth 100000 in
/-- m_isOf -/
theorem m_isOf (l : Launch) (dC : Nat → ClassId) (dI : Nat → Nat → Nat) (sz : Nat) (x0 : Int32) (x1 : Int32) : Met l yX12_isOf (.code yX12_isOf cX12_isOf 2 (some .boolean) :: wsA) ({ frames := 0, cells := 0, slots := 0, locals := 0 }) (va_Pc [.int x0, .int x1] (fun U => U.heap.size = sz ∧ va_P (dC, dI) classes [] U.heap ∧ va_K (dC, dI) classes [] U ∧ va_D (fun _ => True) [] ∧ xE U)) (va_Qi (fun (r : Int32) (_ : Unit) => True) (fun _ t => va_P (dC, dI) classes [] t.heap ∧ va_K (dC, dI) classes [] t ∧ va_D (va_A [] sz) []) (va_A [] sz)) 0 0 (va_A [] sz) := by
  refine Met.ofW (cc := cX12_isOf) (maxL := 2) (ret := (some .boolean)) (by decide) rfl ?_
  intro p e s m args below meth c s₁ B hml hv
  obtain ⟨rfl, hsz, hP, hK, hD0, hE⟩ := hv
  have hx := B.exec
  have hb := B.bytes
  have hr := B.returns
  have hts := atoms_spec (ws := .code yX12_isOf cX12_isOf 2 (some .boolean) :: wsA) B.pre
  have hq : ∀ w ∈ wsA, w.before _ s = true := fun w h => hts w (List.mem_cons_of_mem _ h)
  have hown : s.vm.findClass RX12 = some m.cls := findClass_of_methodNamed B.named
  have hlocks := B.notSynchronized
  subst hsz
  have hD := hD0.self (sz := s.heap.size)
  generalize hAe : va_A [] s.heap.size = A at hD ⊢
  have hA : ∀ q : Nat, s.heap.size ≤ q → A q := fun q h => by rw [← hAe]; exact Or.inr h
  have hS : va_S A s.heap s.heap [] := va_S.rf
  have hl := lv_entry ([.int x0, .int x1]) (n := 2) (Nat.le_of_ble_eq_true rfl)
  rw [lg_entry_eq]
  generalize (lg_sl ([.int x0, .int x1]) ++ List.replicate (2 - (lg_sl ([.int x0, .int x1])).length) Slot.unset).toArray = ls at hl ⊢
  have hl : lv_has ls 2 [(0, .int x0), (1, .int x1)] := hl
  refine lv_iload_n hx hb dX12_isOf_0 rfl (lv_at hl 0 rfl) ?_
  refine lv_iload_n hx hb dX12_isOf_1 rfl (lv_at hl 1 rfl) ?_
  refine lv_ishr hx hb dX12_isOf_2 ?_
  refine lv_topi (fun y_4 ey_4 => ?_)
  refine lv_iconst (v := 1) hx hb dX12_isOf_3 (by decide) ?_
  refine lv_iand hx hb dX12_isOf_4 ?_
  refine lv_topi (fun y_5 ey_5 => ?_)
  refine lv_iconst (v := 1) hx hb dX12_isOf_5 (by decide) ?_
  refine lv_icmp_ne (tgt := 13) hx hb dX12_isOf_6 (by decide) (fun c_6 => ?_) (fun c_6 => ?_)
  · refine lv_iconst (v := 0) hx hb dX12_isOf_13 (by decide) ?_
    refine W.widen (k := 0) (n := 0) (Nat.le_of_ble_eq_true rfl) (Nat.le_of_ble_eq_true rfl) ?_
    exact W.zret (v := 0) hx hb hr (by decide) (fun t ht hW => ⟨⟨0, (), rfl, trivial, by rw [ht]; exact hP, va_K.moved hW.alike hK, hD⟩, hS.F ht⟩) hS.2.2 dX12_isOf_14
  · refine lv_iconst (v := 1) hx hb dX12_isOf_9 (by decide) ?_
    refine lv_goto (tgt := 14) hx hb dX12_isOf_10 (by decide) ?_
    refine W.widen (k := 0) (n := 0) (Nat.le_of_ble_eq_true rfl) (Nat.le_of_ble_eq_true rfl) ?_
    exact W.zret (v := 1) hx hb hr (by decide) (fun t ht hW => ⟨⟨1, (), rfl, trivial, by rw [ht]; exact hP, va_K.moved hW.alike hK, hD⟩, hS.F ht⟩) hS.2.2 dX12_isOf_14

set_option maxHeartbeats 4000000 in
set_option maxRecDepth 100000 in
/-- m_bits -/
theorem m_bits (l : Launch) (dC : Nat → ClassId) (dI : Nat → Nat → Nat) (sz : Nat) (x0 : Int32) : Met l yX12_bits (.code yX12_bits cX12_bits 3 (some .int) :: wsA) ({ frames := 0, cells := 0, slots := 0, locals := 0 }) (va_Pc [.int x0] (fun U => U.heap.size = sz ∧ va_P (dC, dI) classes [] U.heap ∧ va_K (dC, dI) classes [] U ∧ va_D (fun _ => True) [] ∧ xE U)) (va_Qi (fun (r : Int32) (_ : Unit) => True) (fun _ t => va_P (dC, dI) classes [] t.heap ∧ va_K (dC, dI) classes [] t ∧ va_D (va_A [] sz) []) (va_A [] sz)) 0 0 (va_A [] sz) := by
  refine Met.ofW (cc := cX12_bits) (maxL := 3) (ret := (some .int)) (by decide) rfl ?_
  intro p e s m args below meth c s₁ B hml hv
  obtain ⟨rfl, hsz, hP, hK, hD0, hE⟩ := hv
  have hx := B.exec
  have hb := B.bytes
  have hr := B.returns
  have hts := atoms_spec (ws := .code yX12_bits cX12_bits 3 (some .int) :: wsA) B.pre
  have hq : ∀ w ∈ wsA, w.before _ s = true := fun w h => hts w (List.mem_cons_of_mem _ h)
  have hown : s.vm.findClass RX12 = some m.cls := findClass_of_methodNamed B.named
  have hlocks := B.notSynchronized
  subst hsz
  have hD := hD0.self (sz := s.heap.size)
  generalize hAe : va_A [] s.heap.size = A at hD ⊢
  have hA : ∀ q : Nat, s.heap.size ≤ q → A q := fun q h => by rw [← hAe]; exact Or.inr h
  have hS : va_S A s.heap s.heap [] := va_S.rf
  have hl := lv_entry ([.int x0]) (n := 3) (Nat.le_of_ble_eq_true rfl)
  rw [lg_entry_eq]
  generalize (lg_sl ([.int x0]) ++ List.replicate (3 - (lg_sl ([.int x0])).length) Slot.unset).toArray = ls at hl ⊢
  have hl : lv_has ls 3 [(0, .int x0)] := hl
  refine lv_iconst (v := 0) hx hb dX12_bits_0 (by decide) ?_
  refine lv_istore_n (lv' := [(1, .int 0), (0, .int x0)]) hx hb dX12_bits_1 rfl hl (by decide) rfl (fun ls hl => ?_)
  refine lv_iload_n hx hb dX12_bits_2 rfl (lv_at hl 1 rfl) ?_
  refine lv_istore_n (lv' := [(2, .int x0), (1, .int 0), (0, .int x0)]) hx hb dX12_bits_3 rfl hl (by decide) rfl (fun ls hl => ?_)
  refine W.loop (I := fun n H locs g => ∃ (y_137 : Int32) (y_138 : Int32) (ls : Array Slot), ((y_137).toBitVec.toNat < n) ∧ va_P (dC, dI) classes [] H ∧ va_D A [] ∧ va_S A s.heap H locs ∧ lv_has ls 3 [(2, .int y_137), (1, .int y_138)] ∧ g = F0 m 4 ls []) (fun H locs g h => ?_) (fun n ih4 H locs g h => ?_) (n := (2 ^ 32)) ⟨x0, 0, _, (x0).toBitVec.isLt, hP, hD, hS, (lv_sub hl [0, 1] rfl), rfl⟩
  · obtain ⟨y_137, y_138, ls, hm, hP, hD, hS, hl, rfl⟩ := h
    exact absurd hm (Nat.not_lt_zero _)
  · obtain ⟨y_137, y_138, ls, hm4, hP, hD, hS, hl, rfl⟩ := h
    refine lv_iload_n hx hb dX12_bits_4 rfl (lv_at hl 0 rfl) ?_
    refine lv_if_eq (tgt := 20) hx hb dX12_bits_5 (by decide) (fun c_263 => ?_) (fun c_263 => ?_)
    · refine lv_iload_n hx hb dX12_bits_20 rfl (lv_at hl 1 rfl) ?_
      refine W.widen (k := 0) (n := 0) (Nat.le_of_ble_eq_true rfl) (Nat.le_of_ble_eq_true rfl) ?_
      exact W.iret (v := y_138) hx hb hr (fun t ht hW => ⟨⟨y_138, (), rfl, trivial, by rw [ht]; exact hP, va_K.moved hW.alike hK, hD⟩, hS.F ht⟩) hS.2.2 dX12_bits_21
    · obtain ⟨y_264, ey_264⟩ : ∃ y : Int32, y = y_138 + 1 := ⟨_, rfl⟩
      refine lv_iinc (v := y_264) (lv' := [(1, .int y_264), (2, .int y_137)]) hx hb dX12_bits_8 hl (k := 1) rfl (by rw [ey_264]; rfl) (by decide) rfl (fun ls hl => ?_)
      refine lv_iload_n hx hb dX12_bits_11 rfl (lv_at hl 1 rfl) ?_
      refine lv_iload_n hx hb dX12_bits_12 rfl (lv_at hl 1 rfl) ?_
      refine lv_iconst (v := 1) hx hb dX12_bits_13 (by decide) ?_
      refine lv_isub hx hb dX12_bits_14 ?_
      refine lv_topi (fun y_265 ey_265 => ?_)
      refine lv_iand hx hb dX12_bits_15 ?_
      refine lv_topi (fun y_266 ey_266 => ?_)
      refine lv_istore_n (lv' := [(2, .int y_266), (1, .int y_264)]) hx hb dX12_bits_16 rfl hl (by decide) rfl (fun ls hl => ?_)
      refine lv_goto (tgt := 4) hx hb dX12_bits_17 (by decide) ?_
      exact ih4 _ _ _ ⟨y_266, y_264, _, bits_fall ey_265 ey_266 (c_263) hm4, hP, hD, hS, hl, rfl⟩
