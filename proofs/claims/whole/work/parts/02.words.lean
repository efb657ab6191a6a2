/-! words of the table, by their places -/
set_option maxRecDepth 20000 in
theorem tw_0 : Cond.selects R_Machines y_Machines_fillTable y_Machines_fillTable ∈ lw_g := lw_g_of (List.mem_of_getElem? (i := 0) rfl) rfl
set_option maxRecDepth 20000 in
theorem tw_1 : Cond.selects R_SettingSearch y_SettingSearch_goOn y_SettingSearch_goOn ∈ lw_g := lw_g_of (List.mem_of_getElem? (i := 1) rfl) rfl
set_option maxRecDepth 20000 in
theorem tw_2 : Cond.selects R_SettingSearch y_SettingSearch_boundOf y_SettingSearch_boundOf ∈ lw_g := lw_g_of (List.mem_of_getElem? (i := 2) rfl) rfl
set_option maxRecDepth 20000 in
theorem tw_3 : Cond.selects R_SettingSearch y_SettingSearch_weigh y_SettingSearch_weigh ∈ lw_g := lw_g_of (List.mem_of_getElem? (i := 3) rfl) rfl
set_option maxRecDepth 20000 in
theorem tw_4 : Cond.selects R_Rules y_Rules_isPure y_Rules_isPure ∈ lw_g := lw_g_of (List.mem_of_getElem? (i := 4) rfl) rfl
set_option maxRecDepth 20000 in
theorem tw_5 : Cond.selects R_SettingSearch y_SettingSearch_fewestClashing y_SettingSearch_fewestClashing ∈ lw_g := lw_g_of (List.mem_of_getElem? (i := 5) rfl) rfl
set_option maxRecDepth 20000 in
theorem tw_6 : Cond.selects R_SettingSearch y_SettingSearch_listKeptRules y_SettingSearch_listKeptRules ∈ lw_g := lw_g_of (List.mem_of_getElem? (i := 6) rfl) rfl
set_option maxRecDepth 20000 in
theorem tw_7 : Cond.selects R_SettingSearch y_SettingSearch_noneKeeps y_SettingSearch_noneKeeps ∈ lw_g := lw_g_of (List.mem_of_getElem? (i := 7) rfl) rfl
set_option maxRecDepth 20000 in
theorem tw_8 : Cond.selects R_SettingSearch y_SettingSearch_greatestWorth y_SettingSearch_greatestWorth ∈ lw_g := lw_g_of (List.mem_of_getElem? (i := 8) rfl) rfl
set_option maxRecDepth 20000 in
theorem tw_9 : Cond.selects R_Ref y_Ref_isMachine y_Ref_isMachine ∈ lw_g := lw_g_of (List.mem_of_getElem? (i := 9) rfl) rfl
set_option maxRecDepth 20000 in
theorem tw_10 : Cond.selects R_Ref y_Ref_feedAt y_Ref_feedAt ∈ lw_g := lw_g_of (List.mem_of_getElem? (i := 10) rfl) rfl
set_option maxRecDepth 20000 in
theorem tw_11 : Cond.selects R_Ref y_Ref_changesOf y_Ref_changesOf ∈ lw_g := lw_g_of (List.mem_of_getElem? (i := 11) rfl) rfl
set_option maxRecDepth 20000 in
theorem tw_12 : Cond.selects R_Ref y_Ref_settingOf y_Ref_settingOf ∈ lw_g := lw_g_of (List.mem_of_getElem? (i := 12) rfl) rfl
set_option maxRecDepth 20000 in
theorem tw_13 : Cond.selects R_Ref y_Ref_boundOf y_Ref_boundOf ∈ lw_g := lw_g_of (List.mem_of_getElem? (i := 13) rfl) rfl
set_option maxRecDepth 20000 in
theorem tw_14 : Cond.selects R_Ref y_Ref_look y_Ref_look ∈ lw_g := lw_g_of (List.mem_of_getElem? (i := 14) rfl) rfl
set_option maxRecDepth 20000 in
theorem tw_15 : Cond.selects R_Ref y_Ref_stands y_Ref_stands ∈ lw_g := lw_g_of (List.mem_of_getElem? (i := 15) rfl) rfl
set_option maxRecDepth 20000 in
theorem tw_16 : Cond.selects R_Ref y_Ref_keeps y_Ref_keeps ∈ lw_g := lw_g_of (List.mem_of_getElem? (i := 16) rfl) rfl
set_option maxRecDepth 20000 in
theorem tw_17 : Cond.selects R_Ref y_Ref_worthOf y_Ref_worthOf ∈ lw_g := lw_g_of (List.mem_of_getElem? (i := 17) rfl) rfl
set_option maxRecDepth 20000 in
theorem tw_18 : Cond.selects R_Ref y_Ref_isTold y_Ref_isTold ∈ lw_g := lw_g_of (List.mem_of_getElem? (i := 18) rfl) rfl
set_option maxRecDepth 20000 in
theorem tw_19 : Cond.selects R_Ref y_Ref_canBeKept y_Ref_canBeKept ∈ lw_g := lw_g_of (List.mem_of_getElem? (i := 19) rfl) rfl
set_option maxRecDepth 20000 in
theorem tw_20 : Cond.selects R_Ref y_Ref_greatest y_Ref_greatest ∈ lw_g := lw_g_of (List.mem_of_getElem? (i := 20) rfl) rfl
set_option maxRecDepth 20000 in
theorem tw_21 : Cond.initialized R_Law ∈ lw_g := lw_g_of (List.mem_of_getElem? (i := 21) rfl) rfl
set_option maxRecDepth 20000 in
theorem tw_22 : Cond.initialized R_SettingSearch ∈ lw_g := lw_g_of (List.mem_of_getElem? (i := 22) rfl) rfl
set_option maxRecDepth 20000 in
theorem tw_23 : Cond.initialized R_Machines ∈ lw_g := lw_g_of (List.mem_of_getElem? (i := 23) rfl) rfl
set_option maxRecDepth 20000 in
theorem tw_24 : Cond.initialized R_Rules ∈ lw_g := lw_g_of (List.mem_of_getElem? (i := 24) rfl) rfl
set_option maxRecDepth 20000 in
theorem tw_25 : Cond.initialized R_JArrays ∈ lw_g := lw_g_of (List.mem_of_getElem? (i := 25) rfl) rfl
set_option maxRecDepth 20000 in
theorem tw_26 : Cond.initialized R_Feeds ∈ lw_g := lw_g_of (List.mem_of_getElem? (i := 26) rfl) rfl
set_option maxRecDepth 20000 in
theorem tw_27 : Cond.initialized R_Answers ∈ lw_g := lw_g_of (List.mem_of_getElem? (i := 27) rfl) rfl
set_option maxRecDepth 20000 in
theorem tw_28 : Cond.initialized R_Search ∈ lw_g := lw_g_of (List.mem_of_getElem? (i := 28) rfl) rfl
set_option maxRecDepth 20000 in
theorem tw_29 : Cond.initialized R_Ref ∈ lw_g := lw_g_of (List.mem_of_getElem? (i := 29) rfl) rfl
set_option maxRecDepth 20000 in
theorem tw_30 : Cond.initialized R_JMath ∈ lw_g := lw_g_of (List.mem_of_getElem? (i := 30) rfl) rfl
set_option maxRecDepth 20000 in
theorem tw_31 : Cond.initialized R_JInteger ∈ lw_g := lw_g_of (List.mem_of_getElem? (i := 31) rfl) rfl
set_option maxRecDepth 20000 in
theorem tw_32 : Cond.classLink R_Law 7 R_SettingSearch ∈ lw_g := lw_g_of (List.mem_of_getElem? (i := 32) rfl) rfl
set_option maxRecDepth 20000 in
theorem tw_33 : Cond.instantiable R_SettingSearch 6 ∈ lw_g := lw_g_of (List.mem_of_getElem? (i := 33) rfl) rfl
set_option maxRecDepth 20000 in
theorem tw_34 : Cond.methodLink R_Law 9 y_SettingSearch_init ∈ lw_g := lw_g_of (List.mem_of_getElem? (i := 34) rfl) rfl
set_option maxRecDepth 20000 in
theorem tw_35 : Cond.instanceMethod y_SettingSearch_init ∈ lw_g := lw_g_of (List.mem_of_getElem? (i := 35) rfl) rfl
set_option maxRecDepth 20000 in
theorem tw_36 : Cond.code y_SettingSearch_init b_SettingSearch_init 1 none ∈ lw_g := lw_g_of (List.mem_of_getElem? (i := 36) rfl) rfl
set_option maxRecDepth 20000 in
theorem tw_37 : Cond.methodLink R_SettingSearch 3 objectInit ∈ lw_g := lw_g_of (List.mem_of_getElem? (i := 37) rfl) rfl
set_option maxRecDepth 20000 in
theorem tw_38 : Cond.instanceMethod objectInit ∈ lw_g := lw_g_of (List.mem_of_getElem? (i := 38) rfl) rfl
set_option maxRecDepth 20000 in
theorem tw_39 : Cond.code objectInit ⟨#[0xb1]⟩ 1 none ∈ lw_g := lw_g_of (List.mem_of_getElem? (i := 39) rfl) rfl
set_option maxRecDepth 20000 in
theorem tw_40 : Cond.classLink R_SettingSearch 9 R_Machines ∈ lw_g := lw_g_of (List.mem_of_getElem? (i := 40) rfl) rfl
set_option maxRecDepth 20000 in
theorem tw_41 : Cond.instantiable R_Machines 5 ∈ lw_g := lw_g_of (List.mem_of_getElem? (i := 41) rfl) rfl
set_option maxRecDepth 20000 in
theorem tw_42 : Cond.methodLink R_SettingSearch 11 y_Machines_init ∈ lw_g := lw_g_of (List.mem_of_getElem? (i := 42) rfl) rfl
set_option maxRecDepth 20000 in
theorem tw_43 : Cond.instanceMethod y_Machines_init ∈ lw_g := lw_g_of (List.mem_of_getElem? (i := 43) rfl) rfl
set_option maxRecDepth 20000 in
theorem tw_44 : Cond.code y_Machines_init b_Machines_init 1 none ∈ lw_g := lw_g_of (List.mem_of_getElem? (i := 44) rfl) rfl
set_option maxRecDepth 20000 in
theorem tw_45 : Cond.methodLink R_Machines 3 objectInit ∈ lw_g := lw_g_of (List.mem_of_getElem? (i := 45) rfl) rfl
set_option maxRecDepth 20000 in
theorem tw_46 : Cond.fieldLink R_Machines 25 "SettingSearch$Machines" "count" "I" ∈ lw_g := lw_g_of (List.mem_of_getElem? (i := 46) rfl) rfl
set_option maxRecDepth 20000 in
theorem tw_49 : Cond.fieldLink R_Machines 9 "SettingSearch$Machines" "vectors" "I" ∈ lw_g := lw_g_of (List.mem_of_getElem? (i := 49) rfl) rfl
set_option maxRecDepth 20000 in
theorem tw_51 : Cond.fieldLink R_Machines 15 "SettingSearch$Machines" "settings" "[I" ∈ lw_g := lw_g_of (List.mem_of_getElem? (i := 51) rfl) rfl
set_option maxRecDepth 20000 in
theorem tw_52 : Cond.fieldLink R_Machines 19 "SettingSearch$Machines" "current" "[I" ∈ lw_g := lw_g_of (List.mem_of_getElem? (i := 52) rfl) rfl
set_option maxRecDepth 20000 in
theorem tw_53 : Cond.fieldLink R_Machines 22 "SettingSearch$Machines" "table" "[I" ∈ lw_g := lw_g_of (List.mem_of_getElem? (i := 53) rfl) rfl
set_option maxRecDepth 20000 in
theorem tw_65 : Cond.arrayClass .int ∈ lw_g := lw_g_of (List.mem_of_getElem? (i := 65) rfl) rfl
set_option maxRecDepth 20000 in
theorem tw_66 : Cond.classLink R_SettingSearch 16 R_Rules ∈ lw_g := lw_g_of (List.mem_of_getElem? (i := 66) rfl) rfl
set_option maxRecDepth 20000 in
theorem tw_67 : Cond.instantiable R_Rules 6 ∈ lw_g := lw_g_of (List.mem_of_getElem? (i := 67) rfl) rfl
set_option maxRecDepth 20000 in
theorem tw_68 : Cond.methodLink R_SettingSearch 18 y_Rules_init ∈ lw_g := lw_g_of (List.mem_of_getElem? (i := 68) rfl) rfl
set_option maxRecDepth 20000 in
theorem tw_69 : Cond.instanceMethod y_Rules_init ∈ lw_g := lw_g_of (List.mem_of_getElem? (i := 69) rfl) rfl
set_option maxRecDepth 20000 in
theorem tw_70 : Cond.code y_Rules_init b_Rules_init 1 none ∈ lw_g := lw_g_of (List.mem_of_getElem? (i := 70) rfl) rfl
set_option maxRecDepth 20000 in
theorem tw_71 : Cond.methodLink R_Rules 3 objectInit ∈ lw_g := lw_g_of (List.mem_of_getElem? (i := 71) rfl) rfl
set_option maxRecDepth 20000 in
theorem tw_72 : Cond.methodLink R_Rules 27 y_JArrays_fill ∈ lw_g := lw_g_of (List.mem_of_getElem? (i := 72) rfl) rfl
set_option maxRecDepth 20000 in
theorem tw_73 : Cond.static y_JArrays_fill ∈ lw_g := lw_g_of (List.mem_of_getElem? (i := 73) rfl) rfl
set_option maxRecDepth 20000 in
theorem tw_74 : Cond.code y_JArrays_fill b_JArrays_fill 4 none ∈ lw_g := lw_g_of (List.mem_of_getElem? (i := 74) rfl) rfl
set_option maxRecDepth 20000 in
theorem tw_75 : Cond.fieldLink R_Rules 33 "SettingSearch$Rules" "purities" "I" ∈ lw_g := lw_g_of (List.mem_of_getElem? (i := 75) rfl) rfl
set_option maxRecDepth 20000 in
theorem tw_76 : Cond.fieldLink R_Rules 9 "SettingSearch$Rules" "ports" "[I" ∈ lw_g := lw_g_of (List.mem_of_getElem? (i := 76) rfl) rfl
set_option maxRecDepth 20000 in
theorem tw_77 : Cond.fieldLink R_Rules 15 "SettingSearch$Rules" "kinds" "[I" ∈ lw_g := lw_g_of (List.mem_of_getElem? (i := 77) rfl) rfl
set_option maxRecDepth 20000 in
theorem tw_78 : Cond.fieldLink R_Rules 18 "SettingSearch$Rules" "above" "[I" ∈ lw_g := lw_g_of (List.mem_of_getElem? (i := 78) rfl) rfl
set_option maxRecDepth 20000 in
theorem tw_79 : Cond.fieldLink R_Rules 21 "SettingSearch$Rules" "below" "[I" ∈ lw_g := lw_g_of (List.mem_of_getElem? (i := 79) rfl) rfl
set_option maxRecDepth 20000 in
theorem tw_80 : Cond.fieldLink R_Rules 24 "SettingSearch$Rules" "limits" "[I" ∈ lw_g := lw_g_of (List.mem_of_getElem? (i := 80) rfl) rfl
set_option maxRecDepth 20000 in
theorem tw_95 : Cond.classLink R_SettingSearch 27 R_Feeds ∈ lw_g := lw_g_of (List.mem_of_getElem? (i := 95) rfl) rfl
set_option maxRecDepth 20000 in
theorem tw_96 : Cond.instantiable R_Feeds 2 ∈ lw_g := lw_g_of (List.mem_of_getElem? (i := 96) rfl) rfl
set_option maxRecDepth 20000 in
theorem tw_97 : Cond.methodLink R_SettingSearch 29 y_Feeds_init ∈ lw_g := lw_g_of (List.mem_of_getElem? (i := 97) rfl) rfl
set_option maxRecDepth 20000 in
theorem tw_98 : Cond.instanceMethod y_Feeds_init ∈ lw_g := lw_g_of (List.mem_of_getElem? (i := 98) rfl) rfl
set_option maxRecDepth 20000 in
theorem tw_99 : Cond.code y_Feeds_init b_Feeds_init 2 none ∈ lw_g := lw_g_of (List.mem_of_getElem? (i := 99) rfl) rfl
set_option maxRecDepth 20000 in
theorem tw_100 : Cond.methodLink R_Feeds 3 objectInit ∈ lw_g := lw_g_of (List.mem_of_getElem? (i := 100) rfl) rfl
set_option maxRecDepth 20000 in
theorem tw_101 : Cond.classLink R_Feeds 9 R_Answers ∈ lw_g := lw_g_of (List.mem_of_getElem? (i := 101) rfl) rfl
set_option maxRecDepth 20000 in
theorem tw_103 : Cond.instantiable R_Answers 5 ∈ lw_g := lw_g_of (List.mem_of_getElem? (i := 103) rfl) rfl
set_option maxRecDepth 20000 in
theorem tw_104 : Cond.methodLink R_Feeds 17 y_Answers_init ∈ lw_g := lw_g_of (List.mem_of_getElem? (i := 104) rfl) rfl
set_option maxRecDepth 20000 in
theorem tw_105 : Cond.instanceMethod y_Answers_init ∈ lw_g := lw_g_of (List.mem_of_getElem? (i := 105) rfl) rfl
set_option maxRecDepth 20000 in
theorem tw_106 : Cond.code y_Answers_init b_Answers_init 1 none ∈ lw_g := lw_g_of (List.mem_of_getElem? (i := 106) rfl) rfl
set_option maxRecDepth 20000 in
theorem tw_107 : Cond.methodLink R_Answers 3 objectInit ∈ lw_g := lw_g_of (List.mem_of_getElem? (i := 107) rfl) rfl
set_option maxRecDepth 20000 in
theorem tw_108 : Cond.fieldLink R_Answers 22 "SettingSearch$Answers" "feed" "J" ∈ lw_g := lw_g_of (List.mem_of_getElem? (i := 108) rfl) rfl
set_option maxRecDepth 20000 in
theorem tw_111 : Cond.fieldLink R_Answers 26 "SettingSearch$Answers" "count" "I" ∈ lw_g := lw_g_of (List.mem_of_getElem? (i := 111) rfl) rfl
set_option maxRecDepth 20000 in
theorem tw_113 : Cond.fieldLink R_Answers 9 "SettingSearch$Answers" "known" "[Z" ∈ lw_g := lw_g_of (List.mem_of_getElem? (i := 113) rfl) rfl
set_option maxRecDepth 20000 in
theorem tw_114 : Cond.fieldLink R_Answers 15 "SettingSearch$Answers" "grams" "[I" ∈ lw_g := lw_g_of (List.mem_of_getElem? (i := 114) rfl) rfl
set_option maxRecDepth 20000 in
theorem tw_115 : Cond.fieldLink R_Answers 19 "SettingSearch$Answers" "loads" "[I" ∈ lw_g := lw_g_of (List.mem_of_getElem? (i := 115) rfl) rfl
set_option maxRecDepth 20000 in
theorem tw_127 : Cond.arrayClass .boolean ∈ lw_g := lw_g_of (List.mem_of_getElem? (i := 127) rfl) rfl
set_option maxRecDepth 20000 in
theorem tw_128 : Cond.fieldLink R_Feeds 18 "SettingSearch$Feeds" "used" "I" ∈ lw_g := lw_g_of (List.mem_of_getElem? (i := 128) rfl) rfl
set_option maxRecDepth 20000 in
theorem tw_129 : Cond.fieldLink R_Feeds 11 "SettingSearch$Feeds" "rows" "[LSettingSearch$Answers;" ∈ lw_g := lw_g_of (List.mem_of_getElem? (i := 129) rfl) rfl
set_option maxRecDepth 20000 in
theorem tw_135 : Cond.classLink R_SettingSearch 34 R_Search ∈ lw_g := lw_g_of (List.mem_of_getElem? (i := 135) rfl) rfl
set_option maxRecDepth 20000 in
theorem tw_136 : Cond.instantiable R_Search 8 ∈ lw_g := lw_g_of (List.mem_of_getElem? (i := 136) rfl) rfl
set_option maxRecDepth 20000 in
theorem tw_137 : Cond.methodLink R_SettingSearch 36 y_Search_init ∈ lw_g := lw_g_of (List.mem_of_getElem? (i := 137) rfl) rfl
set_option maxRecDepth 20000 in
theorem tw_138 : Cond.instanceMethod y_Search_init ∈ lw_g := lw_g_of (List.mem_of_getElem? (i := 138) rfl) rfl
set_option maxRecDepth 20000 in
theorem tw_139 : Cond.code y_Search_init b_Search_init 1 none ∈ lw_g := lw_g_of (List.mem_of_getElem? (i := 139) rfl) rfl
set_option maxRecDepth 20000 in
theorem tw_140 : Cond.methodLink R_Search 3 objectInit ∈ lw_g := lw_g_of (List.mem_of_getElem? (i := 140) rfl) rfl
set_option maxRecDepth 20000 in
theorem tw_141 : Cond.methodLink R_Search 15 y_Search_forget ∈ lw_g := lw_g_of (List.mem_of_getElem? (i := 141) rfl) rfl
set_option maxRecDepth 20000 in
theorem tw_142 : Cond.instanceMethod y_Search_forget ∈ lw_g := lw_g_of (List.mem_of_getElem? (i := 142) rfl) rfl
set_option maxRecDepth 20000 in
theorem tw_143 : Cond.selects R_Search y_Search_forget y_Search_forget ∈ lw_g := lw_g_of (List.mem_of_getElem? (i := 143) rfl) rfl
set_option maxRecDepth 20000 in
theorem tw_144 : Cond.code y_Search_forget b_Search_forget 1 none ∈ lw_g := lw_g_of (List.mem_of_getElem? (i := 144) rfl) rfl
set_option maxRecDepth 20000 in
theorem tw_145 : Cond.constantLong R_Search 35 (-9223372036854775808) ∈ lw_g := lw_g_of (List.mem_of_getElem? (i := 145) rfl) rfl
set_option maxRecDepth 20000 in
theorem tw_146 : Cond.fieldLink R_Search 18 "SettingSearch$Search" "answers" "LSettingSearch$Answers;" ∈ lw_g := lw_g_of (List.mem_of_getElem? (i := 146) rfl) rfl
set_option maxRecDepth 20000 in
theorem tw_149 : Cond.fieldLink R_Search 22 "SettingSearch$Search" "going" "Z" ∈ lw_g := lw_g_of (List.mem_of_getElem? (i := 149) rfl) rfl
set_option maxRecDepth 20000 in
theorem tw_150 : Cond.fieldLink R_Search 26 "SettingSearch$Search" "asked" "I" ∈ lw_g := lw_g_of (List.mem_of_getElem? (i := 150) rfl) rfl
set_option maxRecDepth 20000 in
theorem tw_152 : Cond.fieldLink R_Search 30 "SettingSearch$Search" "best" "I" ∈ lw_g := lw_g_of (List.mem_of_getElem? (i := 152) rfl) rfl
set_option maxRecDepth 20000 in
theorem tw_154 : Cond.fieldLink R_Search 37 "SettingSearch$Search" "bestWorth" "J" ∈ lw_g := lw_g_of (List.mem_of_getElem? (i := 154) rfl) rfl
set_option maxRecDepth 20000 in
theorem tw_156 : Cond.fieldLink R_Search 41 "SettingSearch$Search" "at" "I" ∈ lw_g := lw_g_of (List.mem_of_getElem? (i := 156) rfl) rfl
set_option maxRecDepth 20000 in
theorem tw_158 : Cond.fieldLink R_Search 44 "SettingSearch$Search" "length" "I" ∈ lw_g := lw_g_of (List.mem_of_getElem? (i := 158) rfl) rfl
set_option maxRecDepth 20000 in
theorem tw_160 : Cond.fieldLink R_Search 9 "SettingSearch$Search" "order" "[I" ∈ lw_g := lw_g_of (List.mem_of_getElem? (i := 160) rfl) rfl
set_option maxRecDepth 20000 in
theorem tw_179 : Cond.fieldLink R_SettingSearch 12 "SettingSearch" "machines" "LSettingSearch$Machines;" ∈ lw_g := lw_g_of (List.mem_of_getElem? (i := 179) rfl) rfl
set_option maxRecDepth 20000 in
theorem tw_180 : Cond.fieldLink R_SettingSearch 19 "SettingSearch" "rules" "LSettingSearch$Rules;" ∈ lw_g := lw_g_of (List.mem_of_getElem? (i := 180) rfl) rfl
set_option maxRecDepth 20000 in
theorem tw_181 : Cond.fieldLink R_SettingSearch 23 "SettingSearch" "cents" "[I" ∈ lw_g := lw_g_of (List.mem_of_getElem? (i := 181) rfl) rfl
set_option maxRecDepth 20000 in
theorem tw_182 : Cond.fieldLink R_SettingSearch 30 "SettingSearch" "feeds" "LSettingSearch$Feeds;" ∈ lw_g := lw_g_of (List.mem_of_getElem? (i := 182) rfl) rfl
set_option maxRecDepth 20000 in
theorem tw_183 : Cond.fieldLink R_SettingSearch 37 "SettingSearch" "search" "LSettingSearch$Search;" ∈ lw_g := lw_g_of (List.mem_of_getElem? (i := 183) rfl) rfl
set_option maxRecDepth 20000 in
theorem tw_184 : Cond.fieldLink R_SettingSearch 41 "SettingSearch" "keptRules" "[I" ∈ lw_g := lw_g_of (List.mem_of_getElem? (i := 184) rfl) rfl
set_option maxRecDepth 20000 in
theorem tw_198 : Cond.methodLink R_Law 13 y_SettingSearch_machine ∈ lw_g := lw_g_of (List.mem_of_getElem? (i := 198) rfl) rfl
set_option maxRecDepth 20000 in
theorem tw_199 : Cond.instanceMethod y_SettingSearch_machine ∈ lw_g := lw_g_of (List.mem_of_getElem? (i := 199) rfl) rfl
set_option maxRecDepth 20000 in
theorem tw_200 : Cond.selects R_SettingSearch y_SettingSearch_machine y_SettingSearch_machine ∈ lw_g := lw_g_of (List.mem_of_getElem? (i := 200) rfl) rfl
set_option maxRecDepth 20000 in
theorem tw_201 : Cond.code y_SettingSearch_machine b_SettingSearch_machine 2 (some .int) ∈ lw_g := lw_g_of (List.mem_of_getElem? (i := 201) rfl) rfl
set_option maxRecDepth 20000 in
theorem tw_202 : Cond.methodLink R_SettingSearch 48 y_Machines_add ∈ lw_g := lw_g_of (List.mem_of_getElem? (i := 202) rfl) rfl
set_option maxRecDepth 20000 in
theorem tw_203 : Cond.instanceMethod y_Machines_add ∈ lw_g := lw_g_of (List.mem_of_getElem? (i := 203) rfl) rfl
set_option maxRecDepth 20000 in
theorem tw_204 : Cond.selects R_Machines y_Machines_add y_Machines_add ∈ lw_g := lw_g_of (List.mem_of_getElem? (i := 204) rfl) rfl
set_option maxRecDepth 20000 in
theorem tw_205 : Cond.code y_Machines_add b_Machines_add 2 (some .boolean) ∈ lw_g := lw_g_of (List.mem_of_getElem? (i := 205) rfl) rfl
set_option maxRecDepth 20000 in
theorem tw_206 : Cond.methodLink R_Machines 28 y_Machines_fillTable ∈ lw_g := lw_g_of (List.mem_of_getElem? (i := 206) rfl) rfl
set_option maxRecDepth 20000 in
theorem tw_208 : Cond.instanceMethod y_Machines_fillTable ∈ lw_g := lw_g_of (List.mem_of_getElem? (i := 208) rfl) rfl
set_option maxRecDepth 20000 in
theorem tw_209 : Cond.code y_Machines_fillTable b_Machines_fillTable 5 none ∈ lw_g := lw_g_of (List.mem_of_getElem? (i := 209) rfl) rfl
set_option maxRecDepth 20000 in
theorem tw_210 : Cond.methodLink R_SettingSearch 52 y_Feeds_forget ∈ lw_g := lw_g_of (List.mem_of_getElem? (i := 210) rfl) rfl
set_option maxRecDepth 20000 in
theorem tw_211 : Cond.instanceMethod y_Feeds_forget ∈ lw_g := lw_g_of (List.mem_of_getElem? (i := 211) rfl) rfl
set_option maxRecDepth 20000 in
theorem tw_212 : Cond.selects R_Feeds y_Feeds_forget y_Feeds_forget ∈ lw_g := lw_g_of (List.mem_of_getElem? (i := 212) rfl) rfl
set_option maxRecDepth 20000 in
theorem tw_213 : Cond.code y_Feeds_forget b_Feeds_forget 1 none ∈ lw_g := lw_g_of (List.mem_of_getElem? (i := 213) rfl) rfl
set_option maxRecDepth 20000 in
theorem tw_214 : Cond.methodLink R_SettingSearch 55 y_Search_forget ∈ lw_g := lw_g_of (List.mem_of_getElem? (i := 214) rfl) rfl
set_option maxRecDepth 20000 in
theorem tw_215 : Cond.methodLink R_Law 18 y_SettingSearch_worth ∈ lw_g := lw_g_of (List.mem_of_getElem? (i := 215) rfl) rfl
set_option maxRecDepth 20000 in
theorem tw_216 : Cond.instanceMethod y_SettingSearch_worth ∈ lw_g := lw_g_of (List.mem_of_getElem? (i := 216) rfl) rfl
set_option maxRecDepth 20000 in
theorem tw_217 : Cond.selects R_SettingSearch y_SettingSearch_worth y_SettingSearch_worth ∈ lw_g := lw_g_of (List.mem_of_getElem? (i := 217) rfl) rfl
set_option maxRecDepth 20000 in
theorem tw_218 : Cond.code y_SettingSearch_worth b_SettingSearch_worth 5 (some .boolean) ∈ lw_g := lw_g_of (List.mem_of_getElem? (i := 218) rfl) rfl
set_option maxRecDepth 20000 in
theorem tw_219 : Cond.methodLink R_SettingSearch 60 y_SettingSearch_placeOf ∈ lw_g := lw_g_of (List.mem_of_getElem? (i := 219) rfl) rfl
set_option maxRecDepth 20000 in
theorem tw_220 : Cond.static y_SettingSearch_placeOf ∈ lw_g := lw_g_of (List.mem_of_getElem? (i := 220) rfl) rfl
set_option maxRecDepth 20000 in
theorem tw_221 : Cond.code y_SettingSearch_placeOf b_SettingSearch_placeOf 2 (some .int) ∈ lw_g := lw_g_of (List.mem_of_getElem? (i := 221) rfl) rfl
set_option maxRecDepth 20000 in
theorem tw_222 : Cond.methodLink R_Law 23 y_SettingSearch_purity ∈ lw_g := lw_g_of (List.mem_of_getElem? (i := 222) rfl) rfl
set_option maxRecDepth 20000 in
theorem tw_223 : Cond.instanceMethod y_SettingSearch_purity ∈ lw_g := lw_g_of (List.mem_of_getElem? (i := 223) rfl) rfl
set_option maxRecDepth 20000 in
theorem tw_224 : Cond.selects R_SettingSearch y_SettingSearch_purity y_SettingSearch_purity ∈ lw_g := lw_g_of (List.mem_of_getElem? (i := 224) rfl) rfl
set_option maxRecDepth 20000 in
theorem tw_225 : Cond.code y_SettingSearch_purity b_SettingSearch_purity 5 (some .int) ∈ lw_g := lw_g_of (List.mem_of_getElem? (i := 225) rfl) rfl
set_option maxRecDepth 20000 in
theorem tw_226 : Cond.methodLink R_SettingSearch 64 y_Rules_addPurity ∈ lw_g := lw_g_of (List.mem_of_getElem? (i := 226) rfl) rfl
set_option maxRecDepth 20000 in
theorem tw_227 : Cond.instanceMethod y_Rules_addPurity ∈ lw_g := lw_g_of (List.mem_of_getElem? (i := 227) rfl) rfl
set_option maxRecDepth 20000 in
theorem tw_228 : Cond.selects R_Rules y_Rules_addPurity y_Rules_addPurity ∈ lw_g := lw_g_of (List.mem_of_getElem? (i := 228) rfl) rfl
set_option maxRecDepth 20000 in
theorem tw_229 : Cond.code y_Rules_addPurity b_Rules_addPurity 5 (some .int) ∈ lw_g := lw_g_of (List.mem_of_getElem? (i := 229) rfl) rfl
set_option maxRecDepth 20000 in
theorem tw_230 : Cond.methodLink R_Law 28 y_SettingSearch_most ∈ lw_g := lw_g_of (List.mem_of_getElem? (i := 230) rfl) rfl
set_option maxRecDepth 20000 in
theorem tw_231 : Cond.instanceMethod y_SettingSearch_most ∈ lw_g := lw_g_of (List.mem_of_getElem? (i := 231) rfl) rfl
set_option maxRecDepth 20000 in
theorem tw_232 : Cond.selects R_SettingSearch y_SettingSearch_most y_SettingSearch_most ∈ lw_g := lw_g_of (List.mem_of_getElem? (i := 232) rfl) rfl
set_option maxRecDepth 20000 in
theorem tw_233 : Cond.code y_SettingSearch_most b_SettingSearch_most 3 (some .boolean) ∈ lw_g := lw_g_of (List.mem_of_getElem? (i := 233) rfl) rfl
set_option maxRecDepth 20000 in
theorem tw_234 : Cond.methodLink R_SettingSearch 68 y_Machines_has ∈ lw_g := lw_g_of (List.mem_of_getElem? (i := 234) rfl) rfl
set_option maxRecDepth 20000 in
theorem tw_235 : Cond.instanceMethod y_Machines_has ∈ lw_g := lw_g_of (List.mem_of_getElem? (i := 235) rfl) rfl
set_option maxRecDepth 20000 in
theorem tw_236 : Cond.selects R_Machines y_Machines_has y_Machines_has ∈ lw_g := lw_g_of (List.mem_of_getElem? (i := 236) rfl) rfl
set_option maxRecDepth 20000 in
theorem tw_237 : Cond.code y_Machines_has b_Machines_has 2 (some .boolean) ∈ lw_g := lw_g_of (List.mem_of_getElem? (i := 237) rfl) rfl
set_option maxRecDepth 20000 in
theorem tw_238 : Cond.constant R_SettingSearch 71 (1000000) ∈ lw_g := lw_g_of (List.mem_of_getElem? (i := 238) rfl) rfl
set_option maxRecDepth 20000 in
theorem tw_239 : Cond.methodLink R_Law 35 y_SettingSearch_feed ∈ lw_g := lw_g_of (List.mem_of_getElem? (i := 239) rfl) rfl
set_option maxRecDepth 20000 in
theorem tw_240 : Cond.instanceMethod y_SettingSearch_feed ∈ lw_g := lw_g_of (List.mem_of_getElem? (i := 240) rfl) rfl
set_option maxRecDepth 20000 in
theorem tw_241 : Cond.selects R_SettingSearch y_SettingSearch_feed y_SettingSearch_feed ∈ lw_g := lw_g_of (List.mem_of_getElem? (i := 241) rfl) rfl
set_option maxRecDepth 20000 in
theorem tw_242 : Cond.code y_SettingSearch_feed b_SettingSearch_feed 4 (some .boolean) ∈ lw_g := lw_g_of (List.mem_of_getElem? (i := 242) rfl) rfl
set_option maxRecDepth 20000 in
theorem tw_243 : Cond.constantLong R_SettingSearch 75 (1000000) ∈ lw_g := lw_g_of (List.mem_of_getElem? (i := 243) rfl) rfl
set_option maxRecDepth 20000 in
theorem tw_244 : Cond.methodLink R_SettingSearch 77 y_Feeds_findOrOpen ∈ lw_g := lw_g_of (List.mem_of_getElem? (i := 244) rfl) rfl
set_option maxRecDepth 20000 in
theorem tw_245 : Cond.instanceMethod y_Feeds_findOrOpen ∈ lw_g := lw_g_of (List.mem_of_getElem? (i := 245) rfl) rfl
set_option maxRecDepth 20000 in
theorem tw_246 : Cond.selects R_Feeds y_Feeds_findOrOpen y_Feeds_findOrOpen ∈ lw_g := lw_g_of (List.mem_of_getElem? (i := 246) rfl) rfl
set_option maxRecDepth 20000 in
theorem tw_247 : Cond.code y_Feeds_findOrOpen b_Feeds_findOrOpen 4 (some (.object "SettingSearch$Answers")) ∈ lw_g := lw_g_of (List.mem_of_getElem? (i := 247) rfl) rfl
set_option maxRecDepth 20000 in
theorem tw_248 : Cond.methodLink R_Feeds 26 y_Feeds_find ∈ lw_g := lw_g_of (List.mem_of_getElem? (i := 248) rfl) rfl
set_option maxRecDepth 20000 in
theorem tw_249 : Cond.instanceMethod y_Feeds_find ∈ lw_g := lw_g_of (List.mem_of_getElem? (i := 249) rfl) rfl
set_option maxRecDepth 20000 in
theorem tw_250 : Cond.selects R_Feeds y_Feeds_find y_Feeds_find ∈ lw_g := lw_g_of (List.mem_of_getElem? (i := 250) rfl) rfl
set_option maxRecDepth 20000 in
theorem tw_251 : Cond.code y_Feeds_find b_Feeds_find 4 (some (.object "SettingSearch$Answers")) ∈ lw_g := lw_g_of (List.mem_of_getElem? (i := 251) rfl) rfl
set_option maxRecDepth 20000 in
theorem tw_252 : Cond.methodLink R_Feeds 30 y_Answers_open ∈ lw_g := lw_g_of (List.mem_of_getElem? (i := 252) rfl) rfl
set_option maxRecDepth 20000 in
theorem tw_253 : Cond.instanceMethod y_Answers_open ∈ lw_g := lw_g_of (List.mem_of_getElem? (i := 253) rfl) rfl
set_option maxRecDepth 20000 in
theorem tw_254 : Cond.selects R_Answers y_Answers_open y_Answers_open ∈ lw_g := lw_g_of (List.mem_of_getElem? (i := 254) rfl) rfl
set_option maxRecDepth 20000 in
theorem tw_255 : Cond.code y_Answers_open b_Answers_open 4 none ∈ lw_g := lw_g_of (List.mem_of_getElem? (i := 255) rfl) rfl
set_option maxRecDepth 20000 in
theorem tw_256 : Cond.methodLink R_SettingSearch 81 y_Search_begin ∈ lw_g := lw_g_of (List.mem_of_getElem? (i := 256) rfl) rfl
set_option maxRecDepth 20000 in
theorem tw_257 : Cond.instanceMethod y_Search_begin ∈ lw_g := lw_g_of (List.mem_of_getElem? (i := 257) rfl) rfl
set_option maxRecDepth 20000 in
theorem tw_258 : Cond.selects R_Search y_Search_begin y_Search_begin ∈ lw_g := lw_g_of (List.mem_of_getElem? (i := 258) rfl) rfl
set_option maxRecDepth 20000 in
theorem tw_259 : Cond.code y_Search_begin b_Search_begin 5 none ∈ lw_g := lw_g_of (List.mem_of_getElem? (i := 259) rfl) rfl
set_option maxRecDepth 20000 in
theorem tw_260 : Cond.methodLink R_Search 55 y_Machines_changesOf ∈ lw_g := lw_g_of (List.mem_of_getElem? (i := 260) rfl) rfl
set_option maxRecDepth 20000 in
theorem tw_261 : Cond.instanceMethod y_Machines_changesOf ∈ lw_g := lw_g_of (List.mem_of_getElem? (i := 261) rfl) rfl
set_option maxRecDepth 20000 in
theorem tw_262 : Cond.selects R_Machines y_Machines_changesOf y_Machines_changesOf ∈ lw_g := lw_g_of (List.mem_of_getElem? (i := 262) rfl) rfl
set_option maxRecDepth 20000 in
theorem tw_263 : Cond.code y_Machines_changesOf b_Machines_changesOf 4 (some .int) ∈ lw_g := lw_g_of (List.mem_of_getElem? (i := 263) rfl) rfl
set_option maxRecDepth 20000 in
theorem tw_264 : Cond.methodLink R_Machines 35 y_Machines_settingIn ∈ lw_g := lw_g_of (List.mem_of_getElem? (i := 264) rfl) rfl
set_option maxRecDepth 20000 in
theorem tw_265 : Cond.instanceMethod y_Machines_settingIn ∈ lw_g := lw_g_of (List.mem_of_getElem? (i := 265) rfl) rfl
set_option maxRecDepth 20000 in
theorem tw_266 : Cond.selects R_Machines y_Machines_settingIn y_Machines_settingIn ∈ lw_g := lw_g_of (List.mem_of_getElem? (i := 266) rfl) rfl
set_option maxRecDepth 20000 in
theorem tw_267 : Cond.code y_Machines_settingIn b_Machines_settingIn 3 (some .int) ∈ lw_g := lw_g_of (List.mem_of_getElem? (i := 267) rfl) rfl
set_option maxRecDepth 20000 in
theorem tw_268 : Cond.methodLink R_Machines 31 y_Machines_has ∈ lw_g := lw_g_of (List.mem_of_getElem? (i := 268) rfl) rfl
set_option maxRecDepth 20000 in
theorem tw_269 : Cond.methodLink R_Law 40 y_SettingSearch_next ∈ lw_g := lw_g_of (List.mem_of_getElem? (i := 269) rfl) rfl
set_option maxRecDepth 20000 in
theorem tw_270 : Cond.instanceMethod y_SettingSearch_next ∈ lw_g := lw_g_of (List.mem_of_getElem? (i := 270) rfl) rfl
set_option maxRecDepth 20000 in
theorem tw_271 : Cond.selects R_SettingSearch y_SettingSearch_next y_SettingSearch_next ∈ lw_g := lw_g_of (List.mem_of_getElem? (i := 271) rfl) rfl
set_option maxRecDepth 20000 in
theorem tw_272 : Cond.code y_SettingSearch_next b_SettingSearch_next 2 (some .int) ∈ lw_g := lw_g_of (List.mem_of_getElem? (i := 272) rfl) rfl
set_option maxRecDepth 20000 in
theorem tw_273 : Cond.methodLink R_SettingSearch 92 y_Answers_keep ∈ lw_g := lw_g_of (List.mem_of_getElem? (i := 273) rfl) rfl
set_option maxRecDepth 20000 in
theorem tw_274 : Cond.instanceMethod y_Answers_keep ∈ lw_g := lw_g_of (List.mem_of_getElem? (i := 274) rfl) rfl
set_option maxRecDepth 20000 in
theorem tw_275 : Cond.selects R_Answers y_Answers_keep y_Answers_keep ∈ lw_g := lw_g_of (List.mem_of_getElem? (i := 275) rfl) rfl
set_option maxRecDepth 20000 in
theorem tw_276 : Cond.code y_Answers_keep b_Answers_keep 2 none ∈ lw_g := lw_g_of (List.mem_of_getElem? (i := 276) rfl) rfl
set_option maxRecDepth 20000 in
theorem tw_277 : Cond.methodLink R_Answers 30 y_Answers_hasRow ∈ lw_g := lw_g_of (List.mem_of_getElem? (i := 277) rfl) rfl
set_option maxRecDepth 20000 in
theorem tw_278 : Cond.static y_Answers_hasRow ∈ lw_g := lw_g_of (List.mem_of_getElem? (i := 278) rfl) rfl
set_option maxRecDepth 20000 in
theorem tw_279 : Cond.code y_Answers_hasRow b_Answers_hasRow 1 (some .boolean) ∈ lw_g := lw_g_of (List.mem_of_getElem? (i := 279) rfl) rfl
set_option maxRecDepth 20000 in
theorem tw_280 : Cond.methodLink R_SettingSearch 98 y_SettingSearch_goOn ∈ lw_g := lw_g_of (List.mem_of_getElem? (i := 280) rfl) rfl
set_option maxRecDepth 20000 in
theorem tw_282 : Cond.instanceMethod y_SettingSearch_goOn ∈ lw_g := lw_g_of (List.mem_of_getElem? (i := 282) rfl) rfl
set_option maxRecDepth 20000 in
theorem tw_283 : Cond.code y_SettingSearch_goOn b_SettingSearch_goOn 6 (some .int) ∈ lw_g := lw_g_of (List.mem_of_getElem? (i := 283) rfl) rfl
set_option maxRecDepth 20000 in
theorem tw_284 : Cond.methodLink R_SettingSearch 122 y_SettingSearch_boundOf ∈ lw_g := lw_g_of (List.mem_of_getElem? (i := 284) rfl) rfl
set_option maxRecDepth 20000 in
theorem tw_286 : Cond.instanceMethod y_SettingSearch_boundOf ∈ lw_g := lw_g_of (List.mem_of_getElem? (i := 286) rfl) rfl
set_option maxRecDepth 20000 in
theorem tw_287 : Cond.code y_SettingSearch_boundOf b_SettingSearch_boundOf 4 (some .long) ∈ lw_g := lw_g_of (List.mem_of_getElem? (i := 287) rfl) rfl
set_option maxRecDepth 20000 in
theorem tw_288 : Cond.methodLink R_SettingSearch 182 Lib.Math.max.name ∈ lw_g := lw_g_of (List.mem_of_getElem? (i := 288) rfl) rfl
set_option maxRecDepth 20000 in
theorem tw_289 : Cond.static Lib.Math.max.name ∈ lw_g := lw_g_of (List.mem_of_getElem? (i := 289) rfl) rfl
set_option maxRecDepth 20000 in
theorem tw_290 : Cond.code Lib.Math.max.name Lib.Math.max.code 2 (some .int) ∈ lw_g := lw_g_of (List.mem_of_getElem? (i := 290) rfl) rfl
set_option maxRecDepth 20000 in
theorem tw_291 : Cond.methodLink R_SettingSearch 164 y_Answers_knows ∈ lw_g := lw_g_of (List.mem_of_getElem? (i := 291) rfl) rfl
set_option maxRecDepth 20000 in
theorem tw_292 : Cond.instanceMethod y_Answers_knows ∈ lw_g := lw_g_of (List.mem_of_getElem? (i := 292) rfl) rfl
set_option maxRecDepth 20000 in
theorem tw_293 : Cond.selects R_Answers y_Answers_knows y_Answers_knows ∈ lw_g := lw_g_of (List.mem_of_getElem? (i := 293) rfl) rfl
set_option maxRecDepth 20000 in
theorem tw_294 : Cond.code y_Answers_knows b_Answers_knows 2 (some .boolean) ∈ lw_g := lw_g_of (List.mem_of_getElem? (i := 294) rfl) rfl
set_option maxRecDepth 20000 in
theorem tw_295 : Cond.methodLink R_SettingSearch 167 y_Answers_clearRow ∈ lw_g := lw_g_of (List.mem_of_getElem? (i := 295) rfl) rfl
set_option maxRecDepth 20000 in
theorem tw_296 : Cond.instanceMethod y_Answers_clearRow ∈ lw_g := lw_g_of (List.mem_of_getElem? (i := 296) rfl) rfl
set_option maxRecDepth 20000 in
theorem tw_297 : Cond.selects R_Answers y_Answers_clearRow y_Answers_clearRow ∈ lw_g := lw_g_of (List.mem_of_getElem? (i := 297) rfl) rfl
set_option maxRecDepth 20000 in
theorem tw_298 : Cond.code y_Answers_clearRow b_Answers_clearRow 3 none ∈ lw_g := lw_g_of (List.mem_of_getElem? (i := 298) rfl) rfl
set_option maxRecDepth 20000 in
theorem tw_299 : Cond.methodLink R_SettingSearch 170 y_SettingSearch_weigh ∈ lw_g := lw_g_of (List.mem_of_getElem? (i := 299) rfl) rfl
set_option maxRecDepth 20000 in
theorem tw_301 : Cond.instanceMethod y_SettingSearch_weigh ∈ lw_g := lw_g_of (List.mem_of_getElem? (i := 301) rfl) rfl
set_option maxRecDepth 20000 in
theorem tw_302 : Cond.code y_SettingSearch_weigh b_SettingSearch_weigh 5 none ∈ lw_g := lw_g_of (List.mem_of_getElem? (i := 302) rfl) rfl
set_option maxRecDepth 20000 in
theorem tw_303 : Cond.methodLink R_SettingSearch 174 y_Rules_keptBy ∈ lw_g := lw_g_of (List.mem_of_getElem? (i := 303) rfl) rfl
set_option maxRecDepth 20000 in
theorem tw_304 : Cond.instanceMethod y_Rules_keptBy ∈ lw_g := lw_g_of (List.mem_of_getElem? (i := 304) rfl) rfl
set_option maxRecDepth 20000 in
theorem tw_305 : Cond.selects R_Rules y_Rules_keptBy y_Rules_keptBy ∈ lw_g := lw_g_of (List.mem_of_getElem? (i := 305) rfl) rfl
set_option maxRecDepth 20000 in
theorem tw_306 : Cond.code y_Rules_keptBy b_Rules_keptBy 6 (some .int) ∈ lw_g := lw_g_of (List.mem_of_getElem? (i := 306) rfl) rfl
set_option maxRecDepth 20000 in
theorem tw_307 : Cond.methodLink R_Rules 37 y_Rules_isPure ∈ lw_g := lw_g_of (List.mem_of_getElem? (i := 307) rfl) rfl
set_option maxRecDepth 20000 in
theorem tw_309 : Cond.instanceMethod y_Rules_isPure ∈ lw_g := lw_g_of (List.mem_of_getElem? (i := 309) rfl) rfl
set_option maxRecDepth 20000 in
theorem tw_310 : Cond.code y_Rules_isPure b_Rules_isPure 8 (some .boolean) ∈ lw_g := lw_g_of (List.mem_of_getElem? (i := 310) rfl) rfl
set_option maxRecDepth 20000 in
theorem tw_312 : Cond.methodLink R_Rules 50 y_Answers_gramsAt ∈ lw_g := lw_g_of (List.mem_of_getElem? (i := 312) rfl) rfl
set_option maxRecDepth 20000 in
theorem tw_313 : Cond.instanceMethod y_Answers_gramsAt ∈ lw_g := lw_g_of (List.mem_of_getElem? (i := 313) rfl) rfl
set_option maxRecDepth 20000 in
theorem tw_314 : Cond.selects R_Answers y_Answers_gramsAt y_Answers_gramsAt ∈ lw_g := lw_g_of (List.mem_of_getElem? (i := 314) rfl) rfl
set_option maxRecDepth 20000 in
theorem tw_315 : Cond.code y_Answers_gramsAt b_Answers_gramsAt 3 (some .int) ∈ lw_g := lw_g_of (List.mem_of_getElem? (i := 315) rfl) rfl
set_option maxRecDepth 20000 in
theorem tw_316 : Cond.methodLink R_Rules 41 y_Answers_loadOf ∈ lw_g := lw_g_of (List.mem_of_getElem? (i := 316) rfl) rfl
set_option maxRecDepth 20000 in
theorem tw_317 : Cond.instanceMethod y_Answers_loadOf ∈ lw_g := lw_g_of (List.mem_of_getElem? (i := 317) rfl) rfl
set_option maxRecDepth 20000 in
theorem tw_318 : Cond.selects R_Answers y_Answers_loadOf y_Answers_loadOf ∈ lw_g := lw_g_of (List.mem_of_getElem? (i := 318) rfl) rfl
set_option maxRecDepth 20000 in
theorem tw_319 : Cond.code y_Answers_loadOf b_Answers_loadOf 3 (some .int) ∈ lw_g := lw_g_of (List.mem_of_getElem? (i := 319) rfl) rfl
set_option maxRecDepth 20000 in
theorem tw_320 : Cond.methodLink R_SettingSearch 147 y_Rules_told ∈ lw_g := lw_g_of (List.mem_of_getElem? (i := 320) rfl) rfl
set_option maxRecDepth 20000 in
theorem tw_321 : Cond.instanceMethod y_Rules_told ∈ lw_g := lw_g_of (List.mem_of_getElem? (i := 321) rfl) rfl
set_option maxRecDepth 20000 in
theorem tw_322 : Cond.selects R_Rules y_Rules_told y_Rules_told ∈ lw_g := lw_g_of (List.mem_of_getElem? (i := 322) rfl) rfl
set_option maxRecDepth 20000 in
theorem tw_323 : Cond.code y_Rules_told b_Rules_told 3 (some .int) ∈ lw_g := lw_g_of (List.mem_of_getElem? (i := 323) rfl) rfl
set_option maxRecDepth 20000 in
theorem tw_324 : Cond.methodLink R_SettingSearch 178 y_Answers_worthBy ∈ lw_g := lw_g_of (List.mem_of_getElem? (i := 324) rfl) rfl
set_option maxRecDepth 20000 in
theorem tw_325 : Cond.instanceMethod y_Answers_worthBy ∈ lw_g := lw_g_of (List.mem_of_getElem? (i := 325) rfl) rfl
set_option maxRecDepth 20000 in
theorem tw_326 : Cond.selects R_Answers y_Answers_worthBy y_Answers_worthBy ∈ lw_g := lw_g_of (List.mem_of_getElem? (i := 326) rfl) rfl
set_option maxRecDepth 20000 in
theorem tw_327 : Cond.code y_Answers_worthBy b_Answers_worthBy 6 (some .long) ∈ lw_g := lw_g_of (List.mem_of_getElem? (i := 327) rfl) rfl
set_option maxRecDepth 20000 in
theorem tw_328 : Cond.methodLink R_Answers 35 y_Answers_gramsAt ∈ lw_g := lw_g_of (List.mem_of_getElem? (i := 328) rfl) rfl
set_option maxRecDepth 20000 in
theorem tw_329 : Cond.methodLink R_Law 45 y_SettingSearch_asked ∈ lw_g := lw_g_of (List.mem_of_getElem? (i := 329) rfl) rfl
set_option maxRecDepth 20000 in
theorem tw_330 : Cond.instanceMethod y_SettingSearch_asked ∈ lw_g := lw_g_of (List.mem_of_getElem? (i := 330) rfl) rfl
set_option maxRecDepth 20000 in
theorem tw_331 : Cond.selects R_SettingSearch y_SettingSearch_asked y_SettingSearch_asked ∈ lw_g := lw_g_of (List.mem_of_getElem? (i := 331) rfl) rfl
set_option maxRecDepth 20000 in
theorem tw_332 : Cond.code y_SettingSearch_asked b_SettingSearch_asked 2 (some .int) ∈ lw_g := lw_g_of (List.mem_of_getElem? (i := 332) rfl) rfl
set_option maxRecDepth 20000 in
theorem tw_333 : Cond.methodLink R_SettingSearch 102 y_Machines_settingIn ∈ lw_g := lw_g_of (List.mem_of_getElem? (i := 333) rfl) rfl
set_option maxRecDepth 20000 in
theorem tw_334 : Cond.methodLink R_Law 49 y_SettingSearch_answer ∈ lw_g := lw_g_of (List.mem_of_getElem? (i := 334) rfl) rfl
set_option maxRecDepth 20000 in
theorem tw_335 : Cond.instanceMethod y_SettingSearch_answer ∈ lw_g := lw_g_of (List.mem_of_getElem? (i := 335) rfl) rfl
set_option maxRecDepth 20000 in
theorem tw_336 : Cond.selects R_SettingSearch y_SettingSearch_answer y_SettingSearch_answer ∈ lw_g := lw_g_of (List.mem_of_getElem? (i := 336) rfl) rfl
set_option maxRecDepth 20000 in
theorem tw_337 : Cond.code y_SettingSearch_answer b_SettingSearch_answer 7 (some .boolean) ∈ lw_g := lw_g_of (List.mem_of_getElem? (i := 337) rfl) rfl
set_option maxRecDepth 20000 in
theorem tw_338 : Cond.methodLink R_SettingSearch 105 y_Answers_tellGrams ∈ lw_g := lw_g_of (List.mem_of_getElem? (i := 338) rfl) rfl
set_option maxRecDepth 20000 in
theorem tw_339 : Cond.instanceMethod y_Answers_tellGrams ∈ lw_g := lw_g_of (List.mem_of_getElem? (i := 339) rfl) rfl
set_option maxRecDepth 20000 in
theorem tw_340 : Cond.selects R_Answers y_Answers_tellGrams y_Answers_tellGrams ∈ lw_g := lw_g_of (List.mem_of_getElem? (i := 340) rfl) rfl
set_option maxRecDepth 20000 in
theorem tw_341 : Cond.code y_Answers_tellGrams b_Answers_tellGrams 8 (some .boolean) ∈ lw_g := lw_g_of (List.mem_of_getElem? (i := 341) rfl) rfl
set_option maxRecDepth 20000 in
theorem tw_342 : Cond.methodLink R_Law 54 y_SettingSearch_load ∈ lw_g := lw_g_of (List.mem_of_getElem? (i := 342) rfl) rfl
set_option maxRecDepth 20000 in
theorem tw_343 : Cond.instanceMethod y_SettingSearch_load ∈ lw_g := lw_g_of (List.mem_of_getElem? (i := 343) rfl) rfl
set_option maxRecDepth 20000 in
theorem tw_344 : Cond.selects R_SettingSearch y_SettingSearch_load y_SettingSearch_load ∈ lw_g := lw_g_of (List.mem_of_getElem? (i := 344) rfl) rfl
set_option maxRecDepth 20000 in
theorem tw_345 : Cond.code y_SettingSearch_load b_SettingSearch_load 4 (some .boolean) ∈ lw_g := lw_g_of (List.mem_of_getElem? (i := 345) rfl) rfl
set_option maxRecDepth 20000 in
theorem tw_346 : Cond.methodLink R_SettingSearch 109 y_Answers_tellLoad ∈ lw_g := lw_g_of (List.mem_of_getElem? (i := 346) rfl) rfl
set_option maxRecDepth 20000 in
theorem tw_347 : Cond.instanceMethod y_Answers_tellLoad ∈ lw_g := lw_g_of (List.mem_of_getElem? (i := 347) rfl) rfl
set_option maxRecDepth 20000 in
theorem tw_348 : Cond.selects R_Answers y_Answers_tellLoad y_Answers_tellLoad ∈ lw_g := lw_g_of (List.mem_of_getElem? (i := 348) rfl) rfl
set_option maxRecDepth 20000 in
theorem tw_349 : Cond.code y_Answers_tellLoad b_Answers_tellLoad 4 (some .boolean) ∈ lw_g := lw_g_of (List.mem_of_getElem? (i := 349) rfl) rfl
set_option maxRecDepth 20000 in
theorem tw_350 : Cond.constant R_Answers 34 (1000000) ∈ lw_g := lw_g_of (List.mem_of_getElem? (i := 350) rfl) rfl
set_option maxRecDepth 20000 in
theorem tw_351 : Cond.methodLink R_Law 58 y_SettingSearch_best ∈ lw_g := lw_g_of (List.mem_of_getElem? (i := 351) rfl) rfl
set_option maxRecDepth 20000 in
theorem tw_352 : Cond.instanceMethod y_SettingSearch_best ∈ lw_g := lw_g_of (List.mem_of_getElem? (i := 352) rfl) rfl
set_option maxRecDepth 20000 in
theorem tw_353 : Cond.selects R_SettingSearch y_SettingSearch_best y_SettingSearch_best ∈ lw_g := lw_g_of (List.mem_of_getElem? (i := 353) rfl) rfl
set_option maxRecDepth 20000 in
theorem tw_354 : Cond.code y_SettingSearch_best b_SettingSearch_best 2 (some .int) ∈ lw_g := lw_g_of (List.mem_of_getElem? (i := 354) rfl) rfl
set_option maxRecDepth 20000 in
theorem tw_355 : Cond.methodLink R_Law 62 y_SettingSearch_sum ∈ lw_g := lw_g_of (List.mem_of_getElem? (i := 355) rfl) rfl
set_option maxRecDepth 20000 in
theorem tw_356 : Cond.instanceMethod y_SettingSearch_sum ∈ lw_g := lw_g_of (List.mem_of_getElem? (i := 356) rfl) rfl
set_option maxRecDepth 20000 in
theorem tw_357 : Cond.selects R_SettingSearch y_SettingSearch_sum y_SettingSearch_sum ∈ lw_g := lw_g_of (List.mem_of_getElem? (i := 357) rfl) rfl
set_option maxRecDepth 20000 in
theorem tw_358 : Cond.code y_SettingSearch_sum b_SettingSearch_sum 1 (some .long) ∈ lw_g := lw_g_of (List.mem_of_getElem? (i := 358) rfl) rfl
set_option maxRecDepth 20000 in
theorem tw_359 : Cond.methodLink R_Law 67 y_SettingSearch_bound ∈ lw_g := lw_g_of (List.mem_of_getElem? (i := 359) rfl) rfl
set_option maxRecDepth 20000 in
theorem tw_360 : Cond.instanceMethod y_SettingSearch_bound ∈ lw_g := lw_g_of (List.mem_of_getElem? (i := 360) rfl) rfl
set_option maxRecDepth 20000 in
theorem tw_361 : Cond.selects R_SettingSearch y_SettingSearch_bound y_SettingSearch_bound ∈ lw_g := lw_g_of (List.mem_of_getElem? (i := 361) rfl) rfl
set_option maxRecDepth 20000 in
theorem tw_362 : Cond.code y_SettingSearch_bound b_SettingSearch_bound 2 (some .long) ∈ lw_g := lw_g_of (List.mem_of_getElem? (i := 362) rfl) rfl
set_option maxRecDepth 20000 in
theorem tw_363 : Cond.constantLong R_SettingSearch 120 (-1) ∈ lw_g := lw_g_of (List.mem_of_getElem? (i := 363) rfl) rfl
set_option maxRecDepth 20000 in
theorem tw_364 : Cond.methodLink R_Law 71 y_SettingSearch_proved ∈ lw_g := lw_g_of (List.mem_of_getElem? (i := 364) rfl) rfl
set_option maxRecDepth 20000 in
theorem tw_365 : Cond.instanceMethod y_SettingSearch_proved ∈ lw_g := lw_g_of (List.mem_of_getElem? (i := 365) rfl) rfl
set_option maxRecDepth 20000 in
theorem tw_366 : Cond.selects R_SettingSearch y_SettingSearch_proved y_SettingSearch_proved ∈ lw_g := lw_g_of (List.mem_of_getElem? (i := 366) rfl) rfl
set_option maxRecDepth 20000 in
theorem tw_367 : Cond.code y_SettingSearch_proved b_SettingSearch_proved 1 (some .boolean) ∈ lw_g := lw_g_of (List.mem_of_getElem? (i := 367) rfl) rfl
set_option maxRecDepth 20000 in
theorem tw_368 : Cond.methodLink R_Law 76 y_SettingSearch_changes ∈ lw_g := lw_g_of (List.mem_of_getElem? (i := 368) rfl) rfl
set_option maxRecDepth 20000 in
theorem tw_369 : Cond.instanceMethod y_SettingSearch_changes ∈ lw_g := lw_g_of (List.mem_of_getElem? (i := 369) rfl) rfl
set_option maxRecDepth 20000 in
theorem tw_370 : Cond.selects R_SettingSearch y_SettingSearch_changes y_SettingSearch_changes ∈ lw_g := lw_g_of (List.mem_of_getElem? (i := 370) rfl) rfl
set_option maxRecDepth 20000 in
theorem tw_371 : Cond.code y_SettingSearch_changes b_SettingSearch_changes 1 (some .int) ∈ lw_g := lw_g_of (List.mem_of_getElem? (i := 371) rfl) rfl
set_option maxRecDepth 20000 in
theorem tw_372 : Cond.methodLink R_SettingSearch 126 y_Machines_changesOf ∈ lw_g := lw_g_of (List.mem_of_getElem? (i := 372) rfl) rfl
set_option maxRecDepth 20000 in
theorem tw_373 : Cond.methodLink R_Law 80 y_SettingSearch_take ∈ lw_g := lw_g_of (List.mem_of_getElem? (i := 373) rfl) rfl
set_option maxRecDepth 20000 in
theorem tw_374 : Cond.instanceMethod y_SettingSearch_take ∈ lw_g := lw_g_of (List.mem_of_getElem? (i := 374) rfl) rfl
set_option maxRecDepth 20000 in
theorem tw_375 : Cond.selects R_SettingSearch y_SettingSearch_take y_SettingSearch_take ∈ lw_g := lw_g_of (List.mem_of_getElem? (i := 375) rfl) rfl
set_option maxRecDepth 20000 in
theorem tw_376 : Cond.code y_SettingSearch_take b_SettingSearch_take 2 (some .int) ∈ lw_g := lw_g_of (List.mem_of_getElem? (i := 376) rfl) rfl
set_option maxRecDepth 20000 in
theorem tw_377 : Cond.methodLink R_SettingSearch 130 y_Machines_become ∈ lw_g := lw_g_of (List.mem_of_getElem? (i := 377) rfl) rfl
set_option maxRecDepth 20000 in
theorem tw_378 : Cond.instanceMethod y_Machines_become ∈ lw_g := lw_g_of (List.mem_of_getElem? (i := 378) rfl) rfl
set_option maxRecDepth 20000 in
theorem tw_379 : Cond.selects R_Machines y_Machines_become y_Machines_become ∈ lw_g := lw_g_of (List.mem_of_getElem? (i := 379) rfl) rfl
set_option maxRecDepth 20000 in
theorem tw_380 : Cond.code y_Machines_become b_Machines_become 3 none ∈ lw_g := lw_g_of (List.mem_of_getElem? (i := 380) rfl) rfl
set_option maxRecDepth 20000 in
theorem tw_381 : Cond.methodLink R_Law 84 y_SettingSearch_kept ∈ lw_g := lw_g_of (List.mem_of_getElem? (i := 381) rfl) rfl
set_option maxRecDepth 20000 in
theorem tw_382 : Cond.instanceMethod y_SettingSearch_kept ∈ lw_g := lw_g_of (List.mem_of_getElem? (i := 382) rfl) rfl
set_option maxRecDepth 20000 in
theorem tw_383 : Cond.selects R_SettingSearch y_SettingSearch_kept y_SettingSearch_kept ∈ lw_g := lw_g_of (List.mem_of_getElem? (i := 383) rfl) rfl
set_option maxRecDepth 20000 in
theorem tw_384 : Cond.code y_SettingSearch_kept b_SettingSearch_kept 4 (some .int) ∈ lw_g := lw_g_of (List.mem_of_getElem? (i := 384) rfl) rfl
set_option maxRecDepth 20000 in
theorem tw_385 : Cond.methodLink R_SettingSearch 133 y_Feeds_find ∈ lw_g := lw_g_of (List.mem_of_getElem? (i := 385) rfl) rfl
set_option maxRecDepth 20000 in
theorem tw_386 : Cond.methodLink R_Law 89 y_SettingSearch_clash ∈ lw_g := lw_g_of (List.mem_of_getElem? (i := 386) rfl) rfl
set_option maxRecDepth 20000 in
theorem tw_387 : Cond.instanceMethod y_SettingSearch_clash ∈ lw_g := lw_g_of (List.mem_of_getElem? (i := 387) rfl) rfl
set_option maxRecDepth 20000 in
theorem tw_388 : Cond.selects R_SettingSearch y_SettingSearch_clash y_SettingSearch_clash ∈ lw_g := lw_g_of (List.mem_of_getElem? (i := 388) rfl) rfl
set_option maxRecDepth 20000 in
theorem tw_389 : Cond.code y_SettingSearch_clash b_SettingSearch_clash 3 (some .int) ∈ lw_g := lw_g_of (List.mem_of_getElem? (i := 389) rfl) rfl
set_option maxRecDepth 20000 in
theorem tw_390 : Cond.methodLink R_SettingSearch 137 y_SettingSearch_fewestClashing ∈ lw_g := lw_g_of (List.mem_of_getElem? (i := 390) rfl) rfl
set_option maxRecDepth 20000 in
theorem tw_392 : Cond.instanceMethod y_SettingSearch_fewestClashing ∈ lw_g := lw_g_of (List.mem_of_getElem? (i := 392) rfl) rfl
set_option maxRecDepth 20000 in
theorem tw_393 : Cond.code y_SettingSearch_fewestClashing b_SettingSearch_fewestClashing 7 (some .int) ∈ lw_g := lw_g_of (List.mem_of_getElem? (i := 393) rfl) rfl
set_option maxRecDepth 20000 in
theorem tw_394 : Cond.methodLink R_SettingSearch 193 y_SettingSearch_listKeptRules ∈ lw_g := lw_g_of (List.mem_of_getElem? (i := 394) rfl) rfl
set_option maxRecDepth 20000 in
theorem tw_396 : Cond.instanceMethod y_SettingSearch_listKeptRules ∈ lw_g := lw_g_of (List.mem_of_getElem? (i := 396) rfl) rfl
set_option maxRecDepth 20000 in
theorem tw_397 : Cond.code y_SettingSearch_listKeptRules b_SettingSearch_listKeptRules 4 (some .int) ∈ lw_g := lw_g_of (List.mem_of_getElem? (i := 397) rfl) rfl
set_option maxRecDepth 20000 in
theorem tw_398 : Cond.methodLink R_SettingSearch 196 y_SettingSearch_noneKeeps ∈ lw_g := lw_g_of (List.mem_of_getElem? (i := 398) rfl) rfl
set_option maxRecDepth 20000 in
theorem tw_400 : Cond.instanceMethod y_SettingSearch_noneKeeps ∈ lw_g := lw_g_of (List.mem_of_getElem? (i := 400) rfl) rfl
set_option maxRecDepth 20000 in
theorem tw_401 : Cond.code y_SettingSearch_noneKeeps b_SettingSearch_noneKeeps 4 (some .boolean) ∈ lw_g := lw_g_of (List.mem_of_getElem? (i := 401) rfl) rfl
set_option maxRecDepth 20000 in
theorem tw_402 : Cond.methodLink R_SettingSearch 200 y_JInteger_bitCount ∈ lw_g := lw_g_of (List.mem_of_getElem? (i := 402) rfl) rfl
set_option maxRecDepth 20000 in
theorem tw_403 : Cond.static y_JInteger_bitCount ∈ lw_g := lw_g_of (List.mem_of_getElem? (i := 403) rfl) rfl
set_option maxRecDepth 20000 in
theorem tw_404 : Cond.code y_JInteger_bitCount b_JInteger_bitCount 1 (some .int) ∈ lw_g := lw_g_of (List.mem_of_getElem? (i := 404) rfl) rfl
set_option maxRecDepth 20000 in
theorem tw_405 : Cond.constant R_JInteger 265 (1431655765) ∈ lw_g := lw_g_of (List.mem_of_getElem? (i := 405) rfl) rfl
set_option maxRecDepth 20000 in
theorem tw_406 : Cond.constant R_JInteger 266 (858993459) ∈ lw_g := lw_g_of (List.mem_of_getElem? (i := 406) rfl) rfl
set_option maxRecDepth 20000 in
theorem tw_407 : Cond.constant R_JInteger 267 (252645135) ∈ lw_g := lw_g_of (List.mem_of_getElem? (i := 407) rfl) rfl
set_option maxRecDepth 20000 in
theorem tw_408 : Cond.methodLink R_SettingSearch 140 y_SettingSearch_numberAt ∈ lw_g := lw_g_of (List.mem_of_getElem? (i := 408) rfl) rfl
set_option maxRecDepth 20000 in
theorem tw_409 : Cond.static y_SettingSearch_numberAt ∈ lw_g := lw_g_of (List.mem_of_getElem? (i := 409) rfl) rfl
set_option maxRecDepth 20000 in
theorem tw_410 : Cond.code y_SettingSearch_numberAt b_SettingSearch_numberAt 4 (some .int) ∈ lw_g := lw_g_of (List.mem_of_getElem? (i := 410) rfl) rfl
set_option maxRecDepth 20000 in
theorem tw_411 : Cond.methodLink R_Law 93 y_SettingSearch_room ∈ lw_g := lw_g_of (List.mem_of_getElem? (i := 411) rfl) rfl
set_option maxRecDepth 20000 in
theorem tw_412 : Cond.instanceMethod y_SettingSearch_room ∈ lw_g := lw_g_of (List.mem_of_getElem? (i := 412) rfl) rfl
set_option maxRecDepth 20000 in
theorem tw_413 : Cond.selects R_SettingSearch y_SettingSearch_room y_SettingSearch_room ∈ lw_g := lw_g_of (List.mem_of_getElem? (i := 413) rfl) rfl
set_option maxRecDepth 20000 in
theorem tw_414 : Cond.code y_SettingSearch_room b_SettingSearch_room 6 (some .long) ∈ lw_g := lw_g_of (List.mem_of_getElem? (i := 414) rfl) rfl
set_option maxRecDepth 20000 in
theorem tw_415 : Cond.constantLong R_SettingSearch 145 (-9223372036854775808) ∈ lw_g := lw_g_of (List.mem_of_getElem? (i := 415) rfl) rfl
set_option maxRecDepth 20000 in
theorem tw_416 : Cond.methodLink R_SettingSearch 151 y_SettingSearch_greatestWorth ∈ lw_g := lw_g_of (List.mem_of_getElem? (i := 416) rfl) rfl
set_option maxRecDepth 20000 in
theorem tw_418 : Cond.instanceMethod y_SettingSearch_greatestWorth ∈ lw_g := lw_g_of (List.mem_of_getElem? (i := 418) rfl) rfl
set_option maxRecDepth 20000 in
theorem tw_419 : Cond.code y_SettingSearch_greatestWorth b_SettingSearch_greatestWorth 6 (some .long) ∈ lw_g := lw_g_of (List.mem_of_getElem? (i := 419) rfl) rfl
set_option maxRecDepth 20000 in
theorem tw_420 : Cond.methodLink R_SettingSearch 190 Lib.MathLoose.max_long.x ∈ lw_g := lw_g_of (List.mem_of_getElem? (i := 420) rfl) rfl
set_option maxRecDepth 20000 in
theorem tw_421 : Cond.static Lib.MathLoose.max_long.x ∈ lw_g := lw_g_of (List.mem_of_getElem? (i := 421) rfl) rfl
set_option maxRecDepth 20000 in
theorem tw_422 : Cond.code Lib.MathLoose.max_long.x Lib.MathLoose.max_long.code 4 (some .long) ∈ lw_g := lw_g_of (List.mem_of_getElem? (i := 422) rfl) rfl
set_option maxRecDepth 20000 in
theorem tw_423 : Cond.classLink R_Law 10 R_Ref ∈ lw_g := lw_g_of (List.mem_of_getElem? (i := 423) rfl) rfl
set_option maxRecDepth 20000 in
theorem tw_424 : Cond.instantiable R_Ref 23 ∈ lw_g := lw_g_of (List.mem_of_getElem? (i := 424) rfl) rfl
set_option maxRecDepth 20000 in
theorem tw_425 : Cond.methodLink R_Law 12 y_Ref_init ∈ lw_g := lw_g_of (List.mem_of_getElem? (i := 425) rfl) rfl
set_option maxRecDepth 20000 in
theorem tw_426 : Cond.instanceMethod y_Ref_init ∈ lw_g := lw_g_of (List.mem_of_getElem? (i := 426) rfl) rfl
set_option maxRecDepth 20000 in
theorem tw_427 : Cond.code y_Ref_init b_Ref_init 2 none ∈ lw_g := lw_g_of (List.mem_of_getElem? (i := 427) rfl) rfl
set_option maxRecDepth 20000 in
theorem tw_428 : Cond.methodLink R_Ref 1 objectInit ∈ lw_g := lw_g_of (List.mem_of_getElem? (i := 428) rfl) rfl
set_option maxRecDepth 20000 in
theorem tw_429 : Cond.fieldLink R_Ref 60 "SettingSearchModel" "machines" "I" ∈ lw_g := lw_g_of (List.mem_of_getElem? (i := 429) rfl) rfl
set_option maxRecDepth 20000 in
theorem tw_430 : Cond.fieldLink R_Ref 7 "SettingSearchModel" "settings" "[I" ∈ lw_g := lw_g_of (List.mem_of_getElem? (i := 430) rfl) rfl
set_option maxRecDepth 20000 in
theorem tw_431 : Cond.fieldLink R_Ref 13 "SettingSearchModel" "current" "[I" ∈ lw_g := lw_g_of (List.mem_of_getElem? (i := 431) rfl) rfl
set_option maxRecDepth 20000 in
theorem tw_432 : Cond.fieldLink R_Ref 16 "SettingSearchModel" "vectors" "I" ∈ lw_g := lw_g_of (List.mem_of_getElem? (i := 432) rfl) rfl
set_option maxRecDepth 20000 in
theorem tw_433 : Cond.fieldLink R_Ref 20 "SettingSearchModel" "cents" "[I" ∈ lw_g := lw_g_of (List.mem_of_getElem? (i := 433) rfl) rfl
set_option maxRecDepth 20000 in
theorem tw_434 : Cond.fieldLink R_Ref 89 "SettingSearchModel" "purities" "I" ∈ lw_g := lw_g_of (List.mem_of_getElem? (i := 434) rfl) rfl
set_option maxRecDepth 20000 in
theorem tw_435 : Cond.fieldLink R_Ref 23 "SettingSearchModel" "cells" "[I" ∈ lw_g := lw_g_of (List.mem_of_getElem? (i := 435) rfl) rfl
set_option maxRecDepth 20000 in
theorem tw_436 : Cond.fieldLink R_Ref 26 "SettingSearchModel" "aboves" "[I" ∈ lw_g := lw_g_of (List.mem_of_getElem? (i := 436) rfl) rfl
set_option maxRecDepth 20000 in
theorem tw_437 : Cond.fieldLink R_Ref 29 "SettingSearchModel" "belows" "[I" ∈ lw_g := lw_g_of (List.mem_of_getElem? (i := 437) rfl) rfl
set_option maxRecDepth 20000 in
theorem tw_438 : Cond.fieldLink R_Ref 32 "SettingSearchModel" "mosts" "[I" ∈ lw_g := lw_g_of (List.mem_of_getElem? (i := 438) rfl) rfl
set_option maxRecDepth 20000 in
theorem tw_439 : Cond.fieldLink R_Ref 75 "SettingSearchModel" "feeds" "I" ∈ lw_g := lw_g_of (List.mem_of_getElem? (i := 439) rfl) rfl
set_option maxRecDepth 20000 in
theorem tw_440 : Cond.fieldLink R_Ref 35 "SettingSearchModel" "grams" "[I" ∈ lw_g := lw_g_of (List.mem_of_getElem? (i := 440) rfl) rfl
set_option maxRecDepth 20000 in
theorem tw_441 : Cond.fieldLink R_Ref 38 "SettingSearchModel" "isKept" "[Z" ∈ lw_g := lw_g_of (List.mem_of_getElem? (i := 441) rfl) rfl
set_option maxRecDepth 20000 in
theorem tw_442 : Cond.fieldLink R_Ref 42 "SettingSearchModel" "came" "[I" ∈ lw_g := lw_g_of (List.mem_of_getElem? (i := 442) rfl) rfl
set_option maxRecDepth 20000 in
theorem tw_443 : Cond.fieldLink R_Ref 45 "SettingSearchModel" "loads" "[I" ∈ lw_g := lw_g_of (List.mem_of_getElem? (i := 443) rfl) rfl
set_option maxRecDepth 20000 in
theorem tw_444 : Cond.fieldLink R_Ref 48 "SettingSearchModel" "feed" "I" ∈ lw_g := lw_g_of (List.mem_of_getElem? (i := 444) rfl) rfl
set_option maxRecDepth 20000 in
theorem tw_445 : Cond.fieldLink R_Ref 69 "SettingSearchModel" "goes" "Z" ∈ lw_g := lw_g_of (List.mem_of_getElem? (i := 445) rfl) rfl
set_option maxRecDepth 20000 in
theorem tw_446 : Cond.fieldLink R_Ref 78 "SettingSearchModel" "ended" "Z" ∈ lw_g := lw_g_of (List.mem_of_getElem? (i := 446) rfl) rfl
set_option maxRecDepth 20000 in
theorem tw_447 : Cond.fieldLink R_Ref 51 "SettingSearchModel" "order" "[I" ∈ lw_g := lw_g_of (List.mem_of_getElem? (i := 447) rfl) rfl
set_option maxRecDepth 20000 in
theorem tw_448 : Cond.fieldLink R_Ref 115 "SettingSearchModel" "place" "I" ∈ lw_g := lw_g_of (List.mem_of_getElem? (i := 448) rfl) rfl
set_option maxRecDepth 20000 in
theorem tw_449 : Cond.fieldLink R_Ref 54 "SettingSearchModel" "asks" "I" ∈ lw_g := lw_g_of (List.mem_of_getElem? (i := 449) rfl) rfl
set_option maxRecDepth 20000 in
theorem tw_450 : Cond.fieldLink R_Ref 57 "SettingSearchModel" "best" "I" ∈ lw_g := lw_g_of (List.mem_of_getElem? (i := 450) rfl) rfl
set_option maxRecDepth 20000 in
theorem tw_451 : Cond.fieldLink R_Ref 125 "SettingSearchModel" "bestWorth" "J" ∈ lw_g := lw_g_of (List.mem_of_getElem? (i := 451) rfl) rfl
set_option maxRecDepth 20000 in
theorem tw_499 : Cond.methodLink R_Law 17 y_Ref_machine ∈ lw_g := lw_g_of (List.mem_of_getElem? (i := 499) rfl) rfl
set_option maxRecDepth 20000 in
theorem tw_500 : Cond.instanceMethod y_Ref_machine ∈ lw_g := lw_g_of (List.mem_of_getElem? (i := 500) rfl) rfl
set_option maxRecDepth 20000 in
theorem tw_501 : Cond.selects R_Ref y_Ref_machine y_Ref_machine ∈ lw_g := lw_g_of (List.mem_of_getElem? (i := 501) rfl) rfl
set_option maxRecDepth 20000 in
theorem tw_502 : Cond.code y_Ref_machine b_Ref_machine 3 (some .int) ∈ lw_g := lw_g_of (List.mem_of_getElem? (i := 502) rfl) rfl
set_option maxRecDepth 20000 in
theorem tw_503 : Cond.constantLong R_Ref 73 (4) ∈ lw_g := lw_g_of (List.mem_of_getElem? (i := 503) rfl) rfl
set_option maxRecDepth 20000 in
theorem tw_504 : Cond.methodLink R_Ref 65 y_Ref_isIn ∈ lw_g := lw_g_of (List.mem_of_getElem? (i := 504) rfl) rfl
set_option maxRecDepth 20000 in
theorem tw_505 : Cond.static y_Ref_isIn ∈ lw_g := lw_g_of (List.mem_of_getElem? (i := 505) rfl) rfl
set_option maxRecDepth 20000 in
theorem tw_506 : Cond.code y_Ref_isIn b_Ref_isIn 6 (some .boolean) ∈ lw_g := lw_g_of (List.mem_of_getElem? (i := 506) rfl) rfl
set_option maxRecDepth 20000 in
theorem tw_507 : Cond.methodLink R_Law 22 y_Ref_worth ∈ lw_g := lw_g_of (List.mem_of_getElem? (i := 507) rfl) rfl
set_option maxRecDepth 20000 in
theorem tw_508 : Cond.instanceMethod y_Ref_worth ∈ lw_g := lw_g_of (List.mem_of_getElem? (i := 508) rfl) rfl
set_option maxRecDepth 20000 in
theorem tw_509 : Cond.selects R_Ref y_Ref_worth y_Ref_worth ∈ lw_g := lw_g_of (List.mem_of_getElem? (i := 509) rfl) rfl
set_option maxRecDepth 20000 in
theorem tw_510 : Cond.code y_Ref_worth b_Ref_worth 4 (some .boolean) ∈ lw_g := lw_g_of (List.mem_of_getElem? (i := 510) rfl) rfl
set_option maxRecDepth 20000 in
theorem tw_511 : Cond.methodLink R_Ref 81 y_Ref_isCell ∈ lw_g := lw_g_of (List.mem_of_getElem? (i := 511) rfl) rfl
set_option maxRecDepth 20000 in
theorem tw_512 : Cond.static y_Ref_isCell ∈ lw_g := lw_g_of (List.mem_of_getElem? (i := 512) rfl) rfl
set_option maxRecDepth 20000 in
theorem tw_513 : Cond.code y_Ref_isCell b_Ref_isCell 2 (some .boolean) ∈ lw_g := lw_g_of (List.mem_of_getElem? (i := 513) rfl) rfl
set_option maxRecDepth 20000 in
theorem tw_514 : Cond.constantLong R_Ref 63 (2) ∈ lw_g := lw_g_of (List.mem_of_getElem? (i := 514) rfl) rfl
set_option maxRecDepth 20000 in
theorem tw_515 : Cond.constantLong R_Ref 85 (-1000) ∈ lw_g := lw_g_of (List.mem_of_getElem? (i := 515) rfl) rfl
set_option maxRecDepth 20000 in
theorem tw_516 : Cond.constantLong R_Ref 87 (1000) ∈ lw_g := lw_g_of (List.mem_of_getElem? (i := 516) rfl) rfl
set_option maxRecDepth 20000 in
theorem tw_517 : Cond.methodLink R_Law 27 y_Ref_purity ∈ lw_g := lw_g_of (List.mem_of_getElem? (i := 517) rfl) rfl
set_option maxRecDepth 20000 in
theorem tw_518 : Cond.instanceMethod y_Ref_purity ∈ lw_g := lw_g_of (List.mem_of_getElem? (i := 518) rfl) rfl
set_option maxRecDepth 20000 in
theorem tw_519 : Cond.selects R_Ref y_Ref_purity y_Ref_purity ∈ lw_g := lw_g_of (List.mem_of_getElem? (i := 519) rfl) rfl
set_option maxRecDepth 20000 in
theorem tw_520 : Cond.code y_Ref_purity b_Ref_purity 5 (some .int) ∈ lw_g := lw_g_of (List.mem_of_getElem? (i := 520) rfl) rfl
set_option maxRecDepth 20000 in
theorem tw_521 : Cond.methodLink R_Law 32 y_Ref_most ∈ lw_g := lw_g_of (List.mem_of_getElem? (i := 521) rfl) rfl
set_option maxRecDepth 20000 in
theorem tw_522 : Cond.instanceMethod y_Ref_most ∈ lw_g := lw_g_of (List.mem_of_getElem? (i := 522) rfl) rfl
set_option maxRecDepth 20000 in
theorem tw_523 : Cond.selects R_Ref y_Ref_most y_Ref_most ∈ lw_g := lw_g_of (List.mem_of_getElem? (i := 523) rfl) rfl
set_option maxRecDepth 20000 in
theorem tw_524 : Cond.code y_Ref_most b_Ref_most 3 (some .boolean) ∈ lw_g := lw_g_of (List.mem_of_getElem? (i := 524) rfl) rfl
set_option maxRecDepth 20000 in
theorem tw_525 : Cond.methodLink R_Ref 92 y_Ref_isMachine ∈ lw_g := lw_g_of (List.mem_of_getElem? (i := 525) rfl) rfl
set_option maxRecDepth 20000 in
theorem tw_527 : Cond.instanceMethod y_Ref_isMachine ∈ lw_g := lw_g_of (List.mem_of_getElem? (i := 527) rfl) rfl
set_option maxRecDepth 20000 in
theorem tw_528 : Cond.code y_Ref_isMachine b_Ref_isMachine 2 (some .boolean) ∈ lw_g := lw_g_of (List.mem_of_getElem? (i := 528) rfl) rfl
set_option maxRecDepth 20000 in
theorem tw_529 : Cond.constantLong R_Ref 96 (-1) ∈ lw_g := lw_g_of (List.mem_of_getElem? (i := 529) rfl) rfl
set_option maxRecDepth 20000 in
theorem tw_530 : Cond.constantLong R_Ref 98 (1000000) ∈ lw_g := lw_g_of (List.mem_of_getElem? (i := 530) rfl) rfl
set_option maxRecDepth 20000 in
theorem tw_531 : Cond.methodLink R_Law 39 y_Ref_feed ∈ lw_g := lw_g_of (List.mem_of_getElem? (i := 531) rfl) rfl
set_option maxRecDepth 20000 in
theorem tw_532 : Cond.instanceMethod y_Ref_feed ∈ lw_g := lw_g_of (List.mem_of_getElem? (i := 532) rfl) rfl
set_option maxRecDepth 20000 in
theorem tw_533 : Cond.selects R_Ref y_Ref_feed y_Ref_feed ∈ lw_g := lw_g_of (List.mem_of_getElem? (i := 533) rfl) rfl
set_option maxRecDepth 20000 in
theorem tw_534 : Cond.code y_Ref_feed b_Ref_feed 6 (some .boolean) ∈ lw_g := lw_g_of (List.mem_of_getElem? (i := 534) rfl) rfl
set_option maxRecDepth 20000 in
theorem tw_535 : Cond.methodLink R_Ref 107 y_Ref_feedAt ∈ lw_g := lw_g_of (List.mem_of_getElem? (i := 535) rfl) rfl
set_option maxRecDepth 20000 in
theorem tw_537 : Cond.instanceMethod y_Ref_feedAt ∈ lw_g := lw_g_of (List.mem_of_getElem? (i := 537) rfl) rfl
set_option maxRecDepth 20000 in
theorem tw_538 : Cond.code y_Ref_feedAt b_Ref_feedAt 4 (some .int) ∈ lw_g := lw_g_of (List.mem_of_getElem? (i := 538) rfl) rfl
set_option maxRecDepth 20000 in
theorem tw_539 : Cond.methodLink R_Ref 111 y_Ref_changesOf ∈ lw_g := lw_g_of (List.mem_of_getElem? (i := 539) rfl) rfl
set_option maxRecDepth 20000 in
theorem tw_541 : Cond.instanceMethod y_Ref_changesOf ∈ lw_g := lw_g_of (List.mem_of_getElem? (i := 541) rfl) rfl
set_option maxRecDepth 20000 in
theorem tw_542 : Cond.code y_Ref_changesOf b_Ref_changesOf 4 (some .int) ∈ lw_g := lw_g_of (List.mem_of_getElem? (i := 542) rfl) rfl
set_option maxRecDepth 20000 in
theorem tw_543 : Cond.methodLink R_Ref 100 y_Ref_settingOf ∈ lw_g := lw_g_of (List.mem_of_getElem? (i := 543) rfl) rfl
set_option maxRecDepth 20000 in
theorem tw_545 : Cond.instanceMethod y_Ref_settingOf ∈ lw_g := lw_g_of (List.mem_of_getElem? (i := 545) rfl) rfl
set_option maxRecDepth 20000 in
theorem tw_546 : Cond.code y_Ref_settingOf b_Ref_settingOf 5 (some .int) ∈ lw_g := lw_g_of (List.mem_of_getElem? (i := 546) rfl) rfl
set_option maxRecDepth 20000 in
theorem tw_547 : Cond.methodLink R_Law 44 y_Ref_next ∈ lw_g := lw_g_of (List.mem_of_getElem? (i := 547) rfl) rfl
set_option maxRecDepth 20000 in
theorem tw_548 : Cond.instanceMethod y_Ref_next ∈ lw_g := lw_g_of (List.mem_of_getElem? (i := 548) rfl) rfl
set_option maxRecDepth 20000 in
theorem tw_549 : Cond.selects R_Ref y_Ref_next y_Ref_next ∈ lw_g := lw_g_of (List.mem_of_getElem? (i := 549) rfl) rfl
set_option maxRecDepth 20000 in
theorem tw_550 : Cond.code y_Ref_next b_Ref_next 4 (some .int) ∈ lw_g := lw_g_of (List.mem_of_getElem? (i := 550) rfl) rfl
set_option maxRecDepth 20000 in
theorem tw_551 : Cond.methodLink R_Ref 129 y_Ref_boundOf ∈ lw_g := lw_g_of (List.mem_of_getElem? (i := 551) rfl) rfl
set_option maxRecDepth 20000 in
theorem tw_553 : Cond.instanceMethod y_Ref_boundOf ∈ lw_g := lw_g_of (List.mem_of_getElem? (i := 553) rfl) rfl
set_option maxRecDepth 20000 in
theorem tw_554 : Cond.code y_Ref_boundOf b_Ref_boundOf 3 (some .long) ∈ lw_g := lw_g_of (List.mem_of_getElem? (i := 554) rfl) rfl
set_option maxRecDepth 20000 in
theorem tw_555 : Cond.methodLink R_Ref 133 y_Ref_look ∈ lw_g := lw_g_of (List.mem_of_getElem? (i := 555) rfl) rfl
set_option maxRecDepth 20000 in
theorem tw_557 : Cond.instanceMethod y_Ref_look ∈ lw_g := lw_g_of (List.mem_of_getElem? (i := 557) rfl) rfl
set_option maxRecDepth 20000 in
theorem tw_558 : Cond.code y_Ref_look b_Ref_look 3 none ∈ lw_g := lw_g_of (List.mem_of_getElem? (i := 558) rfl) rfl
set_option maxRecDepth 20000 in
theorem tw_559 : Cond.methodLink R_Ref 118 y_Ref_stands ∈ lw_g := lw_g_of (List.mem_of_getElem? (i := 559) rfl) rfl
set_option maxRecDepth 20000 in
theorem tw_561 : Cond.instanceMethod y_Ref_stands ∈ lw_g := lw_g_of (List.mem_of_getElem? (i := 561) rfl) rfl
set_option maxRecDepth 20000 in
theorem tw_562 : Cond.code y_Ref_stands b_Ref_stands 5 (some .boolean) ∈ lw_g := lw_g_of (List.mem_of_getElem? (i := 562) rfl) rfl
set_option maxRecDepth 20000 in
theorem tw_563 : Cond.methodLink R_Ref 104 y_Ref_keeps ∈ lw_g := lw_g_of (List.mem_of_getElem? (i := 563) rfl) rfl
set_option maxRecDepth 20000 in
theorem tw_565 : Cond.instanceMethod y_Ref_keeps ∈ lw_g := lw_g_of (List.mem_of_getElem? (i := 565) rfl) rfl
set_option maxRecDepth 20000 in
theorem tw_566 : Cond.code y_Ref_keeps b_Ref_keeps 7 (some .boolean) ∈ lw_g := lw_g_of (List.mem_of_getElem? (i := 566) rfl) rfl
set_option maxRecDepth 20000 in
theorem tw_567 : Cond.methodLink R_Ref 121 y_Ref_worthOf ∈ lw_g := lw_g_of (List.mem_of_getElem? (i := 567) rfl) rfl
set_option maxRecDepth 20000 in
theorem tw_569 : Cond.instanceMethod y_Ref_worthOf ∈ lw_g := lw_g_of (List.mem_of_getElem? (i := 569) rfl) rfl
set_option maxRecDepth 20000 in
theorem tw_570 : Cond.code y_Ref_worthOf b_Ref_worthOf 5 (some .long) ∈ lw_g := lw_g_of (List.mem_of_getElem? (i := 570) rfl) rfl
set_option maxRecDepth 20000 in
theorem tw_571 : Cond.methodLink R_Law 48 y_Ref_asked ∈ lw_g := lw_g_of (List.mem_of_getElem? (i := 571) rfl) rfl
set_option maxRecDepth 20000 in
theorem tw_572 : Cond.instanceMethod y_Ref_asked ∈ lw_g := lw_g_of (List.mem_of_getElem? (i := 572) rfl) rfl
set_option maxRecDepth 20000 in
theorem tw_573 : Cond.selects R_Ref y_Ref_asked y_Ref_asked ∈ lw_g := lw_g_of (List.mem_of_getElem? (i := 573) rfl) rfl
set_option maxRecDepth 20000 in
theorem tw_574 : Cond.code y_Ref_asked b_Ref_asked 2 (some .int) ∈ lw_g := lw_g_of (List.mem_of_getElem? (i := 574) rfl) rfl
set_option maxRecDepth 20000 in
theorem tw_575 : Cond.methodLink R_Law 53 y_Ref_answer ∈ lw_g := lw_g_of (List.mem_of_getElem? (i := 575) rfl) rfl
set_option maxRecDepth 20000 in
theorem tw_576 : Cond.instanceMethod y_Ref_answer ∈ lw_g := lw_g_of (List.mem_of_getElem? (i := 576) rfl) rfl
set_option maxRecDepth 20000 in
theorem tw_577 : Cond.selects R_Ref y_Ref_answer y_Ref_answer ∈ lw_g := lw_g_of (List.mem_of_getElem? (i := 577) rfl) rfl
set_option maxRecDepth 20000 in
theorem tw_578 : Cond.code y_Ref_answer b_Ref_answer 10 (some .boolean) ∈ lw_g := lw_g_of (List.mem_of_getElem? (i := 578) rfl) rfl
set_option maxRecDepth 20000 in
theorem tw_579 : Cond.methodLink R_Law 57 y_Ref_load ∈ lw_g := lw_g_of (List.mem_of_getElem? (i := 579) rfl) rfl
set_option maxRecDepth 20000 in
theorem tw_580 : Cond.instanceMethod y_Ref_load ∈ lw_g := lw_g_of (List.mem_of_getElem? (i := 580) rfl) rfl
set_option maxRecDepth 20000 in
theorem tw_581 : Cond.selects R_Ref y_Ref_load y_Ref_load ∈ lw_g := lw_g_of (List.mem_of_getElem? (i := 581) rfl) rfl
set_option maxRecDepth 20000 in
theorem tw_582 : Cond.code y_Ref_load b_Ref_load 3 (some .boolean) ∈ lw_g := lw_g_of (List.mem_of_getElem? (i := 582) rfl) rfl
set_option maxRecDepth 20000 in
theorem tw_583 : Cond.methodLink R_Law 61 y_Ref_best ∈ lw_g := lw_g_of (List.mem_of_getElem? (i := 583) rfl) rfl
set_option maxRecDepth 20000 in
theorem tw_584 : Cond.instanceMethod y_Ref_best ∈ lw_g := lw_g_of (List.mem_of_getElem? (i := 584) rfl) rfl
set_option maxRecDepth 20000 in
theorem tw_585 : Cond.selects R_Ref y_Ref_best y_Ref_best ∈ lw_g := lw_g_of (List.mem_of_getElem? (i := 585) rfl) rfl
set_option maxRecDepth 20000 in
theorem tw_586 : Cond.code y_Ref_best b_Ref_best 2 (some .int) ∈ lw_g := lw_g_of (List.mem_of_getElem? (i := 586) rfl) rfl
set_option maxRecDepth 20000 in
theorem tw_587 : Cond.methodLink R_Law 66 y_Ref_sum ∈ lw_g := lw_g_of (List.mem_of_getElem? (i := 587) rfl) rfl
set_option maxRecDepth 20000 in
theorem tw_588 : Cond.instanceMethod y_Ref_sum ∈ lw_g := lw_g_of (List.mem_of_getElem? (i := 588) rfl) rfl
set_option maxRecDepth 20000 in
theorem tw_589 : Cond.selects R_Ref y_Ref_sum y_Ref_sum ∈ lw_g := lw_g_of (List.mem_of_getElem? (i := 589) rfl) rfl
set_option maxRecDepth 20000 in
theorem tw_590 : Cond.code y_Ref_sum b_Ref_sum 1 (some .long) ∈ lw_g := lw_g_of (List.mem_of_getElem? (i := 590) rfl) rfl
set_option maxRecDepth 20000 in
theorem tw_591 : Cond.constantLong R_Ref 137 (-9223372036854775808) ∈ lw_g := lw_g_of (List.mem_of_getElem? (i := 591) rfl) rfl
set_option maxRecDepth 20000 in
theorem tw_592 : Cond.methodLink R_Law 70 y_Ref_bound ∈ lw_g := lw_g_of (List.mem_of_getElem? (i := 592) rfl) rfl
set_option maxRecDepth 20000 in
theorem tw_593 : Cond.instanceMethod y_Ref_bound ∈ lw_g := lw_g_of (List.mem_of_getElem? (i := 593) rfl) rfl
set_option maxRecDepth 20000 in
theorem tw_594 : Cond.selects R_Ref y_Ref_bound y_Ref_bound ∈ lw_g := lw_g_of (List.mem_of_getElem? (i := 594) rfl) rfl
set_option maxRecDepth 20000 in
theorem tw_595 : Cond.code y_Ref_bound b_Ref_bound 1 (some .long) ∈ lw_g := lw_g_of (List.mem_of_getElem? (i := 595) rfl) rfl
set_option maxRecDepth 20000 in
theorem tw_596 : Cond.methodLink R_Law 75 y_Ref_proved ∈ lw_g := lw_g_of (List.mem_of_getElem? (i := 596) rfl) rfl
set_option maxRecDepth 20000 in
theorem tw_597 : Cond.instanceMethod y_Ref_proved ∈ lw_g := lw_g_of (List.mem_of_getElem? (i := 597) rfl) rfl
set_option maxRecDepth 20000 in
theorem tw_598 : Cond.selects R_Ref y_Ref_proved y_Ref_proved ∈ lw_g := lw_g_of (List.mem_of_getElem? (i := 598) rfl) rfl
set_option maxRecDepth 20000 in
theorem tw_599 : Cond.code y_Ref_proved b_Ref_proved 1 (some .boolean) ∈ lw_g := lw_g_of (List.mem_of_getElem? (i := 599) rfl) rfl
set_option maxRecDepth 20000 in
theorem tw_600 : Cond.methodLink R_Law 79 y_Ref_changes ∈ lw_g := lw_g_of (List.mem_of_getElem? (i := 600) rfl) rfl
set_option maxRecDepth 20000 in
theorem tw_601 : Cond.instanceMethod y_Ref_changes ∈ lw_g := lw_g_of (List.mem_of_getElem? (i := 601) rfl) rfl
set_option maxRecDepth 20000 in
theorem tw_602 : Cond.selects R_Ref y_Ref_changes y_Ref_changes ∈ lw_g := lw_g_of (List.mem_of_getElem? (i := 602) rfl) rfl
set_option maxRecDepth 20000 in
theorem tw_603 : Cond.code y_Ref_changes b_Ref_changes 1 (some .int) ∈ lw_g := lw_g_of (List.mem_of_getElem? (i := 603) rfl) rfl
set_option maxRecDepth 20000 in
theorem tw_604 : Cond.methodLink R_Law 83 y_Ref_take ∈ lw_g := lw_g_of (List.mem_of_getElem? (i := 604) rfl) rfl
set_option maxRecDepth 20000 in
theorem tw_605 : Cond.instanceMethod y_Ref_take ∈ lw_g := lw_g_of (List.mem_of_getElem? (i := 605) rfl) rfl
set_option maxRecDepth 20000 in
theorem tw_606 : Cond.selects R_Ref y_Ref_take y_Ref_take ∈ lw_g := lw_g_of (List.mem_of_getElem? (i := 606) rfl) rfl
set_option maxRecDepth 20000 in
theorem tw_607 : Cond.code y_Ref_take b_Ref_take 3 (some .int) ∈ lw_g := lw_g_of (List.mem_of_getElem? (i := 607) rfl) rfl
set_option maxRecDepth 20000 in
theorem tw_608 : Cond.methodLink R_Law 88 y_Ref_kept ∈ lw_g := lw_g_of (List.mem_of_getElem? (i := 608) rfl) rfl
set_option maxRecDepth 20000 in
theorem tw_609 : Cond.instanceMethod y_Ref_kept ∈ lw_g := lw_g_of (List.mem_of_getElem? (i := 609) rfl) rfl
set_option maxRecDepth 20000 in
theorem tw_610 : Cond.selects R_Ref y_Ref_kept y_Ref_kept ∈ lw_g := lw_g_of (List.mem_of_getElem? (i := 610) rfl) rfl
set_option maxRecDepth 20000 in
theorem tw_611 : Cond.code y_Ref_kept b_Ref_kept 6 (some .int) ∈ lw_g := lw_g_of (List.mem_of_getElem? (i := 611) rfl) rfl
set_option maxRecDepth 20000 in
theorem tw_612 : Cond.methodLink R_Law 92 y_Ref_clash ∈ lw_g := lw_g_of (List.mem_of_getElem? (i := 612) rfl) rfl
set_option maxRecDepth 20000 in
theorem tw_613 : Cond.instanceMethod y_Ref_clash ∈ lw_g := lw_g_of (List.mem_of_getElem? (i := 613) rfl) rfl
set_option maxRecDepth 20000 in
theorem tw_614 : Cond.selects R_Ref y_Ref_clash y_Ref_clash ∈ lw_g := lw_g_of (List.mem_of_getElem? (i := 614) rfl) rfl
set_option maxRecDepth 20000 in
theorem tw_615 : Cond.code y_Ref_clash b_Ref_clash 6 (some .int) ∈ lw_g := lw_g_of (List.mem_of_getElem? (i := 615) rfl) rfl
set_option maxRecDepth 20000 in
theorem tw_616 : Cond.methodLink R_Ref 139 y_Ref_isTold ∈ lw_g := lw_g_of (List.mem_of_getElem? (i := 616) rfl) rfl
set_option maxRecDepth 20000 in
theorem tw_618 : Cond.instanceMethod y_Ref_isTold ∈ lw_g := lw_g_of (List.mem_of_getElem? (i := 618) rfl) rfl
set_option maxRecDepth 20000 in
theorem tw_619 : Cond.code y_Ref_isTold b_Ref_isTold 2 (some .boolean) ∈ lw_g := lw_g_of (List.mem_of_getElem? (i := 619) rfl) rfl
set_option maxRecDepth 20000 in
theorem tw_620 : Cond.methodLink R_Ref 142 y_Ref_sizeOf ∈ lw_g := lw_g_of (List.mem_of_getElem? (i := 620) rfl) rfl
set_option maxRecDepth 20000 in
theorem tw_621 : Cond.static y_Ref_sizeOf ∈ lw_g := lw_g_of (List.mem_of_getElem? (i := 621) rfl) rfl
set_option maxRecDepth 20000 in
theorem tw_622 : Cond.code y_Ref_sizeOf b_Ref_sizeOf 3 (some .int) ∈ lw_g := lw_g_of (List.mem_of_getElem? (i := 622) rfl) rfl
set_option maxRecDepth 20000 in
theorem tw_623 : Cond.methodLink R_Ref 145 y_Ref_canBeKept ∈ lw_g := lw_g_of (List.mem_of_getElem? (i := 623) rfl) rfl
set_option maxRecDepth 20000 in
theorem tw_625 : Cond.instanceMethod y_Ref_canBeKept ∈ lw_g := lw_g_of (List.mem_of_getElem? (i := 625) rfl) rfl
set_option maxRecDepth 20000 in
theorem tw_626 : Cond.code y_Ref_canBeKept b_Ref_canBeKept 5 (some .boolean) ∈ lw_g := lw_g_of (List.mem_of_getElem? (i := 626) rfl) rfl
set_option maxRecDepth 20000 in
theorem tw_627 : Cond.methodLink R_Law 97 y_Ref_room ∈ lw_g := lw_g_of (List.mem_of_getElem? (i := 627) rfl) rfl
set_option maxRecDepth 20000 in
theorem tw_628 : Cond.instanceMethod y_Ref_room ∈ lw_g := lw_g_of (List.mem_of_getElem? (i := 628) rfl) rfl
set_option maxRecDepth 20000 in
theorem tw_629 : Cond.selects R_Ref y_Ref_room y_Ref_room ∈ lw_g := lw_g_of (List.mem_of_getElem? (i := 629) rfl) rfl
set_option maxRecDepth 20000 in
theorem tw_630 : Cond.code y_Ref_room b_Ref_room 2 (some .long) ∈ lw_g := lw_g_of (List.mem_of_getElem? (i := 630) rfl) rfl
set_option maxRecDepth 20000 in
theorem tw_631 : Cond.methodLink R_Ref 148 y_Ref_greatest ∈ lw_g := lw_g_of (List.mem_of_getElem? (i := 631) rfl) rfl
set_option maxRecDepth 20000 in
theorem tw_633 : Cond.instanceMethod y_Ref_greatest ∈ lw_g := lw_g_of (List.mem_of_getElem? (i := 633) rfl) rfl
set_option maxRecDepth 20000 in
theorem tw_634 : Cond.code y_Ref_greatest b_Ref_greatest 6 (some .long) ∈ lw_g := lw_g_of (List.mem_of_getElem? (i := 634) rfl) rfl
set_option maxRecDepth 20000 in
theorem tw_635 : Cond.constantLong R_Law 33 (4294967295) ∈ lw_g := lw_g_of (List.mem_of_getElem? (i := 635) rfl) rfl
